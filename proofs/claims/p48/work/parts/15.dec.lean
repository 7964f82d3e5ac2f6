section PD5
theorem dX8_figureOfExporter_48 : decode cX8_figureOfExporter 48 = .ok (.ireturn, 1) := by decide +kernel
theorem dX8_figureOfExporter_49 : decode cX8_figureOfExporter 49 = .ok (.aload_n 1, 1) := by decide +kernel
theorem dX8_figureOfExporter_50 : decode cX8_figureOfExporter 50 = .ok (.getfield 148, 3) := by decide +kernel
theorem dX8_figureOfExporter_53 : decode cX8_figureOfExporter 53 = .ok (.ireturn, 1) := by decide +kernel
theorem dX8_figureOfExporter_54 : decode cX8_figureOfExporter 54 = .ok (.aload_n 0, 1) := by decide +kernel
theorem dX8_figureOfExporter_55 : decode cX8_figureOfExporter 55 = .ok (.aload_n 1, 1) := by decide +kernel
theorem dX8_figureOfExporter_56 : decode cX8_figureOfExporter 56 = .ok (.invokevirtual 553, 3) := by decide +kernel
theorem dX8_figureOfExporter_59 : decode cX8_figureOfExporter 59 = .ok (.ireturn, 1) := by decide +kernel
theorem dX8_figureOfExporter_60 : decode cX8_figureOfExporter 60 = .ok (.aload_n 0, 1) := by decide +kernel
theorem dX8_figureOfExporter_61 : decode cX8_figureOfExporter 61 = .ok (.aload_n 1, 1) := by decide +kernel
theorem dX8_figureOfExporter_62 : decode cX8_figureOfExporter 62 = .ok (.invokevirtual 557, 3) := by decide +kernel
theorem dX8_figureOfExporter_65 : decode cX8_figureOfExporter 65 = .ok (.ireturn, 1) := by decide +kernel
theorem dX8_figureOfExporter_66 : decode cX8_figureOfExporter 66 = .ok (.aload_n 0, 1) := by decide +kernel
theorem dX8_figureOfExporter_67 : decode cX8_figureOfExporter 67 = .ok (.aload_n 1, 1) := by decide +kernel
theorem dX8_figureOfExporter_68 : decode cX8_figureOfExporter 68 = .ok (.invokevirtual 377, 3) := by decide +kernel
theorem dX8_figureOfExporter_71 : decode cX8_figureOfExporter 71 = .ok (.ifCond .eq 7, 3) := by decide +kernel
theorem dX8_figureOfExporter_74 : decode cX8_figureOfExporter 74 = .ok (.iconst 1, 1) := by decide +kernel
theorem dX8_figureOfExporter_75 : decode cX8_figureOfExporter 75 = .ok (.goto 4, 3) := by decide +kernel
theorem dX8_figureOfExporter_78 : decode cX8_figureOfExporter 78 = .ok (.iconst 0, 1) := by decide +kernel
theorem dX8_figureOfExporter_79 : decode cX8_figureOfExporter 79 = .ok (.ireturn, 1) := by decide +kernel
theorem dX8_countOfRunningPolicies_0 : decode cX8_countOfRunningPolicies 0 = .ok (.iconst 0, 1) := by decide +kernel
theorem dX8_countOfRunningPolicies_1 : decode cX8_countOfRunningPolicies 1 = .ok (.istore_n 2, 1) := by decide +kernel
theorem dX8_countOfRunningPolicies_2 : decode cX8_countOfRunningPolicies 2 = .ok (.iconst 0, 1) := by decide +kernel
theorem dX8_countOfRunningPolicies_3 : decode cX8_countOfRunningPolicies 3 = .ok (.istore_n 3, 1) := by decide +kernel
theorem dX8_countOfRunningPolicies_4 : decode cX8_countOfRunningPolicies 4 = .ok (.iload_n 3, 1) := by decide +kernel
theorem dX8_countOfRunningPolicies_5 : decode cX8_countOfRunningPolicies 5 = .ok (.aload_n 0, 1) := by decide +kernel
theorem dX8_countOfRunningPolicies_6 : decode cX8_countOfRunningPolicies 6 = .ok (.getfield 22, 3) := by decide +kernel
theorem dX8_countOfRunningPolicies_9 : decode cX8_countOfRunningPolicies 9 = .ok (.invokevirtual 89, 3) := by decide +kernel
theorem dX8_countOfRunningPolicies_12 : decode cX8_countOfRunningPolicies 12 = .ok (.if_icmp .ge 42, 3) := by decide +kernel
theorem dX8_countOfRunningPolicies_15 : decode cX8_countOfRunningPolicies 15 = .ok (.aload_n 0, 1) := by decide +kernel
theorem dX8_countOfRunningPolicies_16 : decode cX8_countOfRunningPolicies 16 = .ok (.getfield 22, 3) := by decide +kernel
theorem dX8_countOfRunningPolicies_19 : decode cX8_countOfRunningPolicies 19 = .ok (.iload_n 3, 1) := by decide +kernel
theorem dX8_countOfRunningPolicies_20 : decode cX8_countOfRunningPolicies 20 = .ok (.invokevirtual 306, 3) := by decide +kernel
theorem dX8_countOfRunningPolicies_23 : decode cX8_countOfRunningPolicies 23 = .ok (.checkcast 167, 3) := by decide +kernel
theorem dX8_countOfRunningPolicies_26 : decode cX8_countOfRunningPolicies 26 = .ok (.astore 4, 2) := by decide +kernel
theorem dX8_countOfRunningPolicies_28 : decode cX8_countOfRunningPolicies 28 = .ok (.aload 4, 2) := by decide +kernel
theorem dX8_countOfRunningPolicies_30 : decode cX8_countOfRunningPolicies 30 = .ok (.getfield 224, 3) := by decide +kernel
theorem dX8_countOfRunningPolicies_33 : decode cX8_countOfRunningPolicies 33 = .ok (.aload_n 1, 1) := by decide +kernel
theorem dX8_countOfRunningPolicies_34 : decode cX8_countOfRunningPolicies 34 = .ok (.if_acmp .ne 14, 3) := by decide +kernel
theorem dX8_countOfRunningPolicies_37 : decode cX8_countOfRunningPolicies 37 = .ok (.aload 4, 2) := by decide +kernel
theorem dX8_countOfRunningPolicies_39 : decode cX8_countOfRunningPolicies 39 = .ok (.getfield 181, 3) := by decide +kernel
theorem dX8_countOfRunningPolicies_42 : decode cX8_countOfRunningPolicies 42 = .ok (.ifCond .ne 6, 3) := by decide +kernel
theorem dX8_countOfRunningPolicies_45 : decode cX8_countOfRunningPolicies 45 = .ok (.iinc 2 1, 3) := by decide +kernel
theorem dX8_countOfRunningPolicies_48 : decode cX8_countOfRunningPolicies 48 = .ok (.iinc 3 1, 3) := by decide +kernel
theorem dX8_countOfRunningPolicies_51 : decode cX8_countOfRunningPolicies 51 = .ok (.goto (-47), 3) := by decide +kernel
theorem dX8_countOfRunningPolicies_54 : decode cX8_countOfRunningPolicies 54 = .ok (.iload_n 2, 1) := by decide +kernel
theorem dX8_countOfRunningPolicies_55 : decode cX8_countOfRunningPolicies 55 = .ok (.ireturn, 1) := by decide +kernel
theorem dX8_countOfShipmentsBy_0 : decode cX8_countOfShipmentsBy 0 = .ok (.iconst 0, 1) := by decide +kernel
theorem dX8_countOfShipmentsBy_1 : decode cX8_countOfShipmentsBy 1 = .ok (.istore_n 2, 1) := by decide +kernel
theorem dX8_countOfShipmentsBy_2 : decode cX8_countOfShipmentsBy 2 = .ok (.iconst 0, 1) := by decide +kernel
theorem dX8_countOfShipmentsBy_3 : decode cX8_countOfShipmentsBy 3 = .ok (.istore_n 3, 1) := by decide +kernel
theorem dX8_countOfShipmentsBy_4 : decode cX8_countOfShipmentsBy 4 = .ok (.iload_n 3, 1) := by decide +kernel
theorem dX8_countOfShipmentsBy_5 : decode cX8_countOfShipmentsBy 5 = .ok (.aload_n 0, 1) := by decide +kernel
theorem dX8_countOfShipmentsBy_6 : decode cX8_countOfShipmentsBy 6 = .ok (.getfield 25, 3) := by decide +kernel
theorem dX8_countOfShipmentsBy_9 : decode cX8_countOfShipmentsBy 9 = .ok (.invokevirtual 89, 3) := by decide +kernel
theorem dX8_countOfShipmentsBy_12 : decode cX8_countOfShipmentsBy 12 = .ok (.if_icmp .ge 33, 3) := by decide +kernel
theorem dX8_countOfShipmentsBy_15 : decode cX8_countOfShipmentsBy 15 = .ok (.aload_n 0, 1) := by decide +kernel
theorem dX8_countOfShipmentsBy_16 : decode cX8_countOfShipmentsBy 16 = .ok (.getfield 25, 3) := by decide +kernel
theorem dX8_countOfShipmentsBy_19 : decode cX8_countOfShipmentsBy 19 = .ok (.iload_n 3, 1) := by decide +kernel
theorem dX8_countOfShipmentsBy_20 : decode cX8_countOfShipmentsBy 20 = .ok (.invokevirtual 306, 3) := by decide +kernel
theorem dX8_countOfShipmentsBy_23 : decode cX8_countOfShipmentsBy 23 = .ok (.checkcast 201, 3) := by decide +kernel
theorem dX8_countOfShipmentsBy_26 : decode cX8_countOfShipmentsBy 26 = .ok (.getfield 274, 3) := by decide +kernel
theorem dX8_countOfShipmentsBy_29 : decode cX8_countOfShipmentsBy 29 = .ok (.getfield 224, 3) := by decide +kernel
theorem dX8_countOfShipmentsBy_32 : decode cX8_countOfShipmentsBy 32 = .ok (.aload_n 1, 1) := by decide +kernel
theorem dX8_countOfShipmentsBy_33 : decode cX8_countOfShipmentsBy 33 = .ok (.if_acmp .ne 6, 3) := by decide +kernel
theorem dX8_countOfShipmentsBy_36 : decode cX8_countOfShipmentsBy 36 = .ok (.iinc 2 1, 3) := by decide +kernel
theorem dX8_countOfShipmentsBy_39 : decode cX8_countOfShipmentsBy 39 = .ok (.iinc 3 1, 3) := by decide +kernel
theorem dX8_countOfShipmentsBy_42 : decode cX8_countOfShipmentsBy 42 = .ok (.goto (-38), 3) := by decide +kernel
theorem dX8_countOfShipmentsBy_45 : decode cX8_countOfShipmentsBy 45 = .ok (.iload_n 2, 1) := by decide +kernel
theorem dX8_countOfShipmentsBy_46 : decode cX8_countOfShipmentsBy 46 = .ok (.ireturn, 1) := by decide +kernel
theorem dX8_figureOfPolicy_0 : decode cX8_figureOfPolicy 0 = .ok (.iload_n 2, 1) := by decide +kernel
theorem dX8_figureOfPolicy_1 : decode cX8_figureOfPolicy 1 = .ok (.tableswitch 81 0 5 #[39, 47, 52, 57, 62, 75], 39) := by decide +kernel
theorem dX8_figureOfPolicy_40 : decode cX8_figureOfPolicy 40 = .ok (.aload_n 1, 1) := by decide +kernel
theorem dX8_figureOfPolicy_41 : decode cX8_figureOfPolicy 41 = .ok (.getfield 224, 3) := by decide +kernel
theorem dX8_figureOfPolicy_44 : decode cX8_figureOfPolicy 44 = .ok (.getfield 138, 3) := by decide +kernel
theorem dX8_figureOfPolicy_47 : decode cX8_figureOfPolicy 47 = .ok (.ireturn, 1) := by decide +kernel
theorem dX8_figureOfPolicy_48 : decode cX8_figureOfPolicy 48 = .ok (.aload_n 1, 1) := by decide +kernel
theorem dX8_figureOfPolicy_49 : decode cX8_figureOfPolicy 49 = .ok (.getfield 278, 3) := by decide +kernel
theorem dX8_figureOfPolicy_52 : decode cX8_figureOfPolicy 52 = .ok (.ireturn, 1) := by decide +kernel
theorem dX8_figureOfPolicy_53 : decode cX8_figureOfPolicy 53 = .ok (.aload_n 1, 1) := by decide +kernel
theorem dX8_figureOfPolicy_54 : decode cX8_figureOfPolicy 54 = .ok (.getfield 293, 3) := by decide +kernel
theorem dX8_figureOfPolicy_57 : decode cX8_figureOfPolicy 57 = .ok (.ireturn, 1) := by decide +kernel
theorem dX8_figureOfPolicy_58 : decode cX8_figureOfPolicy 58 = .ok (.aload_n 1, 1) := by decide +kernel
theorem dX8_figureOfPolicy_59 : decode cX8_figureOfPolicy 59 = .ok (.getfield 281, 3) := by decide +kernel
theorem dX8_figureOfPolicy_62 : decode cX8_figureOfPolicy 62 = .ok (.ireturn, 1) := by decide +kernel
theorem dX8_figureOfPolicy_63 : decode cX8_figureOfPolicy 63 = .ok (.aload_n 1, 1) := by decide +kernel
theorem dX8_figureOfPolicy_64 : decode cX8_figureOfPolicy 64 = .ok (.getfield 181, 3) := by decide +kernel
theorem dX8_figureOfPolicy_67 : decode cX8_figureOfPolicy 67 = .ok (.ifCond .eq 7, 3) := by decide +kernel
theorem dX8_figureOfPolicy_70 : decode cX8_figureOfPolicy 70 = .ok (.iconst 1, 1) := by decide +kernel
theorem dX8_figureOfPolicy_71 : decode cX8_figureOfPolicy 71 = .ok (.goto 4, 3) := by decide +kernel
theorem dX8_figureOfPolicy_74 : decode cX8_figureOfPolicy 74 = .ok (.iconst 0, 1) := by decide +kernel
theorem dX8_figureOfPolicy_75 : decode cX8_figureOfPolicy 75 = .ok (.ireturn, 1) := by decide +kernel
theorem dX8_figureOfPolicy_76 : decode cX8_figureOfPolicy 76 = .ok (.aload_n 0, 1) := by decide +kernel
theorem dX8_figureOfPolicy_77 : decode cX8_figureOfPolicy 77 = .ok (.aload_n 1, 1) := by decide +kernel
theorem dX8_figureOfPolicy_78 : decode cX8_figureOfPolicy 78 = .ok (.invokevirtual 560, 3) := by decide +kernel
theorem dX8_figureOfPolicy_81 : decode cX8_figureOfPolicy 81 = .ok (.ireturn, 1) := by decide +kernel
theorem dX8_figureOfPolicy_82 : decode cX8_figureOfPolicy 82 = .ok (.aload_n 0, 1) := by decide +kernel
theorem dX8_figureOfPolicy_83 : decode cX8_figureOfPolicy 83 = .ok (.aload_n 1, 1) := by decide +kernel
theorem dX8_figureOfPolicy_84 : decode cX8_figureOfPolicy 84 = .ok (.invokevirtual 564, 3) := by decide +kernel
theorem dX8_figureOfPolicy_87 : decode cX8_figureOfPolicy 87 = .ok (.ireturn, 1) := by decide +kernel
theorem dX8_countOfShipmentsUnder_0 : decode cX8_countOfShipmentsUnder 0 = .ok (.iconst 0, 1) := by decide +kernel
theorem dX8_countOfShipmentsUnder_1 : decode cX8_countOfShipmentsUnder 1 = .ok (.istore_n 2, 1) := by decide +kernel
theorem dX8_countOfShipmentsUnder_2 : decode cX8_countOfShipmentsUnder 2 = .ok (.iconst 0, 1) := by decide +kernel
theorem dX8_countOfShipmentsUnder_3 : decode cX8_countOfShipmentsUnder 3 = .ok (.istore_n 3, 1) := by decide +kernel
theorem dX8_countOfShipmentsUnder_4 : decode cX8_countOfShipmentsUnder 4 = .ok (.iload_n 3, 1) := by decide +kernel
theorem dX8_countOfShipmentsUnder_5 : decode cX8_countOfShipmentsUnder 5 = .ok (.aload_n 0, 1) := by decide +kernel
theorem dX8_countOfShipmentsUnder_6 : decode cX8_countOfShipmentsUnder 6 = .ok (.getfield 25, 3) := by decide +kernel
theorem dX8_countOfShipmentsUnder_9 : decode cX8_countOfShipmentsUnder 9 = .ok (.invokevirtual 89, 3) := by decide +kernel
theorem dX8_countOfShipmentsUnder_12 : decode cX8_countOfShipmentsUnder 12 = .ok (.if_icmp .ge 30, 3) := by decide +kernel
theorem dX8_countOfShipmentsUnder_15 : decode cX8_countOfShipmentsUnder 15 = .ok (.aload_n 0, 1) := by decide +kernel
theorem dX8_countOfShipmentsUnder_16 : decode cX8_countOfShipmentsUnder 16 = .ok (.getfield 25, 3) := by decide +kernel
theorem dX8_countOfShipmentsUnder_19 : decode cX8_countOfShipmentsUnder 19 = .ok (.iload_n 3, 1) := by decide +kernel
theorem dX8_countOfShipmentsUnder_20 : decode cX8_countOfShipmentsUnder 20 = .ok (.invokevirtual 306, 3) := by decide +kernel
theorem dX8_countOfShipmentsUnder_23 : decode cX8_countOfShipmentsUnder 23 = .ok (.checkcast 201, 3) := by decide +kernel
theorem dX8_countOfShipmentsUnder_26 : decode cX8_countOfShipmentsUnder 26 = .ok (.getfield 274, 3) := by decide +kernel
theorem dX8_countOfShipmentsUnder_29 : decode cX8_countOfShipmentsUnder 29 = .ok (.aload_n 1, 1) := by decide +kernel
theorem dX8_countOfShipmentsUnder_30 : decode cX8_countOfShipmentsUnder 30 = .ok (.if_acmp .ne 6, 3) := by decide +kernel
theorem dX8_countOfShipmentsUnder_33 : decode cX8_countOfShipmentsUnder 33 = .ok (.iinc 2 1, 3) := by decide +kernel
theorem dX8_countOfShipmentsUnder_36 : decode cX8_countOfShipmentsUnder 36 = .ok (.iinc 3 1, 3) := by decide +kernel
theorem dX8_countOfShipmentsUnder_39 : decode cX8_countOfShipmentsUnder 39 = .ok (.goto (-35), 3) := by decide +kernel
theorem dX8_countOfShipmentsUnder_42 : decode cX8_countOfShipmentsUnder 42 = .ok (.iload_n 2, 1) := by decide +kernel
theorem dX8_countOfShipmentsUnder_43 : decode cX8_countOfShipmentsUnder 43 = .ok (.ireturn, 1) := by decide +kernel
theorem dX8_premiumsUnder_0 : decode cX8_premiumsUnder 0 = .ok (.iconst 0, 1) := by decide +kernel
theorem dX8_premiumsUnder_1 : decode cX8_premiumsUnder 1 = .ok (.istore_n 2, 1) := by decide +kernel
theorem dX8_premiumsUnder_2 : decode cX8_premiumsUnder 2 = .ok (.iconst 0, 1) := by decide +kernel
theorem dX8_premiumsUnder_3 : decode cX8_premiumsUnder 3 = .ok (.istore_n 3, 1) := by decide +kernel
theorem dX8_premiumsUnder_4 : decode cX8_premiumsUnder 4 = .ok (.iload_n 3, 1) := by decide +kernel
theorem dX8_premiumsUnder_5 : decode cX8_premiumsUnder 5 = .ok (.aload_n 0, 1) := by decide +kernel
theorem dX8_premiumsUnder_6 : decode cX8_premiumsUnder 6 = .ok (.getfield 25, 3) := by decide +kernel
theorem dX8_premiumsUnder_9 : decode cX8_premiumsUnder 9 = .ok (.invokevirtual 89, 3) := by decide +kernel
theorem dX8_premiumsUnder_12 : decode cX8_premiumsUnder 12 = .ok (.if_icmp .ge 39, 3) := by decide +kernel
theorem dX8_premiumsUnder_15 : decode cX8_premiumsUnder 15 = .ok (.aload_n 0, 1) := by decide +kernel
theorem dX8_premiumsUnder_16 : decode cX8_premiumsUnder 16 = .ok (.getfield 25, 3) := by decide +kernel
theorem dX8_premiumsUnder_19 : decode cX8_premiumsUnder 19 = .ok (.iload_n 3, 1) := by decide +kernel
theorem dX8_premiumsUnder_20 : decode cX8_premiumsUnder 20 = .ok (.invokevirtual 306, 3) := by decide +kernel
theorem dX8_premiumsUnder_23 : decode cX8_premiumsUnder 23 = .ok (.checkcast 201, 3) := by decide +kernel
theorem dX8_premiumsUnder_26 : decode cX8_premiumsUnder 26 = .ok (.astore 4, 2) := by decide +kernel
theorem dX8_premiumsUnder_28 : decode cX8_premiumsUnder 28 = .ok (.aload 4, 2) := by decide +kernel
theorem dX8_premiumsUnder_30 : decode cX8_premiumsUnder 30 = .ok (.getfield 274, 3) := by decide +kernel
theorem dX8_premiumsUnder_33 : decode cX8_premiumsUnder 33 = .ok (.aload_n 1, 1) := by decide +kernel
theorem dX8_premiumsUnder_34 : decode cX8_premiumsUnder 34 = .ok (.if_acmp .ne 11, 3) := by decide +kernel
theorem dX8_premiumsUnder_37 : decode cX8_premiumsUnder 37 = .ok (.iload_n 2, 1) := by decide +kernel
theorem dX8_premiumsUnder_38 : decode cX8_premiumsUnder 38 = .ok (.aload 4, 2) := by decide +kernel
theorem dX8_premiumsUnder_40 : decode cX8_premiumsUnder 40 = .ok (.getfield 503, 3) := by decide +kernel
theorem dX8_premiumsUnder_43 : decode cX8_premiumsUnder 43 = .ok (.iadd, 1) := by decide +kernel
theorem dX8_premiumsUnder_44 : decode cX8_premiumsUnder 44 = .ok (.istore_n 2, 1) := by decide +kernel
theorem dX8_premiumsUnder_45 : decode cX8_premiumsUnder 45 = .ok (.iinc 3 1, 3) := by decide +kernel
theorem dX8_premiumsUnder_48 : decode cX8_premiumsUnder 48 = .ok (.goto (-44), 3) := by decide +kernel
theorem dX8_premiumsUnder_51 : decode cX8_premiumsUnder 51 = .ok (.iload_n 2, 1) := by decide +kernel
theorem dX8_premiumsUnder_52 : decode cX8_premiumsUnder 52 = .ok (.ireturn, 1) := by decide +kernel
theorem dX8_figureOfShipment_0 : decode cX8_figureOfShipment 0 = .ok (.aload_n 1, 1) := by decide +kernel
theorem dX8_figureOfShipment_1 : decode cX8_figureOfShipment 1 = .ok (.getfield 288, 3) := by decide +kernel
theorem dX8_figureOfShipment_4 : decode cX8_figureOfShipment 4 = .ok (.astore_n 3, 1) := by decide +kernel
theorem dX8_figureOfShipment_5 : decode cX8_figureOfShipment 5 = .ok (.aload_n 1, 1) := by decide +kernel
theorem dX8_figureOfShipment_6 : decode cX8_figureOfShipment 6 = .ok (.getfield 527, 3) := by decide +kernel
theorem dX8_figureOfShipment_9 : decode cX8_figureOfShipment 9 = .ok (.astore 4, 2) := by decide +kernel
theorem dX8_figureOfShipment_11 : decode cX8_figureOfShipment 11 = .ok (.iload_n 2, 1) := by decide +kernel
theorem dX8_figureOfShipment_12 : decode cX8_figureOfShipment 12 = .ok (.tableswitch 204 0 15 #[80, 88, 96, 101, 106, 111, 116, 121, 126, 131, 136, 145, 150, 163, 176, 189], 80) := by decide +kernel
theorem dX8_figureOfShipment_92 : decode cX8_figureOfShipment 92 = .ok (.aload_n 1, 1) := by decide +kernel
theorem dX8_figureOfShipment_93 : decode cX8_figureOfShipment 93 = .ok (.getfield 274, 3) := by decide +kernel
theorem dX8_figureOfShipment_96 : decode cX8_figureOfShipment 96 = .ok (.getfield 176, 3) := by decide +kernel
theorem dX8_figureOfShipment_99 : decode cX8_figureOfShipment 99 = .ok (.ireturn, 1) := by decide +kernel
theorem dX8_figureOfShipment_100 : decode cX8_figureOfShipment 100 = .ok (.aload_n 1, 1) := by decide +kernel
theorem dX8_figureOfShipment_101 : decode cX8_figureOfShipment 101 = .ok (.getfield 310, 3) := by decide +kernel
theorem dX8_figureOfShipment_104 : decode cX8_figureOfShipment 104 = .ok (.getfield 123, 3) := by decide +kernel
theorem dX8_figureOfShipment_107 : decode cX8_figureOfShipment 107 = .ok (.ireturn, 1) := by decide +kernel
theorem dX8_figureOfShipment_108 : decode cX8_figureOfShipment 108 = .ok (.aload_n 1, 1) := by decide +kernel
theorem dX8_figureOfShipment_109 : decode cX8_figureOfShipment 109 = .ok (.getfield 567, 3) := by decide +kernel
theorem dX8_figureOfShipment_112 : decode cX8_figureOfShipment 112 = .ok (.ireturn, 1) := by decide +kernel
theorem dX8_figureOfShipment_113 : decode cX8_figureOfShipment 113 = .ok (.aload_n 1, 1) := by decide +kernel
theorem dX8_figureOfShipment_114 : decode cX8_figureOfShipment 114 = .ok (.getfield 570, 3) := by decide +kernel
theorem dX8_figureOfShipment_117 : decode cX8_figureOfShipment 117 = .ok (.ireturn, 1) := by decide +kernel
theorem dX8_figureOfShipment_118 : decode cX8_figureOfShipment 118 = .ok (.aload_n 1, 1) := by decide +kernel
theorem dX8_figureOfShipment_119 : decode cX8_figureOfShipment 119 = .ok (.getfield 253, 3) := by decide +kernel
theorem dX8_figureOfShipment_122 : decode cX8_figureOfShipment 122 = .ok (.ireturn, 1) := by decide +kernel
theorem dX8_figureOfShipment_123 : decode cX8_figureOfShipment 123 = .ok (.aload_n 1, 1) := by decide +kernel
theorem dX8_figureOfShipment_124 : decode cX8_figureOfShipment 124 = .ok (.getfield 242, 3) := by decide +kernel
theorem dX8_figureOfShipment_127 : decode cX8_figureOfShipment 127 = .ok (.ireturn, 1) := by decide +kernel
theorem dX8_figureOfShipment_128 : decode cX8_figureOfShipment 128 = .ok (.aload_n 1, 1) := by decide +kernel
theorem dX8_figureOfShipment_129 : decode cX8_figureOfShipment 129 = .ok (.getfield 268, 3) := by decide +kernel
theorem dX8_figureOfShipment_132 : decode cX8_figureOfShipment 132 = .ok (.ireturn, 1) := by decide +kernel
theorem dX8_figureOfShipment_133 : decode cX8_figureOfShipment 133 = .ok (.aload_n 1, 1) := by decide +kernel
theorem dX8_figureOfShipment_134 : decode cX8_figureOfShipment 134 = .ok (.getfield 573, 3) := by decide +kernel
theorem dX8_figureOfShipment_137 : decode cX8_figureOfShipment 137 = .ok (.ireturn, 1) := by decide +kernel
theorem dX8_figureOfShipment_138 : decode cX8_figureOfShipment 138 = .ok (.aload_n 1, 1) := by decide +kernel
theorem dX8_figureOfShipment_139 : decode cX8_figureOfShipment 139 = .ok (.getfield 576, 3) := by decide +kernel
theorem dX8_figureOfShipment_142 : decode cX8_figureOfShipment 142 = .ok (.ireturn, 1) := by decide +kernel
theorem dX8_figureOfShipment_143 : decode cX8_figureOfShipment 143 = .ok (.aload_n 1, 1) := by decide +kernel
theorem dX8_figureOfShipment_144 : decode cX8_figureOfShipment 144 = .ok (.getfield 503, 3) := by decide +kernel
theorem dX8_figureOfShipment_147 : decode cX8_figureOfShipment 147 = .ok (.ireturn, 1) := by decide +kernel
theorem dX8_figureOfShipment_148 : decode cX8_figureOfShipment 148 = .ok (.aload_n 1, 1) := by decide +kernel
theorem dX8_figureOfShipment_149 : decode cX8_figureOfShipment 149 = .ok (.aload_n 0, 1) := by decide +kernel
theorem dX8_figureOfShipment_150 : decode cX8_figureOfShipment 150 = .ok (.getfield 151, 3) := by decide +kernel
theorem dX8_figureOfShipment_153 : decode cX8_figureOfShipment 153 = .ok (.invokevirtual 259, 3) := by decide +kernel
theorem dX8_figureOfShipment_156 : decode cX8_figureOfShipment 156 = .ok (.ireturn, 1) := by decide +kernel
theorem dX8_figureOfShipment_157 : decode cX8_figureOfShipment 157 = .ok (.aload_n 1, 1) := by decide +kernel
theorem dX8_figureOfShipment_158 : decode cX8_figureOfShipment 158 = .ok (.invokevirtual 579, 3) := by decide +kernel
theorem dX8_figureOfShipment_161 : decode cX8_figureOfShipment 161 = .ok (.ireturn, 1) := by decide +kernel
theorem dX8_figureOfShipment_162 : decode cX8_figureOfShipment 162 = .ok (.aload_n 3, 1) := by decide +kernel
theorem dX8_figureOfShipment_163 : decode cX8_figureOfShipment 163 = .ok (.ifnonnull 7, 3) := by decide +kernel
theorem dX8_figureOfShipment_166 : decode cX8_figureOfShipment 166 = .ok (.iconst 0, 1) := by decide +kernel
theorem dX8_figureOfShipment_167 : decode cX8_figureOfShipment 167 = .ok (.goto 7, 3) := by decide +kernel
theorem dX8_figureOfShipment_170 : decode cX8_figureOfShipment 170 = .ok (.aload_n 3, 1) := by decide +kernel
theorem dX8_figureOfShipment_171 : decode cX8_figureOfShipment 171 = .ok (.getfield 582, 3) := by decide +kernel
theorem dX8_figureOfShipment_174 : decode cX8_figureOfShipment 174 = .ok (.ireturn, 1) := by decide +kernel
theorem dX8_figureOfShipment_175 : decode cX8_figureOfShipment 175 = .ok (.aload_n 3, 1) := by decide +kernel
theorem dX8_figureOfShipment_176 : decode cX8_figureOfShipment 176 = .ok (.ifnonnull 7, 3) := by decide +kernel
theorem dX8_figureOfShipment_179 : decode cX8_figureOfShipment 179 = .ok (.iconst 0, 1) := by decide +kernel
theorem dX8_figureOfShipment_180 : decode cX8_figureOfShipment 180 = .ok (.goto 7, 3) := by decide +kernel
theorem dX8_figureOfShipment_183 : decode cX8_figureOfShipment 183 = .ok (.aload_n 3, 1) := by decide +kernel
theorem dX8_figureOfShipment_184 : decode cX8_figureOfShipment 184 = .ok (.getfield 509, 3) := by decide +kernel
theorem dX8_figureOfShipment_187 : decode cX8_figureOfShipment 187 = .ok (.ireturn, 1) := by decide +kernel
theorem dX8_figureOfShipment_188 : decode cX8_figureOfShipment 188 = .ok (.aload_n 3, 1) := by decide +kernel
theorem dX8_figureOfShipment_189 : decode cX8_figureOfShipment 189 = .ok (.ifnonnull 7, 3) := by decide +kernel
theorem dX8_figureOfShipment_192 : decode cX8_figureOfShipment 192 = .ok (.iconst 0, 1) := by decide +kernel
theorem dX8_figureOfShipment_193 : decode cX8_figureOfShipment 193 = .ok (.goto 7, 3) := by decide +kernel
theorem dX8_figureOfShipment_196 : decode cX8_figureOfShipment 196 = .ok (.aload_n 3, 1) := by decide +kernel
theorem dX8_figureOfShipment_197 : decode cX8_figureOfShipment 197 = .ok (.getfield 585, 3) := by decide +kernel
theorem dX8_figureOfShipment_200 : decode cX8_figureOfShipment 200 = .ok (.ireturn, 1) := by decide +kernel
theorem dX8_figureOfShipment_201 : decode cX8_figureOfShipment 201 = .ok (.aload 4, 2) := by decide +kernel
theorem dX8_figureOfShipment_203 : decode cX8_figureOfShipment 203 = .ok (.ifnonnull 7, 3) := by decide +kernel
theorem dX8_figureOfShipment_206 : decode cX8_figureOfShipment 206 = .ok (.iconst 0, 1) := by decide +kernel
theorem dX8_figureOfShipment_207 : decode cX8_figureOfShipment 207 = .ok (.goto 8, 3) := by decide +kernel
theorem dX8_figureOfShipment_210 : decode cX8_figureOfShipment 210 = .ok (.aload 4, 2) := by decide +kernel
theorem dX8_figureOfShipment_212 : decode cX8_figureOfShipment 212 = .ok (.getfield 588, 3) := by decide +kernel
theorem dX8_figureOfShipment_215 : decode cX8_figureOfShipment 215 = .ok (.ireturn, 1) := by decide +kernel
theorem dX8_figureOfShipment_216 : decode cX8_figureOfShipment 216 = .ok (.aload 4, 2) := by decide +kernel
theorem dX8_figureOfShipment_218 : decode cX8_figureOfShipment 218 = .ok (.ifnonnull 7, 3) := by decide +kernel
theorem dX8_figureOfShipment_221 : decode cX8_figureOfShipment 221 = .ok (.iconst 0, 1) := by decide +kernel
theorem dX8_figureOfShipment_222 : decode cX8_figureOfShipment 222 = .ok (.goto 8, 3) := by decide +kernel
theorem dX8_figureOfShipment_225 : decode cX8_figureOfShipment 225 = .ok (.aload 4, 2) := by decide +kernel
theorem dX8_figureOfShipment_227 : decode cX8_figureOfShipment 227 = .ok (.getfield 591, 3) := by decide +kernel
theorem dX8_figureOfShipment_230 : decode cX8_figureOfShipment 230 = .ok (.ireturn, 1) := by decide +kernel
theorem dX8_figureOfPart_0 : decode cX8_figureOfPart 0 = .ok (.aload_n 0, 1) := by decide +kernel
theorem dX8_figureOfPart_1 : decode cX8_figureOfPart 1 = .ok (.getfield 288, 3) := by decide +kernel
theorem dX8_figureOfPart_4 : decode cX8_figureOfPart 4 = .ok (.astore_n 3, 1) := by decide +kernel
theorem dX8_figureOfPart_5 : decode cX8_figureOfPart 5 = .ok (.aload_n 3, 1) := by decide +kernel
theorem dX8_figureOfPart_6 : decode cX8_figureOfPart 6 = .ok (.ifnonnull 5, 3) := by decide +kernel
theorem dX8_figureOfPart_9 : decode cX8_figureOfPart 9 = .ok (.iconst 0, 1) := by decide +kernel
theorem dX8_figureOfPart_10 : decode cX8_figureOfPart 10 = .ok (.ireturn, 1) := by decide +kernel
theorem dX8_figureOfPart_11 : decode cX8_figureOfPart 11 = .ok (.iload_n 2, 1) := by decide +kernel
theorem dX8_figureOfPart_12 : decode cX8_figureOfPart 12 = .ok (.ifCond .eq 11, 3) := by decide +kernel
theorem dX8_figureOfPart_15 : decode cX8_figureOfPart 15 = .ok (.aload_n 3, 1) := by decide +kernel
theorem dX8_figureOfPart_16 : decode cX8_figureOfPart 16 = .ok (.iload_n 1, 1) := by decide +kernel
theorem dX8_figureOfPart_17 : decode cX8_figureOfPart 17 = .ok (.invokevirtual 594, 3) := by decide +kernel
theorem dX8_figureOfPart_20 : decode cX8_figureOfPart 20 = .ok (.goto 8, 3) := by decide +kernel
theorem dX8_figureOfPart_23 : decode cX8_figureOfPart 23 = .ok (.aload_n 3, 1) := by decide +kernel
theorem dX8_figureOfPart_24 : decode cX8_figureOfPart 24 = .ok (.iload_n 1, 1) := by decide +kernel
theorem dX8_figureOfPart_25 : decode cX8_figureOfPart 25 = .ok (.invokevirtual 597, 3) := by decide +kernel
theorem dX8_figureOfPart_28 : decode cX8_figureOfPart 28 = .ok (.ireturn, 1) := by decide +kernel
theorem dX8_figureOfBooks_0 : decode cX8_figureOfBooks 0 = .ok (.iload_n 1, 1) := by decide +kernel
theorem dX8_figureOfBooks_1 : decode cX8_figureOfBooks 1 = .ok (.tableswitch 222 0 18 #[91, 96, 105, 113, 121, 129, 137, 145, 153, 161, 169, 177, 182, 187, 192, 197, 203, 210, 217], 91) := by decide +kernel
theorem dX8_figureOfBooks_92 : decode cX8_figureOfBooks 92 = .ok (.aload_n 0, 1) := by decide +kernel
theorem dX8_figureOfBooks_93 : decode cX8_figureOfBooks 93 = .ok (.getfield 151, 3) := by decide +kernel
theorem dX8_figureOfBooks_96 : decode cX8_figureOfBooks 96 = .ok (.ireturn, 1) := by decide +kernel
theorem dX8_figureOfBooks_97 : decode cX8_figureOfBooks 97 = .ok (.aload_n 0, 1) := by decide +kernel
theorem dX8_figureOfBooks_98 : decode cX8_figureOfBooks 98 = .ok (.getfield 151, 3) := by decide +kernel
theorem dX8_figureOfBooks_101 : decode cX8_figureOfBooks 101 = .ok (.sipush 360, 3) := by decide +kernel
theorem dX8_figureOfBooks_104 : decode cX8_figureOfBooks 104 = .ok (.idiv, 1) := by decide +kernel
theorem dX8_figureOfBooks_105 : decode cX8_figureOfBooks 105 = .ok (.ireturn, 1) := by decide +kernel
theorem dX8_figureOfBooks_106 : decode cX8_figureOfBooks 106 = .ok (.aload_n 0, 1) := by decide +kernel
theorem dX8_figureOfBooks_107 : decode cX8_figureOfBooks 107 = .ok (.getfield 10, 3) := by decide +kernel
theorem dX8_figureOfBooks_110 : decode cX8_figureOfBooks 110 = .ok (.invokevirtual 89, 3) := by decide +kernel
theorem dX8_figureOfBooks_113 : decode cX8_figureOfBooks 113 = .ok (.ireturn, 1) := by decide +kernel
theorem dX8_figureOfBooks_114 : decode cX8_figureOfBooks 114 = .ok (.aload_n 0, 1) := by decide +kernel
theorem dX8_figureOfBooks_115 : decode cX8_figureOfBooks 115 = .ok (.getfield 16, 3) := by decide +kernel
theorem dX8_figureOfBooks_118 : decode cX8_figureOfBooks 118 = .ok (.invokevirtual 89, 3) := by decide +kernel
theorem dX8_figureOfBooks_121 : decode cX8_figureOfBooks 121 = .ok (.ireturn, 1) := by decide +kernel
theorem dX8_figureOfBooks_122 : decode cX8_figureOfBooks 122 = .ok (.aload_n 0, 1) := by decide +kernel
theorem dX8_figureOfBooks_123 : decode cX8_figureOfBooks 123 = .ok (.getfield 19, 3) := by decide +kernel
theorem dX8_figureOfBooks_126 : decode cX8_figureOfBooks 126 = .ok (.invokevirtual 89, 3) := by decide +kernel
theorem dX8_figureOfBooks_129 : decode cX8_figureOfBooks 129 = .ok (.ireturn, 1) := by decide +kernel
theorem dX8_figureOfBooks_130 : decode cX8_figureOfBooks 130 = .ok (.aload_n 0, 1) := by decide +kernel
theorem dX8_figureOfBooks_131 : decode cX8_figureOfBooks 131 = .ok (.getfield 22, 3) := by decide +kernel
theorem dX8_figureOfBooks_134 : decode cX8_figureOfBooks 134 = .ok (.invokevirtual 89, 3) := by decide +kernel
theorem dX8_figureOfBooks_137 : decode cX8_figureOfBooks 137 = .ok (.ireturn, 1) := by decide +kernel
theorem dX8_figureOfBooks_138 : decode cX8_figureOfBooks 138 = .ok (.aload_n 0, 1) := by decide +kernel
theorem dX8_figureOfBooks_139 : decode cX8_figureOfBooks 139 = .ok (.getfield 25, 3) := by decide +kernel
theorem dX8_figureOfBooks_142 : decode cX8_figureOfBooks 142 = .ok (.invokevirtual 89, 3) := by decide +kernel
theorem dX8_figureOfBooks_145 : decode cX8_figureOfBooks 145 = .ok (.ireturn, 1) := by decide +kernel
theorem dX8_figureOfBooks_146 : decode cX8_figureOfBooks 146 = .ok (.aload_n 0, 1) := by decide +kernel
theorem dX8_figureOfBooks_147 : decode cX8_figureOfBooks 147 = .ok (.getfield 31, 3) := by decide +kernel
theorem dX8_figureOfBooks_150 : decode cX8_figureOfBooks 150 = .ok (.getfield 129, 3) := by decide +kernel
theorem dX8_figureOfBooks_153 : decode cX8_figureOfBooks 153 = .ok (.ireturn, 1) := by decide +kernel
theorem dX8_figureOfBooks_154 : decode cX8_figureOfBooks 154 = .ok (.aload_n 0, 1) := by decide +kernel
theorem dX8_figureOfBooks_155 : decode cX8_figureOfBooks 155 = .ok (.getfield 35, 3) := by decide +kernel
theorem dX8_figureOfBooks_158 : decode cX8_figureOfBooks 158 = .ok (.getfield 129, 3) := by decide +kernel
theorem dX8_figureOfBooks_161 : decode cX8_figureOfBooks 161 = .ok (.ireturn, 1) := by decide +kernel
theorem dX8_figureOfBooks_162 : decode cX8_figureOfBooks 162 = .ok (.aload_n 0, 1) := by decide +kernel
theorem dX8_figureOfBooks_163 : decode cX8_figureOfBooks 163 = .ok (.getfield 38, 3) := by decide +kernel
theorem dX8_figureOfBooks_166 : decode cX8_figureOfBooks 166 = .ok (.getfield 129, 3) := by decide +kernel
theorem dX8_figureOfBooks_169 : decode cX8_figureOfBooks 169 = .ok (.ireturn, 1) := by decide +kernel
theorem dX8_figureOfBooks_170 : decode cX8_figureOfBooks 170 = .ok (.aload_n 0, 1) := by decide +kernel
theorem dX8_figureOfBooks_171 : decode cX8_figureOfBooks 171 = .ok (.getfield 41, 3) := by decide +kernel
theorem dX8_figureOfBooks_174 : decode cX8_figureOfBooks 174 = .ok (.getfield 129, 3) := by decide +kernel
theorem dX8_figureOfBooks_177 : decode cX8_figureOfBooks 177 = .ok (.ireturn, 1) := by decide +kernel
theorem dX8_figureOfBooks_178 : decode cX8_figureOfBooks 178 = .ok (.aload_n 0, 1) := by decide +kernel
theorem dX8_figureOfBooks_179 : decode cX8_figureOfBooks 179 = .ok (.getfield 506, 3) := by decide +kernel
theorem dX8_figureOfBooks_182 : decode cX8_figureOfBooks 182 = .ok (.ireturn, 1) := by decide +kernel
theorem dX8_figureOfBooks_183 : decode cX8_figureOfBooks 183 = .ok (.aload_n 0, 1) := by decide +kernel
theorem dX8_figureOfBooks_184 : decode cX8_figureOfBooks 184 = .ok (.getfield 300, 3) := by decide +kernel
theorem dX8_figureOfBooks_187 : decode cX8_figureOfBooks 187 = .ok (.ireturn, 1) := by decide +kernel
theorem dX8_figureOfBooks_188 : decode cX8_figureOfBooks 188 = .ok (.aload_n 0, 1) := by decide +kernel
theorem dX8_figureOfBooks_189 : decode cX8_figureOfBooks 189 = .ok (.getfield 524, 3) := by decide +kernel
theorem dX8_figureOfBooks_192 : decode cX8_figureOfBooks 192 = .ok (.ireturn, 1) := by decide +kernel
theorem dX8_figureOfBooks_193 : decode cX8_figureOfBooks 193 = .ok (.aload_n 0, 1) := by decide +kernel
theorem dX8_figureOfBooks_194 : decode cX8_figureOfBooks 194 = .ok (.invokevirtual 400, 3) := by decide +kernel
theorem dX8_figureOfBooks_197 : decode cX8_figureOfBooks 197 = .ok (.ireturn, 1) := by decide +kernel
theorem dX8_figureOfBooks_198 : decode cX8_figureOfBooks 198 = .ok (.aload_n 0, 1) := by decide +kernel
theorem dX8_figureOfBooks_199 : decode cX8_figureOfBooks 199 = .ok (.iconst 4, 1) := by decide +kernel
theorem dX8_figureOfBooks_200 : decode cX8_figureOfBooks 200 = .ok (.invokevirtual 600, 3) := by decide +kernel
theorem dX8_figureOfBooks_203 : decode cX8_figureOfBooks 203 = .ok (.ireturn, 1) := by decide +kernel
theorem dX8_figureOfBooks_204 : decode cX8_figureOfBooks 204 = .ok (.aload_n 0, 1) := by decide +kernel
theorem dX8_figureOfBooks_205 : decode cX8_figureOfBooks 205 = .ok (.bipush 8, 2) := by decide +kernel
theorem dX8_figureOfBooks_207 : decode cX8_figureOfBooks 207 = .ok (.invokevirtual 600, 3) := by decide +kernel
theorem dX8_figureOfBooks_210 : decode cX8_figureOfBooks 210 = .ok (.ireturn, 1) := by decide +kernel
theorem dX8_figureOfBooks_211 : decode cX8_figureOfBooks 211 = .ok (.aload_n 0, 1) := by decide +kernel
theorem dX8_figureOfBooks_212 : decode cX8_figureOfBooks 212 = .ok (.bipush 16, 2) := by decide +kernel
theorem dX8_figureOfBooks_214 : decode cX8_figureOfBooks 214 = .ok (.invokevirtual 600, 3) := by decide +kernel
theorem dX8_figureOfBooks_217 : decode cX8_figureOfBooks 217 = .ok (.ireturn, 1) := by decide +kernel
theorem dX8_figureOfBooks_218 : decode cX8_figureOfBooks 218 = .ok (.aload_n 0, 1) := by decide +kernel
theorem dX8_figureOfBooks_219 : decode cX8_figureOfBooks 219 = .ok (.invokevirtual 603, 3) := by decide +kernel
theorem dX8_figureOfBooks_222 : decode cX8_figureOfBooks 222 = .ok (.ireturn, 1) := by decide +kernel
theorem dX8_figureOfBooks_223 : decode cX8_figureOfBooks 223 = .ok (.aload_n 0, 1) := by decide +kernel
theorem dX8_figureOfBooks_224 : decode cX8_figureOfBooks 224 = .ok (.getfield 332, 3) := by decide +kernel
theorem dX8_figureOfBooks_227 : decode cX8_figureOfBooks 227 = .ok (.ireturn, 1) := by decide +kernel
theorem dX8_countOfMarked_0 : decode cX8_countOfMarked 0 = .ok (.iconst 0, 1) := by decide +kernel
theorem dX8_countOfMarked_1 : decode cX8_countOfMarked 1 = .ok (.istore_n 2, 1) := by decide +kernel
theorem dX8_countOfMarked_2 : decode cX8_countOfMarked 2 = .ok (.iconst 0, 1) := by decide +kernel
theorem dX8_countOfMarked_3 : decode cX8_countOfMarked 3 = .ok (.istore_n 3, 1) := by decide +kernel
theorem dX8_countOfMarked_4 : decode cX8_countOfMarked 4 = .ok (.iload_n 3, 1) := by decide +kernel
theorem dX8_countOfMarked_5 : decode cX8_countOfMarked 5 = .ok (.aload_n 0, 1) := by decide +kernel
theorem dX8_countOfMarked_6 : decode cX8_countOfMarked 6 = .ok (.getfield 25, 3) := by decide +kernel
theorem dX8_countOfMarked_9 : decode cX8_countOfMarked 9 = .ok (.invokevirtual 89, 3) := by decide +kernel
theorem dX8_countOfMarked_12 : decode cX8_countOfMarked 12 = .ok (.if_icmp .ge 31, 3) := by decide +kernel
theorem dX8_countOfMarked_15 : decode cX8_countOfMarked 15 = .ok (.aload_n 0, 1) := by decide +kernel
theorem dX8_countOfMarked_16 : decode cX8_countOfMarked 16 = .ok (.getfield 25, 3) := by decide +kernel
theorem dX8_countOfMarked_19 : decode cX8_countOfMarked 19 = .ok (.iload_n 3, 1) := by decide +kernel
theorem dX8_countOfMarked_20 : decode cX8_countOfMarked 20 = .ok (.invokevirtual 306, 3) := by decide +kernel
theorem dX8_countOfMarked_23 : decode cX8_countOfMarked 23 = .ok (.checkcast 201, 3) := by decide +kernel
theorem dX8_countOfMarked_26 : decode cX8_countOfMarked 26 = .ok (.invokevirtual 579, 3) := by decide +kernel
theorem dX8_countOfMarked_29 : decode cX8_countOfMarked 29 = .ok (.iload_n 1, 1) := by decide +kernel
theorem dX8_countOfMarked_30 : decode cX8_countOfMarked 30 = .ok (.iand, 1) := by decide +kernel
theorem dX8_countOfMarked_31 : decode cX8_countOfMarked 31 = .ok (.ifCond .eq 6, 3) := by decide +kernel
theorem dX8_countOfMarked_34 : decode cX8_countOfMarked 34 = .ok (.iinc 2 1, 3) := by decide +kernel
theorem dX8_countOfMarked_37 : decode cX8_countOfMarked 37 = .ok (.iinc 3 1, 3) := by decide +kernel
theorem dX8_countOfMarked_40 : decode cX8_countOfMarked 40 = .ok (.goto (-36), 3) := by decide +kernel
theorem dX8_countOfMarked_43 : decode cX8_countOfMarked 43 = .ok (.iload_n 2, 1) := by decide +kernel
theorem dX8_countOfMarked_44 : decode cX8_countOfMarked 44 = .ok (.ireturn, 1) := by decide +kernel
theorem dX8_writeSlip_0 : decode cX8_writeSlip 0 = .ok (.aload_n 0, 1) := by decide +kernel
theorem dX8_writeSlip_1 : decode cX8_writeSlip 1 = .ok (.iload_n 1, 1) := by decide +kernel
theorem dX8_writeSlip_2 : decode cX8_writeSlip 2 = .ok (.invokevirtual 606, 3) := by decide +kernel
theorem dX8_writeSlip_5 : decode cX8_writeSlip 5 = .ok (.ldc_w 610, 3) := by decide +kernel
theorem dX8_writeSlip_8 : decode cX8_writeSlip 8 = .ok (.invokevirtual 612, 3) := by decide +kernel
theorem dX8_writeSlip_11 : decode cX8_writeSlip 11 = .ok (.aload_n 2, 1) := by decide +kernel
theorem dX8_writeSlip_12 : decode cX8_writeSlip 12 = .ok (.getfield 274, 3) := by decide +kernel
theorem dX8_writeSlip_15 : decode cX8_writeSlip 15 = .ok (.getfield 224, 3) := by decide +kernel
theorem dX8_writeSlip_18 : decode cX8_writeSlip 18 = .ok (.getfield 138, 3) := by decide +kernel
theorem dX8_writeSlip_21 : decode cX8_writeSlip 21 = .ok (.invokevirtual 606, 3) := by decide +kernel
theorem dX8_writeSlip_24 : decode cX8_writeSlip 24 = .ok (.pop, 1) := by decide +kernel
theorem dX8_writeSlip_25 : decode cX8_writeSlip 25 = .ok (.aload_n 0, 1) := by decide +kernel
theorem dX8_writeSlip_26 : decode cX8_writeSlip 26 = .ok (.bipush 62, 2) := by decide +kernel
theorem dX8_writeSlip_28 : decode cX8_writeSlip 28 = .ok (.invokevirtual 615, 3) := by decide +kernel
theorem dX8_writeSlip_31 : decode cX8_writeSlip 31 = .ok (.aload_n 2, 1) := by decide +kernel
theorem dX8_writeSlip_32 : decode cX8_writeSlip 32 = .ok (.getfield 310, 3) := by decide +kernel
theorem dX8_writeSlip_35 : decode cX8_writeSlip 35 = .ok (.getfield 123, 3) := by decide +kernel
theorem dX8_writeSlip_38 : decode cX8_writeSlip 38 = .ok (.invokevirtual 606, 3) := by decide +kernel
theorem dX8_writeSlip_41 : decode cX8_writeSlip 41 = .ok (.pop, 1) := by decide +kernel
theorem dX8_writeSlip_42 : decode cX8_writeSlip 42 = .ok (.aload_n 0, 1) := by decide +kernel
theorem dX8_writeSlip_43 : decode cX8_writeSlip 43 = .ok (.bipush 32, 2) := by decide +kernel
theorem dX8_writeSlip_45 : decode cX8_writeSlip 45 = .ok (.invokevirtual 615, 3) := by decide +kernel
theorem dX8_writeSlip_48 : decode cX8_writeSlip 48 = .ok (.aload_n 2, 1) := by decide +kernel
theorem dX8_writeSlip_49 : decode cX8_writeSlip 49 = .ok (.getfield 242, 3) := by decide +kernel
theorem dX8_writeSlip_52 : decode cX8_writeSlip 52 = .ok (.invokevirtual 606, 3) := by decide +kernel
theorem dX8_writeSlip_55 : decode cX8_writeSlip 55 = .ok (.bipush 47, 2) := by decide +kernel
theorem dX8_writeSlip_57 : decode cX8_writeSlip 57 = .ok (.invokevirtual 615, 3) := by decide +kernel
theorem dX8_writeSlip_60 : decode cX8_writeSlip 60 = .ok (.aload_n 2, 1) := by decide +kernel
theorem dX8_writeSlip_61 : decode cX8_writeSlip 61 = .ok (.getfield 567, 3) := by decide +kernel
theorem dX8_writeSlip_64 : decode cX8_writeSlip 64 = .ok (.invokevirtual 606, 3) := by decide +kernel
theorem dX8_writeSlip_67 : decode cX8_writeSlip 67 = .ok (.pop, 1) := by decide +kernel
theorem dX8_writeSlip_68 : decode cX8_writeSlip 68 = .ok (.aload_n 2, 1) := by decide +kernel
theorem dX8_writeSlip_69 : decode cX8_writeSlip 69 = .ok (.invokevirtual 579, 3) := by decide +kernel
theorem dX8_writeSlip_72 : decode cX8_writeSlip 72 = .ok (.istore_n 3, 1) := by decide +kernel
theorem dX8_writeSlip_73 : decode cX8_writeSlip 73 = .ok (.aload_n 0, 1) := by decide +kernel
theorem dX8_writeSlip_74 : decode cX8_writeSlip 74 = .ok (.iload_n 3, 1) := by decide +kernel
theorem dX8_writeSlip_75 : decode cX8_writeSlip 75 = .ok (.iconst 1, 1) := by decide +kernel
theorem dX8_writeSlip_76 : decode cX8_writeSlip 76 = .ok (.ldc_w 618, 3) := by decide +kernel
theorem dX8_writeSlip_79 : decode cX8_writeSlip 79 = .ok (.invokestatic 620, 3) := by decide +kernel
theorem dX8_writeSlip_82 : decode cX8_writeSlip 82 = .ok (.aload_n 0, 1) := by decide +kernel
theorem dX8_writeSlip_83 : decode cX8_writeSlip 83 = .ok (.iload_n 3, 1) := by decide +kernel
theorem dX8_writeSlip_84 : decode cX8_writeSlip 84 = .ok (.iconst 2, 1) := by decide +kernel
theorem dX8_writeSlip_85 : decode cX8_writeSlip 85 = .ok (.ldc_w 624, 3) := by decide +kernel
theorem dX8_writeSlip_88 : decode cX8_writeSlip 88 = .ok (.invokestatic 620, 3) := by decide +kernel
theorem dX8_writeSlip_91 : decode cX8_writeSlip 91 = .ok (.aload_n 0, 1) := by decide +kernel
theorem dX8_writeSlip_92 : decode cX8_writeSlip 92 = .ok (.iload_n 3, 1) := by decide +kernel
theorem dX8_writeSlip_93 : decode cX8_writeSlip 93 = .ok (.iconst 4, 1) := by decide +kernel
theorem dX8_writeSlip_94 : decode cX8_writeSlip 94 = .ok (.ldc_w 626, 3) := by decide +kernel
theorem dX8_writeSlip_97 : decode cX8_writeSlip 97 = .ok (.invokestatic 620, 3) := by decide +kernel
theorem dX8_writeSlip_100 : decode cX8_writeSlip 100 = .ok (.aload_n 0, 1) := by decide +kernel
theorem dX8_writeSlip_101 : decode cX8_writeSlip 101 = .ok (.iload_n 3, 1) := by decide +kernel
theorem dX8_writeSlip_102 : decode cX8_writeSlip 102 = .ok (.bipush 8, 2) := by decide +kernel
theorem dX8_writeSlip_104 : decode cX8_writeSlip 104 = .ok (.ldc_w 628, 3) := by decide +kernel
theorem dX8_writeSlip_107 : decode cX8_writeSlip 107 = .ok (.invokestatic 620, 3) := by decide +kernel
theorem dX8_writeSlip_110 : decode cX8_writeSlip 110 = .ok (.aload_n 0, 1) := by decide +kernel
theorem dX8_writeSlip_111 : decode cX8_writeSlip 111 = .ok (.iload_n 3, 1) := by decide +kernel
theorem dX8_writeSlip_112 : decode cX8_writeSlip 112 = .ok (.bipush 16, 2) := by decide +kernel
theorem dX8_writeSlip_114 : decode cX8_writeSlip 114 = .ok (.ldc_w 630, 3) := by decide +kernel
theorem dX8_writeSlip_117 : decode cX8_writeSlip 117 = .ok (.invokestatic 620, 3) := by decide +kernel
theorem dX8_writeSlip_120 : decode cX8_writeSlip 120 = .ok (.return_, 1) := by decide +kernel
theorem dX8_writeIfMarked_0 : decode cX8_writeIfMarked 0 = .ok (.iload_n 1, 1) := by decide +kernel
theorem dX8_writeIfMarked_1 : decode cX8_writeIfMarked 1 = .ok (.iload_n 2, 1) := by decide +kernel
theorem dX8_writeIfMarked_2 : decode cX8_writeIfMarked 2 = .ok (.iand, 1) := by decide +kernel
theorem dX8_writeIfMarked_3 : decode cX8_writeIfMarked 3 = .ok (.ifCond .eq 9, 3) := by decide +kernel
theorem dX8_writeIfMarked_6 : decode cX8_writeIfMarked 6 = .ok (.aload_n 0, 1) := by decide +kernel
theorem dX8_writeIfMarked_7 : decode cX8_writeIfMarked 7 = .ok (.aload_n 3, 1) := by decide +kernel
theorem dX8_writeIfMarked_8 : decode cX8_writeIfMarked 8 = .ok (.invokevirtual 612, 3) := by decide +kernel
theorem dX8_writeIfMarked_11 : decode cX8_writeIfMarked 11 = .ok (.pop, 1) := by decide +kernel
theorem dX8_writeIfMarked_12 : decode cX8_writeIfMarked 12 = .ok (.return_, 1) := by decide +kernel
theorem dX8_digestOfLands_0 : decode cX8_digestOfLands 0 = .ok (.lload_n 1, 1) := by decide +kernel
theorem dX8_digestOfLands_1 : decode cX8_digestOfLands 1 = .ok (.lstore_n 3, 1) := by decide +kernel
theorem dX8_digestOfLands_2 : decode cX8_digestOfLands 2 = .ok (.iconst 0, 1) := by decide +kernel
theorem dX8_digestOfLands_3 : decode cX8_digestOfLands 3 = .ok (.istore 5, 2) := by decide +kernel
theorem dX8_digestOfLands_5 : decode cX8_digestOfLands 5 = .ok (.iload 5, 2) := by decide +kernel
theorem dX8_digestOfLands_7 : decode cX8_digestOfLands 7 = .ok (.aload_n 0, 1) := by decide +kernel
theorem dX8_digestOfLands_8 : decode cX8_digestOfLands 8 = .ok (.getfield 10, 3) := by decide +kernel
theorem dX8_digestOfLands_11 : decode cX8_digestOfLands 11 = .ok (.invokevirtual 89, 3) := by decide +kernel
theorem dX8_digestOfLands_14 : decode cX8_digestOfLands 14 = .ok (.if_icmp .ge 55, 3) := by decide +kernel
theorem dX8_digestOfLands_17 : decode cX8_digestOfLands 17 = .ok (.aload_n 0, 1) := by decide +kernel
theorem dX8_digestOfLands_18 : decode cX8_digestOfLands 18 = .ok (.getfield 10, 3) := by decide +kernel
theorem dX8_digestOfLands_21 : decode cX8_digestOfLands 21 = .ok (.iload 5, 2) := by decide +kernel
theorem dX8_digestOfLands_23 : decode cX8_digestOfLands 23 = .ok (.invokevirtual 306, 3) := by decide +kernel
theorem dX8_digestOfLands_26 : decode cX8_digestOfLands 26 = .ok (.checkcast 94, 3) := by decide +kernel
theorem dX8_digestOfLands_29 : decode cX8_digestOfLands 29 = .ok (.astore 6, 2) := by decide +kernel
theorem dX8_digestOfLands_31 : decode cX8_digestOfLands 31 = .ok (.iconst 0, 1) := by decide +kernel
theorem dX8_digestOfLands_32 : decode cX8_digestOfLands 32 = .ok (.istore 7, 2) := by decide +kernel
theorem dX8_digestOfLands_34 : decode cX8_digestOfLands 34 = .ok (.iload 7, 2) := by decide +kernel
theorem dX8_digestOfLands_36 : decode cX8_digestOfLands 36 = .ok (.bipush 9, 2) := by decide +kernel
theorem dX8_digestOfLands_38 : decode cX8_digestOfLands 38 = .ok (.if_icmp .ge 25, 3) := by decide +kernel
theorem dX8_digestOfLands_41 : decode cX8_digestOfLands 41 = .ok (.lload_n 3, 1) := by decide +kernel
theorem dX8_digestOfLands_42 : decode cX8_digestOfLands 42 = .ok (.ldc2_w 408, 3) := by decide +kernel
theorem dX8_digestOfLands_45 : decode cX8_digestOfLands 45 = .ok (.lmul, 1) := by decide +kernel
theorem dX8_digestOfLands_46 : decode cX8_digestOfLands 46 = .ok (.aload_n 0, 1) := by decide +kernel
theorem dX8_digestOfLands_47 : decode cX8_digestOfLands 47 = .ok (.aload 6, 2) := by decide +kernel
theorem dX8_digestOfLands_49 : decode cX8_digestOfLands 49 = .ok (.iload 7, 2) := by decide +kernel
theorem dX8_digestOfLands_51 : decode cX8_digestOfLands 51 = .ok (.invokevirtual 335, 3) := by decide +kernel
theorem dX8_digestOfLands_54 : decode cX8_digestOfLands 54 = .ok (.i2l, 1) := by decide +kernel
theorem dX8_digestOfLands_55 : decode cX8_digestOfLands 55 = .ok (.ladd, 1) := by decide +kernel
theorem dX8_digestOfLands_56 : decode cX8_digestOfLands 56 = .ok (.lstore_n 3, 1) := by decide +kernel
theorem dX8_digestOfLands_57 : decode cX8_digestOfLands 57 = .ok (.iinc 7 1, 3) := by decide +kernel
theorem dX8_digestOfLands_60 : decode cX8_digestOfLands 60 = .ok (.goto (-26), 3) := by decide +kernel
theorem dX8_digestOfLands_63 : decode cX8_digestOfLands 63 = .ok (.iinc 5 1, 3) := by decide +kernel
theorem dX8_digestOfLands_66 : decode cX8_digestOfLands 66 = .ok (.goto (-61), 3) := by decide +kernel
theorem dX8_digestOfLands_69 : decode cX8_digestOfLands 69 = .ok (.lload_n 3, 1) := by decide +kernel
theorem dX8_digestOfLands_70 : decode cX8_digestOfLands 70 = .ok (.lreturn, 1) := by decide +kernel
theorem dX8_digestOfBuyers_0 : decode cX8_digestOfBuyers 0 = .ok (.lload_n 1, 1) := by decide +kernel
theorem dX8_digestOfBuyers_1 : decode cX8_digestOfBuyers 1 = .ok (.lstore_n 3, 1) := by decide +kernel
theorem dX8_digestOfBuyers_2 : decode cX8_digestOfBuyers 2 = .ok (.iconst 0, 1) := by decide +kernel
theorem dX8_digestOfBuyers_3 : decode cX8_digestOfBuyers 3 = .ok (.istore 5, 2) := by decide +kernel
theorem dX8_digestOfBuyers_5 : decode cX8_digestOfBuyers 5 = .ok (.iload 5, 2) := by decide +kernel
theorem dX8_digestOfBuyers_7 : decode cX8_digestOfBuyers 7 = .ok (.aload_n 0, 1) := by decide +kernel
theorem dX8_digestOfBuyers_8 : decode cX8_digestOfBuyers 8 = .ok (.getfield 16, 3) := by decide +kernel
theorem dX8_digestOfBuyers_11 : decode cX8_digestOfBuyers 11 = .ok (.invokevirtual 89, 3) := by decide +kernel
theorem dX8_digestOfBuyers_14 : decode cX8_digestOfBuyers 14 = .ok (.if_icmp .ge 55, 3) := by decide +kernel
theorem dX8_digestOfBuyers_17 : decode cX8_digestOfBuyers 17 = .ok (.aload_n 0, 1) := by decide +kernel
theorem dX8_digestOfBuyers_18 : decode cX8_digestOfBuyers 18 = .ok (.getfield 16, 3) := by decide +kernel
theorem dX8_digestOfBuyers_21 : decode cX8_digestOfBuyers 21 = .ok (.iload 5, 2) := by decide +kernel
theorem dX8_digestOfBuyers_23 : decode cX8_digestOfBuyers 23 = .ok (.invokevirtual 306, 3) := by decide +kernel
theorem dX8_digestOfBuyers_26 : decode cX8_digestOfBuyers 26 = .ok (.checkcast 80, 3) := by decide +kernel
theorem dX8_digestOfBuyers_29 : decode cX8_digestOfBuyers 29 = .ok (.astore 6, 2) := by decide +kernel
theorem dX8_digestOfBuyers_31 : decode cX8_digestOfBuyers 31 = .ok (.iconst 0, 1) := by decide +kernel
theorem dX8_digestOfBuyers_32 : decode cX8_digestOfBuyers 32 = .ok (.istore 7, 2) := by decide +kernel
theorem dX8_digestOfBuyers_34 : decode cX8_digestOfBuyers 34 = .ok (.iload 7, 2) := by decide +kernel
theorem dX8_digestOfBuyers_36 : decode cX8_digestOfBuyers 36 = .ok (.bipush 6, 2) := by decide +kernel
theorem dX8_digestOfBuyers_38 : decode cX8_digestOfBuyers 38 = .ok (.if_icmp .ge 25, 3) := by decide +kernel
theorem dX8_digestOfBuyers_41 : decode cX8_digestOfBuyers 41 = .ok (.lload_n 3, 1) := by decide +kernel
theorem dX8_digestOfBuyers_42 : decode cX8_digestOfBuyers 42 = .ok (.ldc2_w 408, 3) := by decide +kernel
theorem dX8_digestOfBuyers_45 : decode cX8_digestOfBuyers 45 = .ok (.lmul, 1) := by decide +kernel
theorem dX8_digestOfBuyers_46 : decode cX8_digestOfBuyers 46 = .ok (.aload_n 0, 1) := by decide +kernel
theorem dX8_digestOfBuyers_47 : decode cX8_digestOfBuyers 47 = .ok (.aload 6, 2) := by decide +kernel
theorem dX8_digestOfBuyers_49 : decode cX8_digestOfBuyers 49 = .ok (.iload 7, 2) := by decide +kernel
theorem dX8_digestOfBuyers_51 : decode cX8_digestOfBuyers 51 = .ok (.invokevirtual 339, 3) := by decide +kernel
theorem dX8_digestOfBuyers_54 : decode cX8_digestOfBuyers 54 = .ok (.i2l, 1) := by decide +kernel
theorem dX8_digestOfBuyers_55 : decode cX8_digestOfBuyers 55 = .ok (.ladd, 1) := by decide +kernel
theorem dX8_digestOfBuyers_56 : decode cX8_digestOfBuyers 56 = .ok (.lstore_n 3, 1) := by decide +kernel
theorem dX8_digestOfBuyers_57 : decode cX8_digestOfBuyers 57 = .ok (.iinc 7 1, 3) := by decide +kernel
theorem dX8_digestOfBuyers_60 : decode cX8_digestOfBuyers 60 = .ok (.goto (-26), 3) := by decide +kernel
theorem dX8_digestOfBuyers_63 : decode cX8_digestOfBuyers 63 = .ok (.iinc 5 1, 3) := by decide +kernel
theorem dX8_digestOfBuyers_66 : decode cX8_digestOfBuyers 66 = .ok (.goto (-61), 3) := by decide +kernel
theorem dX8_digestOfBuyers_69 : decode cX8_digestOfBuyers 69 = .ok (.lload_n 3, 1) := by decide +kernel
theorem dX8_digestOfBuyers_70 : decode cX8_digestOfBuyers 70 = .ok (.lreturn, 1) := by decide +kernel
theorem dX8_digestOfExporters_0 : decode cX8_digestOfExporters 0 = .ok (.lload_n 1, 1) := by decide +kernel
theorem dX8_digestOfExporters_1 : decode cX8_digestOfExporters 1 = .ok (.lstore_n 3, 1) := by decide +kernel
theorem dX8_digestOfExporters_2 : decode cX8_digestOfExporters 2 = .ok (.iconst 0, 1) := by decide +kernel
theorem dX8_digestOfExporters_3 : decode cX8_digestOfExporters 3 = .ok (.istore 5, 2) := by decide +kernel
theorem dX8_digestOfExporters_5 : decode cX8_digestOfExporters 5 = .ok (.iload 5, 2) := by decide +kernel
theorem dX8_digestOfExporters_7 : decode cX8_digestOfExporters 7 = .ok (.aload_n 0, 1) := by decide +kernel
theorem dX8_digestOfExporters_8 : decode cX8_digestOfExporters 8 = .ok (.getfield 19, 3) := by decide +kernel
theorem dX8_digestOfExporters_11 : decode cX8_digestOfExporters 11 = .ok (.invokevirtual 89, 3) := by decide +kernel
theorem dX8_digestOfExporters_14 : decode cX8_digestOfExporters 14 = .ok (.if_icmp .ge 55, 3) := by decide +kernel
theorem dX8_digestOfExporters_17 : decode cX8_digestOfExporters 17 = .ok (.aload_n 0, 1) := by decide +kernel
theorem dX8_digestOfExporters_18 : decode cX8_digestOfExporters 18 = .ok (.getfield 19, 3) := by decide +kernel
theorem dX8_digestOfExporters_21 : decode cX8_digestOfExporters 21 = .ok (.iload 5, 2) := by decide +kernel
theorem dX8_digestOfExporters_23 : decode cX8_digestOfExporters 23 = .ok (.invokevirtual 306, 3) := by decide +kernel
theorem dX8_digestOfExporters_26 : decode cX8_digestOfExporters 26 = .ok (.checkcast 139, 3) := by decide +kernel
theorem dX8_digestOfExporters_29 : decode cX8_digestOfExporters 29 = .ok (.astore 6, 2) := by decide +kernel
theorem dX8_digestOfExporters_31 : decode cX8_digestOfExporters 31 = .ok (.iconst 0, 1) := by decide +kernel
theorem dX8_digestOfExporters_32 : decode cX8_digestOfExporters 32 = .ok (.istore 7, 2) := by decide +kernel
theorem dX8_digestOfExporters_34 : decode cX8_digestOfExporters 34 = .ok (.iload 7, 2) := by decide +kernel
theorem dX8_digestOfExporters_36 : decode cX8_digestOfExporters 36 = .ok (.bipush 6, 2) := by decide +kernel
theorem dX8_digestOfExporters_38 : decode cX8_digestOfExporters 38 = .ok (.if_icmp .ge 25, 3) := by decide +kernel
theorem dX8_digestOfExporters_41 : decode cX8_digestOfExporters 41 = .ok (.lload_n 3, 1) := by decide +kernel
theorem dX8_digestOfExporters_42 : decode cX8_digestOfExporters 42 = .ok (.ldc2_w 408, 3) := by decide +kernel
theorem dX8_digestOfExporters_45 : decode cX8_digestOfExporters 45 = .ok (.lmul, 1) := by decide +kernel
theorem dX8_digestOfExporters_46 : decode cX8_digestOfExporters 46 = .ok (.aload_n 0, 1) := by decide +kernel
theorem dX8_digestOfExporters_47 : decode cX8_digestOfExporters 47 = .ok (.aload 6, 2) := by decide +kernel
theorem dX8_digestOfExporters_49 : decode cX8_digestOfExporters 49 = .ok (.iload 7, 2) := by decide +kernel
theorem dX8_digestOfExporters_51 : decode cX8_digestOfExporters 51 = .ok (.invokevirtual 343, 3) := by decide +kernel
theorem dX8_digestOfExporters_54 : decode cX8_digestOfExporters 54 = .ok (.i2l, 1) := by decide +kernel
theorem dX8_digestOfExporters_55 : decode cX8_digestOfExporters 55 = .ok (.ladd, 1) := by decide +kernel
theorem dX8_digestOfExporters_56 : decode cX8_digestOfExporters 56 = .ok (.lstore_n 3, 1) := by decide +kernel
theorem dX8_digestOfExporters_57 : decode cX8_digestOfExporters 57 = .ok (.iinc 7 1, 3) := by decide +kernel
theorem dX8_digestOfExporters_60 : decode cX8_digestOfExporters 60 = .ok (.goto (-26), 3) := by decide +kernel
theorem dX8_digestOfExporters_63 : decode cX8_digestOfExporters 63 = .ok (.iinc 5 1, 3) := by decide +kernel
theorem dX8_digestOfExporters_66 : decode cX8_digestOfExporters 66 = .ok (.goto (-61), 3) := by decide +kernel
theorem dX8_digestOfExporters_69 : decode cX8_digestOfExporters 69 = .ok (.lload_n 3, 1) := by decide +kernel
theorem dX8_digestOfExporters_70 : decode cX8_digestOfExporters 70 = .ok (.lreturn, 1) := by decide +kernel
theorem dX8_digestOfPolicies_0 : decode cX8_digestOfPolicies 0 = .ok (.lload_n 1, 1) := by decide +kernel
theorem dX8_digestOfPolicies_1 : decode cX8_digestOfPolicies 1 = .ok (.lstore_n 3, 1) := by decide +kernel
theorem dX8_digestOfPolicies_2 : decode cX8_digestOfPolicies 2 = .ok (.iconst 0, 1) := by decide +kernel
theorem dX8_digestOfPolicies_3 : decode cX8_digestOfPolicies 3 = .ok (.istore 5, 2) := by decide +kernel
theorem dX8_digestOfPolicies_5 : decode cX8_digestOfPolicies 5 = .ok (.iload 5, 2) := by decide +kernel
theorem dX8_digestOfPolicies_7 : decode cX8_digestOfPolicies 7 = .ok (.aload_n 0, 1) := by decide +kernel
theorem dX8_digestOfPolicies_8 : decode cX8_digestOfPolicies 8 = .ok (.getfield 22, 3) := by decide +kernel
theorem dX8_digestOfPolicies_11 : decode cX8_digestOfPolicies 11 = .ok (.invokevirtual 89, 3) := by decide +kernel
theorem dX8_digestOfPolicies_14 : decode cX8_digestOfPolicies 14 = .ok (.if_icmp .ge 124, 3) := by decide +kernel
theorem dX8_digestOfPolicies_17 : decode cX8_digestOfPolicies 17 = .ok (.aload_n 0, 1) := by decide +kernel
theorem dX8_digestOfPolicies_18 : decode cX8_digestOfPolicies 18 = .ok (.getfield 22, 3) := by decide +kernel
theorem dX8_digestOfPolicies_21 : decode cX8_digestOfPolicies 21 = .ok (.iload 5, 2) := by decide +kernel
theorem dX8_digestOfPolicies_23 : decode cX8_digestOfPolicies 23 = .ok (.invokevirtual 306, 3) := by decide +kernel
theorem dX8_digestOfPolicies_26 : decode cX8_digestOfPolicies 26 = .ok (.checkcast 167, 3) := by decide +kernel
theorem dX8_digestOfPolicies_29 : decode cX8_digestOfPolicies 29 = .ok (.astore 6, 2) := by decide +kernel
theorem dX8_digestOfPolicies_31 : decode cX8_digestOfPolicies 31 = .ok (.iconst 0, 1) := by decide +kernel
theorem dX8_digestOfPolicies_32 : decode cX8_digestOfPolicies 32 = .ok (.istore 7, 2) := by decide +kernel
theorem dX8_digestOfPolicies_34 : decode cX8_digestOfPolicies 34 = .ok (.iload 7, 2) := by decide +kernel
theorem dX8_digestOfPolicies_36 : decode cX8_digestOfPolicies 36 = .ok (.bipush 7, 2) := by decide +kernel
theorem dX8_digestOfPolicies_38 : decode cX8_digestOfPolicies 38 = .ok (.if_icmp .ge 25, 3) := by decide +kernel
theorem dX8_digestOfPolicies_41 : decode cX8_digestOfPolicies 41 = .ok (.lload_n 3, 1) := by decide +kernel
theorem dX8_digestOfPolicies_42 : decode cX8_digestOfPolicies 42 = .ok (.ldc2_w 408, 3) := by decide +kernel
theorem dX8_digestOfPolicies_45 : decode cX8_digestOfPolicies 45 = .ok (.lmul, 1) := by decide +kernel
theorem dX8_digestOfPolicies_46 : decode cX8_digestOfPolicies 46 = .ok (.aload_n 0, 1) := by decide +kernel
theorem dX8_digestOfPolicies_47 : decode cX8_digestOfPolicies 47 = .ok (.aload 6, 2) := by decide +kernel
theorem dX8_digestOfPolicies_49 : decode cX8_digestOfPolicies 49 = .ok (.iload 7, 2) := by decide +kernel
theorem dX8_digestOfPolicies_51 : decode cX8_digestOfPolicies 51 = .ok (.invokevirtual 347, 3) := by decide +kernel
theorem dX8_digestOfPolicies_54 : decode cX8_digestOfPolicies 54 = .ok (.i2l, 1) := by decide +kernel
theorem dX8_digestOfPolicies_55 : decode cX8_digestOfPolicies 55 = .ok (.ladd, 1) := by decide +kernel
theorem dX8_digestOfPolicies_56 : decode cX8_digestOfPolicies 56 = .ok (.lstore_n 3, 1) := by decide +kernel
theorem dX8_digestOfPolicies_57 : decode cX8_digestOfPolicies 57 = .ok (.iinc 7 1, 3) := by decide +kernel
theorem dX8_digestOfPolicies_60 : decode cX8_digestOfPolicies 60 = .ok (.goto (-26), 3) := by decide +kernel
theorem dX8_digestOfPolicies_63 : decode cX8_digestOfPolicies 63 = .ok (.iconst 0, 1) := by decide +kernel
theorem dX8_digestOfPolicies_64 : decode cX8_digestOfPolicies 64 = .ok (.istore 7, 2) := by decide +kernel
theorem dX8_digestOfPolicies_66 : decode cX8_digestOfPolicies 66 = .ok (.iload 7, 2) := by decide +kernel
theorem dX8_digestOfPolicies_68 : decode cX8_digestOfPolicies 68 = .ok (.aload_n 0, 1) := by decide +kernel
theorem dX8_digestOfPolicies_69 : decode cX8_digestOfPolicies 69 = .ok (.getfield 16, 3) := by decide +kernel
theorem dX8_digestOfPolicies_72 : decode cX8_digestOfPolicies 72 = .ok (.invokevirtual 89, 3) := by decide +kernel
theorem dX8_digestOfPolicies_75 : decode cX8_digestOfPolicies 75 = .ok (.if_icmp .ge 57, 3) := by decide +kernel
theorem dX8_digestOfPolicies_78 : decode cX8_digestOfPolicies 78 = .ok (.aload_n 0, 1) := by decide +kernel
theorem dX8_digestOfPolicies_79 : decode cX8_digestOfPolicies 79 = .ok (.getfield 16, 3) := by decide +kernel
theorem dX8_digestOfPolicies_82 : decode cX8_digestOfPolicies 82 = .ok (.iload 7, 2) := by decide +kernel
theorem dX8_digestOfPolicies_84 : decode cX8_digestOfPolicies 84 = .ok (.invokevirtual 306, 3) := by decide +kernel
theorem dX8_digestOfPolicies_87 : decode cX8_digestOfPolicies 87 = .ok (.checkcast 80, 3) := by decide +kernel
theorem dX8_digestOfPolicies_90 : decode cX8_digestOfPolicies 90 = .ok (.astore 8, 2) := by decide +kernel
theorem dX8_digestOfPolicies_92 : decode cX8_digestOfPolicies 92 = .ok (.lload_n 3, 1) := by decide +kernel
theorem dX8_digestOfPolicies_93 : decode cX8_digestOfPolicies 93 = .ok (.ldc2_w 408, 3) := by decide +kernel
theorem dX8_digestOfPolicies_96 : decode cX8_digestOfPolicies 96 = .ok (.lmul, 1) := by decide +kernel
theorem dX8_digestOfPolicies_97 : decode cX8_digestOfPolicies 97 = .ok (.aload 6, 2) := by decide +kernel
theorem dX8_digestOfPolicies_99 : decode cX8_digestOfPolicies 99 = .ok (.aload 8, 2) := by decide +kernel
theorem dX8_digestOfPolicies_101 : decode cX8_digestOfPolicies 101 = .ok (.getfield 123, 3) := by decide +kernel
theorem dX8_digestOfPolicies_104 : decode cX8_digestOfPolicies 104 = .ok (.invokevirtual 195, 3) := by decide +kernel
theorem dX8_digestOfPolicies_107 : decode cX8_digestOfPolicies 107 = .ok (.i2l, 1) := by decide +kernel
theorem dX8_digestOfPolicies_108 : decode cX8_digestOfPolicies 108 = .ok (.ladd, 1) := by decide +kernel
theorem dX8_digestOfPolicies_109 : decode cX8_digestOfPolicies 109 = .ok (.lstore_n 3, 1) := by decide +kernel
theorem dX8_digestOfPolicies_110 : decode cX8_digestOfPolicies 110 = .ok (.lload_n 3, 1) := by decide +kernel
theorem dX8_digestOfPolicies_111 : decode cX8_digestOfPolicies 111 = .ok (.ldc2_w 408, 3) := by decide +kernel
theorem dX8_digestOfPolicies_114 : decode cX8_digestOfPolicies 114 = .ok (.lmul, 1) := by decide +kernel
theorem dX8_digestOfPolicies_115 : decode cX8_digestOfPolicies 115 = .ok (.aload_n 0, 1) := by decide +kernel
theorem dX8_digestOfPolicies_116 : decode cX8_digestOfPolicies 116 = .ok (.aload 6, 2) := by decide +kernel
theorem dX8_digestOfPolicies_118 : decode cX8_digestOfPolicies 118 = .ok (.aload 8, 2) := by decide +kernel
theorem dX8_digestOfPolicies_120 : decode cX8_digestOfPolicies 120 = .ok (.invokevirtual 351, 3) := by decide +kernel
theorem dX8_digestOfPolicies_123 : decode cX8_digestOfPolicies 123 = .ok (.i2l, 1) := by decide +kernel
theorem dX8_digestOfPolicies_124 : decode cX8_digestOfPolicies 124 = .ok (.ladd, 1) := by decide +kernel
theorem dX8_digestOfPolicies_125 : decode cX8_digestOfPolicies 125 = .ok (.lstore_n 3, 1) := by decide +kernel
theorem dX8_digestOfPolicies_126 : decode cX8_digestOfPolicies 126 = .ok (.iinc 7 1, 3) := by decide +kernel
theorem dX8_digestOfPolicies_129 : decode cX8_digestOfPolicies 129 = .ok (.goto (-63), 3) := by decide +kernel
theorem dX8_digestOfPolicies_132 : decode cX8_digestOfPolicies 132 = .ok (.iinc 5 1, 3) := by decide +kernel
theorem dX8_digestOfPolicies_135 : decode cX8_digestOfPolicies 135 = .ok (.goto (-130), 3) := by decide +kernel
theorem dX8_digestOfPolicies_138 : decode cX8_digestOfPolicies 138 = .ok (.lload_n 3, 1) := by decide +kernel
theorem dX8_digestOfPolicies_139 : decode cX8_digestOfPolicies 139 = .ok (.lreturn, 1) := by decide +kernel
theorem dX8_digestOfShipments_0 : decode cX8_digestOfShipments 0 = .ok (.lload_n 1, 1) := by decide +kernel
theorem dX8_digestOfShipments_1 : decode cX8_digestOfShipments 1 = .ok (.lstore_n 3, 1) := by decide +kernel
theorem dX8_digestOfShipments_2 : decode cX8_digestOfShipments 2 = .ok (.new 366, 3) := by decide +kernel
end PD5
