section PD0
theorem dX0_init_0 : decode cX0_init 0 = .ok (.aload_n 0, 1) := by decide +kernel
theorem dX0_init_1 : decode cX0_init 1 = .ok (.invokespecial 3, 3) := by decide +kernel
theorem dX0_init_4 : decode cX0_init 4 = .ok (.aload_n 0, 1) := by decide +kernel
theorem dX0_init_5 : decode cX0_init 5 = .ok (.new 9, 3) := by decide +kernel
theorem dX0_init_8 : decode cX0_init 8 = .ok (.dup, 1) := by decide +kernel
theorem dX0_init_9 : decode cX0_init 9 = .ok (.invokespecial 11, 3) := by decide +kernel
theorem dX0_init_12 : decode cX0_init 12 = .ok (.putfield 12, 3) := by decide +kernel
theorem dX0_init_15 : decode cX0_init 15 = .ok (.aload_n 0, 1) := by decide +kernel
theorem dX0_init_16 : decode cX0_init 16 = .ok (.iconst (-1), 1) := by decide +kernel
theorem dX0_init_17 : decode cX0_init 17 = .ok (.putfield 18, 3) := by decide +kernel
theorem dX0_init_20 : decode cX0_init 20 = .ok (.aload_n 0, 1) := by decide +kernel
theorem dX0_init_21 : decode cX0_init 21 = .ok (.iload_n 1, 1) := by decide +kernel
theorem dX0_init_22 : decode cX0_init 22 = .ok (.putfield 22, 3) := by decide +kernel
theorem dX0_init_25 : decode cX0_init 25 = .ok (.aload_n 0, 1) := by decide +kernel
theorem dX0_init_26 : decode cX0_init 26 = .ok (.aload_n 2, 1) := by decide +kernel
theorem dX0_init_27 : decode cX0_init 27 = .ok (.putfield 25, 3) := by decide +kernel
theorem dX0_init_30 : decode cX0_init 30 = .ok (.aload_n 0, 1) := by decide +kernel
theorem dX0_init_31 : decode cX0_init 31 = .ok (.iload_n 3, 1) := by decide +kernel
theorem dX0_init_32 : decode cX0_init 32 = .ok (.putfield 29, 3) := by decide +kernel
theorem dX0_init_35 : decode cX0_init 35 = .ok (.return_, 1) := by decide +kernel
theorem dX0_isBroke_0 : decode cX0_isBroke 0 = .ok (.aload_n 0, 1) := by decide +kernel
theorem dX0_isBroke_1 : decode cX0_isBroke 1 = .ok (.getfield 18, 3) := by decide +kernel
theorem dX0_isBroke_4 : decode cX0_isBroke 4 = .ok (.iconst (-1), 1) := by decide +kernel
theorem dX0_isBroke_5 : decode cX0_isBroke 5 = .ok (.if_icmp .eq 7, 3) := by decide +kernel
theorem dX0_isBroke_8 : decode cX0_isBroke 8 = .ok (.iconst 1, 1) := by decide +kernel
theorem dX0_isBroke_9 : decode cX0_isBroke 9 = .ok (.goto 4, 3) := by decide +kernel
theorem dX0_isBroke_12 : decode cX0_isBroke 12 = .ok (.iconst 0, 1) := by decide +kernel
theorem dX0_isBroke_13 : decode cX0_isBroke 13 = .ok (.ireturn, 1) := by decide +kernel
theorem dX0_canPay_0 : decode cX0_canPay 0 = .ok (.aload_n 0, 1) := by decide +kernel
theorem dX0_canPay_1 : decode cX0_canPay 1 = .ok (.invokevirtual 32, 3) := by decide +kernel
theorem dX0_canPay_4 : decode cX0_canPay 4 = .ok (.ifCond .ne 17, 3) := by decide +kernel
theorem dX0_canPay_7 : decode cX0_canPay 7 = .ok (.aload_n 0, 1) := by decide +kernel
theorem dX0_canPay_8 : decode cX0_canPay 8 = .ok (.getfield 25, 3) := by decide +kernel
theorem dX0_canPay_11 : decode cX0_canPay 11 = .ok (.invokevirtual 36, 3) := by decide +kernel
theorem dX0_canPay_14 : decode cX0_canPay 14 = .ok (.ifCond .ne 7, 3) := by decide +kernel
theorem dX0_canPay_17 : decode cX0_canPay 17 = .ok (.iconst 1, 1) := by decide +kernel
theorem dX0_canPay_18 : decode cX0_canPay 18 = .ok (.goto 4, 3) := by decide +kernel
theorem dX0_canPay_21 : decode cX0_canPay 21 = .ok (.iconst 0, 1) := by decide +kernel
theorem dX0_canPay_22 : decode cX0_canPay 22 = .ok (.ireturn, 1) := by decide +kernel
theorem dX1_init_0 : decode cX1_init 0 = .ok (.aload_n 0, 1) := by decide +kernel
theorem dX1_init_1 : decode cX1_init 1 = .ok (.invokespecial 1, 3) := by decide +kernel
theorem dX1_init_4 : decode cX1_init 4 = .ok (.return_, 1) := by decide +kernel
theorem dX1_giveTo_0 : decode cX1_giveTo 0 = .ok (.aload_n 0, 1) := by decide +kernel
theorem dX1_giveTo_1 : decode cX1_giveTo 1 = .ok (.dup, 1) := by decide +kernel
theorem dX1_giveTo_2 : decode cX1_giveTo 2 = .ok (.getfield 7, 3) := by decide +kernel
theorem dX1_giveTo_5 : decode cX1_giveTo 5 = .ok (.iload_n 2, 1) := by decide +kernel
theorem dX1_giveTo_6 : decode cX1_giveTo 6 = .ok (.isub, 1) := by decide +kernel
theorem dX1_giveTo_7 : decode cX1_giveTo 7 = .ok (.putfield 7, 3) := by decide +kernel
theorem dX1_giveTo_10 : decode cX1_giveTo 10 = .ok (.aload_n 1, 1) := by decide +kernel
theorem dX1_giveTo_11 : decode cX1_giveTo 11 = .ok (.dup, 1) := by decide +kernel
theorem dX1_giveTo_12 : decode cX1_giveTo 12 = .ok (.getfield 7, 3) := by decide +kernel
theorem dX1_giveTo_15 : decode cX1_giveTo 15 = .ok (.iload_n 2, 1) := by decide +kernel
theorem dX1_giveTo_16 : decode cX1_giveTo 16 = .ok (.iadd, 1) := by decide +kernel
theorem dX1_giveTo_17 : decode cX1_giveTo 17 = .ok (.putfield 7, 3) := by decide +kernel
theorem dX1_giveTo_20 : decode cX1_giveTo 20 = .ok (.return_, 1) := by decide +kernel
theorem dX2_init_0 : decode cX2_init 0 = .ok (.aload_n 0, 1) := by decide +kernel
theorem dX2_init_1 : decode cX2_init 1 = .ok (.invokespecial 1, 3) := by decide +kernel
theorem dX2_init_4 : decode cX2_init 4 = .ok (.aload_n 0, 1) := by decide +kernel
theorem dX2_init_5 : decode cX2_init 5 = .ok (.iload_n 1, 1) := by decide +kernel
theorem dX2_init_6 : decode cX2_init 6 = .ok (.putfield 7, 3) := by decide +kernel
theorem dX2_init_9 : decode cX2_init 9 = .ok (.aload_n 0, 1) := by decide +kernel
theorem dX2_init_10 : decode cX2_init 10 = .ok (.iload_n 2, 1) := by decide +kernel
theorem dX2_init_11 : decode cX2_init 11 = .ok (.putfield 13, 3) := by decide +kernel
theorem dX2_init_14 : decode cX2_init 14 = .ok (.aload_n 0, 1) := by decide +kernel
theorem dX2_init_15 : decode cX2_init 15 = .ok (.iload_n 3, 1) := by decide +kernel
theorem dX2_init_16 : decode cX2_init 16 = .ok (.putfield 16, 3) := by decide +kernel
theorem dX2_init_19 : decode cX2_init 19 = .ok (.return_, 1) := by decide +kernel
theorem dX2_partOf_0 : decode cX2_partOf 0 = .ok (.iload_n 1, 1) := by decide +kernel
theorem dX2_partOf_1 : decode cX2_partOf 1 = .ok (.lookupswitch 47 #[(0, 27), (1, 37)], 27) := by decide +kernel
theorem dX2_partOf_28 : decode cX2_partOf 28 = .ok (.aload_n 0, 1) := by decide +kernel
theorem dX2_partOf_29 : decode cX2_partOf 29 = .ok (.getfield 7, 3) := by decide +kernel
theorem dX2_partOf_32 : decode cX2_partOf 32 = .ok (.aload_n 0, 1) := by decide +kernel
theorem dX2_partOf_33 : decode cX2_partOf 33 = .ok (.getfield 13, 3) := by decide +kernel
theorem dX2_partOf_36 : decode cX2_partOf 36 = .ok (.isub, 1) := by decide +kernel
theorem dX2_partOf_37 : decode cX2_partOf 37 = .ok (.ireturn, 1) := by decide +kernel
theorem dX2_partOf_38 : decode cX2_partOf 38 = .ok (.aload_n 0, 1) := by decide +kernel
theorem dX2_partOf_39 : decode cX2_partOf 39 = .ok (.getfield 13, 3) := by decide +kernel
theorem dX2_partOf_42 : decode cX2_partOf 42 = .ok (.aload_n 0, 1) := by decide +kernel
theorem dX2_partOf_43 : decode cX2_partOf 43 = .ok (.getfield 16, 3) := by decide +kernel
theorem dX2_partOf_46 : decode cX2_partOf 46 = .ok (.isub, 1) := by decide +kernel
theorem dX2_partOf_47 : decode cX2_partOf 47 = .ok (.ireturn, 1) := by decide +kernel
theorem dX2_partOf_48 : decode cX2_partOf 48 = .ok (.aload_n 0, 1) := by decide +kernel
theorem dX2_partOf_49 : decode cX2_partOf 49 = .ok (.getfield 16, 3) := by decide +kernel
theorem dX2_partOf_52 : decode cX2_partOf 52 = .ok (.ireturn, 1) := by decide +kernel
theorem dX2_hadBy_0 : decode cX2_hadBy 0 = .ok (.iload_n 1, 1) := by decide +kernel
theorem dX2_hadBy_1 : decode cX2_hadBy 1 = .ok (.lookupswitch 37 #[(0, 27), (1, 32)], 27) := by decide +kernel
theorem dX2_hadBy_28 : decode cX2_hadBy 28 = .ok (.aload_n 0, 1) := by decide +kernel
theorem dX2_hadBy_29 : decode cX2_hadBy 29 = .ok (.getfield 19, 3) := by decide +kernel
theorem dX2_hadBy_32 : decode cX2_hadBy 32 = .ok (.ireturn, 1) := by decide +kernel
theorem dX2_hadBy_33 : decode cX2_hadBy 33 = .ok (.aload_n 0, 1) := by decide +kernel
theorem dX2_hadBy_34 : decode cX2_hadBy 34 = .ok (.getfield 22, 3) := by decide +kernel
theorem dX2_hadBy_37 : decode cX2_hadBy 37 = .ok (.ireturn, 1) := by decide +kernel
theorem dX2_hadBy_38 : decode cX2_hadBy 38 = .ok (.aload_n 0, 1) := by decide +kernel
theorem dX2_hadBy_39 : decode cX2_hadBy 39 = .ok (.getfield 25, 3) := by decide +kernel
theorem dX2_hadBy_42 : decode cX2_hadBy 42 = .ok (.ireturn, 1) := by decide +kernel
theorem dX2_recover_0 : decode cX2_recover 0 = .ok (.aload_n 0, 1) := by decide +kernel
theorem dX2_recover_1 : decode cX2_recover 1 = .ok (.getfield 22, 3) := by decide +kernel
theorem dX2_recover_4 : decode cX2_recover 4 = .ok (.istore_n 2, 1) := by decide +kernel
theorem dX2_recover_5 : decode cX2_recover 5 = .ok (.aload_n 0, 1) := by decide +kernel
theorem dX2_recover_6 : decode cX2_recover 6 = .ok (.getfield 25, 3) := by decide +kernel
theorem dX2_recover_9 : decode cX2_recover 9 = .ok (.istore_n 3, 1) := by decide +kernel
theorem dX2_recover_10 : decode cX2_recover 10 = .ok (.aload_n 0, 1) := by decide +kernel
theorem dX2_recover_11 : decode cX2_recover 11 = .ok (.dup, 1) := by decide +kernel
theorem dX2_recover_12 : decode cX2_recover 12 = .ok (.getfield 28, 3) := by decide +kernel
theorem dX2_recover_15 : decode cX2_recover 15 = .ok (.iload_n 1, 1) := by decide +kernel
theorem dX2_recover_16 : decode cX2_recover 16 = .ok (.iadd, 1) := by decide +kernel
theorem dX2_recover_17 : decode cX2_recover 17 = .ok (.putfield 28, 3) := by decide +kernel
theorem dX2_recover_20 : decode cX2_recover 20 = .ok (.aload_n 0, 1) := by decide +kernel
theorem dX2_recover_21 : decode cX2_recover 21 = .ok (.aload_n 0, 1) := by decide +kernel
theorem dX2_recover_22 : decode cX2_recover 22 = .ok (.aload_n 0, 1) := by decide +kernel
theorem dX2_recover_23 : decode cX2_recover 23 = .ok (.iconst 1, 1) := by decide +kernel
theorem dX2_recover_24 : decode cX2_recover 24 = .ok (.invokevirtual 31, 3) := by decide +kernel
theorem dX2_recover_27 : decode cX2_recover 27 = .ok (.invokevirtual 35, 3) := by decide +kernel
theorem dX2_recover_30 : decode cX2_recover 30 = .ok (.putfield 22, 3) := by decide +kernel
theorem dX2_recover_33 : decode cX2_recover 33 = .ok (.aload_n 0, 1) := by decide +kernel
theorem dX2_recover_34 : decode cX2_recover 34 = .ok (.aload_n 0, 1) := by decide +kernel
theorem dX2_recover_35 : decode cX2_recover 35 = .ok (.aload_n 0, 1) := by decide +kernel
theorem dX2_recover_36 : decode cX2_recover 36 = .ok (.iconst 2, 1) := by decide +kernel
theorem dX2_recover_37 : decode cX2_recover 37 = .ok (.invokevirtual 31, 3) := by decide +kernel
theorem dX2_recover_40 : decode cX2_recover 40 = .ok (.invokevirtual 35, 3) := by decide +kernel
theorem dX2_recover_43 : decode cX2_recover 43 = .ok (.putfield 25, 3) := by decide +kernel
theorem dX2_recover_46 : decode cX2_recover 46 = .ok (.aload_n 0, 1) := by decide +kernel
theorem dX2_recover_47 : decode cX2_recover 47 = .ok (.dup, 1) := by decide +kernel
theorem dX2_recover_48 : decode cX2_recover 48 = .ok (.getfield 19, 3) := by decide +kernel
theorem dX2_recover_51 : decode cX2_recover 51 = .ok (.iload_n 1, 1) := by decide +kernel
theorem dX2_recover_52 : decode cX2_recover 52 = .ok (.aload_n 0, 1) := by decide +kernel
theorem dX2_recover_53 : decode cX2_recover 53 = .ok (.getfield 22, 3) := by decide +kernel
theorem dX2_recover_56 : decode cX2_recover 56 = .ok (.iload_n 2, 1) := by decide +kernel
theorem dX2_recover_57 : decode cX2_recover 57 = .ok (.isub, 1) := by decide +kernel
theorem dX2_recover_58 : decode cX2_recover 58 = .ok (.isub, 1) := by decide +kernel
theorem dX2_recover_59 : decode cX2_recover 59 = .ok (.aload_n 0, 1) := by decide +kernel
theorem dX2_recover_60 : decode cX2_recover 60 = .ok (.getfield 25, 3) := by decide +kernel
theorem dX2_recover_63 : decode cX2_recover 63 = .ok (.iload_n 3, 1) := by decide +kernel
theorem dX2_recover_64 : decode cX2_recover 64 = .ok (.isub, 1) := by decide +kernel
theorem dX2_recover_65 : decode cX2_recover 65 = .ok (.isub, 1) := by decide +kernel
theorem dX2_recover_66 : decode cX2_recover 66 = .ok (.iadd, 1) := by decide +kernel
theorem dX2_recover_67 : decode cX2_recover 67 = .ok (.putfield 19, 3) := by decide +kernel
theorem dX2_recover_70 : decode cX2_recover 70 = .ok (.return_, 1) := by decide +kernel
theorem dX2_dueOf_0 : decode cX2_dueOf 0 = .ok (.aload_n 0, 1) := by decide +kernel
theorem dX2_dueOf_1 : decode cX2_dueOf 1 = .ok (.getfield 7, 3) := by decide +kernel
theorem dX2_dueOf_4 : decode cX2_dueOf 4 = .ok (.ifCond .le 21, 3) := by decide +kernel
theorem dX2_dueOf_7 : decode cX2_dueOf 7 = .ok (.aload_n 0, 1) := by decide +kernel
theorem dX2_dueOf_8 : decode cX2_dueOf 8 = .ok (.getfield 28, 3) := by decide +kernel
theorem dX2_dueOf_11 : decode cX2_dueOf 11 = .ok (.i2l, 1) := by decide +kernel
theorem dX2_dueOf_12 : decode cX2_dueOf 12 = .ok (.iload_n 1, 1) := by decide +kernel
theorem dX2_dueOf_13 : decode cX2_dueOf 13 = .ok (.i2l, 1) := by decide +kernel
theorem dX2_dueOf_14 : decode cX2_dueOf 14 = .ok (.lmul, 1) := by decide +kernel
theorem dX2_dueOf_15 : decode cX2_dueOf 15 = .ok (.aload_n 0, 1) := by decide +kernel
theorem dX2_dueOf_16 : decode cX2_dueOf 16 = .ok (.getfield 7, 3) := by decide +kernel
theorem dX2_dueOf_19 : decode cX2_dueOf 19 = .ok (.i2l, 1) := by decide +kernel
theorem dX2_dueOf_20 : decode cX2_dueOf 20 = .ok (.ldiv, 1) := by decide +kernel
theorem dX2_dueOf_21 : decode cX2_dueOf 21 = .ok (.l2i, 1) := by decide +kernel
theorem dX2_dueOf_22 : decode cX2_dueOf 22 = .ok (.goto 4, 3) := by decide +kernel
theorem dX2_dueOf_25 : decode cX2_dueOf 25 = .ok (.iconst 0, 1) := by decide +kernel
theorem dX2_dueOf_26 : decode cX2_dueOf 26 = .ok (.ireturn, 1) := by decide +kernel
theorem dX2_isSplitSound_0 : decode cX2_isSplitSound 0 = .ok (.aload_n 0, 1) := by decide +kernel
theorem dX2_isSplitSound_1 : decode cX2_isSplitSound 1 = .ok (.iconst 0, 1) := by decide +kernel
theorem dX2_isSplitSound_2 : decode cX2_isSplitSound 2 = .ok (.invokevirtual 31, 3) := by decide +kernel
theorem dX2_isSplitSound_5 : decode cX2_isSplitSound 5 = .ok (.aload_n 0, 1) := by decide +kernel
theorem dX2_isSplitSound_6 : decode cX2_isSplitSound 6 = .ok (.iconst 1, 1) := by decide +kernel
theorem dX2_isSplitSound_7 : decode cX2_isSplitSound 7 = .ok (.invokevirtual 31, 3) := by decide +kernel
theorem dX2_isSplitSound_10 : decode cX2_isSplitSound 10 = .ok (.iadd, 1) := by decide +kernel
theorem dX2_isSplitSound_11 : decode cX2_isSplitSound 11 = .ok (.aload_n 0, 1) := by decide +kernel
theorem dX2_isSplitSound_12 : decode cX2_isSplitSound 12 = .ok (.iconst 2, 1) := by decide +kernel
theorem dX2_isSplitSound_13 : decode cX2_isSplitSound 13 = .ok (.invokevirtual 31, 3) := by decide +kernel
theorem dX2_isSplitSound_16 : decode cX2_isSplitSound 16 = .ok (.iadd, 1) := by decide +kernel
theorem dX2_isSplitSound_17 : decode cX2_isSplitSound 17 = .ok (.aload_n 0, 1) := by decide +kernel
theorem dX2_isSplitSound_18 : decode cX2_isSplitSound 18 = .ok (.getfield 7, 3) := by decide +kernel
theorem dX2_isSplitSound_21 : decode cX2_isSplitSound 21 = .ok (.if_icmp .ne 7, 3) := by decide +kernel
theorem dX2_isSplitSound_24 : decode cX2_isSplitSound 24 = .ok (.iconst 1, 1) := by decide +kernel
theorem dX2_isSplitSound_25 : decode cX2_isSplitSound 25 = .ok (.goto 4, 3) := by decide +kernel
theorem dX2_isSplitSound_28 : decode cX2_isSplitSound 28 = .ok (.iconst 0, 1) := by decide +kernel
theorem dX2_isSplitSound_29 : decode cX2_isSplitSound 29 = .ok (.istore_n 1, 1) := by decide +kernel
theorem dX2_isSplitSound_30 : decode cX2_isSplitSound 30 = .ok (.iload_n 1, 1) := by decide +kernel
theorem dX2_isSplitSound_31 : decode cX2_isSplitSound 31 = .ok (.ifCond .eq 31, 3) := by decide +kernel
theorem dX2_isSplitSound_34 : decode cX2_isSplitSound 34 = .ok (.aload_n 0, 1) := by decide +kernel
theorem dX2_isSplitSound_35 : decode cX2_isSplitSound 35 = .ok (.iconst 0, 1) := by decide +kernel
theorem dX2_isSplitSound_36 : decode cX2_isSplitSound 36 = .ok (.invokevirtual 38, 3) := by decide +kernel
theorem dX2_isSplitSound_39 : decode cX2_isSplitSound 39 = .ok (.aload_n 0, 1) := by decide +kernel
theorem dX2_isSplitSound_40 : decode cX2_isSplitSound 40 = .ok (.iconst 1, 1) := by decide +kernel
theorem dX2_isSplitSound_41 : decode cX2_isSplitSound 41 = .ok (.invokevirtual 38, 3) := by decide +kernel
theorem dX2_isSplitSound_44 : decode cX2_isSplitSound 44 = .ok (.iadd, 1) := by decide +kernel
theorem dX2_isSplitSound_45 : decode cX2_isSplitSound 45 = .ok (.aload_n 0, 1) := by decide +kernel
theorem dX2_isSplitSound_46 : decode cX2_isSplitSound 46 = .ok (.iconst 2, 1) := by decide +kernel
theorem dX2_isSplitSound_47 : decode cX2_isSplitSound 47 = .ok (.invokevirtual 38, 3) := by decide +kernel
theorem dX2_isSplitSound_50 : decode cX2_isSplitSound 50 = .ok (.iadd, 1) := by decide +kernel
theorem dX2_isSplitSound_51 : decode cX2_isSplitSound 51 = .ok (.aload_n 0, 1) := by decide +kernel
theorem dX2_isSplitSound_52 : decode cX2_isSplitSound 52 = .ok (.getfield 28, 3) := by decide +kernel
theorem dX2_isSplitSound_55 : decode cX2_isSplitSound 55 = .ok (.if_icmp .ne 7, 3) := by decide +kernel
theorem dX2_isSplitSound_58 : decode cX2_isSplitSound 58 = .ok (.iconst 1, 1) := by decide +kernel
theorem dX2_isSplitSound_59 : decode cX2_isSplitSound 59 = .ok (.goto 4, 3) := by decide +kernel
theorem dX2_isSplitSound_62 : decode cX2_isSplitSound 62 = .ok (.iconst 0, 1) := by decide +kernel
theorem dX2_isSplitSound_63 : decode cX2_isSplitSound 63 = .ok (.ireturn, 1) := by decide +kernel
theorem dX3_init_0 : decode cX3_init 0 = .ok (.aload_n 0, 1) := by decide +kernel
theorem dX3_init_1 : decode cX3_init 1 = .ok (.invokespecial 1, 3) := by decide +kernel
theorem dX3_init_4 : decode cX3_init 4 = .ok (.aload_n 0, 1) := by decide +kernel
theorem dX3_init_5 : decode cX3_init 5 = .ok (.iload_n 1, 1) := by decide +kernel
theorem dX3_init_6 : decode cX3_init 6 = .ok (.putfield 7, 3) := by decide +kernel
theorem dX3_init_9 : decode cX3_init 9 = .ok (.aload_n 0, 1) := by decide +kernel
theorem dX3_init_10 : decode cX3_init 10 = .ok (.iload_n 2, 1) := by decide +kernel
theorem dX3_init_11 : decode cX3_init 11 = .ok (.putfield 13, 3) := by decide +kernel
theorem dX3_init_14 : decode cX3_init 14 = .ok (.aload_n 0, 1) := by decide +kernel
theorem dX3_init_15 : decode cX3_init 15 = .ok (.iload_n 3, 1) := by decide +kernel
theorem dX3_init_16 : decode cX3_init 16 = .ok (.putfield 16, 3) := by decide +kernel
theorem dX3_init_19 : decode cX3_init 19 = .ok (.return_, 1) := by decide +kernel
theorem dX3_nextOf_0 : decode cX3_nextOf 0 = .ok (.aload_n 0, 1) := by decide +kernel
theorem dX3_nextOf_1 : decode cX3_nextOf 1 = .ok (.dup, 1) := by decide +kernel
theorem dX3_nextOf_2 : decode cX3_nextOf 2 = .ok (.getfield 19, 3) := by decide +kernel
theorem dX3_nextOf_5 : decode cX3_nextOf 5 = .ok (.iconst 1, 1) := by decide +kernel
theorem dX3_nextOf_6 : decode cX3_nextOf 6 = .ok (.iadd, 1) := by decide +kernel
theorem dX3_nextOf_7 : decode cX3_nextOf 7 = .ok (.putfield 19, 3) := by decide +kernel
theorem dX3_nextOf_10 : decode cX3_nextOf 10 = .ok (.aload_n 0, 1) := by decide +kernel
theorem dX3_nextOf_11 : decode cX3_nextOf 11 = .ok (.getfield 16, 3) := by decide +kernel
theorem dX3_nextOf_14 : decode cX3_nextOf 14 = .ok (.ifCond .le 14, 3) := by decide +kernel
theorem dX3_nextOf_17 : decode cX3_nextOf 17 = .ok (.aload_n 0, 1) := by decide +kernel
theorem dX3_nextOf_18 : decode cX3_nextOf 18 = .ok (.getfield 19, 3) := by decide +kernel
theorem dX3_nextOf_21 : decode cX3_nextOf 21 = .ok (.aload_n 0, 1) := by decide +kernel
theorem dX3_nextOf_22 : decode cX3_nextOf 22 = .ok (.getfield 16, 3) := by decide +kernel
theorem dX3_nextOf_25 : decode cX3_nextOf 25 = .ok (.if_icmp .lt 5, 3) := by decide +kernel
theorem dX3_nextOf_28 : decode cX3_nextOf 28 = .ok (.iload_n 1, 1) := by decide +kernel
theorem dX3_nextOf_29 : decode cX3_nextOf 29 = .ok (.ireturn, 1) := by decide +kernel
theorem dX3_nextOf_30 : decode cX3_nextOf 30 = .ok (.iload_n 1, 1) := by decide +kernel
theorem dX3_nextOf_31 : decode cX3_nextOf 31 = .ok (.aload_n 0, 1) := by decide +kernel
theorem dX3_nextOf_32 : decode cX3_nextOf 32 = .ok (.getfield 7, 3) := by decide +kernel
theorem dX3_nextOf_35 : decode cX3_nextOf 35 = .ok (.aload_n 0, 1) := by decide +kernel
theorem dX3_nextOf_36 : decode cX3_nextOf 36 = .ok (.getfield 16, 3) := by decide +kernel
theorem dX3_nextOf_39 : decode cX3_nextOf 39 = .ok (.idiv, 1) := by decide +kernel
theorem dX3_nextOf_40 : decode cX3_nextOf 40 = .ok (.invokestatic 22, 3) := by decide +kernel
theorem dX3_nextOf_43 : decode cX3_nextOf 43 = .ok (.ireturn, 1) := by decide +kernel
theorem dX4_init_0 : decode cX4_init 0 = .ok (.aload_n 0, 1) := by decide +kernel
theorem dX4_init_1 : decode cX4_init 1 = .ok (.invokespecial 1, 3) := by decide +kernel
theorem dX4_init_4 : decode cX4_init 4 = .ok (.aload_n 0, 1) := by decide +kernel
theorem dX4_init_5 : decode cX4_init 5 = .ok (.new 7, 3) := by decide +kernel
theorem dX4_init_8 : decode cX4_init 8 = .ok (.dup, 1) := by decide +kernel
theorem dX4_init_9 : decode cX4_init 9 = .ok (.invokespecial 9, 3) := by decide +kernel
theorem dX4_init_12 : decode cX4_init 12 = .ok (.putfield 10, 3) := by decide +kernel
theorem dX4_init_15 : decode cX4_init 15 = .ok (.aload_n 0, 1) := by decide +kernel
theorem dX4_init_16 : decode cX4_init 16 = .ok (.iload_n 1, 1) := by decide +kernel
theorem dX4_init_17 : decode cX4_init 17 = .ok (.putfield 16, 3) := by decide +kernel
theorem dX4_init_20 : decode cX4_init 20 = .ok (.return_, 1) := by decide +kernel
theorem dX4_suppliers_0 : decode cX4_suppliers 0 = .ok (.aload_n 0, 1) := by decide +kernel
theorem dX4_suppliers_1 : decode cX4_suppliers 1 = .ok (.getfield 20, 3) := by decide +kernel
theorem dX4_suppliers_4 : decode cX4_suppliers 4 = .ok (.aload_n 0, 1) := by decide +kernel
theorem dX4_suppliers_5 : decode cX4_suppliers 5 = .ok (.getfield 23, 3) := by decide +kernel
theorem dX4_suppliers_8 : decode cX4_suppliers 8 = .ok (.ior, 1) := by decide +kernel
theorem dX4_suppliers_9 : decode cX4_suppliers 9 = .ok (.ireturn, 1) := by decide +kernel
theorem dX5_init_0 : decode cX5_init 0 = .ok (.aload_n 0, 1) := by decide +kernel
theorem dX5_init_1 : decode cX5_init 1 = .ok (.invokespecial 3, 3) := by decide +kernel
theorem dX5_init_4 : decode cX5_init 4 = .ok (.aload_n 0, 1) := by decide +kernel
theorem dX5_init_5 : decode cX5_init 5 = .ok (.iconst (-1), 1) := by decide +kernel
theorem dX5_init_6 : decode cX5_init 6 = .ok (.putfield 9, 3) := by decide +kernel
theorem dX5_init_9 : decode cX5_init 9 = .ok (.aload_n 0, 1) := by decide +kernel
theorem dX5_init_10 : decode cX5_init 10 = .ok (.iconst (-1), 1) := by decide +kernel
theorem dX5_init_11 : decode cX5_init 11 = .ok (.putfield 15, 3) := by decide +kernel
theorem dX5_init_14 : decode cX5_init 14 = .ok (.aload_n 0, 1) := by decide +kernel
theorem dX5_init_15 : decode cX5_init 15 = .ok (.iconst (-1), 1) := by decide +kernel
theorem dX5_init_16 : decode cX5_init 16 = .ok (.putfield 18, 3) := by decide +kernel
theorem dX5_init_19 : decode cX5_init 19 = .ok (.aload_n 0, 1) := by decide +kernel
theorem dX5_init_20 : decode cX5_init 20 = .ok (.iload_n 1, 1) := by decide +kernel
theorem dX5_init_21 : decode cX5_init 21 = .ok (.putfield 21, 3) := by decide +kernel
theorem dX5_init_24 : decode cX5_init 24 = .ok (.aload_n 0, 1) := by decide +kernel
theorem dX5_init_25 : decode cX5_init 25 = .ok (.iload_n 2, 1) := by decide +kernel
theorem dX5_init_26 : decode cX5_init 26 = .ok (.putfield 24, 3) := by decide +kernel
theorem dX5_init_29 : decode cX5_init 29 = .ok (.aload_n 0, 1) := by decide +kernel
theorem dX5_init_30 : decode cX5_init 30 = .ok (.iload_n 3, 1) := by decide +kernel
theorem dX5_init_31 : decode cX5_init 31 = .ok (.putfield 27, 3) := by decide +kernel
theorem dX5_init_34 : decode cX5_init 34 = .ok (.return_, 1) := by decide +kernel
theorem dX5_trouble_0 : decode cX5_trouble 0 = .ok (.aload_n 0, 1) := by decide +kernel
theorem dX5_trouble_1 : decode cX5_trouble 1 = .ok (.getfield 9, 3) := by decide +kernel
theorem dX5_trouble_4 : decode cX5_trouble 4 = .ok (.iconst (-1), 1) := by decide +kernel
theorem dX5_trouble_5 : decode cX5_trouble 5 = .ok (.if_icmp .ne 8, 3) := by decide +kernel
theorem dX5_trouble_8 : decode cX5_trouble 8 = .ok (.aload_n 0, 1) := by decide +kernel
theorem dX5_trouble_9 : decode cX5_trouble 9 = .ok (.getfield 15, 3) := by decide +kernel
theorem dX5_trouble_12 : decode cX5_trouble 12 = .ok (.ireturn, 1) := by decide +kernel
theorem dX5_trouble_13 : decode cX5_trouble 13 = .ok (.aload_n 0, 1) := by decide +kernel
theorem dX5_trouble_14 : decode cX5_trouble 14 = .ok (.getfield 15, 3) := by decide +kernel
theorem dX5_trouble_17 : decode cX5_trouble 17 = .ok (.iconst (-1), 1) := by decide +kernel
theorem dX5_trouble_18 : decode cX5_trouble 18 = .ok (.if_icmp .ne 10, 3) := by decide +kernel
theorem dX5_trouble_21 : decode cX5_trouble 21 = .ok (.aload_n 0, 1) := by decide +kernel
theorem dX5_trouble_22 : decode cX5_trouble 22 = .ok (.getfield 9, 3) := by decide +kernel
theorem dX5_trouble_25 : decode cX5_trouble 25 = .ok (.goto 14, 3) := by decide +kernel
theorem dX5_trouble_28 : decode cX5_trouble 28 = .ok (.aload_n 0, 1) := by decide +kernel
theorem dX5_trouble_29 : decode cX5_trouble 29 = .ok (.getfield 9, 3) := by decide +kernel
theorem dX5_trouble_32 : decode cX5_trouble 32 = .ok (.aload_n 0, 1) := by decide +kernel
theorem dX5_trouble_33 : decode cX5_trouble 33 = .ok (.getfield 15, 3) := by decide +kernel
theorem dX5_trouble_36 : decode cX5_trouble 36 = .ok (.invokestatic 30, 3) := by decide +kernel
theorem dX5_trouble_39 : decode cX5_trouble 39 = .ok (.ireturn, 1) := by decide +kernel
theorem dX5_isTroubled_0 : decode cX5_isTroubled 0 = .ok (.aload_n 0, 1) := by decide +kernel
theorem dX5_isTroubled_1 : decode cX5_isTroubled 1 = .ok (.invokevirtual 36, 3) := by decide +kernel
theorem dX5_isTroubled_4 : decode cX5_isTroubled 4 = .ok (.iconst (-1), 1) := by decide +kernel
theorem dX5_isTroubled_5 : decode cX5_isTroubled 5 = .ok (.if_icmp .eq 7, 3) := by decide +kernel
theorem dX5_isTroubled_8 : decode cX5_isTroubled 8 = .ok (.iconst 1, 1) := by decide +kernel
theorem dX5_isTroubled_9 : decode cX5_isTroubled 9 = .ok (.goto 4, 3) := by decide +kernel
theorem dX5_isTroubled_12 : decode cX5_isTroubled 12 = .ok (.iconst 0, 1) := by decide +kernel
theorem dX5_isTroubled_13 : decode cX5_isTroubled 13 = .ok (.ireturn, 1) := by decide +kernel
theorem dX5_noticeOn_0 : decode cX5_noticeOn 0 = .ok (.aload_n 0, 1) := by decide +kernel
theorem dX5_noticeOn_1 : decode cX5_noticeOn 1 = .ok (.getfield 18, 3) := by decide +kernel
theorem dX5_noticeOn_4 : decode cX5_noticeOn 4 = .ok (.iconst (-1), 1) := by decide +kernel
theorem dX5_noticeOn_5 : decode cX5_noticeOn 5 = .ok (.if_icmp .eq 18, 3) := by decide +kernel
theorem dX5_noticeOn_8 : decode cX5_noticeOn 8 = .ok (.iload_n 1, 1) := by decide +kernel
theorem dX5_noticeOn_9 : decode cX5_noticeOn 9 = .ok (.aload_n 0, 1) := by decide +kernel
theorem dX5_noticeOn_10 : decode cX5_noticeOn 10 = .ok (.getfield 18, 3) := by decide +kernel
theorem dX5_noticeOn_13 : decode cX5_noticeOn 13 = .ok (.isub, 1) := by decide +kernel
theorem dX5_noticeOn_14 : decode cX5_noticeOn 14 = .ok (.bipush 90, 2) := by decide +kernel
theorem dX5_noticeOn_16 : decode cX5_noticeOn 16 = .ok (.if_icmp .ge 7, 3) := by decide +kernel
theorem dX5_noticeOn_19 : decode cX5_noticeOn 19 = .ok (.iconst 1, 1) := by decide +kernel
theorem dX5_noticeOn_20 : decode cX5_noticeOn 20 = .ok (.goto 4, 3) := by decide +kernel
theorem dX5_noticeOn_23 : decode cX5_noticeOn 23 = .ok (.iconst 0, 1) := by decide +kernel
theorem dX5_noticeOn_24 : decode cX5_noticeOn 24 = .ok (.istore_n 2, 1) := by decide +kernel
theorem dX5_noticeOn_25 : decode cX5_noticeOn 25 = .ok (.iload_n 2, 1) := by decide +kernel
theorem dX5_noticeOn_26 : decode cX5_noticeOn 26 = .ok (.ifCond .eq 10, 3) := by decide +kernel
theorem dX5_noticeOn_29 : decode cX5_noticeOn 29 = .ok (.aload_n 0, 1) := by decide +kernel
theorem dX5_noticeOn_30 : decode cX5_noticeOn 30 = .ok (.getfield 40, 3) := by decide +kernel
theorem dX5_noticeOn_33 : decode cX5_noticeOn 33 = .ok (.goto 4, 3) := by decide +kernel
theorem dX5_noticeOn_36 : decode cX5_noticeOn 36 = .ok (.iconst (-1), 1) := by decide +kernel
theorem dX5_noticeOn_37 : decode cX5_noticeOn 37 = .ok (.ireturn, 1) := by decide +kernel
theorem dX5_rateOn_0 : decode cX5_rateOn 0 = .ok (.iload_n 3, 1) := by decide +kernel
theorem dX5_rateOn_1 : decode cX5_rateOn 1 = .ok (.sipush 179, 3) := by decide +kernel
theorem dX5_rateOn_4 : decode cX5_rateOn 4 = .ok (.iadd, 1) := by decide +kernel
theorem dX5_rateOn_5 : decode cX5_rateOn 5 = .ok (.sipush 180, 3) := by decide +kernel
theorem dX5_rateOn_8 : decode cX5_rateOn 8 = .ok (.idiv, 1) := by decide +kernel
theorem dX5_rateOn_9 : decode cX5_rateOn 9 = .ok (.istore 4, 2) := by decide +kernel
theorem dX5_rateOn_11 : decode cX5_rateOn 11 = .ok (.bipush 8, 2) := by decide +kernel
theorem dX5_rateOn_13 : decode cX5_rateOn 13 = .ok (.iconst 3, 1) := by decide +kernel
theorem dX5_rateOn_14 : decode cX5_rateOn 14 = .ok (.aload_n 0, 1) := by decide +kernel
theorem dX5_rateOn_15 : decode cX5_rateOn 15 = .ok (.getfield 24, 3) := by decide +kernel
theorem dX5_rateOn_18 : decode cX5_rateOn 18 = .ok (.imul, 1) := by decide +kernel
theorem dX5_rateOn_19 : decode cX5_rateOn 19 = .ok (.aload_n 0, 1) := by decide +kernel
theorem dX5_rateOn_20 : decode cX5_rateOn 20 = .ok (.getfield 24, 3) := by decide +kernel
theorem dX5_rateOn_23 : decode cX5_rateOn 23 = .ok (.imul, 1) := by decide +kernel
theorem dX5_rateOn_24 : decode cX5_rateOn 24 = .ok (.iadd, 1) := by decide +kernel
theorem dX5_rateOn_25 : decode cX5_rateOn 25 = .ok (.aload_n 0, 1) := by decide +kernel
theorem dX5_rateOn_26 : decode cX5_rateOn 26 = .ok (.getfield 24, 3) := by decide +kernel
theorem dX5_rateOn_29 : decode cX5_rateOn 29 = .ok (.iconst 1, 1) := by decide +kernel
theorem dX5_rateOn_30 : decode cX5_rateOn 30 = .ok (.iadd, 1) := by decide +kernel
theorem dX5_rateOn_31 : decode cX5_rateOn 31 = .ok (.iload 4, 2) := by decide +kernel
theorem dX5_rateOn_33 : decode cX5_rateOn 33 = .ok (.imul, 1) := by decide +kernel
theorem dX5_rateOn_34 : decode cX5_rateOn 34 = .ok (.iadd, 1) := by decide +kernel
theorem dX5_rateOn_35 : decode cX5_rateOn 35 = .ok (.iconst 4, 1) := by decide +kernel
theorem dX5_rateOn_36 : decode cX5_rateOn 36 = .ok (.iload_n 2, 1) := by decide +kernel
theorem dX5_rateOn_37 : decode cX5_rateOn 37 = .ok (.imul, 1) := by decide +kernel
theorem dX5_rateOn_38 : decode cX5_rateOn 38 = .ok (.iadd, 1) := by decide +kernel
theorem dX5_rateOn_39 : decode cX5_rateOn 39 = .ok (.istore 5, 2) := by decide +kernel
theorem dX5_rateOn_41 : decode cX5_rateOn 41 = .ok (.aload_n 0, 1) := by decide +kernel
theorem dX5_rateOn_42 : decode cX5_rateOn 42 = .ok (.iload_n 1, 1) := by decide +kernel
theorem dX5_rateOn_43 : decode cX5_rateOn 43 = .ok (.invokevirtual 43, 3) := by decide +kernel
theorem dX5_rateOn_46 : decode cX5_rateOn 46 = .ok (.istore 6, 2) := by decide +kernel
theorem dX5_rateOn_48 : decode cX5_rateOn 48 = .ok (.iload 6, 2) := by decide +kernel
theorem dX5_rateOn_50 : decode cX5_rateOn 50 = .ok (.iconst (-1), 1) := by decide +kernel
theorem dX5_rateOn_51 : decode cX5_rateOn 51 = .ok (.if_icmp .ne 8, 3) := by decide +kernel
theorem dX5_rateOn_54 : decode cX5_rateOn 54 = .ok (.iload 5, 2) := by decide +kernel
theorem dX5_rateOn_56 : decode cX5_rateOn 56 = .ok (.goto 10, 3) := by decide +kernel
theorem dX5_rateOn_59 : decode cX5_rateOn 59 = .ok (.iload 5, 2) := by decide +kernel
theorem dX5_rateOn_61 : decode cX5_rateOn 61 = .ok (.iload 6, 2) := by decide +kernel
theorem dX5_rateOn_63 : decode cX5_rateOn 63 = .ok (.invokestatic 30, 3) := by decide +kernel
theorem dX5_rateOn_66 : decode cX5_rateOn 66 = .ok (.ireturn, 1) := by decide +kernel
theorem dX5_longestTermOn_0 : decode cX5_longestTermOn 0 = .ok (.aload_n 0, 1) := by decide +kernel
theorem dX5_longestTermOn_1 : decode cX5_longestTermOn 1 = .ok (.getfield 24, 3) := by decide +kernel
theorem dX5_longestTermOn_4 : decode cX5_longestTermOn 4 = .ok (.iconst 2, 1) := by decide +kernel
theorem dX5_longestTermOn_5 : decode cX5_longestTermOn 5 = .ok (.if_icmp .le 12, 3) := by decide +kernel
theorem dX5_longestTermOn_8 : decode cX5_longestTermOn 8 = .ok (.aload_n 0, 1) := by decide +kernel
theorem dX5_longestTermOn_9 : decode cX5_longestTermOn 9 = .ok (.iload_n 1, 1) := by decide +kernel
theorem dX5_longestTermOn_10 : decode cX5_longestTermOn 10 = .ok (.invokevirtual 43, 3) := by decide +kernel
theorem dX5_longestTermOn_13 : decode cX5_longestTermOn 13 = .ok (.iconst (-1), 1) := by decide +kernel
theorem dX5_longestTermOn_14 : decode cX5_longestTermOn 14 = .ok (.if_icmp .eq 7, 3) := by decide +kernel
theorem dX5_longestTermOn_17 : decode cX5_longestTermOn 17 = .ok (.sipush 3600, 3) := by decide +kernel
theorem dX5_longestTermOn_20 : decode cX5_longestTermOn 20 = .ok (.ireturn, 1) := by decide +kernel
theorem dX5_longestTermOn_21 : decode cX5_longestTermOn 21 = .ok (.aload_n 0, 1) := by decide +kernel
theorem dX5_longestTermOn_22 : decode cX5_longestTermOn 22 = .ok (.getfield 24, 3) := by decide +kernel
theorem dX5_longestTermOn_25 : decode cX5_longestTermOn 25 = .ok (.iconst 5, 1) := by decide +kernel
theorem dX5_longestTermOn_26 : decode cX5_longestTermOn 26 = .ok (.if_icmp .gt 9, 3) := by decide +kernel
theorem dX5_longestTermOn_29 : decode cX5_longestTermOn 29 = .ok (.sipush 1800, 3) := by decide +kernel
theorem dX5_longestTermOn_32 : decode cX5_longestTermOn 32 = .ok (.goto 6, 3) := by decide +kernel
theorem dX5_longestTermOn_35 : decode cX5_longestTermOn 35 = .ok (.sipush 360, 3) := by decide +kernel
theorem dX5_longestTermOn_38 : decode cX5_longestTermOn 38 = .ok (.ireturn, 1) := by decide +kernel
theorem dX5_chanceToFail_0 : decode cX5_chanceToFail 0 = .ok (.aload_n 0, 1) := by decide +kernel
theorem dX5_chanceToFail_1 : decode cX5_chanceToFail 1 = .ok (.getfield 24, 3) := by decide +kernel
theorem dX5_chanceToFail_4 : decode cX5_chanceToFail 4 = .ok (.aload_n 0, 1) := by decide +kernel
theorem dX5_chanceToFail_5 : decode cX5_chanceToFail 5 = .ok (.getfield 24, 3) := by decide +kernel
theorem dX5_chanceToFail_8 : decode cX5_chanceToFail 8 = .ok (.imul, 1) := by decide +kernel
theorem dX5_chanceToFail_9 : decode cX5_chanceToFail 9 = .ok (.iconst 1, 1) := by decide +kernel
theorem dX5_chanceToFail_10 : decode cX5_chanceToFail 10 = .ok (.iadd, 1) := by decide +kernel
theorem dX5_chanceToFail_11 : decode cX5_chanceToFail 11 = .ok (.i2d, 1) := by decide +kernel
theorem dX5_chanceToFail_12 : decode cX5_chanceToFail 12 = .ok (.ldc2_w 47, 3) := by decide +kernel
theorem dX5_chanceToFail_15 : decode cX5_chanceToFail 15 = .ok (.ddiv, 1) := by decide +kernel
theorem dX5_chanceToFail_16 : decode cX5_chanceToFail 16 = .ok (.dreturn, 1) := by decide +kernel
theorem dX6_init_0 : decode cX6_init 0 = .ok (.aload_n 0, 1) := by decide +kernel
theorem dX6_init_1 : decode cX6_init 1 = .ok (.invokespecial 3, 3) := by decide +kernel
theorem dX6_init_4 : decode cX6_init 4 = .ok (.aload_n 0, 1) := by decide +kernel
theorem dX6_init_5 : decode cX6_init 5 = .ok (.bipush 12, 2) := by decide +kernel
theorem dX6_init_7 : decode cX6_init 7 = .ok (.newarray .int, 2) := by decide +kernel
theorem dX6_init_9 : decode cX6_init 9 = .ok (.putfield 9, 3) := by decide +kernel
theorem dX6_init_12 : decode cX6_init 12 = .ok (.aload_n 0, 1) := by decide +kernel
theorem dX6_init_13 : decode cX6_init 13 = .ok (.iload_n 1, 1) := by decide +kernel
theorem dX6_init_14 : decode cX6_init 14 = .ok (.putfield 15, 3) := by decide +kernel
theorem dX6_init_17 : decode cX6_init 17 = .ok (.aload_n 0, 1) := by decide +kernel
theorem dX6_init_18 : decode cX6_init 18 = .ok (.aload_n 2, 1) := by decide +kernel
theorem dX6_init_19 : decode cX6_init 19 = .ok (.putfield 19, 3) := by decide +kernel
theorem dX6_init_22 : decode cX6_init 22 = .ok (.aload_n 0, 1) := by decide +kernel
theorem dX6_init_23 : decode cX6_init 23 = .ok (.iload_n 3, 1) := by decide +kernel
theorem dX6_init_24 : decode cX6_init 24 = .ok (.putfield 23, 3) := by decide +kernel
theorem dX6_init_27 : decode cX6_init 27 = .ok (.aload_n 0, 1) := by decide +kernel
theorem dX6_init_28 : decode cX6_init 28 = .ok (.iload 4, 2) := by decide +kernel
theorem dX6_init_30 : decode cX6_init 30 = .ok (.putfield 26, 3) := by decide +kernel
theorem dX6_init_33 : decode cX6_init 33 = .ok (.aload_n 0, 1) := by decide +kernel
theorem dX6_init_34 : decode cX6_init 34 = .ok (.iload 5, 2) := by decide +kernel
theorem dX6_init_36 : decode cX6_init 36 = .ok (.putfield 29, 3) := by decide +kernel
theorem dX6_init_39 : decode cX6_init 39 = .ok (.return_, 1) := by decide +kernel
theorem dX6_grantedFor_0 : decode cX6_grantedFor 0 = .ok (.iload_n 1, 1) := by decide +kernel
theorem dX6_grantedFor_1 : decode cX6_grantedFor 1 = .ok (.ifCond .lt 21, 3) := by decide +kernel
theorem dX6_grantedFor_4 : decode cX6_grantedFor 4 = .ok (.iload_n 1, 1) := by decide +kernel
theorem dX6_grantedFor_5 : decode cX6_grantedFor 5 = .ok (.aload_n 0, 1) := by decide +kernel
theorem dX6_grantedFor_6 : decode cX6_grantedFor 6 = .ok (.getfield 9, 3) := by decide +kernel
theorem dX6_grantedFor_9 : decode cX6_grantedFor 9 = .ok (.arraylength, 1) := by decide +kernel
theorem dX6_grantedFor_10 : decode cX6_grantedFor 10 = .ok (.if_icmp .ge 12, 3) := by decide +kernel
theorem dX6_grantedFor_13 : decode cX6_grantedFor 13 = .ok (.aload_n 0, 1) := by decide +kernel
theorem dX6_grantedFor_14 : decode cX6_grantedFor 14 = .ok (.getfield 9, 3) := by decide +kernel
theorem dX6_grantedFor_17 : decode cX6_grantedFor 17 = .ok (.iload_n 1, 1) := by decide +kernel
theorem dX6_grantedFor_18 : decode cX6_grantedFor 18 = .ok (.iaload, 1) := by decide +kernel
theorem dX6_grantedFor_19 : decode cX6_grantedFor 19 = .ok (.goto 4, 3) := by decide +kernel
theorem dX6_grantedFor_22 : decode cX6_grantedFor 22 = .ok (.iconst 0, 1) := by decide +kernel
theorem dX6_grantedFor_23 : decode cX6_grantedFor 23 = .ok (.ireturn, 1) := by decide +kernel
theorem dX6_grant_0 : decode cX6_grant 0 = .ok (.iload_n 1, 1) := by decide +kernel
theorem dX6_grant_1 : decode cX6_grant 1 = .ok (.ifCond .lt 19, 3) := by decide +kernel
theorem dX6_grant_4 : decode cX6_grant 4 = .ok (.iload_n 1, 1) := by decide +kernel
theorem dX6_grant_5 : decode cX6_grant 5 = .ok (.aload_n 0, 1) := by decide +kernel
theorem dX6_grant_6 : decode cX6_grant 6 = .ok (.getfield 9, 3) := by decide +kernel
theorem dX6_grant_9 : decode cX6_grant 9 = .ok (.arraylength, 1) := by decide +kernel
theorem dX6_grant_10 : decode cX6_grant 10 = .ok (.if_icmp .ge 10, 3) := by decide +kernel
theorem dX6_grant_13 : decode cX6_grant 13 = .ok (.aload_n 0, 1) := by decide +kernel
theorem dX6_grant_14 : decode cX6_grant 14 = .ok (.getfield 9, 3) := by decide +kernel
theorem dX6_grant_17 : decode cX6_grant 17 = .ok (.iload_n 1, 1) := by decide +kernel
theorem dX6_grant_18 : decode cX6_grant 18 = .ok (.iload_n 2, 1) := by decide +kernel
theorem dX6_grant_19 : decode cX6_grant 19 = .ok (.iastore, 1) := by decide +kernel
theorem dX6_grant_20 : decode cX6_grant 20 = .ok (.return_, 1) := by decide +kernel
theorem dX7_init_0 : decode cX7_init 0 = .ok (.aload_n 0, 1) := by decide +kernel
theorem dX7_init_1 : decode cX7_init 1 = .ok (.invokespecial 3, 3) := by decide +kernel
theorem dX7_init_4 : decode cX7_init 4 = .ok (.aload_n 0, 1) := by decide +kernel
theorem dX7_init_5 : decode cX7_init 5 = .ok (.aload_n 1, 1) := by decide +kernel
theorem dX7_init_6 : decode cX7_init 6 = .ok (.putfield 9, 3) := by decide +kernel
theorem dX7_init_9 : decode cX7_init 9 = .ok (.aload_n 0, 1) := by decide +kernel
theorem dX7_init_10 : decode cX7_init 10 = .ok (.aload_n 2, 1) := by decide +kernel
theorem dX7_init_11 : decode cX7_init 11 = .ok (.putfield 15, 3) := by decide +kernel
theorem dX7_init_14 : decode cX7_init 14 = .ok (.aload_n 0, 1) := by decide +kernel
theorem dX7_init_15 : decode cX7_init 15 = .ok (.iload_n 3, 1) := by decide +kernel
theorem dX7_init_16 : decode cX7_init 16 = .ok (.putfield 19, 3) := by decide +kernel
theorem dX7_init_19 : decode cX7_init 19 = .ok (.aload_n 0, 1) := by decide +kernel
theorem dX7_init_20 : decode cX7_init 20 = .ok (.iload 4, 2) := by decide +kernel
theorem dX7_init_22 : decode cX7_init 22 = .ok (.putfield 23, 3) := by decide +kernel
theorem dX7_init_25 : decode cX7_init 25 = .ok (.aload_n 0, 1) := by decide +kernel
theorem dX7_init_26 : decode cX7_init 26 = .ok (.iload 4, 2) := by decide +kernel
theorem dX7_init_28 : decode cX7_init 28 = .ok (.iload 5, 2) := by decide +kernel
theorem dX7_init_30 : decode cX7_init 30 = .ok (.iadd, 1) := by decide +kernel
theorem dX7_init_31 : decode cX7_init 31 = .ok (.putfield 26, 3) := by decide +kernel
theorem dX7_init_34 : decode cX7_init 34 = .ok (.aload_n 0, 1) := by decide +kernel
theorem dX7_init_35 : decode cX7_init 35 = .ok (.iload 6, 2) := by decide +kernel
theorem dX7_init_37 : decode cX7_init 37 = .ok (.putfield 29, 3) := by decide +kernel
theorem dX7_init_40 : decode cX7_init 40 = .ok (.aload_n 0, 1) := by decide +kernel
theorem dX7_init_41 : decode cX7_init 41 = .ok (.iload_n 3, 1) := by decide +kernel
theorem dX7_init_42 : decode cX7_init 42 = .ok (.putfield 33, 3) := by decide +kernel
theorem dX7_init_45 : decode cX7_init 45 = .ok (.return_, 1) := by decide +kernel
theorem dX7_keepTerms_0 : decode cX7_keepTerms 0 = .ok (.aload_n 0, 1) := by decide +kernel
theorem dX7_keepTerms_1 : decode cX7_keepTerms 1 = .ok (.iload_n 1, 1) := by decide +kernel
theorem dX7_keepTerms_2 : decode cX7_keepTerms 2 = .ok (.putfield 36, 3) := by decide +kernel
theorem dX7_keepTerms_5 : decode cX7_keepTerms 5 = .ok (.aload_n 0, 1) := by decide +kernel
theorem dX7_keepTerms_6 : decode cX7_keepTerms 6 = .ok (.iload_n 2, 1) := by decide +kernel
theorem dX7_keepTerms_7 : decode cX7_keepTerms 7 = .ok (.putfield 39, 3) := by decide +kernel
theorem dX7_keepTerms_10 : decode cX7_keepTerms 10 = .ok (.aload_n 0, 1) := by decide +kernel
theorem dX7_keepTerms_11 : decode cX7_keepTerms 11 = .ok (.iload_n 3, 1) := by decide +kernel
theorem dX7_keepTerms_12 : decode cX7_keepTerms 12 = .ok (.putfield 42, 3) := by decide +kernel
theorem dX7_keepTerms_15 : decode cX7_keepTerms 15 = .ok (.iload_n 2, 1) := by decide +kernel
theorem dX7_keepTerms_16 : decode cX7_keepTerms 16 = .ok (.iload_n 1, 1) := by decide +kernel
theorem dX7_keepTerms_17 : decode cX7_keepTerms 17 = .ok (.imul, 1) := by decide +kernel
theorem dX7_keepTerms_18 : decode cX7_keepTerms 18 = .ok (.sipush 10000, 3) := by decide +kernel
theorem dX7_keepTerms_21 : decode cX7_keepTerms 21 = .ok (.idiv, 1) := by decide +kernel
theorem dX7_keepTerms_22 : decode cX7_keepTerms 22 = .ok (.istore 4, 2) := by decide +kernel
theorem dX7_keepTerms_24 : decode cX7_keepTerms 24 = .ok (.aload_n 0, 1) := by decide +kernel
theorem dX7_keepTerms_25 : decode cX7_keepTerms 25 = .ok (.iload 4, 2) := by decide +kernel
theorem dX7_keepTerms_27 : decode cX7_keepTerms 27 = .ok (.ifCond .ne 11, 3) := by decide +kernel
theorem dX7_keepTerms_30 : decode cX7_keepTerms 30 = .ok (.iload_n 2, 1) := by decide +kernel
theorem dX7_keepTerms_31 : decode cX7_keepTerms 31 = .ok (.ifCond .eq 7, 3) := by decide +kernel
theorem dX7_keepTerms_34 : decode cX7_keepTerms 34 = .ok (.iconst 1, 1) := by decide +kernel
theorem dX7_keepTerms_35 : decode cX7_keepTerms 35 = .ok (.goto 5, 3) := by decide +kernel
theorem dX7_keepTerms_38 : decode cX7_keepTerms 38 = .ok (.iload 4, 2) := by decide +kernel
theorem dX7_keepTerms_40 : decode cX7_keepTerms 40 = .ok (.putfield 45, 3) := by decide +kernel
theorem dX7_keepTerms_43 : decode cX7_keepTerms 43 = .ok (.return_, 1) := by decide +kernel
theorem dX7_isOpen_0 : decode cX7_isOpen 0 = .ok (.aload_n 0, 1) := by decide +kernel
theorem dX7_isOpen_1 : decode cX7_isOpen 1 = .ok (.getfield 48, 3) := by decide +kernel
theorem dX7_isOpen_4 : decode cX7_isOpen 4 = .ok (.ifnonnull 21, 3) := by decide +kernel
theorem dX7_isOpen_7 : decode cX7_isOpen 7 = .ok (.aload_n 0, 1) := by decide +kernel
theorem dX7_isOpen_8 : decode cX7_isOpen 8 = .ok (.getfield 52, 3) := by decide +kernel
theorem dX7_isOpen_11 : decode cX7_isOpen 11 = .ok (.ifnonnull 14, 3) := by decide +kernel
theorem dX7_isOpen_14 : decode cX7_isOpen 14 = .ok (.aload_n 0, 1) := by decide +kernel
theorem dX7_isOpen_15 : decode cX7_isOpen 15 = .ok (.getfield 56, 3) := by decide +kernel
theorem dX7_isOpen_18 : decode cX7_isOpen 18 = .ok (.ifCond .ne 7, 3) := by decide +kernel
theorem dX7_isOpen_21 : decode cX7_isOpen 21 = .ok (.iconst 1, 1) := by decide +kernel
theorem dX7_isOpen_22 : decode cX7_isOpen 22 = .ok (.goto 4, 3) := by decide +kernel
theorem dX7_isOpen_25 : decode cX7_isOpen 25 = .ok (.iconst 0, 1) := by decide +kernel
theorem dX7_isOpen_26 : decode cX7_isOpen 26 = .ok (.ireturn, 1) := by decide +kernel
theorem dX7_isToPay_0 : decode cX7_isToPay 0 = .ok (.aload_n 0, 1) := by decide +kernel
theorem dX7_isToPay_1 : decode cX7_isToPay 1 = .ok (.getfield 29, 3) := by decide +kernel
theorem dX7_isToPay_4 : decode cX7_isToPay 4 = .ok (.ifCond .ne 28, 3) := by decide +kernel
theorem dX7_isToPay_7 : decode cX7_isToPay 7 = .ok (.aload_n 0, 1) := by decide +kernel
theorem dX7_isToPay_8 : decode cX7_isToPay 8 = .ok (.getfield 56, 3) := by decide +kernel
theorem dX7_isToPay_11 : decode cX7_isToPay 11 = .ok (.ifCond .ne 21, 3) := by decide +kernel
theorem dX7_isToPay_14 : decode cX7_isToPay 14 = .ok (.aload_n 0, 1) := by decide +kernel
theorem dX7_isToPay_15 : decode cX7_isToPay 15 = .ok (.getfield 52, 3) := by decide +kernel
theorem dX7_isToPay_18 : decode cX7_isToPay 18 = .ok (.ifnonnull 14, 3) := by decide +kernel
theorem dX7_isToPay_21 : decode cX7_isToPay 21 = .ok (.aload_n 0, 1) := by decide +kernel
theorem dX7_isToPay_22 : decode cX7_isToPay 22 = .ok (.getfield 33, 3) := by decide +kernel
theorem dX7_isToPay_25 : decode cX7_isToPay 25 = .ok (.ifCond .le 7, 3) := by decide +kernel
theorem dX7_isToPay_28 : decode cX7_isToPay 28 = .ok (.iconst 1, 1) := by decide +kernel
theorem dX7_isToPay_29 : decode cX7_isToPay 29 = .ok (.goto 4, 3) := by decide +kernel
theorem dX7_isToPay_32 : decode cX7_isToPay 32 = .ok (.iconst 0, 1) := by decide +kernel
theorem dX7_isToPay_33 : decode cX7_isToPay 33 = .ok (.ireturn, 1) := by decide +kernel
theorem dX7_atRisk_0 : decode cX7_atRisk 0 = .ok (.aload_n 0, 1) := by decide +kernel
theorem dX7_atRisk_1 : decode cX7_atRisk 1 = .ok (.invokevirtual 59, 3) := by decide +kernel
theorem dX7_atRisk_4 : decode cX7_atRisk 4 = .ok (.ifCond .eq 17, 3) := by decide +kernel
theorem dX7_atRisk_7 : decode cX7_atRisk 7 = .ok (.aload_n 0, 1) := by decide +kernel
theorem dX7_atRisk_8 : decode cX7_atRisk 8 = .ok (.getfield 39, 3) := by decide +kernel
theorem dX7_atRisk_11 : decode cX7_atRisk 11 = .ok (.aload_n 0, 1) := by decide +kernel
theorem dX7_atRisk_12 : decode cX7_atRisk 12 = .ok (.getfield 33, 3) := by decide +kernel
theorem dX7_atRisk_15 : decode cX7_atRisk 15 = .ok (.invokestatic 63, 3) := by decide +kernel
theorem dX7_atRisk_18 : decode cX7_atRisk 18 = .ok (.goto 4, 3) := by decide +kernel
theorem dX7_atRisk_21 : decode cX7_atRisk 21 = .ok (.iconst 0, 1) := by decide +kernel
theorem dX7_atRisk_22 : decode cX7_atRisk 22 = .ok (.ireturn, 1) := by decide +kernel
theorem dX7_isOverdue_0 : decode cX7_isOverdue 0 = .ok (.iload_n 1, 1) := by decide +kernel
theorem dX7_isOverdue_1 : decode cX7_isOverdue 1 = .ok (.aload_n 0, 1) := by decide +kernel
theorem dX7_isOverdue_2 : decode cX7_isOverdue 2 = .ok (.getfield 26, 3) := by decide +kernel
theorem dX7_isOverdue_5 : decode cX7_isOverdue 5 = .ok (.bipush 60, 2) := by decide +kernel
theorem dX7_isOverdue_7 : decode cX7_isOverdue 7 = .ok (.iadd, 1) := by decide +kernel
theorem dX7_isOverdue_8 : decode cX7_isOverdue 8 = .ok (.if_icmp .le 14, 3) := by decide +kernel
theorem dX7_isOverdue_11 : decode cX7_isOverdue 11 = .ok (.aload_n 0, 1) := by decide +kernel
theorem dX7_isOverdue_12 : decode cX7_isOverdue 12 = .ok (.getfield 33, 3) := by decide +kernel
theorem dX7_isOverdue_15 : decode cX7_isOverdue 15 = .ok (.ifCond .le 7, 3) := by decide +kernel
theorem dX7_isOverdue_18 : decode cX7_isOverdue 18 = .ok (.iconst 1, 1) := by decide +kernel
theorem dX7_isOverdue_19 : decode cX7_isOverdue 19 = .ok (.goto 4, 3) := by decide +kernel
theorem dX7_isOverdue_22 : decode cX7_isOverdue 22 = .ok (.iconst 0, 1) := by decide +kernel
theorem dX7_isOverdue_23 : decode cX7_isOverdue 23 = .ok (.ireturn, 1) := by decide +kernel
theorem dX7_causeOn_0 : decode cX7_causeOn 0 = .ok (.iload_n 1, 1) := by decide +kernel
theorem dX7_causeOn_1 : decode cX7_causeOn 1 = .ok (.aload_n 0, 1) := by decide +kernel
theorem dX7_causeOn_2 : decode cX7_causeOn 2 = .ok (.getfield 26, 3) := by decide +kernel
theorem dX7_causeOn_5 : decode cX7_causeOn 5 = .ok (.if_icmp .lt 17, 3) := by decide +kernel
theorem dX7_causeOn_8 : decode cX7_causeOn 8 = .ok (.aload_n 0, 1) := by decide +kernel
theorem dX7_causeOn_9 : decode cX7_causeOn 9 = .ok (.getfield 33, 3) := by decide +kernel
theorem dX7_causeOn_12 : decode cX7_causeOn 12 = .ok (.ifCond .le 10, 3) := by decide +kernel
theorem dX7_causeOn_15 : decode cX7_causeOn 15 = .ok (.aload_n 0, 1) := by decide +kernel
theorem dX7_causeOn_16 : decode cX7_causeOn 16 = .ok (.invokevirtual 69, 3) := by decide +kernel
theorem dX7_causeOn_19 : decode cX7_causeOn 19 = .ok (.goto 4, 3) := by decide +kernel
theorem dX7_causeOn_22 : decode cX7_causeOn 22 = .ok (.iconst 0, 1) := by decide +kernel
theorem dX7_causeOn_23 : decode cX7_causeOn 23 = .ok (.ireturn, 1) := by decide +kernel
theorem dX7_causeOnceDue_0 : decode cX7_causeOnceDue 0 = .ok (.aload_n 0, 1) := by decide +kernel
theorem dX7_causeOnceDue_1 : decode cX7_causeOnceDue 1 = .ok (.getfield 15, 3) := by decide +kernel
theorem dX7_causeOnceDue_4 : decode cX7_causeOnceDue 4 = .ok (.getfield 73, 3) := by decide +kernel
theorem dX7_causeOnceDue_7 : decode cX7_causeOnceDue 7 = .ok (.invokevirtual 79, 3) := by decide +kernel
theorem dX7_causeOnceDue_10 : decode cX7_causeOnceDue 10 = .ok (.istore_n 1, 1) := by decide +kernel
theorem dX7_causeOnceDue_11 : decode cX7_causeOnceDue 11 = .ok (.iload_n 1, 1) := by decide +kernel
theorem dX7_causeOnceDue_12 : decode cX7_causeOnceDue 12 = .ok (.iconst (-1), 1) := by decide +kernel
theorem dX7_causeOnceDue_13 : decode cX7_causeOnceDue 13 = .ok (.if_icmp .eq 15, 3) := by decide +kernel
theorem dX7_causeOnceDue_16 : decode cX7_causeOnceDue 16 = .ok (.iload_n 1, 1) := by decide +kernel
theorem dX7_causeOnceDue_17 : decode cX7_causeOnceDue 17 = .ok (.aload_n 0, 1) := by decide +kernel
theorem dX7_causeOnceDue_18 : decode cX7_causeOnceDue 18 = .ok (.getfield 26, 3) := by decide +kernel
theorem dX7_causeOnceDue_21 : decode cX7_causeOnceDue 21 = .ok (.if_icmp .gt 7, 3) := by decide +kernel
theorem dX7_causeOnceDue_24 : decode cX7_causeOnceDue 24 = .ok (.iconst 1, 1) := by decide +kernel
theorem dX7_causeOnceDue_25 : decode cX7_causeOnceDue 25 = .ok (.goto 4, 3) := by decide +kernel
theorem dX7_causeOnceDue_28 : decode cX7_causeOnceDue 28 = .ok (.iconst 0, 1) := by decide +kernel
theorem dX7_causeOnceDue_29 : decode cX7_causeOnceDue 29 = .ok (.istore_n 2, 1) := by decide +kernel
theorem dX7_causeOnceDue_30 : decode cX7_causeOnceDue 30 = .ok (.aload_n 0, 1) := by decide +kernel
theorem dX7_causeOnceDue_31 : decode cX7_causeOnceDue 31 = .ok (.getfield 15, 3) := by decide +kernel
theorem dX7_causeOnceDue_34 : decode cX7_causeOnceDue 34 = .ok (.invokevirtual 84, 3) := by decide +kernel
theorem dX7_causeOnceDue_37 : decode cX7_causeOnceDue 37 = .ok (.ifCond .eq 18, 3) := by decide +kernel
theorem dX7_causeOnceDue_40 : decode cX7_causeOnceDue 40 = .ok (.aload_n 0, 1) := by decide +kernel
theorem dX7_causeOnceDue_41 : decode cX7_causeOnceDue 41 = .ok (.getfield 15, 3) := by decide +kernel
theorem dX7_causeOnceDue_44 : decode cX7_causeOnceDue 44 = .ok (.getfield 87, 3) := by decide +kernel
theorem dX7_causeOnceDue_47 : decode cX7_causeOnceDue 47 = .ok (.iload_n 1, 1) := by decide +kernel
theorem dX7_causeOnceDue_48 : decode cX7_causeOnceDue 48 = .ok (.if_icmp .ge 7, 3) := by decide +kernel
theorem dX7_causeOnceDue_51 : decode cX7_causeOnceDue 51 = .ok (.iconst 1, 1) := by decide +kernel
theorem dX7_causeOnceDue_52 : decode cX7_causeOnceDue 52 = .ok (.goto 4, 3) := by decide +kernel
theorem dX7_causeOnceDue_55 : decode cX7_causeOnceDue 55 = .ok (.iconst 0, 1) := by decide +kernel
theorem dX7_causeOnceDue_56 : decode cX7_causeOnceDue 56 = .ok (.istore_n 3, 1) := by decide +kernel
theorem dX7_causeOnceDue_57 : decode cX7_causeOnceDue 57 = .ok (.iload_n 2, 1) := by decide +kernel
theorem dX7_causeOnceDue_58 : decode cX7_causeOnceDue 58 = .ok (.ifCond .eq 11, 3) := by decide +kernel
theorem dX7_causeOnceDue_61 : decode cX7_causeOnceDue 61 = .ok (.iload_n 3, 1) := by decide +kernel
theorem dX7_causeOnceDue_62 : decode cX7_causeOnceDue 62 = .ok (.ifCond .ne 7, 3) := by decide +kernel
theorem dX7_causeOnceDue_65 : decode cX7_causeOnceDue 65 = .ok (.iconst 2, 1) := by decide +kernel
theorem dX7_causeOnceDue_66 : decode cX7_causeOnceDue 66 = .ok (.goto 4, 3) := by decide +kernel
theorem dX7_causeOnceDue_69 : decode cX7_causeOnceDue 69 = .ok (.iconst 1, 1) := by decide +kernel
theorem dX7_causeOnceDue_70 : decode cX7_causeOnceDue 70 = .ok (.ireturn, 1) := by decide +kernel
theorem dX7_waiting_0 : decode cX7_waiting 0 = .ok (.aload_n 0, 1) := by decide +kernel
theorem dX7_waiting_1 : decode cX7_waiting 1 = .ok (.invokevirtual 69, 3) := by decide +kernel
theorem dX7_waiting_4 : decode cX7_waiting 4 = .ok (.iconst 2, 1) := by decide +kernel
theorem dX7_waiting_5 : decode cX7_waiting 5 = .ok (.if_icmp .ne 6, 3) := by decide +kernel
theorem dX7_waiting_8 : decode cX7_waiting 8 = .ok (.bipush 90, 2) := by decide +kernel
theorem dX7_waiting_10 : decode cX7_waiting 10 = .ok (.ireturn, 1) := by decide +kernel
theorem dX7_waiting_11 : decode cX7_waiting 11 = .ok (.aload_n 0, 1) := by decide +kernel
theorem dX7_waiting_12 : decode cX7_waiting 12 = .ok (.getfield 15, 3) := by decide +kernel
theorem dX7_waiting_15 : decode cX7_waiting 15 = .ok (.invokevirtual 84, 3) := by decide +kernel
theorem dX7_waiting_18 : decode cX7_waiting 18 = .ok (.ifCond .eq 8, 3) := by decide +kernel
theorem dX7_waiting_21 : decode cX7_waiting 21 = .ok (.bipush 30, 2) := by decide +kernel
theorem dX7_waiting_23 : decode cX7_waiting 23 = .ok (.goto 6, 3) := by decide +kernel
end PD0
