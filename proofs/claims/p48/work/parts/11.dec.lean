section PD1
theorem dX7_waiting_26 : decode cX7_waiting 26 = .ok (.sipush 180, 3) := by decide +kernel
theorem dX7_waiting_29 : decode cX7_waiting 29 = .ok (.ireturn, 1) := by decide +kernel
theorem dX7_claimableFrom_0 : decode cX7_claimableFrom 0 = .ok (.aload_n 0, 1) := by decide +kernel
theorem dX7_claimableFrom_1 : decode cX7_claimableFrom 1 = .ok (.invokevirtual 59, 3) := by decide +kernel
theorem dX7_claimableFrom_4 : decode cX7_claimableFrom 4 = .ok (.ifCond .eq 24, 3) := by decide +kernel
theorem dX7_claimableFrom_7 : decode cX7_claimableFrom 7 = .ok (.aload_n 0, 1) := by decide +kernel
theorem dX7_claimableFrom_8 : decode cX7_claimableFrom 8 = .ok (.getfield 90, 3) := by decide +kernel
theorem dX7_claimableFrom_11 : decode cX7_claimableFrom 11 = .ok (.ifCond .ne 17, 3) := by decide +kernel
theorem dX7_claimableFrom_14 : decode cX7_claimableFrom 14 = .ok (.aload_n 0, 1) := by decide +kernel
theorem dX7_claimableFrom_15 : decode cX7_claimableFrom 15 = .ok (.getfield 33, 3) := by decide +kernel
theorem dX7_claimableFrom_18 : decode cX7_claimableFrom 18 = .ok (.ifCond .le 10, 3) := by decide +kernel
theorem dX7_claimableFrom_21 : decode cX7_claimableFrom 21 = .ok (.aload_n 0, 1) := by decide +kernel
theorem dX7_claimableFrom_22 : decode cX7_claimableFrom 22 = .ok (.getfield 39, 3) := by decide +kernel
theorem dX7_claimableFrom_25 : decode cX7_claimableFrom 25 = .ok (.ifCond .gt 5, 3) := by decide +kernel
theorem dX7_claimableFrom_28 : decode cX7_claimableFrom 28 = .ok (.iconst (-1), 1) := by decide +kernel
theorem dX7_claimableFrom_29 : decode cX7_claimableFrom 29 = .ok (.ireturn, 1) := by decide +kernel
theorem dX7_claimableFrom_30 : decode cX7_claimableFrom 30 = .ok (.aload_n 0, 1) := by decide +kernel
theorem dX7_claimableFrom_31 : decode cX7_claimableFrom 31 = .ok (.getfield 26, 3) := by decide +kernel
theorem dX7_claimableFrom_34 : decode cX7_claimableFrom 34 = .ok (.aload_n 0, 1) := by decide +kernel
theorem dX7_claimableFrom_35 : decode cX7_claimableFrom 35 = .ok (.invokevirtual 93, 3) := by decide +kernel
theorem dX7_claimableFrom_38 : decode cX7_claimableFrom 38 = .ok (.iadd, 1) := by decide +kernel
theorem dX7_claimableFrom_39 : decode cX7_claimableFrom 39 = .ok (.ireturn, 1) := by decide +kernel
theorem dX7_putOff_0 : decode cX7_putOff 0 = .ok (.aload_n 0, 1) := by decide +kernel
theorem dX7_putOff_1 : decode cX7_putOff 1 = .ok (.getfield 33, 3) := by decide +kernel
theorem dX7_putOff_4 : decode cX7_putOff 4 = .ok (.iload_n 1, 1) := by decide +kernel
theorem dX7_putOff_5 : decode cX7_putOff 5 = .ok (.imul, 1) := by decide +kernel
theorem dX7_putOff_6 : decode cX7_putOff 6 = .ok (.bipush 100, 2) := by decide +kernel
theorem dX7_putOff_8 : decode cX7_putOff 8 = .ok (.idiv, 1) := by decide +kernel
theorem dX7_putOff_9 : decode cX7_putOff 9 = .ok (.istore_n 3, 1) := by decide +kernel
theorem dX7_putOff_10 : decode cX7_putOff 10 = .ok (.aload_n 0, 1) := by decide +kernel
theorem dX7_putOff_11 : decode cX7_putOff 11 = .ok (.new 96, 3) := by decide +kernel
theorem dX7_putOff_14 : decode cX7_putOff 14 = .ok (.dup, 1) := by decide +kernel
theorem dX7_putOff_15 : decode cX7_putOff 15 = .ok (.iload_n 3, 1) := by decide +kernel
theorem dX7_putOff_16 : decode cX7_putOff 16 = .ok (.aload_n 0, 1) := by decide +kernel
theorem dX7_putOff_17 : decode cX7_putOff 17 = .ok (.getfield 33, 3) := by decide +kernel
theorem dX7_putOff_20 : decode cX7_putOff 20 = .ok (.iload_n 3, 1) := by decide +kernel
theorem dX7_putOff_21 : decode cX7_putOff 21 = .ok (.isub, 1) := by decide +kernel
theorem dX7_putOff_22 : decode cX7_putOff 22 = .ok (.iload_n 2, 1) := by decide +kernel
theorem dX7_putOff_23 : decode cX7_putOff 23 = .ok (.invokespecial 98, 3) := by decide +kernel
theorem dX7_putOff_26 : decode cX7_putOff 26 = .ok (.putfield 52, 3) := by decide +kernel
theorem dX7_putOff_29 : decode cX7_putOff 29 = .ok (.aload_n 0, 1) := by decide +kernel
theorem dX7_putOff_30 : decode cX7_putOff 30 = .ok (.iload_n 3, 1) := by decide +kernel
theorem dX7_putOff_31 : decode cX7_putOff 31 = .ok (.putfield 33, 3) := by decide +kernel
theorem dX7_putOff_34 : decode cX7_putOff 34 = .ok (.return_, 1) := by decide +kernel
theorem dX7_marks_0 : decode cX7_marks 0 = .ok (.aload_n 0, 1) := by decide +kernel
theorem dX7_marks_1 : decode cX7_marks 1 = .ok (.getfield 101, 3) := by decide +kernel
theorem dX7_marks_4 : decode cX7_marks 4 = .ok (.ifCond .eq 7, 3) := by decide +kernel
theorem dX7_marks_7 : decode cX7_marks 7 = .ok (.iconst 1, 1) := by decide +kernel
theorem dX7_marks_8 : decode cX7_marks 8 = .ok (.goto 4, 3) := by decide +kernel
theorem dX7_marks_11 : decode cX7_marks 11 = .ok (.iconst 0, 1) := by decide +kernel
theorem dX7_marks_12 : decode cX7_marks 12 = .ok (.istore_n 1, 1) := by decide +kernel
theorem dX7_marks_13 : decode cX7_marks 13 = .ok (.iload_n 1, 1) := by decide +kernel
theorem dX7_marks_14 : decode cX7_marks 14 = .ok (.aload_n 0, 1) := by decide +kernel
theorem dX7_marks_15 : decode cX7_marks 15 = .ok (.getfield 90, 3) := by decide +kernel
theorem dX7_marks_18 : decode cX7_marks 18 = .ok (.ifCond .eq 7, 3) := by decide +kernel
theorem dX7_marks_21 : decode cX7_marks 21 = .ok (.iconst 2, 1) := by decide +kernel
theorem dX7_marks_22 : decode cX7_marks 22 = .ok (.goto 4, 3) := by decide +kernel
theorem dX7_marks_25 : decode cX7_marks 25 = .ok (.iconst 0, 1) := by decide +kernel
theorem dX7_marks_26 : decode cX7_marks 26 = .ok (.iadd, 1) := by decide +kernel
theorem dX7_marks_27 : decode cX7_marks 27 = .ok (.istore_n 1, 1) := by decide +kernel
theorem dX7_marks_28 : decode cX7_marks 28 = .ok (.iload_n 1, 1) := by decide +kernel
theorem dX7_marks_29 : decode cX7_marks 29 = .ok (.aload_n 0, 1) := by decide +kernel
theorem dX7_marks_30 : decode cX7_marks 30 = .ok (.getfield 48, 3) := by decide +kernel
theorem dX7_marks_33 : decode cX7_marks 33 = .ok (.ifnull 7, 3) := by decide +kernel
theorem dX7_marks_36 : decode cX7_marks 36 = .ok (.iconst 4, 1) := by decide +kernel
theorem dX7_marks_37 : decode cX7_marks 37 = .ok (.goto 4, 3) := by decide +kernel
theorem dX7_marks_40 : decode cX7_marks 40 = .ok (.iconst 0, 1) := by decide +kernel
theorem dX7_marks_41 : decode cX7_marks 41 = .ok (.iadd, 1) := by decide +kernel
theorem dX7_marks_42 : decode cX7_marks 42 = .ok (.istore_n 1, 1) := by decide +kernel
theorem dX7_marks_43 : decode cX7_marks 43 = .ok (.iload_n 1, 1) := by decide +kernel
theorem dX7_marks_44 : decode cX7_marks 44 = .ok (.aload_n 0, 1) := by decide +kernel
theorem dX7_marks_45 : decode cX7_marks 45 = .ok (.getfield 52, 3) := by decide +kernel
theorem dX7_marks_48 : decode cX7_marks 48 = .ok (.ifnull 8, 3) := by decide +kernel
theorem dX7_marks_51 : decode cX7_marks 51 = .ok (.bipush 8, 2) := by decide +kernel
theorem dX7_marks_53 : decode cX7_marks 53 = .ok (.goto 4, 3) := by decide +kernel
theorem dX7_marks_56 : decode cX7_marks 56 = .ok (.iconst 0, 1) := by decide +kernel
theorem dX7_marks_57 : decode cX7_marks 57 = .ok (.iadd, 1) := by decide +kernel
theorem dX7_marks_58 : decode cX7_marks 58 = .ok (.istore_n 1, 1) := by decide +kernel
theorem dX7_marks_59 : decode cX7_marks 59 = .ok (.iload_n 1, 1) := by decide +kernel
theorem dX7_marks_60 : decode cX7_marks 60 = .ok (.aload_n 0, 1) := by decide +kernel
theorem dX7_marks_61 : decode cX7_marks 61 = .ok (.getfield 56, 3) := by decide +kernel
theorem dX7_marks_64 : decode cX7_marks 64 = .ok (.ifCond .eq 8, 3) := by decide +kernel
theorem dX7_marks_67 : decode cX7_marks 67 = .ok (.bipush 16, 2) := by decide +kernel
theorem dX7_marks_69 : decode cX7_marks 69 = .ok (.goto 4, 3) := by decide +kernel
theorem dX7_marks_72 : decode cX7_marks 72 = .ok (.iconst 0, 1) := by decide +kernel
theorem dX7_marks_73 : decode cX7_marks 73 = .ok (.iadd, 1) := by decide +kernel
theorem dX7_marks_74 : decode cX7_marks 74 = .ok (.istore_n 1, 1) := by decide +kernel
theorem dX7_marks_75 : decode cX7_marks 75 = .ok (.iload_n 1, 1) := by decide +kernel
theorem dX7_marks_76 : decode cX7_marks 76 = .ok (.aload_n 0, 1) := by decide +kernel
theorem dX7_marks_77 : decode cX7_marks 77 = .ok (.getfield 29, 3) := by decide +kernel
theorem dX7_marks_80 : decode cX7_marks 80 = .ok (.ifCond .eq 8, 3) := by decide +kernel
theorem dX7_marks_83 : decode cX7_marks 83 = .ok (.bipush 32, 2) := by decide +kernel
theorem dX7_marks_85 : decode cX7_marks 85 = .ok (.goto 4, 3) := by decide +kernel
theorem dX7_marks_88 : decode cX7_marks 88 = .ok (.iconst 0, 1) := by decide +kernel
theorem dX7_marks_89 : decode cX7_marks 89 = .ok (.iadd, 1) := by decide +kernel
theorem dX7_marks_90 : decode cX7_marks 90 = .ok (.ireturn, 1) := by decide +kernel
theorem dX7_isSoundAlone_0 : decode cX7_isSoundAlone 0 = .ok (.aload_n 0, 1) := by decide +kernel
theorem dX7_isSoundAlone_1 : decode cX7_isSoundAlone 1 = .ok (.getfield 33, 3) := by decide +kernel
theorem dX7_isSoundAlone_4 : decode cX7_isSoundAlone 4 = .ok (.ifCond .lt 25, 3) := by decide +kernel
theorem dX7_isSoundAlone_7 : decode cX7_isSoundAlone 7 = .ok (.aload_n 0, 1) := by decide +kernel
theorem dX7_isSoundAlone_8 : decode cX7_isSoundAlone 8 = .ok (.getfield 33, 3) := by decide +kernel
theorem dX7_isSoundAlone_11 : decode cX7_isSoundAlone 11 = .ok (.aload_n 0, 1) := by decide +kernel
theorem dX7_isSoundAlone_12 : decode cX7_isSoundAlone 12 = .ok (.getfield 19, 3) := by decide +kernel
theorem dX7_isSoundAlone_15 : decode cX7_isSoundAlone 15 = .ok (.if_icmp .gt 14, 3) := by decide +kernel
theorem dX7_isSoundAlone_18 : decode cX7_isSoundAlone 18 = .ok (.aload_n 0, 1) := by decide +kernel
theorem dX7_isSoundAlone_19 : decode cX7_isSoundAlone 19 = .ok (.getfield 39, 3) := by decide +kernel
theorem dX7_isSoundAlone_22 : decode cX7_isSoundAlone 22 = .ok (.aload_n 0, 1) := by decide +kernel
theorem dX7_isSoundAlone_23 : decode cX7_isSoundAlone 23 = .ok (.getfield 19, 3) := by decide +kernel
theorem dX7_isSoundAlone_26 : decode cX7_isSoundAlone 26 = .ok (.if_icmp .le 5, 3) := by decide +kernel
theorem dX7_isSoundAlone_29 : decode cX7_isSoundAlone 29 = .ok (.iconst 0, 1) := by decide +kernel
theorem dX7_isSoundAlone_30 : decode cX7_isSoundAlone 30 = .ok (.ireturn, 1) := by decide +kernel
theorem dX7_isSoundAlone_31 : decode cX7_isSoundAlone 31 = .ok (.aload_n 0, 1) := by decide +kernel
theorem dX7_isSoundAlone_32 : decode cX7_isSoundAlone 32 = .ok (.getfield 29, 3) := by decide +kernel
theorem dX7_isSoundAlone_35 : decode cX7_isSoundAlone 35 = .ok (.ifCond .ne 10, 3) := by decide +kernel
theorem dX7_isSoundAlone_38 : decode cX7_isSoundAlone 38 = .ok (.aload_n 0, 1) := by decide +kernel
theorem dX7_isSoundAlone_39 : decode cX7_isSoundAlone 39 = .ok (.getfield 56, 3) := by decide +kernel
theorem dX7_isSoundAlone_42 : decode cX7_isSoundAlone 42 = .ok (.ifCond .ne 14, 3) := by decide +kernel
theorem dX7_isSoundAlone_45 : decode cX7_isSoundAlone 45 = .ok (.aload_n 0, 1) := by decide +kernel
theorem dX7_isSoundAlone_46 : decode cX7_isSoundAlone 46 = .ok (.invokevirtual 104, 3) := by decide +kernel
theorem dX7_isSoundAlone_49 : decode cX7_isSoundAlone 49 = .ok (.ifCond .eq 7, 3) := by decide +kernel
theorem dX7_isSoundAlone_52 : decode cX7_isSoundAlone 52 = .ok (.iconst 1, 1) := by decide +kernel
theorem dX7_isSoundAlone_53 : decode cX7_isSoundAlone 53 = .ok (.goto 4, 3) := by decide +kernel
theorem dX7_isSoundAlone_56 : decode cX7_isSoundAlone 56 = .ok (.iconst 0, 1) := by decide +kernel
theorem dX7_isSoundAlone_57 : decode cX7_isSoundAlone 57 = .ok (.ireturn, 1) := by decide +kernel
theorem dX7_isDamageSound_0 : decode cX7_isDamageSound 0 = .ok (.aload_n 0, 1) := by decide +kernel
theorem dX7_isDamageSound_1 : decode cX7_isDamageSound 1 = .ok (.getfield 48, 3) := by decide +kernel
theorem dX7_isDamageSound_4 : decode cX7_isDamageSound 4 = .ok (.ifnonnull 5, 3) := by decide +kernel
theorem dX7_isDamageSound_7 : decode cX7_isDamageSound 7 = .ok (.iconst 1, 1) := by decide +kernel
theorem dX7_isDamageSound_8 : decode cX7_isDamageSound 8 = .ok (.ireturn, 1) := by decide +kernel
theorem dX7_isDamageSound_9 : decode cX7_isDamageSound 9 = .ok (.aload_n 0, 1) := by decide +kernel
theorem dX7_isDamageSound_10 : decode cX7_isDamageSound 10 = .ok (.getfield 52, 3) := by decide +kernel
theorem dX7_isDamageSound_13 : decode cX7_isDamageSound 13 = .ok (.ifnonnull 7, 3) := by decide +kernel
theorem dX7_isDamageSound_16 : decode cX7_isDamageSound 16 = .ok (.iconst 0, 1) := by decide +kernel
theorem dX7_isDamageSound_17 : decode cX7_isDamageSound 17 = .ok (.goto 10, 3) := by decide +kernel
theorem dX7_isDamageSound_20 : decode cX7_isDamageSound 20 = .ok (.aload_n 0, 1) := by decide +kernel
theorem dX7_isDamageSound_21 : decode cX7_isDamageSound 21 = .ok (.getfield 52, 3) := by decide +kernel
theorem dX7_isDamageSound_24 : decode cX7_isDamageSound 24 = .ok (.getfield 107, 3) := by decide +kernel
theorem dX7_isDamageSound_27 : decode cX7_isDamageSound 27 = .ok (.istore_n 1, 1) := by decide +kernel
theorem dX7_isDamageSound_28 : decode cX7_isDamageSound 28 = .ok (.aload_n 0, 1) := by decide +kernel
theorem dX7_isDamageSound_29 : decode cX7_isDamageSound 29 = .ok (.getfield 48, 3) := by decide +kernel
theorem dX7_isDamageSound_32 : decode cX7_isDamageSound 32 = .ok (.invokevirtual 110, 3) := by decide +kernel
theorem dX7_isDamageSound_35 : decode cX7_isDamageSound 35 = .ok (.ifCond .eq 31, 3) := by decide +kernel
theorem dX7_isDamageSound_38 : decode cX7_isDamageSound 38 = .ok (.aload_n 0, 1) := by decide +kernel
theorem dX7_isDamageSound_39 : decode cX7_isDamageSound 39 = .ok (.getfield 48, 3) := by decide +kernel
theorem dX7_isDamageSound_42 : decode cX7_isDamageSound 42 = .ok (.getfield 115, 3) := by decide +kernel
theorem dX7_isDamageSound_45 : decode cX7_isDamageSound 45 = .ok (.aload_n 0, 1) := by decide +kernel
theorem dX7_isDamageSound_46 : decode cX7_isDamageSound 46 = .ok (.getfield 33, 3) := by decide +kernel
theorem dX7_isDamageSound_49 : decode cX7_isDamageSound 49 = .ok (.aload_n 0, 1) := by decide +kernel
theorem dX7_isDamageSound_50 : decode cX7_isDamageSound 50 = .ok (.getfield 48, 3) := by decide +kernel
theorem dX7_isDamageSound_53 : decode cX7_isDamageSound 53 = .ok (.getfield 118, 3) := by decide +kernel
theorem dX7_isDamageSound_56 : decode cX7_isDamageSound 56 = .ok (.iadd, 1) := by decide +kernel
theorem dX7_isDamageSound_57 : decode cX7_isDamageSound 57 = .ok (.iload_n 1, 1) := by decide +kernel
theorem dX7_isDamageSound_58 : decode cX7_isDamageSound 58 = .ok (.iadd, 1) := by decide +kernel
theorem dX7_isDamageSound_59 : decode cX7_isDamageSound 59 = .ok (.if_icmp .ne 7, 3) := by decide +kernel
theorem dX7_isDamageSound_62 : decode cX7_isDamageSound 62 = .ok (.iconst 1, 1) := by decide +kernel
theorem dX7_isDamageSound_63 : decode cX7_isDamageSound 63 = .ok (.goto 4, 3) := by decide +kernel
theorem dX7_isDamageSound_66 : decode cX7_isDamageSound 66 = .ok (.iconst 0, 1) := by decide +kernel
theorem dX7_isDamageSound_67 : decode cX7_isDamageSound 67 = .ok (.ireturn, 1) := by decide +kernel
theorem dX8_init_0 : decode cX8_init 0 = .ok (.aload_n 0, 1) := by decide +kernel
theorem dX8_init_1 : decode cX8_init 1 = .ok (.invokespecial 1, 3) := by decide +kernel
theorem dX8_init_4 : decode cX8_init 4 = .ok (.aload_n 0, 1) := by decide +kernel
theorem dX8_init_5 : decode cX8_init 5 = .ok (.new 7, 3) := by decide +kernel
theorem dX8_init_8 : decode cX8_init 8 = .ok (.dup, 1) := by decide +kernel
theorem dX8_init_9 : decode cX8_init 9 = .ok (.invokespecial 9, 3) := by decide +kernel
theorem dX8_init_12 : decode cX8_init 12 = .ok (.putfield 10, 3) := by decide +kernel
theorem dX8_init_15 : decode cX8_init 15 = .ok (.aload_n 0, 1) := by decide +kernel
theorem dX8_init_16 : decode cX8_init 16 = .ok (.new 7, 3) := by decide +kernel
theorem dX8_init_19 : decode cX8_init 19 = .ok (.dup, 1) := by decide +kernel
theorem dX8_init_20 : decode cX8_init 20 = .ok (.invokespecial 9, 3) := by decide +kernel
theorem dX8_init_23 : decode cX8_init 23 = .ok (.putfield 16, 3) := by decide +kernel
theorem dX8_init_26 : decode cX8_init 26 = .ok (.aload_n 0, 1) := by decide +kernel
theorem dX8_init_27 : decode cX8_init 27 = .ok (.new 7, 3) := by decide +kernel
theorem dX8_init_30 : decode cX8_init 30 = .ok (.dup, 1) := by decide +kernel
theorem dX8_init_31 : decode cX8_init 31 = .ok (.invokespecial 9, 3) := by decide +kernel
theorem dX8_init_34 : decode cX8_init 34 = .ok (.putfield 19, 3) := by decide +kernel
theorem dX8_init_37 : decode cX8_init 37 = .ok (.aload_n 0, 1) := by decide +kernel
theorem dX8_init_38 : decode cX8_init 38 = .ok (.new 7, 3) := by decide +kernel
theorem dX8_init_41 : decode cX8_init 41 = .ok (.dup, 1) := by decide +kernel
theorem dX8_init_42 : decode cX8_init 42 = .ok (.invokespecial 9, 3) := by decide +kernel
theorem dX8_init_45 : decode cX8_init 45 = .ok (.putfield 22, 3) := by decide +kernel
theorem dX8_init_48 : decode cX8_init 48 = .ok (.aload_n 0, 1) := by decide +kernel
theorem dX8_init_49 : decode cX8_init 49 = .ok (.new 7, 3) := by decide +kernel
theorem dX8_init_52 : decode cX8_init 52 = .ok (.dup, 1) := by decide +kernel
theorem dX8_init_53 : decode cX8_init 53 = .ok (.invokespecial 9, 3) := by decide +kernel
theorem dX8_init_56 : decode cX8_init 56 = .ok (.putfield 25, 3) := by decide +kernel
theorem dX8_init_59 : decode cX8_init 59 = .ok (.aload_n 0, 1) := by decide +kernel
theorem dX8_init_60 : decode cX8_init 60 = .ok (.new 28, 3) := by decide +kernel
theorem dX8_init_63 : decode cX8_init 63 = .ok (.dup, 1) := by decide +kernel
theorem dX8_init_64 : decode cX8_init 64 = .ok (.invokespecial 30, 3) := by decide +kernel
theorem dX8_init_67 : decode cX8_init 67 = .ok (.putfield 31, 3) := by decide +kernel
theorem dX8_init_70 : decode cX8_init 70 = .ok (.aload_n 0, 1) := by decide +kernel
theorem dX8_init_71 : decode cX8_init 71 = .ok (.new 28, 3) := by decide +kernel
theorem dX8_init_74 : decode cX8_init 74 = .ok (.dup, 1) := by decide +kernel
theorem dX8_init_75 : decode cX8_init 75 = .ok (.invokespecial 30, 3) := by decide +kernel
theorem dX8_init_78 : decode cX8_init 78 = .ok (.putfield 35, 3) := by decide +kernel
theorem dX8_init_81 : decode cX8_init 81 = .ok (.aload_n 0, 1) := by decide +kernel
theorem dX8_init_82 : decode cX8_init 82 = .ok (.new 28, 3) := by decide +kernel
theorem dX8_init_85 : decode cX8_init 85 = .ok (.dup, 1) := by decide +kernel
theorem dX8_init_86 : decode cX8_init 86 = .ok (.invokespecial 30, 3) := by decide +kernel
theorem dX8_init_89 : decode cX8_init 89 = .ok (.putfield 38, 3) := by decide +kernel
theorem dX8_init_92 : decode cX8_init 92 = .ok (.aload_n 0, 1) := by decide +kernel
theorem dX8_init_93 : decode cX8_init 93 = .ok (.new 28, 3) := by decide +kernel
theorem dX8_init_96 : decode cX8_init 96 = .ok (.dup, 1) := by decide +kernel
theorem dX8_init_97 : decode cX8_init 97 = .ok (.invokespecial 30, 3) := by decide +kernel
theorem dX8_init_100 : decode cX8_init 100 = .ok (.putfield 41, 3) := by decide +kernel
theorem dX8_init_103 : decode cX8_init 103 = .ok (.return_, 1) := by decide +kernel
theorem dX8_market_0 : decode cX8_market 0 = .ok (.iload_n 1, 1) := by decide +kernel
theorem dX8_market_1 : decode cX8_market 1 = .ok (.iconst 0, 1) := by decide +kernel
theorem dX8_market_2 : decode cX8_market 2 = .ok (.bipush 99, 2) := by decide +kernel
theorem dX8_market_4 : decode cX8_market 4 = .ok (.invokestatic 44, 3) := by decide +kernel
theorem dX8_market_7 : decode cX8_market 7 = .ok (.invokestatic 48, 3) := by decide +kernel
theorem dX8_market_10 : decode cX8_market 10 = .ok (.aload_n 0, 1) := by decide +kernel
theorem dX8_market_11 : decode cX8_market 11 = .ok (.getfield 10, 3) := by decide +kernel
theorem dX8_market_14 : decode cX8_market 14 = .ok (.invokevirtual 52, 3) := by decide +kernel
theorem dX8_market_17 : decode cX8_market 17 = .ok (.ifCond .eq 27, 3) := by decide +kernel
theorem dX8_market_20 : decode cX8_market 20 = .ok (.aload_n 0, 1) := by decide +kernel
theorem dX8_market_21 : decode cX8_market 21 = .ok (.getfield 16, 3) := by decide +kernel
theorem dX8_market_24 : decode cX8_market 24 = .ok (.invokevirtual 52, 3) := by decide +kernel
theorem dX8_market_27 : decode cX8_market 27 = .ok (.ifCond .eq 17, 3) := by decide +kernel
theorem dX8_market_30 : decode cX8_market 30 = .ok (.aload_n 0, 1) := by decide +kernel
theorem dX8_market_31 : decode cX8_market 31 = .ok (.getfield 19, 3) := by decide +kernel
theorem dX8_market_34 : decode cX8_market 34 = .ok (.invokevirtual 52, 3) := by decide +kernel
theorem dX8_market_37 : decode cX8_market 37 = .ok (.ifCond .eq 7, 3) := by decide +kernel
theorem dX8_market_40 : decode cX8_market 40 = .ok (.iconst 1, 1) := by decide +kernel
theorem dX8_market_41 : decode cX8_market 41 = .ok (.goto 4, 3) := by decide +kernel
theorem dX8_market_44 : decode cX8_market 44 = .ok (.iconst 0, 1) := by decide +kernel
theorem dX8_market_45 : decode cX8_market 45 = .ok (.invokestatic 56, 3) := by decide +kernel
theorem dX8_market_48 : decode cX8_market 48 = .ok (.iload_n 1, 1) := by decide +kernel
theorem dX8_market_49 : decode cX8_market 49 = .ok (.istore_n 2, 1) := by decide +kernel
theorem dX8_market_50 : decode cX8_market 50 = .ok (.iconst 0, 1) := by decide +kernel
theorem dX8_market_51 : decode cX8_market 51 = .ok (.istore_n 3, 1) := by decide +kernel
theorem dX8_market_52 : decode cX8_market 52 = .ok (.iconst 0, 1) := by decide +kernel
theorem dX8_market_53 : decode cX8_market 53 = .ok (.istore 4, 2) := by decide +kernel
theorem dX8_market_55 : decode cX8_market 55 = .ok (.iload 4, 2) := by decide +kernel
theorem dX8_market_57 : decode cX8_market 57 = .ok (.iconst 3, 1) := by decide +kernel
theorem dX8_market_58 : decode cX8_market 58 = .ok (.if_icmp .ge 45, 3) := by decide +kernel
theorem dX8_market_61 : decode cX8_market 61 = .ok (.iload_n 2, 1) := by decide +kernel
theorem dX8_market_62 : decode cX8_market 62 = .ok (.invokestatic 59, 3) := by decide +kernel
theorem dX8_market_65 : decode cX8_market 65 = .ok (.istore_n 2, 1) := by decide +kernel
theorem dX8_market_66 : decode cX8_market 66 = .ok (.iload_n 2, 1) := by decide +kernel
theorem dX8_market_67 : decode cX8_market 67 = .ok (.bipush 8, 2) := by decide +kernel
theorem dX8_market_69 : decode cX8_market 69 = .ok (.irem, 1) := by decide +kernel
theorem dX8_market_70 : decode cX8_market 70 = .ok (.istore 5, 2) := by decide +kernel
theorem dX8_market_72 : decode cX8_market 72 = .ok (.iload_n 2, 1) := by decide +kernel
theorem dX8_market_73 : decode cX8_market 73 = .ok (.invokestatic 59, 3) := by decide +kernel
theorem dX8_market_76 : decode cX8_market 76 = .ok (.istore_n 2, 1) := by decide +kernel
theorem dX8_market_77 : decode cX8_market 77 = .ok (.aload_n 0, 1) := by decide +kernel
theorem dX8_market_78 : decode cX8_market 78 = .ok (.iload 5, 2) := by decide +kernel
theorem dX8_market_80 : decode cX8_market 80 = .ok (.sipush 200, 3) := by decide +kernel
theorem dX8_market_83 : decode cX8_market 83 = .ok (.iload_n 2, 1) := by decide +kernel
theorem dX8_market_84 : decode cX8_market 84 = .ok (.imul, 1) := by decide +kernel
theorem dX8_market_85 : decode cX8_market 85 = .ok (.invokevirtual 63, 3) := by decide +kernel
theorem dX8_market_88 : decode cX8_market 88 = .ok (.pop, 1) := by decide +kernel
theorem dX8_market_89 : decode cX8_market 89 = .ok (.iload_n 3, 1) := by decide +kernel
theorem dX8_market_90 : decode cX8_market 90 = .ok (.sipush 200, 3) := by decide +kernel
theorem dX8_market_93 : decode cX8_market 93 = .ok (.iload_n 2, 1) := by decide +kernel
theorem dX8_market_94 : decode cX8_market 94 = .ok (.imul, 1) := by decide +kernel
theorem dX8_market_95 : decode cX8_market 95 = .ok (.iadd, 1) := by decide +kernel
theorem dX8_market_96 : decode cX8_market 96 = .ok (.istore_n 3, 1) := by decide +kernel
theorem dX8_market_97 : decode cX8_market 97 = .ok (.iinc 4 1, 3) := by decide +kernel
theorem dX8_market_100 : decode cX8_market 100 = .ok (.goto (-45), 3) := by decide +kernel
theorem dX8_market_103 : decode cX8_market 103 = .ok (.iconst 0, 1) := by decide +kernel
theorem dX8_market_104 : decode cX8_market 104 = .ok (.istore 4, 2) := by decide +kernel
theorem dX8_market_106 : decode cX8_market 106 = .ok (.iload 4, 2) := by decide +kernel
theorem dX8_market_108 : decode cX8_market 108 = .ok (.iconst 3, 1) := by decide +kernel
theorem dX8_market_109 : decode cX8_market 109 = .ok (.if_icmp .ge 14, 3) := by decide +kernel
theorem dX8_market_112 : decode cX8_market 112 = .ok (.aload_n 0, 1) := by decide +kernel
theorem dX8_market_113 : decode cX8_market 113 = .ok (.invokevirtual 67, 3) := by decide +kernel
theorem dX8_market_116 : decode cX8_market 116 = .ok (.pop, 1) := by decide +kernel
theorem dX8_market_117 : decode cX8_market 117 = .ok (.iinc 4 1, 3) := by decide +kernel
theorem dX8_market_120 : decode cX8_market 120 = .ok (.goto (-14), 3) := by decide +kernel
theorem dX8_market_123 : decode cX8_market 123 = .ok (.iconst 0, 1) := by decide +kernel
theorem dX8_market_124 : decode cX8_market 124 = .ok (.istore 4, 2) := by decide +kernel
theorem dX8_market_126 : decode cX8_market 126 = .ok (.iload 4, 2) := by decide +kernel
theorem dX8_market_128 : decode cX8_market 128 = .ok (.bipush 6, 2) := by decide +kernel
theorem dX8_market_130 : decode cX8_market 130 = .ok (.if_icmp .ge 61, 3) := by decide +kernel
theorem dX8_market_133 : decode cX8_market 133 = .ok (.iload_n 2, 1) := by decide +kernel
theorem dX8_market_134 : decode cX8_market 134 = .ok (.invokestatic 59, 3) := by decide +kernel
theorem dX8_market_137 : decode cX8_market 137 = .ok (.istore_n 2, 1) := by decide +kernel
theorem dX8_market_138 : decode cX8_market 138 = .ok (.aload_n 0, 1) := by decide +kernel
theorem dX8_market_139 : decode cX8_market 139 = .ok (.iload_n 2, 1) := by decide +kernel
theorem dX8_market_140 : decode cX8_market 140 = .ok (.iconst 3, 1) := by decide +kernel
theorem dX8_market_141 : decode cX8_market 141 = .ok (.irem, 1) := by decide +kernel
theorem dX8_market_142 : decode cX8_market 142 = .ok (.invokevirtual 71, 3) := by decide +kernel
theorem dX8_market_145 : decode cX8_market 145 = .ok (.astore 5, 2) := by decide +kernel
theorem dX8_market_147 : decode cX8_market 147 = .ok (.iload_n 2, 1) := by decide +kernel
theorem dX8_market_148 : decode cX8_market 148 = .ok (.invokestatic 59, 3) := by decide +kernel
theorem dX8_market_151 : decode cX8_market 151 = .ok (.istore_n 2, 1) := by decide +kernel
theorem dX8_market_152 : decode cX8_market 152 = .ok (.aload_n 0, 1) := by decide +kernel
theorem dX8_market_153 : decode cX8_market 153 = .ok (.aload 5, 2) := by decide +kernel
theorem dX8_market_155 : decode cX8_market 155 = .ok (.iload_n 2, 1) := by decide +kernel
theorem dX8_market_156 : decode cX8_market 156 = .ok (.bipush 6, 2) := by decide +kernel
theorem dX8_market_158 : decode cX8_market 158 = .ok (.irem, 1) := by decide +kernel
theorem dX8_market_159 : decode cX8_market 159 = .ok (.invokevirtual 75, 3) := by decide +kernel
theorem dX8_market_162 : decode cX8_market 162 = .ok (.astore 6, 2) := by decide +kernel
theorem dX8_market_164 : decode cX8_market 164 = .ok (.iload_n 2, 1) := by decide +kernel
theorem dX8_market_165 : decode cX8_market 165 = .ok (.invokestatic 59, 3) := by decide +kernel
theorem dX8_market_168 : decode cX8_market 168 = .ok (.istore_n 2, 1) := by decide +kernel
theorem dX8_market_169 : decode cX8_market 169 = .ok (.aload_n 0, 1) := by decide +kernel
theorem dX8_market_170 : decode cX8_market 170 = .ok (.getfield 41, 3) := by decide +kernel
theorem dX8_market_173 : decode cX8_market 173 = .ok (.aload 6, 2) := by decide +kernel
theorem dX8_market_175 : decode cX8_market 175 = .ok (.getfield 79, 3) := by decide +kernel
theorem dX8_market_178 : decode cX8_market 178 = .ok (.bipush 20, 2) := by decide +kernel
theorem dX8_market_180 : decode cX8_market 180 = .ok (.iload_n 2, 1) := by decide +kernel
theorem dX8_market_181 : decode cX8_market 181 = .ok (.imul, 1) := by decide +kernel
theorem dX8_market_182 : decode cX8_market 182 = .ok (.invokevirtual 84, 3) := by decide +kernel
theorem dX8_market_185 : decode cX8_market 185 = .ok (.iinc 4 1, 3) := by decide +kernel
theorem dX8_market_188 : decode cX8_market 188 = .ok (.goto (-62), 3) := by decide +kernel
theorem dX8_market_191 : decode cX8_market 191 = .ok (.iload_n 3, 1) := by decide +kernel
theorem dX8_market_192 : decode cX8_market 192 = .ok (.ireturn, 1) := by decide +kernel
theorem dX8_land_0 : decode cX8_land 0 = .ok (.iload_n 1, 1) := by decide +kernel
theorem dX8_land_1 : decode cX8_land 1 = .ok (.iconst 0, 1) := by decide +kernel
theorem dX8_land_2 : decode cX8_land 2 = .ok (.bipush 7, 2) := by decide +kernel
theorem dX8_land_4 : decode cX8_land 4 = .ok (.invokestatic 44, 3) := by decide +kernel
theorem dX8_land_7 : decode cX8_land 7 = .ok (.ifCond .eq 17, 3) := by decide +kernel
theorem dX8_land_10 : decode cX8_land 10 = .ok (.iload_n 2, 1) := by decide +kernel
theorem dX8_land_11 : decode cX8_land 11 = .ok (.iconst 0, 1) := by decide +kernel
theorem dX8_land_12 : decode cX8_land 12 = .ok (.ldc 88, 2) := by decide +kernel
theorem dX8_land_14 : decode cX8_land 14 = .ok (.invokestatic 44, 3) := by decide +kernel
theorem dX8_land_17 : decode cX8_land 17 = .ok (.ifCond .eq 7, 3) := by decide +kernel
theorem dX8_land_20 : decode cX8_land 20 = .ok (.iconst 1, 1) := by decide +kernel
theorem dX8_land_21 : decode cX8_land 21 = .ok (.goto 4, 3) := by decide +kernel
theorem dX8_land_24 : decode cX8_land 24 = .ok (.iconst 0, 1) := by decide +kernel
theorem dX8_land_25 : decode cX8_land 25 = .ok (.invokestatic 48, 3) := by decide +kernel
theorem dX8_land_28 : decode cX8_land 28 = .ok (.aload_n 0, 1) := by decide +kernel
theorem dX8_land_29 : decode cX8_land 29 = .ok (.getfield 10, 3) := by decide +kernel
theorem dX8_land_32 : decode cX8_land 32 = .ok (.invokevirtual 89, 3) := by decide +kernel
theorem dX8_land_35 : decode cX8_land 35 = .ok (.iconst 5, 1) := by decide +kernel
theorem dX8_land_36 : decode cX8_land 36 = .ok (.if_icmp .ge 7, 3) := by decide +kernel
theorem dX8_land_39 : decode cX8_land 39 = .ok (.iconst 1, 1) := by decide +kernel
theorem dX8_land_40 : decode cX8_land 40 = .ok (.goto 4, 3) := by decide +kernel
theorem dX8_land_43 : decode cX8_land 43 = .ok (.iconst 0, 1) := by decide +kernel
theorem dX8_land_44 : decode cX8_land 44 = .ok (.invokestatic 56, 3) := by decide +kernel
theorem dX8_land_47 : decode cX8_land 47 = .ok (.aload_n 0, 1) := by decide +kernel
theorem dX8_land_48 : decode cX8_land 48 = .ok (.iload_n 1, 1) := by decide +kernel
theorem dX8_land_49 : decode cX8_land 49 = .ok (.iload_n 2, 1) := by decide +kernel
theorem dX8_land_50 : decode cX8_land 50 = .ok (.invokevirtual 63, 3) := by decide +kernel
theorem dX8_land_53 : decode cX8_land 53 = .ok (.getfield 93, 3) := by decide +kernel
theorem dX8_land_56 : decode cX8_land 56 = .ok (.ireturn, 1) := by decide +kernel
theorem dX8_stop_0 : decode cX8_stop 0 = .ok (.aload_n 0, 1) := by decide +kernel
theorem dX8_stop_1 : decode cX8_stop 1 = .ok (.iload_n 1, 1) := by decide +kernel
theorem dX8_stop_2 : decode cX8_stop 2 = .ok (.invokevirtual 71, 3) := by decide +kernel
theorem dX8_stop_5 : decode cX8_stop 5 = .ok (.astore_n 3, 1) := by decide +kernel
theorem dX8_stop_6 : decode cX8_stop 6 = .ok (.aload_n 3, 1) := by decide +kernel
theorem dX8_stop_7 : decode cX8_stop 7 = .ok (.getfield 113, 3) := by decide +kernel
theorem dX8_stop_10 : decode cX8_stop 10 = .ok (.istore 4, 2) := by decide +kernel
theorem dX8_stop_12 : decode cX8_stop 12 = .ok (.aload_n 3, 1) := by decide +kernel
theorem dX8_stop_13 : decode cX8_stop 13 = .ok (.aload_n 0, 1) := by decide +kernel
theorem dX8_stop_14 : decode cX8_stop 14 = .ok (.iload 4, 2) := by decide +kernel
theorem dX8_stop_16 : decode cX8_stop 16 = .ok (.iload_n 2, 1) := by decide +kernel
theorem dX8_stop_17 : decode cX8_stop 17 = .ok (.invokevirtual 116, 3) := by decide +kernel
theorem dX8_stop_20 : decode cX8_stop 20 = .ok (.putfield 113, 3) := by decide +kernel
theorem dX8_stop_23 : decode cX8_stop 23 = .ok (.iload 4, 2) := by decide +kernel
theorem dX8_stop_25 : decode cX8_stop 25 = .ok (.ireturn, 1) := by decide +kernel
theorem dX8_war_0 : decode cX8_war 0 = .ok (.aload_n 0, 1) := by decide +kernel
theorem dX8_war_1 : decode cX8_war 1 = .ok (.iload_n 1, 1) := by decide +kernel
theorem dX8_war_2 : decode cX8_war 2 = .ok (.invokevirtual 71, 3) := by decide +kernel
theorem dX8_war_5 : decode cX8_war 5 = .ok (.astore_n 3, 1) := by decide +kernel
theorem dX8_war_6 : decode cX8_war 6 = .ok (.aload_n 3, 1) := by decide +kernel
theorem dX8_war_7 : decode cX8_war 7 = .ok (.getfield 120, 3) := by decide +kernel
theorem dX8_war_10 : decode cX8_war 10 = .ok (.istore 4, 2) := by decide +kernel
theorem dX8_war_12 : decode cX8_war 12 = .ok (.aload_n 3, 1) := by decide +kernel
theorem dX8_war_13 : decode cX8_war 13 = .ok (.aload_n 0, 1) := by decide +kernel
theorem dX8_war_14 : decode cX8_war 14 = .ok (.iload 4, 2) := by decide +kernel
theorem dX8_war_16 : decode cX8_war 16 = .ok (.iload_n 2, 1) := by decide +kernel
theorem dX8_war_17 : decode cX8_war 17 = .ok (.invokevirtual 116, 3) := by decide +kernel
theorem dX8_war_20 : decode cX8_war 20 = .ok (.putfield 120, 3) := by decide +kernel
theorem dX8_war_23 : decode cX8_war 23 = .ok (.iload 4, 2) := by decide +kernel
theorem dX8_war_25 : decode cX8_war 25 = .ok (.ireturn, 1) := by decide +kernel
theorem dX8_buyer_0 : decode cX8_buyer 0 = .ok (.aload_n 0, 1) := by decide +kernel
theorem dX8_buyer_1 : decode cX8_buyer 1 = .ok (.iload_n 1, 1) := by decide +kernel
theorem dX8_buyer_2 : decode cX8_buyer 2 = .ok (.invokevirtual 71, 3) := by decide +kernel
theorem dX8_buyer_5 : decode cX8_buyer 5 = .ok (.astore_n 3, 1) := by decide +kernel
theorem dX8_buyer_6 : decode cX8_buyer 6 = .ok (.iload_n 2, 1) := by decide +kernel
theorem dX8_buyer_7 : decode cX8_buyer 7 = .ok (.iconst 0, 1) := by decide +kernel
theorem dX8_buyer_8 : decode cX8_buyer 8 = .ok (.iconst 5, 1) := by decide +kernel
theorem dX8_buyer_9 : decode cX8_buyer 9 = .ok (.invokestatic 44, 3) := by decide +kernel
theorem dX8_buyer_12 : decode cX8_buyer 12 = .ok (.invokestatic 48, 3) := by decide +kernel
theorem dX8_buyer_15 : decode cX8_buyer 15 = .ok (.aload_n 0, 1) := by decide +kernel
theorem dX8_buyer_16 : decode cX8_buyer 16 = .ok (.getfield 16, 3) := by decide +kernel
theorem dX8_buyer_19 : decode cX8_buyer 19 = .ok (.invokevirtual 89, 3) := by decide +kernel
theorem dX8_buyer_22 : decode cX8_buyer 22 = .ok (.bipush 12, 2) := by decide +kernel
theorem dX8_buyer_24 : decode cX8_buyer 24 = .ok (.if_icmp .ge 7, 3) := by decide +kernel
theorem dX8_buyer_27 : decode cX8_buyer 27 = .ok (.iconst 1, 1) := by decide +kernel
theorem dX8_buyer_28 : decode cX8_buyer 28 = .ok (.goto 4, 3) := by decide +kernel
theorem dX8_buyer_31 : decode cX8_buyer 31 = .ok (.iconst 0, 1) := by decide +kernel
theorem dX8_buyer_32 : decode cX8_buyer 32 = .ok (.invokestatic 56, 3) := by decide +kernel
theorem dX8_buyer_35 : decode cX8_buyer 35 = .ok (.aload_n 0, 1) := by decide +kernel
theorem dX8_buyer_36 : decode cX8_buyer 36 = .ok (.aload_n 3, 1) := by decide +kernel
theorem dX8_buyer_37 : decode cX8_buyer 37 = .ok (.iload_n 2, 1) := by decide +kernel
theorem dX8_buyer_38 : decode cX8_buyer 38 = .ok (.invokevirtual 75, 3) := by decide +kernel
theorem dX8_buyer_41 : decode cX8_buyer 41 = .ok (.getfield 123, 3) := by decide +kernel
theorem dX8_buyer_44 : decode cX8_buyer 44 = .ok (.ireturn, 1) := by decide +kernel
theorem dX8_earn_0 : decode cX8_earn 0 = .ok (.aload_n 0, 1) := by decide +kernel
theorem dX8_earn_1 : decode cX8_earn 1 = .ok (.iload_n 1, 1) := by decide +kernel
theorem dX8_earn_2 : decode cX8_earn 2 = .ok (.invokevirtual 124, 3) := by decide +kernel
theorem dX8_earn_5 : decode cX8_earn 5 = .ok (.astore_n 3, 1) := by decide +kernel
theorem dX8_earn_6 : decode cX8_earn 6 = .ok (.iload_n 2, 1) := by decide +kernel
theorem dX8_earn_7 : decode cX8_earn 7 = .ok (.iconst 1, 1) := by decide +kernel
theorem dX8_earn_8 : decode cX8_earn 8 = .ok (.ldc 128, 2) := by decide +kernel
theorem dX8_earn_10 : decode cX8_earn 10 = .ok (.invokestatic 44, 3) := by decide +kernel
theorem dX8_earn_13 : decode cX8_earn 13 = .ok (.invokestatic 48, 3) := by decide +kernel
theorem dX8_earn_16 : decode cX8_earn 16 = .ok (.aload_n 0, 1) := by decide +kernel
theorem dX8_earn_17 : decode cX8_earn 17 = .ok (.getfield 41, 3) := by decide +kernel
theorem dX8_earn_20 : decode cX8_earn 20 = .ok (.aload_n 3, 1) := by decide +kernel
theorem dX8_earn_21 : decode cX8_earn 21 = .ok (.getfield 79, 3) := by decide +kernel
theorem dX8_earn_24 : decode cX8_earn 24 = .ok (.iload_n 2, 1) := by decide +kernel
theorem dX8_earn_25 : decode cX8_earn 25 = .ok (.invokevirtual 84, 3) := by decide +kernel
theorem dX8_earn_28 : decode cX8_earn 28 = .ok (.aload_n 3, 1) := by decide +kernel
theorem dX8_earn_29 : decode cX8_earn 29 = .ok (.getfield 79, 3) := by decide +kernel
theorem dX8_earn_32 : decode cX8_earn 32 = .ok (.getfield 129, 3) := by decide +kernel
theorem dX8_earn_35 : decode cX8_earn 35 = .ok (.ireturn, 1) := by decide +kernel
theorem dX8_broke_0 : decode cX8_broke 0 = .ok (.aload_n 0, 1) := by decide +kernel
theorem dX8_broke_1 : decode cX8_broke 1 = .ok (.iload_n 1, 1) := by decide +kernel
theorem dX8_broke_2 : decode cX8_broke 2 = .ok (.invokevirtual 124, 3) := by decide +kernel
theorem dX8_broke_5 : decode cX8_broke 5 = .ok (.astore_n 2, 1) := by decide +kernel
theorem dX8_broke_6 : decode cX8_broke 6 = .ok (.aload_n 2, 1) := by decide +kernel
theorem dX8_broke_7 : decode cX8_broke 7 = .ok (.invokevirtual 132, 3) := by decide +kernel
theorem dX8_broke_10 : decode cX8_broke 10 = .ok (.istore_n 3, 1) := by decide +kernel
theorem dX8_broke_11 : decode cX8_broke 11 = .ok (.aload_n 2, 1) := by decide +kernel
theorem dX8_broke_12 : decode cX8_broke 12 = .ok (.aload_n 0, 1) := by decide +kernel
theorem dX8_broke_13 : decode cX8_broke 13 = .ok (.aload_n 2, 1) := by decide +kernel
theorem dX8_broke_14 : decode cX8_broke 14 = .ok (.getfield 135, 3) := by decide +kernel
theorem dX8_broke_17 : decode cX8_broke 17 = .ok (.iconst 1, 1) := by decide +kernel
theorem dX8_broke_18 : decode cX8_broke 18 = .ok (.invokevirtual 116, 3) := by decide +kernel
theorem dX8_broke_21 : decode cX8_broke 21 = .ok (.putfield 135, 3) := by decide +kernel
theorem dX8_broke_24 : decode cX8_broke 24 = .ok (.iload_n 3, 1) := by decide +kernel
theorem dX8_broke_25 : decode cX8_broke 25 = .ok (.ireturn, 1) := by decide +kernel
theorem dX8_exporter_0 : decode cX8_exporter 0 = .ok (.aload_n 0, 1) := by decide +kernel
theorem dX8_exporter_1 : decode cX8_exporter 1 = .ok (.getfield 19, 3) := by decide +kernel
theorem dX8_exporter_4 : decode cX8_exporter 4 = .ok (.invokevirtual 89, 3) := by decide +kernel
theorem dX8_exporter_7 : decode cX8_exporter 7 = .ok (.bipush 6, 2) := by decide +kernel
theorem dX8_exporter_9 : decode cX8_exporter 9 = .ok (.if_icmp .ge 7, 3) := by decide +kernel
theorem dX8_exporter_12 : decode cX8_exporter 12 = .ok (.iconst 1, 1) := by decide +kernel
theorem dX8_exporter_13 : decode cX8_exporter 13 = .ok (.goto 4, 3) := by decide +kernel
theorem dX8_exporter_16 : decode cX8_exporter 16 = .ok (.iconst 0, 1) := by decide +kernel
theorem dX8_exporter_17 : decode cX8_exporter 17 = .ok (.invokestatic 56, 3) := by decide +kernel
theorem dX8_exporter_20 : decode cX8_exporter 20 = .ok (.aload_n 0, 1) := by decide +kernel
theorem dX8_exporter_21 : decode cX8_exporter 21 = .ok (.invokevirtual 67, 3) := by decide +kernel
theorem dX8_exporter_24 : decode cX8_exporter 24 = .ok (.getfield 138, 3) := by decide +kernel
theorem dX8_exporter_27 : decode cX8_exporter 27 = .ok (.ireturn, 1) := by decide +kernel
theorem dX8_link_0 : decode cX8_link 0 = .ok (.aload_n 0, 1) := by decide +kernel
theorem dX8_link_1 : decode cX8_link 1 = .ok (.iload_n 1, 1) := by decide +kernel
theorem dX8_link_2 : decode cX8_link 2 = .ok (.invokevirtual 141, 3) := by decide +kernel
theorem dX8_link_5 : decode cX8_link 5 = .ok (.astore 4, 2) := by decide +kernel
theorem dX8_link_7 : decode cX8_link 7 = .ok (.iconst 1, 1) := by decide +kernel
theorem dX8_link_8 : decode cX8_link 8 = .ok (.aload_n 0, 1) := by decide +kernel
theorem dX8_link_9 : decode cX8_link 9 = .ok (.iload_n 2, 1) := by decide +kernel
theorem dX8_link_10 : decode cX8_link 10 = .ok (.invokevirtual 124, 3) := by decide +kernel
theorem dX8_link_13 : decode cX8_link 13 = .ok (.getfield 123, 3) := by decide +kernel
theorem dX8_link_16 : decode cX8_link 16 = .ok (.ishl, 1) := by decide +kernel
theorem dX8_link_17 : decode cX8_link 17 = .ok (.istore 5, 2) := by decide +kernel
theorem dX8_link_19 : decode cX8_link 19 = .ok (.iload_n 3, 1) := by decide +kernel
theorem dX8_link_20 : decode cX8_link 20 = .ok (.ifCond .eq 21, 3) := by decide +kernel
theorem dX8_link_23 : decode cX8_link 23 = .ok (.aload 4, 2) := by decide +kernel
theorem dX8_link_25 : decode cX8_link 25 = .ok (.dup, 1) := by decide +kernel
theorem dX8_link_26 : decode cX8_link 26 = .ok (.getfield 145, 3) := by decide +kernel
theorem dX8_link_29 : decode cX8_link 29 = .ok (.iload 5, 2) := by decide +kernel
theorem dX8_link_31 : decode cX8_link 31 = .ok (.ior, 1) := by decide +kernel
theorem dX8_link_32 : decode cX8_link 32 = .ok (.putfield 145, 3) := by decide +kernel
theorem dX8_link_35 : decode cX8_link 35 = .ok (.aload 4, 2) := by decide +kernel
theorem dX8_link_37 : decode cX8_link 37 = .ok (.getfield 145, 3) := by decide +kernel
theorem dX8_link_40 : decode cX8_link 40 = .ok (.ireturn, 1) := by decide +kernel
theorem dX8_link_41 : decode cX8_link 41 = .ok (.aload 4, 2) := by decide +kernel
theorem dX8_link_43 : decode cX8_link 43 = .ok (.dup, 1) := by decide +kernel
theorem dX8_link_44 : decode cX8_link 44 = .ok (.getfield 148, 3) := by decide +kernel
theorem dX8_link_47 : decode cX8_link 47 = .ok (.iload 5, 2) := by decide +kernel
theorem dX8_link_49 : decode cX8_link 49 = .ok (.ior, 1) := by decide +kernel
theorem dX8_link_50 : decode cX8_link 50 = .ok (.putfield 148, 3) := by decide +kernel
theorem dX8_link_53 : decode cX8_link 53 = .ok (.aload 4, 2) := by decide +kernel
theorem dX8_link_55 : decode cX8_link 55 = .ok (.getfield 148, 3) := by decide +kernel
theorem dX8_link_58 : decode cX8_link 58 = .ok (.ireturn, 1) := by decide +kernel
theorem dX8_notice_0 : decode cX8_notice 0 = .ok (.aload_n 0, 1) := by decide +kernel
theorem dX8_notice_1 : decode cX8_notice 1 = .ok (.iload_n 1, 1) := by decide +kernel
theorem dX8_notice_2 : decode cX8_notice 2 = .ok (.invokevirtual 71, 3) := by decide +kernel
theorem dX8_notice_5 : decode cX8_notice 5 = .ok (.astore_n 3, 1) := by decide +kernel
theorem dX8_notice_6 : decode cX8_notice 6 = .ok (.iload_n 2, 1) := by decide +kernel
theorem dX8_notice_7 : decode cX8_notice 7 = .ok (.iconst 1, 1) := by decide +kernel
theorem dX8_notice_8 : decode cX8_notice 8 = .ok (.sipush 999, 3) := by decide +kernel
theorem dX8_notice_11 : decode cX8_notice 11 = .ok (.invokestatic 44, 3) := by decide +kernel
theorem dX8_notice_14 : decode cX8_notice 14 = .ok (.invokestatic 48, 3) := by decide +kernel
theorem dX8_notice_17 : decode cX8_notice 17 = .ok (.aload_n 3, 1) := by decide +kernel
theorem dX8_notice_18 : decode cX8_notice 18 = .ok (.aload_n 0, 1) := by decide +kernel
theorem dX8_notice_19 : decode cX8_notice 19 = .ok (.getfield 151, 3) := by decide +kernel
theorem dX8_notice_22 : decode cX8_notice 22 = .ok (.invokevirtual 154, 3) := by decide +kernel
theorem dX8_notice_25 : decode cX8_notice 25 = .ok (.istore 4, 2) := by decide +kernel
theorem dX8_notice_27 : decode cX8_notice 27 = .ok (.aload_n 3, 1) := by decide +kernel
theorem dX8_notice_28 : decode cX8_notice 28 = .ok (.iload_n 2, 1) := by decide +kernel
theorem dX8_notice_29 : decode cX8_notice 29 = .ok (.putfield 157, 3) := by decide +kernel
theorem dX8_notice_32 : decode cX8_notice 32 = .ok (.aload_n 3, 1) := by decide +kernel
theorem dX8_notice_33 : decode cX8_notice 33 = .ok (.aload_n 0, 1) := by decide +kernel
theorem dX8_notice_34 : decode cX8_notice 34 = .ok (.getfield 151, 3) := by decide +kernel
theorem dX8_notice_37 : decode cX8_notice 37 = .ok (.putfield 160, 3) := by decide +kernel
theorem dX8_notice_40 : decode cX8_notice 40 = .ok (.iload 4, 2) := by decide +kernel
theorem dX8_notice_42 : decode cX8_notice 42 = .ok (.ireturn, 1) := by decide +kernel
theorem dX8_policy_0 : decode cX8_policy 0 = .ok (.aload_n 0, 1) := by decide +kernel
theorem dX8_policy_1 : decode cX8_policy 1 = .ok (.iload_n 1, 1) := by decide +kernel
theorem dX8_policy_2 : decode cX8_policy 2 = .ok (.invokevirtual 141, 3) := by decide +kernel
theorem dX8_policy_5 : decode cX8_policy 5 = .ok (.astore 5, 2) := by decide +kernel
theorem dX8_policy_7 : decode cX8_policy 7 = .ok (.iload_n 3, 1) := by decide +kernel
theorem dX8_policy_8 : decode cX8_policy 8 = .ok (.invokestatic 163, 3) := by decide +kernel
theorem dX8_policy_11 : decode cX8_policy 11 = .ok (.iload_n 2, 1) := by decide +kernel
theorem dX8_policy_12 : decode cX8_policy 12 = .ok (.bipush 50, 2) := by decide +kernel
theorem dX8_policy_14 : decode cX8_policy 14 = .ok (.bipush 95, 2) := by decide +kernel
theorem dX8_policy_16 : decode cX8_policy 16 = .ok (.invokestatic 44, 3) := by decide +kernel
theorem dX8_policy_19 : decode cX8_policy 19 = .ok (.invokestatic 48, 3) := by decide +kernel
theorem dX8_policy_22 : decode cX8_policy 22 = .ok (.iload 4, 2) := by decide +kernel
theorem dX8_policy_24 : decode cX8_policy 24 = .ok (.iconst 0, 1) := by decide +kernel
theorem dX8_policy_25 : decode cX8_policy 25 = .ok (.iload_n 3, 1) := by decide +kernel
theorem dX8_policy_26 : decode cX8_policy 26 = .ok (.iconst (-1), 1) := by decide +kernel
theorem dX8_policy_27 : decode cX8_policy 27 = .ok (.if_icmp .ne 7, 3) := by decide +kernel
theorem dX8_policy_30 : decode cX8_policy 30 = .ok (.iconst 0, 1) := by decide +kernel
theorem dX8_policy_31 : decode cX8_policy 31 = .ok (.goto 5, 3) := by decide +kernel
theorem dX8_policy_34 : decode cX8_policy 34 = .ok (.bipush 60, 2) := by decide +kernel
theorem dX8_policy_36 : decode cX8_policy 36 = .ok (.invokestatic 44, 3) := by decide +kernel
theorem dX8_policy_39 : decode cX8_policy 39 = .ok (.invokestatic 48, 3) := by decide +kernel
theorem dX8_policy_42 : decode cX8_policy 42 = .ok (.aload_n 0, 1) := by decide +kernel
theorem dX8_policy_43 : decode cX8_policy 43 = .ok (.getfield 22, 3) := by decide +kernel
theorem dX8_policy_46 : decode cX8_policy 46 = .ok (.invokevirtual 89, 3) := by decide +kernel
theorem dX8_policy_49 : decode cX8_policy 49 = .ok (.bipush 8, 2) := by decide +kernel
theorem dX8_policy_51 : decode cX8_policy 51 = .ok (.if_icmp .ge 7, 3) := by decide +kernel
theorem dX8_policy_54 : decode cX8_policy 54 = .ok (.iconst 1, 1) := by decide +kernel
theorem dX8_policy_55 : decode cX8_policy 55 = .ok (.goto 4, 3) := by decide +kernel
theorem dX8_policy_58 : decode cX8_policy 58 = .ok (.iconst 0, 1) := by decide +kernel
theorem dX8_policy_59 : decode cX8_policy 59 = .ok (.invokestatic 56, 3) := by decide +kernel
theorem dX8_policy_62 : decode cX8_policy 62 = .ok (.new 167, 3) := by decide +kernel
theorem dX8_policy_65 : decode cX8_policy 65 = .ok (.dup, 1) := by decide +kernel
theorem dX8_policy_66 : decode cX8_policy 66 = .ok (.aload_n 0, 1) := by decide +kernel
theorem dX8_policy_67 : decode cX8_policy 67 = .ok (.getfield 22, 3) := by decide +kernel
theorem dX8_policy_70 : decode cX8_policy 70 = .ok (.invokevirtual 89, 3) := by decide +kernel
theorem dX8_policy_73 : decode cX8_policy 73 = .ok (.aload 5, 2) := by decide +kernel
theorem dX8_policy_75 : decode cX8_policy 75 = .ok (.iload_n 2, 1) := by decide +kernel
theorem dX8_policy_76 : decode cX8_policy 76 = .ok (.iload_n 3, 1) := by decide +kernel
theorem dX8_policy_77 : decode cX8_policy 77 = .ok (.iload 4, 2) := by decide +kernel
theorem dX8_policy_79 : decode cX8_policy 79 = .ok (.invokespecial 169, 3) := by decide +kernel
theorem dX8_policy_82 : decode cX8_policy 82 = .ok (.astore 6, 2) := by decide +kernel
theorem dX8_policy_84 : decode cX8_policy 84 = .ok (.aload_n 0, 1) := by decide +kernel
theorem dX8_policy_85 : decode cX8_policy 85 = .ok (.getfield 22, 3) := by decide +kernel
theorem dX8_policy_88 : decode cX8_policy 88 = .ok (.aload 6, 2) := by decide +kernel
theorem dX8_policy_90 : decode cX8_policy 90 = .ok (.invokevirtual 172, 3) := by decide +kernel
theorem dX8_policy_93 : decode cX8_policy 93 = .ok (.pop, 1) := by decide +kernel
theorem dX8_policy_94 : decode cX8_policy 94 = .ok (.aload 6, 2) := by decide +kernel
theorem dX8_policy_96 : decode cX8_policy 96 = .ok (.getfield 176, 3) := by decide +kernel
theorem dX8_policy_99 : decode cX8_policy 99 = .ok (.ireturn, 1) := by decide +kernel
theorem dX8_limit_0 : decode cX8_limit 0 = .ok (.aload_n 0, 1) := by decide +kernel
theorem dX8_limit_1 : decode cX8_limit 1 = .ok (.iload_n 1, 1) := by decide +kernel
theorem dX8_limit_2 : decode cX8_limit 2 = .ok (.invokevirtual 177, 3) := by decide +kernel
theorem dX8_limit_5 : decode cX8_limit 5 = .ok (.astore 4, 2) := by decide +kernel
theorem dX8_limit_7 : decode cX8_limit 7 = .ok (.aload_n 0, 1) := by decide +kernel
theorem dX8_limit_8 : decode cX8_limit 8 = .ok (.iload_n 2, 1) := by decide +kernel
theorem dX8_limit_9 : decode cX8_limit 9 = .ok (.invokevirtual 124, 3) := by decide +kernel
theorem dX8_limit_12 : decode cX8_limit 12 = .ok (.astore 5, 2) := by decide +kernel
theorem dX8_limit_14 : decode cX8_limit 14 = .ok (.iload_n 3, 1) := by decide +kernel
theorem dX8_limit_15 : decode cX8_limit 15 = .ok (.iconst 0, 1) := by decide +kernel
theorem dX8_limit_16 : decode cX8_limit 16 = .ok (.ldc 128, 2) := by decide +kernel
theorem dX8_limit_18 : decode cX8_limit 18 = .ok (.invokestatic 44, 3) := by decide +kernel
theorem dX8_limit_21 : decode cX8_limit 21 = .ok (.invokestatic 48, 3) := by decide +kernel
theorem dX8_limit_24 : decode cX8_limit 24 = .ok (.aload 4, 2) := by decide +kernel
theorem dX8_limit_26 : decode cX8_limit 26 = .ok (.getfield 181, 3) := by decide +kernel
theorem dX8_limit_29 : decode cX8_limit 29 = .ok (.ifCond .ne 7, 3) := by decide +kernel
theorem dX8_limit_32 : decode cX8_limit 32 = .ok (.iconst 1, 1) := by decide +kernel
theorem dX8_limit_33 : decode cX8_limit 33 = .ok (.goto 4, 3) := by decide +kernel
theorem dX8_limit_36 : decode cX8_limit 36 = .ok (.iconst 0, 1) := by decide +kernel
theorem dX8_limit_37 : decode cX8_limit 37 = .ok (.invokestatic 56, 3) := by decide +kernel
theorem dX8_limit_40 : decode cX8_limit 40 = .ok (.sipush 2000, 3) := by decide +kernel
theorem dX8_limit_43 : decode cX8_limit 43 = .ok (.bipush 6, 2) := by decide +kernel
theorem dX8_limit_45 : decode cX8_limit 45 = .ok (.aload 5, 2) := by decide +kernel
theorem dX8_limit_47 : decode cX8_limit 47 = .ok (.getfield 184, 3) := by decide +kernel
theorem dX8_limit_50 : decode cX8_limit 50 = .ok (.isub, 1) := by decide +kernel
theorem dX8_limit_51 : decode cX8_limit 51 = .ok (.imul, 1) := by decide +kernel
theorem dX8_limit_52 : decode cX8_limit 52 = .ok (.istore 6, 2) := by decide +kernel
theorem dX8_limit_54 : decode cX8_limit 54 = .ok (.aload 4, 2) := by decide +kernel
theorem dX8_limit_56 : decode cX8_limit 56 = .ok (.aload 5, 2) := by decide +kernel
theorem dX8_limit_58 : decode cX8_limit 58 = .ok (.getfield 123, 3) := by decide +kernel
theorem dX8_limit_61 : decode cX8_limit 61 = .ok (.iload_n 3, 1) := by decide +kernel
theorem dX8_limit_62 : decode cX8_limit 62 = .ok (.iload 6, 2) := by decide +kernel
theorem dX8_limit_64 : decode cX8_limit 64 = .ok (.invokestatic 185, 3) := by decide +kernel
theorem dX8_limit_67 : decode cX8_limit 67 = .ok (.invokevirtual 191, 3) := by decide +kernel
theorem dX8_limit_70 : decode cX8_limit 70 = .ok (.aload 4, 2) := by decide +kernel
theorem dX8_limit_72 : decode cX8_limit 72 = .ok (.aload 5, 2) := by decide +kernel
theorem dX8_limit_74 : decode cX8_limit 74 = .ok (.getfield 123, 3) := by decide +kernel
theorem dX8_limit_77 : decode cX8_limit 77 = .ok (.invokevirtual 195, 3) := by decide +kernel
theorem dX8_limit_80 : decode cX8_limit 80 = .ok (.ireturn, 1) := by decide +kernel
theorem dX8_cut_0 : decode cX8_cut 0 = .ok (.aload_n 0, 1) := by decide +kernel
theorem dX8_cut_1 : decode cX8_cut 1 = .ok (.iload_n 1, 1) := by decide +kernel
theorem dX8_cut_2 : decode cX8_cut 2 = .ok (.invokevirtual 177, 3) := by decide +kernel
theorem dX8_cut_5 : decode cX8_cut 5 = .ok (.astore 4, 2) := by decide +kernel
theorem dX8_cut_7 : decode cX8_cut 7 = .ok (.aload_n 0, 1) := by decide +kernel
theorem dX8_cut_8 : decode cX8_cut 8 = .ok (.iload_n 2, 1) := by decide +kernel
theorem dX8_cut_9 : decode cX8_cut 9 = .ok (.invokevirtual 124, 3) := by decide +kernel
theorem dX8_cut_12 : decode cX8_cut 12 = .ok (.astore 5, 2) := by decide +kernel
theorem dX8_cut_14 : decode cX8_cut 14 = .ok (.iload_n 3, 1) := by decide +kernel
theorem dX8_cut_15 : decode cX8_cut 15 = .ok (.ifCond .lt 7, 3) := by decide +kernel
theorem dX8_cut_18 : decode cX8_cut 18 = .ok (.iconst 1, 1) := by decide +kernel
theorem dX8_cut_19 : decode cX8_cut 19 = .ok (.goto 4, 3) := by decide +kernel
theorem dX8_cut_22 : decode cX8_cut 22 = .ok (.iconst 0, 1) := by decide +kernel
theorem dX8_cut_23 : decode cX8_cut 23 = .ok (.invokestatic 48, 3) := by decide +kernel
theorem dX8_cut_26 : decode cX8_cut 26 = .ok (.aload 4, 2) := by decide +kernel
theorem dX8_cut_28 : decode cX8_cut 28 = .ok (.aload 5, 2) := by decide +kernel
theorem dX8_cut_30 : decode cX8_cut 30 = .ok (.getfield 123, 3) := by decide +kernel
end PD1
