theorem dx_P_init_0 : decode cd_P_init 0 = .ok (.aload_n 0, 1) := by decide +kernel
theorem dx_P_init_1 : decode cd_P_init 1 = .ok (.invokespecial 3, 3) := by decide +kernel
theorem dx_P_init_4 : decode cd_P_init 4 = .ok (.aload_n 0, 1) := by decide +kernel
theorem dx_P_init_5 : decode cd_P_init 5 = .ok (.aload_n 1, 1) := by decide +kernel
theorem dx_P_init_6 : decode cd_P_init 6 = .ok (.putfield 9, 3) := by decide +kernel
theorem dx_P_init_9 : decode cd_P_init 9 = .ok (.aload_n 0, 1) := by decide +kernel
theorem dx_P_init_10 : decode cd_P_init 10 = .ok (.bipush 40, 2) := by decide +kernel
theorem dx_P_init_12 : decode cd_P_init 12 = .ok (.newarray .long, 2) := by decide +kernel
theorem dx_P_init_14 : decode cd_P_init 14 = .ok (.putfield 15, 3) := by decide +kernel
theorem dx_P_init_17 : decode cd_P_init 17 = .ok (.aload_n 0, 1) := by decide +kernel
theorem dx_P_init_18 : decode cd_P_init 18 = .ok (.bipush 40, 2) := by decide +kernel
theorem dx_P_init_20 : decode cd_P_init 20 = .ok (.bipush 40, 2) := by decide +kernel
theorem dx_P_init_22 : decode cd_P_init 22 = .ok (.multianewarray 19 2, 4) := by decide +kernel
theorem dx_P_init_26 : decode cd_P_init 26 = .ok (.putfield 21, 3) := by decide +kernel
theorem dx_P_init_29 : decode cd_P_init 29 = .ok (.return_, 1) := by decide +kernel
theorem dx_P_canBecome_0 : decode cd_P_canBecome 0 = .ok (.aload_n 0, 1) := by decide +kernel
theorem dx_P_canBecome_1 : decode cd_P_canBecome 1 = .ok (.getfield 15, 3) := by decide +kernel
theorem dx_P_canBecome_4 : decode cd_P_canBecome 4 = .ok (.lconst 0, 1) := by decide +kernel
theorem dx_P_canBecome_5 : decode cd_P_canBecome 5 = .ok (.invokestatic 24, 3) := by decide +kernel
theorem dx_P_canBecome_8 : decode cd_P_canBecome 8 = .ok (.aload_n 0, 1) := by decide +kernel
theorem dx_P_canBecome_9 : decode cd_P_canBecome 9 = .ok (.iload_n 1, 1) := by decide +kernel
theorem dx_P_canBecome_10 : decode cd_P_canBecome 10 = .ok (.iload_n 2, 1) := by decide +kernel
theorem dx_P_canBecome_11 : decode cd_P_canBecome 11 = .ok (.lconst 1, 1) := by decide +kernel
theorem dx_P_canBecome_12 : decode cd_P_canBecome 12 = .ok (.invokevirtual 30, 3) := by decide +kernel
theorem dx_P_canBecome_15 : decode cd_P_canBecome 15 = .ok (.iload_n 1, 1) := by decide +kernel
theorem dx_P_canBecome_16 : decode cd_P_canBecome 16 = .ok (.istore_n 3, 1) := by decide +kernel
theorem dx_P_canBecome_17 : decode cd_P_canBecome 17 = .ok (.iload_n 3, 1) := by decide +kernel
theorem dx_P_canBecome_18 : decode cd_P_canBecome 18 = .ok (.ifCond .lt 19, 3) := by decide +kernel
theorem dx_P_canBecome_21 : decode cd_P_canBecome 21 = .ok (.aload_n 0, 1) := by decide +kernel
theorem dx_P_canBecome_22 : decode cd_P_canBecome 22 = .ok (.iload_n 3, 1) := by decide +kernel
theorem dx_P_canBecome_23 : decode cd_P_canBecome 23 = .ok (.invokevirtual 34, 3) := by decide +kernel
theorem dx_P_canBecome_26 : decode cd_P_canBecome 26 = .ok (.ifCond .ne 5, 3) := by decide +kernel
theorem dx_P_canBecome_29 : decode cd_P_canBecome 29 = .ok (.iconst 0, 1) := by decide +kernel
theorem dx_P_canBecome_30 : decode cd_P_canBecome 30 = .ok (.ireturn, 1) := by decide +kernel
theorem dx_P_canBecome_31 : decode cd_P_canBecome 31 = .ok (.iinc 3 (-1), 3) := by decide +kernel
theorem dx_P_canBecome_34 : decode cd_P_canBecome 34 = .ok (.goto (-17), 3) := by decide +kernel
theorem dx_P_canBecome_37 : decode cd_P_canBecome 37 = .ok (.iconst 1, 1) := by decide +kernel
theorem dx_P_canBecome_38 : decode cd_P_canBecome 38 = .ok (.ireturn, 1) := by decide +kernel
theorem dx_P_meet_0 : decode cd_P_meet 0 = .ok (.iload_n 1, 1) := by decide +kernel
theorem dx_P_meet_1 : decode cd_P_meet 1 = .ok (.iconst (-1), 1) := by decide +kernel
theorem dx_P_meet_2 : decode cd_P_meet 2 = .ok (.if_icmp .eq 8, 3) := by decide +kernel
theorem dx_P_meet_5 : decode cd_P_meet 5 = .ok (.iload_n 2, 1) := by decide +kernel
theorem dx_P_meet_6 : decode cd_P_meet 6 = .ok (.iconst (-1), 1) := by decide +kernel
theorem dx_P_meet_7 : decode cd_P_meet 7 = .ok (.if_icmp .ne 4, 3) := by decide +kernel
theorem dx_P_meet_10 : decode cd_P_meet 10 = .ok (.return_, 1) := by decide +kernel
theorem dx_P_meet_11 : decode cd_P_meet 11 = .ok (.aload_n 0, 1) := by decide +kernel
theorem dx_P_meet_12 : decode cd_P_meet 12 = .ok (.iload_n 1, 1) := by decide +kernel
theorem dx_P_meet_13 : decode cd_P_meet 13 = .ok (.iload_n 2, 1) := by decide +kernel
theorem dx_P_meet_14 : decode cd_P_meet 14 = .ok (.invokevirtual 54, 3) := by decide +kernel
theorem dx_P_meet_17 : decode cd_P_meet 17 = .ok (.ifCond .eq 18, 3) := by decide +kernel
theorem dx_P_meet_20 : decode cd_P_meet 20 = .ok (.aload_n 0, 1) := by decide +kernel
theorem dx_P_meet_21 : decode cd_P_meet 21 = .ok (.getfield 21, 3) := by decide +kernel
theorem dx_P_meet_24 : decode cd_P_meet 24 = .ok (.iload_n 1, 1) := by decide +kernel
theorem dx_P_meet_25 : decode cd_P_meet 25 = .ok (.aaload, 1) := by decide +kernel
theorem dx_P_meet_26 : decode cd_P_meet 26 = .ok (.iload_n 2, 1) := by decide +kernel
theorem dx_P_meet_27 : decode cd_P_meet 27 = .ok (.dup2, 1) := by decide +kernel
theorem dx_P_meet_28 : decode cd_P_meet 28 = .ok (.laload, 1) := by decide +kernel
theorem dx_P_meet_29 : decode cd_P_meet 29 = .ok (.lload_n 3, 1) := by decide +kernel
theorem dx_P_meet_30 : decode cd_P_meet 30 = .ok (.ladd, 1) := by decide +kernel
theorem dx_P_meet_31 : decode cd_P_meet 31 = .ok (.lastore, 1) := by decide +kernel
theorem dx_P_meet_32 : decode cd_P_meet 32 = .ok (.goto 24, 3) := by decide +kernel
theorem dx_P_meet_35 : decode cd_P_meet 35 = .ok (.aload_n 0, 1) := by decide +kernel
theorem dx_P_meet_36 : decode cd_P_meet 36 = .ok (.getfield 15, 3) := by decide +kernel
theorem dx_P_meet_39 : decode cd_P_meet 39 = .ok (.iload_n 1, 1) := by decide +kernel
theorem dx_P_meet_40 : decode cd_P_meet 40 = .ok (.dup2, 1) := by decide +kernel
theorem dx_P_meet_41 : decode cd_P_meet 41 = .ok (.laload, 1) := by decide +kernel
theorem dx_P_meet_42 : decode cd_P_meet 42 = .ok (.lconst 1, 1) := by decide +kernel
theorem dx_P_meet_43 : decode cd_P_meet 43 = .ok (.iload_n 2, 1) := by decide +kernel
theorem dx_P_meet_44 : decode cd_P_meet 44 = .ok (.lshl, 1) := by decide +kernel
theorem dx_P_meet_45 : decode cd_P_meet 45 = .ok (.lor, 1) := by decide +kernel
theorem dx_P_meet_46 : decode cd_P_meet 46 = .ok (.lastore, 1) := by decide +kernel
theorem dx_P_meet_47 : decode cd_P_meet 47 = .ok (.aload_n 0, 1) := by decide +kernel
theorem dx_P_meet_48 : decode cd_P_meet 48 = .ok (.getfield 21, 3) := by decide +kernel
theorem dx_P_meet_51 : decode cd_P_meet 51 = .ok (.iload_n 1, 1) := by decide +kernel
theorem dx_P_meet_52 : decode cd_P_meet 52 = .ok (.aaload, 1) := by decide +kernel
theorem dx_P_meet_53 : decode cd_P_meet 53 = .ok (.iload_n 2, 1) := by decide +kernel
theorem dx_P_meet_54 : decode cd_P_meet 54 = .ok (.lload_n 3, 1) := by decide +kernel
theorem dx_P_meet_55 : decode cd_P_meet 55 = .ok (.lastore, 1) := by decide +kernel
theorem dx_P_meet_56 : decode cd_P_meet 56 = .ok (.return_, 1) := by decide +kernel
theorem dx_P_isMet_0 : decode cd_P_isMet 0 = .ok (.aload_n 0, 1) := by decide +kernel
theorem dx_P_isMet_1 : decode cd_P_isMet 1 = .ok (.getfield 15, 3) := by decide +kernel
theorem dx_P_isMet_4 : decode cd_P_isMet 4 = .ok (.iload_n 1, 1) := by decide +kernel
theorem dx_P_isMet_5 : decode cd_P_isMet 5 = .ok (.laload, 1) := by decide +kernel
theorem dx_P_isMet_6 : decode cd_P_isMet 6 = .ok (.iload_n 2, 1) := by decide +kernel
theorem dx_P_isMet_7 : decode cd_P_isMet 7 = .ok (.lshr, 1) := by decide +kernel
theorem dx_P_isMet_8 : decode cd_P_isMet 8 = .ok (.lconst 1, 1) := by decide +kernel
theorem dx_P_isMet_9 : decode cd_P_isMet 9 = .ok (.land, 1) := by decide +kernel
theorem dx_P_isMet_10 : decode cd_P_isMet 10 = .ok (.lconst 1, 1) := by decide +kernel
theorem dx_P_isMet_11 : decode cd_P_isMet 11 = .ok (.lcmp, 1) := by decide +kernel
theorem dx_P_isMet_12 : decode cd_P_isMet 12 = .ok (.ifCond .ne 7, 3) := by decide +kernel
theorem dx_P_isMet_15 : decode cd_P_isMet 15 = .ok (.iconst 1, 1) := by decide +kernel
theorem dx_P_isMet_16 : decode cd_P_isMet 16 = .ok (.goto 4, 3) := by decide +kernel
theorem dx_P_isMet_19 : decode cd_P_isMet 19 = .ok (.iconst 0, 1) := by decide +kernel
theorem dx_P_isMet_20 : decode cd_P_isMet 20 = .ok (.ireturn, 1) := by decide +kernel
theorem dx_P_fitsAllBeside_0 : decode cd_P_fitsAllBeside 0 = .ok (.aload_n 0, 1) := by decide +kernel
theorem dx_P_fitsAllBeside_1 : decode cd_P_fitsAllBeside 1 = .ok (.getfield 9, 3) := by decide +kernel
theorem dx_P_fitsAllBeside_4 : decode cd_P_fitsAllBeside 4 = .ok (.getfield 38, 3) := by decide +kernel
theorem dx_P_fitsAllBeside_7 : decode cd_P_fitsAllBeside 7 = .ok (.iload_n 1, 1) := by decide +kernel
theorem dx_P_fitsAllBeside_8 : decode cd_P_fitsAllBeside 8 = .ok (.iaload, 1) := by decide +kernel
theorem dx_P_fitsAllBeside_9 : decode cd_P_fitsAllBeside 9 = .ok (.iconst (-1), 1) := by decide +kernel
theorem dx_P_fitsAllBeside_10 : decode cd_P_fitsAllBeside 10 = .ok (.if_icmp .ne 22, 3) := by decide +kernel
theorem dx_P_fitsAllBeside_13 : decode cd_P_fitsAllBeside 13 = .ok (.aload_n 0, 1) := by decide +kernel
theorem dx_P_fitsAllBeside_14 : decode cd_P_fitsAllBeside 14 = .ok (.getfield 15, 3) := by decide +kernel
theorem dx_P_fitsAllBeside_17 : decode cd_P_fitsAllBeside 17 = .ok (.iload_n 1, 1) := by decide +kernel
theorem dx_P_fitsAllBeside_18 : decode cd_P_fitsAllBeside 18 = .ok (.laload, 1) := by decide +kernel
theorem dx_P_fitsAllBeside_19 : decode cd_P_fitsAllBeside 19 = .ok (.invokestatic 44, 3) := by decide +kernel
theorem dx_P_fitsAllBeside_22 : decode cd_P_fitsAllBeside 22 = .ok (.iconst 1, 1) := by decide +kernel
theorem dx_P_fitsAllBeside_23 : decode cd_P_fitsAllBeside 23 = .ok (.if_icmp .gt 7, 3) := by decide +kernel
theorem dx_P_fitsAllBeside_26 : decode cd_P_fitsAllBeside 26 = .ok (.iconst 1, 1) := by decide +kernel
theorem dx_P_fitsAllBeside_27 : decode cd_P_fitsAllBeside 27 = .ok (.goto 4, 3) := by decide +kernel
theorem dx_P_fitsAllBeside_30 : decode cd_P_fitsAllBeside 30 = .ok (.iconst 0, 1) := by decide +kernel
theorem dx_P_fitsAllBeside_31 : decode cd_P_fitsAllBeside 31 = .ok (.ireturn, 1) := by decide +kernel
theorem dx_P_fitsAllBeside_32 : decode cd_P_fitsAllBeside 32 = .ok (.iconst 0, 1) := by decide +kernel
theorem dx_P_fitsAllBeside_33 : decode cd_P_fitsAllBeside 33 = .ok (.istore_n 2, 1) := by decide +kernel
theorem dx_P_fitsAllBeside_34 : decode cd_P_fitsAllBeside 34 = .ok (.iload_n 2, 1) := by decide +kernel
theorem dx_P_fitsAllBeside_35 : decode cd_P_fitsAllBeside 35 = .ok (.aload_n 0, 1) := by decide +kernel
theorem dx_P_fitsAllBeside_36 : decode cd_P_fitsAllBeside 36 = .ok (.getfield 9, 3) := by decide +kernel
theorem dx_P_fitsAllBeside_39 : decode cd_P_fitsAllBeside 39 = .ok (.getfield 50, 3) := by decide +kernel
theorem dx_P_fitsAllBeside_42 : decode cd_P_fitsAllBeside 42 = .ok (.if_icmp .ge 47, 3) := by decide +kernel
theorem dx_P_fitsAllBeside_45 : decode cd_P_fitsAllBeside 45 = .ok (.aload_n 0, 1) := by decide +kernel
theorem dx_P_fitsAllBeside_46 : decode cd_P_fitsAllBeside 46 = .ok (.iload_n 1, 1) := by decide +kernel
theorem dx_P_fitsAllBeside_47 : decode cd_P_fitsAllBeside 47 = .ok (.iload_n 2, 1) := by decide +kernel
theorem dx_P_fitsAllBeside_48 : decode cd_P_fitsAllBeside 48 = .ok (.invokevirtual 54, 3) := by decide +kernel
theorem dx_P_fitsAllBeside_51 : decode cd_P_fitsAllBeside 51 = .ok (.ifCond .eq 32, 3) := by decide +kernel
theorem dx_P_fitsAllBeside_54 : decode cd_P_fitsAllBeside 54 = .ok (.aload_n 0, 1) := by decide +kernel
theorem dx_P_fitsAllBeside_55 : decode cd_P_fitsAllBeside 55 = .ok (.getfield 9, 3) := by decide +kernel
theorem dx_P_fitsAllBeside_58 : decode cd_P_fitsAllBeside 58 = .ok (.getfield 38, 3) := by decide +kernel
theorem dx_P_fitsAllBeside_61 : decode cd_P_fitsAllBeside 61 = .ok (.iload_n 1, 1) := by decide +kernel
theorem dx_P_fitsAllBeside_62 : decode cd_P_fitsAllBeside 62 = .ok (.iaload, 1) := by decide +kernel
theorem dx_P_fitsAllBeside_63 : decode cd_P_fitsAllBeside 63 = .ok (.aload_n 0, 1) := by decide +kernel
theorem dx_P_fitsAllBeside_64 : decode cd_P_fitsAllBeside 64 = .ok (.getfield 9, 3) := by decide +kernel
theorem dx_P_fitsAllBeside_67 : decode cd_P_fitsAllBeside 67 = .ok (.getfield 38, 3) := by decide +kernel
theorem dx_P_fitsAllBeside_70 : decode cd_P_fitsAllBeside 70 = .ok (.iload_n 2, 1) := by decide +kernel
theorem dx_P_fitsAllBeside_71 : decode cd_P_fitsAllBeside 71 = .ok (.iaload, 1) := by decide +kernel
theorem dx_P_fitsAllBeside_72 : decode cd_P_fitsAllBeside 72 = .ok (.if_icmp .eq 5, 3) := by decide +kernel
theorem dx_P_fitsAllBeside_75 : decode cd_P_fitsAllBeside 75 = .ok (.iconst 0, 1) := by decide +kernel
theorem dx_P_fitsAllBeside_76 : decode cd_P_fitsAllBeside 76 = .ok (.ireturn, 1) := by decide +kernel
theorem dx_P_fitsAllBeside_77 : decode cd_P_fitsAllBeside 77 = .ok (.aload_n 0, 1) := by decide +kernel
theorem dx_P_fitsAllBeside_78 : decode cd_P_fitsAllBeside 78 = .ok (.iload_n 1, 1) := by decide +kernel
theorem dx_P_fitsAllBeside_79 : decode cd_P_fitsAllBeside 79 = .ok (.iload_n 2, 1) := by decide +kernel
theorem dx_P_fitsAllBeside_80 : decode cd_P_fitsAllBeside 80 = .ok (.invokevirtual 58, 3) := by decide +kernel
theorem dx_P_fitsAllBeside_83 : decode cd_P_fitsAllBeside 83 = .ok (.iinc 2 1, 3) := by decide +kernel
theorem dx_P_fitsAllBeside_86 : decode cd_P_fitsAllBeside 86 = .ok (.goto (-52), 3) := by decide +kernel
theorem dx_P_fitsAllBeside_89 : decode cd_P_fitsAllBeside 89 = .ok (.iconst 1, 1) := by decide +kernel
theorem dx_P_fitsAllBeside_90 : decode cd_P_fitsAllBeside 90 = .ok (.ireturn, 1) := by decide +kernel
theorem dx_P_meetArguments_0 : decode cd_P_meetArguments 0 = .ok (.aload_n 0, 1) := by decide +kernel
theorem dx_P_meetArguments_1 : decode cd_P_meetArguments 1 = .ok (.aload_n 0, 1) := by decide +kernel
theorem dx_P_meetArguments_2 : decode cd_P_meetArguments 2 = .ok (.getfield 9, 3) := by decide +kernel
theorem dx_P_meetArguments_5 : decode cd_P_meetArguments 5 = .ok (.getfield 66, 3) := by decide +kernel
theorem dx_P_meetArguments_8 : decode cd_P_meetArguments 8 = .ok (.iload_n 1, 1) := by decide +kernel
theorem dx_P_meetArguments_9 : decode cd_P_meetArguments 9 = .ok (.iaload, 1) := by decide +kernel
theorem dx_P_meetArguments_10 : decode cd_P_meetArguments 10 = .ok (.aload_n 0, 1) := by decide +kernel
theorem dx_P_meetArguments_11 : decode cd_P_meetArguments 11 = .ok (.getfield 9, 3) := by decide +kernel
theorem dx_P_meetArguments_14 : decode cd_P_meetArguments 14 = .ok (.getfield 66, 3) := by decide +kernel
theorem dx_P_meetArguments_17 : decode cd_P_meetArguments 17 = .ok (.iload_n 2, 1) := by decide +kernel
theorem dx_P_meetArguments_18 : decode cd_P_meetArguments 18 = .ok (.iaload, 1) := by decide +kernel
theorem dx_P_meetArguments_19 : decode cd_P_meetArguments 19 = .ok (.aload_n 0, 1) := by decide +kernel
theorem dx_P_meetArguments_20 : decode cd_P_meetArguments 20 = .ok (.getfield 21, 3) := by decide +kernel
theorem dx_P_meetArguments_23 : decode cd_P_meetArguments 23 = .ok (.iload_n 1, 1) := by decide +kernel
theorem dx_P_meetArguments_24 : decode cd_P_meetArguments 24 = .ok (.aaload, 1) := by decide +kernel
theorem dx_P_meetArguments_25 : decode cd_P_meetArguments 25 = .ok (.iload_n 2, 1) := by decide +kernel
theorem dx_P_meetArguments_26 : decode cd_P_meetArguments 26 = .ok (.laload, 1) := by decide +kernel
theorem dx_P_meetArguments_27 : decode cd_P_meetArguments 27 = .ok (.invokevirtual 30, 3) := by decide +kernel
theorem dx_P_meetArguments_30 : decode cd_P_meetArguments 30 = .ok (.aload_n 0, 1) := by decide +kernel
theorem dx_P_meetArguments_31 : decode cd_P_meetArguments 31 = .ok (.aload_n 0, 1) := by decide +kernel
theorem dx_P_meetArguments_32 : decode cd_P_meetArguments 32 = .ok (.getfield 9, 3) := by decide +kernel
theorem dx_P_meetArguments_35 : decode cd_P_meetArguments 35 = .ok (.getfield 69, 3) := by decide +kernel
theorem dx_P_meetArguments_38 : decode cd_P_meetArguments 38 = .ok (.iload_n 1, 1) := by decide +kernel
theorem dx_P_meetArguments_39 : decode cd_P_meetArguments 39 = .ok (.iaload, 1) := by decide +kernel
theorem dx_P_meetArguments_40 : decode cd_P_meetArguments 40 = .ok (.aload_n 0, 1) := by decide +kernel
theorem dx_P_meetArguments_41 : decode cd_P_meetArguments 41 = .ok (.getfield 9, 3) := by decide +kernel
theorem dx_P_meetArguments_44 : decode cd_P_meetArguments 44 = .ok (.getfield 69, 3) := by decide +kernel
theorem dx_P_meetArguments_47 : decode cd_P_meetArguments 47 = .ok (.iload_n 2, 1) := by decide +kernel
theorem dx_P_meetArguments_48 : decode cd_P_meetArguments 48 = .ok (.iaload, 1) := by decide +kernel
theorem dx_P_meetArguments_49 : decode cd_P_meetArguments 49 = .ok (.aload_n 0, 1) := by decide +kernel
theorem dx_P_meetArguments_50 : decode cd_P_meetArguments 50 = .ok (.getfield 21, 3) := by decide +kernel
theorem dx_P_meetArguments_53 : decode cd_P_meetArguments 53 = .ok (.iload_n 1, 1) := by decide +kernel
theorem dx_P_meetArguments_54 : decode cd_P_meetArguments 54 = .ok (.aaload, 1) := by decide +kernel
theorem dx_P_meetArguments_55 : decode cd_P_meetArguments 55 = .ok (.iload_n 2, 1) := by decide +kernel
theorem dx_P_meetArguments_56 : decode cd_P_meetArguments 56 = .ok (.laload, 1) := by decide +kernel
theorem dx_P_meetArguments_57 : decode cd_P_meetArguments 57 = .ok (.invokevirtual 30, 3) := by decide +kernel
theorem dx_P_meetArguments_60 : decode cd_P_meetArguments 60 = .ok (.return_, 1) := by decide +kernel
theorem dx_P_sizeInCommon_0 : decode cd_P_sizeInCommon 0 = .ok (.aload_n 0, 1) := by decide +kernel
theorem dx_P_sizeInCommon_1 : decode cd_P_sizeInCommon 1 = .ok (.getfield 15, 3) := by decide +kernel
theorem dx_P_sizeInCommon_4 : decode cd_P_sizeInCommon 4 = .ok (.lconst 0, 1) := by decide +kernel
theorem dx_P_sizeInCommon_5 : decode cd_P_sizeInCommon 5 = .ok (.invokestatic 24, 3) := by decide +kernel
theorem dx_P_sizeInCommon_8 : decode cd_P_sizeInCommon 8 = .ok (.aload_n 0, 1) := by decide +kernel
theorem dx_P_sizeInCommon_9 : decode cd_P_sizeInCommon 9 = .ok (.iload_n 1, 1) := by decide +kernel
theorem dx_P_sizeInCommon_10 : decode cd_P_sizeInCommon 10 = .ok (.iload_n 2, 1) := by decide +kernel
theorem dx_P_sizeInCommon_11 : decode cd_P_sizeInCommon 11 = .ok (.lconst 1, 1) := by decide +kernel
theorem dx_P_sizeInCommon_12 : decode cd_P_sizeInCommon 12 = .ok (.invokevirtual 30, 3) := by decide +kernel
theorem dx_P_sizeInCommon_15 : decode cd_P_sizeInCommon 15 = .ok (.lconst 0, 1) := by decide +kernel
theorem dx_P_sizeInCommon_16 : decode cd_P_sizeInCommon 16 = .ok (.lstore_n 3, 1) := by decide +kernel
theorem dx_P_sizeInCommon_17 : decode cd_P_sizeInCommon 17 = .ok (.iload_n 1, 1) := by decide +kernel
theorem dx_P_sizeInCommon_18 : decode cd_P_sizeInCommon 18 = .ok (.istore 5, 2) := by decide +kernel
theorem dx_P_sizeInCommon_20 : decode cd_P_sizeInCommon 20 = .ok (.iload 5, 2) := by decide +kernel
theorem dx_P_sizeInCommon_22 : decode cd_P_sizeInCommon 22 = .ok (.ifCond .lt 18, 3) := by decide +kernel
theorem dx_P_sizeInCommon_25 : decode cd_P_sizeInCommon 25 = .ok (.lload_n 3, 1) := by decide +kernel
theorem dx_P_sizeInCommon_26 : decode cd_P_sizeInCommon 26 = .ok (.aload_n 0, 1) := by decide +kernel
theorem dx_P_sizeInCommon_27 : decode cd_P_sizeInCommon 27 = .ok (.iload 5, 2) := by decide +kernel
theorem dx_P_sizeInCommon_29 : decode cd_P_sizeInCommon 29 = .ok (.invokevirtual 62, 3) := by decide +kernel
theorem dx_P_sizeInCommon_32 : decode cd_P_sizeInCommon 32 = .ok (.ladd, 1) := by decide +kernel
theorem dx_P_sizeInCommon_33 : decode cd_P_sizeInCommon 33 = .ok (.lstore_n 3, 1) := by decide +kernel
theorem dx_P_sizeInCommon_34 : decode cd_P_sizeInCommon 34 = .ok (.iinc 5 (-1), 3) := by decide +kernel
theorem dx_P_sizeInCommon_37 : decode cd_P_sizeInCommon 37 = .ok (.goto (-17), 3) := by decide +kernel
theorem dx_P_sizeInCommon_40 : decode cd_P_sizeInCommon 40 = .ok (.lload_n 3, 1) := by decide +kernel
theorem dx_P_sizeInCommon_41 : decode cd_P_sizeInCommon 41 = .ok (.lreturn, 1) := by decide +kernel
theorem dx_P_partsInCommon_0 : decode cd_P_partsInCommon 0 = .ok (.lconst 0, 1) := by decide +kernel
theorem dx_P_partsInCommon_1 : decode cd_P_partsInCommon 1 = .ok (.lstore_n 2, 1) := by decide +kernel
theorem dx_P_partsInCommon_2 : decode cd_P_partsInCommon 2 = .ok (.iconst 0, 1) := by decide +kernel
theorem dx_P_partsInCommon_3 : decode cd_P_partsInCommon 3 = .ok (.istore 4, 2) := by decide +kernel
theorem dx_P_partsInCommon_5 : decode cd_P_partsInCommon 5 = .ok (.iload 4, 2) := by decide +kernel
theorem dx_P_partsInCommon_7 : decode cd_P_partsInCommon 7 = .ok (.aload_n 0, 1) := by decide +kernel
theorem dx_P_partsInCommon_8 : decode cd_P_partsInCommon 8 = .ok (.getfield 9, 3) := by decide +kernel
theorem dx_P_partsInCommon_11 : decode cd_P_partsInCommon 11 = .ok (.getfield 50, 3) := by decide +kernel
theorem dx_P_partsInCommon_14 : decode cd_P_partsInCommon 14 = .ok (.if_icmp .ge 60, 3) := by decide +kernel
theorem dx_P_partsInCommon_17 : decode cd_P_partsInCommon 17 = .ok (.aload_n 0, 1) := by decide +kernel
theorem dx_P_partsInCommon_18 : decode cd_P_partsInCommon 18 = .ok (.iload_n 1, 1) := by decide +kernel
theorem dx_P_partsInCommon_19 : decode cd_P_partsInCommon 19 = .ok (.iload 4, 2) := by decide +kernel
theorem dx_P_partsInCommon_21 : decode cd_P_partsInCommon 21 = .ok (.invokevirtual 54, 3) := by decide +kernel
theorem dx_P_partsInCommon_24 : decode cd_P_partsInCommon 24 = .ok (.ifCond .eq 44, 3) := by decide +kernel
theorem dx_P_partsInCommon_27 : decode cd_P_partsInCommon 27 = .ok (.lload_n 2, 1) := by decide +kernel
theorem dx_P_partsInCommon_28 : decode cd_P_partsInCommon 28 = .ok (.aload_n 0, 1) := by decide +kernel
theorem dx_P_partsInCommon_29 : decode cd_P_partsInCommon 29 = .ok (.getfield 21, 3) := by decide +kernel
theorem dx_P_partsInCommon_32 : decode cd_P_partsInCommon 32 = .ok (.iload_n 1, 1) := by decide +kernel
theorem dx_P_partsInCommon_33 : decode cd_P_partsInCommon 33 = .ok (.aaload, 1) := by decide +kernel
theorem dx_P_partsInCommon_34 : decode cd_P_partsInCommon 34 = .ok (.iload 4, 2) := by decide +kernel
theorem dx_P_partsInCommon_36 : decode cd_P_partsInCommon 36 = .ok (.laload, 1) := by decide +kernel
theorem dx_P_partsInCommon_37 : decode cd_P_partsInCommon 37 = .ok (.ladd, 1) := by decide +kernel
theorem dx_P_partsInCommon_38 : decode cd_P_partsInCommon 38 = .ok (.lstore_n 2, 1) := by decide +kernel
theorem dx_P_partsInCommon_39 : decode cd_P_partsInCommon 39 = .ok (.aload_n 0, 1) := by decide +kernel
theorem dx_P_partsInCommon_40 : decode cd_P_partsInCommon 40 = .ok (.getfield 9, 3) := by decide +kernel
theorem dx_P_partsInCommon_43 : decode cd_P_partsInCommon 43 = .ok (.getfield 38, 3) := by decide +kernel
theorem dx_P_partsInCommon_46 : decode cd_P_partsInCommon 46 = .ok (.iload_n 1, 1) := by decide +kernel
theorem dx_P_partsInCommon_47 : decode cd_P_partsInCommon 47 = .ok (.iaload, 1) := by decide +kernel
theorem dx_P_partsInCommon_48 : decode cd_P_partsInCommon 48 = .ok (.aload_n 0, 1) := by decide +kernel
theorem dx_P_partsInCommon_49 : decode cd_P_partsInCommon 49 = .ok (.getfield 9, 3) := by decide +kernel
theorem dx_P_partsInCommon_52 : decode cd_P_partsInCommon 52 = .ok (.getfield 38, 3) := by decide +kernel
theorem dx_P_partsInCommon_55 : decode cd_P_partsInCommon 55 = .ok (.iload 4, 2) := by decide +kernel
theorem dx_P_partsInCommon_57 : decode cd_P_partsInCommon 57 = .ok (.iaload, 1) := by decide +kernel
theorem dx_P_partsInCommon_58 : decode cd_P_partsInCommon 58 = .ok (.if_icmp .ne 10, 3) := by decide +kernel
theorem dx_P_partsInCommon_61 : decode cd_P_partsInCommon 61 = .ok (.aload_n 0, 1) := by decide +kernel
theorem dx_P_partsInCommon_62 : decode cd_P_partsInCommon 62 = .ok (.iload_n 1, 1) := by decide +kernel
theorem dx_P_partsInCommon_63 : decode cd_P_partsInCommon 63 = .ok (.iload 4, 2) := by decide +kernel
theorem dx_P_partsInCommon_65 : decode cd_P_partsInCommon 65 = .ok (.invokevirtual 58, 3) := by decide +kernel
theorem dx_P_partsInCommon_68 : decode cd_P_partsInCommon 68 = .ok (.iinc 4 1, 3) := by decide +kernel
theorem dx_P_partsInCommon_71 : decode cd_P_partsInCommon 71 = .ok (.goto (-66), 3) := by decide +kernel
theorem dx_P_partsInCommon_74 : decode cd_P_partsInCommon 74 = .ok (.lload_n 2, 1) := by decide +kernel
theorem dx_P_partsInCommon_75 : decode cd_P_partsInCommon 75 = .ok (.lreturn, 1) := by decide +kernel
