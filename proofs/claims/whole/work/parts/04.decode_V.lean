theorem dx_V_init_0 : decode cd_V_init 0 = .ok (.aload_n 0, 1) := by decide +kernel
theorem dx_V_init_1 : decode cd_V_init 1 = .ok (.invokespecial 3, 3) := by decide +kernel
theorem dx_V_init_4 : decode cd_V_init 4 = .ok (.aload_n 0, 1) := by decide +kernel
theorem dx_V_init_5 : decode cd_V_init 5 = .ok (.aload_n 1, 1) := by decide +kernel
theorem dx_V_init_6 : decode cd_V_init 6 = .ok (.putfield 9, 3) := by decide +kernel
theorem dx_V_init_9 : decode cd_V_init 9 = .ok (.aload_n 0, 1) := by decide +kernel
theorem dx_V_init_10 : decode cd_V_init 10 = .ok (.bipush 40, 2) := by decide +kernel
theorem dx_V_init_12 : decode cd_V_init 12 = .ok (.newarray .int, 2) := by decide +kernel
theorem dx_V_init_14 : decode cd_V_init 14 = .ok (.putfield 15, 3) := by decide +kernel
theorem dx_V_init_17 : decode cd_V_init 17 = .ok (.aload_n 0, 1) := by decide +kernel
theorem dx_V_init_18 : decode cd_V_init 18 = .ok (.bipush 40, 2) := by decide +kernel
theorem dx_V_init_20 : decode cd_V_init 20 = .ok (.newarray .int, 2) := by decide +kernel
theorem dx_V_init_22 : decode cd_V_init 22 = .ok (.putfield 19, 3) := by decide +kernel
theorem dx_V_init_25 : decode cd_V_init 25 = .ok (.aload_n 0, 1) := by decide +kernel
theorem dx_V_init_26 : decode cd_V_init 26 = .ok (.bipush 40, 2) := by decide +kernel
theorem dx_V_init_28 : decode cd_V_init 28 = .ok (.newarray .int, 2) := by decide +kernel
theorem dx_V_init_30 : decode cd_V_init 30 = .ok (.putfield 22, 3) := by decide +kernel
theorem dx_V_init_33 : decode cd_V_init 33 = .ok (.aload_n 0, 1) := by decide +kernel
theorem dx_V_init_34 : decode cd_V_init 34 = .ok (.bipush 40, 2) := by decide +kernel
theorem dx_V_init_36 : decode cd_V_init 36 = .ok (.newarray .int, 2) := by decide +kernel
theorem dx_V_init_38 : decode cd_V_init 38 = .ok (.putfield 25, 3) := by decide +kernel
theorem dx_V_init_41 : decode cd_V_init 41 = .ok (.aload_n 0, 1) := by decide +kernel
theorem dx_V_init_42 : decode cd_V_init 42 = .ok (.bipush 40, 2) := by decide +kernel
theorem dx_V_init_44 : decode cd_V_init 44 = .ok (.newarray .int, 2) := by decide +kernel
theorem dx_V_init_46 : decode cd_V_init 46 = .ok (.putfield 28, 3) := by decide +kernel
theorem dx_V_init_49 : decode cd_V_init 49 = .ok (.aload_n 0, 1) := by decide +kernel
theorem dx_V_init_50 : decode cd_V_init 50 = .ok (.bipush 40, 2) := by decide +kernel
theorem dx_V_init_52 : decode cd_V_init 52 = .ok (.newarray .int, 2) := by decide +kernel
theorem dx_V_init_54 : decode cd_V_init 54 = .ok (.putfield 31, 3) := by decide +kernel
theorem dx_V_init_57 : decode cd_V_init 57 = .ok (.aload_n 0, 1) := by decide +kernel
theorem dx_V_init_58 : decode cd_V_init 58 = .ok (.bipush 40, 2) := by decide +kernel
theorem dx_V_init_60 : decode cd_V_init 60 = .ok (.newarray .long, 2) := by decide +kernel
theorem dx_V_init_62 : decode cd_V_init 62 = .ok (.putfield 34, 3) := by decide +kernel
theorem dx_V_init_65 : decode cd_V_init 65 = .ok (.aload_n 0, 1) := by decide +kernel
theorem dx_V_init_66 : decode cd_V_init 66 = .ok (.bipush 40, 2) := by decide +kernel
theorem dx_V_init_68 : decode cd_V_init 68 = .ok (.newarray .long, 2) := by decide +kernel
theorem dx_V_init_70 : decode cd_V_init 70 = .ok (.putfield 38, 3) := by decide +kernel
theorem dx_V_init_73 : decode cd_V_init 73 = .ok (.aload_n 0, 1) := by decide +kernel
theorem dx_V_init_74 : decode cd_V_init 74 = .ok (.iconst 0, 1) := by decide +kernel
theorem dx_V_init_75 : decode cd_V_init 75 = .ok (.putfield 41, 3) := by decide +kernel
theorem dx_V_init_78 : decode cd_V_init 78 = .ok (.aload_n 0, 1) := by decide +kernel
theorem dx_V_init_79 : decode cd_V_init 79 = .ok (.iconst 0, 1) := by decide +kernel
theorem dx_V_init_80 : decode cd_V_init 80 = .ok (.putfield 45, 3) := by decide +kernel
theorem dx_V_init_83 : decode cd_V_init 83 = .ok (.return_, 1) := by decide +kernel
theorem dx_V_settle_0 : decode cd_V_settle 0 = .ok (.aload_n 0, 1) := by decide +kernel
theorem dx_V_settle_1 : decode cd_V_settle 1 = .ok (.getfield 15, 3) := by decide +kernel
theorem dx_V_settle_4 : decode cd_V_settle 4 = .ok (.iconst (-1), 1) := by decide +kernel
theorem dx_V_settle_5 : decode cd_V_settle 5 = .ok (.invokestatic 48, 3) := by decide +kernel
theorem dx_V_settle_8 : decode cd_V_settle 8 = .ok (.aload_n 0, 1) := by decide +kernel
theorem dx_V_settle_9 : decode cd_V_settle 9 = .ok (.iconst 0, 1) := by decide +kernel
theorem dx_V_settle_10 : decode cd_V_settle 10 = .ok (.putfield 41, 3) := by decide +kernel
theorem dx_V_settle_13 : decode cd_V_settle 13 = .ok (.aload_n 0, 1) := by decide +kernel
theorem dx_V_settle_14 : decode cd_V_settle 14 = .ok (.iconst 0, 1) := by decide +kernel
theorem dx_V_settle_15 : decode cd_V_settle 15 = .ok (.putfield 45, 3) := by decide +kernel
theorem dx_V_settle_18 : decode cd_V_settle 18 = .ok (.aload_n 0, 1) := by decide +kernel
theorem dx_V_settle_19 : decode cd_V_settle 19 = .ok (.aload_n 1, 1) := by decide +kernel
theorem dx_V_settle_20 : decode cd_V_settle 20 = .ok (.invokevirtual 54, 3) := by decide +kernel
theorem dx_V_settle_23 : decode cd_V_settle 23 = .ok (.istore_n 2, 1) := by decide +kernel
theorem dx_V_settle_24 : decode cd_V_settle 24 = .ok (.iconst 0, 1) := by decide +kernel
theorem dx_V_settle_25 : decode cd_V_settle 25 = .ok (.istore_n 3, 1) := by decide +kernel
theorem dx_V_settle_26 : decode cd_V_settle 26 = .ok (.iload_n 3, 1) := by decide +kernel
theorem dx_V_settle_27 : decode cd_V_settle 27 = .ok (.bipush 40, 2) := by decide +kernel
theorem dx_V_settle_29 : decode cd_V_settle 29 = .ok (.if_icmp .ge 32, 3) := by decide +kernel
theorem dx_V_settle_32 : decode cd_V_settle 32 = .ok (.iload_n 2, 1) := by decide +kernel
theorem dx_V_settle_33 : decode cd_V_settle 33 = .ok (.ifCond .le 28, 3) := by decide +kernel
theorem dx_V_settle_36 : decode cd_V_settle 36 = .ok (.aload_n 0, 1) := by decide +kernel
theorem dx_V_settle_37 : decode cd_V_settle 37 = .ok (.aload_n 1, 1) := by decide +kernel
theorem dx_V_settle_38 : decode cd_V_settle 38 = .ok (.invokevirtual 58, 3) := by decide +kernel
theorem dx_V_settle_41 : decode cd_V_settle 41 = .ok (.istore 4, 2) := by decide +kernel
theorem dx_V_settle_43 : decode cd_V_settle 43 = .ok (.iload 4, 2) := by decide +kernel
theorem dx_V_settle_45 : decode cd_V_settle 45 = .ok (.ifCond .ne 5, 3) := by decide +kernel
theorem dx_V_settle_48 : decode cd_V_settle 48 = .ok (.iconst 0, 1) := by decide +kernel
theorem dx_V_settle_49 : decode cd_V_settle 49 = .ok (.ireturn, 1) := by decide +kernel
theorem dx_V_settle_50 : decode cd_V_settle 50 = .ok (.iload_n 2, 1) := by decide +kernel
theorem dx_V_settle_51 : decode cd_V_settle 51 = .ok (.iload 4, 2) := by decide +kernel
theorem dx_V_settle_53 : decode cd_V_settle 53 = .ok (.isub, 1) := by decide +kernel
theorem dx_V_settle_54 : decode cd_V_settle 54 = .ok (.istore_n 2, 1) := by decide +kernel
theorem dx_V_settle_55 : decode cd_V_settle 55 = .ok (.iinc 3 1, 3) := by decide +kernel
theorem dx_V_settle_58 : decode cd_V_settle 58 = .ok (.goto (-32), 3) := by decide +kernel
theorem dx_V_settle_61 : decode cd_V_settle 61 = .ok (.aload_n 0, 1) := by decide +kernel
theorem dx_V_settle_62 : decode cd_V_settle 62 = .ok (.aload_n 1, 1) := by decide +kernel
theorem dx_V_settle_63 : decode cd_V_settle 63 = .ok (.invokevirtual 61, 3) := by decide +kernel
theorem dx_V_settle_66 : decode cd_V_settle 66 = .ok (.iconst 1, 1) := by decide +kernel
theorem dx_V_settle_67 : decode cd_V_settle 67 = .ok (.ireturn, 1) := by decide +kernel
theorem dx_V_countClasses_0 : decode cd_V_countClasses 0 = .ok (.iconst 0, 1) := by decide +kernel
theorem dx_V_countClasses_1 : decode cd_V_countClasses 1 = .ok (.istore_n 2, 1) := by decide +kernel
theorem dx_V_countClasses_2 : decode cd_V_countClasses 2 = .ok (.iconst 0, 1) := by decide +kernel
theorem dx_V_countClasses_3 : decode cd_V_countClasses 3 = .ok (.istore_n 3, 1) := by decide +kernel
theorem dx_V_countClasses_4 : decode cd_V_countClasses 4 = .ok (.iload_n 3, 1) := by decide +kernel
theorem dx_V_countClasses_5 : decode cd_V_countClasses 5 = .ok (.aload_n 0, 1) := by decide +kernel
theorem dx_V_countClasses_6 : decode cd_V_countClasses 6 = .ok (.getfield 9, 3) := by decide +kernel
theorem dx_V_countClasses_9 : decode cd_V_countClasses 9 = .ok (.getfield 65, 3) := by decide +kernel
theorem dx_V_countClasses_12 : decode cd_V_countClasses 12 = .ok (.if_icmp .ge 19, 3) := by decide +kernel
theorem dx_V_countClasses_15 : decode cd_V_countClasses 15 = .ok (.aload_n 1, 1) := by decide +kernel
theorem dx_V_countClasses_16 : decode cd_V_countClasses 16 = .ok (.iload_n 3, 1) := by decide +kernel
theorem dx_V_countClasses_17 : decode cd_V_countClasses 17 = .ok (.iaload, 1) := by decide +kernel
theorem dx_V_countClasses_18 : decode cd_V_countClasses 18 = .ok (.iload_n 3, 1) := by decide +kernel
theorem dx_V_countClasses_19 : decode cd_V_countClasses 19 = .ok (.if_icmp .ne 6, 3) := by decide +kernel
theorem dx_V_countClasses_22 : decode cd_V_countClasses 22 = .ok (.iinc 2 1, 3) := by decide +kernel
theorem dx_V_countClasses_25 : decode cd_V_countClasses 25 = .ok (.iinc 3 1, 3) := by decide +kernel
theorem dx_V_countClasses_28 : decode cd_V_countClasses 28 = .ok (.goto (-24), 3) := by decide +kernel
theorem dx_V_countClasses_31 : decode cd_V_countClasses 31 = .ok (.iload_n 2, 1) := by decide +kernel
theorem dx_V_countClasses_32 : decode cd_V_countClasses 32 = .ok (.ireturn, 1) := by decide +kernel
theorem dx_V_settleRound_0 : decode cd_V_settleRound 0 = .ok (.iconst 0, 1) := by decide +kernel
theorem dx_V_settleRound_1 : decode cd_V_settleRound 1 = .ok (.istore_n 2, 1) := by decide +kernel
theorem dx_V_settleRound_2 : decode cd_V_settleRound 2 = .ok (.iconst 0, 1) := by decide +kernel
theorem dx_V_settleRound_3 : decode cd_V_settleRound 3 = .ok (.istore_n 3, 1) := by decide +kernel
theorem dx_V_settleRound_4 : decode cd_V_settleRound 4 = .ok (.iload_n 3, 1) := by decide +kernel
theorem dx_V_settleRound_5 : decode cd_V_settleRound 5 = .ok (.aload_n 0, 1) := by decide +kernel
theorem dx_V_settleRound_6 : decode cd_V_settleRound 6 = .ok (.getfield 9, 3) := by decide +kernel
theorem dx_V_settleRound_9 : decode cd_V_settleRound 9 = .ok (.getfield 65, 3) := by decide +kernel
theorem dx_V_settleRound_12 : decode cd_V_settleRound 12 = .ok (.if_icmp .ge 68, 3) := by decide +kernel
theorem dx_V_settleRound_15 : decode cd_V_settleRound 15 = .ok (.aload_n 1, 1) := by decide +kernel
theorem dx_V_settleRound_16 : decode cd_V_settleRound 16 = .ok (.iload_n 3, 1) := by decide +kernel
theorem dx_V_settleRound_17 : decode cd_V_settleRound 17 = .ok (.iaload, 1) := by decide +kernel
theorem dx_V_settleRound_18 : decode cd_V_settleRound 18 = .ok (.iload_n 3, 1) := by decide +kernel
theorem dx_V_settleRound_19 : decode cd_V_settleRound 19 = .ok (.if_icmp .ne 55, 3) := by decide +kernel
theorem dx_V_settleRound_22 : decode cd_V_settleRound 22 = .ok (.aload_n 0, 1) := by decide +kernel
theorem dx_V_settleRound_23 : decode cd_V_settleRound 23 = .ok (.getfield 15, 3) := by decide +kernel
theorem dx_V_settleRound_26 : decode cd_V_settleRound 26 = .ok (.iload_n 3, 1) := by decide +kernel
theorem dx_V_settleRound_27 : decode cd_V_settleRound 27 = .ok (.iaload, 1) := by decide +kernel
theorem dx_V_settleRound_28 : decode cd_V_settleRound 28 = .ok (.iconst (-1), 1) := by decide +kernel
theorem dx_V_settleRound_29 : decode cd_V_settleRound 29 = .ok (.if_icmp .ne 45, 3) := by decide +kernel
theorem dx_V_settleRound_32 : decode cd_V_settleRound 32 = .ok (.aload_n 0, 1) := by decide +kernel
theorem dx_V_settleRound_33 : decode cd_V_settleRound 33 = .ok (.aload_n 1, 1) := by decide +kernel
theorem dx_V_settleRound_34 : decode cd_V_settleRound 34 = .ok (.iload_n 3, 1) := by decide +kernel
theorem dx_V_settleRound_35 : decode cd_V_settleRound 35 = .ok (.invokevirtual 68, 3) := by decide +kernel
theorem dx_V_settleRound_38 : decode cd_V_settleRound 38 = .ok (.ifCond .eq 36, 3) := by decide +kernel
theorem dx_V_settleRound_41 : decode cd_V_settleRound 41 = .ok (.aload_n 0, 1) := by decide +kernel
theorem dx_V_settleRound_42 : decode cd_V_settleRound 42 = .ok (.getfield 15, 3) := by decide +kernel
theorem dx_V_settleRound_45 : decode cd_V_settleRound 45 = .ok (.iload_n 3, 1) := by decide +kernel
theorem dx_V_settleRound_46 : decode cd_V_settleRound 46 = .ok (.aload_n 0, 1) := by decide +kernel
theorem dx_V_settleRound_47 : decode cd_V_settleRound 47 = .ok (.getfield 9, 3) := by decide +kernel
theorem dx_V_settleRound_50 : decode cd_V_settleRound 50 = .ok (.iload_n 3, 1) := by decide +kernel
theorem dx_V_settleRound_51 : decode cd_V_settleRound 51 = .ok (.invokevirtual 72, 3) := by decide +kernel
theorem dx_V_settleRound_54 : decode cd_V_settleRound 54 = .ok (.ifCond .eq 10, 3) := by decide +kernel
theorem dx_V_settleRound_57 : decode cd_V_settleRound 57 = .ok (.aload_n 0, 1) := by decide +kernel
theorem dx_V_settleRound_58 : decode cd_V_settleRound 58 = .ok (.invokevirtual 76, 3) := by decide +kernel
theorem dx_V_settleRound_61 : decode cd_V_settleRound 61 = .ok (.goto 9, 3) := by decide +kernel
theorem dx_V_settleRound_64 : decode cd_V_settleRound 64 = .ok (.aload_n 0, 1) := by decide +kernel
theorem dx_V_settleRound_65 : decode cd_V_settleRound 65 = .ok (.aload_n 1, 1) := by decide +kernel
theorem dx_V_settleRound_66 : decode cd_V_settleRound 66 = .ok (.iload_n 3, 1) := by decide +kernel
theorem dx_V_settleRound_67 : decode cd_V_settleRound 67 = .ok (.invokevirtual 80, 3) := by decide +kernel
theorem dx_V_settleRound_70 : decode cd_V_settleRound 70 = .ok (.iastore, 1) := by decide +kernel
theorem dx_V_settleRound_71 : decode cd_V_settleRound 71 = .ok (.iinc 2 1, 3) := by decide +kernel
theorem dx_V_settleRound_74 : decode cd_V_settleRound 74 = .ok (.iinc 3 1, 3) := by decide +kernel
theorem dx_V_settleRound_77 : decode cd_V_settleRound 77 = .ok (.goto (-73), 3) := by decide +kernel
theorem dx_V_settleRound_80 : decode cd_V_settleRound 80 = .ok (.iload_n 2, 1) := by decide +kernel
theorem dx_V_settleRound_81 : decode cd_V_settleRound 81 = .ok (.ireturn, 1) := by decide +kernel
theorem dx_V_hasSettledArguments_0 : decode cd_V_hasSettledArguments 0 = .ok (.aload_n 0, 1) := by decide +kernel
theorem dx_V_hasSettledArguments_1 : decode cd_V_hasSettledArguments 1 = .ok (.getfield 9, 3) := by decide +kernel
theorem dx_V_hasSettledArguments_4 : decode cd_V_hasSettledArguments 4 = .ok (.getfield 84, 3) := by decide +kernel
theorem dx_V_hasSettledArguments_7 : decode cd_V_hasSettledArguments 7 = .ok (.iload_n 2, 1) := by decide +kernel
theorem dx_V_hasSettledArguments_8 : decode cd_V_hasSettledArguments 8 = .ok (.iaload, 1) := by decide +kernel
theorem dx_V_hasSettledArguments_9 : decode cd_V_hasSettledArguments 9 = .ok (.istore_n 3, 1) := by decide +kernel
theorem dx_V_hasSettledArguments_10 : decode cd_V_hasSettledArguments 10 = .ok (.aload_n 0, 1) := by decide +kernel
theorem dx_V_hasSettledArguments_11 : decode cd_V_hasSettledArguments 11 = .ok (.getfield 9, 3) := by decide +kernel
theorem dx_V_hasSettledArguments_14 : decode cd_V_hasSettledArguments 14 = .ok (.getfield 85, 3) := by decide +kernel
theorem dx_V_hasSettledArguments_17 : decode cd_V_hasSettledArguments 17 = .ok (.iload_n 2, 1) := by decide +kernel
theorem dx_V_hasSettledArguments_18 : decode cd_V_hasSettledArguments 18 = .ok (.iaload, 1) := by decide +kernel
theorem dx_V_hasSettledArguments_19 : decode cd_V_hasSettledArguments 19 = .ok (.istore 4, 2) := by decide +kernel
theorem dx_V_hasSettledArguments_21 : decode cd_V_hasSettledArguments 21 = .ok (.iload_n 3, 1) := by decide +kernel
theorem dx_V_hasSettledArguments_22 : decode cd_V_hasSettledArguments 22 = .ok (.iconst (-1), 1) := by decide +kernel
theorem dx_V_hasSettledArguments_23 : decode cd_V_hasSettledArguments 23 = .ok (.if_icmp .eq 13, 3) := by decide +kernel
theorem dx_V_hasSettledArguments_26 : decode cd_V_hasSettledArguments 26 = .ok (.aload_n 0, 1) := by decide +kernel
theorem dx_V_hasSettledArguments_27 : decode cd_V_hasSettledArguments 27 = .ok (.aload_n 1, 1) := by decide +kernel
theorem dx_V_hasSettledArguments_28 : decode cd_V_hasSettledArguments 28 = .ok (.iload_n 3, 1) := by decide +kernel
theorem dx_V_hasSettledArguments_29 : decode cd_V_hasSettledArguments 29 = .ok (.invokevirtual 86, 3) := by decide +kernel
theorem dx_V_hasSettledArguments_32 : decode cd_V_hasSettledArguments 32 = .ok (.iconst (-1), 1) := by decide +kernel
theorem dx_V_hasSettledArguments_33 : decode cd_V_hasSettledArguments 33 = .ok (.if_icmp .eq 24, 3) := by decide +kernel
theorem dx_V_hasSettledArguments_36 : decode cd_V_hasSettledArguments 36 = .ok (.iload 4, 2) := by decide +kernel
theorem dx_V_hasSettledArguments_38 : decode cd_V_hasSettledArguments 38 = .ok (.iconst (-1), 1) := by decide +kernel
theorem dx_V_hasSettledArguments_39 : decode cd_V_hasSettledArguments 39 = .ok (.if_icmp .eq 14, 3) := by decide +kernel
theorem dx_V_hasSettledArguments_42 : decode cd_V_hasSettledArguments 42 = .ok (.aload_n 0, 1) := by decide +kernel
theorem dx_V_hasSettledArguments_43 : decode cd_V_hasSettledArguments 43 = .ok (.aload_n 1, 1) := by decide +kernel
theorem dx_V_hasSettledArguments_44 : decode cd_V_hasSettledArguments 44 = .ok (.iload 4, 2) := by decide +kernel
theorem dx_V_hasSettledArguments_46 : decode cd_V_hasSettledArguments 46 = .ok (.invokevirtual 86, 3) := by decide +kernel
theorem dx_V_hasSettledArguments_49 : decode cd_V_hasSettledArguments 49 = .ok (.iconst (-1), 1) := by decide +kernel
theorem dx_V_hasSettledArguments_50 : decode cd_V_hasSettledArguments 50 = .ok (.if_icmp .eq 7, 3) := by decide +kernel
theorem dx_V_hasSettledArguments_53 : decode cd_V_hasSettledArguments 53 = .ok (.iconst 1, 1) := by decide +kernel
theorem dx_V_hasSettledArguments_54 : decode cd_V_hasSettledArguments 54 = .ok (.goto 4, 3) := by decide +kernel
theorem dx_V_hasSettledArguments_57 : decode cd_V_hasSettledArguments 57 = .ok (.iconst 0, 1) := by decide +kernel
theorem dx_V_hasSettledArguments_58 : decode cd_V_hasSettledArguments 58 = .ok (.ireturn, 1) := by decide +kernel
theorem dx_V_valueUnder_0 : decode cd_V_valueUnder 0 = .ok (.iload_n 2, 1) := by decide +kernel
theorem dx_V_valueUnder_1 : decode cd_V_valueUnder 1 = .ok (.iconst (-1), 1) := by decide +kernel
theorem dx_V_valueUnder_2 : decode cd_V_valueUnder 2 = .ok (.if_icmp .ne 7, 3) := by decide +kernel
theorem dx_V_valueUnder_5 : decode cd_V_valueUnder 5 = .ok (.iconst (-1), 1) := by decide +kernel
theorem dx_V_valueUnder_6 : decode cd_V_valueUnder 6 = .ok (.goto 11, 3) := by decide +kernel
theorem dx_V_valueUnder_9 : decode cd_V_valueUnder 9 = .ok (.aload_n 0, 1) := by decide +kernel
theorem dx_V_valueUnder_10 : decode cd_V_valueUnder 10 = .ok (.getfield 15, 3) := by decide +kernel
theorem dx_V_valueUnder_13 : decode cd_V_valueUnder 13 = .ok (.aload_n 1, 1) := by decide +kernel
theorem dx_V_valueUnder_14 : decode cd_V_valueUnder 14 = .ok (.iload_n 2, 1) := by decide +kernel
theorem dx_V_valueUnder_15 : decode cd_V_valueUnder 15 = .ok (.iaload, 1) := by decide +kernel
theorem dx_V_valueUnder_16 : decode cd_V_valueUnder 16 = .ok (.iaload, 1) := by decide +kernel
theorem dx_V_valueUnder_17 : decode cd_V_valueUnder 17 = .ok (.ireturn, 1) := by decide +kernel
theorem dx_V_addVariable_0 : decode cd_V_addVariable 0 = .ok (.aload_n 0, 1) := by decide +kernel
theorem dx_V_addVariable_1 : decode cd_V_addVariable 1 = .ok (.iconst (-1), 1) := by decide +kernel
theorem dx_V_addVariable_2 : decode cd_V_addVariable 2 = .ok (.iconst (-1), 1) := by decide +kernel
theorem dx_V_addVariable_3 : decode cd_V_addVariable 3 = .ok (.iconst (-1), 1) := by decide +kernel
theorem dx_V_addVariable_4 : decode cd_V_addVariable 4 = .ok (.invokevirtual 90, 3) := by decide +kernel
theorem dx_V_addVariable_7 : decode cd_V_addVariable 7 = .ok (.istore_n 1, 1) := by decide +kernel
theorem dx_V_addVariable_8 : decode cd_V_addVariable 8 = .ok (.aload_n 0, 1) := by decide +kernel
theorem dx_V_addVariable_9 : decode cd_V_addVariable 9 = .ok (.getfield 38, 3) := by decide +kernel
theorem dx_V_addVariable_12 : decode cd_V_addVariable 12 = .ok (.iload_n 1, 1) := by decide +kernel
theorem dx_V_addVariable_13 : decode cd_V_addVariable 13 = .ok (.lconst 1, 1) := by decide +kernel
theorem dx_V_addVariable_14 : decode cd_V_addVariable 14 = .ok (.iload_n 1, 1) := by decide +kernel
theorem dx_V_addVariable_15 : decode cd_V_addVariable 15 = .ok (.lshl, 1) := by decide +kernel
theorem dx_V_addVariable_16 : decode cd_V_addVariable 16 = .ok (.lastore, 1) := by decide +kernel
theorem dx_V_addVariable_17 : decode cd_V_addVariable 17 = .ok (.aload_n 0, 1) := by decide +kernel
theorem dx_V_addVariable_18 : decode cd_V_addVariable 18 = .ok (.dup, 1) := by decide +kernel
theorem dx_V_addVariable_19 : decode cd_V_addVariable 19 = .ok (.getfield 45, 3) := by decide +kernel
theorem dx_V_addVariable_22 : decode cd_V_addVariable 22 = .ok (.iconst 1, 1) := by decide +kernel
theorem dx_V_addVariable_23 : decode cd_V_addVariable 23 = .ok (.iadd, 1) := by decide +kernel
theorem dx_V_addVariable_24 : decode cd_V_addVariable 24 = .ok (.putfield 45, 3) := by decide +kernel
theorem dx_V_addVariable_27 : decode cd_V_addVariable 27 = .ok (.iload_n 1, 1) := by decide +kernel
theorem dx_V_addVariable_28 : decode cd_V_addVariable 28 = .ok (.ireturn, 1) := by decide +kernel
theorem dx_V_addValue_0 : decode cd_V_addValue 0 = .ok (.aload_n 0, 1) := by decide +kernel
theorem dx_V_addValue_1 : decode cd_V_addValue 1 = .ok (.getfield 41, 3) := by decide +kernel
theorem dx_V_addValue_4 : decode cd_V_addValue 4 = .ok (.istore 4, 2) := by decide +kernel
theorem dx_V_addValue_6 : decode cd_V_addValue 6 = .ok (.aload_n 0, 1) := by decide +kernel
theorem dx_V_addValue_7 : decode cd_V_addValue 7 = .ok (.getfield 19, 3) := by decide +kernel
theorem dx_V_addValue_10 : decode cd_V_addValue 10 = .ok (.iload 4, 2) := by decide +kernel
theorem dx_V_addValue_12 : decode cd_V_addValue 12 = .ok (.iload_n 1, 1) := by decide +kernel
theorem dx_V_addValue_13 : decode cd_V_addValue 13 = .ok (.iastore, 1) := by decide +kernel
theorem dx_V_addValue_14 : decode cd_V_addValue 14 = .ok (.aload_n 0, 1) := by decide +kernel
theorem dx_V_addValue_15 : decode cd_V_addValue 15 = .ok (.getfield 22, 3) := by decide +kernel
theorem dx_V_addValue_18 : decode cd_V_addValue 18 = .ok (.iload 4, 2) := by decide +kernel
theorem dx_V_addValue_20 : decode cd_V_addValue 20 = .ok (.iload_n 2, 1) := by decide +kernel
theorem dx_V_addValue_21 : decode cd_V_addValue 21 = .ok (.iastore, 1) := by decide +kernel
theorem dx_V_addValue_22 : decode cd_V_addValue 22 = .ok (.aload_n 0, 1) := by decide +kernel
theorem dx_V_addValue_23 : decode cd_V_addValue 23 = .ok (.getfield 25, 3) := by decide +kernel
theorem dx_V_addValue_26 : decode cd_V_addValue 26 = .ok (.iload 4, 2) := by decide +kernel
theorem dx_V_addValue_28 : decode cd_V_addValue 28 = .ok (.iload_n 3, 1) := by decide +kernel
theorem dx_V_addValue_29 : decode cd_V_addValue 29 = .ok (.iastore, 1) := by decide +kernel
theorem dx_V_addValue_30 : decode cd_V_addValue 30 = .ok (.aload_n 0, 1) := by decide +kernel
theorem dx_V_addValue_31 : decode cd_V_addValue 31 = .ok (.getfield 34, 3) := by decide +kernel
theorem dx_V_addValue_34 : decode cd_V_addValue 34 = .ok (.iload 4, 2) := by decide +kernel
theorem dx_V_addValue_36 : decode cd_V_addValue 36 = .ok (.lconst 1, 1) := by decide +kernel
theorem dx_V_addValue_37 : decode cd_V_addValue 37 = .ok (.aload_n 0, 1) := by decide +kernel
theorem dx_V_addValue_38 : decode cd_V_addValue 38 = .ok (.iload_n 2, 1) := by decide +kernel
theorem dx_V_addValue_39 : decode cd_V_addValue 39 = .ok (.invokevirtual 94, 3) := by decide +kernel
theorem dx_V_addValue_42 : decode cd_V_addValue 42 = .ok (.ladd, 1) := by decide +kernel
theorem dx_V_addValue_43 : decode cd_V_addValue 43 = .ok (.aload_n 0, 1) := by decide +kernel
theorem dx_V_addValue_44 : decode cd_V_addValue 44 = .ok (.iload_n 3, 1) := by decide +kernel
theorem dx_V_addValue_45 : decode cd_V_addValue 45 = .ok (.invokevirtual 94, 3) := by decide +kernel
theorem dx_V_addValue_48 : decode cd_V_addValue 48 = .ok (.ladd, 1) := by decide +kernel
theorem dx_V_addValue_49 : decode cd_V_addValue 49 = .ok (.lastore, 1) := by decide +kernel
theorem dx_V_addValue_50 : decode cd_V_addValue 50 = .ok (.aload_n 0, 1) := by decide +kernel
theorem dx_V_addValue_51 : decode cd_V_addValue 51 = .ok (.getfield 28, 3) := by decide +kernel
theorem dx_V_addValue_54 : decode cd_V_addValue 54 = .ok (.iload 4, 2) := by decide +kernel
theorem dx_V_addValue_56 : decode cd_V_addValue 56 = .ok (.iconst 1, 1) := by decide +kernel
theorem dx_V_addValue_57 : decode cd_V_addValue 57 = .ok (.aload_n 0, 1) := by decide +kernel
theorem dx_V_addValue_58 : decode cd_V_addValue 58 = .ok (.iload_n 2, 1) := by decide +kernel
theorem dx_V_addValue_59 : decode cd_V_addValue 59 = .ok (.invokevirtual 98, 3) := by decide +kernel
theorem dx_V_addValue_62 : decode cd_V_addValue 62 = .ok (.aload_n 0, 1) := by decide +kernel
theorem dx_V_addValue_63 : decode cd_V_addValue 63 = .ok (.iload_n 3, 1) := by decide +kernel
theorem dx_V_addValue_64 : decode cd_V_addValue 64 = .ok (.invokevirtual 98, 3) := by decide +kernel
theorem dx_V_addValue_67 : decode cd_V_addValue 67 = .ok (.invokestatic 102, 3) := by decide +kernel
theorem dx_V_addValue_70 : decode cd_V_addValue 70 = .ok (.iadd, 1) := by decide +kernel
theorem dx_V_addValue_71 : decode cd_V_addValue 71 = .ok (.iastore, 1) := by decide +kernel
theorem dx_V_addValue_72 : decode cd_V_addValue 72 = .ok (.aload_n 0, 1) := by decide +kernel
theorem dx_V_addValue_73 : decode cd_V_addValue 73 = .ok (.getfield 38, 3) := by decide +kernel
theorem dx_V_addValue_76 : decode cd_V_addValue 76 = .ok (.iload 4, 2) := by decide +kernel
theorem dx_V_addValue_78 : decode cd_V_addValue 78 = .ok (.aload_n 0, 1) := by decide +kernel
theorem dx_V_addValue_79 : decode cd_V_addValue 79 = .ok (.iload_n 2, 1) := by decide +kernel
theorem dx_V_addValue_80 : decode cd_V_addValue 80 = .ok (.invokevirtual 108, 3) := by decide +kernel
theorem dx_V_addValue_83 : decode cd_V_addValue 83 = .ok (.aload_n 0, 1) := by decide +kernel
theorem dx_V_addValue_84 : decode cd_V_addValue 84 = .ok (.iload_n 3, 1) := by decide +kernel
theorem dx_V_addValue_85 : decode cd_V_addValue 85 = .ok (.invokevirtual 108, 3) := by decide +kernel
theorem dx_V_addValue_88 : decode cd_V_addValue 88 = .ok (.lor, 1) := by decide +kernel
theorem dx_V_addValue_89 : decode cd_V_addValue 89 = .ok (.lastore, 1) := by decide +kernel
theorem dx_V_addValue_90 : decode cd_V_addValue 90 = .ok (.aload_n 0, 1) := by decide +kernel
theorem dx_V_addValue_91 : decode cd_V_addValue 91 = .ok (.getfield 31, 3) := by decide +kernel
theorem dx_V_addValue_94 : decode cd_V_addValue 94 = .ok (.iload 4, 2) := by decide +kernel
theorem dx_V_addValue_96 : decode cd_V_addValue 96 = .ok (.iconst (-1), 1) := by decide +kernel
theorem dx_V_addValue_97 : decode cd_V_addValue 97 = .ok (.iastore, 1) := by decide +kernel
theorem dx_V_addValue_98 : decode cd_V_addValue 98 = .ok (.aload_n 0, 1) := by decide +kernel
theorem dx_V_addValue_99 : decode cd_V_addValue 99 = .ok (.dup, 1) := by decide +kernel
theorem dx_V_addValue_100 : decode cd_V_addValue 100 = .ok (.getfield 41, 3) := by decide +kernel
theorem dx_V_addValue_103 : decode cd_V_addValue 103 = .ok (.iconst 1, 1) := by decide +kernel
theorem dx_V_addValue_104 : decode cd_V_addValue 104 = .ok (.iadd, 1) := by decide +kernel
theorem dx_V_addValue_105 : decode cd_V_addValue 105 = .ok (.putfield 41, 3) := by decide +kernel
theorem dx_V_addValue_108 : decode cd_V_addValue 108 = .ok (.iload 4, 2) := by decide +kernel
theorem dx_V_addValue_110 : decode cd_V_addValue 110 = .ok (.ireturn, 1) := by decide +kernel
theorem dx_V_sizeOrNone_0 : decode cd_V_sizeOrNone 0 = .ok (.iload_n 1, 1) := by decide +kernel
theorem dx_V_sizeOrNone_1 : decode cd_V_sizeOrNone 1 = .ok (.iconst (-1), 1) := by decide +kernel
theorem dx_V_sizeOrNone_2 : decode cd_V_sizeOrNone 2 = .ok (.if_icmp .ne 7, 3) := by decide +kernel
theorem dx_V_sizeOrNone_5 : decode cd_V_sizeOrNone 5 = .ok (.lconst 0, 1) := by decide +kernel
theorem dx_V_sizeOrNone_6 : decode cd_V_sizeOrNone 6 = .ok (.goto 9, 3) := by decide +kernel
theorem dx_V_sizeOrNone_9 : decode cd_V_sizeOrNone 9 = .ok (.aload_n 0, 1) := by decide +kernel
theorem dx_V_sizeOrNone_10 : decode cd_V_sizeOrNone 10 = .ok (.getfield 34, 3) := by decide +kernel
theorem dx_V_sizeOrNone_13 : decode cd_V_sizeOrNone 13 = .ok (.iload_n 1, 1) := by decide +kernel
theorem dx_V_sizeOrNone_14 : decode cd_V_sizeOrNone 14 = .ok (.laload, 1) := by decide +kernel
theorem dx_V_sizeOrNone_15 : decode cd_V_sizeOrNone 15 = .ok (.lreturn, 1) := by decide +kernel
theorem dx_V_depthOrNone_0 : decode cd_V_depthOrNone 0 = .ok (.iload_n 1, 1) := by decide +kernel
theorem dx_V_depthOrNone_1 : decode cd_V_depthOrNone 1 = .ok (.iconst (-1), 1) := by decide +kernel
theorem dx_V_depthOrNone_2 : decode cd_V_depthOrNone 2 = .ok (.if_icmp .ne 7, 3) := by decide +kernel
theorem dx_V_depthOrNone_5 : decode cd_V_depthOrNone 5 = .ok (.iconst 0, 1) := by decide +kernel
theorem dx_V_depthOrNone_6 : decode cd_V_depthOrNone 6 = .ok (.goto 9, 3) := by decide +kernel
theorem dx_V_depthOrNone_9 : decode cd_V_depthOrNone 9 = .ok (.aload_n 0, 1) := by decide +kernel
theorem dx_V_depthOrNone_10 : decode cd_V_depthOrNone 10 = .ok (.getfield 28, 3) := by decide +kernel
theorem dx_V_depthOrNone_13 : decode cd_V_depthOrNone 13 = .ok (.iload_n 1, 1) := by decide +kernel
theorem dx_V_depthOrNone_14 : decode cd_V_depthOrNone 14 = .ok (.iaload, 1) := by decide +kernel
theorem dx_V_depthOrNone_15 : decode cd_V_depthOrNone 15 = .ok (.ireturn, 1) := by decide +kernel
theorem dx_V_holdsOrNone_0 : decode cd_V_holdsOrNone 0 = .ok (.iload_n 1, 1) := by decide +kernel
theorem dx_V_holdsOrNone_1 : decode cd_V_holdsOrNone 1 = .ok (.iconst (-1), 1) := by decide +kernel
theorem dx_V_holdsOrNone_2 : decode cd_V_holdsOrNone 2 = .ok (.if_icmp .ne 7, 3) := by decide +kernel
theorem dx_V_holdsOrNone_5 : decode cd_V_holdsOrNone 5 = .ok (.lconst 0, 1) := by decide +kernel
theorem dx_V_holdsOrNone_6 : decode cd_V_holdsOrNone 6 = .ok (.goto 9, 3) := by decide +kernel
theorem dx_V_holdsOrNone_9 : decode cd_V_holdsOrNone 9 = .ok (.aload_n 0, 1) := by decide +kernel
theorem dx_V_holdsOrNone_10 : decode cd_V_holdsOrNone 10 = .ok (.getfield 38, 3) := by decide +kernel
theorem dx_V_holdsOrNone_13 : decode cd_V_holdsOrNone 13 = .ok (.iload_n 1, 1) := by decide +kernel
theorem dx_V_holdsOrNone_14 : decode cd_V_holdsOrNone 14 = .ok (.laload, 1) := by decide +kernel
theorem dx_V_holdsOrNone_15 : decode cd_V_holdsOrNone 15 = .ok (.lreturn, 1) := by decide +kernel
theorem dx_V_valueLike_0 : decode cd_V_valueLike 0 = .ok (.aload_n 0, 1) := by decide +kernel
theorem dx_V_valueLike_1 : decode cd_V_valueLike 1 = .ok (.aload_n 1, 1) := by decide +kernel
theorem dx_V_valueLike_2 : decode cd_V_valueLike 2 = .ok (.aload_n 0, 1) := by decide +kernel
theorem dx_V_valueLike_3 : decode cd_V_valueLike 3 = .ok (.getfield 9, 3) := by decide +kernel
theorem dx_V_valueLike_6 : decode cd_V_valueLike 6 = .ok (.getfield 84, 3) := by decide +kernel
theorem dx_V_valueLike_9 : decode cd_V_valueLike 9 = .ok (.iload_n 2, 1) := by decide +kernel
theorem dx_V_valueLike_10 : decode cd_V_valueLike 10 = .ok (.iaload, 1) := by decide +kernel
theorem dx_V_valueLike_11 : decode cd_V_valueLike 11 = .ok (.invokevirtual 86, 3) := by decide +kernel
theorem dx_V_valueLike_14 : decode cd_V_valueLike 14 = .ok (.istore_n 3, 1) := by decide +kernel
theorem dx_V_valueLike_15 : decode cd_V_valueLike 15 = .ok (.aload_n 0, 1) := by decide +kernel
theorem dx_V_valueLike_16 : decode cd_V_valueLike 16 = .ok (.aload_n 1, 1) := by decide +kernel
theorem dx_V_valueLike_17 : decode cd_V_valueLike 17 = .ok (.aload_n 0, 1) := by decide +kernel
theorem dx_V_valueLike_18 : decode cd_V_valueLike 18 = .ok (.getfield 9, 3) := by decide +kernel
theorem dx_V_valueLike_21 : decode cd_V_valueLike 21 = .ok (.getfield 85, 3) := by decide +kernel
theorem dx_V_valueLike_24 : decode cd_V_valueLike 24 = .ok (.iload_n 2, 1) := by decide +kernel
theorem dx_V_valueLike_25 : decode cd_V_valueLike 25 = .ok (.iaload, 1) := by decide +kernel
theorem dx_V_valueLike_26 : decode cd_V_valueLike 26 = .ok (.invokevirtual 86, 3) := by decide +kernel
theorem dx_V_valueLike_29 : decode cd_V_valueLike 29 = .ok (.istore 4, 2) := by decide +kernel
theorem dx_V_valueLike_31 : decode cd_V_valueLike 31 = .ok (.iconst 0, 1) := by decide +kernel
theorem dx_V_valueLike_32 : decode cd_V_valueLike 32 = .ok (.istore 5, 2) := by decide +kernel
theorem dx_V_valueLike_34 : decode cd_V_valueLike 34 = .ok (.iload 5, 2) := by decide +kernel
theorem dx_V_valueLike_36 : decode cd_V_valueLike 36 = .ok (.aload_n 0, 1) := by decide +kernel
theorem dx_V_valueLike_37 : decode cd_V_valueLike 37 = .ok (.getfield 41, 3) := by decide +kernel
theorem dx_V_valueLike_40 : decode cd_V_valueLike 40 = .ok (.if_icmp .ge 54, 3) := by decide +kernel
theorem dx_V_valueLike_43 : decode cd_V_valueLike 43 = .ok (.aload_n 0, 1) := by decide +kernel
theorem dx_V_valueLike_44 : decode cd_V_valueLike 44 = .ok (.getfield 19, 3) := by decide +kernel
theorem dx_V_valueLike_47 : decode cd_V_valueLike 47 = .ok (.iload 5, 2) := by decide +kernel
theorem dx_V_valueLike_49 : decode cd_V_valueLike 49 = .ok (.iaload, 1) := by decide +kernel
theorem dx_V_valueLike_50 : decode cd_V_valueLike 50 = .ok (.aload_n 0, 1) := by decide +kernel
theorem dx_V_valueLike_51 : decode cd_V_valueLike 51 = .ok (.getfield 9, 3) := by decide +kernel
theorem dx_V_valueLike_54 : decode cd_V_valueLike 54 = .ok (.getfield 89, 3) := by decide +kernel
theorem dx_V_valueLike_57 : decode cd_V_valueLike 57 = .ok (.iload_n 2, 1) := by decide +kernel
theorem dx_V_valueLike_58 : decode cd_V_valueLike 58 = .ok (.iaload, 1) := by decide +kernel
theorem dx_V_valueLike_59 : decode cd_V_valueLike 59 = .ok (.if_icmp .ne 29, 3) := by decide +kernel
theorem dx_V_valueLike_62 : decode cd_V_valueLike 62 = .ok (.aload_n 0, 1) := by decide +kernel
theorem dx_V_valueLike_63 : decode cd_V_valueLike 63 = .ok (.getfield 22, 3) := by decide +kernel
theorem dx_V_valueLike_66 : decode cd_V_valueLike 66 = .ok (.iload 5, 2) := by decide +kernel
theorem dx_V_valueLike_68 : decode cd_V_valueLike 68 = .ok (.iaload, 1) := by decide +kernel
theorem dx_V_valueLike_69 : decode cd_V_valueLike 69 = .ok (.iload_n 3, 1) := by decide +kernel
theorem dx_V_valueLike_70 : decode cd_V_valueLike 70 = .ok (.if_icmp .ne 18, 3) := by decide +kernel
theorem dx_V_valueLike_73 : decode cd_V_valueLike 73 = .ok (.aload_n 0, 1) := by decide +kernel
theorem dx_V_valueLike_74 : decode cd_V_valueLike 74 = .ok (.getfield 25, 3) := by decide +kernel
theorem dx_V_valueLike_77 : decode cd_V_valueLike 77 = .ok (.iload 5, 2) := by decide +kernel
theorem dx_V_valueLike_79 : decode cd_V_valueLike 79 = .ok (.iaload, 1) := by decide +kernel
theorem dx_V_valueLike_80 : decode cd_V_valueLike 80 = .ok (.iload 4, 2) := by decide +kernel
theorem dx_V_valueLike_82 : decode cd_V_valueLike 82 = .ok (.if_icmp .ne 6, 3) := by decide +kernel
theorem dx_V_valueLike_85 : decode cd_V_valueLike 85 = .ok (.iload 5, 2) := by decide +kernel
theorem dx_V_valueLike_87 : decode cd_V_valueLike 87 = .ok (.ireturn, 1) := by decide +kernel
theorem dx_V_valueLike_88 : decode cd_V_valueLike 88 = .ok (.iinc 5 1, 3) := by decide +kernel
theorem dx_V_valueLike_91 : decode cd_V_valueLike 91 = .ok (.goto (-57), 3) := by decide +kernel
theorem dx_V_valueLike_94 : decode cd_V_valueLike 94 = .ok (.aload_n 0, 1) := by decide +kernel
theorem dx_V_valueLike_95 : decode cd_V_valueLike 95 = .ok (.aload_n 0, 1) := by decide +kernel
theorem dx_V_valueLike_96 : decode cd_V_valueLike 96 = .ok (.getfield 9, 3) := by decide +kernel
theorem dx_V_valueLike_99 : decode cd_V_valueLike 99 = .ok (.getfield 89, 3) := by decide +kernel
theorem dx_V_valueLike_102 : decode cd_V_valueLike 102 = .ok (.iload_n 2, 1) := by decide +kernel
theorem dx_V_valueLike_103 : decode cd_V_valueLike 103 = .ok (.iaload, 1) := by decide +kernel
theorem dx_V_valueLike_104 : decode cd_V_valueLike 104 = .ok (.iload_n 3, 1) := by decide +kernel
theorem dx_V_valueLike_105 : decode cd_V_valueLike 105 = .ok (.iload 4, 2) := by decide +kernel
theorem dx_V_valueLike_107 : decode cd_V_valueLike 107 = .ok (.invokevirtual 90, 3) := by decide +kernel
theorem dx_V_valueLike_110 : decode cd_V_valueLike 110 = .ok (.ireturn, 1) := by decide +kernel
theorem dx_V_findLeaders_0 : decode cd_V_findLeaders 0 = .ok (.iconst 0, 1) := by decide +kernel
theorem dx_V_findLeaders_1 : decode cd_V_findLeaders 1 = .ok (.istore_n 2, 1) := by decide +kernel
theorem dx_V_findLeaders_2 : decode cd_V_findLeaders 2 = .ok (.iload_n 2, 1) := by decide +kernel
theorem dx_V_findLeaders_3 : decode cd_V_findLeaders 3 = .ok (.aload_n 0, 1) := by decide +kernel
theorem dx_V_findLeaders_4 : decode cd_V_findLeaders 4 = .ok (.getfield 9, 3) := by decide +kernel
theorem dx_V_findLeaders_7 : decode cd_V_findLeaders 7 = .ok (.getfield 65, 3) := by decide +kernel
theorem dx_V_findLeaders_10 : decode cd_V_findLeaders 10 = .ok (.if_icmp .ge 42, 3) := by decide +kernel
theorem dx_V_findLeaders_13 : decode cd_V_findLeaders 13 = .ok (.aload_n 0, 1) := by decide +kernel
theorem dx_V_findLeaders_14 : decode cd_V_findLeaders 14 = .ok (.getfield 15, 3) := by decide +kernel
theorem dx_V_findLeaders_17 : decode cd_V_findLeaders 17 = .ok (.aload_n 1, 1) := by decide +kernel
theorem dx_V_findLeaders_18 : decode cd_V_findLeaders 18 = .ok (.iload_n 2, 1) := by decide +kernel
theorem dx_V_findLeaders_19 : decode cd_V_findLeaders 19 = .ok (.iaload, 1) := by decide +kernel
theorem dx_V_findLeaders_20 : decode cd_V_findLeaders 20 = .ok (.iaload, 1) := by decide +kernel
theorem dx_V_findLeaders_21 : decode cd_V_findLeaders 21 = .ok (.istore_n 3, 1) := by decide +kernel
theorem dx_V_findLeaders_22 : decode cd_V_findLeaders 22 = .ok (.aload_n 0, 1) := by decide +kernel
theorem dx_V_findLeaders_23 : decode cd_V_findLeaders 23 = .ok (.getfield 15, 3) := by decide +kernel
theorem dx_V_findLeaders_26 : decode cd_V_findLeaders 26 = .ok (.iload_n 2, 1) := by decide +kernel
theorem dx_V_findLeaders_27 : decode cd_V_findLeaders 27 = .ok (.iload_n 3, 1) := by decide +kernel
theorem dx_V_findLeaders_28 : decode cd_V_findLeaders 28 = .ok (.iastore, 1) := by decide +kernel
theorem dx_V_findLeaders_29 : decode cd_V_findLeaders 29 = .ok (.aload_n 0, 1) := by decide +kernel
theorem dx_V_findLeaders_30 : decode cd_V_findLeaders 30 = .ok (.getfield 31, 3) := by decide +kernel
theorem dx_V_findLeaders_33 : decode cd_V_findLeaders 33 = .ok (.iload_n 3, 1) := by decide +kernel
theorem dx_V_findLeaders_34 : decode cd_V_findLeaders 34 = .ok (.iaload, 1) := by decide +kernel
theorem dx_V_findLeaders_35 : decode cd_V_findLeaders 35 = .ok (.iconst (-1), 1) := by decide +kernel
theorem dx_V_findLeaders_36 : decode cd_V_findLeaders 36 = .ok (.if_icmp .ne 10, 3) := by decide +kernel
theorem dx_V_findLeaders_39 : decode cd_V_findLeaders 39 = .ok (.aload_n 0, 1) := by decide +kernel
theorem dx_V_findLeaders_40 : decode cd_V_findLeaders 40 = .ok (.getfield 31, 3) := by decide +kernel
theorem dx_V_findLeaders_43 : decode cd_V_findLeaders 43 = .ok (.iload_n 3, 1) := by decide +kernel
theorem dx_V_findLeaders_44 : decode cd_V_findLeaders 44 = .ok (.iload_n 2, 1) := by decide +kernel
theorem dx_V_findLeaders_45 : decode cd_V_findLeaders 45 = .ok (.iastore, 1) := by decide +kernel
theorem dx_V_findLeaders_46 : decode cd_V_findLeaders 46 = .ok (.iinc 2 1, 3) := by decide +kernel
theorem dx_V_findLeaders_49 : decode cd_V_findLeaders 49 = .ok (.goto (-47), 3) := by decide +kernel
theorem dx_V_findLeaders_52 : decode cd_V_findLeaders 52 = .ok (.return_, 1) := by decide +kernel
theorem dx_V_writtenAt_0 : decode cd_V_writtenAt 0 = .ok (.iload_n 1, 1) := by decide +kernel
theorem dx_V_writtenAt_1 : decode cd_V_writtenAt 1 = .ok (.istore 4, 2) := by decide +kernel
theorem dx_V_writtenAt_3 : decode cd_V_writtenAt 3 = .ok (.lload_n 2, 1) := by decide +kernel
theorem dx_V_writtenAt_4 : decode cd_V_writtenAt 4 = .ok (.lstore 5, 2) := by decide +kernel
theorem dx_V_writtenAt_6 : decode cd_V_writtenAt 6 = .ok (.iconst 0, 1) := by decide +kernel
theorem dx_V_writtenAt_7 : decode cd_V_writtenAt 7 = .ok (.istore 7, 2) := by decide +kernel
theorem dx_V_writtenAt_9 : decode cd_V_writtenAt 9 = .ok (.iload 7, 2) := by decide +kernel
theorem dx_V_writtenAt_11 : decode cd_V_writtenAt 11 = .ok (.bipush 40, 2) := by decide +kernel
theorem dx_V_writtenAt_13 : decode cd_V_writtenAt 13 = .ok (.if_icmp .ge 71, 3) := by decide +kernel
theorem dx_V_writtenAt_16 : decode cd_V_writtenAt 16 = .ok (.lload 5, 2) := by decide +kernel
theorem dx_V_writtenAt_18 : decode cd_V_writtenAt 18 = .ok (.lconst 0, 1) := by decide +kernel
theorem dx_V_writtenAt_19 : decode cd_V_writtenAt 19 = .ok (.lcmp, 1) := by decide +kernel
theorem dx_V_writtenAt_20 : decode cd_V_writtenAt 20 = .ok (.ifCond .le 64, 3) := by decide +kernel
theorem dx_V_writtenAt_23 : decode cd_V_writtenAt 23 = .ok (.lload 5, 2) := by decide +kernel
theorem dx_V_writtenAt_25 : decode cd_V_writtenAt 25 = .ok (.lconst 1, 1) := by decide +kernel
theorem dx_V_writtenAt_26 : decode cd_V_writtenAt 26 = .ok (.lsub, 1) := by decide +kernel
theorem dx_V_writtenAt_27 : decode cd_V_writtenAt 27 = .ok (.lstore 5, 2) := by decide +kernel
theorem dx_V_writtenAt_29 : decode cd_V_writtenAt 29 = .ok (.aload_n 0, 1) := by decide +kernel
theorem dx_V_writtenAt_30 : decode cd_V_writtenAt 30 = .ok (.aload_n 0, 1) := by decide +kernel
theorem dx_V_writtenAt_31 : decode cd_V_writtenAt 31 = .ok (.getfield 22, 3) := by decide +kernel
theorem dx_V_writtenAt_34 : decode cd_V_writtenAt 34 = .ok (.iload 4, 2) := by decide +kernel
theorem dx_V_writtenAt_36 : decode cd_V_writtenAt 36 = .ok (.iaload, 1) := by decide +kernel
theorem dx_V_writtenAt_37 : decode cd_V_writtenAt 37 = .ok (.invokevirtual 94, 3) := by decide +kernel
theorem dx_V_writtenAt_40 : decode cd_V_writtenAt 40 = .ok (.lstore 8, 2) := by decide +kernel
theorem dx_V_writtenAt_42 : decode cd_V_writtenAt 42 = .ok (.lload 5, 2) := by decide +kernel
theorem dx_V_writtenAt_44 : decode cd_V_writtenAt 44 = .ok (.lload 8, 2) := by decide +kernel
theorem dx_V_writtenAt_46 : decode cd_V_writtenAt 46 = .ok (.lcmp, 1) := by decide +kernel
theorem dx_V_writtenAt_47 : decode cd_V_writtenAt 47 = .ok (.ifCond .ge 15, 3) := by decide +kernel
theorem dx_V_writtenAt_50 : decode cd_V_writtenAt 50 = .ok (.aload_n 0, 1) := by decide +kernel
theorem dx_V_writtenAt_51 : decode cd_V_writtenAt 51 = .ok (.getfield 22, 3) := by decide +kernel
theorem dx_V_writtenAt_54 : decode cd_V_writtenAt 54 = .ok (.iload 4, 2) := by decide +kernel
theorem dx_V_writtenAt_56 : decode cd_V_writtenAt 56 = .ok (.iaload, 1) := by decide +kernel
theorem dx_V_writtenAt_57 : decode cd_V_writtenAt 57 = .ok (.istore 4, 2) := by decide +kernel
theorem dx_V_writtenAt_59 : decode cd_V_writtenAt 59 = .ok (.goto 19, 3) := by decide +kernel
theorem dx_V_writtenAt_62 : decode cd_V_writtenAt 62 = .ok (.lload 5, 2) := by decide +kernel
theorem dx_V_writtenAt_64 : decode cd_V_writtenAt 64 = .ok (.lload 8, 2) := by decide +kernel
theorem dx_V_writtenAt_66 : decode cd_V_writtenAt 66 = .ok (.lsub, 1) := by decide +kernel
theorem dx_V_writtenAt_67 : decode cd_V_writtenAt 67 = .ok (.lstore 5, 2) := by decide +kernel
theorem dx_V_writtenAt_69 : decode cd_V_writtenAt 69 = .ok (.aload_n 0, 1) := by decide +kernel
theorem dx_V_writtenAt_70 : decode cd_V_writtenAt 70 = .ok (.getfield 25, 3) := by decide +kernel
theorem dx_V_writtenAt_73 : decode cd_V_writtenAt 73 = .ok (.iload 4, 2) := by decide +kernel
theorem dx_V_writtenAt_75 : decode cd_V_writtenAt 75 = .ok (.iaload, 1) := by decide +kernel
theorem dx_V_writtenAt_76 : decode cd_V_writtenAt 76 = .ok (.istore 4, 2) := by decide +kernel
theorem dx_V_writtenAt_78 : decode cd_V_writtenAt 78 = .ok (.iinc 7 1, 3) := by decide +kernel
theorem dx_V_writtenAt_81 : decode cd_V_writtenAt 81 = .ok (.goto (-72), 3) := by decide +kernel
theorem dx_V_writtenAt_84 : decode cd_V_writtenAt 84 = .ok (.aload_n 0, 1) := by decide +kernel
theorem dx_V_writtenAt_85 : decode cd_V_writtenAt 85 = .ok (.getfield 19, 3) := by decide +kernel
theorem dx_V_writtenAt_88 : decode cd_V_writtenAt 88 = .ok (.iload 4, 2) := by decide +kernel
theorem dx_V_writtenAt_90 : decode cd_V_writtenAt 90 = .ok (.iaload, 1) := by decide +kernel
theorem dx_V_writtenAt_91 : decode cd_V_writtenAt 91 = .ok (.iconst (-1), 1) := by decide +kernel
theorem dx_V_writtenAt_92 : decode cd_V_writtenAt 92 = .ok (.if_icmp .ne 15, 3) := by decide +kernel
theorem dx_V_writtenAt_95 : decode cd_V_writtenAt 95 = .ok (.iconst (-1), 1) := by decide +kernel
theorem dx_V_writtenAt_96 : decode cd_V_writtenAt 96 = .ok (.aload_n 0, 1) := by decide +kernel
theorem dx_V_writtenAt_97 : decode cd_V_writtenAt 97 = .ok (.getfield 31, 3) := by decide +kernel
theorem dx_V_writtenAt_100 : decode cd_V_writtenAt 100 = .ok (.iload 4, 2) := by decide +kernel
theorem dx_V_writtenAt_102 : decode cd_V_writtenAt 102 = .ok (.iaload, 1) := by decide +kernel
theorem dx_V_writtenAt_103 : decode cd_V_writtenAt 103 = .ok (.isub, 1) := by decide +kernel
theorem dx_V_writtenAt_104 : decode cd_V_writtenAt 104 = .ok (.goto 10, 3) := by decide +kernel
theorem dx_V_writtenAt_107 : decode cd_V_writtenAt 107 = .ok (.aload_n 0, 1) := by decide +kernel
theorem dx_V_writtenAt_108 : decode cd_V_writtenAt 108 = .ok (.getfield 19, 3) := by decide +kernel
theorem dx_V_writtenAt_111 : decode cd_V_writtenAt 111 = .ok (.iload 4, 2) := by decide +kernel
theorem dx_V_writtenAt_113 : decode cd_V_writtenAt 113 = .ok (.iaload, 1) := by decide +kernel
theorem dx_V_writtenAt_114 : decode cd_V_writtenAt 114 = .ok (.ireturn, 1) := by decide +kernel
