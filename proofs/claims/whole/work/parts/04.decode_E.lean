theorem dx_E_init_0 : decode cd_E_init 0 = .ok (.aload_n 0, 1) := by decide +kernel
theorem dx_E_init_1 : decode cd_E_init 1 = .ok (.invokespecial 3, 3) := by decide +kernel
theorem dx_E_init_4 : decode cd_E_init 4 = .ok (.aload_n 0, 1) := by decide +kernel
theorem dx_E_init_5 : decode cd_E_init 5 = .ok (.aload_n 1, 1) := by decide +kernel
theorem dx_E_init_6 : decode cd_E_init 6 = .ok (.putfield 9, 3) := by decide +kernel
theorem dx_E_init_9 : decode cd_E_init 9 = .ok (.aload_n 0, 1) := by decide +kernel
theorem dx_E_init_10 : decode cd_E_init 10 = .ok (.bipush 21, 2) := by decide +kernel
theorem dx_E_init_12 : decode cd_E_init 12 = .ok (.bipush 40, 2) := by decide +kernel
theorem dx_E_init_14 : decode cd_E_init 14 = .ok (.multianewarray 15 2, 4) := by decide +kernel
theorem dx_E_init_18 : decode cd_E_init 18 = .ok (.putfield 17, 3) := by decide +kernel
theorem dx_E_init_21 : decode cd_E_init 21 = .ok (.aload_n 0, 1) := by decide +kernel
theorem dx_E_init_22 : decode cd_E_init 22 = .ok (.bipush 80, 2) := by decide +kernel
theorem dx_E_init_24 : decode cd_E_init 24 = .ok (.newarray .int, 2) := by decide +kernel
theorem dx_E_init_26 : decode cd_E_init 26 = .ok (.putfield 20, 3) := by decide +kernel
theorem dx_E_init_29 : decode cd_E_init 29 = .ok (.aload_n 0, 1) := by decide +kernel
theorem dx_E_init_30 : decode cd_E_init 30 = .ok (.bipush 80, 2) := by decide +kernel
theorem dx_E_init_32 : decode cd_E_init 32 = .ok (.newarray .int, 2) := by decide +kernel
theorem dx_E_init_34 : decode cd_E_init 34 = .ok (.putfield 24, 3) := by decide +kernel
theorem dx_E_init_37 : decode cd_E_init 37 = .ok (.aload_n 0, 1) := by decide +kernel
theorem dx_E_init_38 : decode cd_E_init 38 = .ok (.iconst 0, 1) := by decide +kernel
theorem dx_E_init_39 : decode cd_E_init 39 = .ok (.putfield 27, 3) := by decide +kernel
theorem dx_E_init_42 : decode cd_E_init 42 = .ok (.aload_n 0, 1) := by decide +kernel
theorem dx_E_init_43 : decode cd_E_init 43 = .ok (.iconst 0, 1) := by decide +kernel
theorem dx_E_init_44 : decode cd_E_init 44 = .ok (.putfield 31, 3) := by decide +kernel
theorem dx_E_init_47 : decode cd_E_init 47 = .ok (.iconst 0, 1) := by decide +kernel
theorem dx_E_init_48 : decode cd_E_init 48 = .ok (.istore_n 2, 1) := by decide +kernel
theorem dx_E_init_49 : decode cd_E_init 49 = .ok (.iload_n 2, 1) := by decide +kernel
theorem dx_E_init_50 : decode cd_E_init 50 = .ok (.bipush 40, 2) := by decide +kernel
theorem dx_E_init_52 : decode cd_E_init 52 = .ok (.if_icmp .ge 18, 3) := by decide +kernel
theorem dx_E_init_55 : decode cd_E_init 55 = .ok (.aload_n 0, 1) := by decide +kernel
theorem dx_E_init_56 : decode cd_E_init 56 = .ok (.getfield 17, 3) := by decide +kernel
theorem dx_E_init_59 : decode cd_E_init 59 = .ok (.iconst 0, 1) := by decide +kernel
theorem dx_E_init_60 : decode cd_E_init 60 = .ok (.aaload, 1) := by decide +kernel
theorem dx_E_init_61 : decode cd_E_init 61 = .ok (.iload_n 2, 1) := by decide +kernel
theorem dx_E_init_62 : decode cd_E_init 62 = .ok (.iload_n 2, 1) := by decide +kernel
theorem dx_E_init_63 : decode cd_E_init 63 = .ok (.iastore, 1) := by decide +kernel
theorem dx_E_init_64 : decode cd_E_init 64 = .ok (.iinc 2 1, 3) := by decide +kernel
theorem dx_E_init_67 : decode cd_E_init 67 = .ok (.goto (-18), 3) := by decide +kernel
theorem dx_E_init_70 : decode cd_E_init 70 = .ok (.return_, 1) := by decide +kernel
theorem dx_E_keptRow_0 : decode cd_E_keptRow 0 = .ok (.aload_n 0, 1) := by decide +kernel
theorem dx_E_keptRow_1 : decode cd_E_keptRow 1 = .ok (.getfield 17, 3) := by decide +kernel
theorem dx_E_keptRow_4 : decode cd_E_keptRow 4 = .ok (.aload_n 0, 1) := by decide +kernel
theorem dx_E_keptRow_5 : decode cd_E_keptRow 5 = .ok (.getfield 31, 3) := by decide +kernel
theorem dx_E_keptRow_8 : decode cd_E_keptRow 8 = .ok (.aaload, 1) := by decide +kernel
theorem dx_E_keptRow_9 : decode cd_E_keptRow 9 = .ok (.areturn, 1) := by decide +kernel
theorem dx_E_areFull_0 : decode cd_E_areFull 0 = .ok (.aload_n 0, 1) := by decide +kernel
theorem dx_E_areFull_1 : decode cd_E_areFull 1 = .ok (.getfield 31, 3) := by decide +kernel
theorem dx_E_areFull_4 : decode cd_E_areFull 4 = .ok (.bipush 20, 2) := by decide +kernel
theorem dx_E_areFull_6 : decode cd_E_areFull 6 = .ok (.if_icmp .lt 7, 3) := by decide +kernel
theorem dx_E_areFull_9 : decode cd_E_areFull 9 = .ok (.iconst 1, 1) := by decide +kernel
theorem dx_E_areFull_10 : decode cd_E_areFull 10 = .ok (.goto 4, 3) := by decide +kernel
theorem dx_E_areFull_13 : decode cd_E_areFull 13 = .ok (.iconst 0, 1) := by decide +kernel
theorem dx_E_areFull_14 : decode cd_E_areFull 14 = .ok (.ireturn, 1) := by decide +kernel
theorem dx_E_join_0 : decode cd_E_join 0 = .ok (.aload_n 0, 1) := by decide +kernel
theorem dx_E_join_1 : decode cd_E_join 1 = .ok (.invokevirtual 34, 3) := by decide +kernel
theorem dx_E_join_4 : decode cd_E_join 4 = .ok (.astore_n 3, 1) := by decide +kernel
theorem dx_E_join_5 : decode cd_E_join 5 = .ok (.aload_n 0, 1) := by decide +kernel
theorem dx_E_join_6 : decode cd_E_join 6 = .ok (.invokevirtual 38, 3) := by decide +kernel
theorem dx_E_join_9 : decode cd_E_join 9 = .ok (.iconst 0, 1) := by decide +kernel
theorem dx_E_join_10 : decode cd_E_join 10 = .ok (.aload_n 3, 1) := by decide +kernel
theorem dx_E_join_11 : decode cd_E_join 11 = .ok (.iconst 0, 1) := by decide +kernel
theorem dx_E_join_12 : decode cd_E_join 12 = .ok (.bipush 40, 2) := by decide +kernel
theorem dx_E_join_14 : decode cd_E_join 14 = .ok (.invokestatic 41, 3) := by decide +kernel
theorem dx_E_join_17 : decode cd_E_join 17 = .ok (.aload_n 0, 1) := by decide +kernel
theorem dx_E_join_18 : decode cd_E_join 18 = .ok (.iconst 0, 1) := by decide +kernel
theorem dx_E_join_19 : decode cd_E_join 19 = .ok (.putfield 27, 3) := by decide +kernel
theorem dx_E_join_22 : decode cd_E_join 22 = .ok (.aload_n 0, 1) := by decide +kernel
theorem dx_E_join_23 : decode cd_E_join 23 = .ok (.iload_n 1, 1) := by decide +kernel
theorem dx_E_join_24 : decode cd_E_join 24 = .ok (.iload_n 2, 1) := by decide +kernel
theorem dx_E_join_25 : decode cd_E_join 25 = .ok (.invokevirtual 47, 3) := by decide +kernel
theorem dx_E_join_28 : decode cd_E_join 28 = .ok (.iconst 0, 1) := by decide +kernel
theorem dx_E_join_29 : decode cd_E_join 29 = .ok (.istore 4, 2) := by decide +kernel
theorem dx_E_join_31 : decode cd_E_join 31 = .ok (.iload 4, 2) := by decide +kernel
theorem dx_E_join_33 : decode cd_E_join 33 = .ok (.aload_n 0, 1) := by decide +kernel
theorem dx_E_join_34 : decode cd_E_join 34 = .ok (.getfield 27, 3) := by decide +kernel
theorem dx_E_join_37 : decode cd_E_join 37 = .ok (.if_icmp .ge 44, 3) := by decide +kernel
theorem dx_E_join_40 : decode cd_E_join 40 = .ok (.iload 4, 2) := by decide +kernel
theorem dx_E_join_42 : decode cd_E_join 42 = .ok (.bipush 80, 2) := by decide +kernel
theorem dx_E_join_44 : decode cd_E_join 44 = .ok (.if_icmp .ge 37, 3) := by decide +kernel
theorem dx_E_join_47 : decode cd_E_join 47 = .ok (.aload_n 0, 1) := by decide +kernel
theorem dx_E_join_48 : decode cd_E_join 48 = .ok (.aload_n 3, 1) := by decide +kernel
theorem dx_E_join_49 : decode cd_E_join 49 = .ok (.aload_n 3, 1) := by decide +kernel
theorem dx_E_join_50 : decode cd_E_join 50 = .ok (.aload_n 0, 1) := by decide +kernel
theorem dx_E_join_51 : decode cd_E_join 51 = .ok (.getfield 20, 3) := by decide +kernel
theorem dx_E_join_54 : decode cd_E_join 54 = .ok (.iload 4, 2) := by decide +kernel
theorem dx_E_join_56 : decode cd_E_join 56 = .ok (.iaload, 1) := by decide +kernel
theorem dx_E_join_57 : decode cd_E_join 57 = .ok (.iaload, 1) := by decide +kernel
theorem dx_E_join_58 : decode cd_E_join 58 = .ok (.aload_n 3, 1) := by decide +kernel
theorem dx_E_join_59 : decode cd_E_join 59 = .ok (.aload_n 0, 1) := by decide +kernel
theorem dx_E_join_60 : decode cd_E_join 60 = .ok (.getfield 24, 3) := by decide +kernel
theorem dx_E_join_63 : decode cd_E_join 63 = .ok (.iload 4, 2) := by decide +kernel
theorem dx_E_join_65 : decode cd_E_join 65 = .ok (.iaload, 1) := by decide +kernel
theorem dx_E_join_66 : decode cd_E_join 66 = .ok (.iaload, 1) := by decide +kernel
theorem dx_E_join_67 : decode cd_E_join 67 = .ok (.invokevirtual 51, 3) := by decide +kernel
theorem dx_E_join_70 : decode cd_E_join 70 = .ok (.ifCond .ne 5, 3) := by decide +kernel
theorem dx_E_join_73 : decode cd_E_join 73 = .ok (.iconst 0, 1) := by decide +kernel
theorem dx_E_join_74 : decode cd_E_join 74 = .ok (.ireturn, 1) := by decide +kernel
theorem dx_E_join_75 : decode cd_E_join 75 = .ok (.iinc 4 1, 3) := by decide +kernel
theorem dx_E_join_78 : decode cd_E_join 78 = .ok (.goto (-47), 3) := by decide +kernel
theorem dx_E_join_81 : decode cd_E_join 81 = .ok (.iconst 1, 1) := by decide +kernel
theorem dx_E_join_82 : decode cd_E_join 82 = .ok (.ireturn, 1) := by decide +kernel
theorem dx_E_triedRow_0 : decode cd_E_triedRow 0 = .ok (.aload_n 0, 1) := by decide +kernel
theorem dx_E_triedRow_1 : decode cd_E_triedRow 1 = .ok (.getfield 17, 3) := by decide +kernel
theorem dx_E_triedRow_4 : decode cd_E_triedRow 4 = .ok (.aload_n 0, 1) := by decide +kernel
theorem dx_E_triedRow_5 : decode cd_E_triedRow 5 = .ok (.getfield 31, 3) := by decide +kernel
theorem dx_E_triedRow_8 : decode cd_E_triedRow 8 = .ok (.iconst 1, 1) := by decide +kernel
theorem dx_E_triedRow_9 : decode cd_E_triedRow 9 = .ok (.iadd, 1) := by decide +kernel
theorem dx_E_triedRow_10 : decode cd_E_triedRow 10 = .ok (.aaload, 1) := by decide +kernel
theorem dx_E_triedRow_11 : decode cd_E_triedRow 11 = .ok (.areturn, 1) := by decide +kernel
theorem dx_E_addPair_0 : decode cd_E_addPair 0 = .ok (.aload_n 0, 1) := by decide +kernel
theorem dx_E_addPair_1 : decode cd_E_addPair 1 = .ok (.getfield 9, 3) := by decide +kernel
theorem dx_E_addPair_4 : decode cd_E_addPair 4 = .ok (.iload_n 1, 1) := by decide +kernel
theorem dx_E_addPair_5 : decode cd_E_addPair 5 = .ok (.invokevirtual 77, 3) := by decide +kernel
theorem dx_E_addPair_8 : decode cd_E_addPair 8 = .ok (.ifCond .eq 53, 3) := by decide +kernel
theorem dx_E_addPair_11 : decode cd_E_addPair 11 = .ok (.aload_n 0, 1) := by decide +kernel
theorem dx_E_addPair_12 : decode cd_E_addPair 12 = .ok (.getfield 9, 3) := by decide +kernel
theorem dx_E_addPair_15 : decode cd_E_addPair 15 = .ok (.iload_n 2, 1) := by decide +kernel
theorem dx_E_addPair_16 : decode cd_E_addPair 16 = .ok (.invokevirtual 77, 3) := by decide +kernel
theorem dx_E_addPair_19 : decode cd_E_addPair 19 = .ok (.ifCond .eq 42, 3) := by decide +kernel
theorem dx_E_addPair_22 : decode cd_E_addPair 22 = .ok (.aload_n 0, 1) := by decide +kernel
theorem dx_E_addPair_23 : decode cd_E_addPair 23 = .ok (.getfield 27, 3) := by decide +kernel
theorem dx_E_addPair_26 : decode cd_E_addPair 26 = .ok (.bipush 80, 2) := by decide +kernel
theorem dx_E_addPair_28 : decode cd_E_addPair 28 = .ok (.if_icmp .ge 33, 3) := by decide +kernel
theorem dx_E_addPair_31 : decode cd_E_addPair 31 = .ok (.aload_n 0, 1) := by decide +kernel
theorem dx_E_addPair_32 : decode cd_E_addPair 32 = .ok (.getfield 20, 3) := by decide +kernel
theorem dx_E_addPair_35 : decode cd_E_addPair 35 = .ok (.aload_n 0, 1) := by decide +kernel
theorem dx_E_addPair_36 : decode cd_E_addPair 36 = .ok (.getfield 27, 3) := by decide +kernel
theorem dx_E_addPair_39 : decode cd_E_addPair 39 = .ok (.iload_n 1, 1) := by decide +kernel
theorem dx_E_addPair_40 : decode cd_E_addPair 40 = .ok (.iastore, 1) := by decide +kernel
theorem dx_E_addPair_41 : decode cd_E_addPair 41 = .ok (.aload_n 0, 1) := by decide +kernel
theorem dx_E_addPair_42 : decode cd_E_addPair 42 = .ok (.getfield 24, 3) := by decide +kernel
theorem dx_E_addPair_45 : decode cd_E_addPair 45 = .ok (.aload_n 0, 1) := by decide +kernel
theorem dx_E_addPair_46 : decode cd_E_addPair 46 = .ok (.getfield 27, 3) := by decide +kernel
theorem dx_E_addPair_49 : decode cd_E_addPair 49 = .ok (.iload_n 2, 1) := by decide +kernel
theorem dx_E_addPair_50 : decode cd_E_addPair 50 = .ok (.iastore, 1) := by decide +kernel
theorem dx_E_addPair_51 : decode cd_E_addPair 51 = .ok (.aload_n 0, 1) := by decide +kernel
theorem dx_E_addPair_52 : decode cd_E_addPair 52 = .ok (.dup, 1) := by decide +kernel
theorem dx_E_addPair_53 : decode cd_E_addPair 53 = .ok (.getfield 27, 3) := by decide +kernel
theorem dx_E_addPair_56 : decode cd_E_addPair 56 = .ok (.iconst 1, 1) := by decide +kernel
theorem dx_E_addPair_57 : decode cd_E_addPair 57 = .ok (.iadd, 1) := by decide +kernel
theorem dx_E_addPair_58 : decode cd_E_addPair 58 = .ok (.putfield 27, 3) := by decide +kernel
theorem dx_E_addPair_61 : decode cd_E_addPair 61 = .ok (.return_, 1) := by decide +kernel
theorem dx_E_joinClasses_0 : decode cd_E_joinClasses 0 = .ok (.iload_n 2, 1) := by decide +kernel
theorem dx_E_joinClasses_1 : decode cd_E_joinClasses 1 = .ok (.iload_n 3, 1) := by decide +kernel
theorem dx_E_joinClasses_2 : decode cd_E_joinClasses 2 = .ok (.if_icmp .ne 5, 3) := by decide +kernel
theorem dx_E_joinClasses_5 : decode cd_E_joinClasses 5 = .ok (.iconst 1, 1) := by decide +kernel
theorem dx_E_joinClasses_6 : decode cd_E_joinClasses 6 = .ok (.ireturn, 1) := by decide +kernel
theorem dx_E_joinClasses_7 : decode cd_E_joinClasses 7 = .ok (.aload_n 0, 1) := by decide +kernel
theorem dx_E_joinClasses_8 : decode cd_E_joinClasses 8 = .ok (.getfield 9, 3) := by decide +kernel
theorem dx_E_joinClasses_11 : decode cd_E_joinClasses 11 = .ok (.iload_n 2, 1) := by decide +kernel
theorem dx_E_joinClasses_12 : decode cd_E_joinClasses 12 = .ok (.invokevirtual 55, 3) := by decide +kernel
theorem dx_E_joinClasses_15 : decode cd_E_joinClasses 15 = .ok (.ifCond .eq 12, 3) := by decide +kernel
theorem dx_E_joinClasses_18 : decode cd_E_joinClasses 18 = .ok (.aload_n 0, 1) := by decide +kernel
theorem dx_E_joinClasses_19 : decode cd_E_joinClasses 19 = .ok (.aload_n 1, 1) := by decide +kernel
theorem dx_E_joinClasses_20 : decode cd_E_joinClasses 20 = .ok (.iload_n 2, 1) := by decide +kernel
theorem dx_E_joinClasses_21 : decode cd_E_joinClasses 21 = .ok (.iload_n 3, 1) := by decide +kernel
theorem dx_E_joinClasses_22 : decode cd_E_joinClasses 22 = .ok (.invokevirtual 61, 3) := by decide +kernel
theorem dx_E_joinClasses_25 : decode cd_E_joinClasses 25 = .ok (.iconst 1, 1) := by decide +kernel
theorem dx_E_joinClasses_26 : decode cd_E_joinClasses 26 = .ok (.ireturn, 1) := by decide +kernel
theorem dx_E_joinClasses_27 : decode cd_E_joinClasses 27 = .ok (.aload_n 0, 1) := by decide +kernel
theorem dx_E_joinClasses_28 : decode cd_E_joinClasses 28 = .ok (.getfield 9, 3) := by decide +kernel
theorem dx_E_joinClasses_31 : decode cd_E_joinClasses 31 = .ok (.iload_n 3, 1) := by decide +kernel
theorem dx_E_joinClasses_32 : decode cd_E_joinClasses 32 = .ok (.invokevirtual 55, 3) := by decide +kernel
theorem dx_E_joinClasses_35 : decode cd_E_joinClasses 35 = .ok (.ifCond .eq 12, 3) := by decide +kernel
theorem dx_E_joinClasses_38 : decode cd_E_joinClasses 38 = .ok (.aload_n 0, 1) := by decide +kernel
theorem dx_E_joinClasses_39 : decode cd_E_joinClasses 39 = .ok (.aload_n 1, 1) := by decide +kernel
theorem dx_E_joinClasses_40 : decode cd_E_joinClasses 40 = .ok (.iload_n 3, 1) := by decide +kernel
theorem dx_E_joinClasses_41 : decode cd_E_joinClasses 41 = .ok (.iload_n 2, 1) := by decide +kernel
theorem dx_E_joinClasses_42 : decode cd_E_joinClasses 42 = .ok (.invokevirtual 61, 3) := by decide +kernel
theorem dx_E_joinClasses_45 : decode cd_E_joinClasses 45 = .ok (.iconst 1, 1) := by decide +kernel
theorem dx_E_joinClasses_46 : decode cd_E_joinClasses 46 = .ok (.ireturn, 1) := by decide +kernel
theorem dx_E_joinClasses_47 : decode cd_E_joinClasses 47 = .ok (.aload_n 0, 1) := by decide +kernel
theorem dx_E_joinClasses_48 : decode cd_E_joinClasses 48 = .ok (.getfield 9, 3) := by decide +kernel
theorem dx_E_joinClasses_51 : decode cd_E_joinClasses 51 = .ok (.getfield 65, 3) := by decide +kernel
theorem dx_E_joinClasses_54 : decode cd_E_joinClasses 54 = .ok (.iload_n 2, 1) := by decide +kernel
theorem dx_E_joinClasses_55 : decode cd_E_joinClasses 55 = .ok (.iaload, 1) := by decide +kernel
theorem dx_E_joinClasses_56 : decode cd_E_joinClasses 56 = .ok (.aload_n 0, 1) := by decide +kernel
theorem dx_E_joinClasses_57 : decode cd_E_joinClasses 57 = .ok (.getfield 9, 3) := by decide +kernel
theorem dx_E_joinClasses_60 : decode cd_E_joinClasses 60 = .ok (.getfield 65, 3) := by decide +kernel
theorem dx_E_joinClasses_63 : decode cd_E_joinClasses 63 = .ok (.iload_n 3, 1) := by decide +kernel
theorem dx_E_joinClasses_64 : decode cd_E_joinClasses 64 = .ok (.iaload, 1) := by decide +kernel
theorem dx_E_joinClasses_65 : decode cd_E_joinClasses 65 = .ok (.if_icmp .eq 5, 3) := by decide +kernel
theorem dx_E_joinClasses_68 : decode cd_E_joinClasses 68 = .ok (.iconst 0, 1) := by decide +kernel
theorem dx_E_joinClasses_69 : decode cd_E_joinClasses 69 = .ok (.ireturn, 1) := by decide +kernel
theorem dx_E_joinClasses_70 : decode cd_E_joinClasses 70 = .ok (.aload_n 0, 1) := by decide +kernel
theorem dx_E_joinClasses_71 : decode cd_E_joinClasses 71 = .ok (.aload_n 1, 1) := by decide +kernel
theorem dx_E_joinClasses_72 : decode cd_E_joinClasses 72 = .ok (.iload_n 3, 1) := by decide +kernel
theorem dx_E_joinClasses_73 : decode cd_E_joinClasses 73 = .ok (.iload_n 2, 1) := by decide +kernel
theorem dx_E_joinClasses_74 : decode cd_E_joinClasses 74 = .ok (.invokevirtual 61, 3) := by decide +kernel
theorem dx_E_joinClasses_77 : decode cd_E_joinClasses 77 = .ok (.aload_n 0, 1) := by decide +kernel
theorem dx_E_joinClasses_78 : decode cd_E_joinClasses 78 = .ok (.aload_n 0, 1) := by decide +kernel
theorem dx_E_joinClasses_79 : decode cd_E_joinClasses 79 = .ok (.getfield 9, 3) := by decide +kernel
theorem dx_E_joinClasses_82 : decode cd_E_joinClasses 82 = .ok (.getfield 68, 3) := by decide +kernel
theorem dx_E_joinClasses_85 : decode cd_E_joinClasses 85 = .ok (.iload_n 2, 1) := by decide +kernel
theorem dx_E_joinClasses_86 : decode cd_E_joinClasses 86 = .ok (.iaload, 1) := by decide +kernel
theorem dx_E_joinClasses_87 : decode cd_E_joinClasses 87 = .ok (.aload_n 0, 1) := by decide +kernel
theorem dx_E_joinClasses_88 : decode cd_E_joinClasses 88 = .ok (.getfield 9, 3) := by decide +kernel
theorem dx_E_joinClasses_91 : decode cd_E_joinClasses 91 = .ok (.getfield 68, 3) := by decide +kernel
theorem dx_E_joinClasses_94 : decode cd_E_joinClasses 94 = .ok (.iload_n 3, 1) := by decide +kernel
theorem dx_E_joinClasses_95 : decode cd_E_joinClasses 95 = .ok (.iaload, 1) := by decide +kernel
theorem dx_E_joinClasses_96 : decode cd_E_joinClasses 96 = .ok (.invokevirtual 47, 3) := by decide +kernel
theorem dx_E_joinClasses_99 : decode cd_E_joinClasses 99 = .ok (.aload_n 0, 1) := by decide +kernel
theorem dx_E_joinClasses_100 : decode cd_E_joinClasses 100 = .ok (.aload_n 0, 1) := by decide +kernel
theorem dx_E_joinClasses_101 : decode cd_E_joinClasses 101 = .ok (.getfield 9, 3) := by decide +kernel
theorem dx_E_joinClasses_104 : decode cd_E_joinClasses 104 = .ok (.getfield 71, 3) := by decide +kernel
theorem dx_E_joinClasses_107 : decode cd_E_joinClasses 107 = .ok (.iload_n 2, 1) := by decide +kernel
theorem dx_E_joinClasses_108 : decode cd_E_joinClasses 108 = .ok (.iaload, 1) := by decide +kernel
theorem dx_E_joinClasses_109 : decode cd_E_joinClasses 109 = .ok (.aload_n 0, 1) := by decide +kernel
theorem dx_E_joinClasses_110 : decode cd_E_joinClasses 110 = .ok (.getfield 9, 3) := by decide +kernel
theorem dx_E_joinClasses_113 : decode cd_E_joinClasses 113 = .ok (.getfield 71, 3) := by decide +kernel
theorem dx_E_joinClasses_116 : decode cd_E_joinClasses 116 = .ok (.iload_n 3, 1) := by decide +kernel
theorem dx_E_joinClasses_117 : decode cd_E_joinClasses 117 = .ok (.iaload, 1) := by decide +kernel
theorem dx_E_joinClasses_118 : decode cd_E_joinClasses 118 = .ok (.invokevirtual 47, 3) := by decide +kernel
theorem dx_E_joinClasses_121 : decode cd_E_joinClasses 121 = .ok (.iconst 1, 1) := by decide +kernel
theorem dx_E_joinClasses_122 : decode cd_E_joinClasses 122 = .ok (.ireturn, 1) := by decide +kernel
theorem dx_E_moveClass_0 : decode cd_E_moveClass 0 = .ok (.iconst 0, 1) := by decide +kernel
theorem dx_E_moveClass_1 : decode cd_E_moveClass 1 = .ok (.istore 4, 2) := by decide +kernel
theorem dx_E_moveClass_3 : decode cd_E_moveClass 3 = .ok (.iload 4, 2) := by decide +kernel
theorem dx_E_moveClass_5 : decode cd_E_moveClass 5 = .ok (.aload_n 0, 1) := by decide +kernel
theorem dx_E_moveClass_6 : decode cd_E_moveClass 6 = .ok (.getfield 9, 3) := by decide +kernel
theorem dx_E_moveClass_9 : decode cd_E_moveClass 9 = .ok (.getfield 74, 3) := by decide +kernel
theorem dx_E_moveClass_12 : decode cd_E_moveClass 12 = .ok (.if_icmp .ge 22, 3) := by decide +kernel
theorem dx_E_moveClass_15 : decode cd_E_moveClass 15 = .ok (.aload_n 1, 1) := by decide +kernel
theorem dx_E_moveClass_16 : decode cd_E_moveClass 16 = .ok (.iload 4, 2) := by decide +kernel
theorem dx_E_moveClass_18 : decode cd_E_moveClass 18 = .ok (.iaload, 1) := by decide +kernel
theorem dx_E_moveClass_19 : decode cd_E_moveClass 19 = .ok (.iload_n 2, 1) := by decide +kernel
theorem dx_E_moveClass_20 : decode cd_E_moveClass 20 = .ok (.if_icmp .ne 8, 3) := by decide +kernel
theorem dx_E_moveClass_23 : decode cd_E_moveClass 23 = .ok (.aload_n 1, 1) := by decide +kernel
theorem dx_E_moveClass_24 : decode cd_E_moveClass 24 = .ok (.iload 4, 2) := by decide +kernel
theorem dx_E_moveClass_26 : decode cd_E_moveClass 26 = .ok (.iload_n 3, 1) := by decide +kernel
theorem dx_E_moveClass_27 : decode cd_E_moveClass 27 = .ok (.iastore, 1) := by decide +kernel
theorem dx_E_moveClass_28 : decode cd_E_moveClass 28 = .ok (.iinc 4 1, 3) := by decide +kernel
theorem dx_E_moveClass_31 : decode cd_E_moveClass 31 = .ok (.goto (-28), 3) := by decide +kernel
theorem dx_E_moveClass_34 : decode cd_E_moveClass 34 = .ok (.return_, 1) := by decide +kernel
