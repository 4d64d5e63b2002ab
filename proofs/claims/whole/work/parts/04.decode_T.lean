theorem dx_T_init_0 : decode cd_T_init 0 = .ok (.aload_n 0, 1) := by decide +kernel
theorem dx_T_init_1 : decode cd_T_init 1 = .ok (.invokespecial 3, 3) := by decide +kernel
theorem dx_T_init_4 : decode cd_T_init 4 = .ok (.aload_n 0, 1) := by decide +kernel
theorem dx_T_init_5 : decode cd_T_init 5 = .ok (.new 9, 3) := by decide +kernel
theorem dx_T_init_8 : decode cd_T_init 8 = .ok (.dup, 1) := by decide +kernel
theorem dx_T_init_9 : decode cd_T_init 9 = .ok (.invokespecial 11, 3) := by decide +kernel
theorem dx_T_init_12 : decode cd_T_init 12 = .ok (.putfield 12, 3) := by decide +kernel
theorem dx_T_init_15 : decode cd_T_init 15 = .ok (.aload_n 0, 1) := by decide +kernel
theorem dx_T_init_16 : decode cd_T_init 16 = .ok (.new 16, 3) := by decide +kernel
theorem dx_T_init_19 : decode cd_T_init 19 = .ok (.dup, 1) := by decide +kernel
theorem dx_T_init_20 : decode cd_T_init 20 = .ok (.aload_n 0, 1) := by decide +kernel
theorem dx_T_init_21 : decode cd_T_init 21 = .ok (.getfield 12, 3) := by decide +kernel
theorem dx_T_init_24 : decode cd_T_init 24 = .ok (.invokespecial 18, 3) := by decide +kernel
theorem dx_T_init_27 : decode cd_T_init 27 = .ok (.putfield 21, 3) := by decide +kernel
theorem dx_T_init_30 : decode cd_T_init 30 = .ok (.aload_n 0, 1) := by decide +kernel
theorem dx_T_init_31 : decode cd_T_init 31 = .ok (.new 25, 3) := by decide +kernel
theorem dx_T_init_34 : decode cd_T_init 34 = .ok (.dup, 1) := by decide +kernel
theorem dx_T_init_35 : decode cd_T_init 35 = .ok (.aload_n 0, 1) := by decide +kernel
theorem dx_T_init_36 : decode cd_T_init 36 = .ok (.getfield 12, 3) := by decide +kernel
theorem dx_T_init_39 : decode cd_T_init 39 = .ok (.invokespecial 27, 3) := by decide +kernel
theorem dx_T_init_42 : decode cd_T_init 42 = .ok (.putfield 28, 3) := by decide +kernel
theorem dx_T_init_45 : decode cd_T_init 45 = .ok (.aload_n 0, 1) := by decide +kernel
theorem dx_T_init_46 : decode cd_T_init 46 = .ok (.new 32, 3) := by decide +kernel
theorem dx_T_init_49 : decode cd_T_init 49 = .ok (.dup, 1) := by decide +kernel
theorem dx_T_init_50 : decode cd_T_init 50 = .ok (.aload_n 0, 1) := by decide +kernel
theorem dx_T_init_51 : decode cd_T_init 51 = .ok (.getfield 28, 3) := by decide +kernel
theorem dx_T_init_54 : decode cd_T_init 54 = .ok (.invokespecial 34, 3) := by decide +kernel
theorem dx_T_init_57 : decode cd_T_init 57 = .ok (.putfield 37, 3) := by decide +kernel
theorem dx_T_init_60 : decode cd_T_init 60 = .ok (.aload_n 0, 1) := by decide +kernel
theorem dx_T_init_61 : decode cd_T_init 61 = .ok (.iconst 0, 1) := by decide +kernel
theorem dx_T_init_62 : decode cd_T_init 62 = .ok (.putfield 41, 3) := by decide +kernel
theorem dx_T_init_65 : decode cd_T_init 65 = .ok (.return_, 1) := by decide +kernel
theorem dx_T_why_0 : decode cd_T_why 0 = .ok (.aload_n 0, 1) := by decide +kernel
theorem dx_T_why_1 : decode cd_T_why 1 = .ok (.getfield 41, 3) := by decide +kernel
theorem dx_T_why_4 : decode cd_T_why 4 = .ok (.ireturn, 1) := by decide +kernel
theorem dx_T_variable_0 : decode cd_T_variable 0 = .ok (.aload_n 0, 1) := by decide +kernel
theorem dx_T_variable_1 : decode cd_T_variable 1 = .ok (.invokevirtual 45, 3) := by decide +kernel
theorem dx_T_variable_4 : decode cd_T_variable 4 = .ok (.aload_n 0, 1) := by decide +kernel
theorem dx_T_variable_5 : decode cd_T_variable 5 = .ok (.iconst (-1), 1) := by decide +kernel
theorem dx_T_variable_6 : decode cd_T_variable 6 = .ok (.iconst (-1), 1) := by decide +kernel
theorem dx_T_variable_7 : decode cd_T_variable 7 = .ok (.iconst (-1), 1) := by decide +kernel
theorem dx_T_variable_8 : decode cd_T_variable 8 = .ok (.invokevirtual 48, 3) := by decide +kernel
theorem dx_T_variable_11 : decode cd_T_variable 11 = .ok (.ireturn, 1) := by decide +kernel
theorem dx_T_needRoomForNode_0 : decode cd_T_needRoomForNode 0 = .ok (.aload_n 0, 1) := by decide +kernel
theorem dx_T_needRoomForNode_1 : decode cd_T_needRoomForNode 1 = .ok (.getfield 12, 3) := by decide +kernel
theorem dx_T_needRoomForNode_4 : decode cd_T_needRoomForNode 4 = .ok (.invokevirtual 150, 3) := by decide +kernel
theorem dx_T_needRoomForNode_7 : decode cd_T_needRoomForNode 7 = .ok (.ifCond .eq 13, 3) := by decide +kernel
theorem dx_T_needRoomForNode_10 : decode cd_T_needRoomForNode 10 = .ok (.new 75, 3) := by decide +kernel
theorem dx_T_needRoomForNode_13 : decode cd_T_needRoomForNode 13 = .ok (.dup, 1) := by decide +kernel
theorem dx_T_needRoomForNode_14 : decode cd_T_needRoomForNode 14 = .ok (.ldc 151, 2) := by decide +kernel
theorem dx_T_needRoomForNode_16 : decode cd_T_needRoomForNode 16 = .ok (.invokespecial 79, 3) := by decide +kernel
theorem dx_T_needRoomForNode_19 : decode cd_T_needRoomForNode 19 = .ok (.athrow, 1) := by decide +kernel
theorem dx_T_needRoomForNode_20 : decode cd_T_needRoomForNode 20 = .ok (.return_, 1) := by decide +kernel
theorem dx_T_makeNode_0 : decode cd_T_makeNode 0 = .ok (.aload_n 0, 1) := by decide +kernel
theorem dx_T_makeNode_1 : decode cd_T_makeNode 1 = .ok (.getfield 12, 3) := by decide +kernel
theorem dx_T_makeNode_4 : decode cd_T_makeNode 4 = .ok (.iload_n 1, 1) := by decide +kernel
theorem dx_T_makeNode_5 : decode cd_T_makeNode 5 = .ok (.iload_n 2, 1) := by decide +kernel
theorem dx_T_makeNode_6 : decode cd_T_makeNode 6 = .ok (.iload_n 3, 1) := by decide +kernel
theorem dx_T_makeNode_7 : decode cd_T_makeNode 7 = .ok (.invokevirtual 153, 3) := by decide +kernel
theorem dx_T_makeNode_10 : decode cd_T_makeNode 10 = .ok (.istore 4, 2) := by decide +kernel
theorem dx_T_makeNode_12 : decode cd_T_makeNode 12 = .ok (.aload_n 0, 1) := by decide +kernel
theorem dx_T_makeNode_13 : decode cd_T_makeNode 13 = .ok (.getfield 28, 3) := by decide +kernel
theorem dx_T_makeNode_16 : decode cd_T_makeNode 16 = .ok (.aload_n 0, 1) := by decide +kernel
theorem dx_T_makeNode_17 : decode cd_T_makeNode 17 = .ok (.getfield 21, 3) := by decide +kernel
theorem dx_T_makeNode_20 : decode cd_T_makeNode 20 = .ok (.invokevirtual 94, 3) := by decide +kernel
theorem dx_T_makeNode_23 : decode cd_T_makeNode 23 = .ok (.invokevirtual 98, 3) := by decide +kernel
theorem dx_T_makeNode_26 : decode cd_T_makeNode 26 = .ok (.pop, 1) := by decide +kernel
theorem dx_T_makeNode_27 : decode cd_T_makeNode 27 = .ok (.iload 4, 2) := by decide +kernel
theorem dx_T_makeNode_29 : decode cd_T_makeNode 29 = .ok (.ireturn, 1) := by decide +kernel
theorem dx_T_term_0 : decode cd_T_term 0 = .ok (.iload_n 1, 1) := by decide +kernel
theorem dx_T_term_1 : decode cd_T_term 1 = .ok (.ifCond .lt 9, 3) := by decide +kernel
theorem dx_T_term_4 : decode cd_T_term 4 = .ok (.iload_n 1, 1) := by decide +kernel
theorem dx_T_term_5 : decode cd_T_term 5 = .ok (.bipush 10, 2) := by decide +kernel
theorem dx_T_term_7 : decode cd_T_term 7 = .ok (.if_icmp .lt 13, 3) := by decide +kernel
theorem dx_T_term_10 : decode cd_T_term 10 = .ok (.new 52, 3) := by decide +kernel
theorem dx_T_term_13 : decode cd_T_term 13 = .ok (.dup, 1) := by decide +kernel
theorem dx_T_term_14 : decode cd_T_term 14 = .ok (.ldc 54, 2) := by decide +kernel
theorem dx_T_term_16 : decode cd_T_term 16 = .ok (.invokespecial 56, 3) := by decide +kernel
theorem dx_T_term_19 : decode cd_T_term 19 = .ok (.athrow, 1) := by decide +kernel
theorem dx_T_term_20 : decode cd_T_term 20 = .ok (.iload_n 2, 1) := by decide +kernel
theorem dx_T_term_21 : decode cd_T_term 21 = .ok (.iconst (-1), 1) := by decide +kernel
theorem dx_T_term_22 : decode cd_T_term 22 = .ok (.if_icmp .ne 18, 3) := by decide +kernel
theorem dx_T_term_25 : decode cd_T_term 25 = .ok (.iload_n 3, 1) := by decide +kernel
theorem dx_T_term_26 : decode cd_T_term 26 = .ok (.iconst (-1), 1) := by decide +kernel
theorem dx_T_term_27 : decode cd_T_term 27 = .ok (.if_icmp .eq 13, 3) := by decide +kernel
theorem dx_T_term_30 : decode cd_T_term 30 = .ok (.new 52, 3) := by decide +kernel
theorem dx_T_term_33 : decode cd_T_term 33 = .ok (.dup, 1) := by decide +kernel
theorem dx_T_term_34 : decode cd_T_term 34 = .ok (.ldc 59, 2) := by decide +kernel
theorem dx_T_term_36 : decode cd_T_term 36 = .ok (.invokespecial 56, 3) := by decide +kernel
theorem dx_T_term_39 : decode cd_T_term 39 = .ok (.athrow, 1) := by decide +kernel
theorem dx_T_term_40 : decode cd_T_term 40 = .ok (.aload_n 0, 1) := by decide +kernel
theorem dx_T_term_41 : decode cd_T_term 41 = .ok (.iload_n 2, 1) := by decide +kernel
theorem dx_T_term_42 : decode cd_T_term 42 = .ok (.invokevirtual 61, 3) := by decide +kernel
theorem dx_T_term_45 : decode cd_T_term 45 = .ok (.aload_n 0, 1) := by decide +kernel
theorem dx_T_term_46 : decode cd_T_term 46 = .ok (.iload_n 3, 1) := by decide +kernel
theorem dx_T_term_47 : decode cd_T_term 47 = .ok (.invokevirtual 61, 3) := by decide +kernel
theorem dx_T_term_50 : decode cd_T_term 50 = .ok (.aload_n 0, 1) := by decide +kernel
theorem dx_T_term_51 : decode cd_T_term 51 = .ok (.invokevirtual 45, 3) := by decide +kernel
theorem dx_T_term_54 : decode cd_T_term 54 = .ok (.iload_n 2, 1) := by decide +kernel
theorem dx_T_term_55 : decode cd_T_term 55 = .ok (.iconst (-1), 1) := by decide +kernel
theorem dx_T_term_56 : decode cd_T_term 56 = .ok (.if_icmp .ne 7, 3) := by decide +kernel
theorem dx_T_term_59 : decode cd_T_term 59 = .ok (.iconst 0, 1) := by decide +kernel
theorem dx_T_term_60 : decode cd_T_term 60 = .ok (.goto 4, 3) := by decide +kernel
theorem dx_T_term_63 : decode cd_T_term 63 = .ok (.iconst 1, 1) := by decide +kernel
theorem dx_T_term_64 : decode cd_T_term 64 = .ok (.iload_n 3, 1) := by decide +kernel
theorem dx_T_term_65 : decode cd_T_term 65 = .ok (.iconst (-1), 1) := by decide +kernel
theorem dx_T_term_66 : decode cd_T_term 66 = .ok (.if_icmp .ne 7, 3) := by decide +kernel
theorem dx_T_term_69 : decode cd_T_term 69 = .ok (.iconst 0, 1) := by decide +kernel
theorem dx_T_term_70 : decode cd_T_term 70 = .ok (.goto 4, 3) := by decide +kernel
theorem dx_T_term_73 : decode cd_T_term 73 = .ok (.iconst 1, 1) := by decide +kernel
theorem dx_T_term_74 : decode cd_T_term 74 = .ok (.iadd, 1) := by decide +kernel
theorem dx_T_term_75 : decode cd_T_term 75 = .ok (.istore 4, 2) := by decide +kernel
theorem dx_T_term_77 : decode cd_T_term 77 = .ok (.aload_n 0, 1) := by decide +kernel
theorem dx_T_term_78 : decode cd_T_term 78 = .ok (.iconst 3, 1) := by decide +kernel
theorem dx_T_term_79 : decode cd_T_term 79 = .ok (.iload_n 1, 1) := by decide +kernel
theorem dx_T_term_80 : decode cd_T_term 80 = .ok (.imul, 1) := by decide +kernel
theorem dx_T_term_81 : decode cd_T_term 81 = .ok (.iload 4, 2) := by decide +kernel
theorem dx_T_term_83 : decode cd_T_term 83 = .ok (.iadd, 1) := by decide +kernel
theorem dx_T_term_84 : decode cd_T_term 84 = .ok (.iload_n 2, 1) := by decide +kernel
theorem dx_T_term_85 : decode cd_T_term 85 = .ok (.iload_n 3, 1) := by decide +kernel
theorem dx_T_term_86 : decode cd_T_term 86 = .ok (.invokevirtual 48, 3) := by decide +kernel
theorem dx_T_term_89 : decode cd_T_term 89 = .ok (.ireturn, 1) := by decide +kernel
theorem dx_T_needNodeOrNone_0 : decode cd_T_needNodeOrNone 0 = .ok (.iload_n 1, 1) := by decide +kernel
theorem dx_T_needNodeOrNone_1 : decode cd_T_needNodeOrNone 1 = .ok (.iconst (-1), 1) := by decide +kernel
theorem dx_T_needNodeOrNone_2 : decode cd_T_needNodeOrNone 2 = .ok (.if_icmp .eq 8, 3) := by decide +kernel
theorem dx_T_needNodeOrNone_5 : decode cd_T_needNodeOrNone 5 = .ok (.aload_n 0, 1) := by decide +kernel
theorem dx_T_needNodeOrNone_6 : decode cd_T_needNodeOrNone 6 = .ok (.iload_n 1, 1) := by decide +kernel
theorem dx_T_needNodeOrNone_7 : decode cd_T_needNodeOrNone 7 = .ok (.invokevirtual 107, 3) := by decide +kernel
theorem dx_T_needNodeOrNone_10 : decode cd_T_needNodeOrNone 10 = .ok (.return_, 1) := by decide +kernel
theorem dx_T_needNode_0 : decode cd_T_needNode 0 = .ok (.aload_n 0, 1) := by decide +kernel
theorem dx_T_needNode_1 : decode cd_T_needNode 1 = .ok (.getfield 12, 3) := by decide +kernel
theorem dx_T_needNode_4 : decode cd_T_needNode 4 = .ok (.iload_n 1, 1) := by decide +kernel
theorem dx_T_needNode_5 : decode cd_T_needNode 5 = .ok (.invokevirtual 65, 3) := by decide +kernel
theorem dx_T_needNode_8 : decode cd_T_needNode 8 = .ok (.ifCond .ne 13, 3) := by decide +kernel
theorem dx_T_needNode_11 : decode cd_T_needNode 11 = .ok (.new 52, 3) := by decide +kernel
theorem dx_T_needNode_14 : decode cd_T_needNode 14 = .ok (.dup, 1) := by decide +kernel
theorem dx_T_needNode_15 : decode cd_T_needNode 15 = .ok (.ldc 69, 2) := by decide +kernel
theorem dx_T_needNode_17 : decode cd_T_needNode 17 = .ok (.invokespecial 56, 3) := by decide +kernel
theorem dx_T_needNode_20 : decode cd_T_needNode 20 = .ok (.athrow, 1) := by decide +kernel
theorem dx_T_needNode_21 : decode cd_T_needNode 21 = .ok (.return_, 1) := by decide +kernel
theorem dx_T_unify_0 : decode cd_T_unify 0 = .ok (.aload_n 0, 1) := by decide +kernel
theorem dx_T_unify_1 : decode cd_T_unify 1 = .ok (.getfield 12, 3) := by decide +kernel
theorem dx_T_unify_4 : decode cd_T_unify 4 = .ok (.iload_n 1, 1) := by decide +kernel
theorem dx_T_unify_5 : decode cd_T_unify 5 = .ok (.invokevirtual 65, 3) := by decide +kernel
theorem dx_T_unify_8 : decode cd_T_unify 8 = .ok (.ifCond .eq 14, 3) := by decide +kernel
theorem dx_T_unify_11 : decode cd_T_unify 11 = .ok (.aload_n 0, 1) := by decide +kernel
theorem dx_T_unify_12 : decode cd_T_unify 12 = .ok (.getfield 12, 3) := by decide +kernel
theorem dx_T_unify_15 : decode cd_T_unify 15 = .ok (.iload_n 2, 1) := by decide +kernel
theorem dx_T_unify_16 : decode cd_T_unify 16 = .ok (.invokevirtual 65, 3) := by decide +kernel
theorem dx_T_unify_19 : decode cd_T_unify 19 = .ok (.ifCond .ne 18, 3) := by decide +kernel
theorem dx_T_unify_22 : decode cd_T_unify 22 = .ok (.aload_n 0, 1) := by decide +kernel
theorem dx_T_unify_23 : decode cd_T_unify 23 = .ok (.iconst 3, 1) := by decide +kernel
theorem dx_T_unify_24 : decode cd_T_unify 24 = .ok (.putfield 41, 3) := by decide +kernel
theorem dx_T_unify_27 : decode cd_T_unify 27 = .ok (.new 52, 3) := by decide +kernel
theorem dx_T_unify_30 : decode cd_T_unify 30 = .ok (.dup, 1) := by decide +kernel
theorem dx_T_unify_31 : decode cd_T_unify 31 = .ok (.ldc 69, 2) := by decide +kernel
theorem dx_T_unify_33 : decode cd_T_unify 33 = .ok (.invokespecial 56, 3) := by decide +kernel
theorem dx_T_unify_36 : decode cd_T_unify 36 = .ok (.athrow, 1) := by decide +kernel
theorem dx_T_unify_37 : decode cd_T_unify 37 = .ok (.aload_n 0, 1) := by decide +kernel
theorem dx_T_unify_38 : decode cd_T_unify 38 = .ok (.iconst 0, 1) := by decide +kernel
theorem dx_T_unify_39 : decode cd_T_unify 39 = .ok (.putfield 41, 3) := by decide +kernel
theorem dx_T_unify_42 : decode cd_T_unify 42 = .ok (.aload_n 0, 1) := by decide +kernel
theorem dx_T_unify_43 : decode cd_T_unify 43 = .ok (.getfield 21, 3) := by decide +kernel
theorem dx_T_unify_46 : decode cd_T_unify 46 = .ok (.invokevirtual 71, 3) := by decide +kernel
theorem dx_T_unify_49 : decode cd_T_unify 49 = .ok (.ifCond .eq 13, 3) := by decide +kernel
theorem dx_T_unify_52 : decode cd_T_unify 52 = .ok (.new 75, 3) := by decide +kernel
theorem dx_T_unify_55 : decode cd_T_unify 55 = .ok (.dup, 1) := by decide +kernel
theorem dx_T_unify_56 : decode cd_T_unify 56 = .ok (.ldc 77, 2) := by decide +kernel
theorem dx_T_unify_58 : decode cd_T_unify 58 = .ok (.invokespecial 79, 3) := by decide +kernel
theorem dx_T_unify_61 : decode cd_T_unify 61 = .ok (.athrow, 1) := by decide +kernel
theorem dx_T_unify_62 : decode cd_T_unify 62 = .ok (.aload_n 0, 1) := by decide +kernel
theorem dx_T_unify_63 : decode cd_T_unify 63 = .ok (.getfield 28, 3) := by decide +kernel
theorem dx_T_unify_66 : decode cd_T_unify 66 = .ok (.getfield 80, 3) := by decide +kernel
theorem dx_T_unify_69 : decode cd_T_unify 69 = .ok (.istore_n 3, 1) := by decide +kernel
theorem dx_T_unify_70 : decode cd_T_unify 70 = .ok (.aload_n 0, 1) := by decide +kernel
theorem dx_T_unify_71 : decode cd_T_unify 71 = .ok (.aload_n 0, 1) := by decide +kernel
theorem dx_T_unify_72 : decode cd_T_unify 72 = .ok (.iload_n 1, 1) := by decide +kernel
theorem dx_T_unify_73 : decode cd_T_unify 73 = .ok (.iload_n 2, 1) := by decide +kernel
theorem dx_T_unify_74 : decode cd_T_unify 74 = .ok (.invokevirtual 83, 3) := by decide +kernel
theorem dx_T_unify_77 : decode cd_T_unify 77 = .ok (.putfield 41, 3) := by decide +kernel
theorem dx_T_unify_80 : decode cd_T_unify 80 = .ok (.aload_n 0, 1) := by decide +kernel
theorem dx_T_unify_81 : decode cd_T_unify 81 = .ok (.getfield 41, 3) := by decide +kernel
theorem dx_T_unify_84 : decode cd_T_unify 84 = .ok (.ifCond .eq 13, 3) := by decide +kernel
theorem dx_T_unify_87 : decode cd_T_unify 87 = .ok (.new 75, 3) := by decide +kernel
theorem dx_T_unify_90 : decode cd_T_unify 90 = .ok (.dup, 1) := by decide +kernel
theorem dx_T_unify_91 : decode cd_T_unify 91 = .ok (.ldc 87, 2) := by decide +kernel
theorem dx_T_unify_93 : decode cd_T_unify 93 = .ok (.invokespecial 79, 3) := by decide +kernel
theorem dx_T_unify_96 : decode cd_T_unify 96 = .ok (.athrow, 1) := by decide +kernel
theorem dx_T_unify_97 : decode cd_T_unify 97 = .ok (.iload_n 3, 1) := by decide +kernel
theorem dx_T_unify_98 : decode cd_T_unify 98 = .ok (.aload_n 0, 1) := by decide +kernel
theorem dx_T_unify_99 : decode cd_T_unify 99 = .ok (.getfield 28, 3) := by decide +kernel
theorem dx_T_unify_102 : decode cd_T_unify 102 = .ok (.getfield 80, 3) := by decide +kernel
theorem dx_T_unify_105 : decode cd_T_unify 105 = .ok (.isub, 1) := by decide +kernel
theorem dx_T_unify_106 : decode cd_T_unify 106 = .ok (.ireturn, 1) := by decide +kernel
theorem dx_T_tryEquation_0 : decode cd_T_tryEquation 0 = .ok (.aload_n 0, 1) := by decide +kernel
theorem dx_T_tryEquation_1 : decode cd_T_tryEquation 1 = .ok (.getfield 21, 3) := by decide +kernel
theorem dx_T_tryEquation_4 : decode cd_T_tryEquation 4 = .ok (.iload_n 1, 1) := by decide +kernel
theorem dx_T_tryEquation_5 : decode cd_T_tryEquation 5 = .ok (.iload_n 2, 1) := by decide +kernel
theorem dx_T_tryEquation_6 : decode cd_T_tryEquation 6 = .ok (.invokevirtual 156, 3) := by decide +kernel
theorem dx_T_tryEquation_9 : decode cd_T_tryEquation 9 = .ok (.ifCond .ne 5, 3) := by decide +kernel
theorem dx_T_tryEquation_12 : decode cd_T_tryEquation 12 = .ok (.iconst 1, 1) := by decide +kernel
theorem dx_T_tryEquation_13 : decode cd_T_tryEquation 13 = .ok (.ireturn, 1) := by decide +kernel
theorem dx_T_tryEquation_14 : decode cd_T_tryEquation 14 = .ok (.aload_n 0, 1) := by decide +kernel
theorem dx_T_tryEquation_15 : decode cd_T_tryEquation 15 = .ok (.getfield 28, 3) := by decide +kernel
theorem dx_T_tryEquation_18 : decode cd_T_tryEquation 18 = .ok (.aload_n 0, 1) := by decide +kernel
theorem dx_T_tryEquation_19 : decode cd_T_tryEquation 19 = .ok (.getfield 21, 3) := by decide +kernel
theorem dx_T_tryEquation_22 : decode cd_T_tryEquation 22 = .ok (.invokevirtual 159, 3) := by decide +kernel
theorem dx_T_tryEquation_25 : decode cd_T_tryEquation 25 = .ok (.invokevirtual 98, 3) := by decide +kernel
theorem dx_T_tryEquation_28 : decode cd_T_tryEquation 28 = .ok (.ifCond .ne 20, 3) := by decide +kernel
theorem dx_T_tryEquation_31 : decode cd_T_tryEquation 31 = .ok (.aload_n 0, 1) := by decide +kernel
theorem dx_T_tryEquation_32 : decode cd_T_tryEquation 32 = .ok (.getfield 28, 3) := by decide +kernel
theorem dx_T_tryEquation_35 : decode cd_T_tryEquation 35 = .ok (.aload_n 0, 1) := by decide +kernel
theorem dx_T_tryEquation_36 : decode cd_T_tryEquation 36 = .ok (.getfield 21, 3) := by decide +kernel
theorem dx_T_tryEquation_39 : decode cd_T_tryEquation 39 = .ok (.invokevirtual 94, 3) := by decide +kernel
theorem dx_T_tryEquation_42 : decode cd_T_tryEquation 42 = .ok (.invokevirtual 98, 3) := by decide +kernel
theorem dx_T_tryEquation_45 : decode cd_T_tryEquation 45 = .ok (.pop, 1) := by decide +kernel
theorem dx_T_tryEquation_46 : decode cd_T_tryEquation 46 = .ok (.iconst 2, 1) := by decide +kernel
theorem dx_T_tryEquation_47 : decode cd_T_tryEquation 47 = .ok (.ireturn, 1) := by decide +kernel
theorem dx_T_tryEquation_48 : decode cd_T_tryEquation 48 = .ok (.aload_n 0, 1) := by decide +kernel
theorem dx_T_tryEquation_49 : decode cd_T_tryEquation 49 = .ok (.getfield 21, 3) := by decide +kernel
theorem dx_T_tryEquation_52 : decode cd_T_tryEquation 52 = .ok (.dup, 1) := by decide +kernel
theorem dx_T_tryEquation_53 : decode cd_T_tryEquation 53 = .ok (.getfield 89, 3) := by decide +kernel
theorem dx_T_tryEquation_56 : decode cd_T_tryEquation 56 = .ok (.iconst 1, 1) := by decide +kernel
theorem dx_T_tryEquation_57 : decode cd_T_tryEquation 57 = .ok (.iadd, 1) := by decide +kernel
theorem dx_T_tryEquation_58 : decode cd_T_tryEquation 58 = .ok (.putfield 89, 3) := by decide +kernel
theorem dx_T_tryEquation_61 : decode cd_T_tryEquation 61 = .ok (.iconst 0, 1) := by decide +kernel
theorem dx_T_tryEquation_62 : decode cd_T_tryEquation 62 = .ok (.ireturn, 1) := by decide +kernel
theorem dx_T_undo_0 : decode cd_T_undo 0 = .ok (.iload_n 1, 1) := by decide +kernel
theorem dx_T_undo_1 : decode cd_T_undo 1 = .ok (.ifCond .lt 14, 3) := by decide +kernel
theorem dx_T_undo_4 : decode cd_T_undo 4 = .ok (.iload_n 1, 1) := by decide +kernel
theorem dx_T_undo_5 : decode cd_T_undo 5 = .ok (.aload_n 0, 1) := by decide +kernel
theorem dx_T_undo_6 : decode cd_T_undo 6 = .ok (.getfield 21, 3) := by decide +kernel
theorem dx_T_undo_9 : decode cd_T_undo 9 = .ok (.getfield 89, 3) := by decide +kernel
theorem dx_T_undo_12 : decode cd_T_undo 12 = .ok (.if_icmp .le 13, 3) := by decide +kernel
theorem dx_T_undo_15 : decode cd_T_undo 15 = .ok (.new 52, 3) := by decide +kernel
theorem dx_T_undo_18 : decode cd_T_undo 18 = .ok (.dup, 1) := by decide +kernel
theorem dx_T_undo_19 : decode cd_T_undo 19 = .ok (.ldc 92, 2) := by decide +kernel
theorem dx_T_undo_21 : decode cd_T_undo 21 = .ok (.invokespecial 56, 3) := by decide +kernel
theorem dx_T_undo_24 : decode cd_T_undo 24 = .ok (.athrow, 1) := by decide +kernel
theorem dx_T_undo_25 : decode cd_T_undo 25 = .ok (.aload_n 0, 1) := by decide +kernel
theorem dx_T_undo_26 : decode cd_T_undo 26 = .ok (.getfield 21, 3) := by decide +kernel
theorem dx_T_undo_29 : decode cd_T_undo 29 = .ok (.dup, 1) := by decide +kernel
theorem dx_T_undo_30 : decode cd_T_undo 30 = .ok (.getfield 89, 3) := by decide +kernel
theorem dx_T_undo_33 : decode cd_T_undo 33 = .ok (.iload_n 1, 1) := by decide +kernel
theorem dx_T_undo_34 : decode cd_T_undo 34 = .ok (.isub, 1) := by decide +kernel
theorem dx_T_undo_35 : decode cd_T_undo 35 = .ok (.putfield 89, 3) := by decide +kernel
theorem dx_T_undo_38 : decode cd_T_undo 38 = .ok (.aload_n 0, 1) := by decide +kernel
theorem dx_T_undo_39 : decode cd_T_undo 39 = .ok (.getfield 28, 3) := by decide +kernel
theorem dx_T_undo_42 : decode cd_T_undo 42 = .ok (.aload_n 0, 1) := by decide +kernel
theorem dx_T_undo_43 : decode cd_T_undo 43 = .ok (.getfield 21, 3) := by decide +kernel
theorem dx_T_undo_46 : decode cd_T_undo 46 = .ok (.invokevirtual 94, 3) := by decide +kernel
theorem dx_T_undo_49 : decode cd_T_undo 49 = .ok (.invokevirtual 98, 3) := by decide +kernel
theorem dx_T_undo_52 : decode cd_T_undo 52 = .ok (.pop, 1) := by decide +kernel
theorem dx_T_undo_53 : decode cd_T_undo 53 = .ok (.aload_n 0, 1) := by decide +kernel
theorem dx_T_undo_54 : decode cd_T_undo 54 = .ok (.getfield 21, 3) := by decide +kernel
theorem dx_T_undo_57 : decode cd_T_undo 57 = .ok (.getfield 89, 3) := by decide +kernel
theorem dx_T_undo_60 : decode cd_T_undo 60 = .ok (.ireturn, 1) := by decide +kernel
theorem dx_T_count_0 : decode cd_T_count 0 = .ok (.iload_n 1, 1) := by decide +kernel
theorem dx_T_count_1 : decode cd_T_count 1 = .ok (.tableswitch 51 0 2 #[27, 35, 43], 27) := by decide +kernel
theorem dx_T_count_28 : decode cd_T_count 28 = .ok (.aload_n 0, 1) := by decide +kernel
theorem dx_T_count_29 : decode cd_T_count 29 = .ok (.getfield 12, 3) := by decide +kernel
theorem dx_T_count_32 : decode cd_T_count 32 = .ok (.getfield 102, 3) := by decide +kernel
theorem dx_T_count_35 : decode cd_T_count 35 = .ok (.ireturn, 1) := by decide +kernel
theorem dx_T_count_36 : decode cd_T_count 36 = .ok (.aload_n 0, 1) := by decide +kernel
theorem dx_T_count_37 : decode cd_T_count 37 = .ok (.getfield 21, 3) := by decide +kernel
theorem dx_T_count_40 : decode cd_T_count 40 = .ok (.getfield 89, 3) := by decide +kernel
theorem dx_T_count_43 : decode cd_T_count 43 = .ok (.ireturn, 1) := by decide +kernel
theorem dx_T_count_44 : decode cd_T_count 44 = .ok (.aload_n 0, 1) := by decide +kernel
theorem dx_T_count_45 : decode cd_T_count 45 = .ok (.getfield 28, 3) := by decide +kernel
theorem dx_T_count_48 : decode cd_T_count 48 = .ok (.getfield 80, 3) := by decide +kernel
theorem dx_T_count_51 : decode cd_T_count 51 = .ok (.ireturn, 1) := by decide +kernel
theorem dx_T_count_52 : decode cd_T_count 52 = .ok (.new 52, 3) := by decide +kernel
theorem dx_T_count_55 : decode cd_T_count 55 = .ok (.dup, 1) := by decide +kernel
theorem dx_T_count_56 : decode cd_T_count 56 = .ok (.ldc 105, 2) := by decide +kernel
theorem dx_T_count_58 : decode cd_T_count 58 = .ok (.invokespecial 56, 3) := by decide +kernel
theorem dx_T_count_61 : decode cd_T_count 61 = .ok (.athrow, 1) := by decide +kernel
theorem dx_T_same_0 : decode cd_T_same 0 = .ok (.aload_n 0, 1) := by decide +kernel
theorem dx_T_same_1 : decode cd_T_same 1 = .ok (.iload_n 1, 1) := by decide +kernel
theorem dx_T_same_2 : decode cd_T_same 2 = .ok (.invokevirtual 107, 3) := by decide +kernel
theorem dx_T_same_5 : decode cd_T_same 5 = .ok (.aload_n 0, 1) := by decide +kernel
theorem dx_T_same_6 : decode cd_T_same 6 = .ok (.iload_n 2, 1) := by decide +kernel
theorem dx_T_same_7 : decode cd_T_same 7 = .ok (.invokevirtual 107, 3) := by decide +kernel
theorem dx_T_same_10 : decode cd_T_same 10 = .ok (.aload_n 0, 1) := by decide +kernel
theorem dx_T_same_11 : decode cd_T_same 11 = .ok (.getfield 28, 3) := by decide +kernel
theorem dx_T_same_14 : decode cd_T_same 14 = .ok (.getfield 110, 3) := by decide +kernel
theorem dx_T_same_17 : decode cd_T_same 17 = .ok (.iload_n 1, 1) := by decide +kernel
theorem dx_T_same_18 : decode cd_T_same 18 = .ok (.iaload, 1) := by decide +kernel
theorem dx_T_same_19 : decode cd_T_same 19 = .ok (.aload_n 0, 1) := by decide +kernel
theorem dx_T_same_20 : decode cd_T_same 20 = .ok (.getfield 28, 3) := by decide +kernel
theorem dx_T_same_23 : decode cd_T_same 23 = .ok (.getfield 110, 3) := by decide +kernel
theorem dx_T_same_26 : decode cd_T_same 26 = .ok (.iload_n 2, 1) := by decide +kernel
theorem dx_T_same_27 : decode cd_T_same 27 = .ok (.iaload, 1) := by decide +kernel
theorem dx_T_same_28 : decode cd_T_same 28 = .ok (.if_icmp .ne 7, 3) := by decide +kernel
theorem dx_T_same_31 : decode cd_T_same 31 = .ok (.iconst 1, 1) := by decide +kernel
theorem dx_T_same_32 : decode cd_T_same 32 = .ok (.goto 4, 3) := by decide +kernel
theorem dx_T_same_35 : decode cd_T_same 35 = .ok (.iconst 0, 1) := by decide +kernel
theorem dx_T_same_36 : decode cd_T_same 36 = .ok (.ireturn, 1) := by decide +kernel
theorem dx_T_leader_0 : decode cd_T_leader 0 = .ok (.aload_n 0, 1) := by decide +kernel
theorem dx_T_leader_1 : decode cd_T_leader 1 = .ok (.iload_n 1, 1) := by decide +kernel
theorem dx_T_leader_2 : decode cd_T_leader 2 = .ok (.invokevirtual 107, 3) := by decide +kernel
theorem dx_T_leader_5 : decode cd_T_leader 5 = .ok (.aload_n 0, 1) := by decide +kernel
theorem dx_T_leader_6 : decode cd_T_leader 6 = .ok (.getfield 28, 3) := by decide +kernel
theorem dx_T_leader_9 : decode cd_T_leader 9 = .ok (.getfield 114, 3) := by decide +kernel
theorem dx_T_leader_12 : decode cd_T_leader 12 = .ok (.aload_n 0, 1) := by decide +kernel
theorem dx_T_leader_13 : decode cd_T_leader 13 = .ok (.getfield 28, 3) := by decide +kernel
theorem dx_T_leader_16 : decode cd_T_leader 16 = .ok (.getfield 110, 3) := by decide +kernel
theorem dx_T_leader_19 : decode cd_T_leader 19 = .ok (.iload_n 1, 1) := by decide +kernel
theorem dx_T_leader_20 : decode cd_T_leader 20 = .ok (.iaload, 1) := by decide +kernel
theorem dx_T_leader_21 : decode cd_T_leader 21 = .ok (.iaload, 1) := by decide +kernel
theorem dx_T_leader_22 : decode cd_T_leader 22 = .ok (.ireturn, 1) := by decide +kernel
theorem dx_T_size_0 : decode cd_T_size 0 = .ok (.aload_n 0, 1) := by decide +kernel
theorem dx_T_size_1 : decode cd_T_size 1 = .ok (.iload_n 1, 1) := by decide +kernel
theorem dx_T_size_2 : decode cd_T_size 2 = .ok (.invokevirtual 107, 3) := by decide +kernel
theorem dx_T_size_5 : decode cd_T_size 5 = .ok (.aload_n 0, 1) := by decide +kernel
theorem dx_T_size_6 : decode cd_T_size 6 = .ok (.getfield 28, 3) := by decide +kernel
theorem dx_T_size_9 : decode cd_T_size 9 = .ok (.getfield 117, 3) := by decide +kernel
theorem dx_T_size_12 : decode cd_T_size 12 = .ok (.aload_n 0, 1) := by decide +kernel
theorem dx_T_size_13 : decode cd_T_size 13 = .ok (.getfield 28, 3) := by decide +kernel
theorem dx_T_size_16 : decode cd_T_size 16 = .ok (.getfield 110, 3) := by decide +kernel
theorem dx_T_size_19 : decode cd_T_size 19 = .ok (.iload_n 1, 1) := by decide +kernel
theorem dx_T_size_20 : decode cd_T_size 20 = .ok (.iaload, 1) := by decide +kernel
theorem dx_T_size_21 : decode cd_T_size 21 = .ok (.laload, 1) := by decide +kernel
theorem dx_T_size_22 : decode cd_T_size 22 = .ok (.lreturn, 1) := by decide +kernel
theorem dx_T_depth_0 : decode cd_T_depth 0 = .ok (.aload_n 0, 1) := by decide +kernel
theorem dx_T_depth_1 : decode cd_T_depth 1 = .ok (.iload_n 1, 1) := by decide +kernel
theorem dx_T_depth_2 : decode cd_T_depth 2 = .ok (.invokevirtual 107, 3) := by decide +kernel
theorem dx_T_depth_5 : decode cd_T_depth 5 = .ok (.aload_n 0, 1) := by decide +kernel
theorem dx_T_depth_6 : decode cd_T_depth 6 = .ok (.getfield 28, 3) := by decide +kernel
theorem dx_T_depth_9 : decode cd_T_depth 9 = .ok (.getfield 121, 3) := by decide +kernel
theorem dx_T_depth_12 : decode cd_T_depth 12 = .ok (.aload_n 0, 1) := by decide +kernel
theorem dx_T_depth_13 : decode cd_T_depth 13 = .ok (.getfield 28, 3) := by decide +kernel
theorem dx_T_depth_16 : decode cd_T_depth 16 = .ok (.getfield 110, 3) := by decide +kernel
theorem dx_T_depth_19 : decode cd_T_depth 19 = .ok (.iload_n 1, 1) := by decide +kernel
theorem dx_T_depth_20 : decode cd_T_depth 20 = .ok (.iaload, 1) := by decide +kernel
theorem dx_T_depth_21 : decode cd_T_depth 21 = .ok (.iaload, 1) := by decide +kernel
theorem dx_T_depth_22 : decode cd_T_depth 22 = .ok (.ireturn, 1) := by decide +kernel
theorem dx_T_variables_0 : decode cd_T_variables 0 = .ok (.aload_n 0, 1) := by decide +kernel
theorem dx_T_variables_1 : decode cd_T_variables 1 = .ok (.iload_n 1, 1) := by decide +kernel
theorem dx_T_variables_2 : decode cd_T_variables 2 = .ok (.invokevirtual 107, 3) := by decide +kernel
theorem dx_T_variables_5 : decode cd_T_variables 5 = .ok (.aload_n 0, 1) := by decide +kernel
theorem dx_T_variables_6 : decode cd_T_variables 6 = .ok (.getfield 28, 3) := by decide +kernel
theorem dx_T_variables_9 : decode cd_T_variables 9 = .ok (.getfield 124, 3) := by decide +kernel
theorem dx_T_variables_12 : decode cd_T_variables 12 = .ok (.aload_n 0, 1) := by decide +kernel
theorem dx_T_variables_13 : decode cd_T_variables 13 = .ok (.getfield 28, 3) := by decide +kernel
theorem dx_T_variables_16 : decode cd_T_variables 16 = .ok (.getfield 110, 3) := by decide +kernel
theorem dx_T_variables_19 : decode cd_T_variables 19 = .ok (.iload_n 1, 1) := by decide +kernel
theorem dx_T_variables_20 : decode cd_T_variables 20 = .ok (.iaload, 1) := by decide +kernel
theorem dx_T_variables_21 : decode cd_T_variables 21 = .ok (.laload, 1) := by decide +kernel
theorem dx_T_variables_22 : decode cd_T_variables 22 = .ok (.invokestatic 127, 3) := by decide +kernel
theorem dx_T_variables_25 : decode cd_T_variables 25 = .ok (.ireturn, 1) := by decide +kernel
theorem dx_T_at_0 : decode cd_T_at 0 = .ok (.aload_n 0, 1) := by decide +kernel
theorem dx_T_at_1 : decode cd_T_at 1 = .ok (.iload_n 1, 1) := by decide +kernel
theorem dx_T_at_2 : decode cd_T_at 2 = .ok (.invokevirtual 107, 3) := by decide +kernel
theorem dx_T_at_5 : decode cd_T_at 5 = .ok (.aload_n 0, 1) := by decide +kernel
theorem dx_T_at_6 : decode cd_T_at 6 = .ok (.getfield 28, 3) := by decide +kernel
theorem dx_T_at_9 : decode cd_T_at 9 = .ok (.getfield 110, 3) := by decide +kernel
theorem dx_T_at_12 : decode cd_T_at 12 = .ok (.iload_n 1, 1) := by decide +kernel
theorem dx_T_at_13 : decode cd_T_at 13 = .ok (.iaload, 1) := by decide +kernel
theorem dx_T_at_14 : decode cd_T_at 14 = .ok (.istore 4, 2) := by decide +kernel
theorem dx_T_at_16 : decode cd_T_at 16 = .ok (.lload_n 2, 1) := by decide +kernel
theorem dx_T_at_17 : decode cd_T_at 17 = .ok (.lconst 0, 1) := by decide +kernel
theorem dx_T_at_18 : decode cd_T_at 18 = .ok (.lcmp, 1) := by decide +kernel
theorem dx_T_at_19 : decode cd_T_at 19 = .ok (.ifCond .lt 18, 3) := by decide +kernel
theorem dx_T_at_22 : decode cd_T_at 22 = .ok (.lload_n 2, 1) := by decide +kernel
theorem dx_T_at_23 : decode cd_T_at 23 = .ok (.aload_n 0, 1) := by decide +kernel
theorem dx_T_at_24 : decode cd_T_at 24 = .ok (.getfield 28, 3) := by decide +kernel
theorem dx_T_at_27 : decode cd_T_at 27 = .ok (.getfield 117, 3) := by decide +kernel
theorem dx_T_at_30 : decode cd_T_at 30 = .ok (.iload 4, 2) := by decide +kernel
theorem dx_T_at_32 : decode cd_T_at 32 = .ok (.laload, 1) := by decide +kernel
theorem dx_T_at_33 : decode cd_T_at 33 = .ok (.lcmp, 1) := by decide +kernel
theorem dx_T_at_34 : decode cd_T_at 34 = .ok (.ifCond .lt 13, 3) := by decide +kernel
theorem dx_T_at_37 : decode cd_T_at 37 = .ok (.new 133, 3) := by decide +kernel
theorem dx_T_at_40 : decode cd_T_at 40 = .ok (.dup, 1) := by decide +kernel
theorem dx_T_at_41 : decode cd_T_at 41 = .ok (.ldc 135, 2) := by decide +kernel
theorem dx_T_at_43 : decode cd_T_at 43 = .ok (.invokespecial 137, 3) := by decide +kernel
theorem dx_T_at_46 : decode cd_T_at 46 = .ok (.athrow, 1) := by decide +kernel
theorem dx_T_at_47 : decode cd_T_at 47 = .ok (.aload_n 0, 1) := by decide +kernel
theorem dx_T_at_48 : decode cd_T_at 48 = .ok (.getfield 28, 3) := by decide +kernel
theorem dx_T_at_51 : decode cd_T_at 51 = .ok (.iload 4, 2) := by decide +kernel
theorem dx_T_at_53 : decode cd_T_at 53 = .ok (.lload_n 2, 1) := by decide +kernel
theorem dx_T_at_54 : decode cd_T_at 54 = .ok (.invokevirtual 138, 3) := by decide +kernel
theorem dx_T_at_57 : decode cd_T_at 57 = .ok (.ireturn, 1) := by decide +kernel
theorem dx_T_matches_0 : decode cd_T_matches 0 = .ok (.aload_n 0, 1) := by decide +kernel
theorem dx_T_matches_1 : decode cd_T_matches 1 = .ok (.iload_n 1, 1) := by decide +kernel
theorem dx_T_matches_2 : decode cd_T_matches 2 = .ok (.invokevirtual 107, 3) := by decide +kernel
theorem dx_T_matches_5 : decode cd_T_matches 5 = .ok (.aload_n 0, 1) := by decide +kernel
theorem dx_T_matches_6 : decode cd_T_matches 6 = .ok (.iload_n 2, 1) := by decide +kernel
theorem dx_T_matches_7 : decode cd_T_matches 7 = .ok (.invokevirtual 107, 3) := by decide +kernel
theorem dx_T_matches_10 : decode cd_T_matches 10 = .ok (.aload_n 0, 1) := by decide +kernel
theorem dx_T_matches_11 : decode cd_T_matches 11 = .ok (.getfield 37, 3) := by decide +kernel
theorem dx_T_matches_14 : decode cd_T_matches 14 = .ok (.aload_n 0, 1) := by decide +kernel
theorem dx_T_matches_15 : decode cd_T_matches 15 = .ok (.getfield 28, 3) := by decide +kernel
theorem dx_T_matches_18 : decode cd_T_matches 18 = .ok (.getfield 110, 3) := by decide +kernel
theorem dx_T_matches_21 : decode cd_T_matches 21 = .ok (.iload_n 1, 1) := by decide +kernel
theorem dx_T_matches_22 : decode cd_T_matches 22 = .ok (.iaload, 1) := by decide +kernel
theorem dx_T_matches_23 : decode cd_T_matches 23 = .ok (.aload_n 0, 1) := by decide +kernel
theorem dx_T_matches_24 : decode cd_T_matches 24 = .ok (.getfield 28, 3) := by decide +kernel
theorem dx_T_matches_27 : decode cd_T_matches 27 = .ok (.getfield 110, 3) := by decide +kernel
theorem dx_T_matches_30 : decode cd_T_matches 30 = .ok (.iload_n 2, 1) := by decide +kernel
theorem dx_T_matches_31 : decode cd_T_matches 31 = .ok (.iaload, 1) := by decide +kernel
theorem dx_T_matches_32 : decode cd_T_matches 32 = .ok (.invokevirtual 142, 3) := by decide +kernel
theorem dx_T_matches_35 : decode cd_T_matches 35 = .ok (.ireturn, 1) := by decide +kernel
theorem dx_T_common_0 : decode cd_T_common 0 = .ok (.aload_n 0, 1) := by decide +kernel
theorem dx_T_common_1 : decode cd_T_common 1 = .ok (.iload_n 1, 1) := by decide +kernel
theorem dx_T_common_2 : decode cd_T_common 2 = .ok (.invokevirtual 107, 3) := by decide +kernel
theorem dx_T_common_5 : decode cd_T_common 5 = .ok (.aload_n 0, 1) := by decide +kernel
theorem dx_T_common_6 : decode cd_T_common 6 = .ok (.iload_n 2, 1) := by decide +kernel
theorem dx_T_common_7 : decode cd_T_common 7 = .ok (.invokevirtual 107, 3) := by decide +kernel
theorem dx_T_common_10 : decode cd_T_common 10 = .ok (.aload_n 0, 1) := by decide +kernel
theorem dx_T_common_11 : decode cd_T_common 11 = .ok (.getfield 37, 3) := by decide +kernel
theorem dx_T_common_14 : decode cd_T_common 14 = .ok (.aload_n 0, 1) := by decide +kernel
theorem dx_T_common_15 : decode cd_T_common 15 = .ok (.getfield 28, 3) := by decide +kernel
theorem dx_T_common_18 : decode cd_T_common 18 = .ok (.getfield 110, 3) := by decide +kernel
theorem dx_T_common_21 : decode cd_T_common 21 = .ok (.iload_n 1, 1) := by decide +kernel
theorem dx_T_common_22 : decode cd_T_common 22 = .ok (.iaload, 1) := by decide +kernel
theorem dx_T_common_23 : decode cd_T_common 23 = .ok (.aload_n 0, 1) := by decide +kernel
theorem dx_T_common_24 : decode cd_T_common 24 = .ok (.getfield 28, 3) := by decide +kernel
theorem dx_T_common_27 : decode cd_T_common 27 = .ok (.getfield 110, 3) := by decide +kernel
theorem dx_T_common_30 : decode cd_T_common 30 = .ok (.iload_n 2, 1) := by decide +kernel
theorem dx_T_common_31 : decode cd_T_common 31 = .ok (.iaload, 1) := by decide +kernel
theorem dx_T_common_32 : decode cd_T_common 32 = .ok (.invokevirtual 146, 3) := by decide +kernel
theorem dx_T_common_35 : decode cd_T_common 35 = .ok (.lreturn, 1) := by decide +kernel
