theorem dx_M_init_0 : decode cd_M_init 0 = .ok (.aload_n 0, 1) := by decide +kernel
theorem dx_M_init_1 : decode cd_M_init 1 = .ok (.invokespecial 1, 3) := by decide +kernel
theorem dx_M_init_4 : decode cd_M_init 4 = .ok (.aload_n 0, 1) := by decide +kernel
theorem dx_M_init_5 : decode cd_M_init 5 = .ok (.bipush 40, 2) := by decide +kernel
theorem dx_M_init_7 : decode cd_M_init 7 = .ok (.newarray .int, 2) := by decide +kernel
theorem dx_M_init_9 : decode cd_M_init 9 = .ok (.putfield 7, 3) := by decide +kernel
theorem dx_M_init_12 : decode cd_M_init 12 = .ok (.aload_n 0, 1) := by decide +kernel
theorem dx_M_init_13 : decode cd_M_init 13 = .ok (.bipush 40, 2) := by decide +kernel
theorem dx_M_init_15 : decode cd_M_init 15 = .ok (.newarray .int, 2) := by decide +kernel
theorem dx_M_init_17 : decode cd_M_init 17 = .ok (.putfield 13, 3) := by decide +kernel
theorem dx_M_init_20 : decode cd_M_init 20 = .ok (.aload_n 0, 1) := by decide +kernel
theorem dx_M_init_21 : decode cd_M_init 21 = .ok (.bipush 40, 2) := by decide +kernel
theorem dx_M_init_23 : decode cd_M_init 23 = .ok (.newarray .int, 2) := by decide +kernel
theorem dx_M_init_25 : decode cd_M_init 25 = .ok (.putfield 16, 3) := by decide +kernel
theorem dx_M_init_28 : decode cd_M_init 28 = .ok (.aload_n 0, 1) := by decide +kernel
theorem dx_M_init_29 : decode cd_M_init 29 = .ok (.bipush 40, 2) := by decide +kernel
theorem dx_M_init_31 : decode cd_M_init 31 = .ok (.newarray .int, 2) := by decide +kernel
theorem dx_M_init_33 : decode cd_M_init 33 = .ok (.putfield 19, 3) := by decide +kernel
theorem dx_M_init_36 : decode cd_M_init 36 = .ok (.aload_n 0, 1) := by decide +kernel
theorem dx_M_init_37 : decode cd_M_init 37 = .ok (.bipush 20, 2) := by decide +kernel
theorem dx_M_init_39 : decode cd_M_init 39 = .ok (.newarray .int, 2) := by decide +kernel
theorem dx_M_init_41 : decode cd_M_init 41 = .ok (.putfield 22, 3) := by decide +kernel
theorem dx_M_init_44 : decode cd_M_init 44 = .ok (.aload_n 0, 1) := by decide +kernel
theorem dx_M_init_45 : decode cd_M_init 45 = .ok (.bipush 20, 2) := by decide +kernel
theorem dx_M_init_47 : decode cd_M_init 47 = .ok (.newarray .int, 2) := by decide +kernel
theorem dx_M_init_49 : decode cd_M_init 49 = .ok (.putfield 25, 3) := by decide +kernel
theorem dx_M_init_52 : decode cd_M_init 52 = .ok (.aload_n 0, 1) := by decide +kernel
theorem dx_M_init_53 : decode cd_M_init 53 = .ok (.bipush 40, 2) := by decide +kernel
theorem dx_M_init_55 : decode cd_M_init 55 = .ok (.newarray .int, 2) := by decide +kernel
theorem dx_M_init_57 : decode cd_M_init 57 = .ok (.putfield 28, 3) := by decide +kernel
theorem dx_M_init_60 : decode cd_M_init 60 = .ok (.aload_n 0, 1) := by decide +kernel
theorem dx_M_init_61 : decode cd_M_init 61 = .ok (.bipush 40, 2) := by decide +kernel
theorem dx_M_init_63 : decode cd_M_init 63 = .ok (.newarray .int, 2) := by decide +kernel
theorem dx_M_init_65 : decode cd_M_init 65 = .ok (.putfield 31, 3) := by decide +kernel
theorem dx_M_init_68 : decode cd_M_init 68 = .ok (.aload_n 0, 1) := by decide +kernel
theorem dx_M_init_69 : decode cd_M_init 69 = .ok (.bipush 40, 2) := by decide +kernel
theorem dx_M_init_71 : decode cd_M_init 71 = .ok (.newarray .long, 2) := by decide +kernel
theorem dx_M_init_73 : decode cd_M_init 73 = .ok (.putfield 34, 3) := by decide +kernel
theorem dx_M_init_76 : decode cd_M_init 76 = .ok (.aload_n 0, 1) := by decide +kernel
theorem dx_M_init_77 : decode cd_M_init 77 = .ok (.bipush 40, 2) := by decide +kernel
theorem dx_M_init_79 : decode cd_M_init 79 = .ok (.newarray .int, 2) := by decide +kernel
theorem dx_M_init_81 : decode cd_M_init 81 = .ok (.putfield 38, 3) := by decide +kernel
theorem dx_M_init_84 : decode cd_M_init 84 = .ok (.aload_n 0, 1) := by decide +kernel
theorem dx_M_init_85 : decode cd_M_init 85 = .ok (.bipush 40, 2) := by decide +kernel
theorem dx_M_init_87 : decode cd_M_init 87 = .ok (.newarray .long, 2) := by decide +kernel
theorem dx_M_init_89 : decode cd_M_init 89 = .ok (.putfield 41, 3) := by decide +kernel
theorem dx_M_init_92 : decode cd_M_init 92 = .ok (.aload_n 0, 1) := by decide +kernel
theorem dx_M_init_93 : decode cd_M_init 93 = .ok (.sipush 1600, 3) := by decide +kernel
theorem dx_M_init_96 : decode cd_M_init 96 = .ok (.newarray .boolean, 2) := by decide +kernel
theorem dx_M_init_98 : decode cd_M_init 98 = .ok (.putfield 44, 3) := by decide +kernel
theorem dx_M_init_101 : decode cd_M_init 101 = .ok (.aload_n 0, 1) := by decide +kernel
theorem dx_M_init_102 : decode cd_M_init 102 = .ok (.sipush 1600, 3) := by decide +kernel
theorem dx_M_init_105 : decode cd_M_init 105 = .ok (.newarray .int, 2) := by decide +kernel
theorem dx_M_init_107 : decode cd_M_init 107 = .ok (.putfield 48, 3) := by decide +kernel
theorem dx_M_init_110 : decode cd_M_init 110 = .ok (.aload_n 0, 1) := by decide +kernel
theorem dx_M_init_111 : decode cd_M_init 111 = .ok (.sipush 1600, 3) := by decide +kernel
theorem dx_M_init_114 : decode cd_M_init 114 = .ok (.newarray .long, 2) := by decide +kernel
theorem dx_M_init_116 : decode cd_M_init 116 = .ok (.putfield 51, 3) := by decide +kernel
theorem dx_M_init_119 : decode cd_M_init 119 = .ok (.aload_n 0, 1) := by decide +kernel
theorem dx_M_init_120 : decode cd_M_init 120 = .ok (.bipush 40, 2) := by decide +kernel
theorem dx_M_init_122 : decode cd_M_init 122 = .ok (.newarray .int, 2) := by decide +kernel
theorem dx_M_init_124 : decode cd_M_init 124 = .ok (.putfield 54, 3) := by decide +kernel
theorem dx_M_init_127 : decode cd_M_init 127 = .ok (.return_, 1) := by decide +kernel
theorem dx_M_thrown_0 : decode cd_M_thrown 0 = .ok (.aload_n 0, 1) := by decide +kernel
theorem dx_M_thrown_1 : decode cd_M_thrown 1 = .ok (.getfield 57, 3) := by decide +kernel
theorem dx_M_thrown_4 : decode cd_M_thrown 4 = .ok (.ireturn, 1) := by decide +kernel
theorem dx_M_variable_0 : decode cd_M_variable 0 = .ok (.aload_n 0, 1) := by decide +kernel
theorem dx_M_variable_1 : decode cd_M_variable 1 = .ok (.aload_n 0, 1) := by decide +kernel
theorem dx_M_variable_2 : decode cd_M_variable 2 = .ok (.getfield 61, 3) := by decide +kernel
theorem dx_M_variable_5 : decode cd_M_variable 5 = .ok (.bipush 40, 2) := by decide +kernel
theorem dx_M_variable_7 : decode cd_M_variable 7 = .ok (.if_icmp .ne 7, 3) := by decide +kernel
theorem dx_M_variable_10 : decode cd_M_variable 10 = .ok (.iconst 1, 1) := by decide +kernel
theorem dx_M_variable_11 : decode cd_M_variable 11 = .ok (.goto 4, 3) := by decide +kernel
theorem dx_M_variable_14 : decode cd_M_variable 14 = .ok (.iconst 0, 1) := by decide +kernel
theorem dx_M_variable_15 : decode cd_M_variable 15 = .ok (.putfield 57, 3) := by decide +kernel
theorem dx_M_variable_18 : decode cd_M_variable 18 = .ok (.aload_n 0, 1) := by decide +kernel
theorem dx_M_variable_19 : decode cd_M_variable 19 = .ok (.getfield 57, 3) := by decide +kernel
theorem dx_M_variable_22 : decode cd_M_variable 22 = .ok (.ifCond .le 7, 3) := by decide +kernel
theorem dx_M_variable_25 : decode cd_M_variable 25 = .ok (.iconst 0, 1) := by decide +kernel
theorem dx_M_variable_26 : decode cd_M_variable 26 = .ok (.goto 11, 3) := by decide +kernel
theorem dx_M_variable_29 : decode cd_M_variable 29 = .ok (.aload_n 0, 1) := by decide +kernel
theorem dx_M_variable_30 : decode cd_M_variable 30 = .ok (.iconst (-1), 1) := by decide +kernel
theorem dx_M_variable_31 : decode cd_M_variable 31 = .ok (.iconst 0, 1) := by decide +kernel
theorem dx_M_variable_32 : decode cd_M_variable 32 = .ok (.iconst (-1), 1) := by decide +kernel
theorem dx_M_variable_33 : decode cd_M_variable 33 = .ok (.iconst (-1), 1) := by decide +kernel
theorem dx_M_variable_34 : decode cd_M_variable 34 = .ok (.invokevirtual 68, 3) := by decide +kernel
theorem dx_M_variable_37 : decode cd_M_variable 37 = .ok (.ireturn, 1) := by decide +kernel
theorem dx_M_make_0 : decode cd_M_make 0 = .ok (.aload_n 0, 1) := by decide +kernel
theorem dx_M_make_1 : decode cd_M_make 1 = .ok (.getfield 7, 3) := by decide +kernel
theorem dx_M_make_4 : decode cd_M_make 4 = .ok (.aload_n 0, 1) := by decide +kernel
theorem dx_M_make_5 : decode cd_M_make 5 = .ok (.getfield 61, 3) := by decide +kernel
theorem dx_M_make_8 : decode cd_M_make 8 = .ok (.iload_n 1, 1) := by decide +kernel
theorem dx_M_make_9 : decode cd_M_make 9 = .ok (.iastore, 1) := by decide +kernel
theorem dx_M_make_10 : decode cd_M_make 10 = .ok (.aload_n 0, 1) := by decide +kernel
theorem dx_M_make_11 : decode cd_M_make 11 = .ok (.getfield 13, 3) := by decide +kernel
theorem dx_M_make_14 : decode cd_M_make 14 = .ok (.aload_n 0, 1) := by decide +kernel
theorem dx_M_make_15 : decode cd_M_make 15 = .ok (.getfield 61, 3) := by decide +kernel
theorem dx_M_make_18 : decode cd_M_make 18 = .ok (.iload_n 2, 1) := by decide +kernel
theorem dx_M_make_19 : decode cd_M_make 19 = .ok (.iastore, 1) := by decide +kernel
theorem dx_M_make_20 : decode cd_M_make 20 = .ok (.aload_n 0, 1) := by decide +kernel
theorem dx_M_make_21 : decode cd_M_make 21 = .ok (.getfield 16, 3) := by decide +kernel
theorem dx_M_make_24 : decode cd_M_make 24 = .ok (.aload_n 0, 1) := by decide +kernel
theorem dx_M_make_25 : decode cd_M_make 25 = .ok (.getfield 61, 3) := by decide +kernel
theorem dx_M_make_28 : decode cd_M_make 28 = .ok (.iload_n 3, 1) := by decide +kernel
theorem dx_M_make_29 : decode cd_M_make 29 = .ok (.iastore, 1) := by decide +kernel
theorem dx_M_make_30 : decode cd_M_make 30 = .ok (.aload_n 0, 1) := by decide +kernel
theorem dx_M_make_31 : decode cd_M_make 31 = .ok (.getfield 19, 3) := by decide +kernel
theorem dx_M_make_34 : decode cd_M_make 34 = .ok (.aload_n 0, 1) := by decide +kernel
theorem dx_M_make_35 : decode cd_M_make 35 = .ok (.getfield 61, 3) := by decide +kernel
theorem dx_M_make_38 : decode cd_M_make 38 = .ok (.iload 4, 2) := by decide +kernel
theorem dx_M_make_40 : decode cd_M_make 40 = .ok (.iastore, 1) := by decide +kernel
theorem dx_M_make_41 : decode cd_M_make 41 = .ok (.aload_n 0, 1) := by decide +kernel
theorem dx_M_make_42 : decode cd_M_make 42 = .ok (.dup, 1) := by decide +kernel
theorem dx_M_make_43 : decode cd_M_make 43 = .ok (.getfield 61, 3) := by decide +kernel
theorem dx_M_make_46 : decode cd_M_make 46 = .ok (.iconst 1, 1) := by decide +kernel
theorem dx_M_make_47 : decode cd_M_make 47 = .ok (.iadd, 1) := by decide +kernel
theorem dx_M_make_48 : decode cd_M_make 48 = .ok (.putfield 61, 3) := by decide +kernel
theorem dx_M_make_51 : decode cd_M_make 51 = .ok (.aload_n 0, 1) := by decide +kernel
theorem dx_M_make_52 : decode cd_M_make 52 = .ok (.iconst 0, 1) := by decide +kernel
theorem dx_M_make_53 : decode cd_M_make 53 = .ok (.putfield 64, 3) := by decide +kernel
theorem dx_M_make_56 : decode cd_M_make 56 = .ok (.aload_n 0, 1) := by decide +kernel
theorem dx_M_make_57 : decode cd_M_make 57 = .ok (.getfield 61, 3) := by decide +kernel
theorem dx_M_make_60 : decode cd_M_make 60 = .ok (.iconst 1, 1) := by decide +kernel
theorem dx_M_make_61 : decode cd_M_make 61 = .ok (.isub, 1) := by decide +kernel
theorem dx_M_make_62 : decode cd_M_make 62 = .ok (.ireturn, 1) := by decide +kernel
theorem dx_M_term_0 : decode cd_M_term 0 = .ok (.iload_n 1, 1) := by decide +kernel
theorem dx_M_term_1 : decode cd_M_term 1 = .ok (.ifCond .lt 48, 3) := by decide +kernel
theorem dx_M_term_4 : decode cd_M_term 4 = .ok (.iload_n 1, 1) := by decide +kernel
theorem dx_M_term_5 : decode cd_M_term 5 = .ok (.bipush 9, 2) := by decide +kernel
theorem dx_M_term_7 : decode cd_M_term 7 = .ok (.if_icmp .gt 42, 3) := by decide +kernel
theorem dx_M_term_10 : decode cd_M_term 10 = .ok (.iload_n 2, 1) := by decide +kernel
theorem dx_M_term_11 : decode cd_M_term 11 = .ok (.iconst (-1), 1) := by decide +kernel
theorem dx_M_term_12 : decode cd_M_term 12 = .ok (.if_icmp .eq 11, 3) := by decide +kernel
theorem dx_M_term_15 : decode cd_M_term 15 = .ok (.aload_n 0, 1) := by decide +kernel
theorem dx_M_term_16 : decode cd_M_term 16 = .ok (.iload_n 2, 1) := by decide +kernel
theorem dx_M_term_17 : decode cd_M_term 17 = .ok (.invokevirtual 72, 3) := by decide +kernel
theorem dx_M_term_20 : decode cd_M_term 20 = .ok (.ifCond .eq 29, 3) := by decide +kernel
theorem dx_M_term_23 : decode cd_M_term 23 = .ok (.iload_n 3, 1) := by decide +kernel
theorem dx_M_term_24 : decode cd_M_term 24 = .ok (.iconst (-1), 1) := by decide +kernel
theorem dx_M_term_25 : decode cd_M_term 25 = .ok (.if_icmp .eq 11, 3) := by decide +kernel
theorem dx_M_term_28 : decode cd_M_term 28 = .ok (.aload_n 0, 1) := by decide +kernel
theorem dx_M_term_29 : decode cd_M_term 29 = .ok (.iload_n 3, 1) := by decide +kernel
theorem dx_M_term_30 : decode cd_M_term 30 = .ok (.invokevirtual 72, 3) := by decide +kernel
theorem dx_M_term_33 : decode cd_M_term 33 = .ok (.ifCond .eq 16, 3) := by decide +kernel
theorem dx_M_term_36 : decode cd_M_term 36 = .ok (.iload_n 2, 1) := by decide +kernel
theorem dx_M_term_37 : decode cd_M_term 37 = .ok (.ifCond .ge 8, 3) := by decide +kernel
theorem dx_M_term_40 : decode cd_M_term 40 = .ok (.iload_n 3, 1) := by decide +kernel
theorem dx_M_term_41 : decode cd_M_term 41 = .ok (.iconst (-1), 1) := by decide +kernel
theorem dx_M_term_42 : decode cd_M_term 42 = .ok (.if_icmp .ne 7, 3) := by decide +kernel
theorem dx_M_term_45 : decode cd_M_term 45 = .ok (.iconst 1, 1) := by decide +kernel
theorem dx_M_term_46 : decode cd_M_term 46 = .ok (.goto 4, 3) := by decide +kernel
theorem dx_M_term_49 : decode cd_M_term 49 = .ok (.iconst 0, 1) := by decide +kernel
theorem dx_M_term_50 : decode cd_M_term 50 = .ok (.istore 4, 2) := by decide +kernel
theorem dx_M_term_52 : decode cd_M_term 52 = .ok (.aload_n 0, 1) := by decide +kernel
theorem dx_M_term_53 : decode cd_M_term 53 = .ok (.iload 4, 2) := by decide +kernel
theorem dx_M_term_55 : decode cd_M_term 55 = .ok (.ifCond .ne 7, 3) := by decide +kernel
theorem dx_M_term_58 : decode cd_M_term 58 = .ok (.iconst 1, 1) := by decide +kernel
theorem dx_M_term_59 : decode cd_M_term 59 = .ok (.goto 17, 3) := by decide +kernel
theorem dx_M_term_62 : decode cd_M_term 62 = .ok (.aload_n 0, 1) := by decide +kernel
theorem dx_M_term_63 : decode cd_M_term 63 = .ok (.getfield 61, 3) := by decide +kernel
theorem dx_M_term_66 : decode cd_M_term 66 = .ok (.bipush 40, 2) := by decide +kernel
theorem dx_M_term_68 : decode cd_M_term 68 = .ok (.if_icmp .ne 7, 3) := by decide +kernel
theorem dx_M_term_71 : decode cd_M_term 71 = .ok (.iconst 2, 1) := by decide +kernel
theorem dx_M_term_72 : decode cd_M_term 72 = .ok (.goto 4, 3) := by decide +kernel
theorem dx_M_term_75 : decode cd_M_term 75 = .ok (.iconst 0, 1) := by decide +kernel
theorem dx_M_term_76 : decode cd_M_term 76 = .ok (.putfield 57, 3) := by decide +kernel
theorem dx_M_term_79 : decode cd_M_term 79 = .ok (.aload_n 0, 1) := by decide +kernel
theorem dx_M_term_80 : decode cd_M_term 80 = .ok (.getfield 57, 3) := by decide +kernel
theorem dx_M_term_83 : decode cd_M_term 83 = .ok (.ifCond .le 7, 3) := by decide +kernel
theorem dx_M_term_86 : decode cd_M_term 86 = .ok (.iconst 0, 1) := by decide +kernel
theorem dx_M_term_87 : decode cd_M_term 87 = .ok (.goto 27, 3) := by decide +kernel
theorem dx_M_term_90 : decode cd_M_term 90 = .ok (.aload_n 0, 1) := by decide +kernel
theorem dx_M_term_91 : decode cd_M_term 91 = .ok (.iload_n 1, 1) := by decide +kernel
theorem dx_M_term_92 : decode cd_M_term 92 = .ok (.iload_n 2, 1) := by decide +kernel
theorem dx_M_term_93 : decode cd_M_term 93 = .ok (.ifCond .ge 7, 3) := by decide +kernel
theorem dx_M_term_96 : decode cd_M_term 96 = .ok (.iconst 0, 1) := by decide +kernel
theorem dx_M_term_97 : decode cd_M_term 97 = .ok (.goto 12, 3) := by decide +kernel
theorem dx_M_term_100 : decode cd_M_term 100 = .ok (.iload_n 3, 1) := by decide +kernel
theorem dx_M_term_101 : decode cd_M_term 101 = .ok (.ifCond .ge 7, 3) := by decide +kernel
theorem dx_M_term_104 : decode cd_M_term 104 = .ok (.iconst 1, 1) := by decide +kernel
theorem dx_M_term_105 : decode cd_M_term 105 = .ok (.goto 4, 3) := by decide +kernel
theorem dx_M_term_108 : decode cd_M_term 108 = .ok (.iconst 2, 1) := by decide +kernel
theorem dx_M_term_109 : decode cd_M_term 109 = .ok (.iload_n 2, 1) := by decide +kernel
theorem dx_M_term_110 : decode cd_M_term 110 = .ok (.iload_n 3, 1) := by decide +kernel
theorem dx_M_term_111 : decode cd_M_term 111 = .ok (.invokevirtual 68, 3) := by decide +kernel
theorem dx_M_term_114 : decode cd_M_term 114 = .ok (.ireturn, 1) := by decide +kernel
theorem dx_M_isNode_0 : decode cd_M_isNode 0 = .ok (.iload_n 1, 1) := by decide +kernel
theorem dx_M_isNode_1 : decode cd_M_isNode 1 = .ok (.ifCond .lt 15, 3) := by decide +kernel
theorem dx_M_isNode_4 : decode cd_M_isNode 4 = .ok (.iload_n 1, 1) := by decide +kernel
theorem dx_M_isNode_5 : decode cd_M_isNode 5 = .ok (.aload_n 0, 1) := by decide +kernel
theorem dx_M_isNode_6 : decode cd_M_isNode 6 = .ok (.getfield 61, 3) := by decide +kernel
theorem dx_M_isNode_9 : decode cd_M_isNode 9 = .ok (.if_icmp .ge 7, 3) := by decide +kernel
theorem dx_M_isNode_12 : decode cd_M_isNode 12 = .ok (.iconst 1, 1) := by decide +kernel
theorem dx_M_isNode_13 : decode cd_M_isNode 13 = .ok (.goto 4, 3) := by decide +kernel
theorem dx_M_isNode_16 : decode cd_M_isNode 16 = .ok (.iconst 0, 1) := by decide +kernel
theorem dx_M_isNode_17 : decode cd_M_isNode 17 = .ok (.ireturn, 1) := by decide +kernel
theorem dx_M_unify_0 : decode cd_M_unify 0 = .ok (.aload_n 0, 1) := by decide +kernel
theorem dx_M_unify_1 : decode cd_M_unify 1 = .ok (.iload_n 1, 1) := by decide +kernel
theorem dx_M_unify_2 : decode cd_M_unify 2 = .ok (.invokevirtual 72, 3) := by decide +kernel
theorem dx_M_unify_5 : decode cd_M_unify 5 = .ok (.ifCond .eq 15, 3) := by decide +kernel
theorem dx_M_unify_8 : decode cd_M_unify 8 = .ok (.aload_n 0, 1) := by decide +kernel
theorem dx_M_unify_9 : decode cd_M_unify 9 = .ok (.iload_n 2, 1) := by decide +kernel
theorem dx_M_unify_10 : decode cd_M_unify 10 = .ok (.invokevirtual 72, 3) := by decide +kernel
theorem dx_M_unify_13 : decode cd_M_unify 13 = .ok (.ifCond .eq 7, 3) := by decide +kernel
theorem dx_M_unify_16 : decode cd_M_unify 16 = .ok (.iconst 1, 1) := by decide +kernel
theorem dx_M_unify_17 : decode cd_M_unify 17 = .ok (.goto 4, 3) := by decide +kernel
theorem dx_M_unify_20 : decode cd_M_unify 20 = .ok (.iconst 0, 1) := by decide +kernel
theorem dx_M_unify_21 : decode cd_M_unify 21 = .ok (.istore_n 3, 1) := by decide +kernel
theorem dx_M_unify_22 : decode cd_M_unify 22 = .ok (.aload_n 0, 1) := by decide +kernel
theorem dx_M_unify_23 : decode cd_M_unify 23 = .ok (.iload_n 3, 1) := by decide +kernel
theorem dx_M_unify_24 : decode cd_M_unify 24 = .ok (.ifCond .eq 7, 3) := by decide +kernel
theorem dx_M_unify_27 : decode cd_M_unify 27 = .ok (.iconst 0, 1) := by decide +kernel
theorem dx_M_unify_28 : decode cd_M_unify 28 = .ok (.goto 4, 3) := by decide +kernel
theorem dx_M_unify_31 : decode cd_M_unify 31 = .ok (.iconst 3, 1) := by decide +kernel
theorem dx_M_unify_32 : decode cd_M_unify 32 = .ok (.putfield 115, 3) := by decide +kernel
theorem dx_M_unify_35 : decode cd_M_unify 35 = .ok (.aload_n 0, 1) := by decide +kernel
theorem dx_M_unify_36 : decode cd_M_unify 36 = .ok (.iload_n 3, 1) := by decide +kernel
theorem dx_M_unify_37 : decode cd_M_unify 37 = .ok (.ifCond .ne 7, 3) := by decide +kernel
theorem dx_M_unify_40 : decode cd_M_unify 40 = .ok (.iconst 1, 1) := by decide +kernel
theorem dx_M_unify_41 : decode cd_M_unify 41 = .ok (.goto 17, 3) := by decide +kernel
theorem dx_M_unify_44 : decode cd_M_unify 44 = .ok (.aload_n 0, 1) := by decide +kernel
theorem dx_M_unify_45 : decode cd_M_unify 45 = .ok (.getfield 87, 3) := by decide +kernel
theorem dx_M_unify_48 : decode cd_M_unify 48 = .ok (.bipush 20, 2) := by decide +kernel
theorem dx_M_unify_50 : decode cd_M_unify 50 = .ok (.if_icmp .ne 7, 3) := by decide +kernel
theorem dx_M_unify_53 : decode cd_M_unify 53 = .ok (.iconst 2, 1) := by decide +kernel
theorem dx_M_unify_54 : decode cd_M_unify 54 = .ok (.goto 4, 3) := by decide +kernel
theorem dx_M_unify_57 : decode cd_M_unify 57 = .ok (.iconst 0, 1) := by decide +kernel
theorem dx_M_unify_58 : decode cd_M_unify 58 = .ok (.putfield 57, 3) := by decide +kernel
theorem dx_M_unify_61 : decode cd_M_unify 61 = .ok (.aload_n 0, 1) := by decide +kernel
theorem dx_M_unify_62 : decode cd_M_unify 62 = .ok (.getfield 57, 3) := by decide +kernel
theorem dx_M_unify_65 : decode cd_M_unify 65 = .ok (.ifCond .le 5, 3) := by decide +kernel
theorem dx_M_unify_68 : decode cd_M_unify 68 = .ok (.iconst 0, 1) := by decide +kernel
theorem dx_M_unify_69 : decode cd_M_unify 69 = .ok (.ireturn, 1) := by decide +kernel
theorem dx_M_unify_70 : decode cd_M_unify 70 = .ok (.aload_n 0, 1) := by decide +kernel
theorem dx_M_unify_71 : decode cd_M_unify 71 = .ok (.invokevirtual 118, 3) := by decide +kernel
theorem dx_M_unify_74 : decode cd_M_unify 74 = .ok (.aload_n 0, 1) := by decide +kernel
theorem dx_M_unify_75 : decode cd_M_unify 75 = .ok (.invokevirtual 121, 3) := by decide +kernel
theorem dx_M_unify_78 : decode cd_M_unify 78 = .ok (.istore 4, 2) := by decide +kernel
theorem dx_M_unify_80 : decode cd_M_unify 80 = .ok (.aload_n 0, 1) := by decide +kernel
theorem dx_M_unify_81 : decode cd_M_unify 81 = .ok (.getfield 22, 3) := by decide +kernel
theorem dx_M_unify_84 : decode cd_M_unify 84 = .ok (.aload_n 0, 1) := by decide +kernel
theorem dx_M_unify_85 : decode cd_M_unify 85 = .ok (.getfield 87, 3) := by decide +kernel
theorem dx_M_unify_88 : decode cd_M_unify 88 = .ok (.iload_n 1, 1) := by decide +kernel
theorem dx_M_unify_89 : decode cd_M_unify 89 = .ok (.iastore, 1) := by decide +kernel
theorem dx_M_unify_90 : decode cd_M_unify 90 = .ok (.aload_n 0, 1) := by decide +kernel
theorem dx_M_unify_91 : decode cd_M_unify 91 = .ok (.getfield 25, 3) := by decide +kernel
theorem dx_M_unify_94 : decode cd_M_unify 94 = .ok (.aload_n 0, 1) := by decide +kernel
theorem dx_M_unify_95 : decode cd_M_unify 95 = .ok (.getfield 87, 3) := by decide +kernel
theorem dx_M_unify_98 : decode cd_M_unify 98 = .ok (.iload_n 2, 1) := by decide +kernel
theorem dx_M_unify_99 : decode cd_M_unify 99 = .ok (.iastore, 1) := by decide +kernel
theorem dx_M_unify_100 : decode cd_M_unify 100 = .ok (.aload_n 0, 1) := by decide +kernel
theorem dx_M_unify_101 : decode cd_M_unify 101 = .ok (.dup, 1) := by decide +kernel
theorem dx_M_unify_102 : decode cd_M_unify 102 = .ok (.getfield 87, 3) := by decide +kernel
theorem dx_M_unify_105 : decode cd_M_unify 105 = .ok (.iconst 1, 1) := by decide +kernel
theorem dx_M_unify_106 : decode cd_M_unify 106 = .ok (.iadd, 1) := by decide +kernel
theorem dx_M_unify_107 : decode cd_M_unify 107 = .ok (.putfield 87, 3) := by decide +kernel
theorem dx_M_unify_110 : decode cd_M_unify 110 = .ok (.aload_n 0, 1) := by decide +kernel
theorem dx_M_unify_111 : decode cd_M_unify 111 = .ok (.iconst 0, 1) := by decide +kernel
theorem dx_M_unify_112 : decode cd_M_unify 112 = .ok (.putfield 64, 3) := by decide +kernel
theorem dx_M_unify_115 : decode cd_M_unify 115 = .ok (.aload_n 0, 1) := by decide +kernel
theorem dx_M_unify_116 : decode cd_M_unify 116 = .ok (.aload_n 0, 1) := by decide +kernel
theorem dx_M_unify_117 : decode cd_M_unify 117 = .ok (.invokevirtual 100, 3) := by decide +kernel
theorem dx_M_unify_120 : decode cd_M_unify 120 = .ok (.putfield 115, 3) := by decide +kernel
theorem dx_M_unify_123 : decode cd_M_unify 123 = .ok (.aload_n 0, 1) := by decide +kernel
theorem dx_M_unify_124 : decode cd_M_unify 124 = .ok (.getfield 115, 3) := by decide +kernel
theorem dx_M_unify_127 : decode cd_M_unify 127 = .ok (.ifCond .le 20, 3) := by decide +kernel
theorem dx_M_unify_130 : decode cd_M_unify 130 = .ok (.aload_n 0, 1) := by decide +kernel
theorem dx_M_unify_131 : decode cd_M_unify 131 = .ok (.dup, 1) := by decide +kernel
theorem dx_M_unify_132 : decode cd_M_unify 132 = .ok (.getfield 87, 3) := by decide +kernel
theorem dx_M_unify_135 : decode cd_M_unify 135 = .ok (.iconst 1, 1) := by decide +kernel
theorem dx_M_unify_136 : decode cd_M_unify 136 = .ok (.isub, 1) := by decide +kernel
theorem dx_M_unify_137 : decode cd_M_unify 137 = .ok (.putfield 87, 3) := by decide +kernel
theorem dx_M_unify_140 : decode cd_M_unify 140 = .ok (.aload_n 0, 1) := by decide +kernel
theorem dx_M_unify_141 : decode cd_M_unify 141 = .ok (.iconst 2, 1) := by decide +kernel
theorem dx_M_unify_142 : decode cd_M_unify 142 = .ok (.putfield 57, 3) := by decide +kernel
theorem dx_M_unify_145 : decode cd_M_unify 145 = .ok (.iconst 0, 1) := by decide +kernel
theorem dx_M_unify_146 : decode cd_M_unify 146 = .ok (.ireturn, 1) := by decide +kernel
theorem dx_M_unify_147 : decode cd_M_unify 147 = .ok (.iload 4, 2) := by decide +kernel
theorem dx_M_unify_149 : decode cd_M_unify 149 = .ok (.aload_n 0, 1) := by decide +kernel
theorem dx_M_unify_150 : decode cd_M_unify 150 = .ok (.invokevirtual 121, 3) := by decide +kernel
theorem dx_M_unify_153 : decode cd_M_unify 153 = .ok (.isub, 1) := by decide +kernel
theorem dx_M_unify_154 : decode cd_M_unify 154 = .ok (.ireturn, 1) := by decide +kernel
theorem dx_M_prepare_0 : decode cd_M_prepare 0 = .ok (.aload_n 0, 1) := by decide +kernel
theorem dx_M_prepare_1 : decode cd_M_prepare 1 = .ok (.getfield 64, 3) := by decide +kernel
theorem dx_M_prepare_4 : decode cd_M_prepare 4 = .ok (.ifCond .eq 4, 3) := by decide +kernel
theorem dx_M_prepare_7 : decode cd_M_prepare 7 = .ok (.return_, 1) := by decide +kernel
theorem dx_M_prepare_8 : decode cd_M_prepare 8 = .ok (.aload_n 0, 1) := by decide +kernel
theorem dx_M_prepare_9 : decode cd_M_prepare 9 = .ok (.iconst 1, 1) := by decide +kernel
theorem dx_M_prepare_10 : decode cd_M_prepare 10 = .ok (.putfield 64, 3) := by decide +kernel
theorem dx_M_prepare_13 : decode cd_M_prepare 13 = .ok (.aload_n 0, 1) := by decide +kernel
theorem dx_M_prepare_14 : decode cd_M_prepare 14 = .ok (.invokevirtual 100, 3) := by decide +kernel
theorem dx_M_prepare_17 : decode cd_M_prepare 17 = .ok (.pop, 1) := by decide +kernel
theorem dx_M_prepare_18 : decode cd_M_prepare 18 = .ok (.iconst 0, 1) := by decide +kernel
theorem dx_M_prepare_19 : decode cd_M_prepare 19 = .ok (.istore_n 1, 1) := by decide +kernel
theorem dx_M_prepare_20 : decode cd_M_prepare 20 = .ok (.iload_n 1, 1) := by decide +kernel
theorem dx_M_prepare_21 : decode cd_M_prepare 21 = .ok (.aload_n 0, 1) := by decide +kernel
theorem dx_M_prepare_22 : decode cd_M_prepare 22 = .ok (.getfield 61, 3) := by decide +kernel
theorem dx_M_prepare_25 : decode cd_M_prepare 25 = .ok (.if_icmp .ge 42, 3) := by decide +kernel
theorem dx_M_prepare_28 : decode cd_M_prepare 28 = .ok (.iconst 0, 1) := by decide +kernel
theorem dx_M_prepare_29 : decode cd_M_prepare 29 = .ok (.istore_n 2, 1) := by decide +kernel
theorem dx_M_prepare_30 : decode cd_M_prepare 30 = .ok (.iload_n 2, 1) := by decide +kernel
theorem dx_M_prepare_31 : decode cd_M_prepare 31 = .ok (.aload_n 0, 1) := by decide +kernel
theorem dx_M_prepare_32 : decode cd_M_prepare 32 = .ok (.getfield 61, 3) := by decide +kernel
theorem dx_M_prepare_35 : decode cd_M_prepare 35 = .ok (.if_icmp .ge 26, 3) := by decide +kernel
theorem dx_M_prepare_38 : decode cd_M_prepare 38 = .ok (.aload_n 0, 1) := by decide +kernel
theorem dx_M_prepare_39 : decode cd_M_prepare 39 = .ok (.getfield 44, 3) := by decide +kernel
theorem dx_M_prepare_42 : decode cd_M_prepare 42 = .ok (.bipush 40, 2) := by decide +kernel
theorem dx_M_prepare_44 : decode cd_M_prepare 44 = .ok (.iload_n 1, 1) := by decide +kernel
theorem dx_M_prepare_45 : decode cd_M_prepare 45 = .ok (.imul, 1) := by decide +kernel
theorem dx_M_prepare_46 : decode cd_M_prepare 46 = .ok (.iload_n 2, 1) := by decide +kernel
theorem dx_M_prepare_47 : decode cd_M_prepare 47 = .ok (.iadd, 1) := by decide +kernel
theorem dx_M_prepare_48 : decode cd_M_prepare 48 = .ok (.aload_n 0, 1) := by decide +kernel
theorem dx_M_prepare_49 : decode cd_M_prepare 49 = .ok (.iload_n 1, 1) := by decide +kernel
theorem dx_M_prepare_50 : decode cd_M_prepare 50 = .ok (.iload_n 2, 1) := by decide +kernel
theorem dx_M_prepare_51 : decode cd_M_prepare 51 = .ok (.invokevirtual 103, 3) := by decide +kernel
theorem dx_M_prepare_54 : decode cd_M_prepare 54 = .ok (.bastore, 1) := by decide +kernel
theorem dx_M_prepare_55 : decode cd_M_prepare 55 = .ok (.iinc 2 1, 3) := by decide +kernel
theorem dx_M_prepare_58 : decode cd_M_prepare 58 = .ok (.goto (-28), 3) := by decide +kernel
theorem dx_M_prepare_61 : decode cd_M_prepare 61 = .ok (.iinc 1 1, 3) := by decide +kernel
theorem dx_M_prepare_64 : decode cd_M_prepare 64 = .ok (.goto (-44), 3) := by decide +kernel
theorem dx_M_prepare_67 : decode cd_M_prepare 67 = .ok (.iconst 1, 1) := by decide +kernel
theorem dx_M_prepare_68 : decode cd_M_prepare 68 = .ok (.istore_n 1, 1) := by decide +kernel
theorem dx_M_prepare_69 : decode cd_M_prepare 69 = .ok (.iload_n 1, 1) := by decide +kernel
theorem dx_M_prepare_70 : decode cd_M_prepare 70 = .ok (.ifCond .eq 77, 3) := by decide +kernel
theorem dx_M_prepare_73 : decode cd_M_prepare 73 = .ok (.iconst 0, 1) := by decide +kernel
theorem dx_M_prepare_74 : decode cd_M_prepare 74 = .ok (.istore_n 1, 1) := by decide +kernel
theorem dx_M_prepare_75 : decode cd_M_prepare 75 = .ok (.iconst 0, 1) := by decide +kernel
theorem dx_M_prepare_76 : decode cd_M_prepare 76 = .ok (.istore_n 2, 1) := by decide +kernel
theorem dx_M_prepare_77 : decode cd_M_prepare 77 = .ok (.iload_n 2, 1) := by decide +kernel
theorem dx_M_prepare_78 : decode cd_M_prepare 78 = .ok (.aload_n 0, 1) := by decide +kernel
theorem dx_M_prepare_79 : decode cd_M_prepare 79 = .ok (.getfield 61, 3) := by decide +kernel
theorem dx_M_prepare_82 : decode cd_M_prepare 82 = .ok (.if_icmp .ge 62, 3) := by decide +kernel
theorem dx_M_prepare_85 : decode cd_M_prepare 85 = .ok (.iconst 0, 1) := by decide +kernel
theorem dx_M_prepare_86 : decode cd_M_prepare 86 = .ok (.istore_n 3, 1) := by decide +kernel
theorem dx_M_prepare_87 : decode cd_M_prepare 87 = .ok (.iload_n 3, 1) := by decide +kernel
theorem dx_M_prepare_88 : decode cd_M_prepare 88 = .ok (.aload_n 0, 1) := by decide +kernel
theorem dx_M_prepare_89 : decode cd_M_prepare 89 = .ok (.getfield 61, 3) := by decide +kernel
theorem dx_M_prepare_92 : decode cd_M_prepare 92 = .ok (.if_icmp .ge 46, 3) := by decide +kernel
theorem dx_M_prepare_95 : decode cd_M_prepare 95 = .ok (.aload_n 0, 1) := by decide +kernel
theorem dx_M_prepare_96 : decode cd_M_prepare 96 = .ok (.getfield 44, 3) := by decide +kernel
theorem dx_M_prepare_99 : decode cd_M_prepare 99 = .ok (.bipush 40, 2) := by decide +kernel
theorem dx_M_prepare_101 : decode cd_M_prepare 101 = .ok (.iload_n 2, 1) := by decide +kernel
theorem dx_M_prepare_102 : decode cd_M_prepare 102 = .ok (.imul, 1) := by decide +kernel
theorem dx_M_prepare_103 : decode cd_M_prepare 103 = .ok (.iload_n 3, 1) := by decide +kernel
theorem dx_M_prepare_104 : decode cd_M_prepare 104 = .ok (.iadd, 1) := by decide +kernel
theorem dx_M_prepare_105 : decode cd_M_prepare 105 = .ok (.baload, 1) := by decide +kernel
theorem dx_M_prepare_106 : decode cd_M_prepare 106 = .ok (.ifCond .eq 26, 3) := by decide +kernel
theorem dx_M_prepare_109 : decode cd_M_prepare 109 = .ok (.aload_n 0, 1) := by decide +kernel
theorem dx_M_prepare_110 : decode cd_M_prepare 110 = .ok (.iload_n 2, 1) := by decide +kernel
theorem dx_M_prepare_111 : decode cd_M_prepare 111 = .ok (.iload_n 3, 1) := by decide +kernel
theorem dx_M_prepare_112 : decode cd_M_prepare 112 = .ok (.invokevirtual 106, 3) := by decide +kernel
theorem dx_M_prepare_115 : decode cd_M_prepare 115 = .ok (.ifCond .ne 17, 3) := by decide +kernel
theorem dx_M_prepare_118 : decode cd_M_prepare 118 = .ok (.aload_n 0, 1) := by decide +kernel
theorem dx_M_prepare_119 : decode cd_M_prepare 119 = .ok (.getfield 44, 3) := by decide +kernel
theorem dx_M_prepare_122 : decode cd_M_prepare 122 = .ok (.bipush 40, 2) := by decide +kernel
theorem dx_M_prepare_124 : decode cd_M_prepare 124 = .ok (.iload_n 2, 1) := by decide +kernel
theorem dx_M_prepare_125 : decode cd_M_prepare 125 = .ok (.imul, 1) := by decide +kernel
theorem dx_M_prepare_126 : decode cd_M_prepare 126 = .ok (.iload_n 3, 1) := by decide +kernel
theorem dx_M_prepare_127 : decode cd_M_prepare 127 = .ok (.iadd, 1) := by decide +kernel
theorem dx_M_prepare_128 : decode cd_M_prepare 128 = .ok (.iconst 0, 1) := by decide +kernel
theorem dx_M_prepare_129 : decode cd_M_prepare 129 = .ok (.bastore, 1) := by decide +kernel
theorem dx_M_prepare_130 : decode cd_M_prepare 130 = .ok (.iconst 1, 1) := by decide +kernel
theorem dx_M_prepare_131 : decode cd_M_prepare 131 = .ok (.istore_n 1, 1) := by decide +kernel
theorem dx_M_prepare_132 : decode cd_M_prepare 132 = .ok (.iinc 3 1, 3) := by decide +kernel
theorem dx_M_prepare_135 : decode cd_M_prepare 135 = .ok (.goto (-48), 3) := by decide +kernel
theorem dx_M_prepare_138 : decode cd_M_prepare 138 = .ok (.iinc 2 1, 3) := by decide +kernel
theorem dx_M_prepare_141 : decode cd_M_prepare 141 = .ok (.goto (-64), 3) := by decide +kernel
theorem dx_M_prepare_144 : decode cd_M_prepare 144 = .ok (.goto (-75), 3) := by decide +kernel
theorem dx_M_prepare_147 : decode cd_M_prepare 147 = .ok (.return_, 1) := by decide +kernel
theorem dx_M_solve_0 : decode cd_M_solve 0 = .ok (.iconst 0, 1) := by decide +kernel
theorem dx_M_solve_1 : decode cd_M_solve 1 = .ok (.istore_n 1, 1) := by decide +kernel
theorem dx_M_solve_2 : decode cd_M_solve 2 = .ok (.iload_n 1, 1) := by decide +kernel
theorem dx_M_solve_3 : decode cd_M_solve 3 = .ok (.aload_n 0, 1) := by decide +kernel
theorem dx_M_solve_4 : decode cd_M_solve 4 = .ok (.getfield 61, 3) := by decide +kernel
theorem dx_M_solve_7 : decode cd_M_solve 7 = .ok (.if_icmp .ge 23, 3) := by decide +kernel
theorem dx_M_solve_10 : decode cd_M_solve 10 = .ok (.aload_n 0, 1) := by decide +kernel
theorem dx_M_solve_11 : decode cd_M_solve 11 = .ok (.getfield 28, 3) := by decide +kernel
theorem dx_M_solve_14 : decode cd_M_solve 14 = .ok (.iload_n 1, 1) := by decide +kernel
theorem dx_M_solve_15 : decode cd_M_solve 15 = .ok (.iload_n 1, 1) := by decide +kernel
theorem dx_M_solve_16 : decode cd_M_solve 16 = .ok (.iastore, 1) := by decide +kernel
theorem dx_M_solve_17 : decode cd_M_solve 17 = .ok (.aload_n 0, 1) := by decide +kernel
theorem dx_M_solve_18 : decode cd_M_solve 18 = .ok (.getfield 34, 3) := by decide +kernel
theorem dx_M_solve_21 : decode cd_M_solve 21 = .ok (.iload_n 1, 1) := by decide +kernel
theorem dx_M_solve_22 : decode cd_M_solve 22 = .ok (.lconst 0, 1) := by decide +kernel
theorem dx_M_solve_23 : decode cd_M_solve 23 = .ok (.lastore, 1) := by decide +kernel
theorem dx_M_solve_24 : decode cd_M_solve 24 = .ok (.iinc 1 1, 3) := by decide +kernel
theorem dx_M_solve_27 : decode cd_M_solve 27 = .ok (.goto (-25), 3) := by decide +kernel
theorem dx_M_solve_30 : decode cd_M_solve 30 = .ok (.iconst 0, 1) := by decide +kernel
theorem dx_M_solve_31 : decode cd_M_solve 31 = .ok (.istore_n 1, 1) := by decide +kernel
theorem dx_M_solve_32 : decode cd_M_solve 32 = .ok (.iload_n 1, 1) := by decide +kernel
theorem dx_M_solve_33 : decode cd_M_solve 33 = .ok (.aload_n 0, 1) := by decide +kernel
theorem dx_M_solve_34 : decode cd_M_solve 34 = .ok (.getfield 87, 3) := by decide +kernel
theorem dx_M_solve_37 : decode cd_M_solve 37 = .ok (.if_icmp .ge 26, 3) := by decide +kernel
theorem dx_M_solve_40 : decode cd_M_solve 40 = .ok (.aload_n 0, 1) := by decide +kernel
theorem dx_M_solve_41 : decode cd_M_solve 41 = .ok (.aload_n 0, 1) := by decide +kernel
theorem dx_M_solve_42 : decode cd_M_solve 42 = .ok (.getfield 22, 3) := by decide +kernel
theorem dx_M_solve_45 : decode cd_M_solve 45 = .ok (.iload_n 1, 1) := by decide +kernel
theorem dx_M_solve_46 : decode cd_M_solve 46 = .ok (.iaload, 1) := by decide +kernel
theorem dx_M_solve_47 : decode cd_M_solve 47 = .ok (.aload_n 0, 1) := by decide +kernel
theorem dx_M_solve_48 : decode cd_M_solve 48 = .ok (.getfield 25, 3) := by decide +kernel
theorem dx_M_solve_51 : decode cd_M_solve 51 = .ok (.iload_n 1, 1) := by decide +kernel
theorem dx_M_solve_52 : decode cd_M_solve 52 = .ok (.iaload, 1) := by decide +kernel
theorem dx_M_solve_53 : decode cd_M_solve 53 = .ok (.invokevirtual 76, 3) := by decide +kernel
theorem dx_M_solve_56 : decode cd_M_solve 56 = .ok (.pop, 1) := by decide +kernel
theorem dx_M_solve_57 : decode cd_M_solve 57 = .ok (.iinc 1 1, 3) := by decide +kernel
theorem dx_M_solve_60 : decode cd_M_solve 60 = .ok (.goto (-28), 3) := by decide +kernel
theorem dx_M_solve_63 : decode cd_M_solve 63 = .ok (.aload_n 0, 1) := by decide +kernel
theorem dx_M_solve_64 : decode cd_M_solve 64 = .ok (.invokevirtual 90, 3) := by decide +kernel
theorem dx_M_solve_67 : decode cd_M_solve 67 = .ok (.istore_n 1, 1) := by decide +kernel
theorem dx_M_solve_68 : decode cd_M_solve 68 = .ok (.iload_n 1, 1) := by decide +kernel
theorem dx_M_solve_69 : decode cd_M_solve 69 = .ok (.ifCond .le 11, 3) := by decide +kernel
theorem dx_M_solve_72 : decode cd_M_solve 72 = .ok (.aload_n 0, 1) := by decide +kernel
theorem dx_M_solve_73 : decode cd_M_solve 73 = .ok (.invokevirtual 90, 3) := by decide +kernel
theorem dx_M_solve_76 : decode cd_M_solve 76 = .ok (.istore_n 1, 1) := by decide +kernel
theorem dx_M_solve_77 : decode cd_M_solve 77 = .ok (.goto (-9), 3) := by decide +kernel
theorem dx_M_solve_80 : decode cd_M_solve 80 = .ok (.iload_n 1, 1) := by decide +kernel
theorem dx_M_solve_81 : decode cd_M_solve 81 = .ok (.ifCond .ge 5, 3) := by decide +kernel
theorem dx_M_solve_84 : decode cd_M_solve 84 = .ok (.iconst 1, 1) := by decide +kernel
theorem dx_M_solve_85 : decode cd_M_solve 85 = .ok (.ireturn, 1) := by decide +kernel
theorem dx_M_solve_86 : decode cd_M_solve 86 = .ok (.aload_n 0, 1) := by decide +kernel
theorem dx_M_solve_87 : decode cd_M_solve 87 = .ok (.invokevirtual 94, 3) := by decide +kernel
theorem dx_M_solve_90 : decode cd_M_solve 90 = .ok (.iconst 1, 1) := by decide +kernel
theorem dx_M_solve_91 : decode cd_M_solve 91 = .ok (.istore_n 2, 1) := by decide +kernel
theorem dx_M_solve_92 : decode cd_M_solve 92 = .ok (.iload_n 2, 1) := by decide +kernel
theorem dx_M_solve_93 : decode cd_M_solve 93 = .ok (.ifCond .eq 46, 3) := by decide +kernel
theorem dx_M_solve_96 : decode cd_M_solve 96 = .ok (.iconst 0, 1) := by decide +kernel
theorem dx_M_solve_97 : decode cd_M_solve 97 = .ok (.istore_n 2, 1) := by decide +kernel
theorem dx_M_solve_98 : decode cd_M_solve 98 = .ok (.iconst 0, 1) := by decide +kernel
theorem dx_M_solve_99 : decode cd_M_solve 99 = .ok (.istore_n 3, 1) := by decide +kernel
theorem dx_M_solve_100 : decode cd_M_solve 100 = .ok (.iload_n 3, 1) := by decide +kernel
theorem dx_M_solve_101 : decode cd_M_solve 101 = .ok (.aload_n 0, 1) := by decide +kernel
theorem dx_M_solve_102 : decode cd_M_solve 102 = .ok (.getfield 61, 3) := by decide +kernel
theorem dx_M_solve_105 : decode cd_M_solve 105 = .ok (.if_icmp .ge 31, 3) := by decide +kernel
theorem dx_M_solve_108 : decode cd_M_solve 108 = .ok (.aload_n 0, 1) := by decide +kernel
theorem dx_M_solve_109 : decode cd_M_solve 109 = .ok (.iload_n 3, 1) := by decide +kernel
theorem dx_M_solve_110 : decode cd_M_solve 110 = .ok (.invokevirtual 97, 3) := by decide +kernel
theorem dx_M_solve_113 : decode cd_M_solve 113 = .ok (.istore 4, 2) := by decide +kernel
theorem dx_M_solve_115 : decode cd_M_solve 115 = .ok (.iload_n 2, 1) := by decide +kernel
theorem dx_M_solve_116 : decode cd_M_solve 116 = .ok (.ifCond .ne 8, 3) := by decide +kernel
theorem dx_M_solve_119 : decode cd_M_solve 119 = .ok (.iload 4, 2) := by decide +kernel
theorem dx_M_solve_121 : decode cd_M_solve 121 = .ok (.ifCond .eq 7, 3) := by decide +kernel
theorem dx_M_solve_124 : decode cd_M_solve 124 = .ok (.iconst 1, 1) := by decide +kernel
theorem dx_M_solve_125 : decode cd_M_solve 125 = .ok (.goto 4, 3) := by decide +kernel
theorem dx_M_solve_128 : decode cd_M_solve 128 = .ok (.iconst 0, 1) := by decide +kernel
theorem dx_M_solve_129 : decode cd_M_solve 129 = .ok (.istore_n 2, 1) := by decide +kernel
theorem dx_M_solve_130 : decode cd_M_solve 130 = .ok (.iinc 3 1, 3) := by decide +kernel
theorem dx_M_solve_133 : decode cd_M_solve 133 = .ok (.goto (-33), 3) := by decide +kernel
theorem dx_M_solve_136 : decode cd_M_solve 136 = .ok (.goto (-44), 3) := by decide +kernel
theorem dx_M_solve_139 : decode cd_M_solve 139 = .ok (.iconst 1, 1) := by decide +kernel
theorem dx_M_solve_140 : decode cd_M_solve 140 = .ok (.istore_n 3, 1) := by decide +kernel
theorem dx_M_solve_141 : decode cd_M_solve 141 = .ok (.iconst 0, 1) := by decide +kernel
theorem dx_M_solve_142 : decode cd_M_solve 142 = .ok (.istore 4, 2) := by decide +kernel
theorem dx_M_solve_144 : decode cd_M_solve 144 = .ok (.iload 4, 2) := by decide +kernel
theorem dx_M_solve_146 : decode cd_M_solve 146 = .ok (.aload_n 0, 1) := by decide +kernel
theorem dx_M_solve_147 : decode cd_M_solve 147 = .ok (.getfield 61, 3) := by decide +kernel
theorem dx_M_solve_150 : decode cd_M_solve 150 = .ok (.if_icmp .ge 28, 3) := by decide +kernel
theorem dx_M_solve_153 : decode cd_M_solve 153 = .ok (.iload_n 3, 1) := by decide +kernel
theorem dx_M_solve_154 : decode cd_M_solve 154 = .ok (.ifCond .eq 16, 3) := by decide +kernel
theorem dx_M_solve_157 : decode cd_M_solve 157 = .ok (.aload_n 0, 1) := by decide +kernel
theorem dx_M_solve_158 : decode cd_M_solve 158 = .ok (.iload 4, 2) := by decide +kernel
theorem dx_M_solve_160 : decode cd_M_solve 160 = .ok (.invokevirtual 80, 3) := by decide +kernel
theorem dx_M_solve_163 : decode cd_M_solve 163 = .ok (.ifCond .eq 7, 3) := by decide +kernel
theorem dx_M_solve_166 : decode cd_M_solve 166 = .ok (.iconst 1, 1) := by decide +kernel
theorem dx_M_solve_167 : decode cd_M_solve 167 = .ok (.goto 4, 3) := by decide +kernel
theorem dx_M_solve_170 : decode cd_M_solve 170 = .ok (.iconst 0, 1) := by decide +kernel
theorem dx_M_solve_171 : decode cd_M_solve 171 = .ok (.istore_n 3, 1) := by decide +kernel
theorem dx_M_solve_172 : decode cd_M_solve 172 = .ok (.iinc 4 1, 3) := by decide +kernel
theorem dx_M_solve_175 : decode cd_M_solve 175 = .ok (.goto (-31), 3) := by decide +kernel
theorem dx_M_solve_178 : decode cd_M_solve 178 = .ok (.iload_n 3, 1) := by decide +kernel
theorem dx_M_solve_179 : decode cd_M_solve 179 = .ok (.ifCond .eq 7, 3) := by decide +kernel
theorem dx_M_solve_182 : decode cd_M_solve 182 = .ok (.iconst 0, 1) := by decide +kernel
theorem dx_M_solve_183 : decode cd_M_solve 183 = .ok (.goto 4, 3) := by decide +kernel
theorem dx_M_solve_186 : decode cd_M_solve 186 = .ok (.iconst 2, 1) := by decide +kernel
theorem dx_M_solve_187 : decode cd_M_solve 187 = .ok (.ireturn, 1) := by decide +kernel
theorem dx_M_merge_0 : decode cd_M_merge 0 = .ok (.aload_n 0, 1) := by decide +kernel
theorem dx_M_merge_1 : decode cd_M_merge 1 = .ok (.getfield 28, 3) := by decide +kernel
theorem dx_M_merge_4 : decode cd_M_merge 4 = .ok (.iload_n 1, 1) := by decide +kernel
theorem dx_M_merge_5 : decode cd_M_merge 5 = .ok (.iaload, 1) := by decide +kernel
theorem dx_M_merge_6 : decode cd_M_merge 6 = .ok (.aload_n 0, 1) := by decide +kernel
theorem dx_M_merge_7 : decode cd_M_merge 7 = .ok (.getfield 28, 3) := by decide +kernel
theorem dx_M_merge_10 : decode cd_M_merge 10 = .ok (.iload_n 2, 1) := by decide +kernel
theorem dx_M_merge_11 : decode cd_M_merge 11 = .ok (.iaload, 1) := by decide +kernel
theorem dx_M_merge_12 : decode cd_M_merge 12 = .ok (.if_icmp .ge 12, 3) := by decide +kernel
theorem dx_M_merge_15 : decode cd_M_merge 15 = .ok (.aload_n 0, 1) := by decide +kernel
theorem dx_M_merge_16 : decode cd_M_merge 16 = .ok (.getfield 28, 3) := by decide +kernel
theorem dx_M_merge_19 : decode cd_M_merge 19 = .ok (.iload_n 1, 1) := by decide +kernel
theorem dx_M_merge_20 : decode cd_M_merge 20 = .ok (.iaload, 1) := by decide +kernel
theorem dx_M_merge_21 : decode cd_M_merge 21 = .ok (.goto 9, 3) := by decide +kernel
theorem dx_M_merge_24 : decode cd_M_merge 24 = .ok (.aload_n 0, 1) := by decide +kernel
theorem dx_M_merge_25 : decode cd_M_merge 25 = .ok (.getfield 28, 3) := by decide +kernel
theorem dx_M_merge_28 : decode cd_M_merge 28 = .ok (.iload_n 2, 1) := by decide +kernel
theorem dx_M_merge_29 : decode cd_M_merge 29 = .ok (.iaload, 1) := by decide +kernel
theorem dx_M_merge_30 : decode cd_M_merge 30 = .ok (.istore_n 3, 1) := by decide +kernel
theorem dx_M_merge_31 : decode cd_M_merge 31 = .ok (.aload_n 0, 1) := by decide +kernel
theorem dx_M_merge_32 : decode cd_M_merge 32 = .ok (.getfield 28, 3) := by decide +kernel
theorem dx_M_merge_35 : decode cd_M_merge 35 = .ok (.iload_n 1, 1) := by decide +kernel
theorem dx_M_merge_36 : decode cd_M_merge 36 = .ok (.iaload, 1) := by decide +kernel
theorem dx_M_merge_37 : decode cd_M_merge 37 = .ok (.aload_n 0, 1) := by decide +kernel
theorem dx_M_merge_38 : decode cd_M_merge 38 = .ok (.getfield 28, 3) := by decide +kernel
theorem dx_M_merge_41 : decode cd_M_merge 41 = .ok (.iload_n 2, 1) := by decide +kernel
theorem dx_M_merge_42 : decode cd_M_merge 42 = .ok (.iaload, 1) := by decide +kernel
theorem dx_M_merge_43 : decode cd_M_merge 43 = .ok (.if_icmp .ge 12, 3) := by decide +kernel
theorem dx_M_merge_46 : decode cd_M_merge 46 = .ok (.aload_n 0, 1) := by decide +kernel
theorem dx_M_merge_47 : decode cd_M_merge 47 = .ok (.getfield 28, 3) := by decide +kernel
theorem dx_M_merge_50 : decode cd_M_merge 50 = .ok (.iload_n 2, 1) := by decide +kernel
theorem dx_M_merge_51 : decode cd_M_merge 51 = .ok (.iaload, 1) := by decide +kernel
theorem dx_M_merge_52 : decode cd_M_merge 52 = .ok (.goto 9, 3) := by decide +kernel
theorem dx_M_merge_55 : decode cd_M_merge 55 = .ok (.aload_n 0, 1) := by decide +kernel
theorem dx_M_merge_56 : decode cd_M_merge 56 = .ok (.getfield 28, 3) := by decide +kernel
theorem dx_M_merge_59 : decode cd_M_merge 59 = .ok (.iload_n 1, 1) := by decide +kernel
theorem dx_M_merge_60 : decode cd_M_merge 60 = .ok (.iaload, 1) := by decide +kernel
theorem dx_M_merge_61 : decode cd_M_merge 61 = .ok (.istore 4, 2) := by decide +kernel
theorem dx_M_merge_63 : decode cd_M_merge 63 = .ok (.iconst 0, 1) := by decide +kernel
theorem dx_M_merge_64 : decode cd_M_merge 64 = .ok (.istore 5, 2) := by decide +kernel
theorem dx_M_merge_66 : decode cd_M_merge 66 = .ok (.iload 5, 2) := by decide +kernel
theorem dx_M_merge_68 : decode cd_M_merge 68 = .ok (.aload_n 0, 1) := by decide +kernel
theorem dx_M_merge_69 : decode cd_M_merge 69 = .ok (.getfield 61, 3) := by decide +kernel
theorem dx_M_merge_72 : decode cd_M_merge 72 = .ok (.if_icmp .ge 39, 3) := by decide +kernel
theorem dx_M_merge_75 : decode cd_M_merge 75 = .ok (.aload_n 0, 1) := by decide +kernel
theorem dx_M_merge_76 : decode cd_M_merge 76 = .ok (.getfield 28, 3) := by decide +kernel
theorem dx_M_merge_79 : decode cd_M_merge 79 = .ok (.iload 5, 2) := by decide +kernel
theorem dx_M_merge_81 : decode cd_M_merge 81 = .ok (.aload_n 0, 1) := by decide +kernel
theorem dx_M_merge_82 : decode cd_M_merge 82 = .ok (.getfield 28, 3) := by decide +kernel
theorem dx_M_merge_85 : decode cd_M_merge 85 = .ok (.iload 5, 2) := by decide +kernel
theorem dx_M_merge_87 : decode cd_M_merge 87 = .ok (.iaload, 1) := by decide +kernel
theorem dx_M_merge_88 : decode cd_M_merge 88 = .ok (.iload 4, 2) := by decide +kernel
theorem dx_M_merge_90 : decode cd_M_merge 90 = .ok (.if_icmp .ne 7, 3) := by decide +kernel
theorem dx_M_merge_93 : decode cd_M_merge 93 = .ok (.iload_n 3, 1) := by decide +kernel
theorem dx_M_merge_94 : decode cd_M_merge 94 = .ok (.goto 10, 3) := by decide +kernel
theorem dx_M_merge_97 : decode cd_M_merge 97 = .ok (.aload_n 0, 1) := by decide +kernel
theorem dx_M_merge_98 : decode cd_M_merge 98 = .ok (.getfield 28, 3) := by decide +kernel
theorem dx_M_merge_101 : decode cd_M_merge 101 = .ok (.iload 5, 2) := by decide +kernel
theorem dx_M_merge_103 : decode cd_M_merge 103 = .ok (.iaload, 1) := by decide +kernel
theorem dx_M_merge_104 : decode cd_M_merge 104 = .ok (.iastore, 1) := by decide +kernel
theorem dx_M_merge_105 : decode cd_M_merge 105 = .ok (.iinc 5 1, 3) := by decide +kernel
theorem dx_M_merge_108 : decode cd_M_merge 108 = .ok (.goto (-42), 3) := by decide +kernel
theorem dx_M_merge_111 : decode cd_M_merge 111 = .ok (.iload_n 3, 1) := by decide +kernel
theorem dx_M_merge_112 : decode cd_M_merge 112 = .ok (.iload 4, 2) := by decide +kernel
theorem dx_M_merge_114 : decode cd_M_merge 114 = .ok (.if_icmp .eq 7, 3) := by decide +kernel
theorem dx_M_merge_117 : decode cd_M_merge 117 = .ok (.iconst 1, 1) := by decide +kernel
theorem dx_M_merge_118 : decode cd_M_merge 118 = .ok (.goto 4, 3) := by decide +kernel
theorem dx_M_merge_121 : decode cd_M_merge 121 = .ok (.iconst 0, 1) := by decide +kernel
theorem dx_M_merge_122 : decode cd_M_merge 122 = .ok (.ireturn, 1) := by decide +kernel
theorem dx_M_compare_0 : decode cd_M_compare 0 = .ok (.iconst 0, 1) := by decide +kernel
theorem dx_M_compare_1 : decode cd_M_compare 1 = .ok (.istore_n 1, 1) := by decide +kernel
theorem dx_M_compare_2 : decode cd_M_compare 2 = .ok (.iconst 0, 1) := by decide +kernel
theorem dx_M_compare_3 : decode cd_M_compare 3 = .ok (.istore_n 2, 1) := by decide +kernel
theorem dx_M_compare_4 : decode cd_M_compare 4 = .ok (.iload_n 2, 1) := by decide +kernel
theorem dx_M_compare_5 : decode cd_M_compare 5 = .ok (.aload_n 0, 1) := by decide +kernel
theorem dx_M_compare_6 : decode cd_M_compare 6 = .ok (.getfield 61, 3) := by decide +kernel
theorem dx_M_compare_9 : decode cd_M_compare 9 = .ok (.if_icmp .ge 179, 3) := by decide +kernel
theorem dx_M_compare_12 : decode cd_M_compare 12 = .ok (.iload_n 2, 1) := by decide +kernel
theorem dx_M_compare_13 : decode cd_M_compare 13 = .ok (.iconst 1, 1) := by decide +kernel
theorem dx_M_compare_14 : decode cd_M_compare 14 = .ok (.iadd, 1) := by decide +kernel
theorem dx_M_compare_15 : decode cd_M_compare 15 = .ok (.istore_n 3, 1) := by decide +kernel
theorem dx_M_compare_16 : decode cd_M_compare 16 = .ok (.iload_n 3, 1) := by decide +kernel
theorem dx_M_compare_17 : decode cd_M_compare 17 = .ok (.aload_n 0, 1) := by decide +kernel
theorem dx_M_compare_18 : decode cd_M_compare 18 = .ok (.getfield 61, 3) := by decide +kernel
theorem dx_M_compare_21 : decode cd_M_compare 21 = .ok (.if_icmp .ge 161, 3) := by decide +kernel
theorem dx_M_compare_24 : decode cd_M_compare 24 = .ok (.aload_n 0, 1) := by decide +kernel
theorem dx_M_compare_25 : decode cd_M_compare 25 = .ok (.getfield 28, 3) := by decide +kernel
theorem dx_M_compare_28 : decode cd_M_compare 28 = .ok (.iload_n 2, 1) := by decide +kernel
theorem dx_M_compare_29 : decode cd_M_compare 29 = .ok (.iaload, 1) := by decide +kernel
theorem dx_M_compare_30 : decode cd_M_compare 30 = .ok (.aload_n 0, 1) := by decide +kernel
theorem dx_M_compare_31 : decode cd_M_compare 31 = .ok (.getfield 28, 3) := by decide +kernel
theorem dx_M_compare_34 : decode cd_M_compare 34 = .ok (.iload_n 3, 1) := by decide +kernel
theorem dx_M_compare_35 : decode cd_M_compare 35 = .ok (.iaload, 1) := by decide +kernel
theorem dx_M_compare_36 : decode cd_M_compare 36 = .ok (.if_icmp .ne 140, 3) := by decide +kernel
theorem dx_M_compare_39 : decode cd_M_compare 39 = .ok (.aload_n 0, 1) := by decide +kernel
theorem dx_M_compare_40 : decode cd_M_compare 40 = .ok (.getfield 7, 3) := by decide +kernel
theorem dx_M_compare_43 : decode cd_M_compare 43 = .ok (.iload_n 2, 1) := by decide +kernel
theorem dx_M_compare_44 : decode cd_M_compare 44 = .ok (.iaload, 1) := by decide +kernel
theorem dx_M_compare_45 : decode cd_M_compare 45 = .ok (.ifCond .lt 131, 3) := by decide +kernel
theorem dx_M_compare_48 : decode cd_M_compare 48 = .ok (.aload_n 0, 1) := by decide +kernel
theorem dx_M_compare_49 : decode cd_M_compare 49 = .ok (.getfield 7, 3) := by decide +kernel
theorem dx_M_compare_52 : decode cd_M_compare 52 = .ok (.iload_n 3, 1) := by decide +kernel
theorem dx_M_compare_53 : decode cd_M_compare 53 = .ok (.iaload, 1) := by decide +kernel
theorem dx_M_compare_54 : decode cd_M_compare 54 = .ok (.ifCond .lt 122, 3) := by decide +kernel
theorem dx_M_compare_57 : decode cd_M_compare 57 = .ok (.aload_n 0, 1) := by decide +kernel
theorem dx_M_compare_58 : decode cd_M_compare 58 = .ok (.getfield 7, 3) := by decide +kernel
theorem dx_M_compare_61 : decode cd_M_compare 61 = .ok (.iload_n 2, 1) := by decide +kernel
theorem dx_M_compare_62 : decode cd_M_compare 62 = .ok (.iaload, 1) := by decide +kernel
theorem dx_M_compare_63 : decode cd_M_compare 63 = .ok (.aload_n 0, 1) := by decide +kernel
theorem dx_M_compare_64 : decode cd_M_compare 64 = .ok (.getfield 7, 3) := by decide +kernel
theorem dx_M_compare_67 : decode cd_M_compare 67 = .ok (.iload_n 3, 1) := by decide +kernel
theorem dx_M_compare_68 : decode cd_M_compare 68 = .ok (.iaload, 1) := by decide +kernel
theorem dx_M_compare_69 : decode cd_M_compare 69 = .ok (.if_icmp .ne 18, 3) := by decide +kernel
theorem dx_M_compare_72 : decode cd_M_compare 72 = .ok (.aload_n 0, 1) := by decide +kernel
theorem dx_M_compare_73 : decode cd_M_compare 73 = .ok (.getfield 13, 3) := by decide +kernel
theorem dx_M_compare_76 : decode cd_M_compare 76 = .ok (.iload_n 2, 1) := by decide +kernel
theorem dx_M_compare_77 : decode cd_M_compare 77 = .ok (.iaload, 1) := by decide +kernel
theorem dx_M_compare_78 : decode cd_M_compare 78 = .ok (.aload_n 0, 1) := by decide +kernel
theorem dx_M_compare_79 : decode cd_M_compare 79 = .ok (.getfield 13, 3) := by decide +kernel
theorem dx_M_compare_82 : decode cd_M_compare 82 = .ok (.iload_n 3, 1) := by decide +kernel
theorem dx_M_compare_83 : decode cd_M_compare 83 = .ok (.iaload, 1) := by decide +kernel
theorem dx_M_compare_84 : decode cd_M_compare 84 = .ok (.if_icmp .eq 5, 3) := by decide +kernel
theorem dx_M_compare_87 : decode cd_M_compare 87 = .ok (.iconst (-1), 1) := by decide +kernel
theorem dx_M_compare_88 : decode cd_M_compare 88 = .ok (.ireturn, 1) := by decide +kernel
theorem dx_M_compare_89 : decode cd_M_compare 89 = .ok (.aload_n 0, 1) := by decide +kernel
theorem dx_M_compare_90 : decode cd_M_compare 90 = .ok (.getfield 13, 3) := by decide +kernel
theorem dx_M_compare_93 : decode cd_M_compare 93 = .ok (.iload_n 2, 1) := by decide +kernel
theorem dx_M_compare_94 : decode cd_M_compare 94 = .ok (.iaload, 1) := by decide +kernel
theorem dx_M_compare_95 : decode cd_M_compare 95 = .ok (.ifCond .le 26, 3) := by decide +kernel
theorem dx_M_compare_98 : decode cd_M_compare 98 = .ok (.aload_n 0, 1) := by decide +kernel
theorem dx_M_compare_99 : decode cd_M_compare 99 = .ok (.aload_n 0, 1) := by decide +kernel
theorem dx_M_compare_100 : decode cd_M_compare 100 = .ok (.getfield 16, 3) := by decide +kernel
theorem dx_M_compare_103 : decode cd_M_compare 103 = .ok (.iload_n 2, 1) := by decide +kernel
theorem dx_M_compare_104 : decode cd_M_compare 104 = .ok (.iaload, 1) := by decide +kernel
theorem dx_M_compare_105 : decode cd_M_compare 105 = .ok (.aload_n 0, 1) := by decide +kernel
theorem dx_M_compare_106 : decode cd_M_compare 106 = .ok (.getfield 16, 3) := by decide +kernel
theorem dx_M_compare_109 : decode cd_M_compare 109 = .ok (.iload_n 3, 1) := by decide +kernel
theorem dx_M_compare_110 : decode cd_M_compare 110 = .ok (.iaload, 1) := by decide +kernel
theorem dx_M_compare_111 : decode cd_M_compare 111 = .ok (.invokevirtual 76, 3) := by decide +kernel
theorem dx_M_compare_114 : decode cd_M_compare 114 = .ok (.ifCond .eq 7, 3) := by decide +kernel
theorem dx_M_compare_117 : decode cd_M_compare 117 = .ok (.iconst 1, 1) := by decide +kernel
theorem dx_M_compare_118 : decode cd_M_compare 118 = .ok (.goto 4, 3) := by decide +kernel
theorem dx_M_compare_121 : decode cd_M_compare 121 = .ok (.iconst 0, 1) := by decide +kernel
theorem dx_M_compare_122 : decode cd_M_compare 122 = .ok (.istore 4, 2) := by decide +kernel
theorem dx_M_compare_124 : decode cd_M_compare 124 = .ok (.aload_n 0, 1) := by decide +kernel
theorem dx_M_compare_125 : decode cd_M_compare 125 = .ok (.getfield 13, 3) := by decide +kernel
theorem dx_M_compare_128 : decode cd_M_compare 128 = .ok (.iload_n 2, 1) := by decide +kernel
theorem dx_M_compare_129 : decode cd_M_compare 129 = .ok (.iaload, 1) := by decide +kernel
theorem dx_M_compare_130 : decode cd_M_compare 130 = .ok (.iconst 1, 1) := by decide +kernel
theorem dx_M_compare_131 : decode cd_M_compare 131 = .ok (.if_icmp .le 26, 3) := by decide +kernel
theorem dx_M_compare_134 : decode cd_M_compare 134 = .ok (.aload_n 0, 1) := by decide +kernel
theorem dx_M_compare_135 : decode cd_M_compare 135 = .ok (.aload_n 0, 1) := by decide +kernel
theorem dx_M_compare_136 : decode cd_M_compare 136 = .ok (.getfield 19, 3) := by decide +kernel
theorem dx_M_compare_139 : decode cd_M_compare 139 = .ok (.iload_n 2, 1) := by decide +kernel
theorem dx_M_compare_140 : decode cd_M_compare 140 = .ok (.iaload, 1) := by decide +kernel
theorem dx_M_compare_141 : decode cd_M_compare 141 = .ok (.aload_n 0, 1) := by decide +kernel
theorem dx_M_compare_142 : decode cd_M_compare 142 = .ok (.getfield 19, 3) := by decide +kernel
theorem dx_M_compare_145 : decode cd_M_compare 145 = .ok (.iload_n 3, 1) := by decide +kernel
theorem dx_M_compare_146 : decode cd_M_compare 146 = .ok (.iaload, 1) := by decide +kernel
theorem dx_M_compare_147 : decode cd_M_compare 147 = .ok (.invokevirtual 76, 3) := by decide +kernel
theorem dx_M_compare_150 : decode cd_M_compare 150 = .ok (.ifCond .eq 7, 3) := by decide +kernel
theorem dx_M_compare_153 : decode cd_M_compare 153 = .ok (.iconst 1, 1) := by decide +kernel
theorem dx_M_compare_154 : decode cd_M_compare 154 = .ok (.goto 4, 3) := by decide +kernel
theorem dx_M_compare_157 : decode cd_M_compare 157 = .ok (.iconst 0, 1) := by decide +kernel
theorem dx_M_compare_158 : decode cd_M_compare 158 = .ok (.istore 5, 2) := by decide +kernel
theorem dx_M_compare_160 : decode cd_M_compare 160 = .ok (.iload 4, 2) := by decide +kernel
theorem dx_M_compare_162 : decode cd_M_compare 162 = .ok (.ifCond .ne 8, 3) := by decide +kernel
theorem dx_M_compare_165 : decode cd_M_compare 165 = .ok (.iload 5, 2) := by decide +kernel
theorem dx_M_compare_167 : decode cd_M_compare 167 = .ok (.ifCond .eq 7, 3) := by decide +kernel
theorem dx_M_compare_170 : decode cd_M_compare 170 = .ok (.iconst 1, 1) := by decide +kernel
theorem dx_M_compare_171 : decode cd_M_compare 171 = .ok (.goto 4, 3) := by decide +kernel
theorem dx_M_compare_174 : decode cd_M_compare 174 = .ok (.iload_n 1, 1) := by decide +kernel
theorem dx_M_compare_175 : decode cd_M_compare 175 = .ok (.istore_n 1, 1) := by decide +kernel
theorem dx_M_compare_176 : decode cd_M_compare 176 = .ok (.iinc 3 1, 3) := by decide +kernel
theorem dx_M_compare_179 : decode cd_M_compare 179 = .ok (.goto (-163), 3) := by decide +kernel
theorem dx_M_compare_182 : decode cd_M_compare 182 = .ok (.iinc 2 1, 3) := by decide +kernel
theorem dx_M_compare_185 : decode cd_M_compare 185 = .ok (.goto (-181), 3) := by decide +kernel
theorem dx_M_compare_188 : decode cd_M_compare 188 = .ok (.iload_n 1, 1) := by decide +kernel
theorem dx_M_compare_189 : decode cd_M_compare 189 = .ok (.ireturn, 1) := by decide +kernel
theorem dx_M_findShapes_0 : decode cd_M_findShapes 0 = .ok (.iconst 0, 1) := by decide +kernel
theorem dx_M_findShapes_1 : decode cd_M_findShapes 1 = .ok (.istore_n 1, 1) := by decide +kernel
theorem dx_M_findShapes_2 : decode cd_M_findShapes 2 = .ok (.iload_n 1, 1) := by decide +kernel
theorem dx_M_findShapes_3 : decode cd_M_findShapes 3 = .ok (.aload_n 0, 1) := by decide +kernel
theorem dx_M_findShapes_4 : decode cd_M_findShapes 4 = .ok (.getfield 61, 3) := by decide +kernel
theorem dx_M_findShapes_7 : decode cd_M_findShapes 7 = .ok (.if_icmp .ge 72, 3) := by decide +kernel
theorem dx_M_findShapes_10 : decode cd_M_findShapes 10 = .ok (.aload_n 0, 1) := by decide +kernel
theorem dx_M_findShapes_11 : decode cd_M_findShapes 11 = .ok (.getfield 31, 3) := by decide +kernel
theorem dx_M_findShapes_14 : decode cd_M_findShapes 14 = .ok (.iload_n 1, 1) := by decide +kernel
theorem dx_M_findShapes_15 : decode cd_M_findShapes 15 = .ok (.iconst (-1), 1) := by decide +kernel
theorem dx_M_findShapes_16 : decode cd_M_findShapes 16 = .ok (.iastore, 1) := by decide +kernel
theorem dx_M_findShapes_17 : decode cd_M_findShapes 17 = .ok (.iconst 0, 1) := by decide +kernel
theorem dx_M_findShapes_18 : decode cd_M_findShapes 18 = .ok (.istore_n 2, 1) := by decide +kernel
theorem dx_M_findShapes_19 : decode cd_M_findShapes 19 = .ok (.iload_n 2, 1) := by decide +kernel
theorem dx_M_findShapes_20 : decode cd_M_findShapes 20 = .ok (.aload_n 0, 1) := by decide +kernel
theorem dx_M_findShapes_21 : decode cd_M_findShapes 21 = .ok (.getfield 61, 3) := by decide +kernel
theorem dx_M_findShapes_24 : decode cd_M_findShapes 24 = .ok (.if_icmp .ge 49, 3) := by decide +kernel
theorem dx_M_findShapes_27 : decode cd_M_findShapes 27 = .ok (.aload_n 0, 1) := by decide +kernel
theorem dx_M_findShapes_28 : decode cd_M_findShapes 28 = .ok (.getfield 31, 3) := by decide +kernel
theorem dx_M_findShapes_31 : decode cd_M_findShapes 31 = .ok (.iload_n 1, 1) := by decide +kernel
theorem dx_M_findShapes_32 : decode cd_M_findShapes 32 = .ok (.aload_n 0, 1) := by decide +kernel
theorem dx_M_findShapes_33 : decode cd_M_findShapes 33 = .ok (.getfield 28, 3) := by decide +kernel
theorem dx_M_findShapes_36 : decode cd_M_findShapes 36 = .ok (.iload_n 2, 1) := by decide +kernel
theorem dx_M_findShapes_37 : decode cd_M_findShapes 37 = .ok (.iaload, 1) := by decide +kernel
theorem dx_M_findShapes_38 : decode cd_M_findShapes 38 = .ok (.aload_n 0, 1) := by decide +kernel
theorem dx_M_findShapes_39 : decode cd_M_findShapes 39 = .ok (.getfield 28, 3) := by decide +kernel
theorem dx_M_findShapes_42 : decode cd_M_findShapes 42 = .ok (.iload_n 1, 1) := by decide +kernel
theorem dx_M_findShapes_43 : decode cd_M_findShapes 43 = .ok (.iaload, 1) := by decide +kernel
theorem dx_M_findShapes_44 : decode cd_M_findShapes 44 = .ok (.if_icmp .ne 16, 3) := by decide +kernel
theorem dx_M_findShapes_47 : decode cd_M_findShapes 47 = .ok (.aload_n 0, 1) := by decide +kernel
theorem dx_M_findShapes_48 : decode cd_M_findShapes 48 = .ok (.getfield 7, 3) := by decide +kernel
theorem dx_M_findShapes_51 : decode cd_M_findShapes 51 = .ok (.iload_n 2, 1) := by decide +kernel
theorem dx_M_findShapes_52 : decode cd_M_findShapes 52 = .ok (.iaload, 1) := by decide +kernel
theorem dx_M_findShapes_53 : decode cd_M_findShapes 53 = .ok (.ifCond .lt 7, 3) := by decide +kernel
theorem dx_M_findShapes_56 : decode cd_M_findShapes 56 = .ok (.iload_n 2, 1) := by decide +kernel
theorem dx_M_findShapes_57 : decode cd_M_findShapes 57 = .ok (.goto 9, 3) := by decide +kernel
theorem dx_M_findShapes_60 : decode cd_M_findShapes 60 = .ok (.aload_n 0, 1) := by decide +kernel
theorem dx_M_findShapes_61 : decode cd_M_findShapes 61 = .ok (.getfield 31, 3) := by decide +kernel
theorem dx_M_findShapes_64 : decode cd_M_findShapes 64 = .ok (.iload_n 1, 1) := by decide +kernel
theorem dx_M_findShapes_65 : decode cd_M_findShapes 65 = .ok (.iaload, 1) := by decide +kernel
theorem dx_M_findShapes_66 : decode cd_M_findShapes 66 = .ok (.iastore, 1) := by decide +kernel
theorem dx_M_findShapes_67 : decode cd_M_findShapes 67 = .ok (.iinc 2 1, 3) := by decide +kernel
theorem dx_M_findShapes_70 : decode cd_M_findShapes 70 = .ok (.goto (-51), 3) := by decide +kernel
theorem dx_M_findShapes_73 : decode cd_M_findShapes 73 = .ok (.iinc 1 1, 3) := by decide +kernel
theorem dx_M_findShapes_76 : decode cd_M_findShapes 76 = .ok (.goto (-74), 3) := by decide +kernel
theorem dx_M_findShapes_79 : decode cd_M_findShapes 79 = .ok (.return_, 1) := by decide +kernel
theorem dx_M_learn_0 : decode cd_M_learn 0 = .ok (.aload_n 0, 1) := by decide +kernel
theorem dx_M_learn_1 : decode cd_M_learn 1 = .ok (.getfield 31, 3) := by decide +kernel
theorem dx_M_learn_4 : decode cd_M_learn 4 = .ok (.iload_n 1, 1) := by decide +kernel
theorem dx_M_learn_5 : decode cd_M_learn 5 = .ok (.iaload, 1) := by decide +kernel
theorem dx_M_learn_6 : decode cd_M_learn 6 = .ok (.istore_n 2, 1) := by decide +kernel
theorem dx_M_learn_7 : decode cd_M_learn 7 = .ok (.aload_n 0, 1) := by decide +kernel
theorem dx_M_learn_8 : decode cd_M_learn 8 = .ok (.iload_n 1, 1) := by decide +kernel
theorem dx_M_learn_9 : decode cd_M_learn 9 = .ok (.invokevirtual 80, 3) := by decide +kernel
theorem dx_M_learn_12 : decode cd_M_learn 12 = .ok (.ifCond .ne 57, 3) := by decide +kernel
theorem dx_M_learn_15 : decode cd_M_learn 15 = .ok (.iload_n 2, 1) := by decide +kernel
theorem dx_M_learn_16 : decode cd_M_learn 16 = .ok (.ifCond .lt 49, 3) := by decide +kernel
theorem dx_M_learn_19 : decode cd_M_learn 19 = .ok (.aload_n 0, 1) := by decide +kernel
theorem dx_M_learn_20 : decode cd_M_learn 20 = .ok (.getfield 13, 3) := by decide +kernel
theorem dx_M_learn_23 : decode cd_M_learn 23 = .ok (.iload_n 2, 1) := by decide +kernel
theorem dx_M_learn_24 : decode cd_M_learn 24 = .ok (.iaload, 1) := by decide +kernel
theorem dx_M_learn_25 : decode cd_M_learn 25 = .ok (.iconst 1, 1) := by decide +kernel
theorem dx_M_learn_26 : decode cd_M_learn 26 = .ok (.if_icmp .lt 16, 3) := by decide +kernel
theorem dx_M_learn_29 : decode cd_M_learn 29 = .ok (.aload_n 0, 1) := by decide +kernel
theorem dx_M_learn_30 : decode cd_M_learn 30 = .ok (.aload_n 0, 1) := by decide +kernel
theorem dx_M_learn_31 : decode cd_M_learn 31 = .ok (.getfield 16, 3) := by decide +kernel
theorem dx_M_learn_34 : decode cd_M_learn 34 = .ok (.iload_n 2, 1) := by decide +kernel
theorem dx_M_learn_35 : decode cd_M_learn 35 = .ok (.iaload, 1) := by decide +kernel
theorem dx_M_learn_36 : decode cd_M_learn 36 = .ok (.invokevirtual 80, 3) := by decide +kernel
theorem dx_M_learn_39 : decode cd_M_learn 39 = .ok (.ifCond .eq 30, 3) := by decide +kernel
theorem dx_M_learn_42 : decode cd_M_learn 42 = .ok (.aload_n 0, 1) := by decide +kernel
theorem dx_M_learn_43 : decode cd_M_learn 43 = .ok (.getfield 13, 3) := by decide +kernel
theorem dx_M_learn_46 : decode cd_M_learn 46 = .ok (.iload_n 2, 1) := by decide +kernel
theorem dx_M_learn_47 : decode cd_M_learn 47 = .ok (.iaload, 1) := by decide +kernel
theorem dx_M_learn_48 : decode cd_M_learn 48 = .ok (.iconst 2, 1) := by decide +kernel
theorem dx_M_learn_49 : decode cd_M_learn 49 = .ok (.if_icmp .lt 16, 3) := by decide +kernel
theorem dx_M_learn_52 : decode cd_M_learn 52 = .ok (.aload_n 0, 1) := by decide +kernel
theorem dx_M_learn_53 : decode cd_M_learn 53 = .ok (.aload_n 0, 1) := by decide +kernel
theorem dx_M_learn_54 : decode cd_M_learn 54 = .ok (.getfield 19, 3) := by decide +kernel
theorem dx_M_learn_57 : decode cd_M_learn 57 = .ok (.iload_n 2, 1) := by decide +kernel
theorem dx_M_learn_58 : decode cd_M_learn 58 = .ok (.iaload, 1) := by decide +kernel
theorem dx_M_learn_59 : decode cd_M_learn 59 = .ok (.invokevirtual 80, 3) := by decide +kernel
theorem dx_M_learn_62 : decode cd_M_learn 62 = .ok (.ifCond .eq 7, 3) := by decide +kernel
theorem dx_M_learn_65 : decode cd_M_learn 65 = .ok (.iconst 1, 1) := by decide +kernel
theorem dx_M_learn_66 : decode cd_M_learn 66 = .ok (.goto 4, 3) := by decide +kernel
theorem dx_M_learn_69 : decode cd_M_learn 69 = .ok (.iconst 0, 1) := by decide +kernel
theorem dx_M_learn_70 : decode cd_M_learn 70 = .ok (.istore_n 3, 1) := by decide +kernel
theorem dx_M_learn_71 : decode cd_M_learn 71 = .ok (.iload_n 3, 1) := by decide +kernel
theorem dx_M_learn_72 : decode cd_M_learn 72 = .ok (.ifCond .ne 5, 3) := by decide +kernel
theorem dx_M_learn_75 : decode cd_M_learn 75 = .ok (.iconst 0, 1) := by decide +kernel
theorem dx_M_learn_76 : decode cd_M_learn 76 = .ok (.ireturn, 1) := by decide +kernel
theorem dx_M_learn_77 : decode cd_M_learn 77 = .ok (.aload_n 0, 1) := by decide +kernel
theorem dx_M_learn_78 : decode cd_M_learn 78 = .ok (.getfield 34, 3) := by decide +kernel
theorem dx_M_learn_81 : decode cd_M_learn 81 = .ok (.iload_n 1, 1) := by decide +kernel
theorem dx_M_learn_82 : decode cd_M_learn 82 = .ok (.lconst 1, 1) := by decide +kernel
theorem dx_M_learn_83 : decode cd_M_learn 83 = .ok (.lastore, 1) := by decide +kernel
theorem dx_M_learn_84 : decode cd_M_learn 84 = .ok (.aload_n 0, 1) := by decide +kernel
theorem dx_M_learn_85 : decode cd_M_learn 85 = .ok (.getfield 38, 3) := by decide +kernel
theorem dx_M_learn_88 : decode cd_M_learn 88 = .ok (.iload_n 1, 1) := by decide +kernel
theorem dx_M_learn_89 : decode cd_M_learn 89 = .ok (.iconst 1, 1) := by decide +kernel
theorem dx_M_learn_90 : decode cd_M_learn 90 = .ok (.iastore, 1) := by decide +kernel
theorem dx_M_learn_91 : decode cd_M_learn 91 = .ok (.aload_n 0, 1) := by decide +kernel
theorem dx_M_learn_92 : decode cd_M_learn 92 = .ok (.getfield 41, 3) := by decide +kernel
theorem dx_M_learn_95 : decode cd_M_learn 95 = .ok (.iload_n 1, 1) := by decide +kernel
theorem dx_M_learn_96 : decode cd_M_learn 96 = .ok (.iload_n 2, 1) := by decide +kernel
theorem dx_M_learn_97 : decode cd_M_learn 97 = .ok (.ifCond .ge 14, 3) := by decide +kernel
theorem dx_M_learn_100 : decode cd_M_learn 100 = .ok (.lconst 1, 1) := by decide +kernel
theorem dx_M_learn_101 : decode cd_M_learn 101 = .ok (.aload_n 0, 1) := by decide +kernel
theorem dx_M_learn_102 : decode cd_M_learn 102 = .ok (.getfield 28, 3) := by decide +kernel
theorem dx_M_learn_105 : decode cd_M_learn 105 = .ok (.iload_n 1, 1) := by decide +kernel
theorem dx_M_learn_106 : decode cd_M_learn 106 = .ok (.iaload, 1) := by decide +kernel
theorem dx_M_learn_107 : decode cd_M_learn 107 = .ok (.lshl, 1) := by decide +kernel
theorem dx_M_learn_108 : decode cd_M_learn 108 = .ok (.goto 4, 3) := by decide +kernel
theorem dx_M_learn_111 : decode cd_M_learn 111 = .ok (.lconst 0, 1) := by decide +kernel
theorem dx_M_learn_112 : decode cd_M_learn 112 = .ok (.lastore, 1) := by decide +kernel
theorem dx_M_learn_113 : decode cd_M_learn 113 = .ok (.iload_n 2, 1) := by decide +kernel
theorem dx_M_learn_114 : decode cd_M_learn 114 = .ok (.ifCond .lt 23, 3) := by decide +kernel
theorem dx_M_learn_117 : decode cd_M_learn 117 = .ok (.aload_n 0, 1) := by decide +kernel
theorem dx_M_learn_118 : decode cd_M_learn 118 = .ok (.getfield 13, 3) := by decide +kernel
theorem dx_M_learn_121 : decode cd_M_learn 121 = .ok (.iload_n 2, 1) := by decide +kernel
theorem dx_M_learn_122 : decode cd_M_learn 122 = .ok (.iaload, 1) := by decide +kernel
theorem dx_M_learn_123 : decode cd_M_learn 123 = .ok (.ifCond .le 14, 3) := by decide +kernel
theorem dx_M_learn_126 : decode cd_M_learn 126 = .ok (.aload_n 0, 1) := by decide +kernel
theorem dx_M_learn_127 : decode cd_M_learn 127 = .ok (.iload_n 1, 1) := by decide +kernel
theorem dx_M_learn_128 : decode cd_M_learn 128 = .ok (.aload_n 0, 1) := by decide +kernel
theorem dx_M_learn_129 : decode cd_M_learn 129 = .ok (.getfield 16, 3) := by decide +kernel
theorem dx_M_learn_132 : decode cd_M_learn 132 = .ok (.iload_n 2, 1) := by decide +kernel
theorem dx_M_learn_133 : decode cd_M_learn 133 = .ok (.iaload, 1) := by decide +kernel
theorem dx_M_learn_134 : decode cd_M_learn 134 = .ok (.invokevirtual 83, 3) := by decide +kernel
theorem dx_M_learn_137 : decode cd_M_learn 137 = .ok (.iload_n 2, 1) := by decide +kernel
theorem dx_M_learn_138 : decode cd_M_learn 138 = .ok (.ifCond .lt 24, 3) := by decide +kernel
theorem dx_M_learn_141 : decode cd_M_learn 141 = .ok (.aload_n 0, 1) := by decide +kernel
theorem dx_M_learn_142 : decode cd_M_learn 142 = .ok (.getfield 13, 3) := by decide +kernel
theorem dx_M_learn_145 : decode cd_M_learn 145 = .ok (.iload_n 2, 1) := by decide +kernel
theorem dx_M_learn_146 : decode cd_M_learn 146 = .ok (.iaload, 1) := by decide +kernel
theorem dx_M_learn_147 : decode cd_M_learn 147 = .ok (.iconst 1, 1) := by decide +kernel
theorem dx_M_learn_148 : decode cd_M_learn 148 = .ok (.if_icmp .le 14, 3) := by decide +kernel
theorem dx_M_learn_151 : decode cd_M_learn 151 = .ok (.aload_n 0, 1) := by decide +kernel
theorem dx_M_learn_152 : decode cd_M_learn 152 = .ok (.iload_n 1, 1) := by decide +kernel
theorem dx_M_learn_153 : decode cd_M_learn 153 = .ok (.aload_n 0, 1) := by decide +kernel
theorem dx_M_learn_154 : decode cd_M_learn 154 = .ok (.getfield 19, 3) := by decide +kernel
theorem dx_M_learn_157 : decode cd_M_learn 157 = .ok (.iload_n 2, 1) := by decide +kernel
theorem dx_M_learn_158 : decode cd_M_learn 158 = .ok (.iaload, 1) := by decide +kernel
theorem dx_M_learn_159 : decode cd_M_learn 159 = .ok (.invokevirtual 83, 3) := by decide +kernel
theorem dx_M_learn_162 : decode cd_M_learn 162 = .ok (.iconst 1, 1) := by decide +kernel
theorem dx_M_learn_163 : decode cd_M_learn 163 = .ok (.ireturn, 1) := by decide +kernel
theorem dx_M_isKnown_0 : decode cd_M_isKnown 0 = .ok (.aload_n 0, 1) := by decide +kernel
theorem dx_M_isKnown_1 : decode cd_M_isKnown 1 = .ok (.getfield 34, 3) := by decide +kernel
theorem dx_M_isKnown_4 : decode cd_M_isKnown 4 = .ok (.iload_n 1, 1) := by decide +kernel
theorem dx_M_isKnown_5 : decode cd_M_isKnown 5 = .ok (.laload, 1) := by decide +kernel
theorem dx_M_isKnown_6 : decode cd_M_isKnown 6 = .ok (.lconst 0, 1) := by decide +kernel
theorem dx_M_isKnown_7 : decode cd_M_isKnown 7 = .ok (.lcmp, 1) := by decide +kernel
theorem dx_M_isKnown_8 : decode cd_M_isKnown 8 = .ok (.ifCond .le 7, 3) := by decide +kernel
theorem dx_M_isKnown_11 : decode cd_M_isKnown 11 = .ok (.iconst 1, 1) := by decide +kernel
theorem dx_M_isKnown_12 : decode cd_M_isKnown 12 = .ok (.goto 4, 3) := by decide +kernel
theorem dx_M_isKnown_15 : decode cd_M_isKnown 15 = .ok (.iconst 0, 1) := by decide +kernel
theorem dx_M_isKnown_16 : decode cd_M_isKnown 16 = .ok (.ireturn, 1) := by decide +kernel
theorem dx_M_part_0 : decode cd_M_part 0 = .ok (.aload_n 0, 1) := by decide +kernel
theorem dx_M_part_1 : decode cd_M_part 1 = .ok (.getfield 34, 3) := by decide +kernel
theorem dx_M_part_4 : decode cd_M_part 4 = .ok (.iload_n 1, 1) := by decide +kernel
theorem dx_M_part_5 : decode cd_M_part 5 = .ok (.dup2, 1) := by decide +kernel
theorem dx_M_part_6 : decode cd_M_part 6 = .ok (.laload, 1) := by decide +kernel
theorem dx_M_part_7 : decode cd_M_part 7 = .ok (.aload_n 0, 1) := by decide +kernel
theorem dx_M_part_8 : decode cd_M_part 8 = .ok (.getfield 34, 3) := by decide +kernel
theorem dx_M_part_11 : decode cd_M_part 11 = .ok (.iload_n 2, 1) := by decide +kernel
theorem dx_M_part_12 : decode cd_M_part 12 = .ok (.laload, 1) := by decide +kernel
theorem dx_M_part_13 : decode cd_M_part 13 = .ok (.ladd, 1) := by decide +kernel
theorem dx_M_part_14 : decode cd_M_part 14 = .ok (.lastore, 1) := by decide +kernel
theorem dx_M_part_15 : decode cd_M_part 15 = .ok (.aload_n 0, 1) := by decide +kernel
theorem dx_M_part_16 : decode cd_M_part 16 = .ok (.getfield 38, 3) := by decide +kernel
theorem dx_M_part_19 : decode cd_M_part 19 = .ok (.iload_n 1, 1) := by decide +kernel
theorem dx_M_part_20 : decode cd_M_part 20 = .ok (.aload_n 0, 1) := by decide +kernel
theorem dx_M_part_21 : decode cd_M_part 21 = .ok (.getfield 38, 3) := by decide +kernel
theorem dx_M_part_24 : decode cd_M_part 24 = .ok (.iload_n 2, 1) := by decide +kernel
theorem dx_M_part_25 : decode cd_M_part 25 = .ok (.iaload, 1) := by decide +kernel
theorem dx_M_part_26 : decode cd_M_part 26 = .ok (.iconst 1, 1) := by decide +kernel
theorem dx_M_part_27 : decode cd_M_part 27 = .ok (.iadd, 1) := by decide +kernel
theorem dx_M_part_28 : decode cd_M_part 28 = .ok (.aload_n 0, 1) := by decide +kernel
theorem dx_M_part_29 : decode cd_M_part 29 = .ok (.getfield 38, 3) := by decide +kernel
theorem dx_M_part_32 : decode cd_M_part 32 = .ok (.iload_n 1, 1) := by decide +kernel
theorem dx_M_part_33 : decode cd_M_part 33 = .ok (.iaload, 1) := by decide +kernel
theorem dx_M_part_34 : decode cd_M_part 34 = .ok (.if_icmp .le 14, 3) := by decide +kernel
theorem dx_M_part_37 : decode cd_M_part 37 = .ok (.aload_n 0, 1) := by decide +kernel
theorem dx_M_part_38 : decode cd_M_part 38 = .ok (.getfield 38, 3) := by decide +kernel
theorem dx_M_part_41 : decode cd_M_part 41 = .ok (.iload_n 2, 1) := by decide +kernel
theorem dx_M_part_42 : decode cd_M_part 42 = .ok (.iaload, 1) := by decide +kernel
theorem dx_M_part_43 : decode cd_M_part 43 = .ok (.iconst 1, 1) := by decide +kernel
theorem dx_M_part_44 : decode cd_M_part 44 = .ok (.iadd, 1) := by decide +kernel
theorem dx_M_part_45 : decode cd_M_part 45 = .ok (.goto 9, 3) := by decide +kernel
theorem dx_M_part_48 : decode cd_M_part 48 = .ok (.aload_n 0, 1) := by decide +kernel
theorem dx_M_part_49 : decode cd_M_part 49 = .ok (.getfield 38, 3) := by decide +kernel
theorem dx_M_part_52 : decode cd_M_part 52 = .ok (.iload_n 1, 1) := by decide +kernel
theorem dx_M_part_53 : decode cd_M_part 53 = .ok (.iaload, 1) := by decide +kernel
theorem dx_M_part_54 : decode cd_M_part 54 = .ok (.iastore, 1) := by decide +kernel
theorem dx_M_part_55 : decode cd_M_part 55 = .ok (.aload_n 0, 1) := by decide +kernel
theorem dx_M_part_56 : decode cd_M_part 56 = .ok (.getfield 41, 3) := by decide +kernel
theorem dx_M_part_59 : decode cd_M_part 59 = .ok (.iload_n 1, 1) := by decide +kernel
theorem dx_M_part_60 : decode cd_M_part 60 = .ok (.dup2, 1) := by decide +kernel
theorem dx_M_part_61 : decode cd_M_part 61 = .ok (.laload, 1) := by decide +kernel
theorem dx_M_part_62 : decode cd_M_part 62 = .ok (.aload_n 0, 1) := by decide +kernel
theorem dx_M_part_63 : decode cd_M_part 63 = .ok (.getfield 41, 3) := by decide +kernel
theorem dx_M_part_66 : decode cd_M_part 66 = .ok (.iload_n 2, 1) := by decide +kernel
theorem dx_M_part_67 : decode cd_M_part 67 = .ok (.laload, 1) := by decide +kernel
theorem dx_M_part_68 : decode cd_M_part 68 = .ok (.lor, 1) := by decide +kernel
theorem dx_M_part_69 : decode cd_M_part 69 = .ok (.lastore, 1) := by decide +kernel
theorem dx_M_part_70 : decode cd_M_part 70 = .ok (.return_, 1) := by decide +kernel
theorem dx_M_begins_0 : decode cd_M_begins 0 = .ok (.aload_n 0, 1) := by decide +kernel
theorem dx_M_begins_1 : decode cd_M_begins 1 = .ok (.getfield 31, 3) := by decide +kernel
theorem dx_M_begins_4 : decode cd_M_begins 4 = .ok (.iload_n 1, 1) := by decide +kernel
theorem dx_M_begins_5 : decode cd_M_begins 5 = .ok (.iaload, 1) := by decide +kernel
theorem dx_M_begins_6 : decode cd_M_begins 6 = .ok (.istore_n 3, 1) := by decide +kernel
theorem dx_M_begins_7 : decode cd_M_begins 7 = .ok (.aload_n 0, 1) := by decide +kernel
theorem dx_M_begins_8 : decode cd_M_begins 8 = .ok (.getfield 31, 3) := by decide +kernel
theorem dx_M_begins_11 : decode cd_M_begins 11 = .ok (.iload_n 2, 1) := by decide +kernel
theorem dx_M_begins_12 : decode cd_M_begins 12 = .ok (.iaload, 1) := by decide +kernel
theorem dx_M_begins_13 : decode cd_M_begins 13 = .ok (.istore 4, 2) := by decide +kernel
theorem dx_M_begins_15 : decode cd_M_begins 15 = .ok (.iload_n 3, 1) := by decide +kernel
theorem dx_M_begins_16 : decode cd_M_begins 16 = .ok (.ifCond .lt 8, 3) := by decide +kernel
theorem dx_M_begins_19 : decode cd_M_begins 19 = .ok (.iload 4, 2) := by decide +kernel
theorem dx_M_begins_21 : decode cd_M_begins 21 = .ok (.ifCond .ge 33, 3) := by decide +kernel
theorem dx_M_begins_24 : decode cd_M_begins 24 = .ok (.iload_n 3, 1) := by decide +kernel
theorem dx_M_begins_25 : decode cd_M_begins 25 = .ok (.ifCond .ge 27, 3) := by decide +kernel
theorem dx_M_begins_28 : decode cd_M_begins 28 = .ok (.iload 4, 2) := by decide +kernel
theorem dx_M_begins_30 : decode cd_M_begins 30 = .ok (.ifCond .ge 22, 3) := by decide +kernel
theorem dx_M_begins_33 : decode cd_M_begins 33 = .ok (.aload_n 0, 1) := by decide +kernel
theorem dx_M_begins_34 : decode cd_M_begins 34 = .ok (.getfield 28, 3) := by decide +kernel
theorem dx_M_begins_37 : decode cd_M_begins 37 = .ok (.iload_n 1, 1) := by decide +kernel
theorem dx_M_begins_38 : decode cd_M_begins 38 = .ok (.iaload, 1) := by decide +kernel
theorem dx_M_begins_39 : decode cd_M_begins 39 = .ok (.aload_n 0, 1) := by decide +kernel
theorem dx_M_begins_40 : decode cd_M_begins 40 = .ok (.getfield 28, 3) := by decide +kernel
theorem dx_M_begins_43 : decode cd_M_begins 43 = .ok (.iload_n 2, 1) := by decide +kernel
theorem dx_M_begins_44 : decode cd_M_begins 44 = .ok (.iaload, 1) := by decide +kernel
theorem dx_M_begins_45 : decode cd_M_begins 45 = .ok (.if_icmp .ne 7, 3) := by decide +kernel
theorem dx_M_begins_48 : decode cd_M_begins 48 = .ok (.iconst 1, 1) := by decide +kernel
theorem dx_M_begins_49 : decode cd_M_begins 49 = .ok (.goto 4, 3) := by decide +kernel
theorem dx_M_begins_52 : decode cd_M_begins 52 = .ok (.iconst 0, 1) := by decide +kernel
theorem dx_M_begins_53 : decode cd_M_begins 53 = .ok (.ireturn, 1) := by decide +kernel
theorem dx_M_begins_54 : decode cd_M_begins 54 = .ok (.aload_n 0, 1) := by decide +kernel
theorem dx_M_begins_55 : decode cd_M_begins 55 = .ok (.getfield 7, 3) := by decide +kernel
theorem dx_M_begins_58 : decode cd_M_begins 58 = .ok (.iload_n 3, 1) := by decide +kernel
theorem dx_M_begins_59 : decode cd_M_begins 59 = .ok (.iaload, 1) := by decide +kernel
theorem dx_M_begins_60 : decode cd_M_begins 60 = .ok (.aload_n 0, 1) := by decide +kernel
theorem dx_M_begins_61 : decode cd_M_begins 61 = .ok (.getfield 7, 3) := by decide +kernel
theorem dx_M_begins_64 : decode cd_M_begins 64 = .ok (.iload 4, 2) := by decide +kernel
theorem dx_M_begins_66 : decode cd_M_begins 66 = .ok (.iaload, 1) := by decide +kernel
theorem dx_M_begins_67 : decode cd_M_begins 67 = .ok (.if_icmp .ne 23, 3) := by decide +kernel
theorem dx_M_begins_70 : decode cd_M_begins 70 = .ok (.aload_n 0, 1) := by decide +kernel
theorem dx_M_begins_71 : decode cd_M_begins 71 = .ok (.getfield 13, 3) := by decide +kernel
theorem dx_M_begins_74 : decode cd_M_begins 74 = .ok (.iload_n 3, 1) := by decide +kernel
theorem dx_M_begins_75 : decode cd_M_begins 75 = .ok (.iaload, 1) := by decide +kernel
theorem dx_M_begins_76 : decode cd_M_begins 76 = .ok (.aload_n 0, 1) := by decide +kernel
theorem dx_M_begins_77 : decode cd_M_begins 77 = .ok (.getfield 13, 3) := by decide +kernel
theorem dx_M_begins_80 : decode cd_M_begins 80 = .ok (.iload 4, 2) := by decide +kernel
theorem dx_M_begins_82 : decode cd_M_begins 82 = .ok (.iaload, 1) := by decide +kernel
theorem dx_M_begins_83 : decode cd_M_begins 83 = .ok (.if_icmp .ne 7, 3) := by decide +kernel
theorem dx_M_begins_86 : decode cd_M_begins 86 = .ok (.iconst 1, 1) := by decide +kernel
theorem dx_M_begins_87 : decode cd_M_begins 87 = .ok (.goto 4, 3) := by decide +kernel
theorem dx_M_begins_90 : decode cd_M_begins 90 = .ok (.iconst 0, 1) := by decide +kernel
theorem dx_M_begins_91 : decode cd_M_begins 91 = .ok (.ireturn, 1) := by decide +kernel
theorem dx_M_partsAlike_0 : decode cd_M_partsAlike 0 = .ok (.aload_n 0, 1) := by decide +kernel
theorem dx_M_partsAlike_1 : decode cd_M_partsAlike 1 = .ok (.getfield 31, 3) := by decide +kernel
theorem dx_M_partsAlike_4 : decode cd_M_partsAlike 4 = .ok (.iload_n 1, 1) := by decide +kernel
theorem dx_M_partsAlike_5 : decode cd_M_partsAlike 5 = .ok (.iaload, 1) := by decide +kernel
theorem dx_M_partsAlike_6 : decode cd_M_partsAlike 6 = .ok (.istore_n 3, 1) := by decide +kernel
theorem dx_M_partsAlike_7 : decode cd_M_partsAlike 7 = .ok (.aload_n 0, 1) := by decide +kernel
theorem dx_M_partsAlike_8 : decode cd_M_partsAlike 8 = .ok (.getfield 31, 3) := by decide +kernel
theorem dx_M_partsAlike_11 : decode cd_M_partsAlike 11 = .ok (.iload_n 2, 1) := by decide +kernel
theorem dx_M_partsAlike_12 : decode cd_M_partsAlike 12 = .ok (.iaload, 1) := by decide +kernel
theorem dx_M_partsAlike_13 : decode cd_M_partsAlike 13 = .ok (.istore 4, 2) := by decide +kernel
theorem dx_M_partsAlike_15 : decode cd_M_partsAlike 15 = .ok (.iload_n 3, 1) := by decide +kernel
theorem dx_M_partsAlike_16 : decode cd_M_partsAlike 16 = .ok (.ifCond .lt 73, 3) := by decide +kernel
theorem dx_M_partsAlike_19 : decode cd_M_partsAlike 19 = .ok (.aload_n 0, 1) := by decide +kernel
theorem dx_M_partsAlike_20 : decode cd_M_partsAlike 20 = .ok (.getfield 13, 3) := by decide +kernel
theorem dx_M_partsAlike_23 : decode cd_M_partsAlike 23 = .ok (.iload_n 3, 1) := by decide +kernel
theorem dx_M_partsAlike_24 : decode cd_M_partsAlike 24 = .ok (.iaload, 1) := by decide +kernel
theorem dx_M_partsAlike_25 : decode cd_M_partsAlike 25 = .ok (.iconst 1, 1) := by decide +kernel
theorem dx_M_partsAlike_26 : decode cd_M_partsAlike 26 = .ok (.if_icmp .lt 28, 3) := by decide +kernel
theorem dx_M_partsAlike_29 : decode cd_M_partsAlike 29 = .ok (.aload_n 0, 1) := by decide +kernel
theorem dx_M_partsAlike_30 : decode cd_M_partsAlike 30 = .ok (.getfield 44, 3) := by decide +kernel
theorem dx_M_partsAlike_33 : decode cd_M_partsAlike 33 = .ok (.bipush 40, 2) := by decide +kernel
theorem dx_M_partsAlike_35 : decode cd_M_partsAlike 35 = .ok (.aload_n 0, 1) := by decide +kernel
theorem dx_M_partsAlike_36 : decode cd_M_partsAlike 36 = .ok (.getfield 16, 3) := by decide +kernel
theorem dx_M_partsAlike_39 : decode cd_M_partsAlike 39 = .ok (.iload_n 3, 1) := by decide +kernel
theorem dx_M_partsAlike_40 : decode cd_M_partsAlike 40 = .ok (.iaload, 1) := by decide +kernel
theorem dx_M_partsAlike_41 : decode cd_M_partsAlike 41 = .ok (.imul, 1) := by decide +kernel
theorem dx_M_partsAlike_42 : decode cd_M_partsAlike 42 = .ok (.aload_n 0, 1) := by decide +kernel
theorem dx_M_partsAlike_43 : decode cd_M_partsAlike 43 = .ok (.getfield 16, 3) := by decide +kernel
theorem dx_M_partsAlike_46 : decode cd_M_partsAlike 46 = .ok (.iload 4, 2) := by decide +kernel
theorem dx_M_partsAlike_48 : decode cd_M_partsAlike 48 = .ok (.iaload, 1) := by decide +kernel
theorem dx_M_partsAlike_49 : decode cd_M_partsAlike 49 = .ok (.iadd, 1) := by decide +kernel
theorem dx_M_partsAlike_50 : decode cd_M_partsAlike 50 = .ok (.baload, 1) := by decide +kernel
theorem dx_M_partsAlike_51 : decode cd_M_partsAlike 51 = .ok (.ifCond .eq 42, 3) := by decide +kernel
theorem dx_M_partsAlike_54 : decode cd_M_partsAlike 54 = .ok (.aload_n 0, 1) := by decide +kernel
theorem dx_M_partsAlike_55 : decode cd_M_partsAlike 55 = .ok (.getfield 13, 3) := by decide +kernel
theorem dx_M_partsAlike_58 : decode cd_M_partsAlike 58 = .ok (.iload_n 3, 1) := by decide +kernel
theorem dx_M_partsAlike_59 : decode cd_M_partsAlike 59 = .ok (.iaload, 1) := by decide +kernel
theorem dx_M_partsAlike_60 : decode cd_M_partsAlike 60 = .ok (.iconst 2, 1) := by decide +kernel
theorem dx_M_partsAlike_61 : decode cd_M_partsAlike 61 = .ok (.if_icmp .lt 28, 3) := by decide +kernel
theorem dx_M_partsAlike_64 : decode cd_M_partsAlike 64 = .ok (.aload_n 0, 1) := by decide +kernel
theorem dx_M_partsAlike_65 : decode cd_M_partsAlike 65 = .ok (.getfield 44, 3) := by decide +kernel
theorem dx_M_partsAlike_68 : decode cd_M_partsAlike 68 = .ok (.bipush 40, 2) := by decide +kernel
theorem dx_M_partsAlike_70 : decode cd_M_partsAlike 70 = .ok (.aload_n 0, 1) := by decide +kernel
theorem dx_M_partsAlike_71 : decode cd_M_partsAlike 71 = .ok (.getfield 19, 3) := by decide +kernel
theorem dx_M_partsAlike_74 : decode cd_M_partsAlike 74 = .ok (.iload_n 3, 1) := by decide +kernel
theorem dx_M_partsAlike_75 : decode cd_M_partsAlike 75 = .ok (.iaload, 1) := by decide +kernel
theorem dx_M_partsAlike_76 : decode cd_M_partsAlike 76 = .ok (.imul, 1) := by decide +kernel
theorem dx_M_partsAlike_77 : decode cd_M_partsAlike 77 = .ok (.aload_n 0, 1) := by decide +kernel
theorem dx_M_partsAlike_78 : decode cd_M_partsAlike 78 = .ok (.getfield 19, 3) := by decide +kernel
theorem dx_M_partsAlike_81 : decode cd_M_partsAlike 81 = .ok (.iload 4, 2) := by decide +kernel
theorem dx_M_partsAlike_83 : decode cd_M_partsAlike 83 = .ok (.iaload, 1) := by decide +kernel
theorem dx_M_partsAlike_84 : decode cd_M_partsAlike 84 = .ok (.iadd, 1) := by decide +kernel
theorem dx_M_partsAlike_85 : decode cd_M_partsAlike 85 = .ok (.baload, 1) := by decide +kernel
theorem dx_M_partsAlike_86 : decode cd_M_partsAlike 86 = .ok (.ifCond .eq 7, 3) := by decide +kernel
theorem dx_M_partsAlike_89 : decode cd_M_partsAlike 89 = .ok (.iconst 1, 1) := by decide +kernel
theorem dx_M_partsAlike_90 : decode cd_M_partsAlike 90 = .ok (.goto 4, 3) := by decide +kernel
theorem dx_M_partsAlike_93 : decode cd_M_partsAlike 93 = .ok (.iconst 0, 1) := by decide +kernel
theorem dx_M_partsAlike_94 : decode cd_M_partsAlike 94 = .ok (.ireturn, 1) := by decide +kernel
theorem dx_M_free_0 : decode cd_M_free 0 = .ok (.iconst 0, 1) := by decide +kernel
theorem dx_M_free_1 : decode cd_M_free 1 = .ok (.istore_n 1, 1) := by decide +kernel
theorem dx_M_free_2 : decode cd_M_free 2 = .ok (.iconst 0, 1) := by decide +kernel
theorem dx_M_free_3 : decode cd_M_free 3 = .ok (.istore_n 2, 1) := by decide +kernel
theorem dx_M_free_4 : decode cd_M_free 4 = .ok (.iload_n 2, 1) := by decide +kernel
theorem dx_M_free_5 : decode cd_M_free 5 = .ok (.aload_n 0, 1) := by decide +kernel
theorem dx_M_free_6 : decode cd_M_free 6 = .ok (.getfield 61, 3) := by decide +kernel
theorem dx_M_free_9 : decode cd_M_free 9 = .ok (.if_icmp .ge 25, 3) := by decide +kernel
theorem dx_M_free_12 : decode cd_M_free 12 = .ok (.iload_n 1, 1) := by decide +kernel
theorem dx_M_free_13 : decode cd_M_free 13 = .ok (.aload_n 0, 1) := by decide +kernel
theorem dx_M_free_14 : decode cd_M_free 14 = .ok (.iload_n 2, 1) := by decide +kernel
theorem dx_M_free_15 : decode cd_M_free 15 = .ok (.invokevirtual 112, 3) := by decide +kernel
theorem dx_M_free_18 : decode cd_M_free 18 = .ok (.ifCond .eq 7, 3) := by decide +kernel
theorem dx_M_free_21 : decode cd_M_free 21 = .ok (.iconst 1, 1) := by decide +kernel
theorem dx_M_free_22 : decode cd_M_free 22 = .ok (.goto 4, 3) := by decide +kernel
theorem dx_M_free_25 : decode cd_M_free 25 = .ok (.iconst 0, 1) := by decide +kernel
theorem dx_M_free_26 : decode cd_M_free 26 = .ok (.iadd, 1) := by decide +kernel
theorem dx_M_free_27 : decode cd_M_free 27 = .ok (.istore_n 1, 1) := by decide +kernel
theorem dx_M_free_28 : decode cd_M_free 28 = .ok (.iinc 2 1, 3) := by decide +kernel
theorem dx_M_free_31 : decode cd_M_free 31 = .ok (.goto (-27), 3) := by decide +kernel
theorem dx_M_free_34 : decode cd_M_free 34 = .ok (.iload_n 1, 1) := by decide +kernel
theorem dx_M_free_35 : decode cd_M_free 35 = .ok (.ireturn, 1) := by decide +kernel
theorem dx_M_standsForItself_0 : decode cd_M_standsForItself 0 = .ok (.aload_n 0, 1) := by decide +kernel
theorem dx_M_standsForItself_1 : decode cd_M_standsForItself 1 = .ok (.iload_n 1, 1) := by decide +kernel
theorem dx_M_standsForItself_2 : decode cd_M_standsForItself 2 = .ok (.invokevirtual 109, 3) := by decide +kernel
theorem dx_M_standsForItself_5 : decode cd_M_standsForItself 5 = .ok (.ifCond .eq 17, 3) := by decide +kernel
theorem dx_M_standsForItself_8 : decode cd_M_standsForItself 8 = .ok (.aload_n 0, 1) := by decide +kernel
theorem dx_M_standsForItself_9 : decode cd_M_standsForItself 9 = .ok (.getfield 28, 3) := by decide +kernel
theorem dx_M_standsForItself_12 : decode cd_M_standsForItself 12 = .ok (.iload_n 1, 1) := by decide +kernel
theorem dx_M_standsForItself_13 : decode cd_M_standsForItself 13 = .ok (.iaload, 1) := by decide +kernel
theorem dx_M_standsForItself_14 : decode cd_M_standsForItself 14 = .ok (.iload_n 1, 1) := by decide +kernel
theorem dx_M_standsForItself_15 : decode cd_M_standsForItself 15 = .ok (.if_icmp .ne 7, 3) := by decide +kernel
theorem dx_M_standsForItself_18 : decode cd_M_standsForItself 18 = .ok (.iconst 1, 1) := by decide +kernel
theorem dx_M_standsForItself_19 : decode cd_M_standsForItself 19 = .ok (.goto 4, 3) := by decide +kernel
theorem dx_M_standsForItself_22 : decode cd_M_standsForItself 22 = .ok (.iconst 0, 1) := by decide +kernel
theorem dx_M_standsForItself_23 : decode cd_M_standsForItself 23 = .ok (.ireturn, 1) := by decide +kernel
theorem dx_M_isFree_0 : decode cd_M_isFree 0 = .ok (.aload_n 0, 1) := by decide +kernel
theorem dx_M_isFree_1 : decode cd_M_isFree 1 = .ok (.getfield 7, 3) := by decide +kernel
theorem dx_M_isFree_4 : decode cd_M_isFree 4 = .ok (.iload_n 1, 1) := by decide +kernel
theorem dx_M_isFree_5 : decode cd_M_isFree 5 = .ok (.iaload, 1) := by decide +kernel
theorem dx_M_isFree_6 : decode cd_M_isFree 6 = .ok (.ifCond .ge 16, 3) := by decide +kernel
theorem dx_M_isFree_9 : decode cd_M_isFree 9 = .ok (.aload_n 0, 1) := by decide +kernel
theorem dx_M_isFree_10 : decode cd_M_isFree 10 = .ok (.getfield 31, 3) := by decide +kernel
theorem dx_M_isFree_13 : decode cd_M_isFree 13 = .ok (.iload_n 1, 1) := by decide +kernel
theorem dx_M_isFree_14 : decode cd_M_isFree 14 = .ok (.iaload, 1) := by decide +kernel
theorem dx_M_isFree_15 : decode cd_M_isFree 15 = .ok (.ifCond .ge 7, 3) := by decide +kernel
theorem dx_M_isFree_18 : decode cd_M_isFree 18 = .ok (.iconst 1, 1) := by decide +kernel
theorem dx_M_isFree_19 : decode cd_M_isFree 19 = .ok (.goto 4, 3) := by decide +kernel
theorem dx_M_isFree_22 : decode cd_M_isFree 22 = .ok (.iconst 0, 1) := by decide +kernel
theorem dx_M_isFree_23 : decode cd_M_isFree 23 = .ok (.ireturn, 1) := by decide +kernel
theorem dx_M_why_0 : decode cd_M_why 0 = .ok (.aload_n 0, 1) := by decide +kernel
theorem dx_M_why_1 : decode cd_M_why 1 = .ok (.iconst 0, 1) := by decide +kernel
theorem dx_M_why_2 : decode cd_M_why 2 = .ok (.putfield 57, 3) := by decide +kernel
theorem dx_M_why_5 : decode cd_M_why 5 = .ok (.aload_n 0, 1) := by decide +kernel
theorem dx_M_why_6 : decode cd_M_why 6 = .ok (.getfield 115, 3) := by decide +kernel
theorem dx_M_why_9 : decode cd_M_why 9 = .ok (.ireturn, 1) := by decide +kernel
theorem dx_M_undo_0 : decode cd_M_undo 0 = .ok (.aload_n 0, 1) := by decide +kernel
theorem dx_M_undo_1 : decode cd_M_undo 1 = .ok (.iload_n 1, 1) := by decide +kernel
theorem dx_M_undo_2 : decode cd_M_undo 2 = .ok (.ifCond .lt 11, 3) := by decide +kernel
theorem dx_M_undo_5 : decode cd_M_undo 5 = .ok (.iload_n 1, 1) := by decide +kernel
theorem dx_M_undo_6 : decode cd_M_undo 6 = .ok (.aload_n 0, 1) := by decide +kernel
theorem dx_M_undo_7 : decode cd_M_undo 7 = .ok (.getfield 87, 3) := by decide +kernel
theorem dx_M_undo_10 : decode cd_M_undo 10 = .ok (.if_icmp .le 7, 3) := by decide +kernel
theorem dx_M_undo_13 : decode cd_M_undo 13 = .ok (.iconst 1, 1) := by decide +kernel
theorem dx_M_undo_14 : decode cd_M_undo 14 = .ok (.goto 4, 3) := by decide +kernel
theorem dx_M_undo_17 : decode cd_M_undo 17 = .ok (.iconst 0, 1) := by decide +kernel
theorem dx_M_undo_18 : decode cd_M_undo 18 = .ok (.putfield 57, 3) := by decide +kernel
theorem dx_M_undo_21 : decode cd_M_undo 21 = .ok (.aload_n 0, 1) := by decide +kernel
theorem dx_M_undo_22 : decode cd_M_undo 22 = .ok (.getfield 57, 3) := by decide +kernel
theorem dx_M_undo_25 : decode cd_M_undo 25 = .ok (.ifCond .le 5, 3) := by decide +kernel
theorem dx_M_undo_28 : decode cd_M_undo 28 = .ok (.iconst 0, 1) := by decide +kernel
theorem dx_M_undo_29 : decode cd_M_undo 29 = .ok (.ireturn, 1) := by decide +kernel
theorem dx_M_undo_30 : decode cd_M_undo 30 = .ok (.aload_n 0, 1) := by decide +kernel
theorem dx_M_undo_31 : decode cd_M_undo 31 = .ok (.dup, 1) := by decide +kernel
theorem dx_M_undo_32 : decode cd_M_undo 32 = .ok (.getfield 87, 3) := by decide +kernel
theorem dx_M_undo_35 : decode cd_M_undo 35 = .ok (.iload_n 1, 1) := by decide +kernel
theorem dx_M_undo_36 : decode cd_M_undo 36 = .ok (.isub, 1) := by decide +kernel
theorem dx_M_undo_37 : decode cd_M_undo 37 = .ok (.putfield 87, 3) := by decide +kernel
theorem dx_M_undo_40 : decode cd_M_undo 40 = .ok (.aload_n 0, 1) := by decide +kernel
theorem dx_M_undo_41 : decode cd_M_undo 41 = .ok (.iconst 0, 1) := by decide +kernel
theorem dx_M_undo_42 : decode cd_M_undo 42 = .ok (.putfield 64, 3) := by decide +kernel
theorem dx_M_undo_45 : decode cd_M_undo 45 = .ok (.aload_n 0, 1) := by decide +kernel
theorem dx_M_undo_46 : decode cd_M_undo 46 = .ok (.getfield 87, 3) := by decide +kernel
theorem dx_M_undo_49 : decode cd_M_undo 49 = .ok (.ireturn, 1) := by decide +kernel
theorem dx_M_count_0 : decode cd_M_count 0 = .ok (.aload_n 0, 1) := by decide +kernel
theorem dx_M_count_1 : decode cd_M_count 1 = .ok (.iload_n 1, 1) := by decide +kernel
theorem dx_M_count_2 : decode cd_M_count 2 = .ok (.ifCond .lt 8, 3) := by decide +kernel
theorem dx_M_count_5 : decode cd_M_count 5 = .ok (.iload_n 1, 1) := by decide +kernel
theorem dx_M_count_6 : decode cd_M_count 6 = .ok (.iconst 2, 1) := by decide +kernel
theorem dx_M_count_7 : decode cd_M_count 7 = .ok (.if_icmp .le 7, 3) := by decide +kernel
theorem dx_M_count_10 : decode cd_M_count 10 = .ok (.iconst 1, 1) := by decide +kernel
theorem dx_M_count_11 : decode cd_M_count 11 = .ok (.goto 4, 3) := by decide +kernel
theorem dx_M_count_14 : decode cd_M_count 14 = .ok (.iconst 0, 1) := by decide +kernel
theorem dx_M_count_15 : decode cd_M_count 15 = .ok (.putfield 57, 3) := by decide +kernel
theorem dx_M_count_18 : decode cd_M_count 18 = .ok (.aload_n 0, 1) := by decide +kernel
theorem dx_M_count_19 : decode cd_M_count 19 = .ok (.invokevirtual 118, 3) := by decide +kernel
theorem dx_M_count_22 : decode cd_M_count 22 = .ok (.aload_n 0, 1) := by decide +kernel
theorem dx_M_count_23 : decode cd_M_count 23 = .ok (.invokevirtual 121, 3) := by decide +kernel
theorem dx_M_count_26 : decode cd_M_count 26 = .ok (.istore_n 2, 1) := by decide +kernel
theorem dx_M_count_27 : decode cd_M_count 27 = .ok (.aload_n 0, 1) := by decide +kernel
theorem dx_M_count_28 : decode cd_M_count 28 = .ok (.getfield 57, 3) := by decide +kernel
theorem dx_M_count_31 : decode cd_M_count 31 = .ok (.ifCond .le 7, 3) := by decide +kernel
theorem dx_M_count_34 : decode cd_M_count 34 = .ok (.iconst 0, 1) := by decide +kernel
theorem dx_M_count_35 : decode cd_M_count 35 = .ok (.goto 27, 3) := by decide +kernel
theorem dx_M_count_38 : decode cd_M_count 38 = .ok (.iload_n 1, 1) := by decide +kernel
theorem dx_M_count_39 : decode cd_M_count 39 = .ok (.ifCond .ne 10, 3) := by decide +kernel
theorem dx_M_count_42 : decode cd_M_count 42 = .ok (.aload_n 0, 1) := by decide +kernel
theorem dx_M_count_43 : decode cd_M_count 43 = .ok (.getfield 61, 3) := by decide +kernel
theorem dx_M_count_46 : decode cd_M_count 46 = .ok (.goto 16, 3) := by decide +kernel
theorem dx_M_count_49 : decode cd_M_count 49 = .ok (.iload_n 1, 1) := by decide +kernel
theorem dx_M_count_50 : decode cd_M_count 50 = .ok (.iconst 1, 1) := by decide +kernel
theorem dx_M_count_51 : decode cd_M_count 51 = .ok (.if_icmp .ne 10, 3) := by decide +kernel
theorem dx_M_count_54 : decode cd_M_count 54 = .ok (.aload_n 0, 1) := by decide +kernel
theorem dx_M_count_55 : decode cd_M_count 55 = .ok (.getfield 87, 3) := by decide +kernel
theorem dx_M_count_58 : decode cd_M_count 58 = .ok (.goto 4, 3) := by decide +kernel
theorem dx_M_count_61 : decode cd_M_count 61 = .ok (.iload_n 2, 1) := by decide +kernel
theorem dx_M_count_62 : decode cd_M_count 62 = .ok (.ireturn, 1) := by decide +kernel
theorem dx_M_same_0 : decode cd_M_same 0 = .ok (.aload_n 0, 1) := by decide +kernel
theorem dx_M_same_1 : decode cd_M_same 1 = .ok (.iload_n 1, 1) := by decide +kernel
theorem dx_M_same_2 : decode cd_M_same 2 = .ok (.iload_n 2, 1) := by decide +kernel
theorem dx_M_same_3 : decode cd_M_same 3 = .ok (.invokevirtual 124, 3) := by decide +kernel
theorem dx_M_same_6 : decode cd_M_same 6 = .ok (.ifCond .ne 21, 3) := by decide +kernel
theorem dx_M_same_9 : decode cd_M_same 9 = .ok (.aload_n 0, 1) := by decide +kernel
theorem dx_M_same_10 : decode cd_M_same 10 = .ok (.getfield 44, 3) := by decide +kernel
theorem dx_M_same_13 : decode cd_M_same 13 = .ok (.bipush 40, 2) := by decide +kernel
theorem dx_M_same_15 : decode cd_M_same 15 = .ok (.iload_n 1, 1) := by decide +kernel
theorem dx_M_same_16 : decode cd_M_same 16 = .ok (.imul, 1) := by decide +kernel
theorem dx_M_same_17 : decode cd_M_same 17 = .ok (.iload_n 2, 1) := by decide +kernel
theorem dx_M_same_18 : decode cd_M_same 18 = .ok (.iadd, 1) := by decide +kernel
theorem dx_M_same_19 : decode cd_M_same 19 = .ok (.baload, 1) := by decide +kernel
theorem dx_M_same_20 : decode cd_M_same 20 = .ok (.ifCond .eq 7, 3) := by decide +kernel
theorem dx_M_same_23 : decode cd_M_same 23 = .ok (.iconst 1, 1) := by decide +kernel
theorem dx_M_same_24 : decode cd_M_same 24 = .ok (.goto 4, 3) := by decide +kernel
theorem dx_M_same_27 : decode cd_M_same 27 = .ok (.iconst 0, 1) := by decide +kernel
theorem dx_M_same_28 : decode cd_M_same 28 = .ok (.ireturn, 1) := by decide +kernel
theorem dx_M_lacks_0 : decode cd_M_lacks 0 = .ok (.aload_n 0, 1) := by decide +kernel
theorem dx_M_lacks_1 : decode cd_M_lacks 1 = .ok (.aload_n 0, 1) := by decide +kernel
theorem dx_M_lacks_2 : decode cd_M_lacks 2 = .ok (.iload_n 1, 1) := by decide +kernel
theorem dx_M_lacks_3 : decode cd_M_lacks 3 = .ok (.invokevirtual 72, 3) := by decide +kernel
theorem dx_M_lacks_6 : decode cd_M_lacks 6 = .ok (.ifCond .eq 15, 3) := by decide +kernel
theorem dx_M_lacks_9 : decode cd_M_lacks 9 = .ok (.aload_n 0, 1) := by decide +kernel
theorem dx_M_lacks_10 : decode cd_M_lacks 10 = .ok (.iload_n 2, 1) := by decide +kernel
theorem dx_M_lacks_11 : decode cd_M_lacks 11 = .ok (.invokevirtual 72, 3) := by decide +kernel
theorem dx_M_lacks_14 : decode cd_M_lacks 14 = .ok (.ifCond .eq 7, 3) := by decide +kernel
theorem dx_M_lacks_17 : decode cd_M_lacks 17 = .ok (.iconst 0, 1) := by decide +kernel
theorem dx_M_lacks_18 : decode cd_M_lacks 18 = .ok (.goto 4, 3) := by decide +kernel
theorem dx_M_lacks_21 : decode cd_M_lacks 21 = .ok (.iconst 1, 1) := by decide +kernel
theorem dx_M_lacks_22 : decode cd_M_lacks 22 = .ok (.putfield 57, 3) := by decide +kernel
theorem dx_M_lacks_25 : decode cd_M_lacks 25 = .ok (.aload_n 0, 1) := by decide +kernel
theorem dx_M_lacks_26 : decode cd_M_lacks 26 = .ok (.invokevirtual 118, 3) := by decide +kernel
theorem dx_M_lacks_29 : decode cd_M_lacks 29 = .ok (.aload_n 0, 1) := by decide +kernel
theorem dx_M_lacks_30 : decode cd_M_lacks 30 = .ok (.getfield 57, 3) := by decide +kernel
theorem dx_M_lacks_33 : decode cd_M_lacks 33 = .ok (.ifCond .le 7, 3) := by decide +kernel
theorem dx_M_lacks_36 : decode cd_M_lacks 36 = .ok (.iconst 1, 1) := by decide +kernel
theorem dx_M_lacks_37 : decode cd_M_lacks 37 = .ok (.goto 4, 3) := by decide +kernel
theorem dx_M_lacks_40 : decode cd_M_lacks 40 = .ok (.iconst 0, 1) := by decide +kernel
theorem dx_M_lacks_41 : decode cd_M_lacks 41 = .ok (.ireturn, 1) := by decide +kernel
theorem dx_M_leader_0 : decode cd_M_leader 0 = .ok (.aload_n 0, 1) := by decide +kernel
theorem dx_M_leader_1 : decode cd_M_leader 1 = .ok (.iload_n 1, 1) := by decide +kernel
theorem dx_M_leader_2 : decode cd_M_leader 2 = .ok (.iload_n 1, 1) := by decide +kernel
theorem dx_M_leader_3 : decode cd_M_leader 3 = .ok (.invokevirtual 124, 3) := by decide +kernel
theorem dx_M_leader_6 : decode cd_M_leader 6 = .ok (.ifCond .eq 5, 3) := by decide +kernel
theorem dx_M_leader_9 : decode cd_M_leader 9 = .ok (.iconst 0, 1) := by decide +kernel
theorem dx_M_leader_10 : decode cd_M_leader 10 = .ok (.ireturn, 1) := by decide +kernel
theorem dx_M_leader_11 : decode cd_M_leader 11 = .ok (.iconst 0, 1) := by decide +kernel
theorem dx_M_leader_12 : decode cd_M_leader 12 = .ok (.istore_n 2, 1) := by decide +kernel
theorem dx_M_leader_13 : decode cd_M_leader 13 = .ok (.aload_n 0, 1) := by decide +kernel
theorem dx_M_leader_14 : decode cd_M_leader 14 = .ok (.getfield 44, 3) := by decide +kernel
theorem dx_M_leader_17 : decode cd_M_leader 17 = .ok (.bipush 40, 2) := by decide +kernel
theorem dx_M_leader_19 : decode cd_M_leader 19 = .ok (.iload_n 1, 1) := by decide +kernel
theorem dx_M_leader_20 : decode cd_M_leader 20 = .ok (.imul, 1) := by decide +kernel
theorem dx_M_leader_21 : decode cd_M_leader 21 = .ok (.iload_n 2, 1) := by decide +kernel
theorem dx_M_leader_22 : decode cd_M_leader 22 = .ok (.iadd, 1) := by decide +kernel
theorem dx_M_leader_23 : decode cd_M_leader 23 = .ok (.baload, 1) := by decide +kernel
theorem dx_M_leader_24 : decode cd_M_leader 24 = .ok (.ifCond .ne 9, 3) := by decide +kernel
theorem dx_M_leader_27 : decode cd_M_leader 27 = .ok (.iinc 2 1, 3) := by decide +kernel
theorem dx_M_leader_30 : decode cd_M_leader 30 = .ok (.goto (-17), 3) := by decide +kernel
theorem dx_M_leader_33 : decode cd_M_leader 33 = .ok (.iload_n 2, 1) := by decide +kernel
theorem dx_M_leader_34 : decode cd_M_leader 34 = .ok (.ireturn, 1) := by decide +kernel
theorem dx_M_size_0 : decode cd_M_size 0 = .ok (.aload_n 0, 1) := by decide +kernel
theorem dx_M_size_1 : decode cd_M_size 1 = .ok (.iload_n 1, 1) := by decide +kernel
theorem dx_M_size_2 : decode cd_M_size 2 = .ok (.iload_n 1, 1) := by decide +kernel
theorem dx_M_size_3 : decode cd_M_size 3 = .ok (.invokevirtual 124, 3) := by decide +kernel
theorem dx_M_size_6 : decode cd_M_size 6 = .ok (.ifCond .eq 7, 3) := by decide +kernel
theorem dx_M_size_9 : decode cd_M_size 9 = .ok (.lconst 0, 1) := by decide +kernel
theorem dx_M_size_10 : decode cd_M_size 10 = .ok (.goto 9, 3) := by decide +kernel
theorem dx_M_size_13 : decode cd_M_size 13 = .ok (.aload_n 0, 1) := by decide +kernel
theorem dx_M_size_14 : decode cd_M_size 14 = .ok (.getfield 34, 3) := by decide +kernel
theorem dx_M_size_17 : decode cd_M_size 17 = .ok (.iload_n 1, 1) := by decide +kernel
theorem dx_M_size_18 : decode cd_M_size 18 = .ok (.laload, 1) := by decide +kernel
theorem dx_M_size_19 : decode cd_M_size 19 = .ok (.lreturn, 1) := by decide +kernel
theorem dx_M_depth_0 : decode cd_M_depth 0 = .ok (.aload_n 0, 1) := by decide +kernel
theorem dx_M_depth_1 : decode cd_M_depth 1 = .ok (.iload_n 1, 1) := by decide +kernel
theorem dx_M_depth_2 : decode cd_M_depth 2 = .ok (.iload_n 1, 1) := by decide +kernel
theorem dx_M_depth_3 : decode cd_M_depth 3 = .ok (.invokevirtual 124, 3) := by decide +kernel
theorem dx_M_depth_6 : decode cd_M_depth 6 = .ok (.ifCond .eq 7, 3) := by decide +kernel
theorem dx_M_depth_9 : decode cd_M_depth 9 = .ok (.iconst 0, 1) := by decide +kernel
theorem dx_M_depth_10 : decode cd_M_depth 10 = .ok (.goto 9, 3) := by decide +kernel
theorem dx_M_depth_13 : decode cd_M_depth 13 = .ok (.aload_n 0, 1) := by decide +kernel
theorem dx_M_depth_14 : decode cd_M_depth 14 = .ok (.getfield 38, 3) := by decide +kernel
theorem dx_M_depth_17 : decode cd_M_depth 17 = .ok (.iload_n 1, 1) := by decide +kernel
theorem dx_M_depth_18 : decode cd_M_depth 18 = .ok (.iaload, 1) := by decide +kernel
theorem dx_M_depth_19 : decode cd_M_depth 19 = .ok (.ireturn, 1) := by decide +kernel
theorem dx_M_variables_0 : decode cd_M_variables 0 = .ok (.aload_n 0, 1) := by decide +kernel
theorem dx_M_variables_1 : decode cd_M_variables 1 = .ok (.iload_n 1, 1) := by decide +kernel
theorem dx_M_variables_2 : decode cd_M_variables 2 = .ok (.iload_n 1, 1) := by decide +kernel
theorem dx_M_variables_3 : decode cd_M_variables 3 = .ok (.invokevirtual 124, 3) := by decide +kernel
theorem dx_M_variables_6 : decode cd_M_variables 6 = .ok (.ifCond .eq 5, 3) := by decide +kernel
theorem dx_M_variables_9 : decode cd_M_variables 9 = .ok (.iconst 0, 1) := by decide +kernel
theorem dx_M_variables_10 : decode cd_M_variables 10 = .ok (.ireturn, 1) := by decide +kernel
theorem dx_M_variables_11 : decode cd_M_variables 11 = .ok (.iconst 0, 1) := by decide +kernel
theorem dx_M_variables_12 : decode cd_M_variables 12 = .ok (.istore_n 2, 1) := by decide +kernel
theorem dx_M_variables_13 : decode cd_M_variables 13 = .ok (.iconst 0, 1) := by decide +kernel
theorem dx_M_variables_14 : decode cd_M_variables 14 = .ok (.istore_n 3, 1) := by decide +kernel
theorem dx_M_variables_15 : decode cd_M_variables 15 = .ok (.iload_n 3, 1) := by decide +kernel
theorem dx_M_variables_16 : decode cd_M_variables 16 = .ok (.bipush 40, 2) := by decide +kernel
theorem dx_M_variables_18 : decode cd_M_variables 18 = .ok (.if_icmp .ge 32, 3) := by decide +kernel
theorem dx_M_variables_21 : decode cd_M_variables 21 = .ok (.iload_n 2, 1) := by decide +kernel
theorem dx_M_variables_22 : decode cd_M_variables 22 = .ok (.aload_n 0, 1) := by decide +kernel
theorem dx_M_variables_23 : decode cd_M_variables 23 = .ok (.getfield 41, 3) := by decide +kernel
theorem dx_M_variables_26 : decode cd_M_variables 26 = .ok (.iload_n 1, 1) := by decide +kernel
theorem dx_M_variables_27 : decode cd_M_variables 27 = .ok (.laload, 1) := by decide +kernel
theorem dx_M_variables_28 : decode cd_M_variables 28 = .ok (.iload_n 3, 1) := by decide +kernel
theorem dx_M_variables_29 : decode cd_M_variables 29 = .ok (.lshr, 1) := by decide +kernel
theorem dx_M_variables_30 : decode cd_M_variables 30 = .ok (.lconst 1, 1) := by decide +kernel
theorem dx_M_variables_31 : decode cd_M_variables 31 = .ok (.land, 1) := by decide +kernel
theorem dx_M_variables_32 : decode cd_M_variables 32 = .ok (.lconst 1, 1) := by decide +kernel
theorem dx_M_variables_33 : decode cd_M_variables 33 = .ok (.lcmp, 1) := by decide +kernel
theorem dx_M_variables_34 : decode cd_M_variables 34 = .ok (.ifCond .ne 7, 3) := by decide +kernel
theorem dx_M_variables_37 : decode cd_M_variables 37 = .ok (.iconst 1, 1) := by decide +kernel
theorem dx_M_variables_38 : decode cd_M_variables 38 = .ok (.goto 4, 3) := by decide +kernel
theorem dx_M_variables_41 : decode cd_M_variables 41 = .ok (.iconst 0, 1) := by decide +kernel
theorem dx_M_variables_42 : decode cd_M_variables 42 = .ok (.iadd, 1) := by decide +kernel
theorem dx_M_variables_43 : decode cd_M_variables 43 = .ok (.istore_n 2, 1) := by decide +kernel
theorem dx_M_variables_44 : decode cd_M_variables 44 = .ok (.iinc 3 1, 3) := by decide +kernel
theorem dx_M_variables_47 : decode cd_M_variables 47 = .ok (.goto (-32), 3) := by decide +kernel
theorem dx_M_variables_50 : decode cd_M_variables 50 = .ok (.iload_n 2, 1) := by decide +kernel
theorem dx_M_variables_51 : decode cd_M_variables 51 = .ok (.ireturn, 1) := by decide +kernel
theorem dx_M_at_0 : decode cd_M_at 0 = .ok (.aload_n 0, 1) := by decide +kernel
theorem dx_M_at_1 : decode cd_M_at 1 = .ok (.iload_n 1, 1) := by decide +kernel
theorem dx_M_at_2 : decode cd_M_at 2 = .ok (.iload_n 1, 1) := by decide +kernel
theorem dx_M_at_3 : decode cd_M_at 3 = .ok (.invokevirtual 124, 3) := by decide +kernel
theorem dx_M_at_6 : decode cd_M_at 6 = .ok (.ifCond .eq 5, 3) := by decide +kernel
theorem dx_M_at_9 : decode cd_M_at 9 = .ok (.iconst 0, 1) := by decide +kernel
theorem dx_M_at_10 : decode cd_M_at 10 = .ok (.ireturn, 1) := by decide +kernel
theorem dx_M_at_11 : decode cd_M_at 11 = .ok (.aload_n 0, 1) := by decide +kernel
theorem dx_M_at_12 : decode cd_M_at 12 = .ok (.lload_n 2, 1) := by decide +kernel
theorem dx_M_at_13 : decode cd_M_at 13 = .ok (.lconst 0, 1) := by decide +kernel
theorem dx_M_at_14 : decode cd_M_at 14 = .ok (.lcmp, 1) := by decide +kernel
theorem dx_M_at_15 : decode cd_M_at 15 = .ok (.ifCond .lt 14, 3) := by decide +kernel
theorem dx_M_at_18 : decode cd_M_at 18 = .ok (.lload_n 2, 1) := by decide +kernel
theorem dx_M_at_19 : decode cd_M_at 19 = .ok (.aload_n 0, 1) := by decide +kernel
theorem dx_M_at_20 : decode cd_M_at 20 = .ok (.getfield 34, 3) := by decide +kernel
theorem dx_M_at_23 : decode cd_M_at 23 = .ok (.iload_n 1, 1) := by decide +kernel
theorem dx_M_at_24 : decode cd_M_at 24 = .ok (.laload, 1) := by decide +kernel
theorem dx_M_at_25 : decode cd_M_at 25 = .ok (.lcmp, 1) := by decide +kernel
theorem dx_M_at_26 : decode cd_M_at 26 = .ok (.ifCond .lt 7, 3) := by decide +kernel
theorem dx_M_at_29 : decode cd_M_at 29 = .ok (.iconst 2, 1) := by decide +kernel
theorem dx_M_at_30 : decode cd_M_at 30 = .ok (.goto 4, 3) := by decide +kernel
theorem dx_M_at_33 : decode cd_M_at 33 = .ok (.iconst 0, 1) := by decide +kernel
theorem dx_M_at_34 : decode cd_M_at 34 = .ok (.putfield 57, 3) := by decide +kernel
theorem dx_M_at_37 : decode cd_M_at 37 = .ok (.aload_n 0, 1) := by decide +kernel
theorem dx_M_at_38 : decode cd_M_at 38 = .ok (.getfield 57, 3) := by decide +kernel
theorem dx_M_at_41 : decode cd_M_at 41 = .ok (.ifCond .le 5, 3) := by decide +kernel
theorem dx_M_at_44 : decode cd_M_at 44 = .ok (.iconst 0, 1) := by decide +kernel
theorem dx_M_at_45 : decode cd_M_at 45 = .ok (.ireturn, 1) := by decide +kernel
theorem dx_M_at_46 : decode cd_M_at 46 = .ok (.iload_n 1, 1) := by decide +kernel
theorem dx_M_at_47 : decode cd_M_at 47 = .ok (.istore 4, 2) := by decide +kernel
theorem dx_M_at_49 : decode cd_M_at 49 = .ok (.lload_n 2, 1) := by decide +kernel
theorem dx_M_at_50 : decode cd_M_at 50 = .ok (.lstore 5, 2) := by decide +kernel
theorem dx_M_at_52 : decode cd_M_at 52 = .ok (.lload 5, 2) := by decide +kernel
theorem dx_M_at_54 : decode cd_M_at 54 = .ok (.lconst 0, 1) := by decide +kernel
theorem dx_M_at_55 : decode cd_M_at 55 = .ok (.lcmp, 1) := by decide +kernel
theorem dx_M_at_56 : decode cd_M_at 56 = .ok (.ifCond .le 97, 3) := by decide +kernel
theorem dx_M_at_59 : decode cd_M_at 59 = .ok (.aload_n 0, 1) := by decide +kernel
theorem dx_M_at_60 : decode cd_M_at 60 = .ok (.getfield 31, 3) := by decide +kernel
theorem dx_M_at_63 : decode cd_M_at 63 = .ok (.iload 4, 2) := by decide +kernel
theorem dx_M_at_65 : decode cd_M_at 65 = .ok (.iaload, 1) := by decide +kernel
theorem dx_M_at_66 : decode cd_M_at 66 = .ok (.istore 7, 2) := by decide +kernel
theorem dx_M_at_68 : decode cd_M_at 68 = .ok (.lload 5, 2) := by decide +kernel
theorem dx_M_at_70 : decode cd_M_at 70 = .ok (.lconst 1, 1) := by decide +kernel
theorem dx_M_at_71 : decode cd_M_at 71 = .ok (.lsub, 1) := by decide +kernel
theorem dx_M_at_72 : decode cd_M_at 72 = .ok (.aload_n 0, 1) := by decide +kernel
theorem dx_M_at_73 : decode cd_M_at 73 = .ok (.getfield 34, 3) := by decide +kernel
theorem dx_M_at_76 : decode cd_M_at 76 = .ok (.aload_n 0, 1) := by decide +kernel
theorem dx_M_at_77 : decode cd_M_at 77 = .ok (.getfield 16, 3) := by decide +kernel
theorem dx_M_at_80 : decode cd_M_at 80 = .ok (.iload 7, 2) := by decide +kernel
theorem dx_M_at_82 : decode cd_M_at 82 = .ok (.iaload, 1) := by decide +kernel
theorem dx_M_at_83 : decode cd_M_at 83 = .ok (.laload, 1) := by decide +kernel
theorem dx_M_at_84 : decode cd_M_at 84 = .ok (.lcmp, 1) := by decide +kernel
theorem dx_M_at_85 : decode cd_M_at 85 = .ok (.ifCond .ge 7, 3) := by decide +kernel
theorem dx_M_at_88 : decode cd_M_at 88 = .ok (.iconst 1, 1) := by decide +kernel
theorem dx_M_at_89 : decode cd_M_at 89 = .ok (.goto 4, 3) := by decide +kernel
theorem dx_M_at_92 : decode cd_M_at 92 = .ok (.iconst 0, 1) := by decide +kernel
theorem dx_M_at_93 : decode cd_M_at 93 = .ok (.istore 8, 2) := by decide +kernel
theorem dx_M_at_95 : decode cd_M_at 95 = .ok (.iload 8, 2) := by decide +kernel
theorem dx_M_at_97 : decode cd_M_at 97 = .ok (.ifCond .eq 10, 3) := by decide +kernel
theorem dx_M_at_100 : decode cd_M_at 100 = .ok (.lload 5, 2) := by decide +kernel
theorem dx_M_at_102 : decode cd_M_at 102 = .ok (.lconst 1, 1) := by decide +kernel
theorem dx_M_at_103 : decode cd_M_at 103 = .ok (.lsub, 1) := by decide +kernel
theorem dx_M_at_104 : decode cd_M_at 104 = .ok (.goto 20, 3) := by decide +kernel
theorem dx_M_at_107 : decode cd_M_at 107 = .ok (.lload 5, 2) := by decide +kernel
theorem dx_M_at_109 : decode cd_M_at 109 = .ok (.lconst 1, 1) := by decide +kernel
theorem dx_M_at_110 : decode cd_M_at 110 = .ok (.lsub, 1) := by decide +kernel
theorem dx_M_at_111 : decode cd_M_at 111 = .ok (.aload_n 0, 1) := by decide +kernel
theorem dx_M_at_112 : decode cd_M_at 112 = .ok (.getfield 34, 3) := by decide +kernel
theorem dx_M_at_115 : decode cd_M_at 115 = .ok (.aload_n 0, 1) := by decide +kernel
theorem dx_M_at_116 : decode cd_M_at 116 = .ok (.getfield 16, 3) := by decide +kernel
theorem dx_M_at_119 : decode cd_M_at 119 = .ok (.iload 7, 2) := by decide +kernel
theorem dx_M_at_121 : decode cd_M_at 121 = .ok (.iaload, 1) := by decide +kernel
theorem dx_M_at_122 : decode cd_M_at 122 = .ok (.laload, 1) := by decide +kernel
theorem dx_M_at_123 : decode cd_M_at 123 = .ok (.lsub, 1) := by decide +kernel
theorem dx_M_at_124 : decode cd_M_at 124 = .ok (.lstore 5, 2) := by decide +kernel
theorem dx_M_at_126 : decode cd_M_at 126 = .ok (.iload 8, 2) := by decide +kernel
theorem dx_M_at_128 : decode cd_M_at 128 = .ok (.ifCond .eq 13, 3) := by decide +kernel
theorem dx_M_at_131 : decode cd_M_at 131 = .ok (.aload_n 0, 1) := by decide +kernel
theorem dx_M_at_132 : decode cd_M_at 132 = .ok (.getfield 16, 3) := by decide +kernel
theorem dx_M_at_135 : decode cd_M_at 135 = .ok (.iload 7, 2) := by decide +kernel
theorem dx_M_at_137 : decode cd_M_at 137 = .ok (.iaload, 1) := by decide +kernel
theorem dx_M_at_138 : decode cd_M_at 138 = .ok (.goto 10, 3) := by decide +kernel
theorem dx_M_at_141 : decode cd_M_at 141 = .ok (.aload_n 0, 1) := by decide +kernel
theorem dx_M_at_142 : decode cd_M_at 142 = .ok (.getfield 19, 3) := by decide +kernel
theorem dx_M_at_145 : decode cd_M_at 145 = .ok (.iload 7, 2) := by decide +kernel
theorem dx_M_at_147 : decode cd_M_at 147 = .ok (.iaload, 1) := by decide +kernel
theorem dx_M_at_148 : decode cd_M_at 148 = .ok (.istore 4, 2) := by decide +kernel
theorem dx_M_at_150 : decode cd_M_at 150 = .ok (.goto (-98), 3) := by decide +kernel
theorem dx_M_at_153 : decode cd_M_at 153 = .ok (.aload_n 0, 1) := by decide +kernel
theorem dx_M_at_154 : decode cd_M_at 154 = .ok (.getfield 31, 3) := by decide +kernel
theorem dx_M_at_157 : decode cd_M_at 157 = .ok (.iload 4, 2) := by decide +kernel
theorem dx_M_at_159 : decode cd_M_at 159 = .ok (.iaload, 1) := by decide +kernel
theorem dx_M_at_160 : decode cd_M_at 160 = .ok (.istore 7, 2) := by decide +kernel
theorem dx_M_at_162 : decode cd_M_at 162 = .ok (.iload 7, 2) := by decide +kernel
theorem dx_M_at_164 : decode cd_M_at 164 = .ok (.ifCond .ge 15, 3) := by decide +kernel
theorem dx_M_at_167 : decode cd_M_at 167 = .ok (.iconst (-1), 1) := by decide +kernel
theorem dx_M_at_168 : decode cd_M_at 168 = .ok (.aload_n 0, 1) := by decide +kernel
theorem dx_M_at_169 : decode cd_M_at 169 = .ok (.getfield 28, 3) := by decide +kernel
theorem dx_M_at_172 : decode cd_M_at 172 = .ok (.iload 4, 2) := by decide +kernel
theorem dx_M_at_174 : decode cd_M_at 174 = .ok (.iaload, 1) := by decide +kernel
theorem dx_M_at_175 : decode cd_M_at 175 = .ok (.isub, 1) := by decide +kernel
theorem dx_M_at_176 : decode cd_M_at 176 = .ok (.goto 20, 3) := by decide +kernel
theorem dx_M_at_179 : decode cd_M_at 179 = .ok (.iconst 3, 1) := by decide +kernel
theorem dx_M_at_180 : decode cd_M_at 180 = .ok (.aload_n 0, 1) := by decide +kernel
theorem dx_M_at_181 : decode cd_M_at 181 = .ok (.getfield 7, 3) := by decide +kernel
theorem dx_M_at_184 : decode cd_M_at 184 = .ok (.iload 7, 2) := by decide +kernel
theorem dx_M_at_186 : decode cd_M_at 186 = .ok (.iaload, 1) := by decide +kernel
theorem dx_M_at_187 : decode cd_M_at 187 = .ok (.imul, 1) := by decide +kernel
theorem dx_M_at_188 : decode cd_M_at 188 = .ok (.aload_n 0, 1) := by decide +kernel
theorem dx_M_at_189 : decode cd_M_at 189 = .ok (.getfield 13, 3) := by decide +kernel
theorem dx_M_at_192 : decode cd_M_at 192 = .ok (.iload 7, 2) := by decide +kernel
theorem dx_M_at_194 : decode cd_M_at 194 = .ok (.iaload, 1) := by decide +kernel
theorem dx_M_at_195 : decode cd_M_at 195 = .ok (.iadd, 1) := by decide +kernel
theorem dx_M_at_196 : decode cd_M_at 196 = .ok (.ireturn, 1) := by decide +kernel
theorem dx_M_matches_0 : decode cd_M_matches 0 = .ok (.aload_n 0, 1) := by decide +kernel
theorem dx_M_matches_1 : decode cd_M_matches 1 = .ok (.iload_n 1, 1) := by decide +kernel
theorem dx_M_matches_2 : decode cd_M_matches 2 = .ok (.iload_n 2, 1) := by decide +kernel
theorem dx_M_matches_3 : decode cd_M_matches 3 = .ok (.invokevirtual 124, 3) := by decide +kernel
theorem dx_M_matches_6 : decode cd_M_matches 6 = .ok (.ifCond .eq 5, 3) := by decide +kernel
theorem dx_M_matches_9 : decode cd_M_matches 9 = .ok (.iconst 0, 1) := by decide +kernel
theorem dx_M_matches_10 : decode cd_M_matches 10 = .ok (.ireturn, 1) := by decide +kernel
theorem dx_M_matches_11 : decode cd_M_matches 11 = .ok (.iconst 0, 1) := by decide +kernel
theorem dx_M_matches_12 : decode cd_M_matches 12 = .ok (.istore_n 3, 1) := by decide +kernel
theorem dx_M_matches_13 : decode cd_M_matches 13 = .ok (.iload_n 3, 1) := by decide +kernel
theorem dx_M_matches_14 : decode cd_M_matches 14 = .ok (.sipush 1600, 3) := by decide +kernel
theorem dx_M_matches_17 : decode cd_M_matches 17 = .ok (.if_icmp .ge 16, 3) := by decide +kernel
theorem dx_M_matches_20 : decode cd_M_matches 20 = .ok (.aload_n 0, 1) := by decide +kernel
theorem dx_M_matches_21 : decode cd_M_matches 21 = .ok (.getfield 48, 3) := by decide +kernel
theorem dx_M_matches_24 : decode cd_M_matches 24 = .ok (.iload_n 3, 1) := by decide +kernel
theorem dx_M_matches_25 : decode cd_M_matches 25 = .ok (.iconst 0, 1) := by decide +kernel
theorem dx_M_matches_26 : decode cd_M_matches 26 = .ok (.iastore, 1) := by decide +kernel
theorem dx_M_matches_27 : decode cd_M_matches 27 = .ok (.iinc 3 1, 3) := by decide +kernel
theorem dx_M_matches_30 : decode cd_M_matches 30 = .ok (.goto (-17), 3) := by decide +kernel
theorem dx_M_matches_33 : decode cd_M_matches 33 = .ok (.iconst 0, 1) := by decide +kernel
theorem dx_M_matches_34 : decode cd_M_matches 34 = .ok (.istore_n 3, 1) := by decide +kernel
theorem dx_M_matches_35 : decode cd_M_matches 35 = .ok (.iload_n 3, 1) := by decide +kernel
theorem dx_M_matches_36 : decode cd_M_matches 36 = .ok (.bipush 40, 2) := by decide +kernel
theorem dx_M_matches_38 : decode cd_M_matches 38 = .ok (.if_icmp .ge 16, 3) := by decide +kernel
theorem dx_M_matches_41 : decode cd_M_matches 41 = .ok (.aload_n 0, 1) := by decide +kernel
theorem dx_M_matches_42 : decode cd_M_matches 42 = .ok (.getfield 54, 3) := by decide +kernel
theorem dx_M_matches_45 : decode cd_M_matches 45 = .ok (.iload_n 3, 1) := by decide +kernel
theorem dx_M_matches_46 : decode cd_M_matches 46 = .ok (.iconst (-1), 1) := by decide +kernel
theorem dx_M_matches_47 : decode cd_M_matches 47 = .ok (.iastore, 1) := by decide +kernel
theorem dx_M_matches_48 : decode cd_M_matches 48 = .ok (.iinc 3 1, 3) := by decide +kernel
theorem dx_M_matches_51 : decode cd_M_matches 51 = .ok (.goto (-16), 3) := by decide +kernel
theorem dx_M_matches_54 : decode cd_M_matches 54 = .ok (.aload_n 0, 1) := by decide +kernel
theorem dx_M_matches_55 : decode cd_M_matches 55 = .ok (.iload_n 1, 1) := by decide +kernel
theorem dx_M_matches_56 : decode cd_M_matches 56 = .ok (.iload_n 2, 1) := by decide +kernel
theorem dx_M_matches_57 : decode cd_M_matches 57 = .ok (.invokevirtual 127, 3) := by decide +kernel
theorem dx_M_matches_60 : decode cd_M_matches 60 = .ok (.iconst 1, 1) := by decide +kernel
theorem dx_M_matches_61 : decode cd_M_matches 61 = .ok (.istore_n 3, 1) := by decide +kernel
theorem dx_M_matches_62 : decode cd_M_matches 62 = .ok (.iload_n 3, 1) := by decide +kernel
theorem dx_M_matches_63 : decode cd_M_matches 63 = .ok (.ifCond .eq 57, 3) := by decide +kernel
theorem dx_M_matches_66 : decode cd_M_matches 66 = .ok (.iconst 0, 1) := by decide +kernel
theorem dx_M_matches_67 : decode cd_M_matches 67 = .ok (.istore_n 3, 1) := by decide +kernel
theorem dx_M_matches_68 : decode cd_M_matches 68 = .ok (.iconst 0, 1) := by decide +kernel
theorem dx_M_matches_69 : decode cd_M_matches 69 = .ok (.istore 4, 2) := by decide +kernel
theorem dx_M_matches_71 : decode cd_M_matches 71 = .ok (.iload 4, 2) := by decide +kernel
theorem dx_M_matches_73 : decode cd_M_matches 73 = .ok (.sipush 1600, 3) := by decide +kernel
theorem dx_M_matches_76 : decode cd_M_matches 76 = .ok (.if_icmp .ge 41, 3) := by decide +kernel
theorem dx_M_matches_79 : decode cd_M_matches 79 = .ok (.aload_n 0, 1) := by decide +kernel
theorem dx_M_matches_80 : decode cd_M_matches 80 = .ok (.getfield 48, 3) := by decide +kernel
theorem dx_M_matches_83 : decode cd_M_matches 83 = .ok (.iload 4, 2) := by decide +kernel
theorem dx_M_matches_85 : decode cd_M_matches 85 = .ok (.iaload, 1) := by decide +kernel
theorem dx_M_matches_86 : decode cd_M_matches 86 = .ok (.iconst 1, 1) := by decide +kernel
theorem dx_M_matches_87 : decode cd_M_matches 87 = .ok (.if_icmp .ne 24, 3) := by decide +kernel
theorem dx_M_matches_90 : decode cd_M_matches 90 = .ok (.aload_n 0, 1) := by decide +kernel
theorem dx_M_matches_91 : decode cd_M_matches 91 = .ok (.iload 4, 2) := by decide +kernel
theorem dx_M_matches_93 : decode cd_M_matches 93 = .ok (.bipush 40, 2) := by decide +kernel
theorem dx_M_matches_95 : decode cd_M_matches 95 = .ok (.idiv, 1) := by decide +kernel
theorem dx_M_matches_96 : decode cd_M_matches 96 = .ok (.iload 4, 2) := by decide +kernel
theorem dx_M_matches_98 : decode cd_M_matches 98 = .ok (.bipush 40, 2) := by decide +kernel
theorem dx_M_matches_100 : decode cd_M_matches 100 = .ok (.irem, 1) := by decide +kernel
theorem dx_M_matches_101 : decode cd_M_matches 101 = .ok (.invokevirtual 130, 3) := by decide +kernel
theorem dx_M_matches_104 : decode cd_M_matches 104 = .ok (.ifCond .ne 5, 3) := by decide +kernel
theorem dx_M_matches_107 : decode cd_M_matches 107 = .ok (.iconst 0, 1) := by decide +kernel
theorem dx_M_matches_108 : decode cd_M_matches 108 = .ok (.ireturn, 1) := by decide +kernel
theorem dx_M_matches_109 : decode cd_M_matches 109 = .ok (.iconst 1, 1) := by decide +kernel
theorem dx_M_matches_110 : decode cd_M_matches 110 = .ok (.istore_n 3, 1) := by decide +kernel
theorem dx_M_matches_111 : decode cd_M_matches 111 = .ok (.iinc 4 1, 3) := by decide +kernel
theorem dx_M_matches_114 : decode cd_M_matches 114 = .ok (.goto (-43), 3) := by decide +kernel
theorem dx_M_matches_117 : decode cd_M_matches 117 = .ok (.goto (-55), 3) := by decide +kernel
theorem dx_M_matches_120 : decode cd_M_matches 120 = .ok (.iconst 1, 1) := by decide +kernel
theorem dx_M_matches_121 : decode cd_M_matches 121 = .ok (.ireturn, 1) := by decide +kernel
theorem dx_M_wish_0 : decode cd_M_wish 0 = .ok (.aload_n 0, 1) := by decide +kernel
theorem dx_M_wish_1 : decode cd_M_wish 1 = .ok (.getfield 48, 3) := by decide +kernel
theorem dx_M_wish_4 : decode cd_M_wish 4 = .ok (.bipush 40, 2) := by decide +kernel
theorem dx_M_wish_6 : decode cd_M_wish 6 = .ok (.iload_n 1, 1) := by decide +kernel
theorem dx_M_wish_7 : decode cd_M_wish 7 = .ok (.imul, 1) := by decide +kernel
theorem dx_M_wish_8 : decode cd_M_wish 8 = .ok (.iload_n 2, 1) := by decide +kernel
theorem dx_M_wish_9 : decode cd_M_wish 9 = .ok (.iadd, 1) := by decide +kernel
theorem dx_M_wish_10 : decode cd_M_wish 10 = .ok (.aload_n 0, 1) := by decide +kernel
theorem dx_M_wish_11 : decode cd_M_wish 11 = .ok (.getfield 48, 3) := by decide +kernel
theorem dx_M_wish_14 : decode cd_M_wish 14 = .ok (.bipush 40, 2) := by decide +kernel
theorem dx_M_wish_16 : decode cd_M_wish 16 = .ok (.iload_n 1, 1) := by decide +kernel
theorem dx_M_wish_17 : decode cd_M_wish 17 = .ok (.imul, 1) := by decide +kernel
theorem dx_M_wish_18 : decode cd_M_wish 18 = .ok (.iload_n 2, 1) := by decide +kernel
theorem dx_M_wish_19 : decode cd_M_wish 19 = .ok (.iadd, 1) := by decide +kernel
theorem dx_M_wish_20 : decode cd_M_wish 20 = .ok (.iaload, 1) := by decide +kernel
theorem dx_M_wish_21 : decode cd_M_wish 21 = .ok (.ifCond .ne 7, 3) := by decide +kernel
theorem dx_M_wish_24 : decode cd_M_wish 24 = .ok (.iconst 1, 1) := by decide +kernel
theorem dx_M_wish_25 : decode cd_M_wish 25 = .ok (.goto 14, 3) := by decide +kernel
theorem dx_M_wish_28 : decode cd_M_wish 28 = .ok (.aload_n 0, 1) := by decide +kernel
theorem dx_M_wish_29 : decode cd_M_wish 29 = .ok (.getfield 48, 3) := by decide +kernel
theorem dx_M_wish_32 : decode cd_M_wish 32 = .ok (.bipush 40, 2) := by decide +kernel
theorem dx_M_wish_34 : decode cd_M_wish 34 = .ok (.iload_n 1, 1) := by decide +kernel
theorem dx_M_wish_35 : decode cd_M_wish 35 = .ok (.imul, 1) := by decide +kernel
theorem dx_M_wish_36 : decode cd_M_wish 36 = .ok (.iload_n 2, 1) := by decide +kernel
theorem dx_M_wish_37 : decode cd_M_wish 37 = .ok (.iadd, 1) := by decide +kernel
theorem dx_M_wish_38 : decode cd_M_wish 38 = .ok (.iaload, 1) := by decide +kernel
theorem dx_M_wish_39 : decode cd_M_wish 39 = .ok (.iastore, 1) := by decide +kernel
theorem dx_M_wish_40 : decode cd_M_wish 40 = .ok (.return_, 1) := by decide +kernel
theorem dx_M_meet_0 : decode cd_M_meet 0 = .ok (.aload_n 0, 1) := by decide +kernel
theorem dx_M_meet_1 : decode cd_M_meet 1 = .ok (.getfield 48, 3) := by decide +kernel
theorem dx_M_meet_4 : decode cd_M_meet 4 = .ok (.bipush 40, 2) := by decide +kernel
theorem dx_M_meet_6 : decode cd_M_meet 6 = .ok (.iload_n 1, 1) := by decide +kernel
theorem dx_M_meet_7 : decode cd_M_meet 7 = .ok (.imul, 1) := by decide +kernel
theorem dx_M_meet_8 : decode cd_M_meet 8 = .ok (.iload_n 2, 1) := by decide +kernel
theorem dx_M_meet_9 : decode cd_M_meet 9 = .ok (.iadd, 1) := by decide +kernel
theorem dx_M_meet_10 : decode cd_M_meet 10 = .ok (.iconst 2, 1) := by decide +kernel
theorem dx_M_meet_11 : decode cd_M_meet 11 = .ok (.iastore, 1) := by decide +kernel
theorem dx_M_meet_12 : decode cd_M_meet 12 = .ok (.aload_n 0, 1) := by decide +kernel
theorem dx_M_meet_13 : decode cd_M_meet 13 = .ok (.getfield 31, 3) := by decide +kernel
theorem dx_M_meet_16 : decode cd_M_meet 16 = .ok (.iload_n 1, 1) := by decide +kernel
theorem dx_M_meet_17 : decode cd_M_meet 17 = .ok (.iaload, 1) := by decide +kernel
theorem dx_M_meet_18 : decode cd_M_meet 18 = .ok (.istore_n 3, 1) := by decide +kernel
theorem dx_M_meet_19 : decode cd_M_meet 19 = .ok (.aload_n 0, 1) := by decide +kernel
theorem dx_M_meet_20 : decode cd_M_meet 20 = .ok (.getfield 31, 3) := by decide +kernel
theorem dx_M_meet_23 : decode cd_M_meet 23 = .ok (.iload_n 2, 1) := by decide +kernel
theorem dx_M_meet_24 : decode cd_M_meet 24 = .ok (.iaload, 1) := by decide +kernel
theorem dx_M_meet_25 : decode cd_M_meet 25 = .ok (.istore 4, 2) := by decide +kernel
theorem dx_M_meet_27 : decode cd_M_meet 27 = .ok (.iload_n 3, 1) := by decide +kernel
theorem dx_M_meet_28 : decode cd_M_meet 28 = .ok (.ifCond .ge 57, 3) := by decide +kernel
theorem dx_M_meet_31 : decode cd_M_meet 31 = .ok (.aload_n 0, 1) := by decide +kernel
theorem dx_M_meet_32 : decode cd_M_meet 32 = .ok (.getfield 28, 3) := by decide +kernel
theorem dx_M_meet_35 : decode cd_M_meet 35 = .ok (.iload_n 1, 1) := by decide +kernel
theorem dx_M_meet_36 : decode cd_M_meet 36 = .ok (.iaload, 1) := by decide +kernel
theorem dx_M_meet_37 : decode cd_M_meet 37 = .ok (.istore 5, 2) := by decide +kernel
theorem dx_M_meet_39 : decode cd_M_meet 39 = .ok (.aload_n 0, 1) := by decide +kernel
theorem dx_M_meet_40 : decode cd_M_meet 40 = .ok (.getfield 54, 3) := by decide +kernel
theorem dx_M_meet_43 : decode cd_M_meet 43 = .ok (.iload 5, 2) := by decide +kernel
theorem dx_M_meet_45 : decode cd_M_meet 45 = .ok (.aload_n 0, 1) := by decide +kernel
theorem dx_M_meet_46 : decode cd_M_meet 46 = .ok (.getfield 54, 3) := by decide +kernel
theorem dx_M_meet_49 : decode cd_M_meet 49 = .ok (.iload 5, 2) := by decide +kernel
theorem dx_M_meet_51 : decode cd_M_meet 51 = .ok (.iaload, 1) := by decide +kernel
theorem dx_M_meet_52 : decode cd_M_meet 52 = .ok (.ifCond .ge 7, 3) := by decide +kernel
theorem dx_M_meet_55 : decode cd_M_meet 55 = .ok (.iload_n 2, 1) := by decide +kernel
theorem dx_M_meet_56 : decode cd_M_meet 56 = .ok (.goto 10, 3) := by decide +kernel
theorem dx_M_meet_59 : decode cd_M_meet 59 = .ok (.aload_n 0, 1) := by decide +kernel
theorem dx_M_meet_60 : decode cd_M_meet 60 = .ok (.getfield 54, 3) := by decide +kernel
theorem dx_M_meet_63 : decode cd_M_meet 63 = .ok (.iload 5, 2) := by decide +kernel
theorem dx_M_meet_65 : decode cd_M_meet 65 = .ok (.iaload, 1) := by decide +kernel
theorem dx_M_meet_66 : decode cd_M_meet 66 = .ok (.iastore, 1) := by decide +kernel
theorem dx_M_meet_67 : decode cd_M_meet 67 = .ok (.aload_n 0, 1) := by decide +kernel
theorem dx_M_meet_68 : decode cd_M_meet 68 = .ok (.getfield 44, 3) := by decide +kernel
theorem dx_M_meet_71 : decode cd_M_meet 71 = .ok (.bipush 40, 2) := by decide +kernel
theorem dx_M_meet_73 : decode cd_M_meet 73 = .ok (.aload_n 0, 1) := by decide +kernel
theorem dx_M_meet_74 : decode cd_M_meet 74 = .ok (.getfield 54, 3) := by decide +kernel
theorem dx_M_meet_77 : decode cd_M_meet 77 = .ok (.iload 5, 2) := by decide +kernel
theorem dx_M_meet_79 : decode cd_M_meet 79 = .ok (.iaload, 1) := by decide +kernel
theorem dx_M_meet_80 : decode cd_M_meet 80 = .ok (.imul, 1) := by decide +kernel
theorem dx_M_meet_81 : decode cd_M_meet 81 = .ok (.iload_n 2, 1) := by decide +kernel
theorem dx_M_meet_82 : decode cd_M_meet 82 = .ok (.iadd, 1) := by decide +kernel
theorem dx_M_meet_83 : decode cd_M_meet 83 = .ok (.baload, 1) := by decide +kernel
theorem dx_M_meet_84 : decode cd_M_meet 84 = .ok (.ireturn, 1) := by decide +kernel
theorem dx_M_meet_85 : decode cd_M_meet 85 = .ok (.iload 4, 2) := by decide +kernel
theorem dx_M_meet_87 : decode cd_M_meet 87 = .ok (.ifCond .lt 35, 3) := by decide +kernel
theorem dx_M_meet_90 : decode cd_M_meet 90 = .ok (.aload_n 0, 1) := by decide +kernel
theorem dx_M_meet_91 : decode cd_M_meet 91 = .ok (.getfield 7, 3) := by decide +kernel
theorem dx_M_meet_94 : decode cd_M_meet 94 = .ok (.iload_n 3, 1) := by decide +kernel
theorem dx_M_meet_95 : decode cd_M_meet 95 = .ok (.iaload, 1) := by decide +kernel
theorem dx_M_meet_96 : decode cd_M_meet 96 = .ok (.aload_n 0, 1) := by decide +kernel
theorem dx_M_meet_97 : decode cd_M_meet 97 = .ok (.getfield 7, 3) := by decide +kernel
theorem dx_M_meet_100 : decode cd_M_meet 100 = .ok (.iload 4, 2) := by decide +kernel
theorem dx_M_meet_102 : decode cd_M_meet 102 = .ok (.iaload, 1) := by decide +kernel
theorem dx_M_meet_103 : decode cd_M_meet 103 = .ok (.if_icmp .ne 19, 3) := by decide +kernel
theorem dx_M_meet_106 : decode cd_M_meet 106 = .ok (.aload_n 0, 1) := by decide +kernel
theorem dx_M_meet_107 : decode cd_M_meet 107 = .ok (.getfield 13, 3) := by decide +kernel
theorem dx_M_meet_110 : decode cd_M_meet 110 = .ok (.iload_n 3, 1) := by decide +kernel
theorem dx_M_meet_111 : decode cd_M_meet 111 = .ok (.iaload, 1) := by decide +kernel
theorem dx_M_meet_112 : decode cd_M_meet 112 = .ok (.aload_n 0, 1) := by decide +kernel
theorem dx_M_meet_113 : decode cd_M_meet 113 = .ok (.getfield 13, 3) := by decide +kernel
theorem dx_M_meet_116 : decode cd_M_meet 116 = .ok (.iload 4, 2) := by decide +kernel
theorem dx_M_meet_118 : decode cd_M_meet 118 = .ok (.iaload, 1) := by decide +kernel
theorem dx_M_meet_119 : decode cd_M_meet 119 = .ok (.if_icmp .eq 5, 3) := by decide +kernel
theorem dx_M_meet_122 : decode cd_M_meet 122 = .ok (.iconst 0, 1) := by decide +kernel
theorem dx_M_meet_123 : decode cd_M_meet 123 = .ok (.ireturn, 1) := by decide +kernel
theorem dx_M_meet_124 : decode cd_M_meet 124 = .ok (.aload_n 0, 1) := by decide +kernel
theorem dx_M_meet_125 : decode cd_M_meet 125 = .ok (.getfield 13, 3) := by decide +kernel
theorem dx_M_meet_128 : decode cd_M_meet 128 = .ok (.iload_n 3, 1) := by decide +kernel
theorem dx_M_meet_129 : decode cd_M_meet 129 = .ok (.iaload, 1) := by decide +kernel
theorem dx_M_meet_130 : decode cd_M_meet 130 = .ok (.ifCond .le 20, 3) := by decide +kernel
theorem dx_M_meet_133 : decode cd_M_meet 133 = .ok (.aload_n 0, 1) := by decide +kernel
theorem dx_M_meet_134 : decode cd_M_meet 134 = .ok (.aload_n 0, 1) := by decide +kernel
theorem dx_M_meet_135 : decode cd_M_meet 135 = .ok (.getfield 16, 3) := by decide +kernel
theorem dx_M_meet_138 : decode cd_M_meet 138 = .ok (.iload_n 3, 1) := by decide +kernel
theorem dx_M_meet_139 : decode cd_M_meet 139 = .ok (.iaload, 1) := by decide +kernel
theorem dx_M_meet_140 : decode cd_M_meet 140 = .ok (.aload_n 0, 1) := by decide +kernel
theorem dx_M_meet_141 : decode cd_M_meet 141 = .ok (.getfield 16, 3) := by decide +kernel
theorem dx_M_meet_144 : decode cd_M_meet 144 = .ok (.iload 4, 2) := by decide +kernel
theorem dx_M_meet_146 : decode cd_M_meet 146 = .ok (.iaload, 1) := by decide +kernel
theorem dx_M_meet_147 : decode cd_M_meet 147 = .ok (.invokevirtual 127, 3) := by decide +kernel
theorem dx_M_meet_150 : decode cd_M_meet 150 = .ok (.aload_n 0, 1) := by decide +kernel
theorem dx_M_meet_151 : decode cd_M_meet 151 = .ok (.getfield 13, 3) := by decide +kernel
theorem dx_M_meet_154 : decode cd_M_meet 154 = .ok (.iload_n 3, 1) := by decide +kernel
theorem dx_M_meet_155 : decode cd_M_meet 155 = .ok (.iaload, 1) := by decide +kernel
theorem dx_M_meet_156 : decode cd_M_meet 156 = .ok (.iconst 1, 1) := by decide +kernel
theorem dx_M_meet_157 : decode cd_M_meet 157 = .ok (.if_icmp .le 20, 3) := by decide +kernel
theorem dx_M_meet_160 : decode cd_M_meet 160 = .ok (.aload_n 0, 1) := by decide +kernel
theorem dx_M_meet_161 : decode cd_M_meet 161 = .ok (.aload_n 0, 1) := by decide +kernel
theorem dx_M_meet_162 : decode cd_M_meet 162 = .ok (.getfield 19, 3) := by decide +kernel
theorem dx_M_meet_165 : decode cd_M_meet 165 = .ok (.iload_n 3, 1) := by decide +kernel
theorem dx_M_meet_166 : decode cd_M_meet 166 = .ok (.iaload, 1) := by decide +kernel
theorem dx_M_meet_167 : decode cd_M_meet 167 = .ok (.aload_n 0, 1) := by decide +kernel
theorem dx_M_meet_168 : decode cd_M_meet 168 = .ok (.getfield 19, 3) := by decide +kernel
theorem dx_M_meet_171 : decode cd_M_meet 171 = .ok (.iload 4, 2) := by decide +kernel
theorem dx_M_meet_173 : decode cd_M_meet 173 = .ok (.iaload, 1) := by decide +kernel
theorem dx_M_meet_174 : decode cd_M_meet 174 = .ok (.invokevirtual 127, 3) := by decide +kernel
theorem dx_M_meet_177 : decode cd_M_meet 177 = .ok (.iconst 1, 1) := by decide +kernel
theorem dx_M_meet_178 : decode cd_M_meet 178 = .ok (.ireturn, 1) := by decide +kernel
theorem dx_M_common_0 : decode cd_M_common 0 = .ok (.aload_n 0, 1) := by decide +kernel
theorem dx_M_common_1 : decode cd_M_common 1 = .ok (.iload_n 1, 1) := by decide +kernel
theorem dx_M_common_2 : decode cd_M_common 2 = .ok (.iload_n 2, 1) := by decide +kernel
theorem dx_M_common_3 : decode cd_M_common 3 = .ok (.invokevirtual 124, 3) := by decide +kernel
theorem dx_M_common_6 : decode cd_M_common 6 = .ok (.ifCond .eq 5, 3) := by decide +kernel
theorem dx_M_common_9 : decode cd_M_common 9 = .ok (.lconst 0, 1) := by decide +kernel
theorem dx_M_common_10 : decode cd_M_common 10 = .ok (.lreturn, 1) := by decide +kernel
theorem dx_M_common_11 : decode cd_M_common 11 = .ok (.iconst 0, 1) := by decide +kernel
theorem dx_M_common_12 : decode cd_M_common 12 = .ok (.istore_n 3, 1) := by decide +kernel
theorem dx_M_common_13 : decode cd_M_common 13 = .ok (.iload_n 3, 1) := by decide +kernel
theorem dx_M_common_14 : decode cd_M_common 14 = .ok (.sipush 1600, 3) := by decide +kernel
theorem dx_M_common_17 : decode cd_M_common 17 = .ok (.if_icmp .ge 16, 3) := by decide +kernel
theorem dx_M_common_20 : decode cd_M_common 20 = .ok (.aload_n 0, 1) := by decide +kernel
theorem dx_M_common_21 : decode cd_M_common 21 = .ok (.getfield 51, 3) := by decide +kernel
theorem dx_M_common_24 : decode cd_M_common 24 = .ok (.iload_n 3, 1) := by decide +kernel
theorem dx_M_common_25 : decode cd_M_common 25 = .ok (.lconst 0, 1) := by decide +kernel
theorem dx_M_common_26 : decode cd_M_common 26 = .ok (.lastore, 1) := by decide +kernel
theorem dx_M_common_27 : decode cd_M_common 27 = .ok (.iinc 3 1, 3) := by decide +kernel
theorem dx_M_common_30 : decode cd_M_common 30 = .ok (.goto (-17), 3) := by decide +kernel
theorem dx_M_common_33 : decode cd_M_common 33 = .ok (.aload_n 0, 1) := by decide +kernel
theorem dx_M_common_34 : decode cd_M_common 34 = .ok (.getfield 51, 3) := by decide +kernel
theorem dx_M_common_37 : decode cd_M_common 37 = .ok (.bipush 40, 2) := by decide +kernel
theorem dx_M_common_39 : decode cd_M_common 39 = .ok (.iload_n 1, 1) := by decide +kernel
theorem dx_M_common_40 : decode cd_M_common 40 = .ok (.imul, 1) := by decide +kernel
theorem dx_M_common_41 : decode cd_M_common 41 = .ok (.iload_n 2, 1) := by decide +kernel
theorem dx_M_common_42 : decode cd_M_common 42 = .ok (.iadd, 1) := by decide +kernel
theorem dx_M_common_43 : decode cd_M_common 43 = .ok (.laload, 1) := by decide +kernel
theorem dx_M_common_44 : decode cd_M_common 44 = .ok (.lconst 0, 1) := by decide +kernel
theorem dx_M_common_45 : decode cd_M_common 45 = .ok (.lcmp, 1) := by decide +kernel
theorem dx_M_common_46 : decode cd_M_common 46 = .ok (.ifCond .ne 91, 3) := by decide +kernel
theorem dx_M_common_49 : decode cd_M_common 49 = .ok (.iconst 0, 1) := by decide +kernel
theorem dx_M_common_50 : decode cd_M_common 50 = .ok (.istore_n 3, 1) := by decide +kernel
theorem dx_M_common_51 : decode cd_M_common 51 = .ok (.iload_n 3, 1) := by decide +kernel
theorem dx_M_common_52 : decode cd_M_common 52 = .ok (.aload_n 0, 1) := by decide +kernel
theorem dx_M_common_53 : decode cd_M_common 53 = .ok (.getfield 61, 3) := by decide +kernel
theorem dx_M_common_56 : decode cd_M_common 56 = .ok (.if_icmp .ge 78, 3) := by decide +kernel
theorem dx_M_common_59 : decode cd_M_common 59 = .ok (.iconst 0, 1) := by decide +kernel
theorem dx_M_common_60 : decode cd_M_common 60 = .ok (.istore 4, 2) := by decide +kernel
theorem dx_M_common_62 : decode cd_M_common 62 = .ok (.iload 4, 2) := by decide +kernel
theorem dx_M_common_64 : decode cd_M_common 64 = .ok (.aload_n 0, 1) := by decide +kernel
theorem dx_M_common_65 : decode cd_M_common 65 = .ok (.getfield 61, 3) := by decide +kernel
theorem dx_M_common_68 : decode cd_M_common 68 = .ok (.if_icmp .ge 60, 3) := by decide +kernel
theorem dx_M_common_71 : decode cd_M_common 71 = .ok (.aload_n 0, 1) := by decide +kernel
theorem dx_M_common_72 : decode cd_M_common 72 = .ok (.getfield 51, 3) := by decide +kernel
theorem dx_M_common_75 : decode cd_M_common 75 = .ok (.bipush 40, 2) := by decide +kernel
theorem dx_M_common_77 : decode cd_M_common 77 = .ok (.iload_n 3, 1) := by decide +kernel
theorem dx_M_common_78 : decode cd_M_common 78 = .ok (.imul, 1) := by decide +kernel
theorem dx_M_common_79 : decode cd_M_common 79 = .ok (.iload 4, 2) := by decide +kernel
theorem dx_M_common_81 : decode cd_M_common 81 = .ok (.iadd, 1) := by decide +kernel
theorem dx_M_common_82 : decode cd_M_common 82 = .ok (.aload_n 0, 1) := by decide +kernel
theorem dx_M_common_83 : decode cd_M_common 83 = .ok (.getfield 51, 3) := by decide +kernel
theorem dx_M_common_86 : decode cd_M_common 86 = .ok (.bipush 40, 2) := by decide +kernel
theorem dx_M_common_88 : decode cd_M_common 88 = .ok (.iload_n 3, 1) := by decide +kernel
theorem dx_M_common_89 : decode cd_M_common 89 = .ok (.imul, 1) := by decide +kernel
theorem dx_M_common_90 : decode cd_M_common 90 = .ok (.iload 4, 2) := by decide +kernel
theorem dx_M_common_92 : decode cd_M_common 92 = .ok (.iadd, 1) := by decide +kernel
theorem dx_M_common_93 : decode cd_M_common 93 = .ok (.laload, 1) := by decide +kernel
theorem dx_M_common_94 : decode cd_M_common 94 = .ok (.lconst 0, 1) := by decide +kernel
theorem dx_M_common_95 : decode cd_M_common 95 = .ok (.lcmp, 1) := by decide +kernel
theorem dx_M_common_96 : decode cd_M_common 96 = .ok (.ifCond .ne 13, 3) := by decide +kernel
theorem dx_M_common_99 : decode cd_M_common 99 = .ok (.aload_n 0, 1) := by decide +kernel
theorem dx_M_common_100 : decode cd_M_common 100 = .ok (.iload_n 3, 1) := by decide +kernel
theorem dx_M_common_101 : decode cd_M_common 101 = .ok (.iload 4, 2) := by decide +kernel
theorem dx_M_common_103 : decode cd_M_common 103 = .ok (.invokevirtual 133, 3) := by decide +kernel
theorem dx_M_common_106 : decode cd_M_common 106 = .ok (.goto 15, 3) := by decide +kernel
theorem dx_M_common_109 : decode cd_M_common 109 = .ok (.aload_n 0, 1) := by decide +kernel
theorem dx_M_common_110 : decode cd_M_common 110 = .ok (.getfield 51, 3) := by decide +kernel
theorem dx_M_common_113 : decode cd_M_common 113 = .ok (.bipush 40, 2) := by decide +kernel
theorem dx_M_common_115 : decode cd_M_common 115 = .ok (.iload_n 3, 1) := by decide +kernel
theorem dx_M_common_116 : decode cd_M_common 116 = .ok (.imul, 1) := by decide +kernel
theorem dx_M_common_117 : decode cd_M_common 117 = .ok (.iload 4, 2) := by decide +kernel
theorem dx_M_common_119 : decode cd_M_common 119 = .ok (.iadd, 1) := by decide +kernel
theorem dx_M_common_120 : decode cd_M_common 120 = .ok (.laload, 1) := by decide +kernel
theorem dx_M_common_121 : decode cd_M_common 121 = .ok (.lastore, 1) := by decide +kernel
theorem dx_M_common_122 : decode cd_M_common 122 = .ok (.iinc 4 1, 3) := by decide +kernel
theorem dx_M_common_125 : decode cd_M_common 125 = .ok (.goto (-63), 3) := by decide +kernel
theorem dx_M_common_128 : decode cd_M_common 128 = .ok (.iinc 3 1, 3) := by decide +kernel
theorem dx_M_common_131 : decode cd_M_common 131 = .ok (.goto (-80), 3) := by decide +kernel
theorem dx_M_common_134 : decode cd_M_common 134 = .ok (.goto (-101), 3) := by decide +kernel
theorem dx_M_common_137 : decode cd_M_common 137 = .ok (.aload_n 0, 1) := by decide +kernel
theorem dx_M_common_138 : decode cd_M_common 138 = .ok (.getfield 51, 3) := by decide +kernel
theorem dx_M_common_141 : decode cd_M_common 141 = .ok (.bipush 40, 2) := by decide +kernel
theorem dx_M_common_143 : decode cd_M_common 143 = .ok (.iload_n 1, 1) := by decide +kernel
theorem dx_M_common_144 : decode cd_M_common 144 = .ok (.imul, 1) := by decide +kernel
theorem dx_M_common_145 : decode cd_M_common 145 = .ok (.iload_n 2, 1) := by decide +kernel
theorem dx_M_common_146 : decode cd_M_common 146 = .ok (.iadd, 1) := by decide +kernel
theorem dx_M_common_147 : decode cd_M_common 147 = .ok (.laload, 1) := by decide +kernel
theorem dx_M_common_148 : decode cd_M_common 148 = .ok (.lreturn, 1) := by decide +kernel
theorem dx_M_together_0 : decode cd_M_together 0 = .ok (.aload_n 0, 1) := by decide +kernel
theorem dx_M_together_1 : decode cd_M_together 1 = .ok (.getfield 31, 3) := by decide +kernel
theorem dx_M_together_4 : decode cd_M_together 4 = .ok (.iload_n 1, 1) := by decide +kernel
theorem dx_M_together_5 : decode cd_M_together 5 = .ok (.iaload, 1) := by decide +kernel
theorem dx_M_together_6 : decode cd_M_together 6 = .ok (.istore_n 3, 1) := by decide +kernel
theorem dx_M_together_7 : decode cd_M_together 7 = .ok (.aload_n 0, 1) := by decide +kernel
theorem dx_M_together_8 : decode cd_M_together 8 = .ok (.getfield 31, 3) := by decide +kernel
theorem dx_M_together_11 : decode cd_M_together 11 = .ok (.iload_n 2, 1) := by decide +kernel
theorem dx_M_together_12 : decode cd_M_together 12 = .ok (.iaload, 1) := by decide +kernel
theorem dx_M_together_13 : decode cd_M_together 13 = .ok (.istore 4, 2) := by decide +kernel
theorem dx_M_together_15 : decode cd_M_together 15 = .ok (.iload_n 3, 1) := by decide +kernel
theorem dx_M_together_16 : decode cd_M_together 16 = .ok (.ifCond .lt 49, 3) := by decide +kernel
theorem dx_M_together_19 : decode cd_M_together 19 = .ok (.iload 4, 2) := by decide +kernel
theorem dx_M_together_21 : decode cd_M_together 21 = .ok (.ifCond .lt 44, 3) := by decide +kernel
theorem dx_M_together_24 : decode cd_M_together 24 = .ok (.aload_n 0, 1) := by decide +kernel
theorem dx_M_together_25 : decode cd_M_together 25 = .ok (.getfield 7, 3) := by decide +kernel
theorem dx_M_together_28 : decode cd_M_together 28 = .ok (.iload_n 3, 1) := by decide +kernel
theorem dx_M_together_29 : decode cd_M_together 29 = .ok (.iaload, 1) := by decide +kernel
theorem dx_M_together_30 : decode cd_M_together 30 = .ok (.aload_n 0, 1) := by decide +kernel
theorem dx_M_together_31 : decode cd_M_together 31 = .ok (.getfield 7, 3) := by decide +kernel
theorem dx_M_together_34 : decode cd_M_together 34 = .ok (.iload 4, 2) := by decide +kernel
theorem dx_M_together_36 : decode cd_M_together 36 = .ok (.iaload, 1) := by decide +kernel
theorem dx_M_together_37 : decode cd_M_together 37 = .ok (.if_icmp .ne 28, 3) := by decide +kernel
theorem dx_M_together_40 : decode cd_M_together 40 = .ok (.aload_n 0, 1) := by decide +kernel
theorem dx_M_together_41 : decode cd_M_together 41 = .ok (.getfield 13, 3) := by decide +kernel
theorem dx_M_together_44 : decode cd_M_together 44 = .ok (.iload_n 3, 1) := by decide +kernel
theorem dx_M_together_45 : decode cd_M_together 45 = .ok (.iaload, 1) := by decide +kernel
theorem dx_M_together_46 : decode cd_M_together 46 = .ok (.aload_n 0, 1) := by decide +kernel
theorem dx_M_together_47 : decode cd_M_together 47 = .ok (.getfield 13, 3) := by decide +kernel
theorem dx_M_together_50 : decode cd_M_together 50 = .ok (.iload 4, 2) := by decide +kernel
theorem dx_M_together_52 : decode cd_M_together 52 = .ok (.iaload, 1) := by decide +kernel
theorem dx_M_together_53 : decode cd_M_together 53 = .ok (.if_icmp .ne 12, 3) := by decide +kernel
theorem dx_M_together_56 : decode cd_M_together 56 = .ok (.aload_n 0, 1) := by decide +kernel
theorem dx_M_together_57 : decode cd_M_together 57 = .ok (.getfield 13, 3) := by decide +kernel
theorem dx_M_together_60 : decode cd_M_together 60 = .ok (.iload_n 3, 1) := by decide +kernel
theorem dx_M_together_61 : decode cd_M_together 61 = .ok (.iaload, 1) := by decide +kernel
theorem dx_M_together_62 : decode cd_M_together 62 = .ok (.ifCond .ne 5, 3) := by decide +kernel
theorem dx_M_together_65 : decode cd_M_together 65 = .ok (.lconst 1, 1) := by decide +kernel
theorem dx_M_together_66 : decode cd_M_together 66 = .ok (.lreturn, 1) := by decide +kernel
theorem dx_M_together_67 : decode cd_M_together 67 = .ok (.aload_n 0, 1) := by decide +kernel
theorem dx_M_together_68 : decode cd_M_together 68 = .ok (.getfield 51, 3) := by decide +kernel
theorem dx_M_together_71 : decode cd_M_together 71 = .ok (.bipush 40, 2) := by decide +kernel
theorem dx_M_together_73 : decode cd_M_together 73 = .ok (.aload_n 0, 1) := by decide +kernel
theorem dx_M_together_74 : decode cd_M_together 74 = .ok (.getfield 16, 3) := by decide +kernel
theorem dx_M_together_77 : decode cd_M_together 77 = .ok (.iload_n 3, 1) := by decide +kernel
theorem dx_M_together_78 : decode cd_M_together 78 = .ok (.iaload, 1) := by decide +kernel
theorem dx_M_together_79 : decode cd_M_together 79 = .ok (.imul, 1) := by decide +kernel
theorem dx_M_together_80 : decode cd_M_together 80 = .ok (.aload_n 0, 1) := by decide +kernel
theorem dx_M_together_81 : decode cd_M_together 81 = .ok (.getfield 16, 3) := by decide +kernel
theorem dx_M_together_84 : decode cd_M_together 84 = .ok (.iload 4, 2) := by decide +kernel
theorem dx_M_together_86 : decode cd_M_together 86 = .ok (.iaload, 1) := by decide +kernel
theorem dx_M_together_87 : decode cd_M_together 87 = .ok (.iadd, 1) := by decide +kernel
theorem dx_M_together_88 : decode cd_M_together 88 = .ok (.laload, 1) := by decide +kernel
theorem dx_M_together_89 : decode cd_M_together 89 = .ok (.lstore 5, 2) := by decide +kernel
theorem dx_M_together_91 : decode cd_M_together 91 = .ok (.aload_n 0, 1) := by decide +kernel
theorem dx_M_together_92 : decode cd_M_together 92 = .ok (.getfield 13, 3) := by decide +kernel
theorem dx_M_together_95 : decode cd_M_together 95 = .ok (.iload_n 3, 1) := by decide +kernel
theorem dx_M_together_96 : decode cd_M_together 96 = .ok (.iaload, 1) := by decide +kernel
theorem dx_M_together_97 : decode cd_M_together 97 = .ok (.iconst 2, 1) := by decide +kernel
theorem dx_M_together_98 : decode cd_M_together 98 = .ok (.if_icmp .ge 7, 3) := by decide +kernel
theorem dx_M_together_101 : decode cd_M_together 101 = .ok (.lconst 0, 1) := by decide +kernel
theorem dx_M_together_102 : decode cd_M_together 102 = .ok (.goto 25, 3) := by decide +kernel
theorem dx_M_together_105 : decode cd_M_together 105 = .ok (.aload_n 0, 1) := by decide +kernel
theorem dx_M_together_106 : decode cd_M_together 106 = .ok (.getfield 51, 3) := by decide +kernel
theorem dx_M_together_109 : decode cd_M_together 109 = .ok (.bipush 40, 2) := by decide +kernel
theorem dx_M_together_111 : decode cd_M_together 111 = .ok (.aload_n 0, 1) := by decide +kernel
theorem dx_M_together_112 : decode cd_M_together 112 = .ok (.getfield 19, 3) := by decide +kernel
theorem dx_M_together_115 : decode cd_M_together 115 = .ok (.iload_n 3, 1) := by decide +kernel
theorem dx_M_together_116 : decode cd_M_together 116 = .ok (.iaload, 1) := by decide +kernel
theorem dx_M_together_117 : decode cd_M_together 117 = .ok (.imul, 1) := by decide +kernel
theorem dx_M_together_118 : decode cd_M_together 118 = .ok (.aload_n 0, 1) := by decide +kernel
theorem dx_M_together_119 : decode cd_M_together 119 = .ok (.getfield 19, 3) := by decide +kernel
theorem dx_M_together_122 : decode cd_M_together 122 = .ok (.iload 4, 2) := by decide +kernel
theorem dx_M_together_124 : decode cd_M_together 124 = .ok (.iaload, 1) := by decide +kernel
theorem dx_M_together_125 : decode cd_M_together 125 = .ok (.iadd, 1) := by decide +kernel
theorem dx_M_together_126 : decode cd_M_together 126 = .ok (.laload, 1) := by decide +kernel
theorem dx_M_together_127 : decode cd_M_together 127 = .ok (.lstore 7, 2) := by decide +kernel
theorem dx_M_together_129 : decode cd_M_together 129 = .ok (.lload 5, 2) := by decide +kernel
theorem dx_M_together_131 : decode cd_M_together 131 = .ok (.lconst 0, 1) := by decide +kernel
theorem dx_M_together_132 : decode cd_M_together 132 = .ok (.lcmp, 1) := by decide +kernel
theorem dx_M_together_133 : decode cd_M_together 133 = .ok (.ifCond .eq 20, 3) := by decide +kernel
theorem dx_M_together_136 : decode cd_M_together 136 = .ok (.aload_n 0, 1) := by decide +kernel
theorem dx_M_together_137 : decode cd_M_together 137 = .ok (.getfield 13, 3) := by decide +kernel
theorem dx_M_together_140 : decode cd_M_together 140 = .ok (.iload_n 3, 1) := by decide +kernel
theorem dx_M_together_141 : decode cd_M_together 141 = .ok (.iaload, 1) := by decide +kernel
theorem dx_M_together_142 : decode cd_M_together 142 = .ok (.iconst 1, 1) := by decide +kernel
theorem dx_M_together_143 : decode cd_M_together 143 = .ok (.if_icmp .le 14, 3) := by decide +kernel
theorem dx_M_together_146 : decode cd_M_together 146 = .ok (.lload 7, 2) := by decide +kernel
theorem dx_M_together_148 : decode cd_M_together 148 = .ok (.lconst 0, 1) := by decide +kernel
theorem dx_M_together_149 : decode cd_M_together 149 = .ok (.lcmp, 1) := by decide +kernel
theorem dx_M_together_150 : decode cd_M_together 150 = .ok (.ifCond .ne 7, 3) := by decide +kernel
theorem dx_M_together_153 : decode cd_M_together 153 = .ok (.lconst 0, 1) := by decide +kernel
theorem dx_M_together_154 : decode cd_M_together 154 = .ok (.goto 10, 3) := by decide +kernel
theorem dx_M_together_157 : decode cd_M_together 157 = .ok (.lconst 1, 1) := by decide +kernel
theorem dx_M_together_158 : decode cd_M_together 158 = .ok (.lload 5, 2) := by decide +kernel
theorem dx_M_together_160 : decode cd_M_together 160 = .ok (.ladd, 1) := by decide +kernel
theorem dx_M_together_161 : decode cd_M_together 161 = .ok (.lload 7, 2) := by decide +kernel
theorem dx_M_together_163 : decode cd_M_together 163 = .ok (.ladd, 1) := by decide +kernel
theorem dx_M_together_164 : decode cd_M_together 164 = .ok (.lreturn, 1) := by decide +kernel
