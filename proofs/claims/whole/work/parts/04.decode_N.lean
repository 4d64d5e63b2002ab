theorem dx_N_init_0 : decode cd_N_init 0 = .ok (.aload_n 0, 1) := by decide +kernel
theorem dx_N_init_1 : decode cd_N_init 1 = .ok (.invokespecial 3, 3) := by decide +kernel
theorem dx_N_init_4 : decode cd_N_init 4 = .ok (.aload_n 0, 1) := by decide +kernel
theorem dx_N_init_5 : decode cd_N_init 5 = .ok (.bipush 40, 2) := by decide +kernel
theorem dx_N_init_7 : decode cd_N_init 7 = .ok (.newarray .int, 2) := by decide +kernel
theorem dx_N_init_9 : decode cd_N_init 9 = .ok (.putfield 9, 3) := by decide +kernel
theorem dx_N_init_12 : decode cd_N_init 12 = .ok (.aload_n 0, 1) := by decide +kernel
theorem dx_N_init_13 : decode cd_N_init 13 = .ok (.bipush 40, 2) := by decide +kernel
theorem dx_N_init_15 : decode cd_N_init 15 = .ok (.newarray .int, 2) := by decide +kernel
theorem dx_N_init_17 : decode cd_N_init 17 = .ok (.putfield 15, 3) := by decide +kernel
theorem dx_N_init_20 : decode cd_N_init 20 = .ok (.aload_n 0, 1) := by decide +kernel
theorem dx_N_init_21 : decode cd_N_init 21 = .ok (.bipush 40, 2) := by decide +kernel
theorem dx_N_init_23 : decode cd_N_init 23 = .ok (.newarray .int, 2) := by decide +kernel
theorem dx_N_init_25 : decode cd_N_init 25 = .ok (.putfield 18, 3) := by decide +kernel
theorem dx_N_init_28 : decode cd_N_init 28 = .ok (.aload_n 0, 1) := by decide +kernel
theorem dx_N_init_29 : decode cd_N_init 29 = .ok (.iconst 0, 1) := by decide +kernel
theorem dx_N_init_30 : decode cd_N_init 30 = .ok (.putfield 21, 3) := by decide +kernel
theorem dx_N_init_33 : decode cd_N_init 33 = .ok (.return_, 1) := by decide +kernel
theorem dx_N_areFull_0 : decode cd_N_areFull 0 = .ok (.aload_n 0, 1) := by decide +kernel
theorem dx_N_areFull_1 : decode cd_N_areFull 1 = .ok (.getfield 21, 3) := by decide +kernel
theorem dx_N_areFull_4 : decode cd_N_areFull 4 = .ok (.bipush 40, 2) := by decide +kernel
theorem dx_N_areFull_6 : decode cd_N_areFull 6 = .ok (.if_icmp .lt 7, 3) := by decide +kernel
theorem dx_N_areFull_9 : decode cd_N_areFull 9 = .ok (.iconst 1, 1) := by decide +kernel
theorem dx_N_areFull_10 : decode cd_N_areFull 10 = .ok (.goto 4, 3) := by decide +kernel
theorem dx_N_areFull_13 : decode cd_N_areFull 13 = .ok (.iconst 0, 1) := by decide +kernel
theorem dx_N_areFull_14 : decode cd_N_areFull 14 = .ok (.ireturn, 1) := by decide +kernel
theorem dx_N_add_0 : decode cd_N_add 0 = .ok (.aload_n 0, 1) := by decide +kernel
theorem dx_N_add_1 : decode cd_N_add 1 = .ok (.getfield 21, 3) := by decide +kernel
theorem dx_N_add_4 : decode cd_N_add 4 = .ok (.istore 4, 2) := by decide +kernel
theorem dx_N_add_6 : decode cd_N_add 6 = .ok (.aload_n 0, 1) := by decide +kernel
theorem dx_N_add_7 : decode cd_N_add 7 = .ok (.getfield 9, 3) := by decide +kernel
theorem dx_N_add_10 : decode cd_N_add 10 = .ok (.iload 4, 2) := by decide +kernel
theorem dx_N_add_12 : decode cd_N_add 12 = .ok (.iload_n 1, 1) := by decide +kernel
theorem dx_N_add_13 : decode cd_N_add 13 = .ok (.iastore, 1) := by decide +kernel
theorem dx_N_add_14 : decode cd_N_add 14 = .ok (.aload_n 0, 1) := by decide +kernel
theorem dx_N_add_15 : decode cd_N_add 15 = .ok (.getfield 15, 3) := by decide +kernel
theorem dx_N_add_18 : decode cd_N_add 18 = .ok (.iload 4, 2) := by decide +kernel
theorem dx_N_add_20 : decode cd_N_add 20 = .ok (.iload_n 2, 1) := by decide +kernel
theorem dx_N_add_21 : decode cd_N_add 21 = .ok (.iastore, 1) := by decide +kernel
theorem dx_N_add_22 : decode cd_N_add 22 = .ok (.aload_n 0, 1) := by decide +kernel
theorem dx_N_add_23 : decode cd_N_add 23 = .ok (.getfield 18, 3) := by decide +kernel
theorem dx_N_add_26 : decode cd_N_add 26 = .ok (.iload 4, 2) := by decide +kernel
theorem dx_N_add_28 : decode cd_N_add 28 = .ok (.iload_n 3, 1) := by decide +kernel
theorem dx_N_add_29 : decode cd_N_add 29 = .ok (.iastore, 1) := by decide +kernel
theorem dx_N_add_30 : decode cd_N_add 30 = .ok (.aload_n 0, 1) := by decide +kernel
theorem dx_N_add_31 : decode cd_N_add 31 = .ok (.dup, 1) := by decide +kernel
theorem dx_N_add_32 : decode cd_N_add 32 = .ok (.getfield 21, 3) := by decide +kernel
theorem dx_N_add_35 : decode cd_N_add 35 = .ok (.iconst 1, 1) := by decide +kernel
theorem dx_N_add_36 : decode cd_N_add 36 = .ok (.iadd, 1) := by decide +kernel
theorem dx_N_add_37 : decode cd_N_add 37 = .ok (.putfield 21, 3) := by decide +kernel
theorem dx_N_add_40 : decode cd_N_add 40 = .ok (.iload 4, 2) := by decide +kernel
theorem dx_N_add_42 : decode cd_N_add 42 = .ok (.ireturn, 1) := by decide +kernel
theorem dx_N_isVariable_0 : decode cd_N_isVariable 0 = .ok (.aload_n 0, 1) := by decide +kernel
theorem dx_N_isVariable_1 : decode cd_N_isVariable 1 = .ok (.getfield 9, 3) := by decide +kernel
theorem dx_N_isVariable_4 : decode cd_N_isVariable 4 = .ok (.iload_n 1, 1) := by decide +kernel
theorem dx_N_isVariable_5 : decode cd_N_isVariable 5 = .ok (.iaload, 1) := by decide +kernel
theorem dx_N_isVariable_6 : decode cd_N_isVariable 6 = .ok (.iconst (-1), 1) := by decide +kernel
theorem dx_N_isVariable_7 : decode cd_N_isVariable 7 = .ok (.if_icmp .ne 7, 3) := by decide +kernel
theorem dx_N_isVariable_10 : decode cd_N_isVariable 10 = .ok (.iconst 1, 1) := by decide +kernel
theorem dx_N_isVariable_11 : decode cd_N_isVariable 11 = .ok (.goto 4, 3) := by decide +kernel
theorem dx_N_isVariable_14 : decode cd_N_isVariable 14 = .ok (.iconst 0, 1) := by decide +kernel
theorem dx_N_isVariable_15 : decode cd_N_isVariable 15 = .ok (.ireturn, 1) := by decide +kernel
theorem dx_N_has_0 : decode cd_N_has 0 = .ok (.iload_n 1, 1) := by decide +kernel
theorem dx_N_has_1 : decode cd_N_has 1 = .ok (.ifCond .lt 15, 3) := by decide +kernel
theorem dx_N_has_4 : decode cd_N_has 4 = .ok (.iload_n 1, 1) := by decide +kernel
theorem dx_N_has_5 : decode cd_N_has 5 = .ok (.aload_n 0, 1) := by decide +kernel
theorem dx_N_has_6 : decode cd_N_has 6 = .ok (.getfield 21, 3) := by decide +kernel
theorem dx_N_has_9 : decode cd_N_has 9 = .ok (.if_icmp .ge 7, 3) := by decide +kernel
theorem dx_N_has_12 : decode cd_N_has 12 = .ok (.iconst 1, 1) := by decide +kernel
theorem dx_N_has_13 : decode cd_N_has 13 = .ok (.goto 4, 3) := by decide +kernel
theorem dx_N_has_16 : decode cd_N_has 16 = .ok (.iconst 0, 1) := by decide +kernel
theorem dx_N_has_17 : decode cd_N_has 17 = .ok (.ireturn, 1) := by decide +kernel
