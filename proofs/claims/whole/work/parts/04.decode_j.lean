theorem dx_jY_fill_0_0 : decode cd_jY_fill_0 0 = .ok (.iconst 0, 1) := by decide +kernel
theorem dx_jY_fill_0_1 : decode cd_jY_fill_0 1 = .ok (.istore_n 2, 1) := by decide +kernel
theorem dx_jY_fill_0_2 : decode cd_jY_fill_0 2 = .ok (.aload_n 0, 1) := by decide +kernel
theorem dx_jY_fill_0_3 : decode cd_jY_fill_0 3 = .ok (.arraylength, 1) := by decide +kernel
theorem dx_jY_fill_0_4 : decode cd_jY_fill_0 4 = .ok (.istore_n 3, 1) := by decide +kernel
theorem dx_jY_fill_0_5 : decode cd_jY_fill_0 5 = .ok (.iload_n 2, 1) := by decide +kernel
theorem dx_jY_fill_0_6 : decode cd_jY_fill_0 6 = .ok (.iload_n 3, 1) := by decide +kernel
theorem dx_jY_fill_0_7 : decode cd_jY_fill_0 7 = .ok (.if_icmp .ge 13, 3) := by decide +kernel
theorem dx_jY_fill_0_10 : decode cd_jY_fill_0 10 = .ok (.aload_n 0, 1) := by decide +kernel
theorem dx_jY_fill_0_11 : decode cd_jY_fill_0 11 = .ok (.iload_n 2, 1) := by decide +kernel
theorem dx_jY_fill_0_12 : decode cd_jY_fill_0 12 = .ok (.iload_n 1, 1) := by decide +kernel
theorem dx_jY_fill_0_13 : decode cd_jY_fill_0 13 = .ok (.iastore, 1) := by decide +kernel
theorem dx_jY_fill_0_14 : decode cd_jY_fill_0 14 = .ok (.iinc 2 1, 3) := by decide +kernel
theorem dx_jY_fill_0_17 : decode cd_jY_fill_0 17 = .ok (.goto (-12), 3) := by decide +kernel
theorem dx_jY_fill_0_20 : decode cd_jY_fill_0 20 = .ok (.return_, 1) := by decide +kernel
theorem dx_jM_max_0 : decode cd_jM_max 0 = .ok (.iload_n 0, 1) := by decide +kernel
theorem dx_jM_max_1 : decode cd_jM_max 1 = .ok (.iload_n 1, 1) := by decide +kernel
theorem dx_jM_max_2 : decode cd_jM_max 2 = .ok (.if_icmp .lt 7, 3) := by decide +kernel
theorem dx_jM_max_5 : decode cd_jM_max 5 = .ok (.iload_n 0, 1) := by decide +kernel
theorem dx_jM_max_6 : decode cd_jM_max 6 = .ok (.goto 4, 3) := by decide +kernel
theorem dx_jM_max_9 : decode cd_jM_max 9 = .ok (.iload_n 1, 1) := by decide +kernel
theorem dx_jM_max_10 : decode cd_jM_max 10 = .ok (.ireturn, 1) := by decide +kernel
theorem dx_jL_bitCount_0 : decode cd_jL_bitCount 0 = .ok (.lload_n 0, 1) := by decide +kernel
theorem dx_jL_bitCount_1 : decode cd_jL_bitCount 1 = .ok (.lload_n 0, 1) := by decide +kernel
theorem dx_jL_bitCount_2 : decode cd_jL_bitCount 2 = .ok (.iconst 1, 1) := by decide +kernel
theorem dx_jL_bitCount_3 : decode cd_jL_bitCount 3 = .ok (.lushr, 1) := by decide +kernel
theorem dx_jL_bitCount_4 : decode cd_jL_bitCount 4 = .ok (.ldc2_w 314, 3) := by decide +kernel
theorem dx_jL_bitCount_7 : decode cd_jL_bitCount 7 = .ok (.land, 1) := by decide +kernel
theorem dx_jL_bitCount_8 : decode cd_jL_bitCount 8 = .ok (.lsub, 1) := by decide +kernel
theorem dx_jL_bitCount_9 : decode cd_jL_bitCount 9 = .ok (.lstore_n 0, 1) := by decide +kernel
theorem dx_jL_bitCount_10 : decode cd_jL_bitCount 10 = .ok (.lload_n 0, 1) := by decide +kernel
theorem dx_jL_bitCount_11 : decode cd_jL_bitCount 11 = .ok (.ldc2_w 316, 3) := by decide +kernel
theorem dx_jL_bitCount_14 : decode cd_jL_bitCount 14 = .ok (.land, 1) := by decide +kernel
theorem dx_jL_bitCount_15 : decode cd_jL_bitCount 15 = .ok (.lload_n 0, 1) := by decide +kernel
theorem dx_jL_bitCount_16 : decode cd_jL_bitCount 16 = .ok (.iconst 2, 1) := by decide +kernel
theorem dx_jL_bitCount_17 : decode cd_jL_bitCount 17 = .ok (.lushr, 1) := by decide +kernel
theorem dx_jL_bitCount_18 : decode cd_jL_bitCount 18 = .ok (.ldc2_w 316, 3) := by decide +kernel
theorem dx_jL_bitCount_21 : decode cd_jL_bitCount 21 = .ok (.land, 1) := by decide +kernel
theorem dx_jL_bitCount_22 : decode cd_jL_bitCount 22 = .ok (.ladd, 1) := by decide +kernel
theorem dx_jL_bitCount_23 : decode cd_jL_bitCount 23 = .ok (.lstore_n 0, 1) := by decide +kernel
theorem dx_jL_bitCount_24 : decode cd_jL_bitCount 24 = .ok (.lload_n 0, 1) := by decide +kernel
theorem dx_jL_bitCount_25 : decode cd_jL_bitCount 25 = .ok (.lload_n 0, 1) := by decide +kernel
theorem dx_jL_bitCount_26 : decode cd_jL_bitCount 26 = .ok (.iconst 4, 1) := by decide +kernel
theorem dx_jL_bitCount_27 : decode cd_jL_bitCount 27 = .ok (.lushr, 1) := by decide +kernel
theorem dx_jL_bitCount_28 : decode cd_jL_bitCount 28 = .ok (.ladd, 1) := by decide +kernel
theorem dx_jL_bitCount_29 : decode cd_jL_bitCount 29 = .ok (.ldc2_w 318, 3) := by decide +kernel
theorem dx_jL_bitCount_32 : decode cd_jL_bitCount 32 = .ok (.land, 1) := by decide +kernel
theorem dx_jL_bitCount_33 : decode cd_jL_bitCount 33 = .ok (.lstore_n 0, 1) := by decide +kernel
theorem dx_jL_bitCount_34 : decode cd_jL_bitCount 34 = .ok (.lload_n 0, 1) := by decide +kernel
theorem dx_jL_bitCount_35 : decode cd_jL_bitCount 35 = .ok (.lload_n 0, 1) := by decide +kernel
theorem dx_jL_bitCount_36 : decode cd_jL_bitCount 36 = .ok (.bipush 8, 2) := by decide +kernel
theorem dx_jL_bitCount_38 : decode cd_jL_bitCount 38 = .ok (.lushr, 1) := by decide +kernel
theorem dx_jL_bitCount_39 : decode cd_jL_bitCount 39 = .ok (.ladd, 1) := by decide +kernel
theorem dx_jL_bitCount_40 : decode cd_jL_bitCount 40 = .ok (.lstore_n 0, 1) := by decide +kernel
theorem dx_jL_bitCount_41 : decode cd_jL_bitCount 41 = .ok (.lload_n 0, 1) := by decide +kernel
theorem dx_jL_bitCount_42 : decode cd_jL_bitCount 42 = .ok (.lload_n 0, 1) := by decide +kernel
theorem dx_jL_bitCount_43 : decode cd_jL_bitCount 43 = .ok (.bipush 16, 2) := by decide +kernel
theorem dx_jL_bitCount_45 : decode cd_jL_bitCount 45 = .ok (.lushr, 1) := by decide +kernel
theorem dx_jL_bitCount_46 : decode cd_jL_bitCount 46 = .ok (.ladd, 1) := by decide +kernel
theorem dx_jL_bitCount_47 : decode cd_jL_bitCount 47 = .ok (.lstore_n 0, 1) := by decide +kernel
theorem dx_jL_bitCount_48 : decode cd_jL_bitCount 48 = .ok (.lload_n 0, 1) := by decide +kernel
theorem dx_jL_bitCount_49 : decode cd_jL_bitCount 49 = .ok (.lload_n 0, 1) := by decide +kernel
theorem dx_jL_bitCount_50 : decode cd_jL_bitCount 50 = .ok (.bipush 32, 2) := by decide +kernel
theorem dx_jL_bitCount_52 : decode cd_jL_bitCount 52 = .ok (.lushr, 1) := by decide +kernel
theorem dx_jL_bitCount_53 : decode cd_jL_bitCount 53 = .ok (.ladd, 1) := by decide +kernel
theorem dx_jL_bitCount_54 : decode cd_jL_bitCount 54 = .ok (.lstore_n 0, 1) := by decide +kernel
theorem dx_jL_bitCount_55 : decode cd_jL_bitCount 55 = .ok (.lload_n 0, 1) := by decide +kernel
theorem dx_jL_bitCount_56 : decode cd_jL_bitCount 56 = .ok (.l2i, 1) := by decide +kernel
theorem dx_jL_bitCount_57 : decode cd_jL_bitCount 57 = .ok (.bipush 127, 2) := by decide +kernel
theorem dx_jL_bitCount_59 : decode cd_jL_bitCount 59 = .ok (.iand, 1) := by decide +kernel
theorem dx_jL_bitCount_60 : decode cd_jL_bitCount 60 = .ok (.ireturn, 1) := by decide +kernel
theorem dx_jY_fill_1_0 : decode cd_jY_fill_1 0 = .ok (.iconst 0, 1) := by decide +kernel
theorem dx_jY_fill_1_1 : decode cd_jY_fill_1 1 = .ok (.istore_n 3, 1) := by decide +kernel
theorem dx_jY_fill_1_2 : decode cd_jY_fill_1 2 = .ok (.aload_n 0, 1) := by decide +kernel
theorem dx_jY_fill_1_3 : decode cd_jY_fill_1 3 = .ok (.arraylength, 1) := by decide +kernel
theorem dx_jY_fill_1_4 : decode cd_jY_fill_1 4 = .ok (.istore 4, 2) := by decide +kernel
theorem dx_jY_fill_1_6 : decode cd_jY_fill_1 6 = .ok (.iload_n 3, 1) := by decide +kernel
theorem dx_jY_fill_1_7 : decode cd_jY_fill_1 7 = .ok (.iload 4, 2) := by decide +kernel
theorem dx_jY_fill_1_9 : decode cd_jY_fill_1 9 = .ok (.if_icmp .ge 13, 3) := by decide +kernel
theorem dx_jY_fill_1_12 : decode cd_jY_fill_1 12 = .ok (.aload_n 0, 1) := by decide +kernel
theorem dx_jY_fill_1_13 : decode cd_jY_fill_1 13 = .ok (.iload_n 3, 1) := by decide +kernel
theorem dx_jY_fill_1_14 : decode cd_jY_fill_1 14 = .ok (.lload_n 1, 1) := by decide +kernel
theorem dx_jY_fill_1_15 : decode cd_jY_fill_1 15 = .ok (.lastore, 1) := by decide +kernel
theorem dx_jY_fill_1_16 : decode cd_jY_fill_1 16 = .ok (.iinc 3 1, 3) := by decide +kernel
theorem dx_jY_fill_1_19 : decode cd_jY_fill_1 19 = .ok (.goto (-13), 3) := by decide +kernel
theorem dx_jY_fill_1_22 : decode cd_jY_fill_1 22 = .ok (.return_, 1) := by decide +kernel
