theorem qd_X_init_0 : decode qc_X_init 0 = .ok (.aload_n 0, 1) := by decide +kernel
theorem qd_X_init_1 : decode qc_X_init 1 = .ok (.invokespecial 1, 3) := by decide +kernel
theorem qd_X_init_4 : decode qc_X_init 4 = .ok (.aload_n 0, 1) := by decide +kernel
theorem qd_X_init_5 : decode qc_X_init 5 = .ok (.sipush 600, 3) := by decide +kernel
theorem qd_X_init_8 : decode qc_X_init 8 = .ok (.newarray .long, 2) := by decide +kernel
theorem qd_X_init_10 : decode qc_X_init 10 = .ok (.putfield 9, 3) := by decide +kernel
theorem qd_X_init_13 : decode qc_X_init 13 = .ok (.aload_n 0, 1) := by decide +kernel
theorem qd_X_init_14 : decode qc_X_init 14 = .ok (.iconst 0, 1) := by decide +kernel
theorem qd_X_init_15 : decode qc_X_init 15 = .ok (.putfield 13, 3) := by decide +kernel
theorem qd_X_init_18 : decode qc_X_init 18 = .ok (.aload_n 0, 1) := by decide +kernel
theorem qd_X_init_19 : decode qc_X_init 19 = .ok (.bipush 40, 2) := by decide +kernel
theorem qd_X_init_21 : decode qc_X_init 21 = .ok (.newarray .long, 2) := by decide +kernel
theorem qd_X_init_23 : decode qc_X_init 23 = .ok (.putfield 17, 3) := by decide +kernel
theorem qd_X_init_26 : decode qc_X_init 26 = .ok (.aload_n 0, 1) := by decide +kernel
theorem qd_X_init_27 : decode qc_X_init 27 = .ok (.iconst 0, 1) := by decide +kernel
theorem qd_X_init_28 : decode qc_X_init 28 = .ok (.putfield 20, 3) := by decide +kernel
theorem qd_X_init_31 : decode qc_X_init 31 = .ok (.return_, 1) := by decide +kernel
theorem qd_X_shows_0 : decode qc_X_shows 0 = .ok (.iload_n 1, 1) := by decide +kernel
theorem qd_X_shows_1 : decode qc_X_shows 1 = .ok (.ifCond .lt 14, 3) := by decide +kernel
theorem qd_X_shows_4 : decode qc_X_shows 4 = .ok (.iload_n 1, 1) := by decide +kernel
theorem qd_X_shows_5 : decode qc_X_shows 5 = .ok (.iload_n 2, 1) := by decide +kernel
theorem qd_X_shows_6 : decode qc_X_shows 6 = .ok (.if_icmp .ge 9, 3) := by decide +kernel
theorem qd_X_shows_9 : decode qc_X_shows 9 = .ok (.iload_n 2, 1) := by decide +kernel
theorem qd_X_shows_10 : decode qc_X_shows 10 = .ok (.ldc 54, 2) := by decide +kernel
theorem qd_X_shows_12 : decode qc_X_shows 12 = .ok (.if_icmp .le 5, 3) := by decide +kernel
theorem qd_X_shows_15 : decode qc_X_shows 15 = .ok (.iconst 0, 1) := by decide +kernel
theorem qd_X_shows_16 : decode qc_X_shows 16 = .ok (.ireturn, 1) := by decide +kernel
theorem qd_X_shows_17 : decode qc_X_shows 17 = .ok (.aload_n 0, 1) := by decide +kernel
theorem qd_X_shows_18 : decode qc_X_shows 18 = .ok (.getfield 20, 3) := by decide +kernel
theorem qd_X_shows_21 : decode qc_X_shows 21 = .ok (.iload_n 1, 1) := by decide +kernel
theorem qd_X_shows_22 : decode qc_X_shows 22 = .ok (.iload_n 2, 1) := by decide +kernel
theorem qd_X_shows_23 : decode qc_X_shows 23 = .ok (.invokestatic 40, 3) := by decide +kernel
theorem qd_X_shows_26 : decode qc_X_shows 26 = .ok (.if_icmp .eq 5, 3) := by decide +kernel
theorem qd_X_shows_29 : decode qc_X_shows 29 = .ok (.iconst 0, 1) := by decide +kernel
theorem qd_X_shows_30 : decode qc_X_shows 30 = .ok (.ireturn, 1) := by decide +kernel
theorem qd_X_shows_31 : decode qc_X_shows 31 = .ok (.aload_n 0, 1) := by decide +kernel
theorem qd_X_shows_32 : decode qc_X_shows 32 = .ok (.getfield 17, 3) := by decide +kernel
theorem qd_X_shows_35 : decode qc_X_shows 35 = .ok (.aload_n 0, 1) := by decide +kernel
theorem qd_X_shows_36 : decode qc_X_shows 36 = .ok (.getfield 20, 3) := by decide +kernel
theorem qd_X_shows_39 : decode qc_X_shows 39 = .ok (.iload_n 1, 1) := by decide +kernel
theorem qd_X_shows_40 : decode qc_X_shows 40 = .ok (.iload_n 2, 1) := by decide +kernel
theorem qd_X_shows_41 : decode qc_X_shows 41 = .ok (.lload_n 3, 1) := by decide +kernel
theorem qd_X_shows_42 : decode qc_X_shows 42 = .ok (.invokestatic 26, 3) := by decide +kernel
theorem qd_X_shows_45 : decode qc_X_shows 45 = .ok (.invokestatic 55, 3) := by decide +kernel
theorem qd_X_shows_48 : decode qc_X_shows 48 = .ok (.lload 5, 2) := by decide +kernel
theorem qd_X_shows_50 : decode qc_X_shows 50 = .ok (.lcmp, 1) := by decide +kernel
theorem qd_X_shows_51 : decode qc_X_shows 51 = .ok (.ifCond .ne 7, 3) := by decide +kernel
theorem qd_X_shows_54 : decode qc_X_shows 54 = .ok (.iconst 1, 1) := by decide +kernel
theorem qd_X_shows_55 : decode qc_X_shows 55 = .ok (.goto 4, 3) := by decide +kernel
theorem qd_X_shows_58 : decode qc_X_shows 58 = .ok (.iconst 0, 1) := by decide +kernel
theorem qd_X_shows_59 : decode qc_X_shows 59 = .ok (.ireturn, 1) := by decide +kernel
theorem qd_X_pathLength_0 : decode qc_X_pathLength 0 = .ok (.iload_n 0, 1) := by decide +kernel
theorem qd_X_pathLength_1 : decode qc_X_pathLength 1 = .ok (.istore_n 2, 1) := by decide +kernel
theorem qd_X_pathLength_2 : decode qc_X_pathLength 2 = .ok (.iload_n 1, 1) := by decide +kernel
theorem qd_X_pathLength_3 : decode qc_X_pathLength 3 = .ok (.istore_n 3, 1) := by decide +kernel
theorem qd_X_pathLength_4 : decode qc_X_pathLength 4 = .ok (.iconst 0, 1) := by decide +kernel
theorem qd_X_pathLength_5 : decode qc_X_pathLength 5 = .ok (.istore 4, 2) := by decide +kernel
theorem qd_X_pathLength_7 : decode qc_X_pathLength 7 = .ok (.iload_n 3, 1) := by decide +kernel
theorem qd_X_pathLength_8 : decode qc_X_pathLength 8 = .ok (.iconst 1, 1) := by decide +kernel
theorem qd_X_pathLength_9 : decode qc_X_pathLength 9 = .ok (.if_icmp .le 44, 3) := by decide +kernel
theorem qd_X_pathLength_12 : decode qc_X_pathLength 12 = .ok (.iload 4, 2) := by decide +kernel
theorem qd_X_pathLength_14 : decode qc_X_pathLength 14 = .ok (.bipush 40, 2) := by decide +kernel
theorem qd_X_pathLength_16 : decode qc_X_pathLength 16 = .ok (.if_icmp .ge 37, 3) := by decide +kernel
theorem qd_X_pathLength_19 : decode qc_X_pathLength 19 = .ok (.iload_n 3, 1) := by decide +kernel
theorem qd_X_pathLength_20 : decode qc_X_pathLength 20 = .ok (.invokestatic 44, 3) := by decide +kernel
theorem qd_X_pathLength_23 : decode qc_X_pathLength 23 = .ok (.istore 5, 2) := by decide +kernel
theorem qd_X_pathLength_25 : decode qc_X_pathLength 25 = .ok (.iload_n 2, 1) := by decide +kernel
theorem qd_X_pathLength_26 : decode qc_X_pathLength 26 = .ok (.iload 5, 2) := by decide +kernel
theorem qd_X_pathLength_28 : decode qc_X_pathLength 28 = .ok (.if_icmp .ge 9, 3) := by decide +kernel
theorem qd_X_pathLength_31 : decode qc_X_pathLength 31 = .ok (.iload 5, 2) := by decide +kernel
theorem qd_X_pathLength_33 : decode qc_X_pathLength 33 = .ok (.istore_n 3, 1) := by decide +kernel
theorem qd_X_pathLength_34 : decode qc_X_pathLength 34 = .ok (.goto 13, 3) := by decide +kernel
theorem qd_X_pathLength_37 : decode qc_X_pathLength 37 = .ok (.iload_n 2, 1) := by decide +kernel
theorem qd_X_pathLength_38 : decode qc_X_pathLength 38 = .ok (.iload 5, 2) := by decide +kernel
theorem qd_X_pathLength_40 : decode qc_X_pathLength 40 = .ok (.isub, 1) := by decide +kernel
theorem qd_X_pathLength_41 : decode qc_X_pathLength 41 = .ok (.istore_n 2, 1) := by decide +kernel
theorem qd_X_pathLength_42 : decode qc_X_pathLength 42 = .ok (.iload_n 3, 1) := by decide +kernel
theorem qd_X_pathLength_43 : decode qc_X_pathLength 43 = .ok (.iload 5, 2) := by decide +kernel
theorem qd_X_pathLength_45 : decode qc_X_pathLength 45 = .ok (.isub, 1) := by decide +kernel
theorem qd_X_pathLength_46 : decode qc_X_pathLength 46 = .ok (.istore_n 3, 1) := by decide +kernel
theorem qd_X_pathLength_47 : decode qc_X_pathLength 47 = .ok (.iinc 4 1, 3) := by decide +kernel
theorem qd_X_pathLength_50 : decode qc_X_pathLength 50 = .ok (.goto (-43), 3) := by decide +kernel
theorem qd_X_pathLength_53 : decode qc_X_pathLength 53 = .ok (.iload 4, 2) := by decide +kernel
theorem qd_X_pathLength_55 : decode qc_X_pathLength 55 = .ok (.ireturn, 1) := by decide +kernel
theorem qd_X_powerBelow_0 : decode qc_X_powerBelow 0 = .ok (.iconst 1, 1) := by decide +kernel
theorem qd_X_powerBelow_1 : decode qc_X_powerBelow 1 = .ok (.istore_n 1, 1) := by decide +kernel
theorem qd_X_powerBelow_2 : decode qc_X_powerBelow 2 = .ok (.iload_n 1, 1) := by decide +kernel
theorem qd_X_powerBelow_3 : decode qc_X_powerBelow 3 = .ok (.ldc 54, 2) := by decide +kernel
theorem qd_X_powerBelow_5 : decode qc_X_powerBelow 5 = .ok (.if_icmp .ge 17, 3) := by decide +kernel
theorem qd_X_powerBelow_8 : decode qc_X_powerBelow 8 = .ok (.iload_n 1, 1) := by decide +kernel
theorem qd_X_powerBelow_9 : decode qc_X_powerBelow 9 = .ok (.iload_n 0, 1) := by decide +kernel
theorem qd_X_powerBelow_10 : decode qc_X_powerBelow 10 = .ok (.iload_n 1, 1) := by decide +kernel
theorem qd_X_powerBelow_11 : decode qc_X_powerBelow 11 = .ok (.isub, 1) := by decide +kernel
theorem qd_X_powerBelow_12 : decode qc_X_powerBelow 12 = .ok (.if_icmp .ge 10, 3) := by decide +kernel
theorem qd_X_powerBelow_15 : decode qc_X_powerBelow 15 = .ok (.iload_n 1, 1) := by decide +kernel
theorem qd_X_powerBelow_16 : decode qc_X_powerBelow 16 = .ok (.iload_n 1, 1) := by decide +kernel
theorem qd_X_powerBelow_17 : decode qc_X_powerBelow 17 = .ok (.iadd, 1) := by decide +kernel
theorem qd_X_powerBelow_18 : decode qc_X_powerBelow 18 = .ok (.istore_n 1, 1) := by decide +kernel
theorem qd_X_powerBelow_19 : decode qc_X_powerBelow 19 = .ok (.goto (-17), 3) := by decide +kernel
theorem qd_X_powerBelow_22 : decode qc_X_powerBelow 22 = .ok (.iload_n 1, 1) := by decide +kernel
theorem qd_X_powerBelow_23 : decode qc_X_powerBelow 23 = .ok (.ireturn, 1) := by decide +kernel
theorem qd_X_leafOf_0 : decode qc_X_leafOf 0 = .ok (.lconst 1, 1) := by decide +kernel
theorem qd_X_leafOf_1 : decode qc_X_leafOf 1 = .ok (.lload_n 0, 1) := by decide +kernel
theorem qd_X_leafOf_2 : decode qc_X_leafOf 2 = .ok (.invokestatic 74, 3) := by decide +kernel
theorem qd_X_leafOf_5 : decode qc_X_leafOf 5 = .ok (.lreturn, 1) := by decide +kernel
theorem qd_X_mix_0 : decode qc_X_mix 0 = .ok (.lload_n 0, 1) := by decide +kernel
theorem qd_X_mix_1 : decode qc_X_mix 1 = .ok (.lload_n 2, 1) := by decide +kernel
theorem qd_X_mix_2 : decode qc_X_mix 2 = .ok (.lxor, 1) := by decide +kernel
theorem qd_X_mix_3 : decode qc_X_mix 3 = .ok (.ldc2_w 70, 3) := by decide +kernel
theorem qd_X_mix_6 : decode qc_X_mix 6 = .ok (.lmul, 1) := by decide +kernel
theorem qd_X_mix_7 : decode qc_X_mix 7 = .ok (.lstore 4, 2) := by decide +kernel
theorem qd_X_mix_9 : decode qc_X_mix 9 = .ok (.lload 4, 2) := by decide +kernel
theorem qd_X_mix_11 : decode qc_X_mix 11 = .ok (.lload 4, 2) := by decide +kernel
theorem qd_X_mix_13 : decode qc_X_mix 13 = .ok (.bipush 29, 2) := by decide +kernel
theorem qd_X_mix_15 : decode qc_X_mix 15 = .ok (.lushr, 1) := by decide +kernel
theorem qd_X_mix_16 : decode qc_X_mix 16 = .ok (.lxor, 1) := by decide +kernel
theorem qd_X_mix_17 : decode qc_X_mix 17 = .ok (.ldc2_w 72, 3) := by decide +kernel
theorem qd_X_mix_20 : decode qc_X_mix 20 = .ok (.lmul, 1) := by decide +kernel
theorem qd_X_mix_21 : decode qc_X_mix 21 = .ok (.lstore 6, 2) := by decide +kernel
theorem qd_X_mix_23 : decode qc_X_mix 23 = .ok (.lload 6, 2) := by decide +kernel
theorem qd_X_mix_25 : decode qc_X_mix 25 = .ok (.lload 6, 2) := by decide +kernel
theorem qd_X_mix_27 : decode qc_X_mix 27 = .ok (.bipush 32, 2) := by decide +kernel
theorem qd_X_mix_29 : decode qc_X_mix 29 = .ok (.lushr, 1) := by decide +kernel
theorem qd_X_mix_30 : decode qc_X_mix 30 = .ok (.lxor, 1) := by decide +kernel
theorem qd_X_mix_31 : decode qc_X_mix 31 = .ok (.lreturn, 1) := by decide +kernel
theorem qd_X_headByPath_0 : decode qc_X_headByPath 0 = .ok (.iload_n 1, 1) := by decide +kernel
theorem qd_X_headByPath_1 : decode qc_X_headByPath 1 = .ok (.ifCond .le 8, 3) := by decide +kernel
theorem qd_X_headByPath_4 : decode qc_X_headByPath 4 = .ok (.iload_n 3, 1) := by decide +kernel
theorem qd_X_headByPath_5 : decode qc_X_headByPath 5 = .ok (.iconst 1, 1) := by decide +kernel
theorem qd_X_headByPath_6 : decode qc_X_headByPath 6 = .ok (.if_icmp .gt 6, 3) := by decide +kernel
theorem qd_X_headByPath_9 : decode qc_X_headByPath 9 = .ok (.lload 4, 2) := by decide +kernel
theorem qd_X_headByPath_11 : decode qc_X_headByPath 11 = .ok (.lreturn, 1) := by decide +kernel
theorem qd_X_headByPath_12 : decode qc_X_headByPath 12 = .ok (.aload_n 0, 1) := by decide +kernel
theorem qd_X_headByPath_13 : decode qc_X_headByPath 13 = .ok (.iload_n 1, 1) := by decide +kernel
theorem qd_X_headByPath_14 : decode qc_X_headByPath 14 = .ok (.iconst 1, 1) := by decide +kernel
theorem qd_X_headByPath_15 : decode qc_X_headByPath 15 = .ok (.isub, 1) := by decide +kernel
theorem qd_X_headByPath_16 : decode qc_X_headByPath 16 = .ok (.laload, 1) := by decide +kernel
theorem qd_X_headByPath_17 : decode qc_X_headByPath 17 = .ok (.lstore 6, 2) := by decide +kernel
theorem qd_X_headByPath_19 : decode qc_X_headByPath 19 = .ok (.iload_n 3, 1) := by decide +kernel
theorem qd_X_headByPath_20 : decode qc_X_headByPath 20 = .ok (.invokestatic 44, 3) := by decide +kernel
theorem qd_X_headByPath_23 : decode qc_X_headByPath 23 = .ok (.istore 8, 2) := by decide +kernel
theorem qd_X_headByPath_25 : decode qc_X_headByPath 25 = .ok (.iload_n 2, 1) := by decide +kernel
theorem qd_X_headByPath_26 : decode qc_X_headByPath 26 = .ok (.iload 8, 2) := by decide +kernel
theorem qd_X_headByPath_28 : decode qc_X_headByPath 28 = .ok (.if_icmp .ge 21, 3) := by decide +kernel
theorem qd_X_headByPath_31 : decode qc_X_headByPath 31 = .ok (.aload_n 0, 1) := by decide +kernel
theorem qd_X_headByPath_32 : decode qc_X_headByPath 32 = .ok (.iload_n 1, 1) := by decide +kernel
theorem qd_X_headByPath_33 : decode qc_X_headByPath 33 = .ok (.iconst 1, 1) := by decide +kernel
theorem qd_X_headByPath_34 : decode qc_X_headByPath 34 = .ok (.isub, 1) := by decide +kernel
theorem qd_X_headByPath_35 : decode qc_X_headByPath 35 = .ok (.iload_n 2, 1) := by decide +kernel
theorem qd_X_headByPath_36 : decode qc_X_headByPath 36 = .ok (.iload 8, 2) := by decide +kernel
theorem qd_X_headByPath_38 : decode qc_X_headByPath 38 = .ok (.lload 4, 2) := by decide +kernel
theorem qd_X_headByPath_40 : decode qc_X_headByPath 40 = .ok (.invokestatic 55, 3) := by decide +kernel
theorem qd_X_headByPath_43 : decode qc_X_headByPath 43 = .ok (.lload 6, 2) := by decide +kernel
theorem qd_X_headByPath_45 : decode qc_X_headByPath 45 = .ok (.invokestatic 80, 3) := by decide +kernel
theorem qd_X_headByPath_48 : decode qc_X_headByPath 48 = .ok (.lreturn, 1) := by decide +kernel
theorem qd_X_headByPath_49 : decode qc_X_headByPath 49 = .ok (.lload 6, 2) := by decide +kernel
theorem qd_X_headByPath_51 : decode qc_X_headByPath 51 = .ok (.aload_n 0, 1) := by decide +kernel
theorem qd_X_headByPath_52 : decode qc_X_headByPath 52 = .ok (.iload_n 1, 1) := by decide +kernel
theorem qd_X_headByPath_53 : decode qc_X_headByPath 53 = .ok (.iconst 1, 1) := by decide +kernel
theorem qd_X_headByPath_54 : decode qc_X_headByPath 54 = .ok (.isub, 1) := by decide +kernel
theorem qd_X_headByPath_55 : decode qc_X_headByPath 55 = .ok (.iload_n 2, 1) := by decide +kernel
theorem qd_X_headByPath_56 : decode qc_X_headByPath 56 = .ok (.iload 8, 2) := by decide +kernel
theorem qd_X_headByPath_58 : decode qc_X_headByPath 58 = .ok (.isub, 1) := by decide +kernel
theorem qd_X_headByPath_59 : decode qc_X_headByPath 59 = .ok (.iload_n 3, 1) := by decide +kernel
theorem qd_X_headByPath_60 : decode qc_X_headByPath 60 = .ok (.iload 8, 2) := by decide +kernel
theorem qd_X_headByPath_62 : decode qc_X_headByPath 62 = .ok (.isub, 1) := by decide +kernel
theorem qd_X_headByPath_63 : decode qc_X_headByPath 63 = .ok (.lload 4, 2) := by decide +kernel
theorem qd_X_headByPath_65 : decode qc_X_headByPath 65 = .ok (.invokestatic 55, 3) := by decide +kernel
theorem qd_X_headByPath_68 : decode qc_X_headByPath 68 = .ok (.invokestatic 80, 3) := by decide +kernel
theorem qd_X_headByPath_71 : decode qc_X_headByPath 71 = .ok (.lreturn, 1) := by decide +kernel
theorem qd_X_nodeOf_0 : decode qc_X_nodeOf 0 = .ok (.ldc2_w 78, 3) := by decide +kernel
theorem qd_X_nodeOf_3 : decode qc_X_nodeOf 3 = .ok (.lload_n 0, 1) := by decide +kernel
theorem qd_X_nodeOf_4 : decode qc_X_nodeOf 4 = .ok (.invokestatic 74, 3) := by decide +kernel
theorem qd_X_nodeOf_7 : decode qc_X_nodeOf 7 = .ok (.lload_n 2, 1) := by decide +kernel
theorem qd_X_nodeOf_8 : decode qc_X_nodeOf 8 = .ok (.invokestatic 74, 3) := by decide +kernel
theorem qd_X_nodeOf_11 : decode qc_X_nodeOf 11 = .ok (.lreturn, 1) := by decide +kernel
theorem qd_X_grew_0 : decode qc_X_grew 0 = .ok (.iload_n 1, 1) := by decide +kernel
theorem qd_X_grew_1 : decode qc_X_grew 1 = .ok (.iconst 1, 1) := by decide +kernel
theorem qd_X_grew_2 : decode qc_X_grew 2 = .ok (.if_icmp .lt 14, 3) := by decide +kernel
theorem qd_X_grew_5 : decode qc_X_grew 5 = .ok (.iload_n 1, 1) := by decide +kernel
theorem qd_X_grew_6 : decode qc_X_grew 6 = .ok (.iload_n 2, 1) := by decide +kernel
theorem qd_X_grew_7 : decode qc_X_grew 7 = .ok (.if_icmp .gt 9, 3) := by decide +kernel
theorem qd_X_grew_10 : decode qc_X_grew 10 = .ok (.iload_n 2, 1) := by decide +kernel
theorem qd_X_grew_11 : decode qc_X_grew 11 = .ok (.ldc 54, 2) := by decide +kernel
theorem qd_X_grew_13 : decode qc_X_grew 13 = .ok (.if_icmp .le 5, 3) := by decide +kernel
theorem qd_X_grew_16 : decode qc_X_grew 16 = .ok (.iconst 0, 1) := by decide +kernel
theorem qd_X_grew_17 : decode qc_X_grew 17 = .ok (.ireturn, 1) := by decide +kernel
theorem qd_X_grew_18 : decode qc_X_grew 18 = .ok (.aload_n 0, 1) := by decide +kernel
theorem qd_X_grew_19 : decode qc_X_grew 19 = .ok (.getfield 20, 3) := by decide +kernel
theorem qd_X_grew_22 : decode qc_X_grew 22 = .ok (.iload_n 1, 1) := by decide +kernel
theorem qd_X_grew_23 : decode qc_X_grew 23 = .ok (.iload_n 2, 1) := by decide +kernel
theorem qd_X_grew_24 : decode qc_X_grew 24 = .ok (.invokestatic 48, 3) := by decide +kernel
theorem qd_X_grew_27 : decode qc_X_grew 27 = .ok (.if_icmp .eq 5, 3) := by decide +kernel
theorem qd_X_grew_30 : decode qc_X_grew 30 = .ok (.iconst 0, 1) := by decide +kernel
theorem qd_X_grew_31 : decode qc_X_grew 31 = .ok (.ireturn, 1) := by decide +kernel
theorem qd_X_grew_32 : decode qc_X_grew 32 = .ok (.aload_n 0, 1) := by decide +kernel
theorem qd_X_grew_33 : decode qc_X_grew 33 = .ok (.getfield 17, 3) := by decide +kernel
theorem qd_X_grew_36 : decode qc_X_grew 36 = .ok (.aload_n 0, 1) := by decide +kernel
theorem qd_X_grew_37 : decode qc_X_grew 37 = .ok (.getfield 20, 3) := by decide +kernel
theorem qd_X_grew_40 : decode qc_X_grew 40 = .ok (.iload_n 1, 1) := by decide +kernel
theorem qd_X_grew_41 : decode qc_X_grew 41 = .ok (.iload_n 2, 1) := by decide +kernel
theorem qd_X_grew_42 : decode qc_X_grew 42 = .ok (.lload_n 3, 1) := by decide +kernel
theorem qd_X_grew_43 : decode qc_X_grew 43 = .ok (.invokestatic 59, 3) := by decide +kernel
theorem qd_X_grew_46 : decode qc_X_grew 46 = .ok (.lload_n 3, 1) := by decide +kernel
theorem qd_X_grew_47 : decode qc_X_grew 47 = .ok (.lcmp, 1) := by decide +kernel
theorem qd_X_grew_48 : decode qc_X_grew 48 = .ok (.ifCond .ne 27, 3) := by decide +kernel
theorem qd_X_grew_51 : decode qc_X_grew 51 = .ok (.aload_n 0, 1) := by decide +kernel
theorem qd_X_grew_52 : decode qc_X_grew 52 = .ok (.getfield 17, 3) := by decide +kernel
theorem qd_X_grew_55 : decode qc_X_grew 55 = .ok (.aload_n 0, 1) := by decide +kernel
theorem qd_X_grew_56 : decode qc_X_grew 56 = .ok (.getfield 20, 3) := by decide +kernel
theorem qd_X_grew_59 : decode qc_X_grew 59 = .ok (.iload_n 1, 1) := by decide +kernel
theorem qd_X_grew_60 : decode qc_X_grew 60 = .ok (.iload_n 2, 1) := by decide +kernel
theorem qd_X_grew_61 : decode qc_X_grew 61 = .ok (.lload_n 3, 1) := by decide +kernel
theorem qd_X_grew_62 : decode qc_X_grew 62 = .ok (.invokestatic 62, 3) := by decide +kernel
theorem qd_X_grew_65 : decode qc_X_grew 65 = .ok (.lload 5, 2) := by decide +kernel
theorem qd_X_grew_67 : decode qc_X_grew 67 = .ok (.lcmp, 1) := by decide +kernel
theorem qd_X_grew_68 : decode qc_X_grew 68 = .ok (.ifCond .ne 7, 3) := by decide +kernel
theorem qd_X_grew_71 : decode qc_X_grew 71 = .ok (.iconst 1, 1) := by decide +kernel
theorem qd_X_grew_72 : decode qc_X_grew 72 = .ok (.goto 4, 3) := by decide +kernel
theorem qd_X_grew_75 : decode qc_X_grew 75 = .ok (.iconst 0, 1) := by decide +kernel
theorem qd_X_grew_76 : decode qc_X_grew 76 = .ok (.ireturn, 1) := by decide +kernel
theorem qd_X_stepsLength_0 : decode qc_X_stepsLength 0 = .ok (.iload_n 0, 1) := by decide +kernel
theorem qd_X_stepsLength_1 : decode qc_X_stepsLength 1 = .ok (.istore_n 2, 1) := by decide +kernel
theorem qd_X_stepsLength_2 : decode qc_X_stepsLength 2 = .ok (.iload_n 1, 1) := by decide +kernel
theorem qd_X_stepsLength_3 : decode qc_X_stepsLength 3 = .ok (.istore_n 3, 1) := by decide +kernel
theorem qd_X_stepsLength_4 : decode qc_X_stepsLength 4 = .ok (.iconst 1, 1) := by decide +kernel
theorem qd_X_stepsLength_5 : decode qc_X_stepsLength 5 = .ok (.istore 4, 2) := by decide +kernel
theorem qd_X_stepsLength_7 : decode qc_X_stepsLength 7 = .ok (.iconst 0, 1) := by decide +kernel
theorem qd_X_stepsLength_8 : decode qc_X_stepsLength 8 = .ok (.istore 5, 2) := by decide +kernel
theorem qd_X_stepsLength_10 : decode qc_X_stepsLength 10 = .ok (.iload_n 2, 1) := by decide +kernel
theorem qd_X_stepsLength_11 : decode qc_X_stepsLength 11 = .ok (.iload_n 3, 1) := by decide +kernel
theorem qd_X_stepsLength_12 : decode qc_X_stepsLength 12 = .ok (.if_icmp .eq 47, 3) := by decide +kernel
theorem qd_X_stepsLength_15 : decode qc_X_stepsLength 15 = .ok (.iload 5, 2) := by decide +kernel
theorem qd_X_stepsLength_17 : decode qc_X_stepsLength 17 = .ok (.bipush 39, 2) := by decide +kernel
theorem qd_X_stepsLength_19 : decode qc_X_stepsLength 19 = .ok (.if_icmp .ge 40, 3) := by decide +kernel
theorem qd_X_stepsLength_22 : decode qc_X_stepsLength 22 = .ok (.iload_n 3, 1) := by decide +kernel
theorem qd_X_stepsLength_23 : decode qc_X_stepsLength 23 = .ok (.invokestatic 44, 3) := by decide +kernel
theorem qd_X_stepsLength_26 : decode qc_X_stepsLength 26 = .ok (.istore 6, 2) := by decide +kernel
theorem qd_X_stepsLength_28 : decode qc_X_stepsLength 28 = .ok (.iload_n 2, 1) := by decide +kernel
theorem qd_X_stepsLength_29 : decode qc_X_stepsLength 29 = .ok (.iload 6, 2) := by decide +kernel
theorem qd_X_stepsLength_31 : decode qc_X_stepsLength 31 = .ok (.if_icmp .gt 9, 3) := by decide +kernel
theorem qd_X_stepsLength_34 : decode qc_X_stepsLength 34 = .ok (.iload 6, 2) := by decide +kernel
theorem qd_X_stepsLength_36 : decode qc_X_stepsLength 36 = .ok (.istore_n 3, 1) := by decide +kernel
theorem qd_X_stepsLength_37 : decode qc_X_stepsLength 37 = .ok (.goto 16, 3) := by decide +kernel
theorem qd_X_stepsLength_40 : decode qc_X_stepsLength 40 = .ok (.iload_n 2, 1) := by decide +kernel
theorem qd_X_stepsLength_41 : decode qc_X_stepsLength 41 = .ok (.iload 6, 2) := by decide +kernel
theorem qd_X_stepsLength_43 : decode qc_X_stepsLength 43 = .ok (.isub, 1) := by decide +kernel
theorem qd_X_stepsLength_44 : decode qc_X_stepsLength 44 = .ok (.istore_n 2, 1) := by decide +kernel
theorem qd_X_stepsLength_45 : decode qc_X_stepsLength 45 = .ok (.iload_n 3, 1) := by decide +kernel
theorem qd_X_stepsLength_46 : decode qc_X_stepsLength 46 = .ok (.iload 6, 2) := by decide +kernel
theorem qd_X_stepsLength_48 : decode qc_X_stepsLength 48 = .ok (.isub, 1) := by decide +kernel
theorem qd_X_stepsLength_49 : decode qc_X_stepsLength 49 = .ok (.istore_n 3, 1) := by decide +kernel
theorem qd_X_stepsLength_50 : decode qc_X_stepsLength 50 = .ok (.iconst 0, 1) := by decide +kernel
theorem qd_X_stepsLength_51 : decode qc_X_stepsLength 51 = .ok (.istore 4, 2) := by decide +kernel
theorem qd_X_stepsLength_53 : decode qc_X_stepsLength 53 = .ok (.iinc 5 1, 3) := by decide +kernel
theorem qd_X_stepsLength_56 : decode qc_X_stepsLength 56 = .ok (.goto (-46), 3) := by decide +kernel
theorem qd_X_stepsLength_59 : decode qc_X_stepsLength 59 = .ok (.iload 4, 2) := by decide +kernel
theorem qd_X_stepsLength_61 : decode qc_X_stepsLength 61 = .ok (.ifCond .eq 8, 3) := by decide +kernel
theorem qd_X_stepsLength_64 : decode qc_X_stepsLength 64 = .ok (.iload 5, 2) := by decide +kernel
theorem qd_X_stepsLength_66 : decode qc_X_stepsLength 66 = .ok (.goto 7, 3) := by decide +kernel
theorem qd_X_stepsLength_69 : decode qc_X_stepsLength 69 = .ok (.iload 5, 2) := by decide +kernel
theorem qd_X_stepsLength_71 : decode qc_X_stepsLength 71 = .ok (.iconst 1, 1) := by decide +kernel
theorem qd_X_stepsLength_72 : decode qc_X_stepsLength 72 = .ok (.iadd, 1) := by decide +kernel
theorem qd_X_stepsLength_73 : decode qc_X_stepsLength 73 = .ok (.ireturn, 1) := by decide +kernel
theorem qd_X_oldHeadBySteps_0 : decode qc_X_oldHeadBySteps 0 = .ok (.iload_n 1, 1) := by decide +kernel
theorem qd_X_oldHeadBySteps_1 : decode qc_X_oldHeadBySteps 1 = .ok (.ifCond .gt 6, 3) := by decide +kernel
theorem qd_X_oldHeadBySteps_4 : decode qc_X_oldHeadBySteps 4 = .ok (.lload 4, 2) := by decide +kernel
theorem qd_X_oldHeadBySteps_6 : decode qc_X_oldHeadBySteps 6 = .ok (.lreturn, 1) := by decide +kernel
theorem qd_X_oldHeadBySteps_7 : decode qc_X_oldHeadBySteps 7 = .ok (.aload_n 0, 1) := by decide +kernel
theorem qd_X_oldHeadBySteps_8 : decode qc_X_oldHeadBySteps 8 = .ok (.iload_n 1, 1) := by decide +kernel
theorem qd_X_oldHeadBySteps_9 : decode qc_X_oldHeadBySteps 9 = .ok (.iconst 1, 1) := by decide +kernel
theorem qd_X_oldHeadBySteps_10 : decode qc_X_oldHeadBySteps 10 = .ok (.isub, 1) := by decide +kernel
theorem qd_X_oldHeadBySteps_11 : decode qc_X_oldHeadBySteps 11 = .ok (.laload, 1) := by decide +kernel
theorem qd_X_oldHeadBySteps_12 : decode qc_X_oldHeadBySteps 12 = .ok (.lstore 6, 2) := by decide +kernel
theorem qd_X_oldHeadBySteps_14 : decode qc_X_oldHeadBySteps 14 = .ok (.iload_n 2, 1) := by decide +kernel
theorem qd_X_oldHeadBySteps_15 : decode qc_X_oldHeadBySteps 15 = .ok (.iload_n 3, 1) := by decide +kernel
theorem qd_X_oldHeadBySteps_16 : decode qc_X_oldHeadBySteps 16 = .ok (.if_icmp .lt 6, 3) := by decide +kernel
theorem qd_X_oldHeadBySteps_19 : decode qc_X_oldHeadBySteps 19 = .ok (.lload 6, 2) := by decide +kernel
theorem qd_X_oldHeadBySteps_21 : decode qc_X_oldHeadBySteps 21 = .ok (.lreturn, 1) := by decide +kernel
theorem qd_X_oldHeadBySteps_22 : decode qc_X_oldHeadBySteps 22 = .ok (.iload_n 3, 1) := by decide +kernel
theorem qd_X_oldHeadBySteps_23 : decode qc_X_oldHeadBySteps 23 = .ok (.invokestatic 44, 3) := by decide +kernel
theorem qd_X_oldHeadBySteps_26 : decode qc_X_oldHeadBySteps 26 = .ok (.istore 8, 2) := by decide +kernel
theorem qd_X_oldHeadBySteps_28 : decode qc_X_oldHeadBySteps 28 = .ok (.iload_n 2, 1) := by decide +kernel
theorem qd_X_oldHeadBySteps_29 : decode qc_X_oldHeadBySteps 29 = .ok (.iload 8, 2) := by decide +kernel
theorem qd_X_oldHeadBySteps_31 : decode qc_X_oldHeadBySteps 31 = .ok (.if_icmp .gt 16, 3) := by decide +kernel
theorem qd_X_oldHeadBySteps_34 : decode qc_X_oldHeadBySteps 34 = .ok (.aload_n 0, 1) := by decide +kernel
theorem qd_X_oldHeadBySteps_35 : decode qc_X_oldHeadBySteps 35 = .ok (.iload_n 1, 1) := by decide +kernel
theorem qd_X_oldHeadBySteps_36 : decode qc_X_oldHeadBySteps 36 = .ok (.iconst 1, 1) := by decide +kernel
theorem qd_X_oldHeadBySteps_37 : decode qc_X_oldHeadBySteps 37 = .ok (.isub, 1) := by decide +kernel
theorem qd_X_oldHeadBySteps_38 : decode qc_X_oldHeadBySteps 38 = .ok (.iload_n 2, 1) := by decide +kernel
theorem qd_X_oldHeadBySteps_39 : decode qc_X_oldHeadBySteps 39 = .ok (.iload 8, 2) := by decide +kernel
theorem qd_X_oldHeadBySteps_41 : decode qc_X_oldHeadBySteps 41 = .ok (.lload 4, 2) := by decide +kernel
theorem qd_X_oldHeadBySteps_43 : decode qc_X_oldHeadBySteps 43 = .ok (.invokestatic 59, 3) := by decide +kernel
theorem qd_X_oldHeadBySteps_46 : decode qc_X_oldHeadBySteps 46 = .ok (.lreturn, 1) := by decide +kernel
theorem qd_X_oldHeadBySteps_47 : decode qc_X_oldHeadBySteps 47 = .ok (.lload 6, 2) := by decide +kernel
theorem qd_X_oldHeadBySteps_49 : decode qc_X_oldHeadBySteps 49 = .ok (.aload_n 0, 1) := by decide +kernel
theorem qd_X_oldHeadBySteps_50 : decode qc_X_oldHeadBySteps 50 = .ok (.iload_n 1, 1) := by decide +kernel
theorem qd_X_oldHeadBySteps_51 : decode qc_X_oldHeadBySteps 51 = .ok (.iconst 1, 1) := by decide +kernel
theorem qd_X_oldHeadBySteps_52 : decode qc_X_oldHeadBySteps 52 = .ok (.isub, 1) := by decide +kernel
theorem qd_X_oldHeadBySteps_53 : decode qc_X_oldHeadBySteps 53 = .ok (.iload_n 2, 1) := by decide +kernel
theorem qd_X_oldHeadBySteps_54 : decode qc_X_oldHeadBySteps 54 = .ok (.iload 8, 2) := by decide +kernel
theorem qd_X_oldHeadBySteps_56 : decode qc_X_oldHeadBySteps 56 = .ok (.isub, 1) := by decide +kernel
theorem qd_X_oldHeadBySteps_57 : decode qc_X_oldHeadBySteps 57 = .ok (.iload_n 3, 1) := by decide +kernel
theorem qd_X_oldHeadBySteps_58 : decode qc_X_oldHeadBySteps 58 = .ok (.iload 8, 2) := by decide +kernel
theorem qd_X_oldHeadBySteps_60 : decode qc_X_oldHeadBySteps 60 = .ok (.isub, 1) := by decide +kernel
theorem qd_X_oldHeadBySteps_61 : decode qc_X_oldHeadBySteps 61 = .ok (.lload 4, 2) := by decide +kernel
theorem qd_X_oldHeadBySteps_63 : decode qc_X_oldHeadBySteps 63 = .ok (.invokestatic 59, 3) := by decide +kernel
theorem qd_X_oldHeadBySteps_66 : decode qc_X_oldHeadBySteps 66 = .ok (.invokestatic 80, 3) := by decide +kernel
theorem qd_X_oldHeadBySteps_69 : decode qc_X_oldHeadBySteps 69 = .ok (.lreturn, 1) := by decide +kernel
theorem qd_X_newHeadBySteps_0 : decode qc_X_newHeadBySteps 0 = .ok (.iload_n 1, 1) := by decide +kernel
theorem qd_X_newHeadBySteps_1 : decode qc_X_newHeadBySteps 1 = .ok (.ifCond .gt 6, 3) := by decide +kernel
theorem qd_X_newHeadBySteps_4 : decode qc_X_newHeadBySteps 4 = .ok (.lload 4, 2) := by decide +kernel
theorem qd_X_newHeadBySteps_6 : decode qc_X_newHeadBySteps 6 = .ok (.lreturn, 1) := by decide +kernel
theorem qd_X_newHeadBySteps_7 : decode qc_X_newHeadBySteps 7 = .ok (.aload_n 0, 1) := by decide +kernel
theorem qd_X_newHeadBySteps_8 : decode qc_X_newHeadBySteps 8 = .ok (.iload_n 1, 1) := by decide +kernel
theorem qd_X_newHeadBySteps_9 : decode qc_X_newHeadBySteps 9 = .ok (.iconst 1, 1) := by decide +kernel
theorem qd_X_newHeadBySteps_10 : decode qc_X_newHeadBySteps 10 = .ok (.isub, 1) := by decide +kernel
theorem qd_X_newHeadBySteps_11 : decode qc_X_newHeadBySteps 11 = .ok (.laload, 1) := by decide +kernel
theorem qd_X_newHeadBySteps_12 : decode qc_X_newHeadBySteps 12 = .ok (.lstore 6, 2) := by decide +kernel
theorem qd_X_newHeadBySteps_14 : decode qc_X_newHeadBySteps 14 = .ok (.iload_n 2, 1) := by decide +kernel
theorem qd_X_newHeadBySteps_15 : decode qc_X_newHeadBySteps 15 = .ok (.iload_n 3, 1) := by decide +kernel
theorem qd_X_newHeadBySteps_16 : decode qc_X_newHeadBySteps 16 = .ok (.if_icmp .lt 6, 3) := by decide +kernel
theorem qd_X_newHeadBySteps_19 : decode qc_X_newHeadBySteps 19 = .ok (.lload 6, 2) := by decide +kernel
theorem qd_X_newHeadBySteps_21 : decode qc_X_newHeadBySteps 21 = .ok (.lreturn, 1) := by decide +kernel
theorem qd_X_newHeadBySteps_22 : decode qc_X_newHeadBySteps 22 = .ok (.iload_n 3, 1) := by decide +kernel
theorem qd_X_newHeadBySteps_23 : decode qc_X_newHeadBySteps 23 = .ok (.invokestatic 44, 3) := by decide +kernel
theorem qd_X_newHeadBySteps_26 : decode qc_X_newHeadBySteps 26 = .ok (.istore 8, 2) := by decide +kernel
theorem qd_X_newHeadBySteps_28 : decode qc_X_newHeadBySteps 28 = .ok (.iload_n 2, 1) := by decide +kernel
theorem qd_X_newHeadBySteps_29 : decode qc_X_newHeadBySteps 29 = .ok (.iload 8, 2) := by decide +kernel
theorem qd_X_newHeadBySteps_31 : decode qc_X_newHeadBySteps 31 = .ok (.if_icmp .gt 21, 3) := by decide +kernel
theorem qd_X_newHeadBySteps_34 : decode qc_X_newHeadBySteps 34 = .ok (.aload_n 0, 1) := by decide +kernel
theorem qd_X_newHeadBySteps_35 : decode qc_X_newHeadBySteps 35 = .ok (.iload_n 1, 1) := by decide +kernel
theorem qd_X_newHeadBySteps_36 : decode qc_X_newHeadBySteps 36 = .ok (.iconst 1, 1) := by decide +kernel
theorem qd_X_newHeadBySteps_37 : decode qc_X_newHeadBySteps 37 = .ok (.isub, 1) := by decide +kernel
theorem qd_X_newHeadBySteps_38 : decode qc_X_newHeadBySteps 38 = .ok (.iload_n 2, 1) := by decide +kernel
theorem qd_X_newHeadBySteps_39 : decode qc_X_newHeadBySteps 39 = .ok (.iload 8, 2) := by decide +kernel
theorem qd_X_newHeadBySteps_41 : decode qc_X_newHeadBySteps 41 = .ok (.lload 4, 2) := by decide +kernel
theorem qd_X_newHeadBySteps_43 : decode qc_X_newHeadBySteps 43 = .ok (.invokestatic 62, 3) := by decide +kernel
theorem qd_X_newHeadBySteps_46 : decode qc_X_newHeadBySteps 46 = .ok (.lload 6, 2) := by decide +kernel
theorem qd_X_newHeadBySteps_48 : decode qc_X_newHeadBySteps 48 = .ok (.invokestatic 80, 3) := by decide +kernel
theorem qd_X_newHeadBySteps_51 : decode qc_X_newHeadBySteps 51 = .ok (.lreturn, 1) := by decide +kernel
theorem qd_X_newHeadBySteps_52 : decode qc_X_newHeadBySteps 52 = .ok (.lload 6, 2) := by decide +kernel
theorem qd_X_newHeadBySteps_54 : decode qc_X_newHeadBySteps 54 = .ok (.aload_n 0, 1) := by decide +kernel
theorem qd_X_newHeadBySteps_55 : decode qc_X_newHeadBySteps 55 = .ok (.iload_n 1, 1) := by decide +kernel
theorem qd_X_newHeadBySteps_56 : decode qc_X_newHeadBySteps 56 = .ok (.iconst 1, 1) := by decide +kernel
theorem qd_X_newHeadBySteps_57 : decode qc_X_newHeadBySteps 57 = .ok (.isub, 1) := by decide +kernel
theorem qd_X_newHeadBySteps_58 : decode qc_X_newHeadBySteps 58 = .ok (.iload_n 2, 1) := by decide +kernel
theorem qd_X_newHeadBySteps_59 : decode qc_X_newHeadBySteps 59 = .ok (.iload 8, 2) := by decide +kernel
theorem qd_X_newHeadBySteps_61 : decode qc_X_newHeadBySteps 61 = .ok (.isub, 1) := by decide +kernel
theorem qd_X_newHeadBySteps_62 : decode qc_X_newHeadBySteps 62 = .ok (.iload_n 3, 1) := by decide +kernel
theorem qd_X_newHeadBySteps_63 : decode qc_X_newHeadBySteps 63 = .ok (.iload 8, 2) := by decide +kernel
theorem qd_X_newHeadBySteps_65 : decode qc_X_newHeadBySteps 65 = .ok (.isub, 1) := by decide +kernel
theorem qd_X_newHeadBySteps_66 : decode qc_X_newHeadBySteps 66 = .ok (.lload 4, 2) := by decide +kernel
theorem qd_X_newHeadBySteps_68 : decode qc_X_newHeadBySteps 68 = .ok (.invokestatic 62, 3) := by decide +kernel
theorem qd_X_newHeadBySteps_71 : decode qc_X_newHeadBySteps 71 = .ok (.invokestatic 80, 3) := by decide +kernel
theorem qd_X_newHeadBySteps_74 : decode qc_X_newHeadBySteps 74 = .ok (.lreturn, 1) := by decide +kernel
theorem qd_X_count_0 : decode qc_X_count 0 = .ok (.iload_n 1, 1) := by decide +kernel
theorem qd_X_count_1 : decode qc_X_count 1 = .ok (.tableswitch 45 0 2 #[27, 32, 37], 27) := by decide +kernel
theorem qd_X_count_28 : decode qc_X_count 28 = .ok (.aload_n 0, 1) := by decide +kernel
theorem qd_X_count_29 : decode qc_X_count 29 = .ok (.getfield 13, 3) := by decide +kernel
theorem qd_X_count_32 : decode qc_X_count 32 = .ok (.ireturn, 1) := by decide +kernel
theorem qd_X_count_33 : decode qc_X_count 33 = .ok (.aload_n 0, 1) := by decide +kernel
theorem qd_X_count_34 : decode qc_X_count 34 = .ok (.getfield 20, 3) := by decide +kernel
theorem qd_X_count_37 : decode qc_X_count 37 = .ok (.ireturn, 1) := by decide +kernel
theorem qd_X_count_38 : decode qc_X_count 38 = .ok (.aload_n 0, 1) := by decide +kernel
theorem qd_X_count_39 : decode qc_X_count 39 = .ok (.getfield 13, 3) := by decide +kernel
theorem qd_X_count_42 : decode qc_X_count 42 = .ok (.invokestatic 65, 3) := by decide +kernel
theorem qd_X_count_45 : decode qc_X_count 45 = .ok (.ireturn, 1) := by decide +kernel
theorem qd_X_count_46 : decode qc_X_count 46 = .ok (.iconst (-1), 1) := by decide +kernel
theorem qd_X_count_47 : decode qc_X_count 47 = .ok (.ireturn, 1) := by decide +kernel
theorem qd_X_add_0 : decode qc_X_add 0 = .ok (.aload_n 0, 1) := by decide +kernel
theorem qd_X_add_1 : decode qc_X_add 1 = .ok (.getfield 13, 3) := by decide +kernel
theorem qd_X_add_4 : decode qc_X_add 4 = .ok (.sipush 600, 3) := by decide +kernel
theorem qd_X_add_7 : decode qc_X_add 7 = .ok (.if_icmp .lt 11, 3) := by decide +kernel
theorem qd_X_add_10 : decode qc_X_add 10 = .ok (.new 23, 3) := by decide +kernel
theorem qd_X_add_13 : decode qc_X_add 13 = .ok (.dup, 1) := by decide +kernel
theorem qd_X_add_14 : decode qc_X_add 14 = .ok (.invokespecial 25, 3) := by decide +kernel
theorem qd_X_add_17 : decode qc_X_add 17 = .ok (.athrow, 1) := by decide +kernel
theorem qd_X_add_18 : decode qc_X_add 18 = .ok (.aload_n 0, 1) := by decide +kernel
theorem qd_X_add_19 : decode qc_X_add 19 = .ok (.getfield 9, 3) := by decide +kernel
theorem qd_X_add_22 : decode qc_X_add 22 = .ok (.aload_n 0, 1) := by decide +kernel
theorem qd_X_add_23 : decode qc_X_add 23 = .ok (.getfield 13, 3) := by decide +kernel
theorem qd_X_add_26 : decode qc_X_add 26 = .ok (.lload_n 1, 1) := by decide +kernel
theorem qd_X_add_27 : decode qc_X_add 27 = .ok (.invokestatic 26, 3) := by decide +kernel
theorem qd_X_add_30 : decode qc_X_add 30 = .ok (.lastore, 1) := by decide +kernel
theorem qd_X_add_31 : decode qc_X_add 31 = .ok (.aload_n 0, 1) := by decide +kernel
theorem qd_X_add_32 : decode qc_X_add 32 = .ok (.dup, 1) := by decide +kernel
theorem qd_X_add_33 : decode qc_X_add 33 = .ok (.getfield 13, 3) := by decide +kernel
theorem qd_X_add_36 : decode qc_X_add 36 = .ok (.iconst 1, 1) := by decide +kernel
theorem qd_X_add_37 : decode qc_X_add 37 = .ok (.iadd, 1) := by decide +kernel
theorem qd_X_add_38 : decode qc_X_add 38 = .ok (.putfield 13, 3) := by decide +kernel
theorem qd_X_add_41 : decode qc_X_add 41 = .ok (.aload_n 0, 1) := by decide +kernel
theorem qd_X_add_42 : decode qc_X_add 42 = .ok (.getfield 13, 3) := by decide +kernel
theorem qd_X_add_45 : decode qc_X_add 45 = .ok (.ireturn, 1) := by decide +kernel
theorem qd_X_fill_0 : decode qc_X_fill 0 = .ok (.iload_n 1, 1) := by decide +kernel
theorem qd_X_fill_1 : decode qc_X_fill 1 = .ok (.iconst 1, 1) := by decide +kernel
theorem qd_X_fill_2 : decode qc_X_fill 2 = .ok (.if_icmp .lt 10, 3) := by decide +kernel
theorem qd_X_fill_5 : decode qc_X_fill 5 = .ok (.iload_n 1, 1) := by decide +kernel
theorem qd_X_fill_6 : decode qc_X_fill 6 = .ok (.sipush 200, 3) := by decide +kernel
theorem qd_X_fill_9 : decode qc_X_fill 9 = .ok (.if_icmp .le 11, 3) := by decide +kernel
theorem qd_X_fill_12 : decode qc_X_fill 12 = .ok (.new 30, 3) := by decide +kernel
theorem qd_X_fill_15 : decode qc_X_fill 15 = .ok (.dup, 1) := by decide +kernel
theorem qd_X_fill_16 : decode qc_X_fill 16 = .ok (.invokespecial 32, 3) := by decide +kernel
theorem qd_X_fill_19 : decode qc_X_fill 19 = .ok (.athrow, 1) := by decide +kernel
theorem qd_X_fill_20 : decode qc_X_fill 20 = .ok (.aload_n 0, 1) := by decide +kernel
theorem qd_X_fill_21 : decode qc_X_fill 21 = .ok (.getfield 13, 3) := by decide +kernel
theorem qd_X_fill_24 : decode qc_X_fill 24 = .ok (.iload_n 1, 1) := by decide +kernel
theorem qd_X_fill_25 : decode qc_X_fill 25 = .ok (.iadd, 1) := by decide +kernel
theorem qd_X_fill_26 : decode qc_X_fill 26 = .ok (.sipush 600, 3) := by decide +kernel
theorem qd_X_fill_29 : decode qc_X_fill 29 = .ok (.if_icmp .le 11, 3) := by decide +kernel
theorem qd_X_fill_32 : decode qc_X_fill 32 = .ok (.new 23, 3) := by decide +kernel
theorem qd_X_fill_35 : decode qc_X_fill 35 = .ok (.dup, 1) := by decide +kernel
theorem qd_X_fill_36 : decode qc_X_fill 36 = .ok (.invokespecial 25, 3) := by decide +kernel
theorem qd_X_fill_39 : decode qc_X_fill 39 = .ok (.athrow, 1) := by decide +kernel
theorem qd_X_fill_40 : decode qc_X_fill 40 = .ok (.iconst 0, 1) := by decide +kernel
theorem qd_X_fill_41 : decode qc_X_fill 41 = .ok (.istore 6, 2) := by decide +kernel
theorem qd_X_fill_43 : decode qc_X_fill 43 = .ok (.iload 6, 2) := by decide +kernel
theorem qd_X_fill_45 : decode qc_X_fill 45 = .ok (.iload_n 1, 1) := by decide +kernel
theorem qd_X_fill_46 : decode qc_X_fill 46 = .ok (.if_icmp .ge 32, 3) := by decide +kernel
theorem qd_X_fill_49 : decode qc_X_fill 49 = .ok (.aload_n 0, 1) := by decide +kernel
theorem qd_X_fill_50 : decode qc_X_fill 50 = .ok (.getfield 9, 3) := by decide +kernel
theorem qd_X_fill_53 : decode qc_X_fill 53 = .ok (.aload_n 0, 1) := by decide +kernel
theorem qd_X_fill_54 : decode qc_X_fill 54 = .ok (.getfield 13, 3) := by decide +kernel
theorem qd_X_fill_57 : decode qc_X_fill 57 = .ok (.iload 6, 2) := by decide +kernel
theorem qd_X_fill_59 : decode qc_X_fill 59 = .ok (.iadd, 1) := by decide +kernel
theorem qd_X_fill_60 : decode qc_X_fill 60 = .ok (.lload_n 2, 1) := by decide +kernel
theorem qd_X_fill_61 : decode qc_X_fill 61 = .ok (.iload 6, 2) := by decide +kernel
theorem qd_X_fill_63 : decode qc_X_fill 63 = .ok (.i2l, 1) := by decide +kernel
theorem qd_X_fill_64 : decode qc_X_fill 64 = .ok (.lload 4, 2) := by decide +kernel
theorem qd_X_fill_66 : decode qc_X_fill 66 = .ok (.lmul, 1) := by decide +kernel
theorem qd_X_fill_67 : decode qc_X_fill 67 = .ok (.ladd, 1) := by decide +kernel
theorem qd_X_fill_68 : decode qc_X_fill 68 = .ok (.invokestatic 26, 3) := by decide +kernel
theorem qd_X_fill_71 : decode qc_X_fill 71 = .ok (.lastore, 1) := by decide +kernel
theorem qd_X_fill_72 : decode qc_X_fill 72 = .ok (.iinc 6 1, 3) := by decide +kernel
theorem qd_X_fill_75 : decode qc_X_fill 75 = .ok (.goto (-32), 3) := by decide +kernel
theorem qd_X_fill_78 : decode qc_X_fill 78 = .ok (.aload_n 0, 1) := by decide +kernel
theorem qd_X_fill_79 : decode qc_X_fill 79 = .ok (.dup, 1) := by decide +kernel
theorem qd_X_fill_80 : decode qc_X_fill 80 = .ok (.getfield 13, 3) := by decide +kernel
theorem qd_X_fill_83 : decode qc_X_fill 83 = .ok (.iload_n 1, 1) := by decide +kernel
theorem qd_X_fill_84 : decode qc_X_fill 84 = .ok (.iadd, 1) := by decide +kernel
theorem qd_X_fill_85 : decode qc_X_fill 85 = .ok (.putfield 13, 3) := by decide +kernel
theorem qd_X_fill_88 : decode qc_X_fill 88 = .ok (.aload_n 0, 1) := by decide +kernel
theorem qd_X_fill_89 : decode qc_X_fill 89 = .ok (.getfield 13, 3) := by decide +kernel
theorem qd_X_fill_92 : decode qc_X_fill 92 = .ok (.ireturn, 1) := by decide +kernel
theorem qd_X_cut_0 : decode qc_X_cut 0 = .ok (.iload_n 1, 1) := by decide +kernel
theorem qd_X_cut_1 : decode qc_X_cut 1 = .ok (.ifCond .lt 11, 3) := by decide +kernel
theorem qd_X_cut_4 : decode qc_X_cut 4 = .ok (.iload_n 1, 1) := by decide +kernel
theorem qd_X_cut_5 : decode qc_X_cut 5 = .ok (.aload_n 0, 1) := by decide +kernel
theorem qd_X_cut_6 : decode qc_X_cut 6 = .ok (.getfield 13, 3) := by decide +kernel
theorem qd_X_cut_9 : decode qc_X_cut 9 = .ok (.if_icmp .le 11, 3) := by decide +kernel
theorem qd_X_cut_12 : decode qc_X_cut 12 = .ok (.new 30, 3) := by decide +kernel
theorem qd_X_cut_15 : decode qc_X_cut 15 = .ok (.dup, 1) := by decide +kernel
theorem qd_X_cut_16 : decode qc_X_cut 16 = .ok (.invokespecial 32, 3) := by decide +kernel
theorem qd_X_cut_19 : decode qc_X_cut 19 = .ok (.athrow, 1) := by decide +kernel
theorem qd_X_cut_20 : decode qc_X_cut 20 = .ok (.aload_n 0, 1) := by decide +kernel
theorem qd_X_cut_21 : decode qc_X_cut 21 = .ok (.getfield 13, 3) := by decide +kernel
theorem qd_X_cut_24 : decode qc_X_cut 24 = .ok (.iload_n 1, 1) := by decide +kernel
theorem qd_X_cut_25 : decode qc_X_cut 25 = .ok (.isub, 1) := by decide +kernel
theorem qd_X_cut_26 : decode qc_X_cut 26 = .ok (.istore_n 2, 1) := by decide +kernel
theorem qd_X_cut_27 : decode qc_X_cut 27 = .ok (.aload_n 0, 1) := by decide +kernel
theorem qd_X_cut_28 : decode qc_X_cut 28 = .ok (.iload_n 1, 1) := by decide +kernel
theorem qd_X_cut_29 : decode qc_X_cut 29 = .ok (.putfield 13, 3) := by decide +kernel
theorem qd_X_cut_32 : decode qc_X_cut 32 = .ok (.iload_n 2, 1) := by decide +kernel
theorem qd_X_cut_33 : decode qc_X_cut 33 = .ok (.ireturn, 1) := by decide +kernel
theorem qd_X_head_0 : decode qc_X_head 0 = .ok (.iload_n 1, 1) := by decide +kernel
theorem qd_X_head_1 : decode qc_X_head 1 = .ok (.ifCond .lt 11, 3) := by decide +kernel
theorem qd_X_head_4 : decode qc_X_head 4 = .ok (.iload_n 1, 1) := by decide +kernel
theorem qd_X_head_5 : decode qc_X_head 5 = .ok (.aload_n 0, 1) := by decide +kernel
theorem qd_X_head_6 : decode qc_X_head 6 = .ok (.getfield 13, 3) := by decide +kernel
theorem qd_X_head_9 : decode qc_X_head 9 = .ok (.if_icmp .le 11, 3) := by decide +kernel
theorem qd_X_head_12 : decode qc_X_head 12 = .ok (.new 33, 3) := by decide +kernel
theorem qd_X_head_15 : decode qc_X_head 15 = .ok (.dup, 1) := by decide +kernel
theorem qd_X_head_16 : decode qc_X_head 16 = .ok (.invokespecial 35, 3) := by decide +kernel
theorem qd_X_head_19 : decode qc_X_head 19 = .ok (.athrow, 1) := by decide +kernel
theorem qd_X_head_20 : decode qc_X_head 20 = .ok (.aload_n 0, 1) := by decide +kernel
theorem qd_X_head_21 : decode qc_X_head 21 = .ok (.getfield 9, 3) := by decide +kernel
theorem qd_X_head_24 : decode qc_X_head 24 = .ok (.iconst 0, 1) := by decide +kernel
theorem qd_X_head_25 : decode qc_X_head 25 = .ok (.iload_n 1, 1) := by decide +kernel
theorem qd_X_head_26 : decode qc_X_head 26 = .ok (.invokestatic 36, 3) := by decide +kernel
theorem qd_X_head_29 : decode qc_X_head 29 = .ok (.lreturn, 1) := by decide +kernel
theorem qd_X_headOf_0 : decode qc_X_headOf 0 = .ok (.iload_n 2, 1) := by decide +kernel
theorem qd_X_headOf_1 : decode qc_X_headOf 1 = .ok (.iload_n 1, 1) := by decide +kernel
theorem qd_X_headOf_2 : decode qc_X_headOf 2 = .ok (.isub, 1) := by decide +kernel
theorem qd_X_headOf_3 : decode qc_X_headOf 3 = .ok (.istore_n 3, 1) := by decide +kernel
theorem qd_X_headOf_4 : decode qc_X_headOf 4 = .ok (.iload_n 3, 1) := by decide +kernel
theorem qd_X_headOf_5 : decode qc_X_headOf 5 = .ok (.ifCond .gt 5, 3) := by decide +kernel
theorem qd_X_headOf_8 : decode qc_X_headOf 8 = .ok (.lconst 0, 1) := by decide +kernel
theorem qd_X_headOf_9 : decode qc_X_headOf 9 = .ok (.lreturn, 1) := by decide +kernel
theorem qd_X_headOf_10 : decode qc_X_headOf 10 = .ok (.iload_n 3, 1) := by decide +kernel
theorem qd_X_headOf_11 : decode qc_X_headOf 11 = .ok (.iconst 1, 1) := by decide +kernel
theorem qd_X_headOf_12 : decode qc_X_headOf 12 = .ok (.if_icmp .ne 7, 3) := by decide +kernel
theorem qd_X_headOf_15 : decode qc_X_headOf 15 = .ok (.aload_n 0, 1) := by decide +kernel
theorem qd_X_headOf_16 : decode qc_X_headOf 16 = .ok (.iload_n 1, 1) := by decide +kernel
theorem qd_X_headOf_17 : decode qc_X_headOf 17 = .ok (.laload, 1) := by decide +kernel
theorem qd_X_headOf_18 : decode qc_X_headOf 18 = .ok (.lreturn, 1) := by decide +kernel
theorem qd_X_headOf_19 : decode qc_X_headOf 19 = .ok (.iload_n 1, 1) := by decide +kernel
theorem qd_X_headOf_20 : decode qc_X_headOf 20 = .ok (.iload_n 3, 1) := by decide +kernel
theorem qd_X_headOf_21 : decode qc_X_headOf 21 = .ok (.invokestatic 44, 3) := by decide +kernel
theorem qd_X_headOf_24 : decode qc_X_headOf 24 = .ok (.iadd, 1) := by decide +kernel
theorem qd_X_headOf_25 : decode qc_X_headOf 25 = .ok (.istore 4, 2) := by decide +kernel
theorem qd_X_headOf_27 : decode qc_X_headOf 27 = .ok (.aload_n 0, 1) := by decide +kernel
theorem qd_X_headOf_28 : decode qc_X_headOf 28 = .ok (.iload_n 1, 1) := by decide +kernel
theorem qd_X_headOf_29 : decode qc_X_headOf 29 = .ok (.iload 4, 2) := by decide +kernel
theorem qd_X_headOf_31 : decode qc_X_headOf 31 = .ok (.invokestatic 36, 3) := by decide +kernel
theorem qd_X_headOf_34 : decode qc_X_headOf 34 = .ok (.aload_n 0, 1) := by decide +kernel
theorem qd_X_headOf_35 : decode qc_X_headOf 35 = .ok (.iload 4, 2) := by decide +kernel
theorem qd_X_headOf_37 : decode qc_X_headOf 37 = .ok (.iload_n 2, 1) := by decide +kernel
theorem qd_X_headOf_38 : decode qc_X_headOf 38 = .ok (.invokestatic 36, 3) := by decide +kernel
theorem qd_X_headOf_41 : decode qc_X_headOf 41 = .ok (.invokestatic 80, 3) := by decide +kernel
theorem qd_X_headOf_44 : decode qc_X_headOf 44 = .ok (.lreturn, 1) := by decide +kernel
theorem qd_X_part_0 : decode qc_X_part 0 = .ok (.iload_n 1, 1) := by decide +kernel
theorem qd_X_part_1 : decode qc_X_part 1 = .ok (.ifCond .lt 16, 3) := by decide +kernel
theorem qd_X_part_4 : decode qc_X_part 4 = .ok (.iload_n 1, 1) := by decide +kernel
theorem qd_X_part_5 : decode qc_X_part 5 = .ok (.iload_n 2, 1) := by decide +kernel
theorem qd_X_part_6 : decode qc_X_part 6 = .ok (.if_icmp .gt 11, 3) := by decide +kernel
theorem qd_X_part_9 : decode qc_X_part 9 = .ok (.iload_n 2, 1) := by decide +kernel
theorem qd_X_part_10 : decode qc_X_part 10 = .ok (.aload_n 0, 1) := by decide +kernel
theorem qd_X_part_11 : decode qc_X_part 11 = .ok (.getfield 13, 3) := by decide +kernel
theorem qd_X_part_14 : decode qc_X_part 14 = .ok (.if_icmp .le 11, 3) := by decide +kernel
theorem qd_X_part_17 : decode qc_X_part 17 = .ok (.new 33, 3) := by decide +kernel
theorem qd_X_part_20 : decode qc_X_part 20 = .ok (.dup, 1) := by decide +kernel
theorem qd_X_part_21 : decode qc_X_part 21 = .ok (.invokespecial 35, 3) := by decide +kernel
theorem qd_X_part_24 : decode qc_X_part 24 = .ok (.athrow, 1) := by decide +kernel
theorem qd_X_part_25 : decode qc_X_part 25 = .ok (.aload_n 0, 1) := by decide +kernel
theorem qd_X_part_26 : decode qc_X_part 26 = .ok (.getfield 9, 3) := by decide +kernel
theorem qd_X_part_29 : decode qc_X_part 29 = .ok (.iload_n 1, 1) := by decide +kernel
theorem qd_X_part_30 : decode qc_X_part 30 = .ok (.iload_n 2, 1) := by decide +kernel
theorem qd_X_part_31 : decode qc_X_part 31 = .ok (.invokestatic 36, 3) := by decide +kernel
theorem qd_X_part_34 : decode qc_X_part 34 = .ok (.lreturn, 1) := by decide +kernel
theorem qd_X_path_0 : decode qc_X_path 0 = .ok (.iload_n 1, 1) := by decide +kernel
theorem qd_X_path_1 : decode qc_X_path 1 = .ok (.ifCond .lt 16, 3) := by decide +kernel
theorem qd_X_path_4 : decode qc_X_path 4 = .ok (.iload_n 1, 1) := by decide +kernel
theorem qd_X_path_5 : decode qc_X_path 5 = .ok (.iload_n 2, 1) := by decide +kernel
theorem qd_X_path_6 : decode qc_X_path 6 = .ok (.if_icmp .ge 11, 3) := by decide +kernel
theorem qd_X_path_9 : decode qc_X_path 9 = .ok (.iload_n 2, 1) := by decide +kernel
theorem qd_X_path_10 : decode qc_X_path 10 = .ok (.aload_n 0, 1) := by decide +kernel
theorem qd_X_path_11 : decode qc_X_path 11 = .ok (.getfield 13, 3) := by decide +kernel
theorem qd_X_path_14 : decode qc_X_path 14 = .ok (.if_icmp .le 11, 3) := by decide +kernel
theorem qd_X_path_17 : decode qc_X_path 17 = .ok (.new 33, 3) := by decide +kernel
theorem qd_X_path_20 : decode qc_X_path 20 = .ok (.dup, 1) := by decide +kernel
theorem qd_X_path_21 : decode qc_X_path 21 = .ok (.invokespecial 35, 3) := by decide +kernel
theorem qd_X_path_24 : decode qc_X_path 24 = .ok (.athrow, 1) := by decide +kernel
theorem qd_X_path_25 : decode qc_X_path 25 = .ok (.aload_n 0, 1) := by decide +kernel
theorem qd_X_path_26 : decode qc_X_path 26 = .ok (.iload_n 1, 1) := by decide +kernel
theorem qd_X_path_27 : decode qc_X_path 27 = .ok (.iload_n 2, 1) := by decide +kernel
theorem qd_X_path_28 : decode qc_X_path 28 = .ok (.invokestatic 40, 3) := by decide +kernel
theorem qd_X_path_31 : decode qc_X_path 31 = .ok (.putfield 20, 3) := by decide +kernel
theorem qd_X_path_34 : decode qc_X_path 34 = .ok (.iconst 0, 1) := by decide +kernel
theorem qd_X_path_35 : decode qc_X_path 35 = .ok (.istore_n 3, 1) := by decide +kernel
theorem qd_X_path_36 : decode qc_X_path 36 = .ok (.iload_n 2, 1) := by decide +kernel
theorem qd_X_path_37 : decode qc_X_path 37 = .ok (.istore 4, 2) := by decide +kernel
theorem qd_X_path_39 : decode qc_X_path 39 = .ok (.aload_n 0, 1) := by decide +kernel
theorem qd_X_path_40 : decode qc_X_path 40 = .ok (.getfield 20, 3) := by decide +kernel
theorem qd_X_path_43 : decode qc_X_path 43 = .ok (.iconst 1, 1) := by decide +kernel
theorem qd_X_path_44 : decode qc_X_path 44 = .ok (.isub, 1) := by decide +kernel
theorem qd_X_path_45 : decode qc_X_path 45 = .ok (.istore 5, 2) := by decide +kernel
theorem qd_X_path_47 : decode qc_X_path 47 = .ok (.iload 5, 2) := by decide +kernel
theorem qd_X_path_49 : decode qc_X_path 49 = .ok (.ifCond .lt 71, 3) := by decide +kernel
theorem qd_X_path_52 : decode qc_X_path 52 = .ok (.iload_n 3, 1) := by decide +kernel
theorem qd_X_path_53 : decode qc_X_path 53 = .ok (.iload 4, 2) := by decide +kernel
theorem qd_X_path_55 : decode qc_X_path 55 = .ok (.iload_n 3, 1) := by decide +kernel
theorem qd_X_path_56 : decode qc_X_path 56 = .ok (.isub, 1) := by decide +kernel
theorem qd_X_path_57 : decode qc_X_path 57 = .ok (.invokestatic 44, 3) := by decide +kernel
theorem qd_X_path_60 : decode qc_X_path 60 = .ok (.iadd, 1) := by decide +kernel
theorem qd_X_path_61 : decode qc_X_path 61 = .ok (.istore 6, 2) := by decide +kernel
theorem qd_X_path_63 : decode qc_X_path 63 = .ok (.iload_n 1, 1) := by decide +kernel
theorem qd_X_path_64 : decode qc_X_path 64 = .ok (.iload 6, 2) := by decide +kernel
theorem qd_X_path_66 : decode qc_X_path 66 = .ok (.if_icmp .ge 28, 3) := by decide +kernel
theorem qd_X_path_69 : decode qc_X_path 69 = .ok (.aload_n 0, 1) := by decide +kernel
theorem qd_X_path_70 : decode qc_X_path 70 = .ok (.getfield 17, 3) := by decide +kernel
theorem qd_X_path_73 : decode qc_X_path 73 = .ok (.iload 5, 2) := by decide +kernel
theorem qd_X_path_75 : decode qc_X_path 75 = .ok (.aload_n 0, 1) := by decide +kernel
theorem qd_X_path_76 : decode qc_X_path 76 = .ok (.getfield 9, 3) := by decide +kernel
theorem qd_X_path_79 : decode qc_X_path 79 = .ok (.iload 6, 2) := by decide +kernel
theorem qd_X_path_81 : decode qc_X_path 81 = .ok (.iload 4, 2) := by decide +kernel
theorem qd_X_path_83 : decode qc_X_path 83 = .ok (.invokestatic 36, 3) := by decide +kernel
theorem qd_X_path_86 : decode qc_X_path 86 = .ok (.lastore, 1) := by decide +kernel
theorem qd_X_path_87 : decode qc_X_path 87 = .ok (.iload 6, 2) := by decide +kernel
theorem qd_X_path_89 : decode qc_X_path 89 = .ok (.istore 4, 2) := by decide +kernel
theorem qd_X_path_91 : decode qc_X_path 91 = .ok (.goto 23, 3) := by decide +kernel
theorem qd_X_path_94 : decode qc_X_path 94 = .ok (.aload_n 0, 1) := by decide +kernel
theorem qd_X_path_95 : decode qc_X_path 95 = .ok (.getfield 17, 3) := by decide +kernel
theorem qd_X_path_98 : decode qc_X_path 98 = .ok (.iload 5, 2) := by decide +kernel
theorem qd_X_path_100 : decode qc_X_path 100 = .ok (.aload_n 0, 1) := by decide +kernel
theorem qd_X_path_101 : decode qc_X_path 101 = .ok (.getfield 9, 3) := by decide +kernel
theorem qd_X_path_104 : decode qc_X_path 104 = .ok (.iload_n 3, 1) := by decide +kernel
theorem qd_X_path_105 : decode qc_X_path 105 = .ok (.iload 6, 2) := by decide +kernel
theorem qd_X_path_107 : decode qc_X_path 107 = .ok (.invokestatic 36, 3) := by decide +kernel
theorem qd_X_path_110 : decode qc_X_path 110 = .ok (.lastore, 1) := by decide +kernel
theorem qd_X_path_111 : decode qc_X_path 111 = .ok (.iload 6, 2) := by decide +kernel
theorem qd_X_path_113 : decode qc_X_path 113 = .ok (.istore_n 3, 1) := by decide +kernel
theorem qd_X_path_114 : decode qc_X_path 114 = .ok (.iinc 5 (-1), 3) := by decide +kernel
theorem qd_X_path_117 : decode qc_X_path 117 = .ok (.goto (-70), 3) := by decide +kernel
theorem qd_X_path_120 : decode qc_X_path 120 = .ok (.aload_n 0, 1) := by decide +kernel
theorem qd_X_path_121 : decode qc_X_path 121 = .ok (.getfield 20, 3) := by decide +kernel
theorem qd_X_path_124 : decode qc_X_path 124 = .ok (.ireturn, 1) := by decide +kernel
theorem qd_X_steps_0 : decode qc_X_steps 0 = .ok (.iload_n 1, 1) := by decide +kernel
theorem qd_X_steps_1 : decode qc_X_steps 1 = .ok (.iconst 1, 1) := by decide +kernel
theorem qd_X_steps_2 : decode qc_X_steps 2 = .ok (.if_icmp .lt 16, 3) := by decide +kernel
theorem qd_X_steps_5 : decode qc_X_steps 5 = .ok (.iload_n 1, 1) := by decide +kernel
theorem qd_X_steps_6 : decode qc_X_steps 6 = .ok (.iload_n 2, 1) := by decide +kernel
theorem qd_X_steps_7 : decode qc_X_steps 7 = .ok (.if_icmp .gt 11, 3) := by decide +kernel
theorem qd_X_steps_10 : decode qc_X_steps 10 = .ok (.iload_n 2, 1) := by decide +kernel
theorem qd_X_steps_11 : decode qc_X_steps 11 = .ok (.aload_n 0, 1) := by decide +kernel
theorem qd_X_steps_12 : decode qc_X_steps 12 = .ok (.getfield 13, 3) := by decide +kernel
theorem qd_X_steps_15 : decode qc_X_steps 15 = .ok (.if_icmp .le 11, 3) := by decide +kernel
theorem qd_X_steps_18 : decode qc_X_steps 18 = .ok (.new 33, 3) := by decide +kernel
theorem qd_X_steps_21 : decode qc_X_steps 21 = .ok (.dup, 1) := by decide +kernel
theorem qd_X_steps_22 : decode qc_X_steps 22 = .ok (.invokespecial 35, 3) := by decide +kernel
theorem qd_X_steps_25 : decode qc_X_steps 25 = .ok (.athrow, 1) := by decide +kernel
theorem qd_X_steps_26 : decode qc_X_steps 26 = .ok (.aload_n 0, 1) := by decide +kernel
theorem qd_X_steps_27 : decode qc_X_steps 27 = .ok (.iload_n 1, 1) := by decide +kernel
theorem qd_X_steps_28 : decode qc_X_steps 28 = .ok (.iload_n 2, 1) := by decide +kernel
theorem qd_X_steps_29 : decode qc_X_steps 29 = .ok (.invokestatic 48, 3) := by decide +kernel
theorem qd_X_steps_32 : decode qc_X_steps 32 = .ok (.putfield 20, 3) := by decide +kernel
theorem qd_X_steps_35 : decode qc_X_steps 35 = .ok (.iconst 0, 1) := by decide +kernel
theorem qd_X_steps_36 : decode qc_X_steps 36 = .ok (.istore_n 3, 1) := by decide +kernel
theorem qd_X_steps_37 : decode qc_X_steps 37 = .ok (.iload_n 2, 1) := by decide +kernel
theorem qd_X_steps_38 : decode qc_X_steps 38 = .ok (.istore 4, 2) := by decide +kernel
theorem qd_X_steps_40 : decode qc_X_steps 40 = .ok (.aload_n 0, 1) := by decide +kernel
theorem qd_X_steps_41 : decode qc_X_steps 41 = .ok (.getfield 20, 3) := by decide +kernel
theorem qd_X_steps_44 : decode qc_X_steps 44 = .ok (.iconst 1, 1) := by decide +kernel
theorem qd_X_steps_45 : decode qc_X_steps 45 = .ok (.isub, 1) := by decide +kernel
theorem qd_X_steps_46 : decode qc_X_steps 46 = .ok (.istore 5, 2) := by decide +kernel
theorem qd_X_steps_48 : decode qc_X_steps 48 = .ok (.iload 5, 2) := by decide +kernel
theorem qd_X_steps_50 : decode qc_X_steps 50 = .ok (.ifCond .lt 97, 3) := by decide +kernel
theorem qd_X_steps_53 : decode qc_X_steps 53 = .ok (.iload_n 3, 1) := by decide +kernel
theorem qd_X_steps_54 : decode qc_X_steps 54 = .ok (.iload 4, 2) := by decide +kernel
theorem qd_X_steps_56 : decode qc_X_steps 56 = .ok (.iload_n 3, 1) := by decide +kernel
theorem qd_X_steps_57 : decode qc_X_steps 57 = .ok (.isub, 1) := by decide +kernel
theorem qd_X_steps_58 : decode qc_X_steps 58 = .ok (.invokestatic 44, 3) := by decide +kernel
theorem qd_X_steps_61 : decode qc_X_steps 61 = .ok (.iadd, 1) := by decide +kernel
theorem qd_X_steps_62 : decode qc_X_steps 62 = .ok (.istore 6, 2) := by decide +kernel
theorem qd_X_steps_64 : decode qc_X_steps 64 = .ok (.iload_n 1, 1) := by decide +kernel
theorem qd_X_steps_65 : decode qc_X_steps 65 = .ok (.iload 4, 2) := by decide +kernel
theorem qd_X_steps_67 : decode qc_X_steps 67 = .ok (.if_icmp .ne 23, 3) := by decide +kernel
theorem qd_X_steps_70 : decode qc_X_steps 70 = .ok (.aload_n 0, 1) := by decide +kernel
theorem qd_X_steps_71 : decode qc_X_steps 71 = .ok (.getfield 17, 3) := by decide +kernel
theorem qd_X_steps_74 : decode qc_X_steps 74 = .ok (.iload 5, 2) := by decide +kernel
theorem qd_X_steps_76 : decode qc_X_steps 76 = .ok (.aload_n 0, 1) := by decide +kernel
theorem qd_X_steps_77 : decode qc_X_steps 77 = .ok (.getfield 9, 3) := by decide +kernel
theorem qd_X_steps_80 : decode qc_X_steps 80 = .ok (.iload_n 3, 1) := by decide +kernel
theorem qd_X_steps_81 : decode qc_X_steps 81 = .ok (.iload 4, 2) := by decide +kernel
theorem qd_X_steps_83 : decode qc_X_steps 83 = .ok (.invokestatic 36, 3) := by decide +kernel
theorem qd_X_steps_86 : decode qc_X_steps 86 = .ok (.lastore, 1) := by decide +kernel
theorem qd_X_steps_87 : decode qc_X_steps 87 = .ok (.goto 54, 3) := by decide +kernel
theorem qd_X_steps_90 : decode qc_X_steps 90 = .ok (.iload_n 1, 1) := by decide +kernel
theorem qd_X_steps_91 : decode qc_X_steps 91 = .ok (.iload 6, 2) := by decide +kernel
theorem qd_X_steps_93 : decode qc_X_steps 93 = .ok (.if_icmp .gt 28, 3) := by decide +kernel
theorem qd_X_steps_96 : decode qc_X_steps 96 = .ok (.aload_n 0, 1) := by decide +kernel
theorem qd_X_steps_97 : decode qc_X_steps 97 = .ok (.getfield 17, 3) := by decide +kernel
theorem qd_X_steps_100 : decode qc_X_steps 100 = .ok (.iload 5, 2) := by decide +kernel
theorem qd_X_steps_102 : decode qc_X_steps 102 = .ok (.aload_n 0, 1) := by decide +kernel
theorem qd_X_steps_103 : decode qc_X_steps 103 = .ok (.getfield 9, 3) := by decide +kernel
theorem qd_X_steps_106 : decode qc_X_steps 106 = .ok (.iload 6, 2) := by decide +kernel
theorem qd_X_steps_108 : decode qc_X_steps 108 = .ok (.iload 4, 2) := by decide +kernel
theorem qd_X_steps_110 : decode qc_X_steps 110 = .ok (.invokestatic 36, 3) := by decide +kernel
theorem qd_X_steps_113 : decode qc_X_steps 113 = .ok (.lastore, 1) := by decide +kernel
theorem qd_X_steps_114 : decode qc_X_steps 114 = .ok (.iload 6, 2) := by decide +kernel
theorem qd_X_steps_116 : decode qc_X_steps 116 = .ok (.istore 4, 2) := by decide +kernel
theorem qd_X_steps_118 : decode qc_X_steps 118 = .ok (.goto 23, 3) := by decide +kernel
theorem qd_X_steps_121 : decode qc_X_steps 121 = .ok (.aload_n 0, 1) := by decide +kernel
theorem qd_X_steps_122 : decode qc_X_steps 122 = .ok (.getfield 17, 3) := by decide +kernel
theorem qd_X_steps_125 : decode qc_X_steps 125 = .ok (.iload 5, 2) := by decide +kernel
theorem qd_X_steps_127 : decode qc_X_steps 127 = .ok (.aload_n 0, 1) := by decide +kernel
theorem qd_X_steps_128 : decode qc_X_steps 128 = .ok (.getfield 9, 3) := by decide +kernel
theorem qd_X_steps_131 : decode qc_X_steps 131 = .ok (.iload_n 3, 1) := by decide +kernel
theorem qd_X_steps_132 : decode qc_X_steps 132 = .ok (.iload 6, 2) := by decide +kernel
theorem qd_X_steps_134 : decode qc_X_steps 134 = .ok (.invokestatic 36, 3) := by decide +kernel
theorem qd_X_steps_137 : decode qc_X_steps 137 = .ok (.lastore, 1) := by decide +kernel
theorem qd_X_steps_138 : decode qc_X_steps 138 = .ok (.iload 6, 2) := by decide +kernel
theorem qd_X_steps_140 : decode qc_X_steps 140 = .ok (.istore_n 3, 1) := by decide +kernel
theorem qd_X_steps_141 : decode qc_X_steps 141 = .ok (.iinc 5 (-1), 3) := by decide +kernel
theorem qd_X_steps_144 : decode qc_X_steps 144 = .ok (.goto (-96), 3) := by decide +kernel
theorem qd_X_steps_147 : decode qc_X_steps 147 = .ok (.aload_n 0, 1) := by decide +kernel
theorem qd_X_steps_148 : decode qc_X_steps 148 = .ok (.getfield 20, 3) := by decide +kernel
theorem qd_X_steps_151 : decode qc_X_steps 151 = .ok (.ireturn, 1) := by decide +kernel
theorem qd_X_proof_0 : decode qc_X_proof 0 = .ok (.iload_n 1, 1) := by decide +kernel
theorem qd_X_proof_1 : decode qc_X_proof 1 = .ok (.ifCond .lt 11, 3) := by decide +kernel
theorem qd_X_proof_4 : decode qc_X_proof 4 = .ok (.iload_n 1, 1) := by decide +kernel
theorem qd_X_proof_5 : decode qc_X_proof 5 = .ok (.aload_n 0, 1) := by decide +kernel
theorem qd_X_proof_6 : decode qc_X_proof 6 = .ok (.getfield 20, 3) := by decide +kernel
theorem qd_X_proof_9 : decode qc_X_proof 9 = .ok (.if_icmp .lt 11, 3) := by decide +kernel
theorem qd_X_proof_12 : decode qc_X_proof 12 = .ok (.new 51, 3) := by decide +kernel
theorem qd_X_proof_15 : decode qc_X_proof 15 = .ok (.dup, 1) := by decide +kernel
theorem qd_X_proof_16 : decode qc_X_proof 16 = .ok (.invokespecial 53, 3) := by decide +kernel
theorem qd_X_proof_19 : decode qc_X_proof 19 = .ok (.athrow, 1) := by decide +kernel
theorem qd_X_proof_20 : decode qc_X_proof 20 = .ok (.aload_n 0, 1) := by decide +kernel
theorem qd_X_proof_21 : decode qc_X_proof 21 = .ok (.getfield 17, 3) := by decide +kernel
theorem qd_X_proof_24 : decode qc_X_proof 24 = .ok (.iload_n 1, 1) := by decide +kernel
theorem qd_X_proof_25 : decode qc_X_proof 25 = .ok (.laload, 1) := by decide +kernel
theorem qd_X_proof_26 : decode qc_X_proof 26 = .ok (.lreturn, 1) := by decide +kernel
theorem qd_X_alter_0 : decode qc_X_alter 0 = .ok (.iload_n 1, 1) := by decide +kernel
theorem qd_X_alter_1 : decode qc_X_alter 1 = .ok (.ifCond .lt 11, 3) := by decide +kernel
theorem qd_X_alter_4 : decode qc_X_alter 4 = .ok (.iload_n 1, 1) := by decide +kernel
theorem qd_X_alter_5 : decode qc_X_alter 5 = .ok (.aload_n 0, 1) := by decide +kernel
theorem qd_X_alter_6 : decode qc_X_alter 6 = .ok (.getfield 20, 3) := by decide +kernel
theorem qd_X_alter_9 : decode qc_X_alter 9 = .ok (.if_icmp .lt 11, 3) := by decide +kernel
theorem qd_X_alter_12 : decode qc_X_alter 12 = .ok (.new 51, 3) := by decide +kernel
theorem qd_X_alter_15 : decode qc_X_alter 15 = .ok (.dup, 1) := by decide +kernel
theorem qd_X_alter_16 : decode qc_X_alter 16 = .ok (.invokespecial 53, 3) := by decide +kernel
theorem qd_X_alter_19 : decode qc_X_alter 19 = .ok (.athrow, 1) := by decide +kernel
theorem qd_X_alter_20 : decode qc_X_alter 20 = .ok (.aload_n 0, 1) := by decide +kernel
theorem qd_X_alter_21 : decode qc_X_alter 21 = .ok (.getfield 17, 3) := by decide +kernel
theorem qd_X_alter_24 : decode qc_X_alter 24 = .ok (.iload_n 1, 1) := by decide +kernel
theorem qd_X_alter_25 : decode qc_X_alter 25 = .ok (.laload, 1) := by decide +kernel
theorem qd_X_alter_26 : decode qc_X_alter 26 = .ok (.lstore 4, 2) := by decide +kernel
theorem qd_X_alter_28 : decode qc_X_alter 28 = .ok (.aload_n 0, 1) := by decide +kernel
theorem qd_X_alter_29 : decode qc_X_alter 29 = .ok (.getfield 17, 3) := by decide +kernel
theorem qd_X_alter_32 : decode qc_X_alter 32 = .ok (.iload_n 1, 1) := by decide +kernel
theorem qd_X_alter_33 : decode qc_X_alter 33 = .ok (.lload_n 2, 1) := by decide +kernel
theorem qd_X_alter_34 : decode qc_X_alter 34 = .ok (.lastore, 1) := by decide +kernel
theorem qd_X_alter_35 : decode qc_X_alter 35 = .ok (.lload 4, 2) := by decide +kernel
theorem qd_X_alter_37 : decode qc_X_alter 37 = .ok (.lreturn, 1) := by decide +kernel
theorem qd_X_length_0 : decode qc_X_length 0 = .ok (.iload_n 1, 1) := by decide +kernel
theorem qd_X_length_1 : decode qc_X_length 1 = .ok (.ifCond .lt 9, 3) := by decide +kernel
theorem qd_X_length_4 : decode qc_X_length 4 = .ok (.iload_n 1, 1) := by decide +kernel
theorem qd_X_length_5 : decode qc_X_length 5 = .ok (.bipush 40, 2) := by decide +kernel
theorem qd_X_length_7 : decode qc_X_length 7 = .ok (.if_icmp .le 11, 3) := by decide +kernel
theorem qd_X_length_10 : decode qc_X_length 10 = .ok (.new 30, 3) := by decide +kernel
theorem qd_X_length_13 : decode qc_X_length 13 = .ok (.dup, 1) := by decide +kernel
theorem qd_X_length_14 : decode qc_X_length 14 = .ok (.invokespecial 32, 3) := by decide +kernel
theorem qd_X_length_17 : decode qc_X_length 17 = .ok (.athrow, 1) := by decide +kernel
theorem qd_X_length_18 : decode qc_X_length 18 = .ok (.aload_n 0, 1) := by decide +kernel
theorem qd_X_length_19 : decode qc_X_length 19 = .ok (.getfield 20, 3) := by decide +kernel
theorem qd_X_length_22 : decode qc_X_length 22 = .ok (.istore_n 2, 1) := by decide +kernel
theorem qd_X_length_23 : decode qc_X_length 23 = .ok (.iload_n 2, 1) := by decide +kernel
theorem qd_X_length_24 : decode qc_X_length 24 = .ok (.istore_n 3, 1) := by decide +kernel
theorem qd_X_length_25 : decode qc_X_length 25 = .ok (.iload_n 3, 1) := by decide +kernel
theorem qd_X_length_26 : decode qc_X_length 26 = .ok (.iload_n 1, 1) := by decide +kernel
theorem qd_X_length_27 : decode qc_X_length 27 = .ok (.if_icmp .ge 16, 3) := by decide +kernel
theorem qd_X_length_30 : decode qc_X_length 30 = .ok (.aload_n 0, 1) := by decide +kernel
theorem qd_X_length_31 : decode qc_X_length 31 = .ok (.getfield 17, 3) := by decide +kernel
theorem qd_X_length_34 : decode qc_X_length 34 = .ok (.iload_n 3, 1) := by decide +kernel
theorem qd_X_length_35 : decode qc_X_length 35 = .ok (.lconst 0, 1) := by decide +kernel
theorem qd_X_length_36 : decode qc_X_length 36 = .ok (.lastore, 1) := by decide +kernel
theorem qd_X_length_37 : decode qc_X_length 37 = .ok (.iinc 3 1, 3) := by decide +kernel
theorem qd_X_length_40 : decode qc_X_length 40 = .ok (.goto (-15), 3) := by decide +kernel
theorem qd_X_length_43 : decode qc_X_length 43 = .ok (.aload_n 0, 1) := by decide +kernel
theorem qd_X_length_44 : decode qc_X_length 44 = .ok (.iload_n 1, 1) := by decide +kernel
theorem qd_X_length_45 : decode qc_X_length 45 = .ok (.putfield 20, 3) := by decide +kernel
theorem qd_X_length_48 : decode qc_X_length 48 = .ok (.iload_n 2, 1) := by decide +kernel
theorem qd_X_length_49 : decode qc_X_length 49 = .ok (.ireturn, 1) := by decide +kernel
theorem qd_X_find_0 : decode qc_X_find 0 = .ok (.iload_n 1, 1) := by decide +kernel
theorem qd_X_find_1 : decode qc_X_find 1 = .ok (.ifCond .lt 11, 3) := by decide +kernel
theorem qd_X_find_4 : decode qc_X_find 4 = .ok (.iload_n 1, 1) := by decide +kernel
theorem qd_X_find_5 : decode qc_X_find 5 = .ok (.aload_n 0, 1) := by decide +kernel
theorem qd_X_find_6 : decode qc_X_find 6 = .ok (.getfield 13, 3) := by decide +kernel
theorem qd_X_find_9 : decode qc_X_find 9 = .ok (.if_icmp .le 11, 3) := by decide +kernel
theorem qd_X_find_12 : decode qc_X_find 12 = .ok (.new 33, 3) := by decide +kernel
theorem qd_X_find_15 : decode qc_X_find 15 = .ok (.dup, 1) := by decide +kernel
theorem qd_X_find_16 : decode qc_X_find 16 = .ok (.invokespecial 35, 3) := by decide +kernel
theorem qd_X_find_19 : decode qc_X_find 19 = .ok (.athrow, 1) := by decide +kernel
theorem qd_X_find_20 : decode qc_X_find 20 = .ok (.lload_n 2, 1) := by decide +kernel
theorem qd_X_find_21 : decode qc_X_find 21 = .ok (.invokestatic 26, 3) := by decide +kernel
theorem qd_X_find_24 : decode qc_X_find 24 = .ok (.lstore 4, 2) := by decide +kernel
theorem qd_X_find_26 : decode qc_X_find 26 = .ok (.iconst 0, 1) := by decide +kernel
theorem qd_X_find_27 : decode qc_X_find 27 = .ok (.istore 6, 2) := by decide +kernel
theorem qd_X_find_29 : decode qc_X_find 29 = .ok (.iload 6, 2) := by decide +kernel
theorem qd_X_find_31 : decode qc_X_find 31 = .ok (.iload_n 1, 1) := by decide +kernel
theorem qd_X_find_32 : decode qc_X_find 32 = .ok (.if_icmp .ge 25, 3) := by decide +kernel
theorem qd_X_find_35 : decode qc_X_find 35 = .ok (.aload_n 0, 1) := by decide +kernel
theorem qd_X_find_36 : decode qc_X_find 36 = .ok (.getfield 9, 3) := by decide +kernel
theorem qd_X_find_39 : decode qc_X_find 39 = .ok (.iload 6, 2) := by decide +kernel
theorem qd_X_find_41 : decode qc_X_find 41 = .ok (.laload, 1) := by decide +kernel
theorem qd_X_find_42 : decode qc_X_find 42 = .ok (.lload 4, 2) := by decide +kernel
theorem qd_X_find_44 : decode qc_X_find 44 = .ok (.lcmp, 1) := by decide +kernel
theorem qd_X_find_45 : decode qc_X_find 45 = .ok (.ifCond .ne 6, 3) := by decide +kernel
theorem qd_X_find_48 : decode qc_X_find 48 = .ok (.iload 6, 2) := by decide +kernel
theorem qd_X_find_50 : decode qc_X_find 50 = .ok (.ireturn, 1) := by decide +kernel
theorem qd_X_find_51 : decode qc_X_find 51 = .ok (.iinc 6 1, 3) := by decide +kernel
theorem qd_X_find_54 : decode qc_X_find 54 = .ok (.goto (-25), 3) := by decide +kernel
theorem qd_X_find_57 : decode qc_X_find 57 = .ok (.iconst (-1), 1) := by decide +kernel
theorem qd_X_find_58 : decode qc_X_find 58 = .ok (.ireturn, 1) := by decide +kernel
theorem qd_J_bitCount_0 : decode qc_J_bitCount 0 = .ok (.iload_n 0, 1) := by decide +kernel
theorem qd_J_bitCount_1 : decode qc_J_bitCount 1 = .ok (.iload_n 0, 1) := by decide +kernel
theorem qd_J_bitCount_2 : decode qc_J_bitCount 2 = .ok (.iconst 1, 1) := by decide +kernel
theorem qd_J_bitCount_3 : decode qc_J_bitCount 3 = .ok (.iushr, 1) := by decide +kernel
theorem qd_J_bitCount_4 : decode qc_J_bitCount 4 = .ok (.ldc_w 265, 3) := by decide +kernel
theorem qd_J_bitCount_7 : decode qc_J_bitCount 7 = .ok (.iand, 1) := by decide +kernel
theorem qd_J_bitCount_8 : decode qc_J_bitCount 8 = .ok (.isub, 1) := by decide +kernel
theorem qd_J_bitCount_9 : decode qc_J_bitCount 9 = .ok (.istore_n 0, 1) := by decide +kernel
theorem qd_J_bitCount_10 : decode qc_J_bitCount 10 = .ok (.iload_n 0, 1) := by decide +kernel
theorem qd_J_bitCount_11 : decode qc_J_bitCount 11 = .ok (.ldc_w 266, 3) := by decide +kernel
theorem qd_J_bitCount_14 : decode qc_J_bitCount 14 = .ok (.iand, 1) := by decide +kernel
theorem qd_J_bitCount_15 : decode qc_J_bitCount 15 = .ok (.iload_n 0, 1) := by decide +kernel
theorem qd_J_bitCount_16 : decode qc_J_bitCount 16 = .ok (.iconst 2, 1) := by decide +kernel
theorem qd_J_bitCount_17 : decode qc_J_bitCount 17 = .ok (.iushr, 1) := by decide +kernel
theorem qd_J_bitCount_18 : decode qc_J_bitCount 18 = .ok (.ldc_w 266, 3) := by decide +kernel
theorem qd_J_bitCount_21 : decode qc_J_bitCount 21 = .ok (.iand, 1) := by decide +kernel
theorem qd_J_bitCount_22 : decode qc_J_bitCount 22 = .ok (.iadd, 1) := by decide +kernel
theorem qd_J_bitCount_23 : decode qc_J_bitCount 23 = .ok (.istore_n 0, 1) := by decide +kernel
theorem qd_J_bitCount_24 : decode qc_J_bitCount 24 = .ok (.iload_n 0, 1) := by decide +kernel
theorem qd_J_bitCount_25 : decode qc_J_bitCount 25 = .ok (.iload_n 0, 1) := by decide +kernel
theorem qd_J_bitCount_26 : decode qc_J_bitCount 26 = .ok (.iconst 4, 1) := by decide +kernel
theorem qd_J_bitCount_27 : decode qc_J_bitCount 27 = .ok (.iushr, 1) := by decide +kernel
theorem qd_J_bitCount_28 : decode qc_J_bitCount 28 = .ok (.iadd, 1) := by decide +kernel
theorem qd_J_bitCount_29 : decode qc_J_bitCount 29 = .ok (.ldc_w 267, 3) := by decide +kernel
theorem qd_J_bitCount_32 : decode qc_J_bitCount 32 = .ok (.iand, 1) := by decide +kernel
theorem qd_J_bitCount_33 : decode qc_J_bitCount 33 = .ok (.istore_n 0, 1) := by decide +kernel
theorem qd_J_bitCount_34 : decode qc_J_bitCount 34 = .ok (.iload_n 0, 1) := by decide +kernel
theorem qd_J_bitCount_35 : decode qc_J_bitCount 35 = .ok (.iload_n 0, 1) := by decide +kernel
theorem qd_J_bitCount_36 : decode qc_J_bitCount 36 = .ok (.bipush 8, 2) := by decide +kernel
theorem qd_J_bitCount_38 : decode qc_J_bitCount 38 = .ok (.iushr, 1) := by decide +kernel
theorem qd_J_bitCount_39 : decode qc_J_bitCount 39 = .ok (.iadd, 1) := by decide +kernel
theorem qd_J_bitCount_40 : decode qc_J_bitCount 40 = .ok (.istore_n 0, 1) := by decide +kernel
theorem qd_J_bitCount_41 : decode qc_J_bitCount 41 = .ok (.iload_n 0, 1) := by decide +kernel
theorem qd_J_bitCount_42 : decode qc_J_bitCount 42 = .ok (.iload_n 0, 1) := by decide +kernel
theorem qd_J_bitCount_43 : decode qc_J_bitCount 43 = .ok (.bipush 16, 2) := by decide +kernel
theorem qd_J_bitCount_45 : decode qc_J_bitCount 45 = .ok (.iushr, 1) := by decide +kernel
theorem qd_J_bitCount_46 : decode qc_J_bitCount 46 = .ok (.iadd, 1) := by decide +kernel
theorem qd_J_bitCount_47 : decode qc_J_bitCount 47 = .ok (.istore_n 0, 1) := by decide +kernel
theorem qd_J_bitCount_48 : decode qc_J_bitCount 48 = .ok (.iload_n 0, 1) := by decide +kernel
theorem qd_J_bitCount_49 : decode qc_J_bitCount 49 = .ok (.bipush 63, 2) := by decide +kernel
theorem qd_J_bitCount_51 : decode qc_J_bitCount 51 = .ok (.iand, 1) := by decide +kernel
theorem qd_J_bitCount_52 : decode qc_J_bitCount 52 = .ok (.ireturn, 1) := by decide +kernel
