theorem qd_L_add_0 : decode qc_L_add 0 = .ok (.aload_n 3, 1) := by decide +kernel
theorem qd_L_add_1 : decode qc_L_add 1 = .ok (.iconst 0, 1) := by decide +kernel
theorem qd_L_add_2 : decode qc_L_add 2 = .ok (.aload_n 0, 1) := by decide +kernel
theorem qd_L_add_3 : decode qc_L_add 3 = .ok (.lload_n 1, 1) := by decide +kernel
theorem qd_L_add_4 : decode qc_L_add 4 = .ok (.invokevirtual 7, 3) := by decide +kernel
theorem qd_L_add_7 : decode qc_L_add 7 = .ok (.i2l, 1) := by decide +kernel
theorem qd_L_add_8 : decode qc_L_add 8 = .ok (.lastore, 1) := by decide +kernel
theorem qd_L_add_9 : decode qc_L_add 9 = .ok (.goto 7, 3) := by decide +kernel
theorem qd_L_add_12 : decode qc_L_add 12 = .ok (.astore 4, 2) := by decide +kernel
theorem qd_L_add_14 : decode qc_L_add 14 = .ok (.iconst 1, 1) := by decide +kernel
theorem qd_L_add_15 : decode qc_L_add 15 = .ok (.ireturn, 1) := by decide +kernel
theorem qd_L_add_16 : decode qc_L_add 16 = .ok (.iconst 0, 1) := by decide +kernel
theorem qd_L_add_17 : decode qc_L_add 17 = .ok (.ireturn, 1) := by decide +kernel
theorem qd_L_fill_0 : decode qc_L_fill 0 = .ok (.aload 6, 2) := by decide +kernel
theorem qd_L_fill_2 : decode qc_L_fill 2 = .ok (.iconst 0, 1) := by decide +kernel
theorem qd_L_fill_3 : decode qc_L_fill 3 = .ok (.aload_n 0, 1) := by decide +kernel
theorem qd_L_fill_4 : decode qc_L_fill 4 = .ok (.iload_n 1, 1) := by decide +kernel
theorem qd_L_fill_5 : decode qc_L_fill 5 = .ok (.lload_n 2, 1) := by decide +kernel
theorem qd_L_fill_6 : decode qc_L_fill 6 = .ok (.lload 4, 2) := by decide +kernel
theorem qd_L_fill_8 : decode qc_L_fill 8 = .ok (.invokevirtual 15, 3) := by decide +kernel
theorem qd_L_fill_11 : decode qc_L_fill 11 = .ok (.i2l, 1) := by decide +kernel
theorem qd_L_fill_12 : decode qc_L_fill 12 = .ok (.lastore, 1) := by decide +kernel
theorem qd_L_fill_13 : decode qc_L_fill 13 = .ok (.goto 11, 3) := by decide +kernel
theorem qd_L_fill_16 : decode qc_L_fill 16 = .ok (.astore 7, 2) := by decide +kernel
theorem qd_L_fill_18 : decode qc_L_fill 18 = .ok (.iconst 1, 1) := by decide +kernel
theorem qd_L_fill_19 : decode qc_L_fill 19 = .ok (.ireturn, 1) := by decide +kernel
theorem qd_L_fill_20 : decode qc_L_fill 20 = .ok (.astore 7, 2) := by decide +kernel
theorem qd_L_fill_22 : decode qc_L_fill 22 = .ok (.iconst 2, 1) := by decide +kernel
theorem qd_L_fill_23 : decode qc_L_fill 23 = .ok (.ireturn, 1) := by decide +kernel
theorem qd_L_fill_24 : decode qc_L_fill 24 = .ok (.iconst 0, 1) := by decide +kernel
theorem qd_L_fill_25 : decode qc_L_fill 25 = .ok (.ireturn, 1) := by decide +kernel
theorem qd_L_cut_0 : decode qc_L_cut 0 = .ok (.aload_n 2, 1) := by decide +kernel
theorem qd_L_cut_1 : decode qc_L_cut 1 = .ok (.iconst 0, 1) := by decide +kernel
theorem qd_L_cut_2 : decode qc_L_cut 2 = .ok (.aload_n 0, 1) := by decide +kernel
theorem qd_L_cut_3 : decode qc_L_cut 3 = .ok (.iload_n 1, 1) := by decide +kernel
theorem qd_L_cut_4 : decode qc_L_cut 4 = .ok (.invokevirtual 21, 3) := by decide +kernel
theorem qd_L_cut_7 : decode qc_L_cut 7 = .ok (.i2l, 1) := by decide +kernel
theorem qd_L_cut_8 : decode qc_L_cut 8 = .ok (.lastore, 1) := by decide +kernel
theorem qd_L_cut_9 : decode qc_L_cut 9 = .ok (.goto 6, 3) := by decide +kernel
theorem qd_L_cut_12 : decode qc_L_cut 12 = .ok (.astore_n 3, 1) := by decide +kernel
theorem qd_L_cut_13 : decode qc_L_cut 13 = .ok (.iconst 1, 1) := by decide +kernel
theorem qd_L_cut_14 : decode qc_L_cut 14 = .ok (.ireturn, 1) := by decide +kernel
theorem qd_L_cut_15 : decode qc_L_cut 15 = .ok (.iconst 0, 1) := by decide +kernel
theorem qd_L_cut_16 : decode qc_L_cut 16 = .ok (.ireturn, 1) := by decide +kernel
theorem qd_L_head_0 : decode qc_L_head 0 = .ok (.aload_n 2, 1) := by decide +kernel
theorem qd_L_head_1 : decode qc_L_head 1 = .ok (.iconst 0, 1) := by decide +kernel
theorem qd_L_head_2 : decode qc_L_head 2 = .ok (.aload_n 0, 1) := by decide +kernel
theorem qd_L_head_3 : decode qc_L_head 3 = .ok (.iload_n 1, 1) := by decide +kernel
theorem qd_L_head_4 : decode qc_L_head 4 = .ok (.invokevirtual 25, 3) := by decide +kernel
theorem qd_L_head_7 : decode qc_L_head 7 = .ok (.lastore, 1) := by decide +kernel
theorem qd_L_head_8 : decode qc_L_head 8 = .ok (.goto 6, 3) := by decide +kernel
theorem qd_L_head_11 : decode qc_L_head 11 = .ok (.astore_n 3, 1) := by decide +kernel
theorem qd_L_head_12 : decode qc_L_head 12 = .ok (.iconst 1, 1) := by decide +kernel
theorem qd_L_head_13 : decode qc_L_head 13 = .ok (.ireturn, 1) := by decide +kernel
theorem qd_L_head_14 : decode qc_L_head 14 = .ok (.iconst 0, 1) := by decide +kernel
theorem qd_L_head_15 : decode qc_L_head 15 = .ok (.ireturn, 1) := by decide +kernel
theorem qd_L_part_0 : decode qc_L_part 0 = .ok (.aload_n 3, 1) := by decide +kernel
theorem qd_L_part_1 : decode qc_L_part 1 = .ok (.iconst 0, 1) := by decide +kernel
theorem qd_L_part_2 : decode qc_L_part 2 = .ok (.aload_n 0, 1) := by decide +kernel
theorem qd_L_part_3 : decode qc_L_part 3 = .ok (.iload_n 1, 1) := by decide +kernel
theorem qd_L_part_4 : decode qc_L_part 4 = .ok (.iload_n 2, 1) := by decide +kernel
theorem qd_L_part_5 : decode qc_L_part 5 = .ok (.invokevirtual 31, 3) := by decide +kernel
theorem qd_L_part_8 : decode qc_L_part 8 = .ok (.lastore, 1) := by decide +kernel
theorem qd_L_part_9 : decode qc_L_part 9 = .ok (.goto 7, 3) := by decide +kernel
theorem qd_L_part_12 : decode qc_L_part 12 = .ok (.astore 4, 2) := by decide +kernel
theorem qd_L_part_14 : decode qc_L_part 14 = .ok (.iconst 1, 1) := by decide +kernel
theorem qd_L_part_15 : decode qc_L_part 15 = .ok (.ireturn, 1) := by decide +kernel
theorem qd_L_part_16 : decode qc_L_part 16 = .ok (.iconst 0, 1) := by decide +kernel
theorem qd_L_part_17 : decode qc_L_part 17 = .ok (.ireturn, 1) := by decide +kernel
theorem qd_L_path_0 : decode qc_L_path 0 = .ok (.aload_n 3, 1) := by decide +kernel
theorem qd_L_path_1 : decode qc_L_path 1 = .ok (.iconst 0, 1) := by decide +kernel
theorem qd_L_path_2 : decode qc_L_path 2 = .ok (.aload_n 0, 1) := by decide +kernel
theorem qd_L_path_3 : decode qc_L_path 3 = .ok (.iload_n 1, 1) := by decide +kernel
theorem qd_L_path_4 : decode qc_L_path 4 = .ok (.iload_n 2, 1) := by decide +kernel
theorem qd_L_path_5 : decode qc_L_path 5 = .ok (.invokevirtual 35, 3) := by decide +kernel
theorem qd_L_path_8 : decode qc_L_path 8 = .ok (.i2l, 1) := by decide +kernel
theorem qd_L_path_9 : decode qc_L_path 9 = .ok (.lastore, 1) := by decide +kernel
theorem qd_L_path_10 : decode qc_L_path 10 = .ok (.goto 7, 3) := by decide +kernel
theorem qd_L_path_13 : decode qc_L_path 13 = .ok (.astore 4, 2) := by decide +kernel
theorem qd_L_path_15 : decode qc_L_path 15 = .ok (.iconst 1, 1) := by decide +kernel
theorem qd_L_path_16 : decode qc_L_path 16 = .ok (.ireturn, 1) := by decide +kernel
theorem qd_L_path_17 : decode qc_L_path 17 = .ok (.iconst 0, 1) := by decide +kernel
theorem qd_L_path_18 : decode qc_L_path 18 = .ok (.ireturn, 1) := by decide +kernel
theorem qd_L_steps_0 : decode qc_L_steps 0 = .ok (.aload_n 3, 1) := by decide +kernel
theorem qd_L_steps_1 : decode qc_L_steps 1 = .ok (.iconst 0, 1) := by decide +kernel
theorem qd_L_steps_2 : decode qc_L_steps 2 = .ok (.aload_n 0, 1) := by decide +kernel
theorem qd_L_steps_3 : decode qc_L_steps 3 = .ok (.iload_n 1, 1) := by decide +kernel
theorem qd_L_steps_4 : decode qc_L_steps 4 = .ok (.iload_n 2, 1) := by decide +kernel
theorem qd_L_steps_5 : decode qc_L_steps 5 = .ok (.invokevirtual 39, 3) := by decide +kernel
theorem qd_L_steps_8 : decode qc_L_steps 8 = .ok (.i2l, 1) := by decide +kernel
theorem qd_L_steps_9 : decode qc_L_steps 9 = .ok (.lastore, 1) := by decide +kernel
theorem qd_L_steps_10 : decode qc_L_steps 10 = .ok (.goto 7, 3) := by decide +kernel
theorem qd_L_steps_13 : decode qc_L_steps 13 = .ok (.astore 4, 2) := by decide +kernel
theorem qd_L_steps_15 : decode qc_L_steps 15 = .ok (.iconst 1, 1) := by decide +kernel
theorem qd_L_steps_16 : decode qc_L_steps 16 = .ok (.ireturn, 1) := by decide +kernel
theorem qd_L_steps_17 : decode qc_L_steps 17 = .ok (.iconst 0, 1) := by decide +kernel
theorem qd_L_steps_18 : decode qc_L_steps 18 = .ok (.ireturn, 1) := by decide +kernel
theorem qd_L_proof_0 : decode qc_L_proof 0 = .ok (.aload_n 2, 1) := by decide +kernel
theorem qd_L_proof_1 : decode qc_L_proof 1 = .ok (.iconst 0, 1) := by decide +kernel
theorem qd_L_proof_2 : decode qc_L_proof 2 = .ok (.aload_n 0, 1) := by decide +kernel
theorem qd_L_proof_3 : decode qc_L_proof 3 = .ok (.iload_n 1, 1) := by decide +kernel
theorem qd_L_proof_4 : decode qc_L_proof 4 = .ok (.invokevirtual 42, 3) := by decide +kernel
theorem qd_L_proof_7 : decode qc_L_proof 7 = .ok (.lastore, 1) := by decide +kernel
theorem qd_L_proof_8 : decode qc_L_proof 8 = .ok (.goto 6, 3) := by decide +kernel
theorem qd_L_proof_11 : decode qc_L_proof 11 = .ok (.astore_n 3, 1) := by decide +kernel
theorem qd_L_proof_12 : decode qc_L_proof 12 = .ok (.iconst 1, 1) := by decide +kernel
theorem qd_L_proof_13 : decode qc_L_proof 13 = .ok (.ireturn, 1) := by decide +kernel
theorem qd_L_proof_14 : decode qc_L_proof 14 = .ok (.iconst 0, 1) := by decide +kernel
theorem qd_L_proof_15 : decode qc_L_proof 15 = .ok (.ireturn, 1) := by decide +kernel
theorem qd_L_alter_0 : decode qc_L_alter 0 = .ok (.aload 4, 2) := by decide +kernel
theorem qd_L_alter_2 : decode qc_L_alter 2 = .ok (.iconst 0, 1) := by decide +kernel
theorem qd_L_alter_3 : decode qc_L_alter 3 = .ok (.aload_n 0, 1) := by decide +kernel
theorem qd_L_alter_4 : decode qc_L_alter 4 = .ok (.iload_n 1, 1) := by decide +kernel
theorem qd_L_alter_5 : decode qc_L_alter 5 = .ok (.lload_n 2, 1) := by decide +kernel
theorem qd_L_alter_6 : decode qc_L_alter 6 = .ok (.invokevirtual 47, 3) := by decide +kernel
theorem qd_L_alter_9 : decode qc_L_alter 9 = .ok (.lastore, 1) := by decide +kernel
theorem qd_L_alter_10 : decode qc_L_alter 10 = .ok (.goto 7, 3) := by decide +kernel
theorem qd_L_alter_13 : decode qc_L_alter 13 = .ok (.astore 5, 2) := by decide +kernel
theorem qd_L_alter_15 : decode qc_L_alter 15 = .ok (.iconst 1, 1) := by decide +kernel
theorem qd_L_alter_16 : decode qc_L_alter 16 = .ok (.ireturn, 1) := by decide +kernel
theorem qd_L_alter_17 : decode qc_L_alter 17 = .ok (.iconst 0, 1) := by decide +kernel
theorem qd_L_alter_18 : decode qc_L_alter 18 = .ok (.ireturn, 1) := by decide +kernel
theorem qd_L_length_0 : decode qc_L_length 0 = .ok (.aload_n 2, 1) := by decide +kernel
theorem qd_L_length_1 : decode qc_L_length 1 = .ok (.iconst 0, 1) := by decide +kernel
theorem qd_L_length_2 : decode qc_L_length 2 = .ok (.aload_n 0, 1) := by decide +kernel
theorem qd_L_length_3 : decode qc_L_length 3 = .ok (.iload_n 1, 1) := by decide +kernel
theorem qd_L_length_4 : decode qc_L_length 4 = .ok (.invokevirtual 51, 3) := by decide +kernel
theorem qd_L_length_7 : decode qc_L_length 7 = .ok (.i2l, 1) := by decide +kernel
theorem qd_L_length_8 : decode qc_L_length 8 = .ok (.lastore, 1) := by decide +kernel
theorem qd_L_length_9 : decode qc_L_length 9 = .ok (.goto 6, 3) := by decide +kernel
theorem qd_L_length_12 : decode qc_L_length 12 = .ok (.astore_n 3, 1) := by decide +kernel
theorem qd_L_length_13 : decode qc_L_length 13 = .ok (.iconst 1, 1) := by decide +kernel
theorem qd_L_length_14 : decode qc_L_length 14 = .ok (.ireturn, 1) := by decide +kernel
theorem qd_L_length_15 : decode qc_L_length 15 = .ok (.iconst 0, 1) := by decide +kernel
theorem qd_L_length_16 : decode qc_L_length 16 = .ok (.ireturn, 1) := by decide +kernel
theorem qd_L_find_0 : decode qc_L_find 0 = .ok (.aload 4, 2) := by decide +kernel
theorem qd_L_find_2 : decode qc_L_find 2 = .ok (.iconst 0, 1) := by decide +kernel
theorem qd_L_find_3 : decode qc_L_find 3 = .ok (.aload_n 0, 1) := by decide +kernel
theorem qd_L_find_4 : decode qc_L_find 4 = .ok (.iload_n 1, 1) := by decide +kernel
theorem qd_L_find_5 : decode qc_L_find 5 = .ok (.lload_n 2, 1) := by decide +kernel
theorem qd_L_find_6 : decode qc_L_find 6 = .ok (.invokevirtual 54, 3) := by decide +kernel
theorem qd_L_find_9 : decode qc_L_find 9 = .ok (.i2l, 1) := by decide +kernel
theorem qd_L_find_10 : decode qc_L_find 10 = .ok (.lastore, 1) := by decide +kernel
theorem qd_L_find_11 : decode qc_L_find 11 = .ok (.goto 7, 3) := by decide +kernel
theorem qd_L_find_14 : decode qc_L_find 14 = .ok (.astore 5, 2) := by decide +kernel
theorem qd_L_find_16 : decode qc_L_find 16 = .ok (.iconst 1, 1) := by decide +kernel
theorem qd_L_find_17 : decode qc_L_find 17 = .ok (.ireturn, 1) := by decide +kernel
theorem qd_L_find_18 : decode qc_L_find 18 = .ok (.iconst 0, 1) := by decide +kernel
theorem qd_L_find_19 : decode qc_L_find 19 = .ok (.ireturn, 1) := by decide +kernel
theorem qd_M_init_0 : decode qc_M_init 0 = .ok (.aload_n 0, 1) := by decide +kernel
theorem qd_M_init_1 : decode qc_M_init 1 = .ok (.invokespecial 1, 3) := by decide +kernel
theorem qd_M_init_4 : decode qc_M_init 4 = .ok (.aload_n 0, 1) := by decide +kernel
theorem qd_M_init_5 : decode qc_M_init 5 = .ok (.sipush 600, 3) := by decide +kernel
theorem qd_M_init_8 : decode qc_M_init 8 = .ok (.newarray .long, 2) := by decide +kernel
theorem qd_M_init_10 : decode qc_M_init 10 = .ok (.putfield 9, 3) := by decide +kernel
theorem qd_M_init_13 : decode qc_M_init 13 = .ok (.aload_n 0, 1) := by decide +kernel
theorem qd_M_init_14 : decode qc_M_init 14 = .ok (.bipush 40, 2) := by decide +kernel
theorem qd_M_init_16 : decode qc_M_init 16 = .ok (.newarray .long, 2) := by decide +kernel
theorem qd_M_init_18 : decode qc_M_init 18 = .ok (.putfield 13, 3) := by decide +kernel
theorem qd_M_init_21 : decode qc_M_init 21 = .ok (.return_, 1) := by decide +kernel
theorem qd_M_thrown_0 : decode qc_M_thrown 0 = .ok (.aload_n 0, 1) := by decide +kernel
theorem qd_M_thrown_1 : decode qc_M_thrown 1 = .ok (.getfield 16, 3) := by decide +kernel
theorem qd_M_thrown_4 : decode qc_M_thrown 4 = .ok (.ireturn, 1) := by decide +kernel
theorem qd_M_add_0 : decode qc_M_add 0 = .ok (.aload_n 0, 1) := by decide +kernel
theorem qd_M_add_1 : decode qc_M_add 1 = .ok (.aload_n 0, 1) := by decide +kernel
theorem qd_M_add_2 : decode qc_M_add 2 = .ok (.getfield 41, 3) := by decide +kernel
theorem qd_M_add_5 : decode qc_M_add 5 = .ok (.sipush 600, 3) := by decide +kernel
theorem qd_M_add_8 : decode qc_M_add 8 = .ok (.if_icmp .ne 7, 3) := by decide +kernel
theorem qd_M_add_11 : decode qc_M_add 11 = .ok (.iconst 1, 1) := by decide +kernel
theorem qd_M_add_12 : decode qc_M_add 12 = .ok (.goto 4, 3) := by decide +kernel
theorem qd_M_add_15 : decode qc_M_add 15 = .ok (.iconst 0, 1) := by decide +kernel
theorem qd_M_add_16 : decode qc_M_add 16 = .ok (.putfield 16, 3) := by decide +kernel
theorem qd_M_add_19 : decode qc_M_add 19 = .ok (.aload_n 0, 1) := by decide +kernel
theorem qd_M_add_20 : decode qc_M_add 20 = .ok (.getfield 16, 3) := by decide +kernel
theorem qd_M_add_23 : decode qc_M_add 23 = .ok (.ifCond .le 5, 3) := by decide +kernel
theorem qd_M_add_26 : decode qc_M_add 26 = .ok (.iconst 0, 1) := by decide +kernel
theorem qd_M_add_27 : decode qc_M_add 27 = .ok (.ireturn, 1) := by decide +kernel
theorem qd_M_add_28 : decode qc_M_add 28 = .ok (.aload_n 0, 1) := by decide +kernel
theorem qd_M_add_29 : decode qc_M_add 29 = .ok (.getfield 9, 3) := by decide +kernel
theorem qd_M_add_32 : decode qc_M_add 32 = .ok (.aload_n 0, 1) := by decide +kernel
theorem qd_M_add_33 : decode qc_M_add 33 = .ok (.getfield 41, 3) := by decide +kernel
theorem qd_M_add_36 : decode qc_M_add 36 = .ok (.lload_n 1, 1) := by decide +kernel
theorem qd_M_add_37 : decode qc_M_add 37 = .ok (.lastore, 1) := by decide +kernel
theorem qd_M_add_38 : decode qc_M_add 38 = .ok (.aload_n 0, 1) := by decide +kernel
theorem qd_M_add_39 : decode qc_M_add 39 = .ok (.dup, 1) := by decide +kernel
theorem qd_M_add_40 : decode qc_M_add 40 = .ok (.getfield 41, 3) := by decide +kernel
theorem qd_M_add_43 : decode qc_M_add 43 = .ok (.iconst 1, 1) := by decide +kernel
theorem qd_M_add_44 : decode qc_M_add 44 = .ok (.iadd, 1) := by decide +kernel
theorem qd_M_add_45 : decode qc_M_add 45 = .ok (.putfield 41, 3) := by decide +kernel
theorem qd_M_add_48 : decode qc_M_add 48 = .ok (.aload_n 0, 1) := by decide +kernel
theorem qd_M_add_49 : decode qc_M_add 49 = .ok (.getfield 41, 3) := by decide +kernel
theorem qd_M_add_52 : decode qc_M_add 52 = .ok (.ireturn, 1) := by decide +kernel
theorem qd_M_fill_0 : decode qc_M_fill 0 = .ok (.aload_n 0, 1) := by decide +kernel
theorem qd_M_fill_1 : decode qc_M_fill 1 = .ok (.iload_n 1, 1) := by decide +kernel
theorem qd_M_fill_2 : decode qc_M_fill 2 = .ok (.iconst 1, 1) := by decide +kernel
theorem qd_M_fill_3 : decode qc_M_fill 3 = .ok (.if_icmp .lt 10, 3) := by decide +kernel
theorem qd_M_fill_6 : decode qc_M_fill 6 = .ok (.iload_n 1, 1) := by decide +kernel
theorem qd_M_fill_7 : decode qc_M_fill 7 = .ok (.sipush 200, 3) := by decide +kernel
theorem qd_M_fill_10 : decode qc_M_fill 10 = .ok (.if_icmp .le 7, 3) := by decide +kernel
theorem qd_M_fill_13 : decode qc_M_fill 13 = .ok (.iconst 1, 1) := by decide +kernel
theorem qd_M_fill_14 : decode qc_M_fill 14 = .ok (.goto 20, 3) := by decide +kernel
theorem qd_M_fill_17 : decode qc_M_fill 17 = .ok (.aload_n 0, 1) := by decide +kernel
theorem qd_M_fill_18 : decode qc_M_fill 18 = .ok (.getfield 41, 3) := by decide +kernel
theorem qd_M_fill_21 : decode qc_M_fill 21 = .ok (.iload_n 1, 1) := by decide +kernel
theorem qd_M_fill_22 : decode qc_M_fill 22 = .ok (.iadd, 1) := by decide +kernel
theorem qd_M_fill_23 : decode qc_M_fill 23 = .ok (.sipush 600, 3) := by decide +kernel
theorem qd_M_fill_26 : decode qc_M_fill 26 = .ok (.if_icmp .le 7, 3) := by decide +kernel
theorem qd_M_fill_29 : decode qc_M_fill 29 = .ok (.iconst 2, 1) := by decide +kernel
theorem qd_M_fill_30 : decode qc_M_fill 30 = .ok (.goto 4, 3) := by decide +kernel
theorem qd_M_fill_33 : decode qc_M_fill 33 = .ok (.iconst 0, 1) := by decide +kernel
theorem qd_M_fill_34 : decode qc_M_fill 34 = .ok (.putfield 16, 3) := by decide +kernel
theorem qd_M_fill_37 : decode qc_M_fill 37 = .ok (.aload_n 0, 1) := by decide +kernel
theorem qd_M_fill_38 : decode qc_M_fill 38 = .ok (.getfield 16, 3) := by decide +kernel
theorem qd_M_fill_41 : decode qc_M_fill 41 = .ok (.ifCond .le 5, 3) := by decide +kernel
theorem qd_M_fill_44 : decode qc_M_fill 44 = .ok (.iconst 0, 1) := by decide +kernel
theorem qd_M_fill_45 : decode qc_M_fill 45 = .ok (.ireturn, 1) := by decide +kernel
theorem qd_M_fill_46 : decode qc_M_fill 46 = .ok (.iconst 0, 1) := by decide +kernel
theorem qd_M_fill_47 : decode qc_M_fill 47 = .ok (.istore 6, 2) := by decide +kernel
theorem qd_M_fill_49 : decode qc_M_fill 49 = .ok (.iload 6, 2) := by decide +kernel
theorem qd_M_fill_51 : decode qc_M_fill 51 = .ok (.iload_n 1, 1) := by decide +kernel
theorem qd_M_fill_52 : decode qc_M_fill 52 = .ok (.if_icmp .ge 29, 3) := by decide +kernel
theorem qd_M_fill_55 : decode qc_M_fill 55 = .ok (.aload_n 0, 1) := by decide +kernel
theorem qd_M_fill_56 : decode qc_M_fill 56 = .ok (.getfield 9, 3) := by decide +kernel
theorem qd_M_fill_59 : decode qc_M_fill 59 = .ok (.aload_n 0, 1) := by decide +kernel
theorem qd_M_fill_60 : decode qc_M_fill 60 = .ok (.getfield 41, 3) := by decide +kernel
theorem qd_M_fill_63 : decode qc_M_fill 63 = .ok (.iload 6, 2) := by decide +kernel
theorem qd_M_fill_65 : decode qc_M_fill 65 = .ok (.iadd, 1) := by decide +kernel
theorem qd_M_fill_66 : decode qc_M_fill 66 = .ok (.lload_n 2, 1) := by decide +kernel
theorem qd_M_fill_67 : decode qc_M_fill 67 = .ok (.iload 6, 2) := by decide +kernel
theorem qd_M_fill_69 : decode qc_M_fill 69 = .ok (.i2l, 1) := by decide +kernel
theorem qd_M_fill_70 : decode qc_M_fill 70 = .ok (.lload 4, 2) := by decide +kernel
theorem qd_M_fill_72 : decode qc_M_fill 72 = .ok (.lmul, 1) := by decide +kernel
theorem qd_M_fill_73 : decode qc_M_fill 73 = .ok (.ladd, 1) := by decide +kernel
theorem qd_M_fill_74 : decode qc_M_fill 74 = .ok (.lastore, 1) := by decide +kernel
theorem qd_M_fill_75 : decode qc_M_fill 75 = .ok (.iinc 6 1, 3) := by decide +kernel
theorem qd_M_fill_78 : decode qc_M_fill 78 = .ok (.goto (-29), 3) := by decide +kernel
theorem qd_M_fill_81 : decode qc_M_fill 81 = .ok (.aload_n 0, 1) := by decide +kernel
theorem qd_M_fill_82 : decode qc_M_fill 82 = .ok (.dup, 1) := by decide +kernel
theorem qd_M_fill_83 : decode qc_M_fill 83 = .ok (.getfield 41, 3) := by decide +kernel
theorem qd_M_fill_86 : decode qc_M_fill 86 = .ok (.iload_n 1, 1) := by decide +kernel
theorem qd_M_fill_87 : decode qc_M_fill 87 = .ok (.iadd, 1) := by decide +kernel
theorem qd_M_fill_88 : decode qc_M_fill 88 = .ok (.putfield 41, 3) := by decide +kernel
theorem qd_M_fill_91 : decode qc_M_fill 91 = .ok (.aload_n 0, 1) := by decide +kernel
theorem qd_M_fill_92 : decode qc_M_fill 92 = .ok (.getfield 41, 3) := by decide +kernel
theorem qd_M_fill_95 : decode qc_M_fill 95 = .ok (.ireturn, 1) := by decide +kernel
theorem qd_M_cut_0 : decode qc_M_cut 0 = .ok (.aload_n 0, 1) := by decide +kernel
theorem qd_M_cut_1 : decode qc_M_cut 1 = .ok (.iload_n 1, 1) := by decide +kernel
theorem qd_M_cut_2 : decode qc_M_cut 2 = .ok (.ifCond .lt 11, 3) := by decide +kernel
theorem qd_M_cut_5 : decode qc_M_cut 5 = .ok (.iload_n 1, 1) := by decide +kernel
theorem qd_M_cut_6 : decode qc_M_cut 6 = .ok (.aload_n 0, 1) := by decide +kernel
theorem qd_M_cut_7 : decode qc_M_cut 7 = .ok (.getfield 41, 3) := by decide +kernel
theorem qd_M_cut_10 : decode qc_M_cut 10 = .ok (.if_icmp .le 7, 3) := by decide +kernel
theorem qd_M_cut_13 : decode qc_M_cut 13 = .ok (.iconst 1, 1) := by decide +kernel
theorem qd_M_cut_14 : decode qc_M_cut 14 = .ok (.goto 4, 3) := by decide +kernel
theorem qd_M_cut_17 : decode qc_M_cut 17 = .ok (.iconst 0, 1) := by decide +kernel
theorem qd_M_cut_18 : decode qc_M_cut 18 = .ok (.putfield 16, 3) := by decide +kernel
theorem qd_M_cut_21 : decode qc_M_cut 21 = .ok (.aload_n 0, 1) := by decide +kernel
theorem qd_M_cut_22 : decode qc_M_cut 22 = .ok (.getfield 16, 3) := by decide +kernel
theorem qd_M_cut_25 : decode qc_M_cut 25 = .ok (.ifCond .le 5, 3) := by decide +kernel
theorem qd_M_cut_28 : decode qc_M_cut 28 = .ok (.iconst 0, 1) := by decide +kernel
theorem qd_M_cut_29 : decode qc_M_cut 29 = .ok (.ireturn, 1) := by decide +kernel
theorem qd_M_cut_30 : decode qc_M_cut 30 = .ok (.aload_n 0, 1) := by decide +kernel
theorem qd_M_cut_31 : decode qc_M_cut 31 = .ok (.getfield 41, 3) := by decide +kernel
theorem qd_M_cut_34 : decode qc_M_cut 34 = .ok (.iload_n 1, 1) := by decide +kernel
theorem qd_M_cut_35 : decode qc_M_cut 35 = .ok (.isub, 1) := by decide +kernel
theorem qd_M_cut_36 : decode qc_M_cut 36 = .ok (.istore_n 2, 1) := by decide +kernel
theorem qd_M_cut_37 : decode qc_M_cut 37 = .ok (.aload_n 0, 1) := by decide +kernel
theorem qd_M_cut_38 : decode qc_M_cut 38 = .ok (.iload_n 1, 1) := by decide +kernel
theorem qd_M_cut_39 : decode qc_M_cut 39 = .ok (.putfield 41, 3) := by decide +kernel
theorem qd_M_cut_42 : decode qc_M_cut 42 = .ok (.iload_n 2, 1) := by decide +kernel
theorem qd_M_cut_43 : decode qc_M_cut 43 = .ok (.ireturn, 1) := by decide +kernel
theorem qd_M_head_0 : decode qc_M_head 0 = .ok (.aload_n 0, 1) := by decide +kernel
theorem qd_M_head_1 : decode qc_M_head 1 = .ok (.iload_n 1, 1) := by decide +kernel
theorem qd_M_head_2 : decode qc_M_head 2 = .ok (.ifCond .lt 11, 3) := by decide +kernel
theorem qd_M_head_5 : decode qc_M_head 5 = .ok (.iload_n 1, 1) := by decide +kernel
theorem qd_M_head_6 : decode qc_M_head 6 = .ok (.aload_n 0, 1) := by decide +kernel
theorem qd_M_head_7 : decode qc_M_head 7 = .ok (.getfield 41, 3) := by decide +kernel
theorem qd_M_head_10 : decode qc_M_head 10 = .ok (.if_icmp .le 7, 3) := by decide +kernel
theorem qd_M_head_13 : decode qc_M_head 13 = .ok (.iconst 1, 1) := by decide +kernel
theorem qd_M_head_14 : decode qc_M_head 14 = .ok (.goto 4, 3) := by decide +kernel
theorem qd_M_head_17 : decode qc_M_head 17 = .ok (.iconst 0, 1) := by decide +kernel
theorem qd_M_head_18 : decode qc_M_head 18 = .ok (.putfield 16, 3) := by decide +kernel
theorem qd_M_head_21 : decode qc_M_head 21 = .ok (.aload_n 0, 1) := by decide +kernel
theorem qd_M_head_22 : decode qc_M_head 22 = .ok (.getfield 16, 3) := by decide +kernel
theorem qd_M_head_25 : decode qc_M_head 25 = .ok (.ifCond .le 7, 3) := by decide +kernel
theorem qd_M_head_28 : decode qc_M_head 28 = .ok (.lconst 0, 1) := by decide +kernel
theorem qd_M_head_29 : decode qc_M_head 29 = .ok (.goto 9, 3) := by decide +kernel
theorem qd_M_head_32 : decode qc_M_head 32 = .ok (.aload_n 0, 1) := by decide +kernel
theorem qd_M_head_33 : decode qc_M_head 33 = .ok (.iconst 0, 1) := by decide +kernel
theorem qd_M_head_34 : decode qc_M_head 34 = .ok (.iload_n 1, 1) := by decide +kernel
theorem qd_M_head_35 : decode qc_M_head 35 = .ok (.invokevirtual 34, 3) := by decide +kernel
theorem qd_M_head_38 : decode qc_M_head 38 = .ok (.lreturn, 1) := by decide +kernel
theorem qd_M_headOf_0 : decode qc_M_headOf 0 = .ok (.iload_n 2, 1) := by decide +kernel
theorem qd_M_headOf_1 : decode qc_M_headOf 1 = .ok (.ifCond .ne 5, 3) := by decide +kernel
theorem qd_M_headOf_4 : decode qc_M_headOf 4 = .ok (.lconst 0, 1) := by decide +kernel
theorem qd_M_headOf_5 : decode qc_M_headOf 5 = .ok (.lreturn, 1) := by decide +kernel
theorem qd_M_headOf_6 : decode qc_M_headOf 6 = .ok (.iload_n 2, 1) := by decide +kernel
theorem qd_M_headOf_7 : decode qc_M_headOf 7 = .ok (.iconst 1, 1) := by decide +kernel
theorem qd_M_headOf_8 : decode qc_M_headOf 8 = .ok (.if_icmp .ne 14, 3) := by decide +kernel
theorem qd_M_headOf_11 : decode qc_M_headOf 11 = .ok (.lconst 1, 1) := by decide +kernel
theorem qd_M_headOf_12 : decode qc_M_headOf 12 = .ok (.aload_n 0, 1) := by decide +kernel
theorem qd_M_headOf_13 : decode qc_M_headOf 13 = .ok (.getfield 9, 3) := by decide +kernel
theorem qd_M_headOf_16 : decode qc_M_headOf 16 = .ok (.iload_n 1, 1) := by decide +kernel
theorem qd_M_headOf_17 : decode qc_M_headOf 17 = .ok (.laload, 1) := by decide +kernel
theorem qd_M_headOf_18 : decode qc_M_headOf 18 = .ok (.invokestatic 26, 3) := by decide +kernel
theorem qd_M_headOf_21 : decode qc_M_headOf 21 = .ok (.lreturn, 1) := by decide +kernel
theorem qd_M_headOf_22 : decode qc_M_headOf 22 = .ok (.iload_n 2, 1) := by decide +kernel
theorem qd_M_headOf_23 : decode qc_M_headOf 23 = .ok (.invokestatic 30, 3) := by decide +kernel
theorem qd_M_headOf_26 : decode qc_M_headOf 26 = .ok (.istore_n 3, 1) := by decide +kernel
theorem qd_M_headOf_27 : decode qc_M_headOf 27 = .ok (.aload_n 0, 1) := by decide +kernel
theorem qd_M_headOf_28 : decode qc_M_headOf 28 = .ok (.iload_n 1, 1) := by decide +kernel
theorem qd_M_headOf_29 : decode qc_M_headOf 29 = .ok (.iload_n 3, 1) := by decide +kernel
theorem qd_M_headOf_30 : decode qc_M_headOf 30 = .ok (.invokevirtual 34, 3) := by decide +kernel
theorem qd_M_headOf_33 : decode qc_M_headOf 33 = .ok (.lstore 4, 2) := by decide +kernel
theorem qd_M_headOf_35 : decode qc_M_headOf 35 = .ok (.lload 4, 2) := by decide +kernel
theorem qd_M_headOf_37 : decode qc_M_headOf 37 = .ok (.aload_n 0, 1) := by decide +kernel
theorem qd_M_headOf_38 : decode qc_M_headOf 38 = .ok (.iload_n 1, 1) := by decide +kernel
theorem qd_M_headOf_39 : decode qc_M_headOf 39 = .ok (.iload_n 3, 1) := by decide +kernel
theorem qd_M_headOf_40 : decode qc_M_headOf 40 = .ok (.iadd, 1) := by decide +kernel
theorem qd_M_headOf_41 : decode qc_M_headOf 41 = .ok (.iload_n 2, 1) := by decide +kernel
theorem qd_M_headOf_42 : decode qc_M_headOf 42 = .ok (.iload_n 3, 1) := by decide +kernel
theorem qd_M_headOf_43 : decode qc_M_headOf 43 = .ok (.isub, 1) := by decide +kernel
theorem qd_M_headOf_44 : decode qc_M_headOf 44 = .ok (.invokevirtual 34, 3) := by decide +kernel
theorem qd_M_headOf_47 : decode qc_M_headOf 47 = .ok (.invokestatic 38, 3) := by decide +kernel
theorem qd_M_headOf_50 : decode qc_M_headOf 50 = .ok (.lreturn, 1) := by decide +kernel
theorem qd_M_mix_0 : decode qc_M_mix 0 = .ok (.lload_n 0, 1) := by decide +kernel
theorem qd_M_mix_1 : decode qc_M_mix 1 = .ok (.lload_n 2, 1) := by decide +kernel
theorem qd_M_mix_2 : decode qc_M_mix 2 = .ok (.lxor, 1) := by decide +kernel
theorem qd_M_mix_3 : decode qc_M_mix 3 = .ok (.ldc2_w 20, 3) := by decide +kernel
theorem qd_M_mix_6 : decode qc_M_mix 6 = .ok (.lmul, 1) := by decide +kernel
theorem qd_M_mix_7 : decode qc_M_mix 7 = .ok (.lstore 4, 2) := by decide +kernel
theorem qd_M_mix_9 : decode qc_M_mix 9 = .ok (.lload 4, 2) := by decide +kernel
theorem qd_M_mix_11 : decode qc_M_mix 11 = .ok (.lload 4, 2) := by decide +kernel
theorem qd_M_mix_13 : decode qc_M_mix 13 = .ok (.bipush 29, 2) := by decide +kernel
theorem qd_M_mix_15 : decode qc_M_mix 15 = .ok (.lushr, 1) := by decide +kernel
theorem qd_M_mix_16 : decode qc_M_mix 16 = .ok (.lxor, 1) := by decide +kernel
theorem qd_M_mix_17 : decode qc_M_mix 17 = .ok (.ldc2_w 22, 3) := by decide +kernel
theorem qd_M_mix_20 : decode qc_M_mix 20 = .ok (.lmul, 1) := by decide +kernel
theorem qd_M_mix_21 : decode qc_M_mix 21 = .ok (.lstore 6, 2) := by decide +kernel
theorem qd_M_mix_23 : decode qc_M_mix 23 = .ok (.lload 6, 2) := by decide +kernel
theorem qd_M_mix_25 : decode qc_M_mix 25 = .ok (.lload 6, 2) := by decide +kernel
theorem qd_M_mix_27 : decode qc_M_mix 27 = .ok (.bipush 32, 2) := by decide +kernel
theorem qd_M_mix_29 : decode qc_M_mix 29 = .ok (.lushr, 1) := by decide +kernel
theorem qd_M_mix_30 : decode qc_M_mix 30 = .ok (.lxor, 1) := by decide +kernel
theorem qd_M_mix_31 : decode qc_M_mix 31 = .ok (.lreturn, 1) := by decide +kernel
theorem qd_M_below_0 : decode qc_M_below 0 = .ok (.iconst 1, 1) := by decide +kernel
theorem qd_M_below_1 : decode qc_M_below 1 = .ok (.istore_n 1, 1) := by decide +kernel
theorem qd_M_below_2 : decode qc_M_below 2 = .ok (.iload_n 1, 1) := by decide +kernel
theorem qd_M_below_3 : decode qc_M_below 3 = .ok (.iload_n 0, 1) := by decide +kernel
theorem qd_M_below_4 : decode qc_M_below 4 = .ok (.iload_n 1, 1) := by decide +kernel
theorem qd_M_below_5 : decode qc_M_below 5 = .ok (.isub, 1) := by decide +kernel
theorem qd_M_below_6 : decode qc_M_below 6 = .ok (.if_icmp .ge 10, 3) := by decide +kernel
theorem qd_M_below_9 : decode qc_M_below 9 = .ok (.iload_n 1, 1) := by decide +kernel
theorem qd_M_below_10 : decode qc_M_below 10 = .ok (.iload_n 1, 1) := by decide +kernel
theorem qd_M_below_11 : decode qc_M_below 11 = .ok (.iadd, 1) := by decide +kernel
theorem qd_M_below_12 : decode qc_M_below 12 = .ok (.istore_n 1, 1) := by decide +kernel
theorem qd_M_below_13 : decode qc_M_below 13 = .ok (.goto (-11), 3) := by decide +kernel
theorem qd_M_below_16 : decode qc_M_below 16 = .ok (.iload_n 1, 1) := by decide +kernel
theorem qd_M_below_17 : decode qc_M_below 17 = .ok (.ireturn, 1) := by decide +kernel
theorem qd_M_node_0 : decode qc_M_node 0 = .ok (.ldc2_w 24, 3) := by decide +kernel
theorem qd_M_node_3 : decode qc_M_node 3 = .ok (.lload_n 0, 1) := by decide +kernel
theorem qd_M_node_4 : decode qc_M_node 4 = .ok (.invokestatic 26, 3) := by decide +kernel
theorem qd_M_node_7 : decode qc_M_node 7 = .ok (.lload_n 2, 1) := by decide +kernel
theorem qd_M_node_8 : decode qc_M_node 8 = .ok (.invokestatic 26, 3) := by decide +kernel
theorem qd_M_node_11 : decode qc_M_node 11 = .ok (.lreturn, 1) := by decide +kernel
theorem qd_M_part_0 : decode qc_M_part 0 = .ok (.aload_n 0, 1) := by decide +kernel
theorem qd_M_part_1 : decode qc_M_part 1 = .ok (.iload_n 1, 1) := by decide +kernel
theorem qd_M_part_2 : decode qc_M_part 2 = .ok (.ifCond .lt 16, 3) := by decide +kernel
theorem qd_M_part_5 : decode qc_M_part 5 = .ok (.iload_n 1, 1) := by decide +kernel
theorem qd_M_part_6 : decode qc_M_part 6 = .ok (.iload_n 2, 1) := by decide +kernel
theorem qd_M_part_7 : decode qc_M_part 7 = .ok (.if_icmp .gt 11, 3) := by decide +kernel
theorem qd_M_part_10 : decode qc_M_part 10 = .ok (.iload_n 2, 1) := by decide +kernel
theorem qd_M_part_11 : decode qc_M_part 11 = .ok (.aload_n 0, 1) := by decide +kernel
theorem qd_M_part_12 : decode qc_M_part 12 = .ok (.getfield 41, 3) := by decide +kernel
theorem qd_M_part_15 : decode qc_M_part 15 = .ok (.if_icmp .le 7, 3) := by decide +kernel
theorem qd_M_part_18 : decode qc_M_part 18 = .ok (.iconst 1, 1) := by decide +kernel
theorem qd_M_part_19 : decode qc_M_part 19 = .ok (.goto 4, 3) := by decide +kernel
theorem qd_M_part_22 : decode qc_M_part 22 = .ok (.iconst 0, 1) := by decide +kernel
theorem qd_M_part_23 : decode qc_M_part 23 = .ok (.putfield 16, 3) := by decide +kernel
theorem qd_M_part_26 : decode qc_M_part 26 = .ok (.aload_n 0, 1) := by decide +kernel
theorem qd_M_part_27 : decode qc_M_part 27 = .ok (.getfield 16, 3) := by decide +kernel
theorem qd_M_part_30 : decode qc_M_part 30 = .ok (.ifCond .le 7, 3) := by decide +kernel
theorem qd_M_part_33 : decode qc_M_part 33 = .ok (.lconst 0, 1) := by decide +kernel
theorem qd_M_part_34 : decode qc_M_part 34 = .ok (.goto 11, 3) := by decide +kernel
theorem qd_M_part_37 : decode qc_M_part 37 = .ok (.aload_n 0, 1) := by decide +kernel
theorem qd_M_part_38 : decode qc_M_part 38 = .ok (.iload_n 1, 1) := by decide +kernel
theorem qd_M_part_39 : decode qc_M_part 39 = .ok (.iload_n 2, 1) := by decide +kernel
theorem qd_M_part_40 : decode qc_M_part 40 = .ok (.iload_n 1, 1) := by decide +kernel
theorem qd_M_part_41 : decode qc_M_part 41 = .ok (.isub, 1) := by decide +kernel
theorem qd_M_part_42 : decode qc_M_part 42 = .ok (.invokevirtual 34, 3) := by decide +kernel
theorem qd_M_part_45 : decode qc_M_part 45 = .ok (.lreturn, 1) := by decide +kernel
theorem qd_M_path_0 : decode qc_M_path 0 = .ok (.aload_n 0, 1) := by decide +kernel
theorem qd_M_path_1 : decode qc_M_path 1 = .ok (.iload_n 1, 1) := by decide +kernel
theorem qd_M_path_2 : decode qc_M_path 2 = .ok (.ifCond .lt 16, 3) := by decide +kernel
theorem qd_M_path_5 : decode qc_M_path 5 = .ok (.iload_n 1, 1) := by decide +kernel
theorem qd_M_path_6 : decode qc_M_path 6 = .ok (.iload_n 2, 1) := by decide +kernel
theorem qd_M_path_7 : decode qc_M_path 7 = .ok (.if_icmp .ge 11, 3) := by decide +kernel
theorem qd_M_path_10 : decode qc_M_path 10 = .ok (.iload_n 2, 1) := by decide +kernel
theorem qd_M_path_11 : decode qc_M_path 11 = .ok (.aload_n 0, 1) := by decide +kernel
theorem qd_M_path_12 : decode qc_M_path 12 = .ok (.getfield 41, 3) := by decide +kernel
theorem qd_M_path_15 : decode qc_M_path 15 = .ok (.if_icmp .le 7, 3) := by decide +kernel
theorem qd_M_path_18 : decode qc_M_path 18 = .ok (.iconst 1, 1) := by decide +kernel
theorem qd_M_path_19 : decode qc_M_path 19 = .ok (.goto 4, 3) := by decide +kernel
theorem qd_M_path_22 : decode qc_M_path 22 = .ok (.iconst 0, 1) := by decide +kernel
theorem qd_M_path_23 : decode qc_M_path 23 = .ok (.putfield 16, 3) := by decide +kernel
theorem qd_M_path_26 : decode qc_M_path 26 = .ok (.aload_n 0, 1) := by decide +kernel
theorem qd_M_path_27 : decode qc_M_path 27 = .ok (.getfield 16, 3) := by decide +kernel
theorem qd_M_path_30 : decode qc_M_path 30 = .ok (.ifCond .le 5, 3) := by decide +kernel
theorem qd_M_path_33 : decode qc_M_path 33 = .ok (.iconst 0, 1) := by decide +kernel
theorem qd_M_path_34 : decode qc_M_path 34 = .ok (.ireturn, 1) := by decide +kernel
theorem qd_M_path_35 : decode qc_M_path 35 = .ok (.aload_n 0, 1) := by decide +kernel
theorem qd_M_path_36 : decode qc_M_path 36 = .ok (.iconst 0, 1) := by decide +kernel
theorem qd_M_path_37 : decode qc_M_path 37 = .ok (.putfield 44, 3) := by decide +kernel
theorem qd_M_path_40 : decode qc_M_path 40 = .ok (.aload_n 0, 1) := by decide +kernel
theorem qd_M_path_41 : decode qc_M_path 41 = .ok (.iconst 0, 1) := by decide +kernel
theorem qd_M_path_42 : decode qc_M_path 42 = .ok (.iload_n 1, 1) := by decide +kernel
theorem qd_M_path_43 : decode qc_M_path 43 = .ok (.iload_n 2, 1) := by decide +kernel
theorem qd_M_path_44 : decode qc_M_path 44 = .ok (.invokevirtual 47, 3) := by decide +kernel
theorem qd_M_path_47 : decode qc_M_path 47 = .ok (.aload_n 0, 1) := by decide +kernel
theorem qd_M_path_48 : decode qc_M_path 48 = .ok (.getfield 44, 3) := by decide +kernel
theorem qd_M_path_51 : decode qc_M_path 51 = .ok (.ireturn, 1) := by decide +kernel
theorem qd_M_pathOf_0 : decode qc_M_pathOf 0 = .ok (.iload_n 3, 1) := by decide +kernel
theorem qd_M_pathOf_1 : decode qc_M_pathOf 1 = .ok (.iconst 1, 1) := by decide +kernel
theorem qd_M_pathOf_2 : decode qc_M_pathOf 2 = .ok (.if_icmp .ne 4, 3) := by decide +kernel
theorem qd_M_pathOf_5 : decode qc_M_pathOf 5 = .ok (.return_, 1) := by decide +kernel
theorem qd_M_pathOf_6 : decode qc_M_pathOf 6 = .ok (.iload_n 3, 1) := by decide +kernel
theorem qd_M_pathOf_7 : decode qc_M_pathOf 7 = .ok (.invokestatic 30, 3) := by decide +kernel
theorem qd_M_pathOf_10 : decode qc_M_pathOf 10 = .ok (.istore 4, 2) := by decide +kernel
theorem qd_M_pathOf_12 : decode qc_M_pathOf 12 = .ok (.iload_n 2, 1) := by decide +kernel
theorem qd_M_pathOf_13 : decode qc_M_pathOf 13 = .ok (.iload 4, 2) := by decide +kernel
theorem qd_M_pathOf_15 : decode qc_M_pathOf 15 = .ok (.if_icmp .ge 30, 3) := by decide +kernel
theorem qd_M_pathOf_18 : decode qc_M_pathOf 18 = .ok (.aload_n 0, 1) := by decide +kernel
theorem qd_M_pathOf_19 : decode qc_M_pathOf 19 = .ok (.iload_n 1, 1) := by decide +kernel
theorem qd_M_pathOf_20 : decode qc_M_pathOf 20 = .ok (.iload_n 2, 1) := by decide +kernel
theorem qd_M_pathOf_21 : decode qc_M_pathOf 21 = .ok (.iload 4, 2) := by decide +kernel
theorem qd_M_pathOf_23 : decode qc_M_pathOf 23 = .ok (.invokevirtual 47, 3) := by decide +kernel
theorem qd_M_pathOf_26 : decode qc_M_pathOf 26 = .ok (.aload_n 0, 1) := by decide +kernel
theorem qd_M_pathOf_27 : decode qc_M_pathOf 27 = .ok (.aload_n 0, 1) := by decide +kernel
theorem qd_M_pathOf_28 : decode qc_M_pathOf 28 = .ok (.iload_n 1, 1) := by decide +kernel
theorem qd_M_pathOf_29 : decode qc_M_pathOf 29 = .ok (.iload 4, 2) := by decide +kernel
theorem qd_M_pathOf_31 : decode qc_M_pathOf 31 = .ok (.iadd, 1) := by decide +kernel
theorem qd_M_pathOf_32 : decode qc_M_pathOf 32 = .ok (.iload_n 3, 1) := by decide +kernel
theorem qd_M_pathOf_33 : decode qc_M_pathOf 33 = .ok (.iload 4, 2) := by decide +kernel
theorem qd_M_pathOf_35 : decode qc_M_pathOf 35 = .ok (.isub, 1) := by decide +kernel
theorem qd_M_pathOf_36 : decode qc_M_pathOf 36 = .ok (.invokevirtual 34, 3) := by decide +kernel
theorem qd_M_pathOf_39 : decode qc_M_pathOf 39 = .ok (.invokevirtual 51, 3) := by decide +kernel
theorem qd_M_pathOf_42 : decode qc_M_pathOf 42 = .ok (.goto 30, 3) := by decide +kernel
theorem qd_M_pathOf_45 : decode qc_M_pathOf 45 = .ok (.aload_n 0, 1) := by decide +kernel
theorem qd_M_pathOf_46 : decode qc_M_pathOf 46 = .ok (.iload_n 1, 1) := by decide +kernel
theorem qd_M_pathOf_47 : decode qc_M_pathOf 47 = .ok (.iload 4, 2) := by decide +kernel
theorem qd_M_pathOf_49 : decode qc_M_pathOf 49 = .ok (.iadd, 1) := by decide +kernel
theorem qd_M_pathOf_50 : decode qc_M_pathOf 50 = .ok (.iload_n 2, 1) := by decide +kernel
theorem qd_M_pathOf_51 : decode qc_M_pathOf 51 = .ok (.iload 4, 2) := by decide +kernel
theorem qd_M_pathOf_53 : decode qc_M_pathOf 53 = .ok (.isub, 1) := by decide +kernel
theorem qd_M_pathOf_54 : decode qc_M_pathOf 54 = .ok (.iload_n 3, 1) := by decide +kernel
theorem qd_M_pathOf_55 : decode qc_M_pathOf 55 = .ok (.iload 4, 2) := by decide +kernel
theorem qd_M_pathOf_57 : decode qc_M_pathOf 57 = .ok (.isub, 1) := by decide +kernel
theorem qd_M_pathOf_58 : decode qc_M_pathOf 58 = .ok (.invokevirtual 47, 3) := by decide +kernel
theorem qd_M_pathOf_61 : decode qc_M_pathOf 61 = .ok (.aload_n 0, 1) := by decide +kernel
theorem qd_M_pathOf_62 : decode qc_M_pathOf 62 = .ok (.aload_n 0, 1) := by decide +kernel
theorem qd_M_pathOf_63 : decode qc_M_pathOf 63 = .ok (.iload_n 1, 1) := by decide +kernel
theorem qd_M_pathOf_64 : decode qc_M_pathOf 64 = .ok (.iload 4, 2) := by decide +kernel
theorem qd_M_pathOf_66 : decode qc_M_pathOf 66 = .ok (.invokevirtual 34, 3) := by decide +kernel
theorem qd_M_pathOf_69 : decode qc_M_pathOf 69 = .ok (.invokevirtual 51, 3) := by decide +kernel
theorem qd_M_pathOf_72 : decode qc_M_pathOf 72 = .ok (.return_, 1) := by decide +kernel
theorem qd_M_put_0 : decode qc_M_put 0 = .ok (.aload_n 0, 1) := by decide +kernel
theorem qd_M_put_1 : decode qc_M_put 1 = .ok (.getfield 13, 3) := by decide +kernel
theorem qd_M_put_4 : decode qc_M_put 4 = .ok (.aload_n 0, 1) := by decide +kernel
theorem qd_M_put_5 : decode qc_M_put 5 = .ok (.getfield 44, 3) := by decide +kernel
theorem qd_M_put_8 : decode qc_M_put 8 = .ok (.lload_n 1, 1) := by decide +kernel
theorem qd_M_put_9 : decode qc_M_put 9 = .ok (.lastore, 1) := by decide +kernel
theorem qd_M_put_10 : decode qc_M_put 10 = .ok (.aload_n 0, 1) := by decide +kernel
theorem qd_M_put_11 : decode qc_M_put 11 = .ok (.dup, 1) := by decide +kernel
theorem qd_M_put_12 : decode qc_M_put 12 = .ok (.getfield 44, 3) := by decide +kernel
theorem qd_M_put_15 : decode qc_M_put 15 = .ok (.iconst 1, 1) := by decide +kernel
theorem qd_M_put_16 : decode qc_M_put 16 = .ok (.iadd, 1) := by decide +kernel
theorem qd_M_put_17 : decode qc_M_put 17 = .ok (.putfield 44, 3) := by decide +kernel
theorem qd_M_put_20 : decode qc_M_put 20 = .ok (.return_, 1) := by decide +kernel
theorem qd_M_steps_0 : decode qc_M_steps 0 = .ok (.aload_n 0, 1) := by decide +kernel
theorem qd_M_steps_1 : decode qc_M_steps 1 = .ok (.iload_n 1, 1) := by decide +kernel
theorem qd_M_steps_2 : decode qc_M_steps 2 = .ok (.iconst 1, 1) := by decide +kernel
theorem qd_M_steps_3 : decode qc_M_steps 3 = .ok (.if_icmp .lt 16, 3) := by decide +kernel
theorem qd_M_steps_6 : decode qc_M_steps 6 = .ok (.iload_n 1, 1) := by decide +kernel
theorem qd_M_steps_7 : decode qc_M_steps 7 = .ok (.iload_n 2, 1) := by decide +kernel
theorem qd_M_steps_8 : decode qc_M_steps 8 = .ok (.if_icmp .gt 11, 3) := by decide +kernel
theorem qd_M_steps_11 : decode qc_M_steps 11 = .ok (.iload_n 2, 1) := by decide +kernel
theorem qd_M_steps_12 : decode qc_M_steps 12 = .ok (.aload_n 0, 1) := by decide +kernel
theorem qd_M_steps_13 : decode qc_M_steps 13 = .ok (.getfield 41, 3) := by decide +kernel
theorem qd_M_steps_16 : decode qc_M_steps 16 = .ok (.if_icmp .le 7, 3) := by decide +kernel
theorem qd_M_steps_19 : decode qc_M_steps 19 = .ok (.iconst 1, 1) := by decide +kernel
theorem qd_M_steps_20 : decode qc_M_steps 20 = .ok (.goto 4, 3) := by decide +kernel
theorem qd_M_steps_23 : decode qc_M_steps 23 = .ok (.iconst 0, 1) := by decide +kernel
theorem qd_M_steps_24 : decode qc_M_steps 24 = .ok (.putfield 16, 3) := by decide +kernel
theorem qd_M_steps_27 : decode qc_M_steps 27 = .ok (.aload_n 0, 1) := by decide +kernel
theorem qd_M_steps_28 : decode qc_M_steps 28 = .ok (.getfield 16, 3) := by decide +kernel
theorem qd_M_steps_31 : decode qc_M_steps 31 = .ok (.ifCond .le 5, 3) := by decide +kernel
theorem qd_M_steps_34 : decode qc_M_steps 34 = .ok (.iconst 0, 1) := by decide +kernel
theorem qd_M_steps_35 : decode qc_M_steps 35 = .ok (.ireturn, 1) := by decide +kernel
theorem qd_M_steps_36 : decode qc_M_steps 36 = .ok (.aload_n 0, 1) := by decide +kernel
theorem qd_M_steps_37 : decode qc_M_steps 37 = .ok (.iconst 0, 1) := by decide +kernel
theorem qd_M_steps_38 : decode qc_M_steps 38 = .ok (.putfield 44, 3) := by decide +kernel
theorem qd_M_steps_41 : decode qc_M_steps 41 = .ok (.aload_n 0, 1) := by decide +kernel
theorem qd_M_steps_42 : decode qc_M_steps 42 = .ok (.iconst 0, 1) := by decide +kernel
theorem qd_M_steps_43 : decode qc_M_steps 43 = .ok (.iload_n 1, 1) := by decide +kernel
theorem qd_M_steps_44 : decode qc_M_steps 44 = .ok (.iload_n 2, 1) := by decide +kernel
theorem qd_M_steps_45 : decode qc_M_steps 45 = .ok (.iconst 1, 1) := by decide +kernel
theorem qd_M_steps_46 : decode qc_M_steps 46 = .ok (.invokevirtual 55, 3) := by decide +kernel
theorem qd_M_steps_49 : decode qc_M_steps 49 = .ok (.aload_n 0, 1) := by decide +kernel
theorem qd_M_steps_50 : decode qc_M_steps 50 = .ok (.getfield 44, 3) := by decide +kernel
theorem qd_M_steps_53 : decode qc_M_steps 53 = .ok (.ireturn, 1) := by decide +kernel
theorem qd_M_stepsOf_0 : decode qc_M_stepsOf 0 = .ok (.iload_n 2, 1) := by decide +kernel
theorem qd_M_stepsOf_1 : decode qc_M_stepsOf 1 = .ok (.iload_n 3, 1) := by decide +kernel
theorem qd_M_stepsOf_2 : decode qc_M_stepsOf 2 = .ok (.if_icmp .ne 19, 3) := by decide +kernel
theorem qd_M_stepsOf_5 : decode qc_M_stepsOf 5 = .ok (.iload 4, 2) := by decide +kernel
theorem qd_M_stepsOf_7 : decode qc_M_stepsOf 7 = .ok (.ifCond .ne 13, 3) := by decide +kernel
theorem qd_M_stepsOf_10 : decode qc_M_stepsOf 10 = .ok (.aload_n 0, 1) := by decide +kernel
theorem qd_M_stepsOf_11 : decode qc_M_stepsOf 11 = .ok (.aload_n 0, 1) := by decide +kernel
theorem qd_M_stepsOf_12 : decode qc_M_stepsOf 12 = .ok (.iload_n 1, 1) := by decide +kernel
theorem qd_M_stepsOf_13 : decode qc_M_stepsOf 13 = .ok (.iload_n 3, 1) := by decide +kernel
theorem qd_M_stepsOf_14 : decode qc_M_stepsOf 14 = .ok (.invokevirtual 34, 3) := by decide +kernel
theorem qd_M_stepsOf_17 : decode qc_M_stepsOf 17 = .ok (.invokevirtual 51, 3) := by decide +kernel
theorem qd_M_stepsOf_20 : decode qc_M_stepsOf 20 = .ok (.return_, 1) := by decide +kernel
theorem qd_M_stepsOf_21 : decode qc_M_stepsOf 21 = .ok (.iload_n 3, 1) := by decide +kernel
theorem qd_M_stepsOf_22 : decode qc_M_stepsOf 22 = .ok (.invokestatic 30, 3) := by decide +kernel
theorem qd_M_stepsOf_25 : decode qc_M_stepsOf 25 = .ok (.istore 5, 2) := by decide +kernel
theorem qd_M_stepsOf_27 : decode qc_M_stepsOf 27 = .ok (.iload_n 2, 1) := by decide +kernel
theorem qd_M_stepsOf_28 : decode qc_M_stepsOf 28 = .ok (.iload 5, 2) := by decide +kernel
theorem qd_M_stepsOf_30 : decode qc_M_stepsOf 30 = .ok (.if_icmp .gt 32, 3) := by decide +kernel
theorem qd_M_stepsOf_33 : decode qc_M_stepsOf 33 = .ok (.aload_n 0, 1) := by decide +kernel
theorem qd_M_stepsOf_34 : decode qc_M_stepsOf 34 = .ok (.iload_n 1, 1) := by decide +kernel
theorem qd_M_stepsOf_35 : decode qc_M_stepsOf 35 = .ok (.iload_n 2, 1) := by decide +kernel
theorem qd_M_stepsOf_36 : decode qc_M_stepsOf 36 = .ok (.iload 5, 2) := by decide +kernel
theorem qd_M_stepsOf_38 : decode qc_M_stepsOf 38 = .ok (.iload 4, 2) := by decide +kernel
theorem qd_M_stepsOf_40 : decode qc_M_stepsOf 40 = .ok (.invokevirtual 55, 3) := by decide +kernel
theorem qd_M_stepsOf_43 : decode qc_M_stepsOf 43 = .ok (.aload_n 0, 1) := by decide +kernel
theorem qd_M_stepsOf_44 : decode qc_M_stepsOf 44 = .ok (.aload_n 0, 1) := by decide +kernel
theorem qd_M_stepsOf_45 : decode qc_M_stepsOf 45 = .ok (.iload_n 1, 1) := by decide +kernel
theorem qd_M_stepsOf_46 : decode qc_M_stepsOf 46 = .ok (.iload 5, 2) := by decide +kernel
theorem qd_M_stepsOf_48 : decode qc_M_stepsOf 48 = .ok (.iadd, 1) := by decide +kernel
theorem qd_M_stepsOf_49 : decode qc_M_stepsOf 49 = .ok (.iload_n 3, 1) := by decide +kernel
theorem qd_M_stepsOf_50 : decode qc_M_stepsOf 50 = .ok (.iload 5, 2) := by decide +kernel
theorem qd_M_stepsOf_52 : decode qc_M_stepsOf 52 = .ok (.isub, 1) := by decide +kernel
theorem qd_M_stepsOf_53 : decode qc_M_stepsOf 53 = .ok (.invokevirtual 34, 3) := by decide +kernel
theorem qd_M_stepsOf_56 : decode qc_M_stepsOf 56 = .ok (.invokevirtual 51, 3) := by decide +kernel
theorem qd_M_stepsOf_59 : decode qc_M_stepsOf 59 = .ok (.goto 31, 3) := by decide +kernel
theorem qd_M_stepsOf_62 : decode qc_M_stepsOf 62 = .ok (.aload_n 0, 1) := by decide +kernel
theorem qd_M_stepsOf_63 : decode qc_M_stepsOf 63 = .ok (.iload_n 1, 1) := by decide +kernel
theorem qd_M_stepsOf_64 : decode qc_M_stepsOf 64 = .ok (.iload 5, 2) := by decide +kernel
theorem qd_M_stepsOf_66 : decode qc_M_stepsOf 66 = .ok (.iadd, 1) := by decide +kernel
theorem qd_M_stepsOf_67 : decode qc_M_stepsOf 67 = .ok (.iload_n 2, 1) := by decide +kernel
theorem qd_M_stepsOf_68 : decode qc_M_stepsOf 68 = .ok (.iload 5, 2) := by decide +kernel
theorem qd_M_stepsOf_70 : decode qc_M_stepsOf 70 = .ok (.isub, 1) := by decide +kernel
theorem qd_M_stepsOf_71 : decode qc_M_stepsOf 71 = .ok (.iload_n 3, 1) := by decide +kernel
theorem qd_M_stepsOf_72 : decode qc_M_stepsOf 72 = .ok (.iload 5, 2) := by decide +kernel
theorem qd_M_stepsOf_74 : decode qc_M_stepsOf 74 = .ok (.isub, 1) := by decide +kernel
theorem qd_M_stepsOf_75 : decode qc_M_stepsOf 75 = .ok (.iconst 0, 1) := by decide +kernel
theorem qd_M_stepsOf_76 : decode qc_M_stepsOf 76 = .ok (.invokevirtual 55, 3) := by decide +kernel
theorem qd_M_stepsOf_79 : decode qc_M_stepsOf 79 = .ok (.aload_n 0, 1) := by decide +kernel
theorem qd_M_stepsOf_80 : decode qc_M_stepsOf 80 = .ok (.aload_n 0, 1) := by decide +kernel
theorem qd_M_stepsOf_81 : decode qc_M_stepsOf 81 = .ok (.iload_n 1, 1) := by decide +kernel
theorem qd_M_stepsOf_82 : decode qc_M_stepsOf 82 = .ok (.iload 5, 2) := by decide +kernel
theorem qd_M_stepsOf_84 : decode qc_M_stepsOf 84 = .ok (.invokevirtual 34, 3) := by decide +kernel
theorem qd_M_stepsOf_87 : decode qc_M_stepsOf 87 = .ok (.invokevirtual 51, 3) := by decide +kernel
theorem qd_M_stepsOf_90 : decode qc_M_stepsOf 90 = .ok (.return_, 1) := by decide +kernel
theorem qd_M_proof_0 : decode qc_M_proof 0 = .ok (.aload_n 0, 1) := by decide +kernel
theorem qd_M_proof_1 : decode qc_M_proof 1 = .ok (.iload_n 1, 1) := by decide +kernel
theorem qd_M_proof_2 : decode qc_M_proof 2 = .ok (.ifCond .lt 11, 3) := by decide +kernel
theorem qd_M_proof_5 : decode qc_M_proof 5 = .ok (.iload_n 1, 1) := by decide +kernel
theorem qd_M_proof_6 : decode qc_M_proof 6 = .ok (.aload_n 0, 1) := by decide +kernel
theorem qd_M_proof_7 : decode qc_M_proof 7 = .ok (.getfield 44, 3) := by decide +kernel
theorem qd_M_proof_10 : decode qc_M_proof 10 = .ok (.if_icmp .lt 7, 3) := by decide +kernel
theorem qd_M_proof_13 : decode qc_M_proof 13 = .ok (.iconst 1, 1) := by decide +kernel
theorem qd_M_proof_14 : decode qc_M_proof 14 = .ok (.goto 4, 3) := by decide +kernel
theorem qd_M_proof_17 : decode qc_M_proof 17 = .ok (.iconst 0, 1) := by decide +kernel
theorem qd_M_proof_18 : decode qc_M_proof 18 = .ok (.putfield 16, 3) := by decide +kernel
theorem qd_M_proof_21 : decode qc_M_proof 21 = .ok (.aload_n 0, 1) := by decide +kernel
theorem qd_M_proof_22 : decode qc_M_proof 22 = .ok (.getfield 16, 3) := by decide +kernel
theorem qd_M_proof_25 : decode qc_M_proof 25 = .ok (.ifCond .le 7, 3) := by decide +kernel
theorem qd_M_proof_28 : decode qc_M_proof 28 = .ok (.lconst 0, 1) := by decide +kernel
theorem qd_M_proof_29 : decode qc_M_proof 29 = .ok (.goto 9, 3) := by decide +kernel
theorem qd_M_proof_32 : decode qc_M_proof 32 = .ok (.aload_n 0, 1) := by decide +kernel
theorem qd_M_proof_33 : decode qc_M_proof 33 = .ok (.getfield 13, 3) := by decide +kernel
theorem qd_M_proof_36 : decode qc_M_proof 36 = .ok (.iload_n 1, 1) := by decide +kernel
theorem qd_M_proof_37 : decode qc_M_proof 37 = .ok (.laload, 1) := by decide +kernel
theorem qd_M_proof_38 : decode qc_M_proof 38 = .ok (.lreturn, 1) := by decide +kernel
theorem qd_M_alter_0 : decode qc_M_alter 0 = .ok (.aload_n 0, 1) := by decide +kernel
theorem qd_M_alter_1 : decode qc_M_alter 1 = .ok (.iload_n 1, 1) := by decide +kernel
theorem qd_M_alter_2 : decode qc_M_alter 2 = .ok (.ifCond .lt 11, 3) := by decide +kernel
theorem qd_M_alter_5 : decode qc_M_alter 5 = .ok (.iload_n 1, 1) := by decide +kernel
theorem qd_M_alter_6 : decode qc_M_alter 6 = .ok (.aload_n 0, 1) := by decide +kernel
theorem qd_M_alter_7 : decode qc_M_alter 7 = .ok (.getfield 44, 3) := by decide +kernel
theorem qd_M_alter_10 : decode qc_M_alter 10 = .ok (.if_icmp .lt 7, 3) := by decide +kernel
theorem qd_M_alter_13 : decode qc_M_alter 13 = .ok (.iconst 1, 1) := by decide +kernel
theorem qd_M_alter_14 : decode qc_M_alter 14 = .ok (.goto 4, 3) := by decide +kernel
theorem qd_M_alter_17 : decode qc_M_alter 17 = .ok (.iconst 0, 1) := by decide +kernel
theorem qd_M_alter_18 : decode qc_M_alter 18 = .ok (.putfield 16, 3) := by decide +kernel
theorem qd_M_alter_21 : decode qc_M_alter 21 = .ok (.aload_n 0, 1) := by decide +kernel
theorem qd_M_alter_22 : decode qc_M_alter 22 = .ok (.getfield 16, 3) := by decide +kernel
theorem qd_M_alter_25 : decode qc_M_alter 25 = .ok (.ifCond .le 5, 3) := by decide +kernel
theorem qd_M_alter_28 : decode qc_M_alter 28 = .ok (.lconst 0, 1) := by decide +kernel
theorem qd_M_alter_29 : decode qc_M_alter 29 = .ok (.lreturn, 1) := by decide +kernel
theorem qd_M_alter_30 : decode qc_M_alter 30 = .ok (.aload_n 0, 1) := by decide +kernel
theorem qd_M_alter_31 : decode qc_M_alter 31 = .ok (.getfield 13, 3) := by decide +kernel
theorem qd_M_alter_34 : decode qc_M_alter 34 = .ok (.iload_n 1, 1) := by decide +kernel
theorem qd_M_alter_35 : decode qc_M_alter 35 = .ok (.laload, 1) := by decide +kernel
theorem qd_M_alter_36 : decode qc_M_alter 36 = .ok (.lstore 4, 2) := by decide +kernel
theorem qd_M_alter_38 : decode qc_M_alter 38 = .ok (.aload_n 0, 1) := by decide +kernel
theorem qd_M_alter_39 : decode qc_M_alter 39 = .ok (.getfield 13, 3) := by decide +kernel
theorem qd_M_alter_42 : decode qc_M_alter 42 = .ok (.iload_n 1, 1) := by decide +kernel
theorem qd_M_alter_43 : decode qc_M_alter 43 = .ok (.lload_n 2, 1) := by decide +kernel
theorem qd_M_alter_44 : decode qc_M_alter 44 = .ok (.lastore, 1) := by decide +kernel
theorem qd_M_alter_45 : decode qc_M_alter 45 = .ok (.lload 4, 2) := by decide +kernel
theorem qd_M_alter_47 : decode qc_M_alter 47 = .ok (.lreturn, 1) := by decide +kernel
theorem qd_M_length_0 : decode qc_M_length 0 = .ok (.aload_n 0, 1) := by decide +kernel
theorem qd_M_length_1 : decode qc_M_length 1 = .ok (.iload_n 1, 1) := by decide +kernel
theorem qd_M_length_2 : decode qc_M_length 2 = .ok (.ifCond .lt 9, 3) := by decide +kernel
theorem qd_M_length_5 : decode qc_M_length 5 = .ok (.iload_n 1, 1) := by decide +kernel
theorem qd_M_length_6 : decode qc_M_length 6 = .ok (.bipush 40, 2) := by decide +kernel
theorem qd_M_length_8 : decode qc_M_length 8 = .ok (.if_icmp .le 7, 3) := by decide +kernel
theorem qd_M_length_11 : decode qc_M_length 11 = .ok (.iconst 1, 1) := by decide +kernel
theorem qd_M_length_12 : decode qc_M_length 12 = .ok (.goto 4, 3) := by decide +kernel
theorem qd_M_length_15 : decode qc_M_length 15 = .ok (.iconst 0, 1) := by decide +kernel
theorem qd_M_length_16 : decode qc_M_length 16 = .ok (.putfield 16, 3) := by decide +kernel
theorem qd_M_length_19 : decode qc_M_length 19 = .ok (.aload_n 0, 1) := by decide +kernel
theorem qd_M_length_20 : decode qc_M_length 20 = .ok (.getfield 16, 3) := by decide +kernel
theorem qd_M_length_23 : decode qc_M_length 23 = .ok (.ifCond .le 5, 3) := by decide +kernel
theorem qd_M_length_26 : decode qc_M_length 26 = .ok (.iconst 0, 1) := by decide +kernel
theorem qd_M_length_27 : decode qc_M_length 27 = .ok (.ireturn, 1) := by decide +kernel
theorem qd_M_length_28 : decode qc_M_length 28 = .ok (.aload_n 0, 1) := by decide +kernel
theorem qd_M_length_29 : decode qc_M_length 29 = .ok (.getfield 44, 3) := by decide +kernel
theorem qd_M_length_32 : decode qc_M_length 32 = .ok (.istore_n 2, 1) := by decide +kernel
theorem qd_M_length_33 : decode qc_M_length 33 = .ok (.iload_n 2, 1) := by decide +kernel
theorem qd_M_length_34 : decode qc_M_length 34 = .ok (.istore_n 3, 1) := by decide +kernel
theorem qd_M_length_35 : decode qc_M_length 35 = .ok (.iload_n 3, 1) := by decide +kernel
theorem qd_M_length_36 : decode qc_M_length 36 = .ok (.iload_n 1, 1) := by decide +kernel
theorem qd_M_length_37 : decode qc_M_length 37 = .ok (.if_icmp .ge 16, 3) := by decide +kernel
theorem qd_M_length_40 : decode qc_M_length 40 = .ok (.aload_n 0, 1) := by decide +kernel
theorem qd_M_length_41 : decode qc_M_length 41 = .ok (.getfield 13, 3) := by decide +kernel
theorem qd_M_length_44 : decode qc_M_length 44 = .ok (.iload_n 3, 1) := by decide +kernel
theorem qd_M_length_45 : decode qc_M_length 45 = .ok (.lconst 0, 1) := by decide +kernel
theorem qd_M_length_46 : decode qc_M_length 46 = .ok (.lastore, 1) := by decide +kernel
theorem qd_M_length_47 : decode qc_M_length 47 = .ok (.iinc 3 1, 3) := by decide +kernel
theorem qd_M_length_50 : decode qc_M_length 50 = .ok (.goto (-15), 3) := by decide +kernel
theorem qd_M_length_53 : decode qc_M_length 53 = .ok (.aload_n 0, 1) := by decide +kernel
theorem qd_M_length_54 : decode qc_M_length 54 = .ok (.iload_n 1, 1) := by decide +kernel
theorem qd_M_length_55 : decode qc_M_length 55 = .ok (.putfield 44, 3) := by decide +kernel
theorem qd_M_length_58 : decode qc_M_length 58 = .ok (.iload_n 2, 1) := by decide +kernel
theorem qd_M_length_59 : decode qc_M_length 59 = .ok (.ireturn, 1) := by decide +kernel
theorem qd_M_shows_0 : decode qc_M_shows 0 = .ok (.aload_n 0, 1) := by decide +kernel
theorem qd_M_shows_1 : decode qc_M_shows 1 = .ok (.iconst 0, 1) := by decide +kernel
theorem qd_M_shows_2 : decode qc_M_shows 2 = .ok (.putfield 16, 3) := by decide +kernel
theorem qd_M_shows_5 : decode qc_M_shows 5 = .ok (.iload_n 1, 1) := by decide +kernel
theorem qd_M_shows_6 : decode qc_M_shows 6 = .ok (.ifCond .lt 14, 3) := by decide +kernel
theorem qd_M_shows_9 : decode qc_M_shows 9 = .ok (.iload_n 1, 1) := by decide +kernel
theorem qd_M_shows_10 : decode qc_M_shows 10 = .ok (.iload_n 2, 1) := by decide +kernel
theorem qd_M_shows_11 : decode qc_M_shows 11 = .ok (.if_icmp .ge 9, 3) := by decide +kernel
theorem qd_M_shows_14 : decode qc_M_shows 14 = .ok (.iload_n 2, 1) := by decide +kernel
theorem qd_M_shows_15 : decode qc_M_shows 15 = .ok (.ldc 70, 2) := by decide +kernel
theorem qd_M_shows_17 : decode qc_M_shows 17 = .ok (.if_icmp .le 5, 3) := by decide +kernel
theorem qd_M_shows_20 : decode qc_M_shows 20 = .ok (.iconst 0, 1) := by decide +kernel
theorem qd_M_shows_21 : decode qc_M_shows 21 = .ok (.ireturn, 1) := by decide +kernel
theorem qd_M_shows_22 : decode qc_M_shows 22 = .ok (.aload_n 0, 1) := by decide +kernel
theorem qd_M_shows_23 : decode qc_M_shows 23 = .ok (.iconst 0, 1) := by decide +kernel
theorem qd_M_shows_24 : decode qc_M_shows 24 = .ok (.putfield 59, 3) := by decide +kernel
theorem qd_M_shows_27 : decode qc_M_shows 27 = .ok (.aload_n 0, 1) := by decide +kernel
theorem qd_M_shows_28 : decode qc_M_shows 28 = .ok (.iload_n 1, 1) := by decide +kernel
theorem qd_M_shows_29 : decode qc_M_shows 29 = .ok (.iload_n 2, 1) := by decide +kernel
theorem qd_M_shows_30 : decode qc_M_shows 30 = .ok (.lload_n 3, 1) := by decide +kernel
theorem qd_M_shows_31 : decode qc_M_shows 31 = .ok (.invokevirtual 62, 3) := by decide +kernel
theorem qd_M_shows_34 : decode qc_M_shows 34 = .ok (.lstore 7, 2) := by decide +kernel
theorem qd_M_shows_36 : decode qc_M_shows 36 = .ok (.aload_n 0, 1) := by decide +kernel
theorem qd_M_shows_37 : decode qc_M_shows 37 = .ok (.getfield 59, 3) := by decide +kernel
theorem qd_M_shows_40 : decode qc_M_shows 40 = .ok (.aload_n 0, 1) := by decide +kernel
theorem qd_M_shows_41 : decode qc_M_shows 41 = .ok (.getfield 44, 3) := by decide +kernel
theorem qd_M_shows_44 : decode qc_M_shows 44 = .ok (.if_icmp .ne 15, 3) := by decide +kernel
theorem qd_M_shows_47 : decode qc_M_shows 47 = .ok (.lload 7, 2) := by decide +kernel
theorem qd_M_shows_49 : decode qc_M_shows 49 = .ok (.lload 5, 2) := by decide +kernel
theorem qd_M_shows_51 : decode qc_M_shows 51 = .ok (.lcmp, 1) := by decide +kernel
theorem qd_M_shows_52 : decode qc_M_shows 52 = .ok (.ifCond .ne 7, 3) := by decide +kernel
theorem qd_M_shows_55 : decode qc_M_shows 55 = .ok (.iconst 1, 1) := by decide +kernel
theorem qd_M_shows_56 : decode qc_M_shows 56 = .ok (.goto 4, 3) := by decide +kernel
theorem qd_M_shows_59 : decode qc_M_shows 59 = .ok (.iconst 0, 1) := by decide +kernel
theorem qd_M_shows_60 : decode qc_M_shows 60 = .ok (.ireturn, 1) := by decide +kernel
theorem qd_M_rootOf_0 : decode qc_M_rootOf 0 = .ok (.iload_n 2, 1) := by decide +kernel
theorem qd_M_rootOf_1 : decode qc_M_rootOf 1 = .ok (.iconst 1, 1) := by decide +kernel
theorem qd_M_rootOf_2 : decode qc_M_rootOf 2 = .ok (.if_icmp .ne 9, 3) := by decide +kernel
theorem qd_M_rootOf_5 : decode qc_M_rootOf 5 = .ok (.lconst 1, 1) := by decide +kernel
theorem qd_M_rootOf_6 : decode qc_M_rootOf 6 = .ok (.lload_n 3, 1) := by decide +kernel
theorem qd_M_rootOf_7 : decode qc_M_rootOf 7 = .ok (.invokestatic 26, 3) := by decide +kernel
theorem qd_M_rootOf_10 : decode qc_M_rootOf 10 = .ok (.lreturn, 1) := by decide +kernel
theorem qd_M_rootOf_11 : decode qc_M_rootOf 11 = .ok (.iload_n 2, 1) := by decide +kernel
theorem qd_M_rootOf_12 : decode qc_M_rootOf 12 = .ok (.invokestatic 30, 3) := by decide +kernel
theorem qd_M_rootOf_15 : decode qc_M_rootOf 15 = .ok (.istore 5, 2) := by decide +kernel
theorem qd_M_rootOf_17 : decode qc_M_rootOf 17 = .ok (.iload_n 1, 1) := by decide +kernel
theorem qd_M_rootOf_18 : decode qc_M_rootOf 18 = .ok (.iload 5, 2) := by decide +kernel
theorem qd_M_rootOf_20 : decode qc_M_rootOf 20 = .ok (.if_icmp .ge 23, 3) := by decide +kernel
theorem qd_M_rootOf_23 : decode qc_M_rootOf 23 = .ok (.aload_n 0, 1) := by decide +kernel
theorem qd_M_rootOf_24 : decode qc_M_rootOf 24 = .ok (.iload_n 1, 1) := by decide +kernel
theorem qd_M_rootOf_25 : decode qc_M_rootOf 25 = .ok (.iload 5, 2) := by decide +kernel
theorem qd_M_rootOf_27 : decode qc_M_rootOf 27 = .ok (.lload_n 3, 1) := by decide +kernel
theorem qd_M_rootOf_28 : decode qc_M_rootOf 28 = .ok (.invokevirtual 62, 3) := by decide +kernel
theorem qd_M_rootOf_31 : decode qc_M_rootOf 31 = .ok (.lstore 6, 2) := by decide +kernel
theorem qd_M_rootOf_33 : decode qc_M_rootOf 33 = .ok (.lload 6, 2) := by decide +kernel
theorem qd_M_rootOf_35 : decode qc_M_rootOf 35 = .ok (.aload_n 0, 1) := by decide +kernel
theorem qd_M_rootOf_36 : decode qc_M_rootOf 36 = .ok (.invokevirtual 66, 3) := by decide +kernel
theorem qd_M_rootOf_39 : decode qc_M_rootOf 39 = .ok (.invokestatic 38, 3) := by decide +kernel
theorem qd_M_rootOf_42 : decode qc_M_rootOf 42 = .ok (.lreturn, 1) := by decide +kernel
theorem qd_M_rootOf_43 : decode qc_M_rootOf 43 = .ok (.aload_n 0, 1) := by decide +kernel
theorem qd_M_rootOf_44 : decode qc_M_rootOf 44 = .ok (.iload_n 1, 1) := by decide +kernel
theorem qd_M_rootOf_45 : decode qc_M_rootOf 45 = .ok (.iload 5, 2) := by decide +kernel
theorem qd_M_rootOf_47 : decode qc_M_rootOf 47 = .ok (.isub, 1) := by decide +kernel
theorem qd_M_rootOf_48 : decode qc_M_rootOf 48 = .ok (.iload_n 2, 1) := by decide +kernel
theorem qd_M_rootOf_49 : decode qc_M_rootOf 49 = .ok (.iload 5, 2) := by decide +kernel
theorem qd_M_rootOf_51 : decode qc_M_rootOf 51 = .ok (.isub, 1) := by decide +kernel
theorem qd_M_rootOf_52 : decode qc_M_rootOf 52 = .ok (.lload_n 3, 1) := by decide +kernel
theorem qd_M_rootOf_53 : decode qc_M_rootOf 53 = .ok (.invokevirtual 62, 3) := by decide +kernel
theorem qd_M_rootOf_56 : decode qc_M_rootOf 56 = .ok (.lstore 6, 2) := by decide +kernel
theorem qd_M_rootOf_58 : decode qc_M_rootOf 58 = .ok (.aload_n 0, 1) := by decide +kernel
theorem qd_M_rootOf_59 : decode qc_M_rootOf 59 = .ok (.invokevirtual 66, 3) := by decide +kernel
theorem qd_M_rootOf_62 : decode qc_M_rootOf 62 = .ok (.lload 6, 2) := by decide +kernel
theorem qd_M_rootOf_64 : decode qc_M_rootOf 64 = .ok (.invokestatic 38, 3) := by decide +kernel
theorem qd_M_rootOf_67 : decode qc_M_rootOf 67 = .ok (.lreturn, 1) := by decide +kernel
theorem qd_M_next_0 : decode qc_M_next 0 = .ok (.aload_n 0, 1) := by decide +kernel
theorem qd_M_next_1 : decode qc_M_next 1 = .ok (.dup, 1) := by decide +kernel
theorem qd_M_next_2 : decode qc_M_next 2 = .ok (.getfield 59, 3) := by decide +kernel
theorem qd_M_next_5 : decode qc_M_next 5 = .ok (.iconst 1, 1) := by decide +kernel
theorem qd_M_next_6 : decode qc_M_next 6 = .ok (.iadd, 1) := by decide +kernel
theorem qd_M_next_7 : decode qc_M_next 7 = .ok (.putfield 59, 3) := by decide +kernel
theorem qd_M_next_10 : decode qc_M_next 10 = .ok (.aload_n 0, 1) := by decide +kernel
theorem qd_M_next_11 : decode qc_M_next 11 = .ok (.getfield 59, 3) := by decide +kernel
theorem qd_M_next_14 : decode qc_M_next 14 = .ok (.aload_n 0, 1) := by decide +kernel
theorem qd_M_next_15 : decode qc_M_next 15 = .ok (.getfield 44, 3) := by decide +kernel
theorem qd_M_next_18 : decode qc_M_next 18 = .ok (.if_icmp .gt 17, 3) := by decide +kernel
theorem qd_M_next_21 : decode qc_M_next 21 = .ok (.aload_n 0, 1) := by decide +kernel
theorem qd_M_next_22 : decode qc_M_next 22 = .ok (.getfield 13, 3) := by decide +kernel
theorem qd_M_next_25 : decode qc_M_next 25 = .ok (.aload_n 0, 1) := by decide +kernel
theorem qd_M_next_26 : decode qc_M_next 26 = .ok (.getfield 59, 3) := by decide +kernel
theorem qd_M_next_29 : decode qc_M_next 29 = .ok (.iconst 1, 1) := by decide +kernel
theorem qd_M_next_30 : decode qc_M_next 30 = .ok (.isub, 1) := by decide +kernel
theorem qd_M_next_31 : decode qc_M_next 31 = .ok (.laload, 1) := by decide +kernel
theorem qd_M_next_32 : decode qc_M_next 32 = .ok (.goto 4, 3) := by decide +kernel
theorem qd_M_next_35 : decode qc_M_next 35 = .ok (.lconst 0, 1) := by decide +kernel
theorem qd_M_next_36 : decode qc_M_next 36 = .ok (.lreturn, 1) := by decide +kernel
theorem qd_M_grew_0 : decode qc_M_grew 0 = .ok (.aload_n 0, 1) := by decide +kernel
theorem qd_M_grew_1 : decode qc_M_grew 1 = .ok (.iconst 0, 1) := by decide +kernel
theorem qd_M_grew_2 : decode qc_M_grew 2 = .ok (.putfield 16, 3) := by decide +kernel
theorem qd_M_grew_5 : decode qc_M_grew 5 = .ok (.iload_n 1, 1) := by decide +kernel
theorem qd_M_grew_6 : decode qc_M_grew 6 = .ok (.iconst 1, 1) := by decide +kernel
theorem qd_M_grew_7 : decode qc_M_grew 7 = .ok (.if_icmp .lt 14, 3) := by decide +kernel
theorem qd_M_grew_10 : decode qc_M_grew 10 = .ok (.iload_n 1, 1) := by decide +kernel
theorem qd_M_grew_11 : decode qc_M_grew 11 = .ok (.iload_n 2, 1) := by decide +kernel
theorem qd_M_grew_12 : decode qc_M_grew 12 = .ok (.if_icmp .gt 9, 3) := by decide +kernel
theorem qd_M_grew_15 : decode qc_M_grew 15 = .ok (.iload_n 2, 1) := by decide +kernel
theorem qd_M_grew_16 : decode qc_M_grew 16 = .ok (.ldc 70, 2) := by decide +kernel
theorem qd_M_grew_18 : decode qc_M_grew 18 = .ok (.if_icmp .le 5, 3) := by decide +kernel
theorem qd_M_grew_21 : decode qc_M_grew 21 = .ok (.iconst 0, 1) := by decide +kernel
theorem qd_M_grew_22 : decode qc_M_grew 22 = .ok (.ireturn, 1) := by decide +kernel
theorem qd_M_grew_23 : decode qc_M_grew 23 = .ok (.aload_n 0, 1) := by decide +kernel
theorem qd_M_grew_24 : decode qc_M_grew 24 = .ok (.iconst 0, 1) := by decide +kernel
theorem qd_M_grew_25 : decode qc_M_grew 25 = .ok (.putfield 59, 3) := by decide +kernel
theorem qd_M_grew_28 : decode qc_M_grew 28 = .ok (.aload_n 0, 1) := by decide +kernel
theorem qd_M_grew_29 : decode qc_M_grew 29 = .ok (.iload_n 1, 1) := by decide +kernel
theorem qd_M_grew_30 : decode qc_M_grew 30 = .ok (.iload_n 2, 1) := by decide +kernel
theorem qd_M_grew_31 : decode qc_M_grew 31 = .ok (.iconst 1, 1) := by decide +kernel
theorem qd_M_grew_32 : decode qc_M_grew 32 = .ok (.lload_n 3, 1) := by decide +kernel
theorem qd_M_grew_33 : decode qc_M_grew 33 = .ok (.invokevirtual 78, 3) := by decide +kernel
theorem qd_M_grew_36 : decode qc_M_grew 36 = .ok (.aload_n 0, 1) := by decide +kernel
theorem qd_M_grew_37 : decode qc_M_grew 37 = .ok (.getfield 59, 3) := by decide +kernel
theorem qd_M_grew_40 : decode qc_M_grew 40 = .ok (.aload_n 0, 1) := by decide +kernel
theorem qd_M_grew_41 : decode qc_M_grew 41 = .ok (.getfield 44, 3) := by decide +kernel
theorem qd_M_grew_44 : decode qc_M_grew 44 = .ok (.if_icmp .ne 26, 3) := by decide +kernel
theorem qd_M_grew_47 : decode qc_M_grew 47 = .ok (.aload_n 0, 1) := by decide +kernel
theorem qd_M_grew_48 : decode qc_M_grew 48 = .ok (.getfield 71, 3) := by decide +kernel
theorem qd_M_grew_51 : decode qc_M_grew 51 = .ok (.lload_n 3, 1) := by decide +kernel
theorem qd_M_grew_52 : decode qc_M_grew 52 = .ok (.lcmp, 1) := by decide +kernel
theorem qd_M_grew_53 : decode qc_M_grew 53 = .ok (.ifCond .ne 17, 3) := by decide +kernel
theorem qd_M_grew_56 : decode qc_M_grew 56 = .ok (.aload_n 0, 1) := by decide +kernel
theorem qd_M_grew_57 : decode qc_M_grew 57 = .ok (.getfield 75, 3) := by decide +kernel
theorem qd_M_grew_60 : decode qc_M_grew 60 = .ok (.lload 5, 2) := by decide +kernel
theorem qd_M_grew_62 : decode qc_M_grew 62 = .ok (.lcmp, 1) := by decide +kernel
theorem qd_M_grew_63 : decode qc_M_grew 63 = .ok (.ifCond .ne 7, 3) := by decide +kernel
theorem qd_M_grew_66 : decode qc_M_grew 66 = .ok (.iconst 1, 1) := by decide +kernel
theorem qd_M_grew_67 : decode qc_M_grew 67 = .ok (.goto 4, 3) := by decide +kernel
theorem qd_M_grew_70 : decode qc_M_grew 70 = .ok (.iconst 0, 1) := by decide +kernel
theorem qd_M_grew_71 : decode qc_M_grew 71 = .ok (.ireturn, 1) := by decide +kernel
theorem qd_M_both_0 : decode qc_M_both 0 = .ok (.iload_n 1, 1) := by decide +kernel
theorem qd_M_both_1 : decode qc_M_both 1 = .ok (.iload_n 2, 1) := by decide +kernel
theorem qd_M_both_2 : decode qc_M_both 2 = .ok (.if_icmp .ne 29, 3) := by decide +kernel
theorem qd_M_both_5 : decode qc_M_both 5 = .ok (.aload_n 0, 1) := by decide +kernel
theorem qd_M_both_6 : decode qc_M_both 6 = .ok (.iload_n 3, 1) := by decide +kernel
theorem qd_M_both_7 : decode qc_M_both 7 = .ok (.ifCond .eq 8, 3) := by decide +kernel
theorem qd_M_both_10 : decode qc_M_both 10 = .ok (.lload 4, 2) := by decide +kernel
theorem qd_M_both_12 : decode qc_M_both 12 = .ok (.goto 7, 3) := by decide +kernel
theorem qd_M_both_15 : decode qc_M_both 15 = .ok (.aload_n 0, 1) := by decide +kernel
theorem qd_M_both_16 : decode qc_M_both 16 = .ok (.invokevirtual 66, 3) := by decide +kernel
theorem qd_M_both_19 : decode qc_M_both 19 = .ok (.putfield 71, 3) := by decide +kernel
theorem qd_M_both_22 : decode qc_M_both 22 = .ok (.aload_n 0, 1) := by decide +kernel
theorem qd_M_both_23 : decode qc_M_both 23 = .ok (.aload_n 0, 1) := by decide +kernel
theorem qd_M_both_24 : decode qc_M_both 24 = .ok (.getfield 71, 3) := by decide +kernel
theorem qd_M_both_27 : decode qc_M_both 27 = .ok (.putfield 75, 3) := by decide +kernel
theorem qd_M_both_30 : decode qc_M_both 30 = .ok (.return_, 1) := by decide +kernel
theorem qd_M_both_31 : decode qc_M_both 31 = .ok (.iload_n 2, 1) := by decide +kernel
theorem qd_M_both_32 : decode qc_M_both 32 = .ok (.invokestatic 30, 3) := by decide +kernel
theorem qd_M_both_35 : decode qc_M_both 35 = .ok (.istore 6, 2) := by decide +kernel
theorem qd_M_both_37 : decode qc_M_both 37 = .ok (.iload_n 1, 1) := by decide +kernel
theorem qd_M_both_38 : decode qc_M_both 38 = .ok (.iload 6, 2) := by decide +kernel
theorem qd_M_both_40 : decode qc_M_both 40 = .ok (.if_icmp .gt 31, 3) := by decide +kernel
theorem qd_M_both_43 : decode qc_M_both 43 = .ok (.aload_n 0, 1) := by decide +kernel
theorem qd_M_both_44 : decode qc_M_both 44 = .ok (.iload_n 1, 1) := by decide +kernel
theorem qd_M_both_45 : decode qc_M_both 45 = .ok (.iload 6, 2) := by decide +kernel
theorem qd_M_both_47 : decode qc_M_both 47 = .ok (.iload_n 3, 1) := by decide +kernel
theorem qd_M_both_48 : decode qc_M_both 48 = .ok (.lload 4, 2) := by decide +kernel
theorem qd_M_both_50 : decode qc_M_both 50 = .ok (.invokevirtual 78, 3) := by decide +kernel
theorem qd_M_both_53 : decode qc_M_both 53 = .ok (.aload_n 0, 1) := by decide +kernel
theorem qd_M_both_54 : decode qc_M_both 54 = .ok (.aload_n 0, 1) := by decide +kernel
theorem qd_M_both_55 : decode qc_M_both 55 = .ok (.getfield 75, 3) := by decide +kernel
theorem qd_M_both_58 : decode qc_M_both 58 = .ok (.aload_n 0, 1) := by decide +kernel
theorem qd_M_both_59 : decode qc_M_both 59 = .ok (.invokevirtual 66, 3) := by decide +kernel
theorem qd_M_both_62 : decode qc_M_both 62 = .ok (.invokestatic 38, 3) := by decide +kernel
theorem qd_M_both_65 : decode qc_M_both 65 = .ok (.putfield 75, 3) := by decide +kernel
theorem qd_M_both_68 : decode qc_M_both 68 = .ok (.goto 50, 3) := by decide +kernel
theorem qd_M_both_71 : decode qc_M_both 71 = .ok (.aload_n 0, 1) := by decide +kernel
theorem qd_M_both_72 : decode qc_M_both 72 = .ok (.iload_n 1, 1) := by decide +kernel
theorem qd_M_both_73 : decode qc_M_both 73 = .ok (.iload 6, 2) := by decide +kernel
theorem qd_M_both_75 : decode qc_M_both 75 = .ok (.isub, 1) := by decide +kernel
theorem qd_M_both_76 : decode qc_M_both 76 = .ok (.iload_n 2, 1) := by decide +kernel
theorem qd_M_both_77 : decode qc_M_both 77 = .ok (.iload 6, 2) := by decide +kernel
theorem qd_M_both_79 : decode qc_M_both 79 = .ok (.isub, 1) := by decide +kernel
theorem qd_M_both_80 : decode qc_M_both 80 = .ok (.iconst 0, 1) := by decide +kernel
theorem qd_M_both_81 : decode qc_M_both 81 = .ok (.lload 4, 2) := by decide +kernel
theorem qd_M_both_83 : decode qc_M_both 83 = .ok (.invokevirtual 78, 3) := by decide +kernel
theorem qd_M_both_86 : decode qc_M_both 86 = .ok (.aload_n 0, 1) := by decide +kernel
theorem qd_M_both_87 : decode qc_M_both 87 = .ok (.invokevirtual 66, 3) := by decide +kernel
theorem qd_M_both_90 : decode qc_M_both 90 = .ok (.lstore 7, 2) := by decide +kernel
theorem qd_M_both_92 : decode qc_M_both 92 = .ok (.aload_n 0, 1) := by decide +kernel
theorem qd_M_both_93 : decode qc_M_both 93 = .ok (.lload 7, 2) := by decide +kernel
theorem qd_M_both_95 : decode qc_M_both 95 = .ok (.aload_n 0, 1) := by decide +kernel
theorem qd_M_both_96 : decode qc_M_both 96 = .ok (.getfield 71, 3) := by decide +kernel
theorem qd_M_both_99 : decode qc_M_both 99 = .ok (.invokestatic 38, 3) := by decide +kernel
theorem qd_M_both_102 : decode qc_M_both 102 = .ok (.putfield 71, 3) := by decide +kernel
theorem qd_M_both_105 : decode qc_M_both 105 = .ok (.aload_n 0, 1) := by decide +kernel
theorem qd_M_both_106 : decode qc_M_both 106 = .ok (.lload 7, 2) := by decide +kernel
theorem qd_M_both_108 : decode qc_M_both 108 = .ok (.aload_n 0, 1) := by decide +kernel
theorem qd_M_both_109 : decode qc_M_both 109 = .ok (.getfield 75, 3) := by decide +kernel
theorem qd_M_both_112 : decode qc_M_both 112 = .ok (.invokestatic 38, 3) := by decide +kernel
theorem qd_M_both_115 : decode qc_M_both 115 = .ok (.putfield 75, 3) := by decide +kernel
theorem qd_M_both_118 : decode qc_M_both 118 = .ok (.return_, 1) := by decide +kernel
theorem qd_M_find_0 : decode qc_M_find 0 = .ok (.aload_n 0, 1) := by decide +kernel
theorem qd_M_find_1 : decode qc_M_find 1 = .ok (.iload_n 1, 1) := by decide +kernel
theorem qd_M_find_2 : decode qc_M_find 2 = .ok (.ifCond .lt 11, 3) := by decide +kernel
theorem qd_M_find_5 : decode qc_M_find 5 = .ok (.iload_n 1, 1) := by decide +kernel
theorem qd_M_find_6 : decode qc_M_find 6 = .ok (.aload_n 0, 1) := by decide +kernel
theorem qd_M_find_7 : decode qc_M_find 7 = .ok (.getfield 41, 3) := by decide +kernel
theorem qd_M_find_10 : decode qc_M_find 10 = .ok (.if_icmp .le 7, 3) := by decide +kernel
theorem qd_M_find_13 : decode qc_M_find 13 = .ok (.iconst 1, 1) := by decide +kernel
theorem qd_M_find_14 : decode qc_M_find 14 = .ok (.goto 4, 3) := by decide +kernel
theorem qd_M_find_17 : decode qc_M_find 17 = .ok (.iconst 0, 1) := by decide +kernel
theorem qd_M_find_18 : decode qc_M_find 18 = .ok (.putfield 16, 3) := by decide +kernel
theorem qd_M_find_21 : decode qc_M_find 21 = .ok (.iconst 0, 1) := by decide +kernel
theorem qd_M_find_22 : decode qc_M_find 22 = .ok (.istore 4, 2) := by decide +kernel
theorem qd_M_find_24 : decode qc_M_find 24 = .ok (.iload 4, 2) := by decide +kernel
theorem qd_M_find_26 : decode qc_M_find 26 = .ok (.iload_n 1, 1) := by decide +kernel
theorem qd_M_find_27 : decode qc_M_find 27 = .ok (.if_icmp .ge 39, 3) := by decide +kernel
theorem qd_M_find_30 : decode qc_M_find 30 = .ok (.aload_n 0, 1) := by decide +kernel
theorem qd_M_find_31 : decode qc_M_find 31 = .ok (.getfield 16, 3) := by decide +kernel
theorem qd_M_find_34 : decode qc_M_find 34 = .ok (.ifCond .ne 32, 3) := by decide +kernel
theorem qd_M_find_37 : decode qc_M_find 37 = .ok (.lconst 1, 1) := by decide +kernel
theorem qd_M_find_38 : decode qc_M_find 38 = .ok (.aload_n 0, 1) := by decide +kernel
theorem qd_M_find_39 : decode qc_M_find 39 = .ok (.getfield 9, 3) := by decide +kernel
theorem qd_M_find_42 : decode qc_M_find 42 = .ok (.iload 4, 2) := by decide +kernel
theorem qd_M_find_44 : decode qc_M_find 44 = .ok (.laload, 1) := by decide +kernel
theorem qd_M_find_45 : decode qc_M_find 45 = .ok (.invokestatic 26, 3) := by decide +kernel
theorem qd_M_find_48 : decode qc_M_find 48 = .ok (.lconst 1, 1) := by decide +kernel
theorem qd_M_find_49 : decode qc_M_find 49 = .ok (.lload_n 2, 1) := by decide +kernel
theorem qd_M_find_50 : decode qc_M_find 50 = .ok (.invokestatic 26, 3) := by decide +kernel
theorem qd_M_find_53 : decode qc_M_find 53 = .ok (.lcmp, 1) := by decide +kernel
theorem qd_M_find_54 : decode qc_M_find 54 = .ok (.ifCond .ne 6, 3) := by decide +kernel
theorem qd_M_find_57 : decode qc_M_find 57 = .ok (.iload 4, 2) := by decide +kernel
theorem qd_M_find_59 : decode qc_M_find 59 = .ok (.ireturn, 1) := by decide +kernel
theorem qd_M_find_60 : decode qc_M_find 60 = .ok (.iinc 4 1, 3) := by decide +kernel
theorem qd_M_find_63 : decode qc_M_find 63 = .ok (.goto (-39), 3) := by decide +kernel
theorem qd_M_find_66 : decode qc_M_find 66 = .ok (.aload_n 0, 1) := by decide +kernel
theorem qd_M_find_67 : decode qc_M_find 67 = .ok (.getfield 16, 3) := by decide +kernel
theorem qd_M_find_70 : decode qc_M_find 70 = .ok (.ifCond .le 7, 3) := by decide +kernel
theorem qd_M_find_73 : decode qc_M_find 73 = .ok (.iconst 0, 1) := by decide +kernel
theorem qd_M_find_74 : decode qc_M_find 74 = .ok (.goto 4, 3) := by decide +kernel
theorem qd_M_find_77 : decode qc_M_find 77 = .ok (.iconst (-1), 1) := by decide +kernel
theorem qd_M_find_78 : decode qc_M_find 78 = .ok (.ireturn, 1) := by decide +kernel
theorem qd_M_count_0 : decode qc_M_count 0 = .ok (.aload_n 0, 1) := by decide +kernel
theorem qd_M_count_1 : decode qc_M_count 1 = .ok (.iconst 0, 1) := by decide +kernel
theorem qd_M_count_2 : decode qc_M_count 2 = .ok (.putfield 16, 3) := by decide +kernel
theorem qd_M_count_5 : decode qc_M_count 5 = .ok (.iload_n 1, 1) := by decide +kernel
theorem qd_M_count_6 : decode qc_M_count 6 = .ok (.ifCond .ne 8, 3) := by decide +kernel
theorem qd_M_count_9 : decode qc_M_count 9 = .ok (.aload_n 0, 1) := by decide +kernel
theorem qd_M_count_10 : decode qc_M_count 10 = .ok (.getfield 41, 3) := by decide +kernel
theorem qd_M_count_13 : decode qc_M_count 13 = .ok (.ireturn, 1) := by decide +kernel
theorem qd_M_count_14 : decode qc_M_count 14 = .ok (.iload_n 1, 1) := by decide +kernel
theorem qd_M_count_15 : decode qc_M_count 15 = .ok (.iconst 1, 1) := by decide +kernel
theorem qd_M_count_16 : decode qc_M_count 16 = .ok (.if_icmp .ne 8, 3) := by decide +kernel
theorem qd_M_count_19 : decode qc_M_count 19 = .ok (.aload_n 0, 1) := by decide +kernel
theorem qd_M_count_20 : decode qc_M_count 20 = .ok (.getfield 44, 3) := by decide +kernel
theorem qd_M_count_23 : decode qc_M_count 23 = .ok (.ireturn, 1) := by decide +kernel
theorem qd_M_count_24 : decode qc_M_count 24 = .ok (.iload_n 1, 1) := by decide +kernel
theorem qd_M_count_25 : decode qc_M_count 25 = .ok (.iconst 2, 1) := by decide +kernel
theorem qd_M_count_26 : decode qc_M_count 26 = .ok (.if_icmp .eq 5, 3) := by decide +kernel
theorem qd_M_count_29 : decode qc_M_count 29 = .ok (.iconst (-1), 1) := by decide +kernel
theorem qd_M_count_30 : decode qc_M_count 30 = .ok (.ireturn, 1) := by decide +kernel
theorem qd_M_count_31 : decode qc_M_count 31 = .ok (.iconst 0, 1) := by decide +kernel
theorem qd_M_count_32 : decode qc_M_count 32 = .ok (.istore_n 2, 1) := by decide +kernel
theorem qd_M_count_33 : decode qc_M_count 33 = .ok (.aload_n 0, 1) := by decide +kernel
theorem qd_M_count_34 : decode qc_M_count 34 = .ok (.getfield 41, 3) := by decide +kernel
theorem qd_M_count_37 : decode qc_M_count 37 = .ok (.istore_n 3, 1) := by decide +kernel
theorem qd_M_count_38 : decode qc_M_count 38 = .ok (.iload_n 3, 1) := by decide +kernel
theorem qd_M_count_39 : decode qc_M_count 39 = .ok (.ifCond .le 16, 3) := by decide +kernel
theorem qd_M_count_42 : decode qc_M_count 42 = .ok (.iload_n 2, 1) := by decide +kernel
theorem qd_M_count_43 : decode qc_M_count 43 = .ok (.iload_n 3, 1) := by decide +kernel
theorem qd_M_count_44 : decode qc_M_count 44 = .ok (.iconst 2, 1) := by decide +kernel
theorem qd_M_count_45 : decode qc_M_count 45 = .ok (.irem, 1) := by decide +kernel
theorem qd_M_count_46 : decode qc_M_count 46 = .ok (.iadd, 1) := by decide +kernel
theorem qd_M_count_47 : decode qc_M_count 47 = .ok (.istore_n 2, 1) := by decide +kernel
theorem qd_M_count_48 : decode qc_M_count 48 = .ok (.iload_n 3, 1) := by decide +kernel
theorem qd_M_count_49 : decode qc_M_count 49 = .ok (.iconst 2, 1) := by decide +kernel
theorem qd_M_count_50 : decode qc_M_count 50 = .ok (.idiv, 1) := by decide +kernel
theorem qd_M_count_51 : decode qc_M_count 51 = .ok (.istore_n 3, 1) := by decide +kernel
theorem qd_M_count_52 : decode qc_M_count 52 = .ok (.goto (-14), 3) := by decide +kernel
theorem qd_M_count_55 : decode qc_M_count 55 = .ok (.iload_n 2, 1) := by decide +kernel
theorem qd_M_count_56 : decode qc_M_count 56 = .ok (.ireturn, 1) := by decide +kernel
