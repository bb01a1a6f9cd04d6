/-! decode rows -/
theorem d_R_init_0 : decode b_R_init 0 = .ok (.aload_n 0, 1) := by decide +kernel
theorem d_R_init_1 : decode b_R_init 1 = .ok (.invokespecial 1, 3) := by decide +kernel
theorem d_R_init_4 : decode b_R_init 4 = .ok (.aload_n 0, 1) := by decide +kernel
theorem d_R_init_5 : decode b_R_init 5 = .ok (.iload_n 1, 1) := by decide +kernel
theorem d_R_init_6 : decode b_R_init 6 = .ok (.newarray .byte, 2) := by decide +kernel
theorem d_R_init_8 : decode b_R_init 8 = .ok (.putfield 7, 3) := by decide +kernel
theorem d_R_init_11 : decode b_R_init 11 = .ok (.return_, 1) := by decide +kernel
theorem d_R_get_0 : decode b_R_get 0 = .ok (.aload_n 0, 1) := by decide +kernel
theorem d_R_get_1 : decode b_R_get 1 = .ok (.getfield 7, 3) := by decide +kernel
theorem d_R_get_4 : decode b_R_get 4 = .ok (.iload_n 1, 1) := by decide +kernel
theorem d_R_get_5 : decode b_R_get 5 = .ok (.baload, 1) := by decide +kernel
theorem d_R_get_6 : decode b_R_get 6 = .ok (.sipush 255, 3) := by decide +kernel
theorem d_R_get_9 : decode b_R_get 9 = .ok (.iand, 1) := by decide +kernel
theorem d_R_get_10 : decode b_R_get 10 = .ok (.ireturn, 1) := by decide +kernel
theorem d_R_add_0 : decode b_R_add 0 = .ok (.aload_n 0, 1) := by decide +kernel
theorem d_R_add_1 : decode b_R_add 1 = .ok (.getfield 7, 3) := by decide +kernel
theorem d_R_add_4 : decode b_R_add 4 = .ok (.aload_n 0, 1) := by decide +kernel
theorem d_R_add_5 : decode b_R_add 5 = .ok (.getfield 13, 3) := by decide +kernel
theorem d_R_add_8 : decode b_R_add 8 = .ok (.iload_n 1, 1) := by decide +kernel
theorem d_R_add_9 : decode b_R_add 9 = .ok (.i2b, 1) := by decide +kernel
theorem d_R_add_10 : decode b_R_add 10 = .ok (.bastore, 1) := by decide +kernel
theorem d_R_add_11 : decode b_R_add 11 = .ok (.aload_n 0, 1) := by decide +kernel
theorem d_R_add_12 : decode b_R_add 12 = .ok (.dup, 1) := by decide +kernel
theorem d_R_add_13 : decode b_R_add 13 = .ok (.getfield 13, 3) := by decide +kernel
theorem d_R_add_16 : decode b_R_add 16 = .ok (.iconst 1, 1) := by decide +kernel
theorem d_R_add_17 : decode b_R_add 17 = .ok (.iadd, 1) := by decide +kernel
theorem d_R_add_18 : decode b_R_add 18 = .ok (.putfield 13, 3) := by decide +kernel
theorem d_R_add_21 : decode b_R_add 21 = .ok (.return_, 1) := by decide +kernel
theorem d_D_init_0 : decode b_D_init 0 = .ok (.aload_n 0, 1) := by decide +kernel
theorem d_D_init_1 : decode b_D_init 1 = .ok (.invokespecial 1, 3) := by decide +kernel
theorem d_D_init_4 : decode b_D_init 4 = .ok (.bipush 16, 2) := by decide +kernel
theorem d_D_init_6 : decode b_D_init 6 = .ok (.ldc 9, 2) := by decide +kernel
theorem d_D_init_8 : decode b_D_init 8 = .ok (.iload_n 1, 1) := by decide +kernel
theorem d_D_init_9 : decode b_D_init 9 = .ok (.invokestatic 10, 3) := by decide +kernel
theorem d_D_init_12 : decode b_D_init 12 = .ok (.invokestatic 16, 3) := by decide +kernel
theorem d_D_init_15 : decode b_D_init 15 = .ok (.istore_n 2, 1) := by decide +kernel
theorem d_D_init_16 : decode b_D_init 16 = .ok (.aload_n 0, 1) := by decide +kernel
theorem d_D_init_17 : decode b_D_init 17 = .ok (.iconst 4, 1) := by decide +kernel
theorem d_D_init_18 : decode b_D_init 18 = .ok (.anewarray 19, 3) := by decide +kernel
theorem d_D_init_21 : decode b_D_init 21 = .ok (.putfield 21, 3) := by decide +kernel
theorem d_D_init_24 : decode b_D_init 24 = .ok (.iconst 0, 1) := by decide +kernel
theorem d_D_init_25 : decode b_D_init 25 = .ok (.istore_n 3, 1) := by decide +kernel
theorem d_D_init_26 : decode b_D_init 26 = .ok (.iload_n 3, 1) := by decide +kernel
theorem d_D_init_27 : decode b_D_init 27 = .ok (.iconst 4, 1) := by decide +kernel
theorem d_D_init_28 : decode b_D_init 28 = .ok (.if_icmp .ge 23, 3) := by decide +kernel
theorem d_D_init_31 : decode b_D_init 31 = .ok (.aload_n 0, 1) := by decide +kernel
theorem d_D_init_32 : decode b_D_init 32 = .ok (.getfield 21, 3) := by decide +kernel
theorem d_D_init_35 : decode b_D_init 35 = .ok (.iload_n 3, 1) := by decide +kernel
theorem d_D_init_36 : decode b_D_init 36 = .ok (.new 19, 3) := by decide +kernel
theorem d_D_init_39 : decode b_D_init 39 = .ok (.dup, 1) := by decide +kernel
theorem d_D_init_40 : decode b_D_init 40 = .ok (.iload_n 2, 1) := by decide +kernel
theorem d_D_init_41 : decode b_D_init 41 = .ok (.invokespecial 25, 3) := by decide +kernel
theorem d_D_init_44 : decode b_D_init 44 = .ok (.aastore, 1) := by decide +kernel
theorem d_D_init_45 : decode b_D_init 45 = .ok (.iinc 3 1, 3) := by decide +kernel
theorem d_D_init_48 : decode b_D_init 48 = .ok (.goto (-22), 3) := by decide +kernel
theorem d_D_init_51 : decode b_D_init 51 = .ok (.return_, 1) := by decide +kernel
theorem d_D_fixed_0 : decode b_D_fixed 0 = .ok (.aload_n 0, 1) := by decide +kernel
theorem d_D_fixed_1 : decode b_D_fixed 1 = .ok (.iload_n 1, 1) := by decide +kernel
theorem d_D_fixed_2 : decode b_D_fixed 2 = .ok (.invokevirtual 28, 3) := by decide +kernel
theorem d_D_fixed_5 : decode b_D_fixed 5 = .ok (.astore 5, 2) := by decide +kernel
theorem d_D_fixed_7 : decode b_D_fixed 7 = .ok (.iload 4, 2) := by decide +kernel
theorem d_D_fixed_9 : decode b_D_fixed 9 = .ok (.invokestatic 32, 3) := by decide +kernel
theorem d_D_fixed_12 : decode b_D_fixed 12 = .ok (.aload 5, 2) := by decide +kernel
theorem d_D_fixed_14 : decode b_D_fixed 14 = .ok (.iload 4, 2) := by decide +kernel
theorem d_D_fixed_16 : decode b_D_fixed 16 = .ok (.invokestatic 35, 3) := by decide +kernel
theorem d_D_fixed_19 : decode b_D_fixed 19 = .ok (.aload 5, 2) := by decide +kernel
theorem d_D_fixed_21 : decode b_D_fixed 21 = .ok (.lload_n 2, 1) := by decide +kernel
theorem d_D_fixed_22 : decode b_D_fixed 22 = .ok (.iload 4, 2) := by decide +kernel
theorem d_D_fixed_24 : decode b_D_fixed 24 = .ok (.invokestatic 39, 3) := by decide +kernel
theorem d_D_fixed_27 : decode b_D_fixed 27 = .ok (.aload 5, 2) := by decide +kernel
theorem d_D_fixed_29 : decode b_D_fixed 29 = .ok (.getfield 43, 3) := by decide +kernel
theorem d_D_fixed_32 : decode b_D_fixed 32 = .ok (.ireturn, 1) := by decide +kernel
theorem d_D_sevens_0 : decode b_D_sevens 0 = .ok (.aload_n 0, 1) := by decide +kernel
theorem d_D_sevens_1 : decode b_D_sevens 1 = .ok (.iload_n 1, 1) := by decide +kernel
theorem d_D_sevens_2 : decode b_D_sevens 2 = .ok (.invokevirtual 28, 3) := by decide +kernel
theorem d_D_sevens_5 : decode b_D_sevens 5 = .ok (.lload_n 2, 1) := by decide +kernel
theorem d_D_sevens_6 : decode b_D_sevens 6 = .ok (.invokestatic 47, 3) := by decide +kernel
theorem d_D_sevens_9 : decode b_D_sevens 9 = .ok (.ireturn, 1) := by decide +kernel
theorem d_D_signed_0 : decode b_D_signed 0 = .ok (.aload_n 0, 1) := by decide +kernel
theorem d_D_signed_1 : decode b_D_signed 1 = .ok (.iload_n 1, 1) := by decide +kernel
theorem d_D_signed_2 : decode b_D_signed 2 = .ok (.invokevirtual 28, 3) := by decide +kernel
theorem d_D_signed_5 : decode b_D_signed 5 = .ok (.lload_n 2, 1) := by decide +kernel
theorem d_D_signed_6 : decode b_D_signed 6 = .ok (.iconst 1, 1) := by decide +kernel
theorem d_D_signed_7 : decode b_D_signed 7 = .ok (.lshl, 1) := by decide +kernel
theorem d_D_signed_8 : decode b_D_signed 8 = .ok (.lload_n 2, 1) := by decide +kernel
theorem d_D_signed_9 : decode b_D_signed 9 = .ok (.bipush 63, 2) := by decide +kernel
theorem d_D_signed_11 : decode b_D_signed 11 = .ok (.lshr, 1) := by decide +kernel
theorem d_D_signed_12 : decode b_D_signed 12 = .ok (.lxor, 1) := by decide +kernel
theorem d_D_signed_13 : decode b_D_signed 13 = .ok (.invokestatic 47, 3) := by decide +kernel
theorem d_D_signed_16 : decode b_D_signed 16 = .ok (.ireturn, 1) := by decide +kernel
theorem d_D_letter_0 : decode b_D_letter 0 = .ok (.aload_n 0, 1) := by decide +kernel
theorem d_D_letter_1 : decode b_D_letter 1 = .ok (.iload_n 1, 1) := by decide +kernel
theorem d_D_letter_2 : decode b_D_letter 2 = .ok (.invokevirtual 28, 3) := by decide +kernel
theorem d_D_letter_5 : decode b_D_letter 5 = .ok (.astore_n 3, 1) := by decide +kernel
theorem d_D_letter_6 : decode b_D_letter 6 = .ok (.iload_n 2, 1) := by decide +kernel
theorem d_D_letter_7 : decode b_D_letter 7 = .ok (.invokestatic 51, 3) := by decide +kernel
theorem d_D_letter_10 : decode b_D_letter 10 = .ok (.istore 4, 2) := by decide +kernel
theorem d_D_letter_12 : decode b_D_letter 12 = .ok (.iload 4, 2) := by decide +kernel
theorem d_D_letter_14 : decode b_D_letter 14 = .ok (.ifCond .ne 13, 3) := by decide +kernel
theorem d_D_letter_17 : decode b_D_letter 17 = .ok (.new 55, 3) := by decide +kernel
theorem d_D_letter_20 : decode b_D_letter 20 = .ok (.dup, 1) := by decide +kernel
theorem d_D_letter_21 : decode b_D_letter 21 = .ok (.ldc 57, 2) := by decide +kernel
theorem d_D_letter_23 : decode b_D_letter 23 = .ok (.invokespecial 59, 3) := by decide +kernel
theorem d_D_letter_26 : decode b_D_letter 26 = .ok (.athrow, 1) := by decide +kernel
theorem d_D_letter_27 : decode b_D_letter 27 = .ok (.aload_n 3, 1) := by decide +kernel
theorem d_D_letter_28 : decode b_D_letter 28 = .ok (.iload 4, 2) := by decide +kernel
theorem d_D_letter_30 : decode b_D_letter 30 = .ok (.invokestatic 35, 3) := by decide +kernel
theorem d_D_letter_33 : decode b_D_letter 33 = .ok (.aload_n 3, 1) := by decide +kernel
theorem d_D_letter_34 : decode b_D_letter 34 = .ok (.iload_n 2, 1) := by decide +kernel
theorem d_D_letter_35 : decode b_D_letter 35 = .ok (.iload 4, 2) := by decide +kernel
theorem d_D_letter_37 : decode b_D_letter 37 = .ok (.invokestatic 62, 3) := by decide +kernel
theorem d_D_letter_40 : decode b_D_letter 40 = .ok (.iload 4, 2) := by decide +kernel
theorem d_D_letter_42 : decode b_D_letter 42 = .ok (.ireturn, 1) := by decide +kernel
theorem d_D_copy_0 : decode b_D_copy 0 = .ok (.aload_n 0, 1) := by decide +kernel
theorem d_D_copy_1 : decode b_D_copy 1 = .ok (.iload_n 1, 1) := by decide +kernel
theorem d_D_copy_2 : decode b_D_copy 2 = .ok (.invokevirtual 28, 3) := by decide +kernel
theorem d_D_copy_5 : decode b_D_copy 5 = .ok (.astore 5, 2) := by decide +kernel
theorem d_D_copy_7 : decode b_D_copy 7 = .ok (.aload_n 0, 1) := by decide +kernel
theorem d_D_copy_8 : decode b_D_copy 8 = .ok (.iload_n 2, 1) := by decide +kernel
theorem d_D_copy_9 : decode b_D_copy 9 = .ok (.invokevirtual 28, 3) := by decide +kernel
theorem d_D_copy_12 : decode b_D_copy 12 = .ok (.astore 6, 2) := by decide +kernel
theorem d_D_copy_14 : decode b_D_copy 14 = .ok (.aload 6, 2) := by decide +kernel
theorem d_D_copy_16 : decode b_D_copy 16 = .ok (.iload_n 3, 1) := by decide +kernel
theorem d_D_copy_17 : decode b_D_copy 17 = .ok (.iload 4, 2) := by decide +kernel
theorem d_D_copy_19 : decode b_D_copy 19 = .ok (.invokestatic 66, 3) := by decide +kernel
theorem d_D_copy_22 : decode b_D_copy 22 = .ok (.aload 5, 2) := by decide +kernel
theorem d_D_copy_24 : decode b_D_copy 24 = .ok (.iload 4, 2) := by decide +kernel
theorem d_D_copy_26 : decode b_D_copy 26 = .ok (.invokestatic 35, 3) := by decide +kernel
theorem d_D_copy_29 : decode b_D_copy 29 = .ok (.aload 5, 2) := by decide +kernel
theorem d_D_copy_31 : decode b_D_copy 31 = .ok (.aload 6, 2) := by decide +kernel
theorem d_D_copy_33 : decode b_D_copy 33 = .ok (.iload_n 3, 1) := by decide +kernel
theorem d_D_copy_34 : decode b_D_copy 34 = .ok (.iload 4, 2) := by decide +kernel
theorem d_D_copy_36 : decode b_D_copy 36 = .ok (.invokestatic 69, 3) := by decide +kernel
theorem d_D_copy_39 : decode b_D_copy 39 = .ok (.aload 5, 2) := by decide +kernel
theorem d_D_copy_41 : decode b_D_copy 41 = .ok (.getfield 43, 3) := by decide +kernel
theorem d_D_copy_44 : decode b_D_copy 44 = .ok (.ireturn, 1) := by decide +kernel
theorem d_D_block_0 : decode b_D_block 0 = .ok (.aload_n 0, 1) := by decide +kernel
theorem d_D_block_1 : decode b_D_block 1 = .ok (.iload_n 1, 1) := by decide +kernel
theorem d_D_block_2 : decode b_D_block 2 = .ok (.invokevirtual 28, 3) := by decide +kernel
theorem d_D_block_5 : decode b_D_block 5 = .ok (.astore_n 3, 1) := by decide +kernel
theorem d_D_block_6 : decode b_D_block 6 = .ok (.aload_n 0, 1) := by decide +kernel
theorem d_D_block_7 : decode b_D_block 7 = .ok (.iload_n 2, 1) := by decide +kernel
theorem d_D_block_8 : decode b_D_block 8 = .ok (.invokevirtual 28, 3) := by decide +kernel
theorem d_D_block_11 : decode b_D_block 11 = .ok (.astore 4, 2) := by decide +kernel
theorem d_D_block_13 : decode b_D_block 13 = .ok (.aload 4, 2) := by decide +kernel
theorem d_D_block_15 : decode b_D_block 15 = .ok (.getfield 43, 3) := by decide +kernel
theorem d_D_block_18 : decode b_D_block 18 = .ok (.istore 5, 2) := by decide +kernel
theorem d_D_block_20 : decode b_D_block 20 = .ok (.iload 5, 2) := by decide +kernel
theorem d_D_block_22 : decode b_D_block 22 = .ok (.i2l, 1) := by decide +kernel
theorem d_D_block_23 : decode b_D_block 23 = .ok (.invokestatic 73, 3) := by decide +kernel
theorem d_D_block_26 : decode b_D_block 26 = .ok (.iload 5, 2) := by decide +kernel
theorem d_D_block_28 : decode b_D_block 28 = .ok (.iadd, 1) := by decide +kernel
theorem d_D_block_29 : decode b_D_block 29 = .ok (.istore 6, 2) := by decide +kernel
theorem d_D_block_31 : decode b_D_block 31 = .ok (.aload_n 3, 1) := by decide +kernel
theorem d_D_block_32 : decode b_D_block 32 = .ok (.iload 6, 2) := by decide +kernel
theorem d_D_block_34 : decode b_D_block 34 = .ok (.invokestatic 35, 3) := by decide +kernel
theorem d_D_block_37 : decode b_D_block 37 = .ok (.aload_n 3, 1) := by decide +kernel
theorem d_D_block_38 : decode b_D_block 38 = .ok (.iload 5, 2) := by decide +kernel
theorem d_D_block_40 : decode b_D_block 40 = .ok (.i2l, 1) := by decide +kernel
theorem d_D_block_41 : decode b_D_block 41 = .ok (.invokestatic 77, 3) := by decide +kernel
theorem d_D_block_44 : decode b_D_block 44 = .ok (.aload_n 3, 1) := by decide +kernel
theorem d_D_block_45 : decode b_D_block 45 = .ok (.aload 4, 2) := by decide +kernel
theorem d_D_block_47 : decode b_D_block 47 = .ok (.iconst 0, 1) := by decide +kernel
theorem d_D_block_48 : decode b_D_block 48 = .ok (.iload 5, 2) := by decide +kernel
theorem d_D_block_50 : decode b_D_block 50 = .ok (.invokestatic 69, 3) := by decide +kernel
theorem d_D_block_53 : decode b_D_block 53 = .ok (.iload 6, 2) := by decide +kernel
theorem d_D_block_55 : decode b_D_block 55 = .ok (.ireturn, 1) := by decide +kernel
theorem d_D_frame_0 : decode b_D_frame 0 = .ok (.aload_n 0, 1) := by decide +kernel
theorem d_D_frame_1 : decode b_D_frame 1 = .ok (.iload_n 1, 1) := by decide +kernel
theorem d_D_frame_2 : decode b_D_frame 2 = .ok (.invokevirtual 28, 3) := by decide +kernel
theorem d_D_frame_5 : decode b_D_frame 5 = .ok (.astore_n 3, 1) := by decide +kernel
theorem d_D_frame_6 : decode b_D_frame 6 = .ok (.aload_n 0, 1) := by decide +kernel
theorem d_D_frame_7 : decode b_D_frame 7 = .ok (.iload_n 2, 1) := by decide +kernel
theorem d_D_frame_8 : decode b_D_frame 8 = .ok (.invokevirtual 28, 3) := by decide +kernel
theorem d_D_frame_11 : decode b_D_frame 11 = .ok (.astore 4, 2) := by decide +kernel
theorem d_D_frame_13 : decode b_D_frame 13 = .ok (.aload 4, 2) := by decide +kernel
theorem d_D_frame_15 : decode b_D_frame 15 = .ok (.getfield 43, 3) := by decide +kernel
theorem d_D_frame_18 : decode b_D_frame 18 = .ok (.istore 5, 2) := by decide +kernel
theorem d_D_frame_20 : decode b_D_frame 20 = .ok (.iload 5, 2) := by decide +kernel
theorem d_D_frame_22 : decode b_D_frame 22 = .ok (.i2l, 1) := by decide +kernel
theorem d_D_frame_23 : decode b_D_frame 23 = .ok (.invokestatic 73, 3) := by decide +kernel
theorem d_D_frame_26 : decode b_D_frame 26 = .ok (.iconst 4, 1) := by decide +kernel
theorem d_D_frame_27 : decode b_D_frame 27 = .ok (.iadd, 1) := by decide +kernel
theorem d_D_frame_28 : decode b_D_frame 28 = .ok (.iload 5, 2) := by decide +kernel
theorem d_D_frame_30 : decode b_D_frame 30 = .ok (.iadd, 1) := by decide +kernel
theorem d_D_frame_31 : decode b_D_frame 31 = .ok (.istore 6, 2) := by decide +kernel
theorem d_D_frame_33 : decode b_D_frame 33 = .ok (.aload_n 3, 1) := by decide +kernel
theorem d_D_frame_34 : decode b_D_frame 34 = .ok (.iload 6, 2) := by decide +kernel
theorem d_D_frame_36 : decode b_D_frame 36 = .ok (.invokestatic 35, 3) := by decide +kernel
theorem d_D_frame_39 : decode b_D_frame 39 = .ok (.aload_n 3, 1) := by decide +kernel
theorem d_D_frame_40 : decode b_D_frame 40 = .ok (.iload 5, 2) := by decide +kernel
theorem d_D_frame_42 : decode b_D_frame 42 = .ok (.i2l, 1) := by decide +kernel
theorem d_D_frame_43 : decode b_D_frame 43 = .ok (.invokestatic 77, 3) := by decide +kernel
theorem d_D_frame_46 : decode b_D_frame 46 = .ok (.aload_n 3, 1) := by decide +kernel
theorem d_D_frame_47 : decode b_D_frame 47 = .ok (.aload 4, 2) := by decide +kernel
theorem d_D_frame_49 : decode b_D_frame 49 = .ok (.iconst 0, 1) := by decide +kernel
theorem d_D_frame_50 : decode b_D_frame 50 = .ok (.iload 5, 2) := by decide +kernel
theorem d_D_frame_52 : decode b_D_frame 52 = .ok (.invokestatic 81, 3) := by decide +kernel
theorem d_D_frame_55 : decode b_D_frame 55 = .ok (.i2l, 1) := by decide +kernel
theorem d_D_frame_56 : decode b_D_frame 56 = .ok (.iconst 4, 1) := by decide +kernel
theorem d_D_frame_57 : decode b_D_frame 57 = .ok (.invokestatic 39, 3) := by decide +kernel
theorem d_D_frame_60 : decode b_D_frame 60 = .ok (.aload_n 3, 1) := by decide +kernel
theorem d_D_frame_61 : decode b_D_frame 61 = .ok (.aload 4, 2) := by decide +kernel
theorem d_D_frame_63 : decode b_D_frame 63 = .ok (.iconst 0, 1) := by decide +kernel
theorem d_D_frame_64 : decode b_D_frame 64 = .ok (.iload 5, 2) := by decide +kernel
theorem d_D_frame_66 : decode b_D_frame 66 = .ok (.invokestatic 69, 3) := by decide +kernel
theorem d_D_frame_69 : decode b_D_frame 69 = .ok (.iload 6, 2) := by decide +kernel
theorem d_D_frame_71 : decode b_D_frame 71 = .ok (.ireturn, 1) := by decide +kernel
theorem d_D_cut_0 : decode b_D_cut 0 = .ok (.aload_n 0, 1) := by decide +kernel
theorem d_D_cut_1 : decode b_D_cut 1 = .ok (.iload_n 1, 1) := by decide +kernel
theorem d_D_cut_2 : decode b_D_cut 2 = .ok (.invokevirtual 28, 3) := by decide +kernel
theorem d_D_cut_5 : decode b_D_cut 5 = .ok (.astore_n 3, 1) := by decide +kernel
theorem d_D_cut_6 : decode b_D_cut 6 = .ok (.iload_n 2, 1) := by decide +kernel
theorem d_D_cut_7 : decode b_D_cut 7 = .ok (.ifCond .lt 11, 3) := by decide +kernel
theorem d_D_cut_10 : decode b_D_cut 10 = .ok (.iload_n 2, 1) := by decide +kernel
theorem d_D_cut_11 : decode b_D_cut 11 = .ok (.aload_n 3, 1) := by decide +kernel
theorem d_D_cut_12 : decode b_D_cut 12 = .ok (.getfield 43, 3) := by decide +kernel
theorem d_D_cut_15 : decode b_D_cut 15 = .ok (.if_icmp .le 13, 3) := by decide +kernel
theorem d_D_cut_18 : decode b_D_cut 18 = .ok (.new 55, 3) := by decide +kernel
theorem d_D_cut_21 : decode b_D_cut 21 = .ok (.dup, 1) := by decide +kernel
theorem d_D_cut_22 : decode b_D_cut 22 = .ok (.ldc 85, 2) := by decide +kernel
theorem d_D_cut_24 : decode b_D_cut 24 = .ok (.invokespecial 59, 3) := by decide +kernel
theorem d_D_cut_27 : decode b_D_cut 27 = .ok (.athrow, 1) := by decide +kernel
theorem d_D_cut_28 : decode b_D_cut 28 = .ok (.aload_n 3, 1) := by decide +kernel
theorem d_D_cut_29 : decode b_D_cut 29 = .ok (.getfield 43, 3) := by decide +kernel
theorem d_D_cut_32 : decode b_D_cut 32 = .ok (.istore 4, 2) := by decide +kernel
theorem d_D_cut_34 : decode b_D_cut 34 = .ok (.aload_n 3, 1) := by decide +kernel
theorem d_D_cut_35 : decode b_D_cut 35 = .ok (.iload_n 2, 1) := by decide +kernel
theorem d_D_cut_36 : decode b_D_cut 36 = .ok (.putfield 43, 3) := by decide +kernel
theorem d_D_cut_39 : decode b_D_cut 39 = .ok (.aload_n 3, 1) := by decide +kernel
theorem d_D_cut_40 : decode b_D_cut 40 = .ok (.aload_n 3, 1) := by decide +kernel
theorem d_D_cut_41 : decode b_D_cut 41 = .ok (.getfield 87, 3) := by decide +kernel
theorem d_D_cut_44 : decode b_D_cut 44 = .ok (.iload_n 2, 1) := by decide +kernel
theorem d_D_cut_45 : decode b_D_cut 45 = .ok (.invokestatic 10, 3) := by decide +kernel
theorem d_D_cut_48 : decode b_D_cut 48 = .ok (.putfield 87, 3) := by decide +kernel
theorem d_D_cut_51 : decode b_D_cut 51 = .ok (.iload 4, 2) := by decide +kernel
theorem d_D_cut_53 : decode b_D_cut 53 = .ok (.ireturn, 1) := by decide +kernel
theorem d_D_turn_0 : decode b_D_turn 0 = .ok (.aload_n 0, 1) := by decide +kernel
theorem d_D_turn_1 : decode b_D_turn 1 = .ok (.iload_n 1, 1) := by decide +kernel
theorem d_D_turn_2 : decode b_D_turn 2 = .ok (.invokevirtual 28, 3) := by decide +kernel
theorem d_D_turn_5 : decode b_D_turn 5 = .ok (.astore_n 3, 1) := by decide +kernel
theorem d_D_turn_6 : decode b_D_turn 6 = .ok (.iload_n 2, 1) := by decide +kernel
theorem d_D_turn_7 : decode b_D_turn 7 = .ok (.ifCond .lt 14, 3) := by decide +kernel
theorem d_D_turn_10 : decode b_D_turn 10 = .ok (.iload_n 2, 1) := by decide +kernel
theorem d_D_turn_11 : decode b_D_turn 11 = .ok (.bipush 8, 2) := by decide +kernel
theorem d_D_turn_13 : decode b_D_turn 13 = .ok (.idiv, 1) := by decide +kernel
theorem d_D_turn_14 : decode b_D_turn 14 = .ok (.aload_n 3, 1) := by decide +kernel
theorem d_D_turn_15 : decode b_D_turn 15 = .ok (.getfield 43, 3) := by decide +kernel
theorem d_D_turn_18 : decode b_D_turn 18 = .ok (.if_icmp .lt 13, 3) := by decide +kernel
theorem d_D_turn_21 : decode b_D_turn 21 = .ok (.new 55, 3) := by decide +kernel
theorem d_D_turn_24 : decode b_D_turn 24 = .ok (.dup, 1) := by decide +kernel
theorem d_D_turn_25 : decode b_D_turn 25 = .ok (.ldc 90, 2) := by decide +kernel
theorem d_D_turn_27 : decode b_D_turn 27 = .ok (.invokespecial 59, 3) := by decide +kernel
theorem d_D_turn_30 : decode b_D_turn 30 = .ok (.athrow, 1) := by decide +kernel
theorem d_D_turn_31 : decode b_D_turn 31 = .ok (.aload_n 3, 1) := by decide +kernel
theorem d_D_turn_32 : decode b_D_turn 32 = .ok (.iload_n 2, 1) := by decide +kernel
theorem d_D_turn_33 : decode b_D_turn 33 = .ok (.bipush 8, 2) := by decide +kernel
theorem d_D_turn_35 : decode b_D_turn 35 = .ok (.idiv, 1) := by decide +kernel
theorem d_D_turn_36 : decode b_D_turn 36 = .ok (.invokevirtual 92, 3) := by decide +kernel
theorem d_D_turn_39 : decode b_D_turn 39 = .ok (.iconst 1, 1) := by decide +kernel
theorem d_D_turn_40 : decode b_D_turn 40 = .ok (.iload_n 2, 1) := by decide +kernel
theorem d_D_turn_41 : decode b_D_turn 41 = .ok (.bipush 8, 2) := by decide +kernel
theorem d_D_turn_43 : decode b_D_turn 43 = .ok (.irem, 1) := by decide +kernel
theorem d_D_turn_44 : decode b_D_turn 44 = .ok (.ishl, 1) := by decide +kernel
theorem d_D_turn_45 : decode b_D_turn 45 = .ok (.ixor, 1) := by decide +kernel
theorem d_D_turn_46 : decode b_D_turn 46 = .ok (.istore 4, 2) := by decide +kernel
theorem d_D_turn_48 : decode b_D_turn 48 = .ok (.aload_n 3, 1) := by decide +kernel
theorem d_D_turn_49 : decode b_D_turn 49 = .ok (.getfield 95, 3) := by decide +kernel
theorem d_D_turn_52 : decode b_D_turn 52 = .ok (.iload_n 2, 1) := by decide +kernel
theorem d_D_turn_53 : decode b_D_turn 53 = .ok (.bipush 8, 2) := by decide +kernel
theorem d_D_turn_55 : decode b_D_turn 55 = .ok (.idiv, 1) := by decide +kernel
theorem d_D_turn_56 : decode b_D_turn 56 = .ok (.iload 4, 2) := by decide +kernel
theorem d_D_turn_58 : decode b_D_turn 58 = .ok (.i2b, 1) := by decide +kernel
theorem d_D_turn_59 : decode b_D_turn 59 = .ok (.bastore, 1) := by decide +kernel
theorem d_D_turn_60 : decode b_D_turn 60 = .ok (.iload 4, 2) := by decide +kernel
theorem d_D_turn_62 : decode b_D_turn 62 = .ok (.ireturn, 1) := by decide +kernel
theorem d_D_place_0 : decode b_D_place 0 = .ok (.aload_n 0, 1) := by decide +kernel
theorem d_D_place_1 : decode b_D_place 1 = .ok (.iload_n 1, 1) := by decide +kernel
theorem d_D_place_2 : decode b_D_place 2 = .ok (.invokevirtual 28, 3) := by decide +kernel
theorem d_D_place_5 : decode b_D_place 5 = .ok (.astore_n 3, 1) := by decide +kernel
theorem d_D_place_6 : decode b_D_place 6 = .ok (.iload_n 2, 1) := by decide +kernel
theorem d_D_place_7 : decode b_D_place 7 = .ok (.ifCond .lt 11, 3) := by decide +kernel
theorem d_D_place_10 : decode b_D_place 10 = .ok (.iload_n 2, 1) := by decide +kernel
theorem d_D_place_11 : decode b_D_place 11 = .ok (.aload_n 3, 1) := by decide +kernel
theorem d_D_place_12 : decode b_D_place 12 = .ok (.getfield 43, 3) := by decide +kernel
theorem d_D_place_15 : decode b_D_place 15 = .ok (.if_icmp .le 13, 3) := by decide +kernel
theorem d_D_place_18 : decode b_D_place 18 = .ok (.new 55, 3) := by decide +kernel
theorem d_D_place_21 : decode b_D_place 21 = .ok (.dup, 1) := by decide +kernel
theorem d_D_place_22 : decode b_D_place 22 = .ok (.ldc 99, 2) := by decide +kernel
theorem d_D_place_24 : decode b_D_place 24 = .ok (.invokespecial 59, 3) := by decide +kernel
theorem d_D_place_27 : decode b_D_place 27 = .ok (.athrow, 1) := by decide +kernel
theorem d_D_place_28 : decode b_D_place 28 = .ok (.aload_n 3, 1) := by decide +kernel
theorem d_D_place_29 : decode b_D_place 29 = .ok (.getfield 87, 3) := by decide +kernel
theorem d_D_place_32 : decode b_D_place 32 = .ok (.istore 4, 2) := by decide +kernel
theorem d_D_place_34 : decode b_D_place 34 = .ok (.aload_n 3, 1) := by decide +kernel
theorem d_D_place_35 : decode b_D_place 35 = .ok (.iload_n 2, 1) := by decide +kernel
theorem d_D_place_36 : decode b_D_place 36 = .ok (.putfield 87, 3) := by decide +kernel
theorem d_D_place_39 : decode b_D_place 39 = .ok (.iload 4, 2) := by decide +kernel
theorem d_D_place_41 : decode b_D_place 41 = .ok (.ireturn, 1) := by decide +kernel
theorem d_D_readFixed_0 : decode b_D_readFixed 0 = .ok (.aload_n 0, 1) := by decide +kernel
theorem d_D_readFixed_1 : decode b_D_readFixed 1 = .ok (.iload_n 1, 1) := by decide +kernel
theorem d_D_readFixed_2 : decode b_D_readFixed 2 = .ok (.invokevirtual 28, 3) := by decide +kernel
theorem d_D_readFixed_5 : decode b_D_readFixed 5 = .ok (.astore_n 3, 1) := by decide +kernel
theorem d_D_readFixed_6 : decode b_D_readFixed 6 = .ok (.iload_n 2, 1) := by decide +kernel
theorem d_D_readFixed_7 : decode b_D_readFixed 7 = .ok (.invokestatic 32, 3) := by decide +kernel
theorem d_D_readFixed_10 : decode b_D_readFixed 10 = .ok (.aload_n 3, 1) := by decide +kernel
theorem d_D_readFixed_11 : decode b_D_readFixed 11 = .ok (.iload_n 2, 1) := by decide +kernel
theorem d_D_readFixed_12 : decode b_D_readFixed 12 = .ok (.invokestatic 101, 3) := by decide +kernel
theorem d_D_readFixed_15 : decode b_D_readFixed 15 = .ok (.aload_n 3, 1) := by decide +kernel
theorem d_D_readFixed_16 : decode b_D_readFixed 16 = .ok (.aload_n 3, 1) := by decide +kernel
theorem d_D_readFixed_17 : decode b_D_readFixed 17 = .ok (.getfield 87, 3) := by decide +kernel
theorem d_D_readFixed_20 : decode b_D_readFixed 20 = .ok (.iload_n 2, 1) := by decide +kernel
theorem d_D_readFixed_21 : decode b_D_readFixed 21 = .ok (.invokestatic 104, 3) := by decide +kernel
theorem d_D_readFixed_24 : decode b_D_readFixed 24 = .ok (.lstore 4, 2) := by decide +kernel
theorem d_D_readFixed_26 : decode b_D_readFixed 26 = .ok (.aload_n 3, 1) := by decide +kernel
theorem d_D_readFixed_27 : decode b_D_readFixed 27 = .ok (.dup, 1) := by decide +kernel
theorem d_D_readFixed_28 : decode b_D_readFixed 28 = .ok (.getfield 87, 3) := by decide +kernel
theorem d_D_readFixed_31 : decode b_D_readFixed 31 = .ok (.iload_n 2, 1) := by decide +kernel
theorem d_D_readFixed_32 : decode b_D_readFixed 32 = .ok (.iadd, 1) := by decide +kernel
theorem d_D_readFixed_33 : decode b_D_readFixed 33 = .ok (.putfield 87, 3) := by decide +kernel
theorem d_D_readFixed_36 : decode b_D_readFixed 36 = .ok (.lload 4, 2) := by decide +kernel
theorem d_D_readFixed_38 : decode b_D_readFixed 38 = .ok (.lreturn, 1) := by decide +kernel
theorem d_D_readSevens_0 : decode b_D_readSevens 0 = .ok (.aload_n 0, 1) := by decide +kernel
theorem d_D_readSevens_1 : decode b_D_readSevens 1 = .ok (.iload_n 1, 1) := by decide +kernel
theorem d_D_readSevens_2 : decode b_D_readSevens 2 = .ok (.invokevirtual 28, 3) := by decide +kernel
theorem d_D_readSevens_5 : decode b_D_readSevens 5 = .ok (.invokestatic 108, 3) := by decide +kernel
theorem d_D_readSevens_8 : decode b_D_readSevens 8 = .ok (.lreturn, 1) := by decide +kernel
theorem d_D_readSigned_0 : decode b_D_readSigned 0 = .ok (.aload_n 0, 1) := by decide +kernel
theorem d_D_readSigned_1 : decode b_D_readSigned 1 = .ok (.iload_n 1, 1) := by decide +kernel
theorem d_D_readSigned_2 : decode b_D_readSigned 2 = .ok (.invokevirtual 28, 3) := by decide +kernel
theorem d_D_readSigned_5 : decode b_D_readSigned 5 = .ok (.invokestatic 108, 3) := by decide +kernel
theorem d_D_readSigned_8 : decode b_D_readSigned 8 = .ok (.lstore_n 2, 1) := by decide +kernel
theorem d_D_readSigned_9 : decode b_D_readSigned 9 = .ok (.lload_n 2, 1) := by decide +kernel
theorem d_D_readSigned_10 : decode b_D_readSigned 10 = .ok (.iconst 1, 1) := by decide +kernel
theorem d_D_readSigned_11 : decode b_D_readSigned 11 = .ok (.lushr, 1) := by decide +kernel
theorem d_D_readSigned_12 : decode b_D_readSigned 12 = .ok (.lload_n 2, 1) := by decide +kernel
theorem d_D_readSigned_13 : decode b_D_readSigned 13 = .ok (.lconst 1, 1) := by decide +kernel
theorem d_D_readSigned_14 : decode b_D_readSigned 14 = .ok (.land, 1) := by decide +kernel
theorem d_D_readSigned_15 : decode b_D_readSigned 15 = .ok (.lneg, 1) := by decide +kernel
theorem d_D_readSigned_16 : decode b_D_readSigned 16 = .ok (.lxor, 1) := by decide +kernel
theorem d_D_readSigned_17 : decode b_D_readSigned 17 = .ok (.lreturn, 1) := by decide +kernel
theorem d_D_readLetter_0 : decode b_D_readLetter 0 = .ok (.aload_n 0, 1) := by decide +kernel
theorem d_D_readLetter_1 : decode b_D_readLetter 1 = .ok (.iload_n 1, 1) := by decide +kernel
theorem d_D_readLetter_2 : decode b_D_readLetter 2 = .ok (.invokevirtual 28, 3) := by decide +kernel
theorem d_D_readLetter_5 : decode b_D_readLetter 5 = .ok (.astore_n 2, 1) := by decide +kernel
theorem d_D_readLetter_6 : decode b_D_readLetter 6 = .ok (.aload_n 2, 1) := by decide +kernel
theorem d_D_readLetter_7 : decode b_D_readLetter 7 = .ok (.aload_n 2, 1) := by decide +kernel
theorem d_D_readLetter_8 : decode b_D_readLetter 8 = .ok (.getfield 87, 3) := by decide +kernel
theorem d_D_readLetter_11 : decode b_D_readLetter 11 = .ok (.aload_n 2, 1) := by decide +kernel
theorem d_D_readLetter_12 : decode b_D_readLetter 12 = .ok (.getfield 43, 3) := by decide +kernel
theorem d_D_readLetter_15 : decode b_D_readLetter 15 = .ok (.invokestatic 112, 3) := by decide +kernel
theorem d_D_readLetter_18 : decode b_D_readLetter 18 = .ok (.istore_n 3, 1) := by decide +kernel
theorem d_D_readLetter_19 : decode b_D_readLetter 19 = .ok (.iload_n 3, 1) := by decide +kernel
theorem d_D_readLetter_20 : decode b_D_readLetter 20 = .ok (.iconst (-1), 1) := by decide +kernel
theorem d_D_readLetter_21 : decode b_D_readLetter 21 = .ok (.if_icmp .ne 13, 3) := by decide +kernel
theorem d_D_readLetter_24 : decode b_D_readLetter 24 = .ok (.new 55, 3) := by decide +kernel
theorem d_D_readLetter_27 : decode b_D_readLetter 27 = .ok (.dup, 1) := by decide +kernel
theorem d_D_readLetter_28 : decode b_D_readLetter 28 = .ok (.ldc 115, 2) := by decide +kernel
theorem d_D_readLetter_30 : decode b_D_readLetter 30 = .ok (.invokespecial 59, 3) := by decide +kernel
theorem d_D_readLetter_33 : decode b_D_readLetter 33 = .ok (.athrow, 1) := by decide +kernel
theorem d_D_readLetter_34 : decode b_D_readLetter 34 = .ok (.iload_n 3, 1) := by decide +kernel
theorem d_D_readLetter_35 : decode b_D_readLetter 35 = .ok (.bipush (-2), 2) := by decide +kernel
theorem d_D_readLetter_37 : decode b_D_readLetter 37 = .ok (.if_icmp .ne 13, 3) := by decide +kernel
theorem d_D_readLetter_40 : decode b_D_readLetter 40 = .ok (.new 117, 3) := by decide +kernel
theorem d_D_readLetter_43 : decode b_D_readLetter 43 = .ok (.dup, 1) := by decide +kernel
theorem d_D_readLetter_44 : decode b_D_readLetter 44 = .ok (.ldc 119, 2) := by decide +kernel
theorem d_D_readLetter_46 : decode b_D_readLetter 46 = .ok (.invokespecial 121, 3) := by decide +kernel
theorem d_D_readLetter_49 : decode b_D_readLetter 49 = .ok (.athrow, 1) := by decide +kernel
theorem d_D_readLetter_50 : decode b_D_readLetter 50 = .ok (.aload_n 2, 1) := by decide +kernel
theorem d_D_readLetter_51 : decode b_D_readLetter 51 = .ok (.dup, 1) := by decide +kernel
theorem d_D_readLetter_52 : decode b_D_readLetter 52 = .ok (.getfield 87, 3) := by decide +kernel
theorem d_D_readLetter_55 : decode b_D_readLetter 55 = .ok (.iload_n 3, 1) := by decide +kernel
theorem d_D_readLetter_56 : decode b_D_readLetter 56 = .ok (.invokestatic 51, 3) := by decide +kernel
theorem d_D_readLetter_59 : decode b_D_readLetter 59 = .ok (.iadd, 1) := by decide +kernel
theorem d_D_readLetter_60 : decode b_D_readLetter 60 = .ok (.putfield 87, 3) := by decide +kernel
theorem d_D_readLetter_63 : decode b_D_readLetter 63 = .ok (.iload_n 3, 1) := by decide +kernel
theorem d_D_readLetter_64 : decode b_D_readLetter 64 = .ok (.ireturn, 1) := by decide +kernel
theorem d_D_readBlock_0 : decode b_D_readBlock 0 = .ok (.aload_n 0, 1) := by decide +kernel
theorem d_D_readBlock_1 : decode b_D_readBlock 1 = .ok (.iload_n 1, 1) := by decide +kernel
theorem d_D_readBlock_2 : decode b_D_readBlock 2 = .ok (.invokevirtual 28, 3) := by decide +kernel
theorem d_D_readBlock_5 : decode b_D_readBlock 5 = .ok (.astore_n 3, 1) := by decide +kernel
theorem d_D_readBlock_6 : decode b_D_readBlock 6 = .ok (.aload_n 0, 1) := by decide +kernel
theorem d_D_readBlock_7 : decode b_D_readBlock 7 = .ok (.iload_n 2, 1) := by decide +kernel
theorem d_D_readBlock_8 : decode b_D_readBlock 8 = .ok (.invokevirtual 28, 3) := by decide +kernel
theorem d_D_readBlock_11 : decode b_D_readBlock 11 = .ok (.astore 4, 2) := by decide +kernel
theorem d_D_readBlock_13 : decode b_D_readBlock 13 = .ok (.iload_n 1, 1) := by decide +kernel
theorem d_D_readBlock_14 : decode b_D_readBlock 14 = .ok (.iload_n 2, 1) := by decide +kernel
theorem d_D_readBlock_15 : decode b_D_readBlock 15 = .ok (.invokestatic 122, 3) := by decide +kernel
theorem d_D_readBlock_18 : decode b_D_readBlock 18 = .ok (.aload_n 3, 1) := by decide +kernel
theorem d_D_readBlock_19 : decode b_D_readBlock 19 = .ok (.invokestatic 126, 3) := by decide +kernel
theorem d_D_readBlock_22 : decode b_D_readBlock 22 = .ok (.istore 5, 2) := by decide +kernel
theorem d_D_readBlock_24 : decode b_D_readBlock 24 = .ok (.aload_n 3, 1) := by decide +kernel
theorem d_D_readBlock_25 : decode b_D_readBlock 25 = .ok (.iload 5, 2) := by decide +kernel
theorem d_D_readBlock_27 : decode b_D_readBlock 27 = .ok (.invokestatic 130, 3) := by decide +kernel
theorem d_D_readBlock_30 : decode b_D_readBlock 30 = .ok (.istore 6, 2) := by decide +kernel
theorem d_D_readBlock_32 : decode b_D_readBlock 32 = .ok (.aload_n 3, 1) := by decide +kernel
theorem d_D_readBlock_33 : decode b_D_readBlock 33 = .ok (.iload 5, 2) := by decide +kernel
theorem d_D_readBlock_35 : decode b_D_readBlock 35 = .ok (.iload 6, 2) := by decide +kernel
theorem d_D_readBlock_37 : decode b_D_readBlock 37 = .ok (.iadd, 1) := by decide +kernel
theorem d_D_readBlock_38 : decode b_D_readBlock 38 = .ok (.invokestatic 101, 3) := by decide +kernel
theorem d_D_readBlock_41 : decode b_D_readBlock 41 = .ok (.aload_n 3, 1) := by decide +kernel
theorem d_D_readBlock_42 : decode b_D_readBlock 42 = .ok (.aload_n 3, 1) := by decide +kernel
theorem d_D_readBlock_43 : decode b_D_readBlock 43 = .ok (.getfield 87, 3) := by decide +kernel
theorem d_D_readBlock_46 : decode b_D_readBlock 46 = .ok (.iload 5, 2) := by decide +kernel
theorem d_D_readBlock_48 : decode b_D_readBlock 48 = .ok (.iadd, 1) := by decide +kernel
theorem d_D_readBlock_49 : decode b_D_readBlock 49 = .ok (.iload 6, 2) := by decide +kernel
theorem d_D_readBlock_51 : decode b_D_readBlock 51 = .ok (.aload 4, 2) := by decide +kernel
theorem d_D_readBlock_53 : decode b_D_readBlock 53 = .ok (.invokestatic 134, 3) := by decide +kernel
theorem d_D_readBlock_56 : decode b_D_readBlock 56 = .ok (.iload 6, 2) := by decide +kernel
theorem d_D_readBlock_58 : decode b_D_readBlock 58 = .ok (.ireturn, 1) := by decide +kernel
