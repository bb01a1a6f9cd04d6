/-! decode rows -/
theorem d_L_cell_0 : decode b_L_cell 0 = .ok (.iload_n 1, 1) := by decide +kernel
theorem d_L_cell_1 : decode b_L_cell 1 = .ok (.aload_n 0, 1) := by decide +kernel
theorem d_L_cell_2 : decode b_L_cell 2 = .ok (.arraylength, 1) := by decide +kernel
theorem d_L_cell_3 : decode b_L_cell 3 = .ok (.if_icmp .ge 9, 3) := by decide +kernel
theorem d_L_cell_6 : decode b_L_cell 6 = .ok (.aload_n 0, 1) := by decide +kernel
theorem d_L_cell_7 : decode b_L_cell 7 = .ok (.iload_n 1, 1) := by decide +kernel
theorem d_L_cell_8 : decode b_L_cell 8 = .ok (.iaload, 1) := by decide +kernel
theorem d_L_cell_9 : decode b_L_cell 9 = .ok (.goto 4, 3) := by decide +kernel
theorem d_L_cell_12 : decode b_L_cell 12 = .ok (.iconst 0, 1) := by decide +kernel
theorem d_L_cell_13 : decode b_L_cell 13 = .ok (.ireturn, 1) := by decide +kernel
theorem d_L_fixed_0 : decode b_L_fixed 0 = .ok (.aload 5, 2) := by decide +kernel
theorem d_L_fixed_2 : decode b_L_fixed 2 = .ok (.iconst 0, 1) := by decide +kernel
theorem d_L_fixed_3 : decode b_L_fixed 3 = .ok (.aload_n 0, 1) := by decide +kernel
theorem d_L_fixed_4 : decode b_L_fixed 4 = .ok (.iload_n 1, 1) := by decide +kernel
theorem d_L_fixed_5 : decode b_L_fixed 5 = .ok (.lload_n 2, 1) := by decide +kernel
theorem d_L_fixed_6 : decode b_L_fixed 6 = .ok (.iload 4, 2) := by decide +kernel
theorem d_L_fixed_8 : decode b_L_fixed 8 = .ok (.invokevirtual 7, 3) := by decide +kernel
theorem d_L_fixed_11 : decode b_L_fixed 11 = .ok (.i2l, 1) := by decide +kernel
theorem d_L_fixed_12 : decode b_L_fixed 12 = .ok (.lastore, 1) := by decide +kernel
theorem d_L_fixed_13 : decode b_L_fixed 13 = .ok (.goto 15, 3) := by decide +kernel
theorem d_L_fixed_16 : decode b_L_fixed 16 = .ok (.astore 6, 2) := by decide +kernel
theorem d_L_fixed_18 : decode b_L_fixed 18 = .ok (.iconst 1, 1) := by decide +kernel
theorem d_L_fixed_19 : decode b_L_fixed 19 = .ok (.ireturn, 1) := by decide +kernel
theorem d_L_fixed_20 : decode b_L_fixed 20 = .ok (.astore 6, 2) := by decide +kernel
theorem d_L_fixed_22 : decode b_L_fixed 22 = .ok (.iconst 2, 1) := by decide +kernel
theorem d_L_fixed_23 : decode b_L_fixed 23 = .ok (.ireturn, 1) := by decide +kernel
theorem d_L_fixed_24 : decode b_L_fixed 24 = .ok (.astore 6, 2) := by decide +kernel
theorem d_L_fixed_26 : decode b_L_fixed 26 = .ok (.iconst 3, 1) := by decide +kernel
theorem d_L_fixed_27 : decode b_L_fixed 27 = .ok (.ireturn, 1) := by decide +kernel
theorem d_L_fixed_28 : decode b_L_fixed 28 = .ok (.iconst 0, 1) := by decide +kernel
theorem d_L_fixed_29 : decode b_L_fixed 29 = .ok (.ireturn, 1) := by decide +kernel
theorem d_L_sevens_0 : decode b_L_sevens 0 = .ok (.aload 4, 2) := by decide +kernel
theorem d_L_sevens_2 : decode b_L_sevens 2 = .ok (.iconst 0, 1) := by decide +kernel
theorem d_L_sevens_3 : decode b_L_sevens 3 = .ok (.aload_n 0, 1) := by decide +kernel
theorem d_L_sevens_4 : decode b_L_sevens 4 = .ok (.iload_n 1, 1) := by decide +kernel
theorem d_L_sevens_5 : decode b_L_sevens 5 = .ok (.lload_n 2, 1) := by decide +kernel
theorem d_L_sevens_6 : decode b_L_sevens 6 = .ok (.invokevirtual 19, 3) := by decide +kernel
theorem d_L_sevens_9 : decode b_L_sevens 9 = .ok (.i2l, 1) := by decide +kernel
theorem d_L_sevens_10 : decode b_L_sevens 10 = .ok (.lastore, 1) := by decide +kernel
theorem d_L_sevens_11 : decode b_L_sevens 11 = .ok (.goto 11, 3) := by decide +kernel
theorem d_L_sevens_14 : decode b_L_sevens 14 = .ok (.astore 5, 2) := by decide +kernel
theorem d_L_sevens_16 : decode b_L_sevens 16 = .ok (.iconst 1, 1) := by decide +kernel
theorem d_L_sevens_17 : decode b_L_sevens 17 = .ok (.ireturn, 1) := by decide +kernel
theorem d_L_sevens_18 : decode b_L_sevens 18 = .ok (.astore 5, 2) := by decide +kernel
theorem d_L_sevens_20 : decode b_L_sevens 20 = .ok (.iconst 2, 1) := by decide +kernel
theorem d_L_sevens_21 : decode b_L_sevens 21 = .ok (.ireturn, 1) := by decide +kernel
theorem d_L_sevens_22 : decode b_L_sevens 22 = .ok (.iconst 0, 1) := by decide +kernel
theorem d_L_sevens_23 : decode b_L_sevens 23 = .ok (.ireturn, 1) := by decide +kernel
theorem d_L_signed_0 : decode b_L_signed 0 = .ok (.aload 4, 2) := by decide +kernel
theorem d_L_signed_2 : decode b_L_signed 2 = .ok (.iconst 0, 1) := by decide +kernel
theorem d_L_signed_3 : decode b_L_signed 3 = .ok (.aload_n 0, 1) := by decide +kernel
theorem d_L_signed_4 : decode b_L_signed 4 = .ok (.iload_n 1, 1) := by decide +kernel
theorem d_L_signed_5 : decode b_L_signed 5 = .ok (.lload_n 2, 1) := by decide +kernel
theorem d_L_signed_6 : decode b_L_signed 6 = .ok (.invokevirtual 23, 3) := by decide +kernel
theorem d_L_signed_9 : decode b_L_signed 9 = .ok (.i2l, 1) := by decide +kernel
theorem d_L_signed_10 : decode b_L_signed 10 = .ok (.lastore, 1) := by decide +kernel
theorem d_L_signed_11 : decode b_L_signed 11 = .ok (.goto 11, 3) := by decide +kernel
theorem d_L_signed_14 : decode b_L_signed 14 = .ok (.astore 5, 2) := by decide +kernel
theorem d_L_signed_16 : decode b_L_signed 16 = .ok (.iconst 1, 1) := by decide +kernel
theorem d_L_signed_17 : decode b_L_signed 17 = .ok (.ireturn, 1) := by decide +kernel
theorem d_L_signed_18 : decode b_L_signed 18 = .ok (.astore 5, 2) := by decide +kernel
theorem d_L_signed_20 : decode b_L_signed 20 = .ok (.iconst 2, 1) := by decide +kernel
theorem d_L_signed_21 : decode b_L_signed 21 = .ok (.ireturn, 1) := by decide +kernel
theorem d_L_signed_22 : decode b_L_signed 22 = .ok (.iconst 0, 1) := by decide +kernel
theorem d_L_signed_23 : decode b_L_signed 23 = .ok (.ireturn, 1) := by decide +kernel
theorem d_L_letter_0 : decode b_L_letter 0 = .ok (.aload_n 3, 1) := by decide +kernel
theorem d_L_letter_1 : decode b_L_letter 1 = .ok (.iconst 0, 1) := by decide +kernel
theorem d_L_letter_2 : decode b_L_letter 2 = .ok (.aload_n 0, 1) := by decide +kernel
theorem d_L_letter_3 : decode b_L_letter 3 = .ok (.iload_n 1, 1) := by decide +kernel
theorem d_L_letter_4 : decode b_L_letter 4 = .ok (.iload_n 2, 1) := by decide +kernel
theorem d_L_letter_5 : decode b_L_letter 5 = .ok (.invokevirtual 26, 3) := by decide +kernel
theorem d_L_letter_8 : decode b_L_letter 8 = .ok (.i2l, 1) := by decide +kernel
theorem d_L_letter_9 : decode b_L_letter 9 = .ok (.lastore, 1) := by decide +kernel
theorem d_L_letter_10 : decode b_L_letter 10 = .ok (.goto 15, 3) := by decide +kernel
theorem d_L_letter_13 : decode b_L_letter 13 = .ok (.astore 4, 2) := by decide +kernel
theorem d_L_letter_15 : decode b_L_letter 15 = .ok (.iconst 1, 1) := by decide +kernel
theorem d_L_letter_16 : decode b_L_letter 16 = .ok (.ireturn, 1) := by decide +kernel
theorem d_L_letter_17 : decode b_L_letter 17 = .ok (.astore 4, 2) := by decide +kernel
theorem d_L_letter_19 : decode b_L_letter 19 = .ok (.iconst 2, 1) := by decide +kernel
theorem d_L_letter_20 : decode b_L_letter 20 = .ok (.ireturn, 1) := by decide +kernel
theorem d_L_letter_21 : decode b_L_letter 21 = .ok (.astore 4, 2) := by decide +kernel
theorem d_L_letter_23 : decode b_L_letter 23 = .ok (.iconst 3, 1) := by decide +kernel
theorem d_L_letter_24 : decode b_L_letter 24 = .ok (.ireturn, 1) := by decide +kernel
theorem d_L_letter_25 : decode b_L_letter 25 = .ok (.iconst 0, 1) := by decide +kernel
theorem d_L_letter_26 : decode b_L_letter 26 = .ok (.ireturn, 1) := by decide +kernel
theorem d_L_copy_0 : decode b_L_copy 0 = .ok (.aload 5, 2) := by decide +kernel
theorem d_L_copy_2 : decode b_L_copy 2 = .ok (.iconst 0, 1) := by decide +kernel
theorem d_L_copy_3 : decode b_L_copy 3 = .ok (.aload_n 0, 1) := by decide +kernel
theorem d_L_copy_4 : decode b_L_copy 4 = .ok (.iload_n 1, 1) := by decide +kernel
theorem d_L_copy_5 : decode b_L_copy 5 = .ok (.iload_n 2, 1) := by decide +kernel
theorem d_L_copy_6 : decode b_L_copy 6 = .ok (.iload_n 3, 1) := by decide +kernel
theorem d_L_copy_7 : decode b_L_copy 7 = .ok (.iload 4, 2) := by decide +kernel
theorem d_L_copy_9 : decode b_L_copy 9 = .ok (.invokevirtual 30, 3) := by decide +kernel
theorem d_L_copy_12 : decode b_L_copy 12 = .ok (.i2l, 1) := by decide +kernel
theorem d_L_copy_13 : decode b_L_copy 13 = .ok (.lastore, 1) := by decide +kernel
theorem d_L_copy_14 : decode b_L_copy 14 = .ok (.goto 15, 3) := by decide +kernel
theorem d_L_copy_17 : decode b_L_copy 17 = .ok (.astore 6, 2) := by decide +kernel
theorem d_L_copy_19 : decode b_L_copy 19 = .ok (.iconst 1, 1) := by decide +kernel
theorem d_L_copy_20 : decode b_L_copy 20 = .ok (.ireturn, 1) := by decide +kernel
theorem d_L_copy_21 : decode b_L_copy 21 = .ok (.astore 6, 2) := by decide +kernel
theorem d_L_copy_23 : decode b_L_copy 23 = .ok (.iconst 2, 1) := by decide +kernel
theorem d_L_copy_24 : decode b_L_copy 24 = .ok (.ireturn, 1) := by decide +kernel
theorem d_L_copy_25 : decode b_L_copy 25 = .ok (.astore 6, 2) := by decide +kernel
theorem d_L_copy_27 : decode b_L_copy 27 = .ok (.iconst 3, 1) := by decide +kernel
theorem d_L_copy_28 : decode b_L_copy 28 = .ok (.ireturn, 1) := by decide +kernel
theorem d_L_copy_29 : decode b_L_copy 29 = .ok (.iconst 0, 1) := by decide +kernel
theorem d_L_copy_30 : decode b_L_copy 30 = .ok (.ireturn, 1) := by decide +kernel
theorem d_L_block_0 : decode b_L_block 0 = .ok (.aload_n 3, 1) := by decide +kernel
theorem d_L_block_1 : decode b_L_block 1 = .ok (.iconst 0, 1) := by decide +kernel
theorem d_L_block_2 : decode b_L_block 2 = .ok (.aload_n 0, 1) := by decide +kernel
theorem d_L_block_3 : decode b_L_block 3 = .ok (.iload_n 1, 1) := by decide +kernel
theorem d_L_block_4 : decode b_L_block 4 = .ok (.iload_n 2, 1) := by decide +kernel
theorem d_L_block_5 : decode b_L_block 5 = .ok (.invokevirtual 34, 3) := by decide +kernel
theorem d_L_block_8 : decode b_L_block 8 = .ok (.i2l, 1) := by decide +kernel
theorem d_L_block_9 : decode b_L_block 9 = .ok (.lastore, 1) := by decide +kernel
theorem d_L_block_10 : decode b_L_block 10 = .ok (.goto 11, 3) := by decide +kernel
theorem d_L_block_13 : decode b_L_block 13 = .ok (.astore 4, 2) := by decide +kernel
theorem d_L_block_15 : decode b_L_block 15 = .ok (.iconst 1, 1) := by decide +kernel
theorem d_L_block_16 : decode b_L_block 16 = .ok (.ireturn, 1) := by decide +kernel
theorem d_L_block_17 : decode b_L_block 17 = .ok (.astore 4, 2) := by decide +kernel
theorem d_L_block_19 : decode b_L_block 19 = .ok (.iconst 2, 1) := by decide +kernel
theorem d_L_block_20 : decode b_L_block 20 = .ok (.ireturn, 1) := by decide +kernel
theorem d_L_block_21 : decode b_L_block 21 = .ok (.iconst 0, 1) := by decide +kernel
theorem d_L_block_22 : decode b_L_block 22 = .ok (.ireturn, 1) := by decide +kernel
theorem d_L_frame_0 : decode b_L_frame 0 = .ok (.aload_n 3, 1) := by decide +kernel
theorem d_L_frame_1 : decode b_L_frame 1 = .ok (.iconst 0, 1) := by decide +kernel
theorem d_L_frame_2 : decode b_L_frame 2 = .ok (.aload_n 0, 1) := by decide +kernel
theorem d_L_frame_3 : decode b_L_frame 3 = .ok (.iload_n 1, 1) := by decide +kernel
theorem d_L_frame_4 : decode b_L_frame 4 = .ok (.iload_n 2, 1) := by decide +kernel
theorem d_L_frame_5 : decode b_L_frame 5 = .ok (.invokevirtual 37, 3) := by decide +kernel
theorem d_L_frame_8 : decode b_L_frame 8 = .ok (.i2l, 1) := by decide +kernel
theorem d_L_frame_9 : decode b_L_frame 9 = .ok (.lastore, 1) := by decide +kernel
theorem d_L_frame_10 : decode b_L_frame 10 = .ok (.goto 11, 3) := by decide +kernel
theorem d_L_frame_13 : decode b_L_frame 13 = .ok (.astore 4, 2) := by decide +kernel
theorem d_L_frame_15 : decode b_L_frame 15 = .ok (.iconst 1, 1) := by decide +kernel
theorem d_L_frame_16 : decode b_L_frame 16 = .ok (.ireturn, 1) := by decide +kernel
theorem d_L_frame_17 : decode b_L_frame 17 = .ok (.astore 4, 2) := by decide +kernel
theorem d_L_frame_19 : decode b_L_frame 19 = .ok (.iconst 2, 1) := by decide +kernel
theorem d_L_frame_20 : decode b_L_frame 20 = .ok (.ireturn, 1) := by decide +kernel
theorem d_L_frame_21 : decode b_L_frame 21 = .ok (.iconst 0, 1) := by decide +kernel
theorem d_L_frame_22 : decode b_L_frame 22 = .ok (.ireturn, 1) := by decide +kernel
theorem d_L_cut_0 : decode b_L_cut 0 = .ok (.aload_n 3, 1) := by decide +kernel
theorem d_L_cut_1 : decode b_L_cut 1 = .ok (.iconst 0, 1) := by decide +kernel
theorem d_L_cut_2 : decode b_L_cut 2 = .ok (.aload_n 0, 1) := by decide +kernel
theorem d_L_cut_3 : decode b_L_cut 3 = .ok (.iload_n 1, 1) := by decide +kernel
theorem d_L_cut_4 : decode b_L_cut 4 = .ok (.iload_n 2, 1) := by decide +kernel
theorem d_L_cut_5 : decode b_L_cut 5 = .ok (.invokevirtual 40, 3) := by decide +kernel
theorem d_L_cut_8 : decode b_L_cut 8 = .ok (.i2l, 1) := by decide +kernel
theorem d_L_cut_9 : decode b_L_cut 9 = .ok (.lastore, 1) := by decide +kernel
theorem d_L_cut_10 : decode b_L_cut 10 = .ok (.goto 11, 3) := by decide +kernel
theorem d_L_cut_13 : decode b_L_cut 13 = .ok (.astore 4, 2) := by decide +kernel
theorem d_L_cut_15 : decode b_L_cut 15 = .ok (.iconst 1, 1) := by decide +kernel
theorem d_L_cut_16 : decode b_L_cut 16 = .ok (.ireturn, 1) := by decide +kernel
theorem d_L_cut_17 : decode b_L_cut 17 = .ok (.astore 4, 2) := by decide +kernel
theorem d_L_cut_19 : decode b_L_cut 19 = .ok (.iconst 2, 1) := by decide +kernel
theorem d_L_cut_20 : decode b_L_cut 20 = .ok (.ireturn, 1) := by decide +kernel
theorem d_L_cut_21 : decode b_L_cut 21 = .ok (.iconst 0, 1) := by decide +kernel
theorem d_L_cut_22 : decode b_L_cut 22 = .ok (.ireturn, 1) := by decide +kernel
theorem d_L_turn_0 : decode b_L_turn 0 = .ok (.aload_n 3, 1) := by decide +kernel
theorem d_L_turn_1 : decode b_L_turn 1 = .ok (.iconst 0, 1) := by decide +kernel
theorem d_L_turn_2 : decode b_L_turn 2 = .ok (.aload_n 0, 1) := by decide +kernel
theorem d_L_turn_3 : decode b_L_turn 3 = .ok (.iload_n 1, 1) := by decide +kernel
theorem d_L_turn_4 : decode b_L_turn 4 = .ok (.iload_n 2, 1) := by decide +kernel
theorem d_L_turn_5 : decode b_L_turn 5 = .ok (.invokevirtual 43, 3) := by decide +kernel
theorem d_L_turn_8 : decode b_L_turn 8 = .ok (.i2l, 1) := by decide +kernel
theorem d_L_turn_9 : decode b_L_turn 9 = .ok (.lastore, 1) := by decide +kernel
theorem d_L_turn_10 : decode b_L_turn 10 = .ok (.goto 11, 3) := by decide +kernel
theorem d_L_turn_13 : decode b_L_turn 13 = .ok (.astore 4, 2) := by decide +kernel
theorem d_L_turn_15 : decode b_L_turn 15 = .ok (.iconst 1, 1) := by decide +kernel
theorem d_L_turn_16 : decode b_L_turn 16 = .ok (.ireturn, 1) := by decide +kernel
theorem d_L_turn_17 : decode b_L_turn 17 = .ok (.astore 4, 2) := by decide +kernel
theorem d_L_turn_19 : decode b_L_turn 19 = .ok (.iconst 2, 1) := by decide +kernel
theorem d_L_turn_20 : decode b_L_turn 20 = .ok (.ireturn, 1) := by decide +kernel
theorem d_L_turn_21 : decode b_L_turn 21 = .ok (.iconst 0, 1) := by decide +kernel
theorem d_L_turn_22 : decode b_L_turn 22 = .ok (.ireturn, 1) := by decide +kernel
theorem d_L_place_0 : decode b_L_place 0 = .ok (.aload_n 3, 1) := by decide +kernel
theorem d_L_place_1 : decode b_L_place 1 = .ok (.iconst 0, 1) := by decide +kernel
theorem d_L_place_2 : decode b_L_place 2 = .ok (.aload_n 0, 1) := by decide +kernel
theorem d_L_place_3 : decode b_L_place 3 = .ok (.iload_n 1, 1) := by decide +kernel
theorem d_L_place_4 : decode b_L_place 4 = .ok (.iload_n 2, 1) := by decide +kernel
theorem d_L_place_5 : decode b_L_place 5 = .ok (.invokevirtual 46, 3) := by decide +kernel
theorem d_L_place_8 : decode b_L_place 8 = .ok (.i2l, 1) := by decide +kernel
theorem d_L_place_9 : decode b_L_place 9 = .ok (.lastore, 1) := by decide +kernel
theorem d_L_place_10 : decode b_L_place 10 = .ok (.goto 11, 3) := by decide +kernel
theorem d_L_place_13 : decode b_L_place 13 = .ok (.astore 4, 2) := by decide +kernel
theorem d_L_place_15 : decode b_L_place 15 = .ok (.iconst 1, 1) := by decide +kernel
theorem d_L_place_16 : decode b_L_place 16 = .ok (.ireturn, 1) := by decide +kernel
theorem d_L_place_17 : decode b_L_place 17 = .ok (.astore 4, 2) := by decide +kernel
theorem d_L_place_19 : decode b_L_place 19 = .ok (.iconst 2, 1) := by decide +kernel
theorem d_L_place_20 : decode b_L_place 20 = .ok (.ireturn, 1) := by decide +kernel
theorem d_L_place_21 : decode b_L_place 21 = .ok (.iconst 0, 1) := by decide +kernel
theorem d_L_place_22 : decode b_L_place 22 = .ok (.ireturn, 1) := by decide +kernel
theorem d_L_readFixed_0 : decode b_L_readFixed 0 = .ok (.aload_n 3, 1) := by decide +kernel
theorem d_L_readFixed_1 : decode b_L_readFixed 1 = .ok (.iconst 0, 1) := by decide +kernel
theorem d_L_readFixed_2 : decode b_L_readFixed 2 = .ok (.aload_n 0, 1) := by decide +kernel
theorem d_L_readFixed_3 : decode b_L_readFixed 3 = .ok (.iload_n 1, 1) := by decide +kernel
theorem d_L_readFixed_4 : decode b_L_readFixed 4 = .ok (.iload_n 2, 1) := by decide +kernel
theorem d_L_readFixed_5 : decode b_L_readFixed 5 = .ok (.invokevirtual 49, 3) := by decide +kernel
theorem d_L_readFixed_8 : decode b_L_readFixed 8 = .ok (.lastore, 1) := by decide +kernel
theorem d_L_readFixed_9 : decode b_L_readFixed 9 = .ok (.goto 15, 3) := by decide +kernel
theorem d_L_readFixed_12 : decode b_L_readFixed 12 = .ok (.astore 4, 2) := by decide +kernel
theorem d_L_readFixed_14 : decode b_L_readFixed 14 = .ok (.iconst 1, 1) := by decide +kernel
theorem d_L_readFixed_15 : decode b_L_readFixed 15 = .ok (.ireturn, 1) := by decide +kernel
theorem d_L_readFixed_16 : decode b_L_readFixed 16 = .ok (.astore 4, 2) := by decide +kernel
theorem d_L_readFixed_18 : decode b_L_readFixed 18 = .ok (.iconst 2, 1) := by decide +kernel
theorem d_L_readFixed_19 : decode b_L_readFixed 19 = .ok (.ireturn, 1) := by decide +kernel
theorem d_L_readFixed_20 : decode b_L_readFixed 20 = .ok (.astore 4, 2) := by decide +kernel
theorem d_L_readFixed_22 : decode b_L_readFixed 22 = .ok (.iconst 3, 1) := by decide +kernel
theorem d_L_readFixed_23 : decode b_L_readFixed 23 = .ok (.ireturn, 1) := by decide +kernel
theorem d_L_readFixed_24 : decode b_L_readFixed 24 = .ok (.iconst 0, 1) := by decide +kernel
theorem d_L_readFixed_25 : decode b_L_readFixed 25 = .ok (.ireturn, 1) := by decide +kernel
theorem d_L_readSevens_0 : decode b_L_readSevens 0 = .ok (.aload_n 2, 1) := by decide +kernel
theorem d_L_readSevens_1 : decode b_L_readSevens 1 = .ok (.iconst 0, 1) := by decide +kernel
theorem d_L_readSevens_2 : decode b_L_readSevens 2 = .ok (.aload_n 0, 1) := by decide +kernel
theorem d_L_readSevens_3 : decode b_L_readSevens 3 = .ok (.iload_n 1, 1) := by decide +kernel
theorem d_L_readSevens_4 : decode b_L_readSevens 4 = .ok (.invokevirtual 55, 3) := by decide +kernel
theorem d_L_readSevens_7 : decode b_L_readSevens 7 = .ok (.lastore, 1) := by decide +kernel
theorem d_L_readSevens_8 : decode b_L_readSevens 8 = .ok (.goto 12, 3) := by decide +kernel
theorem d_L_readSevens_11 : decode b_L_readSevens 11 = .ok (.astore_n 3, 1) := by decide +kernel
theorem d_L_readSevens_12 : decode b_L_readSevens 12 = .ok (.iconst 1, 1) := by decide +kernel
theorem d_L_readSevens_13 : decode b_L_readSevens 13 = .ok (.ireturn, 1) := by decide +kernel
theorem d_L_readSevens_14 : decode b_L_readSevens 14 = .ok (.astore_n 3, 1) := by decide +kernel
theorem d_L_readSevens_15 : decode b_L_readSevens 15 = .ok (.iconst 2, 1) := by decide +kernel
theorem d_L_readSevens_16 : decode b_L_readSevens 16 = .ok (.ireturn, 1) := by decide +kernel
theorem d_L_readSevens_17 : decode b_L_readSevens 17 = .ok (.astore_n 3, 1) := by decide +kernel
theorem d_L_readSevens_18 : decode b_L_readSevens 18 = .ok (.iconst 3, 1) := by decide +kernel
theorem d_L_readSevens_19 : decode b_L_readSevens 19 = .ok (.ireturn, 1) := by decide +kernel
theorem d_L_readSevens_20 : decode b_L_readSevens 20 = .ok (.iconst 0, 1) := by decide +kernel
theorem d_L_readSevens_21 : decode b_L_readSevens 21 = .ok (.ireturn, 1) := by decide +kernel
theorem d_L_readSigned_0 : decode b_L_readSigned 0 = .ok (.aload_n 2, 1) := by decide +kernel
theorem d_L_readSigned_1 : decode b_L_readSigned 1 = .ok (.iconst 0, 1) := by decide +kernel
theorem d_L_readSigned_2 : decode b_L_readSigned 2 = .ok (.aload_n 0, 1) := by decide +kernel
theorem d_L_readSigned_3 : decode b_L_readSigned 3 = .ok (.iload_n 1, 1) := by decide +kernel
theorem d_L_readSigned_4 : decode b_L_readSigned 4 = .ok (.invokevirtual 59, 3) := by decide +kernel
theorem d_L_readSigned_7 : decode b_L_readSigned 7 = .ok (.lastore, 1) := by decide +kernel
theorem d_L_readSigned_8 : decode b_L_readSigned 8 = .ok (.goto 12, 3) := by decide +kernel
theorem d_L_readSigned_11 : decode b_L_readSigned 11 = .ok (.astore_n 3, 1) := by decide +kernel
theorem d_L_readSigned_12 : decode b_L_readSigned 12 = .ok (.iconst 1, 1) := by decide +kernel
theorem d_L_readSigned_13 : decode b_L_readSigned 13 = .ok (.ireturn, 1) := by decide +kernel
theorem d_L_readSigned_14 : decode b_L_readSigned 14 = .ok (.astore_n 3, 1) := by decide +kernel
theorem d_L_readSigned_15 : decode b_L_readSigned 15 = .ok (.iconst 2, 1) := by decide +kernel
theorem d_L_readSigned_16 : decode b_L_readSigned 16 = .ok (.ireturn, 1) := by decide +kernel
theorem d_L_readSigned_17 : decode b_L_readSigned 17 = .ok (.astore_n 3, 1) := by decide +kernel
theorem d_L_readSigned_18 : decode b_L_readSigned 18 = .ok (.iconst 3, 1) := by decide +kernel
theorem d_L_readSigned_19 : decode b_L_readSigned 19 = .ok (.ireturn, 1) := by decide +kernel
theorem d_L_readSigned_20 : decode b_L_readSigned 20 = .ok (.iconst 0, 1) := by decide +kernel
theorem d_L_readSigned_21 : decode b_L_readSigned 21 = .ok (.ireturn, 1) := by decide +kernel
theorem d_L_readLetter_0 : decode b_L_readLetter 0 = .ok (.aload_n 2, 1) := by decide +kernel
theorem d_L_readLetter_1 : decode b_L_readLetter 1 = .ok (.iconst 0, 1) := by decide +kernel
theorem d_L_readLetter_2 : decode b_L_readLetter 2 = .ok (.aload_n 0, 1) := by decide +kernel
theorem d_L_readLetter_3 : decode b_L_readLetter 3 = .ok (.iload_n 1, 1) := by decide +kernel
theorem d_L_readLetter_4 : decode b_L_readLetter 4 = .ok (.invokevirtual 62, 3) := by decide +kernel
theorem d_L_readLetter_7 : decode b_L_readLetter 7 = .ok (.i2l, 1) := by decide +kernel
theorem d_L_readLetter_8 : decode b_L_readLetter 8 = .ok (.lastore, 1) := by decide +kernel
theorem d_L_readLetter_9 : decode b_L_readLetter 9 = .ok (.goto 12, 3) := by decide +kernel
theorem d_L_readLetter_12 : decode b_L_readLetter 12 = .ok (.astore_n 3, 1) := by decide +kernel
theorem d_L_readLetter_13 : decode b_L_readLetter 13 = .ok (.iconst 1, 1) := by decide +kernel
theorem d_L_readLetter_14 : decode b_L_readLetter 14 = .ok (.ireturn, 1) := by decide +kernel
theorem d_L_readLetter_15 : decode b_L_readLetter 15 = .ok (.astore_n 3, 1) := by decide +kernel
theorem d_L_readLetter_16 : decode b_L_readLetter 16 = .ok (.iconst 2, 1) := by decide +kernel
theorem d_L_readLetter_17 : decode b_L_readLetter 17 = .ok (.ireturn, 1) := by decide +kernel
theorem d_L_readLetter_18 : decode b_L_readLetter 18 = .ok (.astore_n 3, 1) := by decide +kernel
theorem d_L_readLetter_19 : decode b_L_readLetter 19 = .ok (.iconst 3, 1) := by decide +kernel
theorem d_L_readLetter_20 : decode b_L_readLetter 20 = .ok (.ireturn, 1) := by decide +kernel
theorem d_L_readLetter_21 : decode b_L_readLetter 21 = .ok (.iconst 0, 1) := by decide +kernel
theorem d_L_readLetter_22 : decode b_L_readLetter 22 = .ok (.ireturn, 1) := by decide +kernel
theorem d_L_readBlock_0 : decode b_L_readBlock 0 = .ok (.aload_n 3, 1) := by decide +kernel
theorem d_L_readBlock_1 : decode b_L_readBlock 1 = .ok (.iconst 0, 1) := by decide +kernel
theorem d_L_readBlock_2 : decode b_L_readBlock 2 = .ok (.aload_n 0, 1) := by decide +kernel
theorem d_L_readBlock_3 : decode b_L_readBlock 3 = .ok (.iload_n 1, 1) := by decide +kernel
theorem d_L_readBlock_4 : decode b_L_readBlock 4 = .ok (.iload_n 2, 1) := by decide +kernel
theorem d_L_readBlock_5 : decode b_L_readBlock 5 = .ok (.invokevirtual 66, 3) := by decide +kernel
theorem d_L_readBlock_8 : decode b_L_readBlock 8 = .ok (.i2l, 1) := by decide +kernel
theorem d_L_readBlock_9 : decode b_L_readBlock 9 = .ok (.lastore, 1) := by decide +kernel
theorem d_L_readBlock_10 : decode b_L_readBlock 10 = .ok (.goto 15, 3) := by decide +kernel
theorem d_L_readBlock_13 : decode b_L_readBlock 13 = .ok (.astore 4, 2) := by decide +kernel
theorem d_L_readBlock_15 : decode b_L_readBlock 15 = .ok (.iconst 1, 1) := by decide +kernel
theorem d_L_readBlock_16 : decode b_L_readBlock 16 = .ok (.ireturn, 1) := by decide +kernel
theorem d_L_readBlock_17 : decode b_L_readBlock 17 = .ok (.astore 4, 2) := by decide +kernel
theorem d_L_readBlock_19 : decode b_L_readBlock 19 = .ok (.iconst 2, 1) := by decide +kernel
theorem d_L_readBlock_20 : decode b_L_readBlock 20 = .ok (.ireturn, 1) := by decide +kernel
theorem d_L_readBlock_21 : decode b_L_readBlock 21 = .ok (.astore 4, 2) := by decide +kernel
theorem d_L_readBlock_23 : decode b_L_readBlock 23 = .ok (.iconst 3, 1) := by decide +kernel
theorem d_L_readBlock_24 : decode b_L_readBlock 24 = .ok (.ireturn, 1) := by decide +kernel
theorem d_L_readBlock_25 : decode b_L_readBlock 25 = .ok (.iconst 0, 1) := by decide +kernel
theorem d_L_readBlock_26 : decode b_L_readBlock 26 = .ok (.ireturn, 1) := by decide +kernel
theorem d_L_readFrame_0 : decode b_L_readFrame 0 = .ok (.aload_n 3, 1) := by decide +kernel
theorem d_L_readFrame_1 : decode b_L_readFrame 1 = .ok (.iconst 0, 1) := by decide +kernel
theorem d_L_readFrame_2 : decode b_L_readFrame 2 = .ok (.aload_n 0, 1) := by decide +kernel
theorem d_L_readFrame_3 : decode b_L_readFrame 3 = .ok (.iload_n 1, 1) := by decide +kernel
theorem d_L_readFrame_4 : decode b_L_readFrame 4 = .ok (.iload_n 2, 1) := by decide +kernel
theorem d_L_readFrame_5 : decode b_L_readFrame 5 = .ok (.invokevirtual 69, 3) := by decide +kernel
theorem d_L_readFrame_8 : decode b_L_readFrame 8 = .ok (.i2l, 1) := by decide +kernel
theorem d_L_readFrame_9 : decode b_L_readFrame 9 = .ok (.lastore, 1) := by decide +kernel
theorem d_L_readFrame_10 : decode b_L_readFrame 10 = .ok (.goto 19, 3) := by decide +kernel
theorem d_L_readFrame_13 : decode b_L_readFrame 13 = .ok (.astore 4, 2) := by decide +kernel
theorem d_L_readFrame_15 : decode b_L_readFrame 15 = .ok (.iconst 1, 1) := by decide +kernel
theorem d_L_readFrame_16 : decode b_L_readFrame 16 = .ok (.ireturn, 1) := by decide +kernel
theorem d_L_readFrame_17 : decode b_L_readFrame 17 = .ok (.astore 4, 2) := by decide +kernel
theorem d_L_readFrame_19 : decode b_L_readFrame 19 = .ok (.iconst 2, 1) := by decide +kernel
theorem d_L_readFrame_20 : decode b_L_readFrame 20 = .ok (.ireturn, 1) := by decide +kernel
theorem d_L_readFrame_21 : decode b_L_readFrame 21 = .ok (.astore 4, 2) := by decide +kernel
theorem d_L_readFrame_23 : decode b_L_readFrame 23 = .ok (.iconst 3, 1) := by decide +kernel
theorem d_L_readFrame_24 : decode b_L_readFrame 24 = .ok (.ireturn, 1) := by decide +kernel
theorem d_L_readFrame_25 : decode b_L_readFrame 25 = .ok (.astore 4, 2) := by decide +kernel
theorem d_L_readFrame_27 : decode b_L_readFrame 27 = .ok (.iconst 4, 1) := by decide +kernel
theorem d_L_readFrame_28 : decode b_L_readFrame 28 = .ok (.ireturn, 1) := by decide +kernel
theorem d_L_readFrame_29 : decode b_L_readFrame 29 = .ok (.iconst 0, 1) := by decide +kernel
theorem d_L_readFrame_30 : decode b_L_readFrame 30 = .ok (.ireturn, 1) := by decide +kernel
theorem d_L_letters_0 : decode b_L_letters 0 = .ok (.aload 4, 2) := by decide +kernel
theorem d_L_letters_2 : decode b_L_letters 2 = .ok (.iconst 0, 1) := by decide +kernel
theorem d_L_letters_3 : decode b_L_letters 3 = .ok (.aload_n 0, 1) := by decide +kernel
theorem d_L_letters_4 : decode b_L_letters 4 = .ok (.iload_n 1, 1) := by decide +kernel
theorem d_L_letters_5 : decode b_L_letters 5 = .ok (.iload_n 2, 1) := by decide +kernel
theorem d_L_letters_6 : decode b_L_letters 6 = .ok (.iload_n 3, 1) := by decide +kernel
theorem d_L_letters_7 : decode b_L_letters 7 = .ok (.invokevirtual 74, 3) := by decide +kernel
theorem d_L_letters_10 : decode b_L_letters 10 = .ok (.i2l, 1) := by decide +kernel
theorem d_L_letters_11 : decode b_L_letters 11 = .ok (.lastore, 1) := by decide +kernel
theorem d_L_letters_12 : decode b_L_letters 12 = .ok (.goto 11, 3) := by decide +kernel
theorem d_L_letters_15 : decode b_L_letters 15 = .ok (.astore 5, 2) := by decide +kernel
theorem d_L_letters_17 : decode b_L_letters 17 = .ok (.iconst 1, 1) := by decide +kernel
theorem d_L_letters_18 : decode b_L_letters 18 = .ok (.ireturn, 1) := by decide +kernel
theorem d_L_letters_19 : decode b_L_letters 19 = .ok (.astore 5, 2) := by decide +kernel
theorem d_L_letters_21 : decode b_L_letters 21 = .ok (.iconst 2, 1) := by decide +kernel
theorem d_L_letters_22 : decode b_L_letters 22 = .ok (.ireturn, 1) := by decide +kernel
theorem d_L_letters_23 : decode b_L_letters 23 = .ok (.iconst 0, 1) := by decide +kernel
theorem d_L_letters_24 : decode b_L_letters 24 = .ok (.ireturn, 1) := by decide +kernel
theorem d_L_sum_0 : decode b_L_sum 0 = .ok (.aload 4, 2) := by decide +kernel
theorem d_L_sum_2 : decode b_L_sum 2 = .ok (.iconst 0, 1) := by decide +kernel
theorem d_L_sum_3 : decode b_L_sum 3 = .ok (.aload_n 0, 1) := by decide +kernel
theorem d_L_sum_4 : decode b_L_sum 4 = .ok (.iload_n 1, 1) := by decide +kernel
theorem d_L_sum_5 : decode b_L_sum 5 = .ok (.iload_n 2, 1) := by decide +kernel
theorem d_L_sum_6 : decode b_L_sum 6 = .ok (.iload_n 3, 1) := by decide +kernel
theorem d_L_sum_7 : decode b_L_sum 7 = .ok (.invokevirtual 78, 3) := by decide +kernel
theorem d_L_sum_10 : decode b_L_sum 10 = .ok (.i2l, 1) := by decide +kernel
theorem d_L_sum_11 : decode b_L_sum 11 = .ok (.lastore, 1) := by decide +kernel
theorem d_L_sum_12 : decode b_L_sum 12 = .ok (.goto 11, 3) := by decide +kernel
theorem d_L_sum_15 : decode b_L_sum 15 = .ok (.astore 5, 2) := by decide +kernel
theorem d_L_sum_17 : decode b_L_sum 17 = .ok (.iconst 1, 1) := by decide +kernel
theorem d_L_sum_18 : decode b_L_sum 18 = .ok (.ireturn, 1) := by decide +kernel
theorem d_L_sum_19 : decode b_L_sum 19 = .ok (.astore 5, 2) := by decide +kernel
theorem d_L_sum_21 : decode b_L_sum 21 = .ok (.iconst 2, 1) := by decide +kernel
theorem d_L_sum_22 : decode b_L_sum 22 = .ok (.ireturn, 1) := by decide +kernel
theorem d_L_sum_23 : decode b_L_sum 23 = .ok (.iconst 0, 1) := by decide +kernel
theorem d_L_sum_24 : decode b_L_sum 24 = .ok (.ireturn, 1) := by decide +kernel
theorem d_L_same_0 : decode b_L_same 0 = .ok (.aload_n 3, 1) := by decide +kernel
theorem d_L_same_1 : decode b_L_same 1 = .ok (.iconst 0, 1) := by decide +kernel
theorem d_L_same_2 : decode b_L_same 2 = .ok (.aload_n 0, 1) := by decide +kernel
theorem d_L_same_3 : decode b_L_same 3 = .ok (.iload_n 1, 1) := by decide +kernel
theorem d_L_same_4 : decode b_L_same 4 = .ok (.iload_n 2, 1) := by decide +kernel
theorem d_L_same_5 : decode b_L_same 5 = .ok (.invokevirtual 81, 3) := by decide +kernel
theorem d_L_same_8 : decode b_L_same 8 = .ok (.ifCond .eq 7, 3) := by decide +kernel
theorem d_L_same_11 : decode b_L_same 11 = .ok (.lconst 1, 1) := by decide +kernel
theorem d_L_same_12 : decode b_L_same 12 = .ok (.goto 4, 3) := by decide +kernel
theorem d_L_same_15 : decode b_L_same 15 = .ok (.lconst 0, 1) := by decide +kernel
theorem d_L_same_16 : decode b_L_same 16 = .ok (.lastore, 1) := by decide +kernel
theorem d_L_same_17 : decode b_L_same 17 = .ok (.goto 7, 3) := by decide +kernel
theorem d_L_same_20 : decode b_L_same 20 = .ok (.astore 4, 2) := by decide +kernel
theorem d_L_same_22 : decode b_L_same 22 = .ok (.iconst 1, 1) := by decide +kernel
theorem d_L_same_23 : decode b_L_same 23 = .ok (.ireturn, 1) := by decide +kernel
theorem d_L_same_24 : decode b_L_same 24 = .ok (.iconst 0, 1) := by decide +kernel
theorem d_L_same_25 : decode b_L_same 25 = .ok (.ireturn, 1) := by decide +kernel
theorem d_L_row_0 : decode b_L_row 0 = .ok (.aload_n 3, 1) := by decide +kernel
theorem d_L_row_1 : decode b_L_row 1 = .ok (.iconst 0, 1) := by decide +kernel
theorem d_L_row_2 : decode b_L_row 2 = .ok (.aload_n 0, 1) := by decide +kernel
theorem d_L_row_3 : decode b_L_row 3 = .ok (.iload_n 1, 1) := by decide +kernel
theorem d_L_row_4 : decode b_L_row 4 = .ok (.iload_n 2, 1) := by decide +kernel
theorem d_L_row_5 : decode b_L_row 5 = .ok (.invokevirtual 85, 3) := by decide +kernel
theorem d_L_row_8 : decode b_L_row 8 = .ok (.i2l, 1) := by decide +kernel
theorem d_L_row_9 : decode b_L_row 9 = .ok (.lastore, 1) := by decide +kernel
theorem d_L_row_10 : decode b_L_row 10 = .ok (.goto 11, 3) := by decide +kernel
theorem d_L_row_13 : decode b_L_row 13 = .ok (.astore 4, 2) := by decide +kernel
theorem d_L_row_15 : decode b_L_row 15 = .ok (.iconst 1, 1) := by decide +kernel
theorem d_L_row_16 : decode b_L_row 16 = .ok (.ireturn, 1) := by decide +kernel
theorem d_L_row_17 : decode b_L_row 17 = .ok (.astore 4, 2) := by decide +kernel
theorem d_L_row_19 : decode b_L_row 19 = .ok (.iconst 2, 1) := by decide +kernel
theorem d_L_row_20 : decode b_L_row 20 = .ok (.ireturn, 1) := by decide +kernel
theorem d_L_row_21 : decode b_L_row 21 = .ok (.iconst 0, 1) := by decide +kernel
theorem d_L_row_22 : decode b_L_row 22 = .ok (.ireturn, 1) := by decide +kernel
theorem d_L_byteAt_0 : decode b_L_byteAt 0 = .ok (.aload_n 3, 1) := by decide +kernel
theorem d_L_byteAt_1 : decode b_L_byteAt 1 = .ok (.iconst 0, 1) := by decide +kernel
theorem d_L_byteAt_2 : decode b_L_byteAt 2 = .ok (.aload_n 0, 1) := by decide +kernel
theorem d_L_byteAt_3 : decode b_L_byteAt 3 = .ok (.iload_n 1, 1) := by decide +kernel
theorem d_L_byteAt_4 : decode b_L_byteAt 4 = .ok (.iload_n 2, 1) := by decide +kernel
theorem d_L_byteAt_5 : decode b_L_byteAt 5 = .ok (.invokevirtual 88, 3) := by decide +kernel
theorem d_L_byteAt_8 : decode b_L_byteAt 8 = .ok (.i2l, 1) := by decide +kernel
theorem d_L_byteAt_9 : decode b_L_byteAt 9 = .ok (.lastore, 1) := by decide +kernel
theorem d_L_byteAt_10 : decode b_L_byteAt 10 = .ok (.goto 11, 3) := by decide +kernel
theorem d_L_byteAt_13 : decode b_L_byteAt 13 = .ok (.astore 4, 2) := by decide +kernel
theorem d_L_byteAt_15 : decode b_L_byteAt 15 = .ok (.iconst 1, 1) := by decide +kernel
theorem d_L_byteAt_16 : decode b_L_byteAt 16 = .ok (.ireturn, 1) := by decide +kernel
theorem d_L_byteAt_17 : decode b_L_byteAt 17 = .ok (.astore 4, 2) := by decide +kernel
theorem d_L_byteAt_19 : decode b_L_byteAt 19 = .ok (.iconst 2, 1) := by decide +kernel
theorem d_L_byteAt_20 : decode b_L_byteAt 20 = .ok (.ireturn, 1) := by decide +kernel
theorem d_L_byteAt_21 : decode b_L_byteAt 21 = .ok (.iconst 0, 1) := by decide +kernel
theorem d_L_byteAt_22 : decode b_L_byteAt 22 = .ok (.ireturn, 1) := by decide +kernel
