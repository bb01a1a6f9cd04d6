/-! decode rows -/
theorem d_M_init_0 : decode b_M_init 0 = .ok (.aload_n 0, 1) := by decide +kernel
theorem d_M_init_1 : decode b_M_init 1 = .ok (.invokespecial 1, 3) := by decide +kernel
theorem d_M_init_4 : decode b_M_init 4 = .ok (.aload_n 0, 1) := by decide +kernel
theorem d_M_init_5 : decode b_M_init 5 = .ok (.ldc 7, 2) := by decide +kernel
theorem d_M_init_7 : decode b_M_init 7 = .ok (.newarray .long, 2) := by decide +kernel
theorem d_M_init_9 : decode b_M_init 9 = .ok (.putfield 8, 3) := by decide +kernel
theorem d_M_init_12 : decode b_M_init 12 = .ok (.aload_n 0, 1) := by decide +kernel
theorem d_M_init_13 : decode b_M_init 13 = .ok (.iconst 4, 1) := by decide +kernel
theorem d_M_init_14 : decode b_M_init 14 = .ok (.newarray .int, 2) := by decide +kernel
theorem d_M_init_16 : decode b_M_init 16 = .ok (.putfield 14, 3) := by decide +kernel
theorem d_M_init_19 : decode b_M_init 19 = .ok (.aload_n 0, 1) := by decide +kernel
theorem d_M_init_20 : decode b_M_init 20 = .ok (.iconst 4, 1) := by decide +kernel
theorem d_M_init_21 : decode b_M_init 21 = .ok (.newarray .int, 2) := by decide +kernel
theorem d_M_init_23 : decode b_M_init 23 = .ok (.putfield 18, 3) := by decide +kernel
theorem d_M_init_26 : decode b_M_init 26 = .ok (.aload_n 0, 1) := by decide +kernel
theorem d_M_init_27 : decode b_M_init 27 = .ok (.iload_n 1, 1) := by decide +kernel
theorem d_M_init_28 : decode b_M_init 28 = .ok (.bipush 16, 2) := by decide +kernel
theorem d_M_init_30 : decode b_M_init 30 = .ok (.if_icmp .ge 8, 3) := by decide +kernel
theorem d_M_init_33 : decode b_M_init 33 = .ok (.bipush 16, 2) := by decide +kernel
theorem d_M_init_35 : decode b_M_init 35 = .ok (.goto 15, 3) := by decide +kernel
theorem d_M_init_38 : decode b_M_init 38 = .ok (.iload_n 1, 1) := by decide +kernel
theorem d_M_init_39 : decode b_M_init 39 = .ok (.ldc 21, 2) := by decide +kernel
theorem d_M_init_41 : decode b_M_init 41 = .ok (.if_icmp .le 8, 3) := by decide +kernel
theorem d_M_init_44 : decode b_M_init 44 = .ok (.ldc 21, 2) := by decide +kernel
theorem d_M_init_46 : decode b_M_init 46 = .ok (.goto 4, 3) := by decide +kernel
theorem d_M_init_49 : decode b_M_init 49 = .ok (.iload_n 1, 1) := by decide +kernel
theorem d_M_init_50 : decode b_M_init 50 = .ok (.putfield 22, 3) := by decide +kernel
theorem d_M_init_53 : decode b_M_init 53 = .ok (.return_, 1) := by decide +kernel
theorem d_M_thrown_0 : decode b_M_thrown 0 = .ok (.aload_n 0, 1) := by decide +kernel
theorem d_M_thrown_1 : decode b_M_thrown 1 = .ok (.getfield 26, 3) := by decide +kernel
theorem d_M_thrown_4 : decode b_M_thrown 4 = .ok (.ireturn, 1) := by decide +kernel
theorem d_M_fail_0 : decode b_M_fail 0 = .ok (.aload_n 0, 1) := by decide +kernel
theorem d_M_fail_1 : decode b_M_fail 1 = .ok (.iload_n 1, 1) := by decide +kernel
theorem d_M_fail_2 : decode b_M_fail 2 = .ok (.putfield 26, 3) := by decide +kernel
theorem d_M_fail_5 : decode b_M_fail 5 = .ok (.iconst 0, 1) := by decide +kernel
theorem d_M_fail_6 : decode b_M_fail 6 = .ok (.ireturn, 1) := by decide +kernel
theorem d_M_isRow_0 : decode b_M_isRow 0 = .ok (.iload_n 0, 1) := by decide +kernel
theorem d_M_isRow_1 : decode b_M_isRow 1 = .ok (.ifCond .lt 12, 3) := by decide +kernel
theorem d_M_isRow_4 : decode b_M_isRow 4 = .ok (.iload_n 0, 1) := by decide +kernel
theorem d_M_isRow_5 : decode b_M_isRow 5 = .ok (.iconst 4, 1) := by decide +kernel
theorem d_M_isRow_6 : decode b_M_isRow 6 = .ok (.if_icmp .ge 7, 3) := by decide +kernel
theorem d_M_isRow_9 : decode b_M_isRow 9 = .ok (.iconst 1, 1) := by decide +kernel
theorem d_M_isRow_10 : decode b_M_isRow 10 = .ok (.goto 4, 3) := by decide +kernel
theorem d_M_isRow_13 : decode b_M_isRow 13 = .ok (.iconst 0, 1) := by decide +kernel
theorem d_M_isRow_14 : decode b_M_isRow 14 = .ok (.ireturn, 1) := by decide +kernel
theorem d_M_at_0 : decode b_M_at 0 = .ok (.aload_n 0, 1) := by decide +kernel
theorem d_M_at_1 : decode b_M_at 1 = .ok (.getfield 8, 3) := by decide +kernel
theorem d_M_at_4 : decode b_M_at 4 = .ok (.ldc 21, 2) := by decide +kernel
theorem d_M_at_6 : decode b_M_at 6 = .ok (.iload_n 1, 1) := by decide +kernel
theorem d_M_at_7 : decode b_M_at 7 = .ok (.imul, 1) := by decide +kernel
theorem d_M_at_8 : decode b_M_at 8 = .ok (.iload_n 2, 1) := by decide +kernel
theorem d_M_at_9 : decode b_M_at 9 = .ok (.iadd, 1) := by decide +kernel
theorem d_M_at_10 : decode b_M_at 10 = .ok (.bipush 8, 2) := by decide +kernel
theorem d_M_at_12 : decode b_M_at 12 = .ok (.idiv, 1) := by decide +kernel
theorem d_M_at_13 : decode b_M_at 13 = .ok (.laload, 1) := by decide +kernel
theorem d_M_at_14 : decode b_M_at 14 = .ok (.bipush 8, 2) := by decide +kernel
theorem d_M_at_16 : decode b_M_at 16 = .ok (.iload_n 2, 1) := by decide +kernel
theorem d_M_at_17 : decode b_M_at 17 = .ok (.bipush 8, 2) := by decide +kernel
theorem d_M_at_19 : decode b_M_at 19 = .ok (.irem, 1) := by decide +kernel
theorem d_M_at_20 : decode b_M_at 20 = .ok (.imul, 1) := by decide +kernel
theorem d_M_at_21 : decode b_M_at 21 = .ok (.lshr, 1) := by decide +kernel
theorem d_M_at_22 : decode b_M_at 22 = .ok (.ldc2_w 29, 3) := by decide +kernel
theorem d_M_at_25 : decode b_M_at 25 = .ok (.land, 1) := by decide +kernel
theorem d_M_at_26 : decode b_M_at 26 = .ok (.l2i, 1) := by decide +kernel
theorem d_M_at_27 : decode b_M_at 27 = .ok (.ireturn, 1) := by decide +kernel
theorem d_M_set_0 : decode b_M_set 0 = .ok (.ldc 21, 2) := by decide +kernel
theorem d_M_set_2 : decode b_M_set 2 = .ok (.iload_n 1, 1) := by decide +kernel
theorem d_M_set_3 : decode b_M_set 3 = .ok (.imul, 1) := by decide +kernel
theorem d_M_set_4 : decode b_M_set 4 = .ok (.iload_n 2, 1) := by decide +kernel
theorem d_M_set_5 : decode b_M_set 5 = .ok (.iadd, 1) := by decide +kernel
theorem d_M_set_6 : decode b_M_set 6 = .ok (.bipush 8, 2) := by decide +kernel
theorem d_M_set_8 : decode b_M_set 8 = .ok (.idiv, 1) := by decide +kernel
theorem d_M_set_9 : decode b_M_set 9 = .ok (.istore 4, 2) := by decide +kernel
theorem d_M_set_11 : decode b_M_set 11 = .ok (.bipush 8, 2) := by decide +kernel
theorem d_M_set_13 : decode b_M_set 13 = .ok (.iload_n 2, 1) := by decide +kernel
theorem d_M_set_14 : decode b_M_set 14 = .ok (.bipush 8, 2) := by decide +kernel
theorem d_M_set_16 : decode b_M_set 16 = .ok (.irem, 1) := by decide +kernel
theorem d_M_set_17 : decode b_M_set 17 = .ok (.imul, 1) := by decide +kernel
theorem d_M_set_18 : decode b_M_set 18 = .ok (.istore 5, 2) := by decide +kernel
theorem d_M_set_20 : decode b_M_set 20 = .ok (.aload_n 0, 1) := by decide +kernel
theorem d_M_set_21 : decode b_M_set 21 = .ok (.getfield 8, 3) := by decide +kernel
theorem d_M_set_24 : decode b_M_set 24 = .ok (.iload 4, 2) := by decide +kernel
theorem d_M_set_26 : decode b_M_set 26 = .ok (.aload_n 0, 1) := by decide +kernel
theorem d_M_set_27 : decode b_M_set 27 = .ok (.getfield 8, 3) := by decide +kernel
theorem d_M_set_30 : decode b_M_set 30 = .ok (.iload 4, 2) := by decide +kernel
theorem d_M_set_32 : decode b_M_set 32 = .ok (.laload, 1) := by decide +kernel
theorem d_M_set_33 : decode b_M_set 33 = .ok (.ldc2_w 29, 3) := by decide +kernel
theorem d_M_set_36 : decode b_M_set 36 = .ok (.iload 5, 2) := by decide +kernel
theorem d_M_set_38 : decode b_M_set 38 = .ok (.lshl, 1) := by decide +kernel
theorem d_M_set_39 : decode b_M_set 39 = .ok (.ldc2_w 31, 3) := by decide +kernel
theorem d_M_set_42 : decode b_M_set 42 = .ok (.lxor, 1) := by decide +kernel
theorem d_M_set_43 : decode b_M_set 43 = .ok (.land, 1) := by decide +kernel
theorem d_M_set_44 : decode b_M_set 44 = .ok (.iload_n 3, 1) := by decide +kernel
theorem d_M_set_45 : decode b_M_set 45 = .ok (.i2l, 1) := by decide +kernel
theorem d_M_set_46 : decode b_M_set 46 = .ok (.iload 5, 2) := by decide +kernel
theorem d_M_set_48 : decode b_M_set 48 = .ok (.lshl, 1) := by decide +kernel
theorem d_M_set_49 : decode b_M_set 49 = .ok (.lor, 1) := by decide +kernel
theorem d_M_set_50 : decode b_M_set 50 = .ok (.lastore, 1) := by decide +kernel
theorem d_M_set_51 : decode b_M_set 51 = .ok (.return_, 1) := by decide +kernel
theorem d_M_add_0 : decode b_M_add 0 = .ok (.aload_n 0, 1) := by decide +kernel
theorem d_M_add_1 : decode b_M_add 1 = .ok (.iload_n 1, 1) := by decide +kernel
theorem d_M_add_2 : decode b_M_add 2 = .ok (.aload_n 0, 1) := by decide +kernel
theorem d_M_add_3 : decode b_M_add 3 = .ok (.getfield 14, 3) := by decide +kernel
theorem d_M_add_6 : decode b_M_add 6 = .ok (.iload_n 1, 1) := by decide +kernel
theorem d_M_add_7 : decode b_M_add 7 = .ok (.iaload, 1) := by decide +kernel
theorem d_M_add_8 : decode b_M_add 8 = .ok (.iload_n 2, 1) := by decide +kernel
theorem d_M_add_9 : decode b_M_add 9 = .ok (.invokevirtual 33, 3) := by decide +kernel
theorem d_M_add_12 : decode b_M_add 12 = .ok (.aload_n 0, 1) := by decide +kernel
theorem d_M_add_13 : decode b_M_add 13 = .ok (.getfield 14, 3) := by decide +kernel
theorem d_M_add_16 : decode b_M_add 16 = .ok (.iload_n 1, 1) := by decide +kernel
theorem d_M_add_17 : decode b_M_add 17 = .ok (.dup2, 1) := by decide +kernel
theorem d_M_add_18 : decode b_M_add 18 = .ok (.iaload, 1) := by decide +kernel
theorem d_M_add_19 : decode b_M_add 19 = .ok (.iconst 1, 1) := by decide +kernel
theorem d_M_add_20 : decode b_M_add 20 = .ok (.iadd, 1) := by decide +kernel
theorem d_M_add_21 : decode b_M_add 21 = .ok (.iastore, 1) := by decide +kernel
theorem d_M_add_22 : decode b_M_add 22 = .ok (.return_, 1) := by decide +kernel
theorem d_M_fits_0 : decode b_M_fits 0 = .ok (.aload_n 0, 1) := by decide +kernel
theorem d_M_fits_1 : decode b_M_fits 1 = .ok (.getfield 14, 3) := by decide +kernel
theorem d_M_fits_4 : decode b_M_fits 4 = .ok (.iload_n 1, 1) := by decide +kernel
theorem d_M_fits_5 : decode b_M_fits 5 = .ok (.iaload, 1) := by decide +kernel
theorem d_M_fits_6 : decode b_M_fits 6 = .ok (.iload_n 2, 1) := by decide +kernel
theorem d_M_fits_7 : decode b_M_fits 7 = .ok (.iadd, 1) := by decide +kernel
theorem d_M_fits_8 : decode b_M_fits 8 = .ok (.aload_n 0, 1) := by decide +kernel
theorem d_M_fits_9 : decode b_M_fits 9 = .ok (.getfield 22, 3) := by decide +kernel
theorem d_M_fits_12 : decode b_M_fits 12 = .ok (.if_icmp .gt 7, 3) := by decide +kernel
theorem d_M_fits_15 : decode b_M_fits 15 = .ok (.iconst 1, 1) := by decide +kernel
theorem d_M_fits_16 : decode b_M_fits 16 = .ok (.goto 4, 3) := by decide +kernel
theorem d_M_fits_19 : decode b_M_fits 19 = .ok (.iconst 0, 1) := by decide +kernel
theorem d_M_fits_20 : decode b_M_fits 20 = .ok (.ireturn, 1) := by decide +kernel
theorem d_M_groups_0 : decode b_M_groups 0 = .ok (.iconst 1, 1) := by decide +kernel
theorem d_M_groups_1 : decode b_M_groups 1 = .ok (.istore_n 2, 1) := by decide +kernel
theorem d_M_groups_2 : decode b_M_groups 2 = .ok (.lload_n 0, 1) := by decide +kernel
theorem d_M_groups_3 : decode b_M_groups 3 = .ok (.bipush 7, 2) := by decide +kernel
theorem d_M_groups_5 : decode b_M_groups 5 = .ok (.lushr, 1) := by decide +kernel
theorem d_M_groups_6 : decode b_M_groups 6 = .ok (.lstore_n 3, 1) := by decide +kernel
theorem d_M_groups_7 : decode b_M_groups 7 = .ok (.lload_n 3, 1) := by decide +kernel
theorem d_M_groups_8 : decode b_M_groups 8 = .ok (.lconst 0, 1) := by decide +kernel
theorem d_M_groups_9 : decode b_M_groups 9 = .ok (.lcmp, 1) := by decide +kernel
theorem d_M_groups_10 : decode b_M_groups 10 = .ok (.ifCond .eq 14, 3) := by decide +kernel
theorem d_M_groups_13 : decode b_M_groups 13 = .ok (.iinc 2 1, 3) := by decide +kernel
theorem d_M_groups_16 : decode b_M_groups 16 = .ok (.lload_n 3, 1) := by decide +kernel
theorem d_M_groups_17 : decode b_M_groups 17 = .ok (.bipush 7, 2) := by decide +kernel
theorem d_M_groups_19 : decode b_M_groups 19 = .ok (.lushr, 1) := by decide +kernel
theorem d_M_groups_20 : decode b_M_groups 20 = .ok (.lstore_n 3, 1) := by decide +kernel
theorem d_M_groups_21 : decode b_M_groups 21 = .ok (.goto (-14), 3) := by decide +kernel
theorem d_M_groups_24 : decode b_M_groups 24 = .ok (.iload_n 2, 1) := by decide +kernel
theorem d_M_groups_25 : decode b_M_groups 25 = .ok (.ireturn, 1) := by decide +kernel
theorem d_M_addGroups_0 : decode b_M_addGroups 0 = .ok (.lload_n 2, 1) := by decide +kernel
theorem d_M_addGroups_1 : decode b_M_addGroups 1 = .ok (.invokestatic 37, 3) := by decide +kernel
theorem d_M_addGroups_4 : decode b_M_addGroups 4 = .ok (.istore 4, 2) := by decide +kernel
theorem d_M_addGroups_6 : decode b_M_addGroups 6 = .ok (.iconst 0, 1) := by decide +kernel
theorem d_M_addGroups_7 : decode b_M_addGroups 7 = .ok (.istore 5, 2) := by decide +kernel
theorem d_M_addGroups_9 : decode b_M_addGroups 9 = .ok (.iload 5, 2) := by decide +kernel
theorem d_M_addGroups_11 : decode b_M_addGroups 11 = .ok (.iload 4, 2) := by decide +kernel
theorem d_M_addGroups_13 : decode b_M_addGroups 13 = .ok (.if_icmp .ge 48, 3) := by decide +kernel
theorem d_M_addGroups_16 : decode b_M_addGroups 16 = .ok (.lload_n 2, 1) := by decide +kernel
theorem d_M_addGroups_17 : decode b_M_addGroups 17 = .ok (.bipush 7, 2) := by decide +kernel
theorem d_M_addGroups_19 : decode b_M_addGroups 19 = .ok (.iload 5, 2) := by decide +kernel
theorem d_M_addGroups_21 : decode b_M_addGroups 21 = .ok (.imul, 1) := by decide +kernel
theorem d_M_addGroups_22 : decode b_M_addGroups 22 = .ok (.lushr, 1) := by decide +kernel
theorem d_M_addGroups_23 : decode b_M_addGroups 23 = .ok (.ldc2_w 41, 3) := by decide +kernel
theorem d_M_addGroups_26 : decode b_M_addGroups 26 = .ok (.land, 1) := by decide +kernel
theorem d_M_addGroups_27 : decode b_M_addGroups 27 = .ok (.l2i, 1) := by decide +kernel
theorem d_M_addGroups_28 : decode b_M_addGroups 28 = .ok (.istore 6, 2) := by decide +kernel
theorem d_M_addGroups_30 : decode b_M_addGroups 30 = .ok (.aload_n 0, 1) := by decide +kernel
theorem d_M_addGroups_31 : decode b_M_addGroups 31 = .ok (.iload_n 1, 1) := by decide +kernel
theorem d_M_addGroups_32 : decode b_M_addGroups 32 = .ok (.iload 5, 2) := by decide +kernel
theorem d_M_addGroups_34 : decode b_M_addGroups 34 = .ok (.iload 4, 2) := by decide +kernel
theorem d_M_addGroups_36 : decode b_M_addGroups 36 = .ok (.iconst 1, 1) := by decide +kernel
theorem d_M_addGroups_37 : decode b_M_addGroups 37 = .ok (.isub, 1) := by decide +kernel
theorem d_M_addGroups_38 : decode b_M_addGroups 38 = .ok (.if_icmp .ge 12, 3) := by decide +kernel
theorem d_M_addGroups_41 : decode b_M_addGroups 41 = .ok (.sipush 128, 3) := by decide +kernel
theorem d_M_addGroups_44 : decode b_M_addGroups 44 = .ok (.iload 6, 2) := by decide +kernel
theorem d_M_addGroups_46 : decode b_M_addGroups 46 = .ok (.iadd, 1) := by decide +kernel
theorem d_M_addGroups_47 : decode b_M_addGroups 47 = .ok (.goto 5, 3) := by decide +kernel
theorem d_M_addGroups_50 : decode b_M_addGroups 50 = .ok (.iload 6, 2) := by decide +kernel
theorem d_M_addGroups_52 : decode b_M_addGroups 52 = .ok (.invokevirtual 43, 3) := by decide +kernel
theorem d_M_addGroups_55 : decode b_M_addGroups 55 = .ok (.iinc 5 1, 3) := by decide +kernel
theorem d_M_addGroups_58 : decode b_M_addGroups 58 = .ok (.goto (-49), 3) := by decide +kernel
theorem d_M_addGroups_61 : decode b_M_addGroups 61 = .ok (.return_, 1) := by decide +kernel
theorem d_M_folded_0 : decode b_M_folded 0 = .ok (.lload_n 0, 1) := by decide +kernel
theorem d_M_folded_1 : decode b_M_folded 1 = .ok (.iconst 1, 1) := by decide +kernel
theorem d_M_folded_2 : decode b_M_folded 2 = .ok (.lshl, 1) := by decide +kernel
theorem d_M_folded_3 : decode b_M_folded 3 = .ok (.lload_n 0, 1) := by decide +kernel
theorem d_M_folded_4 : decode b_M_folded 4 = .ok (.bipush 63, 2) := by decide +kernel
theorem d_M_folded_6 : decode b_M_folded 6 = .ok (.lshr, 1) := by decide +kernel
theorem d_M_folded_7 : decode b_M_folded 7 = .ok (.lxor, 1) := by decide +kernel
theorem d_M_folded_8 : decode b_M_folded 8 = .ok (.lreturn, 1) := by decide +kernel
theorem d_M_sumOf_0 : decode b_M_sumOf 0 = .ok (.iconst (-1), 1) := by decide +kernel
theorem d_M_sumOf_1 : decode b_M_sumOf 1 = .ok (.istore 4, 2) := by decide +kernel
theorem d_M_sumOf_3 : decode b_M_sumOf 3 = .ok (.iload_n 2, 1) := by decide +kernel
theorem d_M_sumOf_4 : decode b_M_sumOf 4 = .ok (.istore 5, 2) := by decide +kernel
theorem d_M_sumOf_6 : decode b_M_sumOf 6 = .ok (.iload 5, 2) := by decide +kernel
theorem d_M_sumOf_8 : decode b_M_sumOf 8 = .ok (.iload_n 2, 1) := by decide +kernel
theorem d_M_sumOf_9 : decode b_M_sumOf 9 = .ok (.iload_n 3, 1) := by decide +kernel
theorem d_M_sumOf_10 : decode b_M_sumOf 10 = .ok (.iadd, 1) := by decide +kernel
theorem d_M_sumOf_11 : decode b_M_sumOf 11 = .ok (.if_icmp .ge 76, 3) := by decide +kernel
theorem d_M_sumOf_14 : decode b_M_sumOf 14 = .ok (.aload_n 0, 1) := by decide +kernel
theorem d_M_sumOf_15 : decode b_M_sumOf 15 = .ok (.iload_n 1, 1) := by decide +kernel
theorem d_M_sumOf_16 : decode b_M_sumOf 16 = .ok (.iload 5, 2) := by decide +kernel
theorem d_M_sumOf_18 : decode b_M_sumOf 18 = .ok (.invokevirtual 47, 3) := by decide +kernel
theorem d_M_sumOf_21 : decode b_M_sumOf 21 = .ok (.istore 6, 2) := by decide +kernel
theorem d_M_sumOf_23 : decode b_M_sumOf 23 = .ok (.iconst 0, 1) := by decide +kernel
theorem d_M_sumOf_24 : decode b_M_sumOf 24 = .ok (.istore 7, 2) := by decide +kernel
theorem d_M_sumOf_26 : decode b_M_sumOf 26 = .ok (.iload 7, 2) := by decide +kernel
theorem d_M_sumOf_28 : decode b_M_sumOf 28 = .ok (.bipush 8, 2) := by decide +kernel
theorem d_M_sumOf_30 : decode b_M_sumOf 30 = .ok (.if_icmp .ge 51, 3) := by decide +kernel
theorem d_M_sumOf_33 : decode b_M_sumOf 33 = .ok (.iload 4, 2) := by decide +kernel
theorem d_M_sumOf_35 : decode b_M_sumOf 35 = .ok (.iload 6, 2) := by decide +kernel
theorem d_M_sumOf_37 : decode b_M_sumOf 37 = .ok (.iload 7, 2) := by decide +kernel
theorem d_M_sumOf_39 : decode b_M_sumOf 39 = .ok (.ishr, 1) := by decide +kernel
theorem d_M_sumOf_40 : decode b_M_sumOf 40 = .ok (.ixor, 1) := by decide +kernel
theorem d_M_sumOf_41 : decode b_M_sumOf 41 = .ok (.iconst 1, 1) := by decide +kernel
theorem d_M_sumOf_42 : decode b_M_sumOf 42 = .ok (.iand, 1) := by decide +kernel
theorem d_M_sumOf_43 : decode b_M_sumOf 43 = .ok (.iconst 1, 1) := by decide +kernel
theorem d_M_sumOf_44 : decode b_M_sumOf 44 = .ok (.if_icmp .ne 7, 3) := by decide +kernel
theorem d_M_sumOf_47 : decode b_M_sumOf 47 = .ok (.iconst 1, 1) := by decide +kernel
theorem d_M_sumOf_48 : decode b_M_sumOf 48 = .ok (.goto 4, 3) := by decide +kernel
theorem d_M_sumOf_51 : decode b_M_sumOf 51 = .ok (.iconst 0, 1) := by decide +kernel
theorem d_M_sumOf_52 : decode b_M_sumOf 52 = .ok (.istore 8, 2) := by decide +kernel
theorem d_M_sumOf_54 : decode b_M_sumOf 54 = .ok (.iload 8, 2) := by decide +kernel
theorem d_M_sumOf_56 : decode b_M_sumOf 56 = .ok (.ifCond .eq 13, 3) := by decide +kernel
theorem d_M_sumOf_59 : decode b_M_sumOf 59 = .ok (.iload 4, 2) := by decide +kernel
theorem d_M_sumOf_61 : decode b_M_sumOf 61 = .ok (.iconst 1, 1) := by decide +kernel
theorem d_M_sumOf_62 : decode b_M_sumOf 62 = .ok (.iushr, 1) := by decide +kernel
theorem d_M_sumOf_63 : decode b_M_sumOf 63 = .ok (.ldc 51, 2) := by decide +kernel
theorem d_M_sumOf_65 : decode b_M_sumOf 65 = .ok (.ixor, 1) := by decide +kernel
theorem d_M_sumOf_66 : decode b_M_sumOf 66 = .ok (.goto 7, 3) := by decide +kernel
theorem d_M_sumOf_69 : decode b_M_sumOf 69 = .ok (.iload 4, 2) := by decide +kernel
theorem d_M_sumOf_71 : decode b_M_sumOf 71 = .ok (.iconst 1, 1) := by decide +kernel
theorem d_M_sumOf_72 : decode b_M_sumOf 72 = .ok (.iushr, 1) := by decide +kernel
theorem d_M_sumOf_73 : decode b_M_sumOf 73 = .ok (.istore 4, 2) := by decide +kernel
theorem d_M_sumOf_75 : decode b_M_sumOf 75 = .ok (.iinc 7 1, 3) := by decide +kernel
theorem d_M_sumOf_78 : decode b_M_sumOf 78 = .ok (.goto (-52), 3) := by decide +kernel
theorem d_M_sumOf_81 : decode b_M_sumOf 81 = .ok (.iinc 5 1, 3) := by decide +kernel
theorem d_M_sumOf_84 : decode b_M_sumOf 84 = .ok (.goto (-78), 3) := by decide +kernel
theorem d_M_sumOf_87 : decode b_M_sumOf 87 = .ok (.iload 4, 2) := by decide +kernel
theorem d_M_sumOf_89 : decode b_M_sumOf 89 = .ok (.iconst (-1), 1) := by decide +kernel
theorem d_M_sumOf_90 : decode b_M_sumOf 90 = .ok (.ixor, 1) := by decide +kernel
theorem d_M_sumOf_91 : decode b_M_sumOf 91 = .ok (.ireturn, 1) := by decide +kernel
theorem d_M_fixed_0 : decode b_M_fixed 0 = .ok (.aload_n 0, 1) := by decide +kernel
theorem d_M_fixed_1 : decode b_M_fixed 1 = .ok (.iconst 0, 1) := by decide +kernel
theorem d_M_fixed_2 : decode b_M_fixed 2 = .ok (.putfield 26, 3) := by decide +kernel
theorem d_M_fixed_5 : decode b_M_fixed 5 = .ok (.iload_n 1, 1) := by decide +kernel
theorem d_M_fixed_6 : decode b_M_fixed 6 = .ok (.invokestatic 52, 3) := by decide +kernel
theorem d_M_fixed_9 : decode b_M_fixed 9 = .ok (.ifCond .ne 9, 3) := by decide +kernel
theorem d_M_fixed_12 : decode b_M_fixed 12 = .ok (.aload_n 0, 1) := by decide +kernel
theorem d_M_fixed_13 : decode b_M_fixed 13 = .ok (.iconst 1, 1) := by decide +kernel
theorem d_M_fixed_14 : decode b_M_fixed 14 = .ok (.invokevirtual 56, 3) := by decide +kernel
theorem d_M_fixed_17 : decode b_M_fixed 17 = .ok (.ireturn, 1) := by decide +kernel
theorem d_M_fixed_18 : decode b_M_fixed 18 = .ok (.iload 4, 2) := by decide +kernel
theorem d_M_fixed_20 : decode b_M_fixed 20 = .ok (.iconst 1, 1) := by decide +kernel
theorem d_M_fixed_21 : decode b_M_fixed 21 = .ok (.if_icmp .lt 10, 3) := by decide +kernel
theorem d_M_fixed_24 : decode b_M_fixed 24 = .ok (.iload 4, 2) := by decide +kernel
theorem d_M_fixed_26 : decode b_M_fixed 26 = .ok (.bipush 8, 2) := by decide +kernel
theorem d_M_fixed_28 : decode b_M_fixed 28 = .ok (.if_icmp .le 9, 3) := by decide +kernel
theorem d_M_fixed_31 : decode b_M_fixed 31 = .ok (.aload_n 0, 1) := by decide +kernel
theorem d_M_fixed_32 : decode b_M_fixed 32 = .ok (.iconst 2, 1) := by decide +kernel
theorem d_M_fixed_33 : decode b_M_fixed 33 = .ok (.invokevirtual 56, 3) := by decide +kernel
theorem d_M_fixed_36 : decode b_M_fixed 36 = .ok (.ireturn, 1) := by decide +kernel
theorem d_M_fixed_37 : decode b_M_fixed 37 = .ok (.aload_n 0, 1) := by decide +kernel
theorem d_M_fixed_38 : decode b_M_fixed 38 = .ok (.iload_n 1, 1) := by decide +kernel
theorem d_M_fixed_39 : decode b_M_fixed 39 = .ok (.iload 4, 2) := by decide +kernel
theorem d_M_fixed_41 : decode b_M_fixed 41 = .ok (.invokevirtual 60, 3) := by decide +kernel
theorem d_M_fixed_44 : decode b_M_fixed 44 = .ok (.ifCond .ne 9, 3) := by decide +kernel
theorem d_M_fixed_47 : decode b_M_fixed 47 = .ok (.aload_n 0, 1) := by decide +kernel
theorem d_M_fixed_48 : decode b_M_fixed 48 = .ok (.iconst 3, 1) := by decide +kernel
theorem d_M_fixed_49 : decode b_M_fixed 49 = .ok (.invokevirtual 56, 3) := by decide +kernel
theorem d_M_fixed_52 : decode b_M_fixed 52 = .ok (.ireturn, 1) := by decide +kernel
theorem d_M_fixed_53 : decode b_M_fixed 53 = .ok (.iconst 0, 1) := by decide +kernel
theorem d_M_fixed_54 : decode b_M_fixed 54 = .ok (.istore 5, 2) := by decide +kernel
theorem d_M_fixed_56 : decode b_M_fixed 56 = .ok (.iload 5, 2) := by decide +kernel
theorem d_M_fixed_58 : decode b_M_fixed 58 = .ok (.iload 4, 2) := by decide +kernel
theorem d_M_fixed_60 : decode b_M_fixed 60 = .ok (.if_icmp .ge 26, 3) := by decide +kernel
theorem d_M_fixed_63 : decode b_M_fixed 63 = .ok (.aload_n 0, 1) := by decide +kernel
theorem d_M_fixed_64 : decode b_M_fixed 64 = .ok (.iload_n 1, 1) := by decide +kernel
theorem d_M_fixed_65 : decode b_M_fixed 65 = .ok (.lload_n 2, 1) := by decide +kernel
theorem d_M_fixed_66 : decode b_M_fixed 66 = .ok (.bipush 8, 2) := by decide +kernel
theorem d_M_fixed_68 : decode b_M_fixed 68 = .ok (.iload 5, 2) := by decide +kernel
theorem d_M_fixed_70 : decode b_M_fixed 70 = .ok (.imul, 1) := by decide +kernel
theorem d_M_fixed_71 : decode b_M_fixed 71 = .ok (.lshr, 1) := by decide +kernel
theorem d_M_fixed_72 : decode b_M_fixed 72 = .ok (.ldc2_w 29, 3) := by decide +kernel
theorem d_M_fixed_75 : decode b_M_fixed 75 = .ok (.land, 1) := by decide +kernel
theorem d_M_fixed_76 : decode b_M_fixed 76 = .ok (.l2i, 1) := by decide +kernel
theorem d_M_fixed_77 : decode b_M_fixed 77 = .ok (.invokevirtual 43, 3) := by decide +kernel
theorem d_M_fixed_80 : decode b_M_fixed 80 = .ok (.iinc 5 1, 3) := by decide +kernel
theorem d_M_fixed_83 : decode b_M_fixed 83 = .ok (.goto (-27), 3) := by decide +kernel
theorem d_M_fixed_86 : decode b_M_fixed 86 = .ok (.aload_n 0, 1) := by decide +kernel
theorem d_M_fixed_87 : decode b_M_fixed 87 = .ok (.getfield 14, 3) := by decide +kernel
theorem d_M_fixed_90 : decode b_M_fixed 90 = .ok (.iload_n 1, 1) := by decide +kernel
theorem d_M_fixed_91 : decode b_M_fixed 91 = .ok (.iaload, 1) := by decide +kernel
theorem d_M_fixed_92 : decode b_M_fixed 92 = .ok (.ireturn, 1) := by decide +kernel
theorem d_M_putGroups_0 : decode b_M_putGroups 0 = .ok (.iload_n 1, 1) := by decide +kernel
theorem d_M_putGroups_1 : decode b_M_putGroups 1 = .ok (.invokestatic 52, 3) := by decide +kernel
theorem d_M_putGroups_4 : decode b_M_putGroups 4 = .ok (.ifCond .ne 9, 3) := by decide +kernel
theorem d_M_putGroups_7 : decode b_M_putGroups 7 = .ok (.aload_n 0, 1) := by decide +kernel
theorem d_M_putGroups_8 : decode b_M_putGroups 8 = .ok (.iconst 1, 1) := by decide +kernel
theorem d_M_putGroups_9 : decode b_M_putGroups 9 = .ok (.invokevirtual 56, 3) := by decide +kernel
theorem d_M_putGroups_12 : decode b_M_putGroups 12 = .ok (.ireturn, 1) := by decide +kernel
theorem d_M_putGroups_13 : decode b_M_putGroups 13 = .ok (.lload_n 2, 1) := by decide +kernel
theorem d_M_putGroups_14 : decode b_M_putGroups 14 = .ok (.invokestatic 37, 3) := by decide +kernel
theorem d_M_putGroups_17 : decode b_M_putGroups 17 = .ok (.istore 4, 2) := by decide +kernel
theorem d_M_putGroups_19 : decode b_M_putGroups 19 = .ok (.aload_n 0, 1) := by decide +kernel
theorem d_M_putGroups_20 : decode b_M_putGroups 20 = .ok (.iload_n 1, 1) := by decide +kernel
theorem d_M_putGroups_21 : decode b_M_putGroups 21 = .ok (.iload 4, 2) := by decide +kernel
theorem d_M_putGroups_23 : decode b_M_putGroups 23 = .ok (.invokevirtual 60, 3) := by decide +kernel
theorem d_M_putGroups_26 : decode b_M_putGroups 26 = .ok (.ifCond .ne 9, 3) := by decide +kernel
theorem d_M_putGroups_29 : decode b_M_putGroups 29 = .ok (.aload_n 0, 1) := by decide +kernel
theorem d_M_putGroups_30 : decode b_M_putGroups 30 = .ok (.iconst 2, 1) := by decide +kernel
theorem d_M_putGroups_31 : decode b_M_putGroups 31 = .ok (.invokevirtual 56, 3) := by decide +kernel
theorem d_M_putGroups_34 : decode b_M_putGroups 34 = .ok (.ireturn, 1) := by decide +kernel
theorem d_M_putGroups_35 : decode b_M_putGroups 35 = .ok (.aload_n 0, 1) := by decide +kernel
theorem d_M_putGroups_36 : decode b_M_putGroups 36 = .ok (.iload_n 1, 1) := by decide +kernel
theorem d_M_putGroups_37 : decode b_M_putGroups 37 = .ok (.lload_n 2, 1) := by decide +kernel
theorem d_M_putGroups_38 : decode b_M_putGroups 38 = .ok (.invokevirtual 64, 3) := by decide +kernel
theorem d_M_putGroups_41 : decode b_M_putGroups 41 = .ok (.iload 4, 2) := by decide +kernel
theorem d_M_putGroups_43 : decode b_M_putGroups 43 = .ok (.ireturn, 1) := by decide +kernel
theorem d_M_sevens_0 : decode b_M_sevens 0 = .ok (.aload_n 0, 1) := by decide +kernel
theorem d_M_sevens_1 : decode b_M_sevens 1 = .ok (.iconst 0, 1) := by decide +kernel
theorem d_M_sevens_2 : decode b_M_sevens 2 = .ok (.putfield 26, 3) := by decide +kernel
theorem d_M_sevens_5 : decode b_M_sevens 5 = .ok (.aload_n 0, 1) := by decide +kernel
theorem d_M_sevens_6 : decode b_M_sevens 6 = .ok (.iload_n 1, 1) := by decide +kernel
theorem d_M_sevens_7 : decode b_M_sevens 7 = .ok (.lload_n 2, 1) := by decide +kernel
theorem d_M_sevens_8 : decode b_M_sevens 8 = .ok (.invokevirtual 68, 3) := by decide +kernel
theorem d_M_sevens_11 : decode b_M_sevens 11 = .ok (.ireturn, 1) := by decide +kernel
theorem d_M_signed_0 : decode b_M_signed 0 = .ok (.aload_n 0, 1) := by decide +kernel
theorem d_M_signed_1 : decode b_M_signed 1 = .ok (.iconst 0, 1) := by decide +kernel
theorem d_M_signed_2 : decode b_M_signed 2 = .ok (.putfield 26, 3) := by decide +kernel
theorem d_M_signed_5 : decode b_M_signed 5 = .ok (.aload_n 0, 1) := by decide +kernel
theorem d_M_signed_6 : decode b_M_signed 6 = .ok (.iload_n 1, 1) := by decide +kernel
theorem d_M_signed_7 : decode b_M_signed 7 = .ok (.lload_n 2, 1) := by decide +kernel
theorem d_M_signed_8 : decode b_M_signed 8 = .ok (.invokestatic 72, 3) := by decide +kernel
theorem d_M_signed_11 : decode b_M_signed 11 = .ok (.invokevirtual 68, 3) := by decide +kernel
theorem d_M_signed_14 : decode b_M_signed 14 = .ok (.ireturn, 1) := by decide +kernel
theorem d_M_isLetter_0 : decode b_M_isLetter 0 = .ok (.iload_n 0, 1) := by decide +kernel
theorem d_M_isLetter_1 : decode b_M_isLetter 1 = .ok (.ifCond .lt 25, 3) := by decide +kernel
theorem d_M_isLetter_4 : decode b_M_isLetter 4 = .ok (.iload_n 0, 1) := by decide +kernel
theorem d_M_isLetter_5 : decode b_M_isLetter 5 = .ok (.ldc 76, 2) := by decide +kernel
theorem d_M_isLetter_7 : decode b_M_isLetter 7 = .ok (.if_icmp .gt 19, 3) := by decide +kernel
theorem d_M_isLetter_10 : decode b_M_isLetter 10 = .ok (.iload_n 0, 1) := by decide +kernel
theorem d_M_isLetter_11 : decode b_M_isLetter 11 = .ok (.ldc 77, 2) := by decide +kernel
theorem d_M_isLetter_13 : decode b_M_isLetter 13 = .ok (.if_icmp .lt 9, 3) := by decide +kernel
theorem d_M_isLetter_16 : decode b_M_isLetter 16 = .ok (.iload_n 0, 1) := by decide +kernel
theorem d_M_isLetter_17 : decode b_M_isLetter 17 = .ok (.ldc 78, 2) := by decide +kernel
theorem d_M_isLetter_19 : decode b_M_isLetter 19 = .ok (.if_icmp .le 7, 3) := by decide +kernel
theorem d_M_isLetter_22 : decode b_M_isLetter 22 = .ok (.iconst 1, 1) := by decide +kernel
theorem d_M_isLetter_23 : decode b_M_isLetter 23 = .ok (.goto 4, 3) := by decide +kernel
theorem d_M_isLetter_26 : decode b_M_isLetter 26 = .ok (.iconst 0, 1) := by decide +kernel
theorem d_M_isLetter_27 : decode b_M_isLetter 27 = .ok (.ireturn, 1) := by decide +kernel
theorem d_M_lengthOf_0 : decode b_M_lengthOf 0 = .ok (.iload_n 0, 1) := by decide +kernel
theorem d_M_lengthOf_1 : decode b_M_lengthOf 1 = .ok (.sipush 128, 3) := by decide +kernel
theorem d_M_lengthOf_4 : decode b_M_lengthOf 4 = .ok (.if_icmp .ge 7, 3) := by decide +kernel
theorem d_M_lengthOf_7 : decode b_M_lengthOf 7 = .ok (.iconst 1, 1) := by decide +kernel
theorem d_M_lengthOf_8 : decode b_M_lengthOf 8 = .ok (.goto 25, 3) := by decide +kernel
theorem d_M_lengthOf_11 : decode b_M_lengthOf 11 = .ok (.iload_n 0, 1) := by decide +kernel
theorem d_M_lengthOf_12 : decode b_M_lengthOf 12 = .ok (.sipush 2048, 3) := by decide +kernel
theorem d_M_lengthOf_15 : decode b_M_lengthOf 15 = .ok (.if_icmp .ge 7, 3) := by decide +kernel
theorem d_M_lengthOf_18 : decode b_M_lengthOf 18 = .ok (.iconst 2, 1) := by decide +kernel
theorem d_M_lengthOf_19 : decode b_M_lengthOf 19 = .ok (.goto 14, 3) := by decide +kernel
theorem d_M_lengthOf_22 : decode b_M_lengthOf 22 = .ok (.iload_n 0, 1) := by decide +kernel
theorem d_M_lengthOf_23 : decode b_M_lengthOf 23 = .ok (.ldc 21, 2) := by decide +kernel
theorem d_M_lengthOf_25 : decode b_M_lengthOf 25 = .ok (.if_icmp .ge 7, 3) := by decide +kernel
theorem d_M_lengthOf_28 : decode b_M_lengthOf 28 = .ok (.iconst 3, 1) := by decide +kernel
theorem d_M_lengthOf_29 : decode b_M_lengthOf 29 = .ok (.goto 4, 3) := by decide +kernel
theorem d_M_lengthOf_32 : decode b_M_lengthOf 32 = .ok (.iconst 4, 1) := by decide +kernel
theorem d_M_lengthOf_33 : decode b_M_lengthOf 33 = .ok (.ireturn, 1) := by decide +kernel
