/-! decode rows -/
theorem d_M_sum_0 : decode b_M_sum 0 = .ok (.aload_n 0, 1) := by decide +kernel
theorem d_M_sum_1 : decode b_M_sum 1 = .ok (.iconst 0, 1) := by decide +kernel
theorem d_M_sum_2 : decode b_M_sum 2 = .ok (.putfield 26, 3) := by decide +kernel
theorem d_M_sum_5 : decode b_M_sum 5 = .ok (.iload_n 1, 1) := by decide +kernel
theorem d_M_sum_6 : decode b_M_sum 6 = .ok (.invokestatic 52, 3) := by decide +kernel
theorem d_M_sum_9 : decode b_M_sum 9 = .ok (.ifCond .ne 9, 3) := by decide +kernel
theorem d_M_sum_12 : decode b_M_sum 12 = .ok (.aload_n 0, 1) := by decide +kernel
theorem d_M_sum_13 : decode b_M_sum 13 = .ok (.iconst 1, 1) := by decide +kernel
theorem d_M_sum_14 : decode b_M_sum 14 = .ok (.invokevirtual 56, 3) := by decide +kernel
theorem d_M_sum_17 : decode b_M_sum 17 = .ok (.ireturn, 1) := by decide +kernel
theorem d_M_sum_18 : decode b_M_sum 18 = .ok (.aload_n 0, 1) := by decide +kernel
theorem d_M_sum_19 : decode b_M_sum 19 = .ok (.iload_n 1, 1) := by decide +kernel
theorem d_M_sum_20 : decode b_M_sum 20 = .ok (.iload_n 2, 1) := by decide +kernel
theorem d_M_sum_21 : decode b_M_sum 21 = .ok (.iload_n 3, 1) := by decide +kernel
theorem d_M_sum_22 : decode b_M_sum 22 = .ok (.invokevirtual 85, 3) := by decide +kernel
theorem d_M_sum_25 : decode b_M_sum 25 = .ok (.ifCond .eq 13, 3) := by decide +kernel
theorem d_M_sum_28 : decode b_M_sum 28 = .ok (.aload_n 0, 1) := by decide +kernel
theorem d_M_sum_29 : decode b_M_sum 29 = .ok (.iload_n 1, 1) := by decide +kernel
theorem d_M_sum_30 : decode b_M_sum 30 = .ok (.iload_n 2, 1) := by decide +kernel
theorem d_M_sum_31 : decode b_M_sum 31 = .ok (.iload_n 3, 1) := by decide +kernel
theorem d_M_sum_32 : decode b_M_sum 32 = .ok (.invokevirtual 89, 3) := by decide +kernel
theorem d_M_sum_35 : decode b_M_sum 35 = .ok (.goto 8, 3) := by decide +kernel
theorem d_M_sum_38 : decode b_M_sum 38 = .ok (.aload_n 0, 1) := by decide +kernel
theorem d_M_sum_39 : decode b_M_sum 39 = .ok (.iconst 2, 1) := by decide +kernel
theorem d_M_sum_40 : decode b_M_sum 40 = .ok (.invokevirtual 56, 3) := by decide +kernel
theorem d_M_sum_43 : decode b_M_sum 43 = .ok (.ireturn, 1) := by decide +kernel
theorem d_M_same_0 : decode b_M_same 0 = .ok (.aload_n 0, 1) := by decide +kernel
theorem d_M_same_1 : decode b_M_same 1 = .ok (.iconst 0, 1) := by decide +kernel
theorem d_M_same_2 : decode b_M_same 2 = .ok (.putfield 26, 3) := by decide +kernel
theorem d_M_same_5 : decode b_M_same 5 = .ok (.iload_n 1, 1) := by decide +kernel
theorem d_M_same_6 : decode b_M_same 6 = .ok (.invokestatic 52, 3) := by decide +kernel
theorem d_M_same_9 : decode b_M_same 9 = .ok (.ifCond .eq 10, 3) := by decide +kernel
theorem d_M_same_12 : decode b_M_same 12 = .ok (.iload_n 2, 1) := by decide +kernel
theorem d_M_same_13 : decode b_M_same 13 = .ok (.invokestatic 52, 3) := by decide +kernel
theorem d_M_same_16 : decode b_M_same 16 = .ok (.ifCond .ne 10, 3) := by decide +kernel
theorem d_M_same_19 : decode b_M_same 19 = .ok (.aload_n 0, 1) := by decide +kernel
theorem d_M_same_20 : decode b_M_same 20 = .ok (.iconst 1, 1) := by decide +kernel
theorem d_M_same_21 : decode b_M_same 21 = .ok (.putfield 26, 3) := by decide +kernel
theorem d_M_same_24 : decode b_M_same 24 = .ok (.iconst 0, 1) := by decide +kernel
theorem d_M_same_25 : decode b_M_same 25 = .ok (.ireturn, 1) := by decide +kernel
theorem d_M_same_26 : decode b_M_same 26 = .ok (.aload_n 0, 1) := by decide +kernel
theorem d_M_same_27 : decode b_M_same 27 = .ok (.getfield 14, 3) := by decide +kernel
theorem d_M_same_30 : decode b_M_same 30 = .ok (.iload_n 1, 1) := by decide +kernel
theorem d_M_same_31 : decode b_M_same 31 = .ok (.iaload, 1) := by decide +kernel
theorem d_M_same_32 : decode b_M_same 32 = .ok (.aload_n 0, 1) := by decide +kernel
theorem d_M_same_33 : decode b_M_same 33 = .ok (.getfield 14, 3) := by decide +kernel
theorem d_M_same_36 : decode b_M_same 36 = .ok (.iload_n 2, 1) := by decide +kernel
theorem d_M_same_37 : decode b_M_same 37 = .ok (.iaload, 1) := by decide +kernel
theorem d_M_same_38 : decode b_M_same 38 = .ok (.if_icmp .ne 7, 3) := by decide +kernel
theorem d_M_same_41 : decode b_M_same 41 = .ok (.iconst 1, 1) := by decide +kernel
theorem d_M_same_42 : decode b_M_same 42 = .ok (.goto 4, 3) := by decide +kernel
theorem d_M_same_45 : decode b_M_same 45 = .ok (.iconst 0, 1) := by decide +kernel
theorem d_M_same_46 : decode b_M_same 46 = .ok (.istore_n 3, 1) := by decide +kernel
theorem d_M_same_47 : decode b_M_same 47 = .ok (.iconst 0, 1) := by decide +kernel
theorem d_M_same_48 : decode b_M_same 48 = .ok (.istore 4, 2) := by decide +kernel
theorem d_M_same_50 : decode b_M_same 50 = .ok (.iload 4, 2) := by decide +kernel
theorem d_M_same_52 : decode b_M_same 52 = .ok (.aload_n 0, 1) := by decide +kernel
theorem d_M_same_53 : decode b_M_same 53 = .ok (.getfield 14, 3) := by decide +kernel
theorem d_M_same_56 : decode b_M_same 56 = .ok (.iload_n 1, 1) := by decide +kernel
theorem d_M_same_57 : decode b_M_same 57 = .ok (.iaload, 1) := by decide +kernel
theorem d_M_same_58 : decode b_M_same 58 = .ok (.if_icmp .ge 36, 3) := by decide +kernel
theorem d_M_same_61 : decode b_M_same 61 = .ok (.iload_n 3, 1) := by decide +kernel
theorem d_M_same_62 : decode b_M_same 62 = .ok (.ifCond .eq 32, 3) := by decide +kernel
theorem d_M_same_65 : decode b_M_same 65 = .ok (.aload_n 0, 1) := by decide +kernel
theorem d_M_same_66 : decode b_M_same 66 = .ok (.iload_n 1, 1) := by decide +kernel
theorem d_M_same_67 : decode b_M_same 67 = .ok (.iload 4, 2) := by decide +kernel
theorem d_M_same_69 : decode b_M_same 69 = .ok (.invokevirtual 47, 3) := by decide +kernel
theorem d_M_same_72 : decode b_M_same 72 = .ok (.aload_n 0, 1) := by decide +kernel
theorem d_M_same_73 : decode b_M_same 73 = .ok (.iload_n 2, 1) := by decide +kernel
theorem d_M_same_74 : decode b_M_same 74 = .ok (.iload 4, 2) := by decide +kernel
theorem d_M_same_76 : decode b_M_same 76 = .ok (.invokevirtual 47, 3) := by decide +kernel
theorem d_M_same_79 : decode b_M_same 79 = .ok (.if_icmp .ne 7, 3) := by decide +kernel
theorem d_M_same_82 : decode b_M_same 82 = .ok (.iconst 1, 1) := by decide +kernel
theorem d_M_same_83 : decode b_M_same 83 = .ok (.goto 4, 3) := by decide +kernel
theorem d_M_same_86 : decode b_M_same 86 = .ok (.iconst 0, 1) := by decide +kernel
theorem d_M_same_87 : decode b_M_same 87 = .ok (.istore_n 3, 1) := by decide +kernel
theorem d_M_same_88 : decode b_M_same 88 = .ok (.iinc 4 1, 3) := by decide +kernel
theorem d_M_same_91 : decode b_M_same 91 = .ok (.goto (-41), 3) := by decide +kernel
theorem d_M_same_94 : decode b_M_same 94 = .ok (.iload_n 3, 1) := by decide +kernel
theorem d_M_same_95 : decode b_M_same 95 = .ok (.ireturn, 1) := by decide +kernel
theorem d_M_row_0 : decode b_M_row 0 = .ok (.aload_n 0, 1) := by decide +kernel
theorem d_M_row_1 : decode b_M_row 1 = .ok (.iconst 0, 1) := by decide +kernel
theorem d_M_row_2 : decode b_M_row 2 = .ok (.putfield 26, 3) := by decide +kernel
theorem d_M_row_5 : decode b_M_row 5 = .ok (.iload_n 1, 1) := by decide +kernel
theorem d_M_row_6 : decode b_M_row 6 = .ok (.invokestatic 52, 3) := by decide +kernel
theorem d_M_row_9 : decode b_M_row 9 = .ok (.ifCond .ne 9, 3) := by decide +kernel
theorem d_M_row_12 : decode b_M_row 12 = .ok (.aload_n 0, 1) := by decide +kernel
theorem d_M_row_13 : decode b_M_row 13 = .ok (.iconst 1, 1) := by decide +kernel
theorem d_M_row_14 : decode b_M_row 14 = .ok (.invokevirtual 56, 3) := by decide +kernel
theorem d_M_row_17 : decode b_M_row 17 = .ok (.ireturn, 1) := by decide +kernel
theorem d_M_row_18 : decode b_M_row 18 = .ok (.iload_n 2, 1) := by decide +kernel
theorem d_M_row_19 : decode b_M_row 19 = .ok (.ifCond .lt 8, 3) := by decide +kernel
theorem d_M_row_22 : decode b_M_row 22 = .ok (.iload_n 2, 1) := by decide +kernel
theorem d_M_row_23 : decode b_M_row 23 = .ok (.iconst 2, 1) := by decide +kernel
theorem d_M_row_24 : decode b_M_row 24 = .ok (.if_icmp .le 9, 3) := by decide +kernel
theorem d_M_row_27 : decode b_M_row 27 = .ok (.aload_n 0, 1) := by decide +kernel
theorem d_M_row_28 : decode b_M_row 28 = .ok (.iconst 2, 1) := by decide +kernel
theorem d_M_row_29 : decode b_M_row 29 = .ok (.invokevirtual 56, 3) := by decide +kernel
theorem d_M_row_32 : decode b_M_row 32 = .ok (.ireturn, 1) := by decide +kernel
theorem d_M_row_33 : decode b_M_row 33 = .ok (.iload_n 2, 1) := by decide +kernel
theorem d_M_row_34 : decode b_M_row 34 = .ok (.ifCond .ne 12, 3) := by decide +kernel
theorem d_M_row_37 : decode b_M_row 37 = .ok (.aload_n 0, 1) := by decide +kernel
theorem d_M_row_38 : decode b_M_row 38 = .ok (.getfield 14, 3) := by decide +kernel
theorem d_M_row_41 : decode b_M_row 41 = .ok (.iload_n 1, 1) := by decide +kernel
theorem d_M_row_42 : decode b_M_row 42 = .ok (.iaload, 1) := by decide +kernel
theorem d_M_row_43 : decode b_M_row 43 = .ok (.goto 30, 3) := by decide +kernel
theorem d_M_row_46 : decode b_M_row 46 = .ok (.iload_n 2, 1) := by decide +kernel
theorem d_M_row_47 : decode b_M_row 47 = .ok (.iconst 1, 1) := by decide +kernel
theorem d_M_row_48 : decode b_M_row 48 = .ok (.if_icmp .ne 12, 3) := by decide +kernel
theorem d_M_row_51 : decode b_M_row 51 = .ok (.aload_n 0, 1) := by decide +kernel
theorem d_M_row_52 : decode b_M_row 52 = .ok (.getfield 18, 3) := by decide +kernel
theorem d_M_row_55 : decode b_M_row 55 = .ok (.iload_n 1, 1) := by decide +kernel
theorem d_M_row_56 : decode b_M_row 56 = .ok (.iaload, 1) := by decide +kernel
theorem d_M_row_57 : decode b_M_row 57 = .ok (.goto 16, 3) := by decide +kernel
theorem d_M_row_60 : decode b_M_row 60 = .ok (.aload_n 0, 1) := by decide +kernel
theorem d_M_row_61 : decode b_M_row 61 = .ok (.getfield 14, 3) := by decide +kernel
theorem d_M_row_64 : decode b_M_row 64 = .ok (.iload_n 1, 1) := by decide +kernel
theorem d_M_row_65 : decode b_M_row 65 = .ok (.iaload, 1) := by decide +kernel
theorem d_M_row_66 : decode b_M_row 66 = .ok (.aload_n 0, 1) := by decide +kernel
theorem d_M_row_67 : decode b_M_row 67 = .ok (.getfield 18, 3) := by decide +kernel
theorem d_M_row_70 : decode b_M_row 70 = .ok (.iload_n 1, 1) := by decide +kernel
theorem d_M_row_71 : decode b_M_row 71 = .ok (.iaload, 1) := by decide +kernel
theorem d_M_row_72 : decode b_M_row 72 = .ok (.isub, 1) := by decide +kernel
theorem d_M_row_73 : decode b_M_row 73 = .ok (.ireturn, 1) := by decide +kernel
theorem d_M_byteAt_0 : decode b_M_byteAt 0 = .ok (.aload_n 0, 1) := by decide +kernel
theorem d_M_byteAt_1 : decode b_M_byteAt 1 = .ok (.iconst 0, 1) := by decide +kernel
theorem d_M_byteAt_2 : decode b_M_byteAt 2 = .ok (.putfield 26, 3) := by decide +kernel
theorem d_M_byteAt_5 : decode b_M_byteAt 5 = .ok (.iload_n 1, 1) := by decide +kernel
theorem d_M_byteAt_6 : decode b_M_byteAt 6 = .ok (.invokestatic 52, 3) := by decide +kernel
theorem d_M_byteAt_9 : decode b_M_byteAt 9 = .ok (.ifCond .ne 9, 3) := by decide +kernel
theorem d_M_byteAt_12 : decode b_M_byteAt 12 = .ok (.aload_n 0, 1) := by decide +kernel
theorem d_M_byteAt_13 : decode b_M_byteAt 13 = .ok (.iconst 1, 1) := by decide +kernel
theorem d_M_byteAt_14 : decode b_M_byteAt 14 = .ok (.invokevirtual 56, 3) := by decide +kernel
theorem d_M_byteAt_17 : decode b_M_byteAt 17 = .ok (.ireturn, 1) := by decide +kernel
theorem d_M_byteAt_18 : decode b_M_byteAt 18 = .ok (.iload_n 2, 1) := by decide +kernel
theorem d_M_byteAt_19 : decode b_M_byteAt 19 = .ok (.ifCond .lt 22, 3) := by decide +kernel
theorem d_M_byteAt_22 : decode b_M_byteAt 22 = .ok (.iload_n 2, 1) := by decide +kernel
theorem d_M_byteAt_23 : decode b_M_byteAt 23 = .ok (.aload_n 0, 1) := by decide +kernel
theorem d_M_byteAt_24 : decode b_M_byteAt 24 = .ok (.getfield 14, 3) := by decide +kernel
theorem d_M_byteAt_27 : decode b_M_byteAt 27 = .ok (.iload_n 1, 1) := by decide +kernel
theorem d_M_byteAt_28 : decode b_M_byteAt 28 = .ok (.iaload, 1) := by decide +kernel
theorem d_M_byteAt_29 : decode b_M_byteAt 29 = .ok (.if_icmp .ge 12, 3) := by decide +kernel
theorem d_M_byteAt_32 : decode b_M_byteAt 32 = .ok (.aload_n 0, 1) := by decide +kernel
theorem d_M_byteAt_33 : decode b_M_byteAt 33 = .ok (.iload_n 1, 1) := by decide +kernel
theorem d_M_byteAt_34 : decode b_M_byteAt 34 = .ok (.iload_n 2, 1) := by decide +kernel
theorem d_M_byteAt_35 : decode b_M_byteAt 35 = .ok (.invokevirtual 47, 3) := by decide +kernel
theorem d_M_byteAt_38 : decode b_M_byteAt 38 = .ok (.goto 8, 3) := by decide +kernel
theorem d_M_byteAt_41 : decode b_M_byteAt 41 = .ok (.aload_n 0, 1) := by decide +kernel
theorem d_M_byteAt_42 : decode b_M_byteAt 42 = .ok (.iconst 2, 1) := by decide +kernel
theorem d_M_byteAt_43 : decode b_M_byteAt 43 = .ok (.invokevirtual 56, 3) := by decide +kernel
theorem d_M_byteAt_46 : decode b_M_byteAt 46 = .ok (.ireturn, 1) := by decide +kernel
