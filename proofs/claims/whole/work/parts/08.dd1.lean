/-! decode rows -/
theorem d_D_readFrame_0 : decode b_D_readFrame 0 = .ok (.aload_n 0, 1) := by decide +kernel
theorem d_D_readFrame_1 : decode b_D_readFrame 1 = .ok (.iload_n 1, 1) := by decide +kernel
theorem d_D_readFrame_2 : decode b_D_readFrame 2 = .ok (.invokevirtual 28, 3) := by decide +kernel
theorem d_D_readFrame_5 : decode b_D_readFrame 5 = .ok (.astore_n 3, 1) := by decide +kernel
theorem d_D_readFrame_6 : decode b_D_readFrame 6 = .ok (.aload_n 0, 1) := by decide +kernel
theorem d_D_readFrame_7 : decode b_D_readFrame 7 = .ok (.iload_n 2, 1) := by decide +kernel
theorem d_D_readFrame_8 : decode b_D_readFrame 8 = .ok (.invokevirtual 28, 3) := by decide +kernel
theorem d_D_readFrame_11 : decode b_D_readFrame 11 = .ok (.astore 4, 2) := by decide +kernel
theorem d_D_readFrame_13 : decode b_D_readFrame 13 = .ok (.iload_n 1, 1) := by decide +kernel
theorem d_D_readFrame_14 : decode b_D_readFrame 14 = .ok (.iload_n 2, 1) := by decide +kernel
theorem d_D_readFrame_15 : decode b_D_readFrame 15 = .ok (.invokestatic 122, 3) := by decide +kernel
theorem d_D_readFrame_18 : decode b_D_readFrame 18 = .ok (.aload_n 3, 1) := by decide +kernel
theorem d_D_readFrame_19 : decode b_D_readFrame 19 = .ok (.invokestatic 126, 3) := by decide +kernel
theorem d_D_readFrame_22 : decode b_D_readFrame 22 = .ok (.istore 5, 2) := by decide +kernel
theorem d_D_readFrame_24 : decode b_D_readFrame 24 = .ok (.aload_n 3, 1) := by decide +kernel
theorem d_D_readFrame_25 : decode b_D_readFrame 25 = .ok (.iload 5, 2) := by decide +kernel
theorem d_D_readFrame_27 : decode b_D_readFrame 27 = .ok (.invokestatic 130, 3) := by decide +kernel
theorem d_D_readFrame_30 : decode b_D_readFrame 30 = .ok (.istore 6, 2) := by decide +kernel
theorem d_D_readFrame_32 : decode b_D_readFrame 32 = .ok (.iload 5, 2) := by decide +kernel
theorem d_D_readFrame_34 : decode b_D_readFrame 34 = .ok (.iconst 4, 1) := by decide +kernel
theorem d_D_readFrame_35 : decode b_D_readFrame 35 = .ok (.iadd, 1) := by decide +kernel
theorem d_D_readFrame_36 : decode b_D_readFrame 36 = .ok (.istore 7, 2) := by decide +kernel
theorem d_D_readFrame_38 : decode b_D_readFrame 38 = .ok (.aload_n 3, 1) := by decide +kernel
theorem d_D_readFrame_39 : decode b_D_readFrame 39 = .ok (.iload 7, 2) := by decide +kernel
theorem d_D_readFrame_41 : decode b_D_readFrame 41 = .ok (.iload 6, 2) := by decide +kernel
theorem d_D_readFrame_43 : decode b_D_readFrame 43 = .ok (.iadd, 1) := by decide +kernel
theorem d_D_readFrame_44 : decode b_D_readFrame 44 = .ok (.invokestatic 101, 3) := by decide +kernel
theorem d_D_readFrame_47 : decode b_D_readFrame 47 = .ok (.aload_n 3, 1) := by decide +kernel
theorem d_D_readFrame_48 : decode b_D_readFrame 48 = .ok (.aload_n 3, 1) := by decide +kernel
theorem d_D_readFrame_49 : decode b_D_readFrame 49 = .ok (.getfield 87, 3) := by decide +kernel
theorem d_D_readFrame_52 : decode b_D_readFrame 52 = .ok (.iload 5, 2) := by decide +kernel
theorem d_D_readFrame_54 : decode b_D_readFrame 54 = .ok (.iadd, 1) := by decide +kernel
theorem d_D_readFrame_55 : decode b_D_readFrame 55 = .ok (.iconst 4, 1) := by decide +kernel
theorem d_D_readFrame_56 : decode b_D_readFrame 56 = .ok (.invokestatic 104, 3) := by decide +kernel
theorem d_D_readFrame_59 : decode b_D_readFrame 59 = .ok (.l2i, 1) := by decide +kernel
theorem d_D_readFrame_60 : decode b_D_readFrame 60 = .ok (.istore 8, 2) := by decide +kernel
theorem d_D_readFrame_62 : decode b_D_readFrame 62 = .ok (.iload 8, 2) := by decide +kernel
theorem d_D_readFrame_64 : decode b_D_readFrame 64 = .ok (.aload_n 3, 1) := by decide +kernel
theorem d_D_readFrame_65 : decode b_D_readFrame 65 = .ok (.aload_n 3, 1) := by decide +kernel
theorem d_D_readFrame_66 : decode b_D_readFrame 66 = .ok (.getfield 87, 3) := by decide +kernel
theorem d_D_readFrame_69 : decode b_D_readFrame 69 = .ok (.iload 7, 2) := by decide +kernel
theorem d_D_readFrame_71 : decode b_D_readFrame 71 = .ok (.iadd, 1) := by decide +kernel
theorem d_D_readFrame_72 : decode b_D_readFrame 72 = .ok (.iload 6, 2) := by decide +kernel
theorem d_D_readFrame_74 : decode b_D_readFrame 74 = .ok (.invokestatic 81, 3) := by decide +kernel
theorem d_D_readFrame_77 : decode b_D_readFrame 77 = .ok (.if_icmp .eq 13, 3) := by decide +kernel
theorem d_D_readFrame_80 : decode b_D_readFrame 80 = .ok (.new 138, 3) := by decide +kernel
theorem d_D_readFrame_83 : decode b_D_readFrame 83 = .ok (.dup, 1) := by decide +kernel
theorem d_D_readFrame_84 : decode b_D_readFrame 84 = .ok (.ldc 140, 2) := by decide +kernel
theorem d_D_readFrame_86 : decode b_D_readFrame 86 = .ok (.invokespecial 142, 3) := by decide +kernel
theorem d_D_readFrame_89 : decode b_D_readFrame 89 = .ok (.athrow, 1) := by decide +kernel
theorem d_D_readFrame_90 : decode b_D_readFrame 90 = .ok (.aload_n 3, 1) := by decide +kernel
theorem d_D_readFrame_91 : decode b_D_readFrame 91 = .ok (.aload_n 3, 1) := by decide +kernel
theorem d_D_readFrame_92 : decode b_D_readFrame 92 = .ok (.getfield 87, 3) := by decide +kernel
theorem d_D_readFrame_95 : decode b_D_readFrame 95 = .ok (.iload 7, 2) := by decide +kernel
theorem d_D_readFrame_97 : decode b_D_readFrame 97 = .ok (.iadd, 1) := by decide +kernel
theorem d_D_readFrame_98 : decode b_D_readFrame 98 = .ok (.iload 6, 2) := by decide +kernel
theorem d_D_readFrame_100 : decode b_D_readFrame 100 = .ok (.aload 4, 2) := by decide +kernel
theorem d_D_readFrame_102 : decode b_D_readFrame 102 = .ok (.invokestatic 134, 3) := by decide +kernel
theorem d_D_readFrame_105 : decode b_D_readFrame 105 = .ok (.iload 6, 2) := by decide +kernel
theorem d_D_readFrame_107 : decode b_D_readFrame 107 = .ok (.ireturn, 1) := by decide +kernel
theorem d_D_letters_0 : decode b_D_letters 0 = .ok (.aload_n 0, 1) := by decide +kernel
theorem d_D_letters_1 : decode b_D_letters 1 = .ok (.iload_n 1, 1) := by decide +kernel
theorem d_D_letters_2 : decode b_D_letters 2 = .ok (.invokevirtual 28, 3) := by decide +kernel
theorem d_D_letters_5 : decode b_D_letters 5 = .ok (.astore 4, 2) := by decide +kernel
theorem d_D_letters_7 : decode b_D_letters 7 = .ok (.aload 4, 2) := by decide +kernel
theorem d_D_letters_9 : decode b_D_letters 9 = .ok (.iload_n 2, 1) := by decide +kernel
theorem d_D_letters_10 : decode b_D_letters 10 = .ok (.iload_n 3, 1) := by decide +kernel
theorem d_D_letters_11 : decode b_D_letters 11 = .ok (.invokestatic 66, 3) := by decide +kernel
theorem d_D_letters_14 : decode b_D_letters 14 = .ok (.iload_n 2, 1) := by decide +kernel
theorem d_D_letters_15 : decode b_D_letters 15 = .ok (.iload_n 3, 1) := by decide +kernel
theorem d_D_letters_16 : decode b_D_letters 16 = .ok (.iadd, 1) := by decide +kernel
theorem d_D_letters_17 : decode b_D_letters 17 = .ok (.istore 5, 2) := by decide +kernel
theorem d_D_letters_19 : decode b_D_letters 19 = .ok (.iload_n 2, 1) := by decide +kernel
theorem d_D_letters_20 : decode b_D_letters 20 = .ok (.istore 6, 2) := by decide +kernel
theorem d_D_letters_22 : decode b_D_letters 22 = .ok (.iconst 0, 1) := by decide +kernel
theorem d_D_letters_23 : decode b_D_letters 23 = .ok (.istore 7, 2) := by decide +kernel
theorem d_D_letters_25 : decode b_D_letters 25 = .ok (.iload 7, 2) := by decide +kernel
theorem d_D_letters_27 : decode b_D_letters 27 = .ok (.iload_n 3, 1) := by decide +kernel
theorem d_D_letters_28 : decode b_D_letters 28 = .ok (.if_icmp .ge 60, 3) := by decide +kernel
theorem d_D_letters_31 : decode b_D_letters 31 = .ok (.iload 6, 2) := by decide +kernel
theorem d_D_letters_33 : decode b_D_letters 33 = .ok (.iload 5, 2) := by decide +kernel
theorem d_D_letters_35 : decode b_D_letters 35 = .ok (.if_icmp .ge 53, 3) := by decide +kernel
theorem d_D_letters_38 : decode b_D_letters 38 = .ok (.aload 4, 2) := by decide +kernel
theorem d_D_letters_40 : decode b_D_letters 40 = .ok (.iload 6, 2) := by decide +kernel
theorem d_D_letters_42 : decode b_D_letters 42 = .ok (.iload 5, 2) := by decide +kernel
theorem d_D_letters_44 : decode b_D_letters 44 = .ok (.invokestatic 112, 3) := by decide +kernel
theorem d_D_letters_47 : decode b_D_letters 47 = .ok (.istore 8, 2) := by decide +kernel
theorem d_D_letters_49 : decode b_D_letters 49 = .ok (.iload 8, 2) := by decide +kernel
theorem d_D_letters_51 : decode b_D_letters 51 = .ok (.iconst (-1), 1) := by decide +kernel
theorem d_D_letters_52 : decode b_D_letters 52 = .ok (.if_icmp .eq 10, 3) := by decide +kernel
theorem d_D_letters_55 : decode b_D_letters 55 = .ok (.iload 8, 2) := by decide +kernel
theorem d_D_letters_57 : decode b_D_letters 57 = .ok (.bipush (-2), 2) := by decide +kernel
theorem d_D_letters_59 : decode b_D_letters 59 = .ok (.if_icmp .ne 13, 3) := by decide +kernel
theorem d_D_letters_62 : decode b_D_letters 62 = .ok (.new 55, 3) := by decide +kernel
theorem d_D_letters_65 : decode b_D_letters 65 = .ok (.dup, 1) := by decide +kernel
theorem d_D_letters_66 : decode b_D_letters 66 = .ok (.ldc 143, 2) := by decide +kernel
theorem d_D_letters_68 : decode b_D_letters 68 = .ok (.invokespecial 59, 3) := by decide +kernel
theorem d_D_letters_71 : decode b_D_letters 71 = .ok (.athrow, 1) := by decide +kernel
theorem d_D_letters_72 : decode b_D_letters 72 = .ok (.iload 6, 2) := by decide +kernel
theorem d_D_letters_74 : decode b_D_letters 74 = .ok (.iload 8, 2) := by decide +kernel
theorem d_D_letters_76 : decode b_D_letters 76 = .ok (.invokestatic 51, 3) := by decide +kernel
theorem d_D_letters_79 : decode b_D_letters 79 = .ok (.iadd, 1) := by decide +kernel
theorem d_D_letters_80 : decode b_D_letters 80 = .ok (.istore 6, 2) := by decide +kernel
theorem d_D_letters_82 : decode b_D_letters 82 = .ok (.iinc 7 1, 3) := by decide +kernel
theorem d_D_letters_85 : decode b_D_letters 85 = .ok (.goto (-60), 3) := by decide +kernel
theorem d_D_letters_88 : decode b_D_letters 88 = .ok (.iload 7, 2) := by decide +kernel
theorem d_D_letters_90 : decode b_D_letters 90 = .ok (.ireturn, 1) := by decide +kernel
theorem d_D_sum_0 : decode b_D_sum 0 = .ok (.aload_n 0, 1) := by decide +kernel
theorem d_D_sum_1 : decode b_D_sum 1 = .ok (.iload_n 1, 1) := by decide +kernel
theorem d_D_sum_2 : decode b_D_sum 2 = .ok (.invokevirtual 28, 3) := by decide +kernel
theorem d_D_sum_5 : decode b_D_sum 5 = .ok (.astore 4, 2) := by decide +kernel
theorem d_D_sum_7 : decode b_D_sum 7 = .ok (.aload 4, 2) := by decide +kernel
theorem d_D_sum_9 : decode b_D_sum 9 = .ok (.iload_n 2, 1) := by decide +kernel
theorem d_D_sum_10 : decode b_D_sum 10 = .ok (.iload_n 3, 1) := by decide +kernel
theorem d_D_sum_11 : decode b_D_sum 11 = .ok (.invokestatic 66, 3) := by decide +kernel
theorem d_D_sum_14 : decode b_D_sum 14 = .ok (.aload 4, 2) := by decide +kernel
theorem d_D_sum_16 : decode b_D_sum 16 = .ok (.iload_n 2, 1) := by decide +kernel
theorem d_D_sum_17 : decode b_D_sum 17 = .ok (.iload_n 3, 1) := by decide +kernel
theorem d_D_sum_18 : decode b_D_sum 18 = .ok (.invokestatic 81, 3) := by decide +kernel
theorem d_D_sum_21 : decode b_D_sum 21 = .ok (.ireturn, 1) := by decide +kernel
theorem d_D_same_0 : decode b_D_same 0 = .ok (.aload_n 0, 1) := by decide +kernel
theorem d_D_same_1 : decode b_D_same 1 = .ok (.iload_n 1, 1) := by decide +kernel
theorem d_D_same_2 : decode b_D_same 2 = .ok (.invokevirtual 28, 3) := by decide +kernel
theorem d_D_same_5 : decode b_D_same 5 = .ok (.astore_n 3, 1) := by decide +kernel
theorem d_D_same_6 : decode b_D_same 6 = .ok (.aload_n 0, 1) := by decide +kernel
theorem d_D_same_7 : decode b_D_same 7 = .ok (.iload_n 2, 1) := by decide +kernel
theorem d_D_same_8 : decode b_D_same 8 = .ok (.invokevirtual 28, 3) := by decide +kernel
theorem d_D_same_11 : decode b_D_same 11 = .ok (.astore 4, 2) := by decide +kernel
theorem d_D_same_13 : decode b_D_same 13 = .ok (.aload_n 3, 1) := by decide +kernel
theorem d_D_same_14 : decode b_D_same 14 = .ok (.getfield 43, 3) := by decide +kernel
theorem d_D_same_17 : decode b_D_same 17 = .ok (.aload 4, 2) := by decide +kernel
theorem d_D_same_19 : decode b_D_same 19 = .ok (.getfield 43, 3) := by decide +kernel
theorem d_D_same_22 : decode b_D_same 22 = .ok (.if_icmp .eq 5, 3) := by decide +kernel
theorem d_D_same_25 : decode b_D_same 25 = .ok (.iconst 0, 1) := by decide +kernel
theorem d_D_same_26 : decode b_D_same 26 = .ok (.ireturn, 1) := by decide +kernel
theorem d_D_same_27 : decode b_D_same 27 = .ok (.iconst 0, 1) := by decide +kernel
theorem d_D_same_28 : decode b_D_same 28 = .ok (.istore 5, 2) := by decide +kernel
theorem d_D_same_30 : decode b_D_same 30 = .ok (.iload 5, 2) := by decide +kernel
theorem d_D_same_32 : decode b_D_same 32 = .ok (.aload_n 3, 1) := by decide +kernel
theorem d_D_same_33 : decode b_D_same 33 = .ok (.getfield 43, 3) := by decide +kernel
theorem d_D_same_36 : decode b_D_same 36 = .ok (.if_icmp .ge 27, 3) := by decide +kernel
theorem d_D_same_39 : decode b_D_same 39 = .ok (.aload_n 3, 1) := by decide +kernel
theorem d_D_same_40 : decode b_D_same 40 = .ok (.iload 5, 2) := by decide +kernel
theorem d_D_same_42 : decode b_D_same 42 = .ok (.invokevirtual 92, 3) := by decide +kernel
theorem d_D_same_45 : decode b_D_same 45 = .ok (.aload 4, 2) := by decide +kernel
theorem d_D_same_47 : decode b_D_same 47 = .ok (.iload 5, 2) := by decide +kernel
theorem d_D_same_49 : decode b_D_same 49 = .ok (.invokevirtual 92, 3) := by decide +kernel
theorem d_D_same_52 : decode b_D_same 52 = .ok (.if_icmp .eq 5, 3) := by decide +kernel
theorem d_D_same_55 : decode b_D_same 55 = .ok (.iconst 0, 1) := by decide +kernel
theorem d_D_same_56 : decode b_D_same 56 = .ok (.ireturn, 1) := by decide +kernel
theorem d_D_same_57 : decode b_D_same 57 = .ok (.iinc 5 1, 3) := by decide +kernel
theorem d_D_same_60 : decode b_D_same 60 = .ok (.goto (-30), 3) := by decide +kernel
theorem d_D_same_63 : decode b_D_same 63 = .ok (.iconst 1, 1) := by decide +kernel
theorem d_D_same_64 : decode b_D_same 64 = .ok (.ireturn, 1) := by decide +kernel
theorem d_D_row_0 : decode b_D_row 0 = .ok (.aload_n 0, 1) := by decide +kernel
theorem d_D_row_1 : decode b_D_row 1 = .ok (.iload_n 1, 1) := by decide +kernel
theorem d_D_row_2 : decode b_D_row 2 = .ok (.invokevirtual 28, 3) := by decide +kernel
theorem d_D_row_5 : decode b_D_row 5 = .ok (.astore_n 3, 1) := by decide +kernel
theorem d_D_row_6 : decode b_D_row 6 = .ok (.iload_n 2, 1) := by decide +kernel
theorem d_D_row_7 : decode b_D_row 7 = .ok (.tableswitch 45 0 2 #[25, 30, 35], 25) := by decide +kernel
theorem d_D_row_32 : decode b_D_row 32 = .ok (.aload_n 3, 1) := by decide +kernel
theorem d_D_row_33 : decode b_D_row 33 = .ok (.getfield 43, 3) := by decide +kernel
theorem d_D_row_36 : decode b_D_row 36 = .ok (.ireturn, 1) := by decide +kernel
theorem d_D_row_37 : decode b_D_row 37 = .ok (.aload_n 3, 1) := by decide +kernel
theorem d_D_row_38 : decode b_D_row 38 = .ok (.getfield 87, 3) := by decide +kernel
theorem d_D_row_41 : decode b_D_row 41 = .ok (.ireturn, 1) := by decide +kernel
theorem d_D_row_42 : decode b_D_row 42 = .ok (.aload_n 3, 1) := by decide +kernel
theorem d_D_row_43 : decode b_D_row 43 = .ok (.getfield 43, 3) := by decide +kernel
theorem d_D_row_46 : decode b_D_row 46 = .ok (.aload_n 3, 1) := by decide +kernel
theorem d_D_row_47 : decode b_D_row 47 = .ok (.getfield 87, 3) := by decide +kernel
theorem d_D_row_50 : decode b_D_row 50 = .ok (.isub, 1) := by decide +kernel
theorem d_D_row_51 : decode b_D_row 51 = .ok (.ireturn, 1) := by decide +kernel
theorem d_D_row_52 : decode b_D_row 52 = .ok (.new 55, 3) := by decide +kernel
theorem d_D_row_55 : decode b_D_row 55 = .ok (.dup, 1) := by decide +kernel
theorem d_D_row_56 : decode b_D_row 56 = .ok (.ldc 145, 2) := by decide +kernel
theorem d_D_row_58 : decode b_D_row 58 = .ok (.invokespecial 59, 3) := by decide +kernel
theorem d_D_row_61 : decode b_D_row 61 = .ok (.athrow, 1) := by decide +kernel
theorem d_D_byteAt_0 : decode b_D_byteAt 0 = .ok (.aload_n 0, 1) := by decide +kernel
theorem d_D_byteAt_1 : decode b_D_byteAt 1 = .ok (.iload_n 1, 1) := by decide +kernel
theorem d_D_byteAt_2 : decode b_D_byteAt 2 = .ok (.invokevirtual 28, 3) := by decide +kernel
theorem d_D_byteAt_5 : decode b_D_byteAt 5 = .ok (.astore_n 3, 1) := by decide +kernel
theorem d_D_byteAt_6 : decode b_D_byteAt 6 = .ok (.iload_n 2, 1) := by decide +kernel
theorem d_D_byteAt_7 : decode b_D_byteAt 7 = .ok (.ifCond .lt 11, 3) := by decide +kernel
theorem d_D_byteAt_10 : decode b_D_byteAt 10 = .ok (.iload_n 2, 1) := by decide +kernel
theorem d_D_byteAt_11 : decode b_D_byteAt 11 = .ok (.aload_n 3, 1) := by decide +kernel
theorem d_D_byteAt_12 : decode b_D_byteAt 12 = .ok (.getfield 43, 3) := by decide +kernel
theorem d_D_byteAt_15 : decode b_D_byteAt 15 = .ok (.if_icmp .lt 13, 3) := by decide +kernel
theorem d_D_byteAt_18 : decode b_D_byteAt 18 = .ok (.new 55, 3) := by decide +kernel
theorem d_D_byteAt_21 : decode b_D_byteAt 21 = .ok (.dup, 1) := by decide +kernel
theorem d_D_byteAt_22 : decode b_D_byteAt 22 = .ok (.ldc 147, 2) := by decide +kernel
theorem d_D_byteAt_24 : decode b_D_byteAt 24 = .ok (.invokespecial 59, 3) := by decide +kernel
theorem d_D_byteAt_27 : decode b_D_byteAt 27 = .ok (.athrow, 1) := by decide +kernel
theorem d_D_byteAt_28 : decode b_D_byteAt 28 = .ok (.aload_n 3, 1) := by decide +kernel
theorem d_D_byteAt_29 : decode b_D_byteAt 29 = .ok (.iload_n 2, 1) := by decide +kernel
theorem d_D_byteAt_30 : decode b_D_byteAt 30 = .ok (.invokevirtual 92, 3) := by decide +kernel
theorem d_D_byteAt_33 : decode b_D_byteAt 33 = .ok (.ireturn, 1) := by decide +kernel
theorem d_D_rowOf_0 : decode b_D_rowOf 0 = .ok (.iload_n 1, 1) := by decide +kernel
theorem d_D_rowOf_1 : decode b_D_rowOf 1 = .ok (.ifCond .lt 8, 3) := by decide +kernel
theorem d_D_rowOf_4 : decode b_D_rowOf 4 = .ok (.iload_n 1, 1) := by decide +kernel
theorem d_D_rowOf_5 : decode b_D_rowOf 5 = .ok (.iconst 4, 1) := by decide +kernel
theorem d_D_rowOf_6 : decode b_D_rowOf 6 = .ok (.if_icmp .lt 13, 3) := by decide +kernel
theorem d_D_rowOf_9 : decode b_D_rowOf 9 = .ok (.new 149, 3) := by decide +kernel
theorem d_D_rowOf_12 : decode b_D_rowOf 12 = .ok (.dup, 1) := by decide +kernel
theorem d_D_rowOf_13 : decode b_D_rowOf 13 = .ok (.ldc 151, 2) := by decide +kernel
theorem d_D_rowOf_15 : decode b_D_rowOf 15 = .ok (.invokespecial 153, 3) := by decide +kernel
theorem d_D_rowOf_18 : decode b_D_rowOf 18 = .ok (.athrow, 1) := by decide +kernel
theorem d_D_rowOf_19 : decode b_D_rowOf 19 = .ok (.aload_n 0, 1) := by decide +kernel
theorem d_D_rowOf_20 : decode b_D_rowOf 20 = .ok (.getfield 21, 3) := by decide +kernel
theorem d_D_rowOf_23 : decode b_D_rowOf 23 = .ok (.iload_n 1, 1) := by decide +kernel
theorem d_D_rowOf_24 : decode b_D_rowOf 24 = .ok (.aaload, 1) := by decide +kernel
theorem d_D_rowOf_25 : decode b_D_rowOf 25 = .ok (.areturn, 1) := by decide +kernel
theorem d_D_needFixedWidth_0 : decode b_D_needFixedWidth 0 = .ok (.iload_n 0, 1) := by decide +kernel
theorem d_D_needFixedWidth_1 : decode b_D_needFixedWidth 1 = .ok (.iconst 1, 1) := by decide +kernel
theorem d_D_needFixedWidth_2 : decode b_D_needFixedWidth 2 = .ok (.if_icmp .lt 9, 3) := by decide +kernel
theorem d_D_needFixedWidth_5 : decode b_D_needFixedWidth 5 = .ok (.iload_n 0, 1) := by decide +kernel
theorem d_D_needFixedWidth_6 : decode b_D_needFixedWidth 6 = .ok (.bipush 8, 2) := by decide +kernel
theorem d_D_needFixedWidth_8 : decode b_D_needFixedWidth 8 = .ok (.if_icmp .le 13, 3) := by decide +kernel
theorem d_D_needFixedWidth_11 : decode b_D_needFixedWidth 11 = .ok (.new 55, 3) := by decide +kernel
theorem d_D_needFixedWidth_14 : decode b_D_needFixedWidth 14 = .ok (.dup, 1) := by decide +kernel
theorem d_D_needFixedWidth_15 : decode b_D_needFixedWidth 15 = .ok (.ldc 154, 2) := by decide +kernel
theorem d_D_needFixedWidth_17 : decode b_D_needFixedWidth 17 = .ok (.invokespecial 59, 3) := by decide +kernel
theorem d_D_needFixedWidth_20 : decode b_D_needFixedWidth 20 = .ok (.athrow, 1) := by decide +kernel
theorem d_D_needFixedWidth_21 : decode b_D_needFixedWidth 21 = .ok (.return_, 1) := by decide +kernel
theorem d_D_needTwoRows_0 : decode b_D_needTwoRows 0 = .ok (.iload_n 0, 1) := by decide +kernel
theorem d_D_needTwoRows_1 : decode b_D_needTwoRows 1 = .ok (.iload_n 1, 1) := by decide +kernel
theorem d_D_needTwoRows_2 : decode b_D_needTwoRows 2 = .ok (.if_icmp .ne 13, 3) := by decide +kernel
theorem d_D_needTwoRows_5 : decode b_D_needTwoRows 5 = .ok (.new 55, 3) := by decide +kernel
theorem d_D_needTwoRows_8 : decode b_D_needTwoRows 8 = .ok (.dup, 1) := by decide +kernel
theorem d_D_needTwoRows_9 : decode b_D_needTwoRows 9 = .ok (.ldc 156, 2) := by decide +kernel
theorem d_D_needTwoRows_11 : decode b_D_needTwoRows 11 = .ok (.invokespecial 59, 3) := by decide +kernel
theorem d_D_needTwoRows_14 : decode b_D_needTwoRows 14 = .ok (.athrow, 1) := by decide +kernel
theorem d_D_needTwoRows_15 : decode b_D_needTwoRows 15 = .ok (.return_, 1) := by decide +kernel
theorem d_D_needRange_0 : decode b_D_needRange 0 = .ok (.iload_n 1, 1) := by decide +kernel
theorem d_D_needRange_1 : decode b_D_needRange 1 = .ok (.ifCond .lt 25, 3) := by decide +kernel
theorem d_D_needRange_4 : decode b_D_needRange 4 = .ok (.iload_n 2, 1) := by decide +kernel
theorem d_D_needRange_5 : decode b_D_needRange 5 = .ok (.ifCond .lt 21, 3) := by decide +kernel
theorem d_D_needRange_8 : decode b_D_needRange 8 = .ok (.iload_n 1, 1) := by decide +kernel
theorem d_D_needRange_9 : decode b_D_needRange 9 = .ok (.aload_n 0, 1) := by decide +kernel
theorem d_D_needRange_10 : decode b_D_needRange 10 = .ok (.getfield 43, 3) := by decide +kernel
theorem d_D_needRange_13 : decode b_D_needRange 13 = .ok (.if_icmp .gt 13, 3) := by decide +kernel
theorem d_D_needRange_16 : decode b_D_needRange 16 = .ok (.iload_n 2, 1) := by decide +kernel
theorem d_D_needRange_17 : decode b_D_needRange 17 = .ok (.aload_n 0, 1) := by decide +kernel
theorem d_D_needRange_18 : decode b_D_needRange 18 = .ok (.getfield 43, 3) := by decide +kernel
theorem d_D_needRange_21 : decode b_D_needRange 21 = .ok (.iload_n 1, 1) := by decide +kernel
theorem d_D_needRange_22 : decode b_D_needRange 22 = .ok (.isub, 1) := by decide +kernel
theorem d_D_needRange_23 : decode b_D_needRange 23 = .ok (.if_icmp .le 13, 3) := by decide +kernel
theorem d_D_needRange_26 : decode b_D_needRange 26 = .ok (.new 55, 3) := by decide +kernel
theorem d_D_needRange_29 : decode b_D_needRange 29 = .ok (.dup, 1) := by decide +kernel
theorem d_D_needRange_30 : decode b_D_needRange 30 = .ok (.ldc 85, 2) := by decide +kernel
theorem d_D_needRange_32 : decode b_D_needRange 32 = .ok (.invokespecial 59, 3) := by decide +kernel
theorem d_D_needRange_35 : decode b_D_needRange 35 = .ok (.athrow, 1) := by decide +kernel
theorem d_D_needRange_36 : decode b_D_needRange 36 = .ok (.return_, 1) := by decide +kernel
theorem d_D_needRoom_0 : decode b_D_needRoom 0 = .ok (.iload_n 1, 1) := by decide +kernel
theorem d_D_needRoom_1 : decode b_D_needRoom 1 = .ok (.aload_n 0, 1) := by decide +kernel
theorem d_D_needRoom_2 : decode b_D_needRoom 2 = .ok (.getfield 95, 3) := by decide +kernel
theorem d_D_needRoom_5 : decode b_D_needRoom 5 = .ok (.arraylength, 1) := by decide +kernel
theorem d_D_needRoom_6 : decode b_D_needRoom 6 = .ok (.aload_n 0, 1) := by decide +kernel
theorem d_D_needRoom_7 : decode b_D_needRoom 7 = .ok (.getfield 43, 3) := by decide +kernel
theorem d_D_needRoom_10 : decode b_D_needRoom 10 = .ok (.isub, 1) := by decide +kernel
theorem d_D_needRoom_11 : decode b_D_needRoom 11 = .ok (.if_icmp .le 13, 3) := by decide +kernel
theorem d_D_needRoom_14 : decode b_D_needRoom 14 = .ok (.new 158, 3) := by decide +kernel
theorem d_D_needRoom_17 : decode b_D_needRoom 17 = .ok (.dup, 1) := by decide +kernel
theorem d_D_needRoom_18 : decode b_D_needRoom 18 = .ok (.ldc 160, 2) := by decide +kernel
theorem d_D_needRoom_20 : decode b_D_needRoom 20 = .ok (.invokespecial 162, 3) := by decide +kernel
theorem d_D_needRoom_23 : decode b_D_needRoom 23 = .ok (.athrow, 1) := by decide +kernel
theorem d_D_needRoom_24 : decode b_D_needRoom 24 = .ok (.return_, 1) := by decide +kernel
theorem d_D_needLeft_0 : decode b_D_needLeft 0 = .ok (.iload_n 1, 1) := by decide +kernel
theorem d_D_needLeft_1 : decode b_D_needLeft 1 = .ok (.aload_n 0, 1) := by decide +kernel
theorem d_D_needLeft_2 : decode b_D_needLeft 2 = .ok (.getfield 43, 3) := by decide +kernel
theorem d_D_needLeft_5 : decode b_D_needLeft 5 = .ok (.aload_n 0, 1) := by decide +kernel
theorem d_D_needLeft_6 : decode b_D_needLeft 6 = .ok (.getfield 87, 3) := by decide +kernel
theorem d_D_needLeft_9 : decode b_D_needLeft 9 = .ok (.isub, 1) := by decide +kernel
theorem d_D_needLeft_10 : decode b_D_needLeft 10 = .ok (.if_icmp .le 13, 3) := by decide +kernel
theorem d_D_needLeft_13 : decode b_D_needLeft 13 = .ok (.new 117, 3) := by decide +kernel
theorem d_D_needLeft_16 : decode b_D_needLeft 16 = .ok (.dup, 1) := by decide +kernel
theorem d_D_needLeft_17 : decode b_D_needLeft 17 = .ok (.ldc 163, 2) := by decide +kernel
theorem d_D_needLeft_19 : decode b_D_needLeft 19 = .ok (.invokespecial 121, 3) := by decide +kernel
theorem d_D_needLeft_22 : decode b_D_needLeft 22 = .ok (.athrow, 1) := by decide +kernel
theorem d_D_needLeft_23 : decode b_D_needLeft 23 = .ok (.return_, 1) := by decide +kernel
theorem d_D_addFixed_0 : decode b_D_addFixed 0 = .ok (.iconst 0, 1) := by decide +kernel
theorem d_D_addFixed_1 : decode b_D_addFixed 1 = .ok (.istore 4, 2) := by decide +kernel
theorem d_D_addFixed_3 : decode b_D_addFixed 3 = .ok (.iload 4, 2) := by decide +kernel
theorem d_D_addFixed_5 : decode b_D_addFixed 5 = .ok (.iload_n 3, 1) := by decide +kernel
theorem d_D_addFixed_6 : decode b_D_addFixed 6 = .ok (.if_icmp .ge 21, 3) := by decide +kernel
theorem d_D_addFixed_9 : decode b_D_addFixed 9 = .ok (.aload_n 0, 1) := by decide +kernel
theorem d_D_addFixed_10 : decode b_D_addFixed 10 = .ok (.lload_n 1, 1) := by decide +kernel
theorem d_D_addFixed_11 : decode b_D_addFixed 11 = .ok (.bipush 8, 2) := by decide +kernel
theorem d_D_addFixed_13 : decode b_D_addFixed 13 = .ok (.iload 4, 2) := by decide +kernel
theorem d_D_addFixed_15 : decode b_D_addFixed 15 = .ok (.imul, 1) := by decide +kernel
theorem d_D_addFixed_16 : decode b_D_addFixed 16 = .ok (.lushr, 1) := by decide +kernel
theorem d_D_addFixed_17 : decode b_D_addFixed 17 = .ok (.l2i, 1) := by decide +kernel
theorem d_D_addFixed_18 : decode b_D_addFixed 18 = .ok (.invokevirtual 165, 3) := by decide +kernel
theorem d_D_addFixed_21 : decode b_D_addFixed 21 = .ok (.iinc 4 1, 3) := by decide +kernel
theorem d_D_addFixed_24 : decode b_D_addFixed 24 = .ok (.goto (-21), 3) := by decide +kernel
theorem d_D_addFixed_27 : decode b_D_addFixed 27 = .ok (.return_, 1) := by decide +kernel
theorem d_D_fixedAt_0 : decode b_D_fixedAt 0 = .ok (.lconst 0, 1) := by decide +kernel
theorem d_D_fixedAt_1 : decode b_D_fixedAt 1 = .ok (.lstore_n 3, 1) := by decide +kernel
theorem d_D_fixedAt_2 : decode b_D_fixedAt 2 = .ok (.iconst 0, 1) := by decide +kernel
theorem d_D_fixedAt_3 : decode b_D_fixedAt 3 = .ok (.istore 5, 2) := by decide +kernel
theorem d_D_fixedAt_5 : decode b_D_fixedAt 5 = .ok (.iload 5, 2) := by decide +kernel
theorem d_D_fixedAt_7 : decode b_D_fixedAt 7 = .ok (.iload_n 2, 1) := by decide +kernel
theorem d_D_fixedAt_8 : decode b_D_fixedAt 8 = .ok (.if_icmp .ge 27, 3) := by decide +kernel
theorem d_D_fixedAt_11 : decode b_D_fixedAt 11 = .ok (.lload_n 3, 1) := by decide +kernel
theorem d_D_fixedAt_12 : decode b_D_fixedAt 12 = .ok (.aload_n 0, 1) := by decide +kernel
theorem d_D_fixedAt_13 : decode b_D_fixedAt 13 = .ok (.iload_n 1, 1) := by decide +kernel
theorem d_D_fixedAt_14 : decode b_D_fixedAt 14 = .ok (.iload 5, 2) := by decide +kernel
theorem d_D_fixedAt_16 : decode b_D_fixedAt 16 = .ok (.iadd, 1) := by decide +kernel
theorem d_D_fixedAt_17 : decode b_D_fixedAt 17 = .ok (.invokevirtual 92, 3) := by decide +kernel
theorem d_D_fixedAt_20 : decode b_D_fixedAt 20 = .ok (.i2l, 1) := by decide +kernel
theorem d_D_fixedAt_21 : decode b_D_fixedAt 21 = .ok (.bipush 8, 2) := by decide +kernel
theorem d_D_fixedAt_23 : decode b_D_fixedAt 23 = .ok (.iload 5, 2) := by decide +kernel
theorem d_D_fixedAt_25 : decode b_D_fixedAt 25 = .ok (.imul, 1) := by decide +kernel
theorem d_D_fixedAt_26 : decode b_D_fixedAt 26 = .ok (.lshl, 1) := by decide +kernel
theorem d_D_fixedAt_27 : decode b_D_fixedAt 27 = .ok (.lor, 1) := by decide +kernel
theorem d_D_fixedAt_28 : decode b_D_fixedAt 28 = .ok (.lstore_n 3, 1) := by decide +kernel
theorem d_D_fixedAt_29 : decode b_D_fixedAt 29 = .ok (.iinc 5 1, 3) := by decide +kernel
theorem d_D_fixedAt_32 : decode b_D_fixedAt 32 = .ok (.goto (-27), 3) := by decide +kernel
theorem d_D_fixedAt_35 : decode b_D_fixedAt 35 = .ok (.lload_n 3, 1) := by decide +kernel
theorem d_D_fixedAt_36 : decode b_D_fixedAt 36 = .ok (.lreturn, 1) := by decide +kernel
theorem d_D_sevensWidth_0 : decode b_D_sevensWidth 0 = .ok (.iconst 1, 1) := by decide +kernel
theorem d_D_sevensWidth_1 : decode b_D_sevensWidth 1 = .ok (.istore_n 2, 1) := by decide +kernel
theorem d_D_sevensWidth_2 : decode b_D_sevensWidth 2 = .ok (.iload_n 2, 1) := by decide +kernel
theorem d_D_sevensWidth_3 : decode b_D_sevensWidth 3 = .ok (.bipush 10, 2) := by decide +kernel
theorem d_D_sevensWidth_5 : decode b_D_sevensWidth 5 = .ok (.if_icmp .ge 22, 3) := by decide +kernel
theorem d_D_sevensWidth_8 : decode b_D_sevensWidth 8 = .ok (.lload_n 0, 1) := by decide +kernel
theorem d_D_sevensWidth_9 : decode b_D_sevensWidth 9 = .ok (.bipush 7, 2) := by decide +kernel
theorem d_D_sevensWidth_11 : decode b_D_sevensWidth 11 = .ok (.iload_n 2, 1) := by decide +kernel
theorem d_D_sevensWidth_12 : decode b_D_sevensWidth 12 = .ok (.imul, 1) := by decide +kernel
theorem d_D_sevensWidth_13 : decode b_D_sevensWidth 13 = .ok (.lushr, 1) := by decide +kernel
theorem d_D_sevensWidth_14 : decode b_D_sevensWidth 14 = .ok (.lconst 0, 1) := by decide +kernel
theorem d_D_sevensWidth_15 : decode b_D_sevensWidth 15 = .ok (.lcmp, 1) := by decide +kernel
theorem d_D_sevensWidth_16 : decode b_D_sevensWidth 16 = .ok (.ifCond .ne 5, 3) := by decide +kernel
theorem d_D_sevensWidth_19 : decode b_D_sevensWidth 19 = .ok (.iload_n 2, 1) := by decide +kernel
theorem d_D_sevensWidth_20 : decode b_D_sevensWidth 20 = .ok (.ireturn, 1) := by decide +kernel
theorem d_D_sevensWidth_21 : decode b_D_sevensWidth 21 = .ok (.iinc 2 1, 3) := by decide +kernel
theorem d_D_sevensWidth_24 : decode b_D_sevensWidth 24 = .ok (.goto (-22), 3) := by decide +kernel
theorem d_D_sevensWidth_27 : decode b_D_sevensWidth 27 = .ok (.bipush 10, 2) := by decide +kernel
theorem d_D_sevensWidth_29 : decode b_D_sevensWidth 29 = .ok (.ireturn, 1) := by decide +kernel
theorem d_D_writeSevens_0 : decode b_D_writeSevens 0 = .ok (.lload_n 1, 1) := by decide +kernel
theorem d_D_writeSevens_1 : decode b_D_writeSevens 1 = .ok (.invokestatic 73, 3) := by decide +kernel
theorem d_D_writeSevens_4 : decode b_D_writeSevens 4 = .ok (.istore_n 3, 1) := by decide +kernel
theorem d_D_writeSevens_5 : decode b_D_writeSevens 5 = .ok (.aload_n 0, 1) := by decide +kernel
theorem d_D_writeSevens_6 : decode b_D_writeSevens 6 = .ok (.iload_n 3, 1) := by decide +kernel
theorem d_D_writeSevens_7 : decode b_D_writeSevens 7 = .ok (.invokestatic 35, 3) := by decide +kernel
theorem d_D_writeSevens_10 : decode b_D_writeSevens 10 = .ok (.aload_n 0, 1) := by decide +kernel
theorem d_D_writeSevens_11 : decode b_D_writeSevens 11 = .ok (.lload_n 1, 1) := by decide +kernel
theorem d_D_writeSevens_12 : decode b_D_writeSevens 12 = .ok (.invokestatic 77, 3) := by decide +kernel
theorem d_D_writeSevens_15 : decode b_D_writeSevens 15 = .ok (.iload_n 3, 1) := by decide +kernel
theorem d_D_writeSevens_16 : decode b_D_writeSevens 16 = .ok (.ireturn, 1) := by decide +kernel
theorem d_D_addSevens_0 : decode b_D_addSevens 0 = .ok (.lload_n 1, 1) := by decide +kernel
theorem d_D_addSevens_1 : decode b_D_addSevens 1 = .ok (.invokestatic 73, 3) := by decide +kernel
theorem d_D_addSevens_4 : decode b_D_addSevens 4 = .ok (.iconst 1, 1) := by decide +kernel
theorem d_D_addSevens_5 : decode b_D_addSevens 5 = .ok (.isub, 1) := by decide +kernel
theorem d_D_addSevens_6 : decode b_D_addSevens 6 = .ok (.istore_n 3, 1) := by decide +kernel
theorem d_D_addSevens_7 : decode b_D_addSevens 7 = .ok (.iconst 0, 1) := by decide +kernel
theorem d_D_addSevens_8 : decode b_D_addSevens 8 = .ok (.istore 4, 2) := by decide +kernel
theorem d_D_addSevens_10 : decode b_D_addSevens 10 = .ok (.iload 4, 2) := by decide +kernel
theorem d_D_addSevens_12 : decode b_D_addSevens 12 = .ok (.iload_n 3, 1) := by decide +kernel
theorem d_D_addSevens_13 : decode b_D_addSevens 13 = .ok (.if_icmp .ge 28, 3) := by decide +kernel
theorem d_D_addSevens_16 : decode b_D_addSevens 16 = .ok (.aload_n 0, 1) := by decide +kernel
theorem d_D_addSevens_17 : decode b_D_addSevens 17 = .ok (.sipush 128, 3) := by decide +kernel
theorem d_D_addSevens_20 : decode b_D_addSevens 20 = .ok (.lload_n 1, 1) := by decide +kernel
theorem d_D_addSevens_21 : decode b_D_addSevens 21 = .ok (.bipush 7, 2) := by decide +kernel
theorem d_D_addSevens_23 : decode b_D_addSevens 23 = .ok (.iload 4, 2) := by decide +kernel
theorem d_D_addSevens_25 : decode b_D_addSevens 25 = .ok (.imul, 1) := by decide +kernel
theorem d_D_addSevens_26 : decode b_D_addSevens 26 = .ok (.lushr, 1) := by decide +kernel
theorem d_D_addSevens_27 : decode b_D_addSevens 27 = .ok (.l2i, 1) := by decide +kernel
theorem d_D_addSevens_28 : decode b_D_addSevens 28 = .ok (.bipush 127, 2) := by decide +kernel
theorem d_D_addSevens_30 : decode b_D_addSevens 30 = .ok (.iand, 1) := by decide +kernel
theorem d_D_addSevens_31 : decode b_D_addSevens 31 = .ok (.ior, 1) := by decide +kernel
theorem d_D_addSevens_32 : decode b_D_addSevens 32 = .ok (.invokevirtual 165, 3) := by decide +kernel
theorem d_D_addSevens_35 : decode b_D_addSevens 35 = .ok (.iinc 4 1, 3) := by decide +kernel
theorem d_D_addSevens_38 : decode b_D_addSevens 38 = .ok (.goto (-28), 3) := by decide +kernel
theorem d_D_addSevens_41 : decode b_D_addSevens 41 = .ok (.aload_n 0, 1) := by decide +kernel
theorem d_D_addSevens_42 : decode b_D_addSevens 42 = .ok (.lload_n 1, 1) := by decide +kernel
theorem d_D_addSevens_43 : decode b_D_addSevens 43 = .ok (.bipush 7, 2) := by decide +kernel
theorem d_D_addSevens_45 : decode b_D_addSevens 45 = .ok (.iload_n 3, 1) := by decide +kernel
theorem d_D_addSevens_46 : decode b_D_addSevens 46 = .ok (.imul, 1) := by decide +kernel
theorem d_D_addSevens_47 : decode b_D_addSevens 47 = .ok (.lushr, 1) := by decide +kernel
theorem d_D_addSevens_48 : decode b_D_addSevens 48 = .ok (.l2i, 1) := by decide +kernel
theorem d_D_addSevens_49 : decode b_D_addSevens 49 = .ok (.invokevirtual 165, 3) := by decide +kernel
theorem d_D_addSevens_52 : decode b_D_addSevens 52 = .ok (.return_, 1) := by decide +kernel
theorem d_D_sevensWidthAtPlace_0 : decode b_D_sevensWidthAtPlace 0 = .ok (.iconst 0, 1) := by decide +kernel
theorem d_D_sevensWidthAtPlace_1 : decode b_D_sevensWidthAtPlace 1 = .ok (.istore_n 1, 1) := by decide +kernel
theorem d_D_sevensWidthAtPlace_2 : decode b_D_sevensWidthAtPlace 2 = .ok (.iload_n 1, 1) := by decide +kernel
theorem d_D_sevensWidthAtPlace_3 : decode b_D_sevensWidthAtPlace 3 = .ok (.bipush 10, 2) := by decide +kernel
theorem d_D_sevensWidthAtPlace_5 : decode b_D_sevensWidthAtPlace 5 = .ok (.if_icmp .ge 45, 3) := by decide +kernel
theorem d_D_sevensWidthAtPlace_8 : decode b_D_sevensWidthAtPlace 8 = .ok (.aload_n 0, 1) := by decide +kernel
theorem d_D_sevensWidthAtPlace_9 : decode b_D_sevensWidthAtPlace 9 = .ok (.iload_n 1, 1) := by decide +kernel
theorem d_D_sevensWidthAtPlace_10 : decode b_D_sevensWidthAtPlace 10 = .ok (.iconst 1, 1) := by decide +kernel
theorem d_D_sevensWidthAtPlace_11 : decode b_D_sevensWidthAtPlace 11 = .ok (.iadd, 1) := by decide +kernel
theorem d_D_sevensWidthAtPlace_12 : decode b_D_sevensWidthAtPlace 12 = .ok (.invokestatic 101, 3) := by decide +kernel
theorem d_D_sevensWidthAtPlace_15 : decode b_D_sevensWidthAtPlace 15 = .ok (.aload_n 0, 1) := by decide +kernel
theorem d_D_sevensWidthAtPlace_16 : decode b_D_sevensWidthAtPlace 16 = .ok (.aload_n 0, 1) := by decide +kernel
theorem d_D_sevensWidthAtPlace_17 : decode b_D_sevensWidthAtPlace 17 = .ok (.getfield 87, 3) := by decide +kernel
theorem d_D_sevensWidthAtPlace_20 : decode b_D_sevensWidthAtPlace 20 = .ok (.iload_n 1, 1) := by decide +kernel
theorem d_D_sevensWidthAtPlace_21 : decode b_D_sevensWidthAtPlace 21 = .ok (.iadd, 1) := by decide +kernel
theorem d_D_sevensWidthAtPlace_22 : decode b_D_sevensWidthAtPlace 22 = .ok (.invokevirtual 92, 3) := by decide +kernel
theorem d_D_sevensWidthAtPlace_25 : decode b_D_sevensWidthAtPlace 25 = .ok (.istore_n 2, 1) := by decide +kernel
theorem d_D_sevensWidthAtPlace_26 : decode b_D_sevensWidthAtPlace 26 = .ok (.iload_n 2, 1) := by decide +kernel
theorem d_D_sevensWidthAtPlace_27 : decode b_D_sevensWidthAtPlace 27 = .ok (.sipush 128, 3) := by decide +kernel
theorem d_D_sevensWidthAtPlace_30 : decode b_D_sevensWidthAtPlace 30 = .ok (.if_icmp .ge 14, 3) := by decide +kernel
theorem d_D_sevensWidthAtPlace_33 : decode b_D_sevensWidthAtPlace 33 = .ok (.iload_n 2, 1) := by decide +kernel
theorem d_D_sevensWidthAtPlace_34 : decode b_D_sevensWidthAtPlace 34 = .ok (.iload_n 1, 1) := by decide +kernel
theorem d_D_sevensWidthAtPlace_35 : decode b_D_sevensWidthAtPlace 35 = .ok (.iconst 1, 1) := by decide +kernel
theorem d_D_sevensWidthAtPlace_36 : decode b_D_sevensWidthAtPlace 36 = .ok (.iadd, 1) := by decide +kernel
theorem d_D_sevensWidthAtPlace_37 : decode b_D_sevensWidthAtPlace 37 = .ok (.invokestatic 168, 3) := by decide +kernel
theorem d_D_sevensWidthAtPlace_40 : decode b_D_sevensWidthAtPlace 40 = .ok (.iload_n 1, 1) := by decide +kernel
theorem d_D_sevensWidthAtPlace_41 : decode b_D_sevensWidthAtPlace 41 = .ok (.iconst 1, 1) := by decide +kernel
theorem d_D_sevensWidthAtPlace_42 : decode b_D_sevensWidthAtPlace 42 = .ok (.iadd, 1) := by decide +kernel
theorem d_D_sevensWidthAtPlace_43 : decode b_D_sevensWidthAtPlace 43 = .ok (.ireturn, 1) := by decide +kernel
theorem d_D_sevensWidthAtPlace_44 : decode b_D_sevensWidthAtPlace 44 = .ok (.iinc 1 1, 3) := by decide +kernel
theorem d_D_sevensWidthAtPlace_47 : decode b_D_sevensWidthAtPlace 47 = .ok (.goto (-45), 3) := by decide +kernel
theorem d_D_sevensWidthAtPlace_50 : decode b_D_sevensWidthAtPlace 50 = .ok (.new 55, 3) := by decide +kernel
theorem d_D_sevensWidthAtPlace_53 : decode b_D_sevensWidthAtPlace 53 = .ok (.dup, 1) := by decide +kernel
theorem d_D_sevensWidthAtPlace_54 : decode b_D_sevensWidthAtPlace 54 = .ok (.ldc 171, 2) := by decide +kernel
theorem d_D_sevensWidthAtPlace_56 : decode b_D_sevensWidthAtPlace 56 = .ok (.invokespecial 59, 3) := by decide +kernel
theorem d_D_sevensWidthAtPlace_59 : decode b_D_sevensWidthAtPlace 59 = .ok (.athrow, 1) := by decide +kernel
theorem d_D_needRightLast_0 : decode b_D_needRightLast 0 = .ok (.iload_n 1, 1) := by decide +kernel
theorem d_D_needRightLast_1 : decode b_D_needRightLast 1 = .ok (.iconst 1, 1) := by decide +kernel
theorem d_D_needRightLast_2 : decode b_D_needRightLast 2 = .ok (.if_icmp .le 17, 3) := by decide +kernel
theorem d_D_needRightLast_5 : decode b_D_needRightLast 5 = .ok (.iload_n 0, 1) := by decide +kernel
theorem d_D_needRightLast_6 : decode b_D_needRightLast 6 = .ok (.ifCond .ne 13, 3) := by decide +kernel
theorem d_D_needRightLast_9 : decode b_D_needRightLast 9 = .ok (.new 55, 3) := by decide +kernel
theorem d_D_needRightLast_12 : decode b_D_needRightLast 12 = .ok (.dup, 1) := by decide +kernel
theorem d_D_needRightLast_13 : decode b_D_needRightLast 13 = .ok (.ldc 173, 2) := by decide +kernel
theorem d_D_needRightLast_15 : decode b_D_needRightLast 15 = .ok (.invokespecial 59, 3) := by decide +kernel
theorem d_D_needRightLast_18 : decode b_D_needRightLast 18 = .ok (.athrow, 1) := by decide +kernel
theorem d_D_needRightLast_19 : decode b_D_needRightLast 19 = .ok (.iload_n 1, 1) := by decide +kernel
theorem d_D_needRightLast_20 : decode b_D_needRightLast 20 = .ok (.bipush 10, 2) := by decide +kernel
theorem d_D_needRightLast_22 : decode b_D_needRightLast 22 = .ok (.if_icmp .ne 18, 3) := by decide +kernel
theorem d_D_needRightLast_25 : decode b_D_needRightLast 25 = .ok (.iload_n 0, 1) := by decide +kernel
theorem d_D_needRightLast_26 : decode b_D_needRightLast 26 = .ok (.iconst 1, 1) := by decide +kernel
theorem d_D_needRightLast_27 : decode b_D_needRightLast 27 = .ok (.if_icmp .le 13, 3) := by decide +kernel
theorem d_D_needRightLast_30 : decode b_D_needRightLast 30 = .ok (.new 55, 3) := by decide +kernel
theorem d_D_needRightLast_33 : decode b_D_needRightLast 33 = .ok (.dup, 1) := by decide +kernel
theorem d_D_needRightLast_34 : decode b_D_needRightLast 34 = .ok (.ldc 175, 2) := by decide +kernel
theorem d_D_needRightLast_36 : decode b_D_needRightLast 36 = .ok (.invokespecial 59, 3) := by decide +kernel
theorem d_D_needRightLast_39 : decode b_D_needRightLast 39 = .ok (.athrow, 1) := by decide +kernel
theorem d_D_needRightLast_40 : decode b_D_needRightLast 40 = .ok (.return_, 1) := by decide +kernel
