/-! decode rows -/
theorem d_M_letter_0 : decode b_M_letter 0 = .ok (.aload_n 0, 1) := by decide +kernel
theorem d_M_letter_1 : decode b_M_letter 1 = .ok (.iconst 0, 1) := by decide +kernel
theorem d_M_letter_2 : decode b_M_letter 2 = .ok (.putfield 26, 3) := by decide +kernel
theorem d_M_letter_5 : decode b_M_letter 5 = .ok (.iload_n 1, 1) := by decide +kernel
theorem d_M_letter_6 : decode b_M_letter 6 = .ok (.invokestatic 52, 3) := by decide +kernel
theorem d_M_letter_9 : decode b_M_letter 9 = .ok (.ifCond .ne 9, 3) := by decide +kernel
theorem d_M_letter_12 : decode b_M_letter 12 = .ok (.aload_n 0, 1) := by decide +kernel
theorem d_M_letter_13 : decode b_M_letter 13 = .ok (.iconst 1, 1) := by decide +kernel
theorem d_M_letter_14 : decode b_M_letter 14 = .ok (.invokevirtual 56, 3) := by decide +kernel
theorem d_M_letter_17 : decode b_M_letter 17 = .ok (.ireturn, 1) := by decide +kernel
theorem d_M_letter_18 : decode b_M_letter 18 = .ok (.iload_n 2, 1) := by decide +kernel
theorem d_M_letter_19 : decode b_M_letter 19 = .ok (.invokestatic 79, 3) := by decide +kernel
theorem d_M_letter_22 : decode b_M_letter 22 = .ok (.ifCond .ne 9, 3) := by decide +kernel
theorem d_M_letter_25 : decode b_M_letter 25 = .ok (.aload_n 0, 1) := by decide +kernel
theorem d_M_letter_26 : decode b_M_letter 26 = .ok (.iconst 2, 1) := by decide +kernel
theorem d_M_letter_27 : decode b_M_letter 27 = .ok (.invokevirtual 56, 3) := by decide +kernel
theorem d_M_letter_30 : decode b_M_letter 30 = .ok (.ireturn, 1) := by decide +kernel
theorem d_M_letter_31 : decode b_M_letter 31 = .ok (.iload_n 2, 1) := by decide +kernel
theorem d_M_letter_32 : decode b_M_letter 32 = .ok (.invokestatic 82, 3) := by decide +kernel
theorem d_M_letter_35 : decode b_M_letter 35 = .ok (.istore_n 3, 1) := by decide +kernel
theorem d_M_letter_36 : decode b_M_letter 36 = .ok (.aload_n 0, 1) := by decide +kernel
theorem d_M_letter_37 : decode b_M_letter 37 = .ok (.iload_n 1, 1) := by decide +kernel
theorem d_M_letter_38 : decode b_M_letter 38 = .ok (.iload_n 3, 1) := by decide +kernel
theorem d_M_letter_39 : decode b_M_letter 39 = .ok (.invokevirtual 60, 3) := by decide +kernel
theorem d_M_letter_42 : decode b_M_letter 42 = .ok (.ifCond .ne 9, 3) := by decide +kernel
theorem d_M_letter_45 : decode b_M_letter 45 = .ok (.aload_n 0, 1) := by decide +kernel
theorem d_M_letter_46 : decode b_M_letter 46 = .ok (.iconst 3, 1) := by decide +kernel
theorem d_M_letter_47 : decode b_M_letter 47 = .ok (.invokevirtual 56, 3) := by decide +kernel
theorem d_M_letter_50 : decode b_M_letter 50 = .ok (.ireturn, 1) := by decide +kernel
theorem d_M_letter_51 : decode b_M_letter 51 = .ok (.iload_n 3, 1) := by decide +kernel
theorem d_M_letter_52 : decode b_M_letter 52 = .ok (.iconst 1, 1) := by decide +kernel
theorem d_M_letter_53 : decode b_M_letter 53 = .ok (.if_icmp .ne 7, 3) := by decide +kernel
theorem d_M_letter_56 : decode b_M_letter 56 = .ok (.iconst 0, 1) := by decide +kernel
theorem d_M_letter_57 : decode b_M_letter 57 = .ok (.goto 28, 3) := by decide +kernel
theorem d_M_letter_60 : decode b_M_letter 60 = .ok (.iload_n 3, 1) := by decide +kernel
theorem d_M_letter_61 : decode b_M_letter 61 = .ok (.iconst 2, 1) := by decide +kernel
theorem d_M_letter_62 : decode b_M_letter 62 = .ok (.if_icmp .ne 9, 3) := by decide +kernel
theorem d_M_letter_65 : decode b_M_letter 65 = .ok (.sipush 192, 3) := by decide +kernel
theorem d_M_letter_68 : decode b_M_letter 68 = .ok (.goto 17, 3) := by decide +kernel
theorem d_M_letter_71 : decode b_M_letter 71 = .ok (.iload_n 3, 1) := by decide +kernel
theorem d_M_letter_72 : decode b_M_letter 72 = .ok (.iconst 3, 1) := by decide +kernel
theorem d_M_letter_73 : decode b_M_letter 73 = .ok (.if_icmp .ne 9, 3) := by decide +kernel
theorem d_M_letter_76 : decode b_M_letter 76 = .ok (.sipush 224, 3) := by decide +kernel
theorem d_M_letter_79 : decode b_M_letter 79 = .ok (.goto 6, 3) := by decide +kernel
theorem d_M_letter_82 : decode b_M_letter 82 = .ok (.sipush 240, 3) := by decide +kernel
theorem d_M_letter_85 : decode b_M_letter 85 = .ok (.istore 4, 2) := by decide +kernel
theorem d_M_letter_87 : decode b_M_letter 87 = .ok (.iload_n 3, 1) := by decide +kernel
theorem d_M_letter_88 : decode b_M_letter 88 = .ok (.iconst 1, 1) := by decide +kernel
theorem d_M_letter_89 : decode b_M_letter 89 = .ok (.isub, 1) := by decide +kernel
theorem d_M_letter_90 : decode b_M_letter 90 = .ok (.istore 5, 2) := by decide +kernel
theorem d_M_letter_92 : decode b_M_letter 92 = .ok (.iload 5, 2) := by decide +kernel
theorem d_M_letter_94 : decode b_M_letter 94 = .ok (.ifCond .lt 48, 3) := by decide +kernel
theorem d_M_letter_97 : decode b_M_letter 97 = .ok (.iload_n 2, 1) := by decide +kernel
theorem d_M_letter_98 : decode b_M_letter 98 = .ok (.bipush 6, 2) := by decide +kernel
theorem d_M_letter_100 : decode b_M_letter 100 = .ok (.iload 5, 2) := by decide +kernel
theorem d_M_letter_102 : decode b_M_letter 102 = .ok (.imul, 1) := by decide +kernel
theorem d_M_letter_103 : decode b_M_letter 103 = .ok (.ishr, 1) := by decide +kernel
theorem d_M_letter_104 : decode b_M_letter 104 = .ok (.istore 6, 2) := by decide +kernel
theorem d_M_letter_106 : decode b_M_letter 106 = .ok (.aload_n 0, 1) := by decide +kernel
theorem d_M_letter_107 : decode b_M_letter 107 = .ok (.iload_n 1, 1) := by decide +kernel
theorem d_M_letter_108 : decode b_M_letter 108 = .ok (.iload 5, 2) := by decide +kernel
theorem d_M_letter_110 : decode b_M_letter 110 = .ok (.iload_n 3, 1) := by decide +kernel
theorem d_M_letter_111 : decode b_M_letter 111 = .ok (.iconst 1, 1) := by decide +kernel
theorem d_M_letter_112 : decode b_M_letter 112 = .ok (.isub, 1) := by decide +kernel
theorem d_M_letter_113 : decode b_M_letter 113 = .ok (.if_icmp .ne 11, 3) := by decide +kernel
theorem d_M_letter_116 : decode b_M_letter 116 = .ok (.iload 4, 2) := by decide +kernel
theorem d_M_letter_118 : decode b_M_letter 118 = .ok (.iload 6, 2) := by decide +kernel
theorem d_M_letter_120 : decode b_M_letter 120 = .ok (.iadd, 1) := by decide +kernel
theorem d_M_letter_121 : decode b_M_letter 121 = .ok (.goto 12, 3) := by decide +kernel
theorem d_M_letter_124 : decode b_M_letter 124 = .ok (.sipush 128, 3) := by decide +kernel
theorem d_M_letter_127 : decode b_M_letter 127 = .ok (.iload 6, 2) := by decide +kernel
theorem d_M_letter_129 : decode b_M_letter 129 = .ok (.bipush 63, 2) := by decide +kernel
theorem d_M_letter_131 : decode b_M_letter 131 = .ok (.iand, 1) := by decide +kernel
theorem d_M_letter_132 : decode b_M_letter 132 = .ok (.iadd, 1) := by decide +kernel
theorem d_M_letter_133 : decode b_M_letter 133 = .ok (.invokevirtual 43, 3) := by decide +kernel
theorem d_M_letter_136 : decode b_M_letter 136 = .ok (.iinc 5 (-1), 3) := by decide +kernel
theorem d_M_letter_139 : decode b_M_letter 139 = .ok (.goto (-47), 3) := by decide +kernel
theorem d_M_letter_142 : decode b_M_letter 142 = .ok (.iload_n 3, 1) := by decide +kernel
theorem d_M_letter_143 : decode b_M_letter 143 = .ok (.ireturn, 1) := by decide +kernel
theorem d_M_has_0 : decode b_M_has 0 = .ok (.iload_n 2, 1) := by decide +kernel
theorem d_M_has_1 : decode b_M_has 1 = .ok (.ifCond .lt 33, 3) := by decide +kernel
theorem d_M_has_4 : decode b_M_has 4 = .ok (.iload_n 3, 1) := by decide +kernel
theorem d_M_has_5 : decode b_M_has 5 = .ok (.ifCond .lt 29, 3) := by decide +kernel
theorem d_M_has_8 : decode b_M_has 8 = .ok (.iload_n 2, 1) := by decide +kernel
theorem d_M_has_9 : decode b_M_has 9 = .ok (.aload_n 0, 1) := by decide +kernel
theorem d_M_has_10 : decode b_M_has 10 = .ok (.getfield 14, 3) := by decide +kernel
theorem d_M_has_13 : decode b_M_has 13 = .ok (.iload_n 1, 1) := by decide +kernel
theorem d_M_has_14 : decode b_M_has 14 = .ok (.iaload, 1) := by decide +kernel
theorem d_M_has_15 : decode b_M_has 15 = .ok (.if_icmp .gt 19, 3) := by decide +kernel
theorem d_M_has_18 : decode b_M_has 18 = .ok (.iload_n 3, 1) := by decide +kernel
theorem d_M_has_19 : decode b_M_has 19 = .ok (.aload_n 0, 1) := by decide +kernel
theorem d_M_has_20 : decode b_M_has 20 = .ok (.getfield 14, 3) := by decide +kernel
theorem d_M_has_23 : decode b_M_has 23 = .ok (.iload_n 1, 1) := by decide +kernel
theorem d_M_has_24 : decode b_M_has 24 = .ok (.iaload, 1) := by decide +kernel
theorem d_M_has_25 : decode b_M_has 25 = .ok (.iload_n 2, 1) := by decide +kernel
theorem d_M_has_26 : decode b_M_has 26 = .ok (.isub, 1) := by decide +kernel
theorem d_M_has_27 : decode b_M_has 27 = .ok (.if_icmp .gt 7, 3) := by decide +kernel
theorem d_M_has_30 : decode b_M_has 30 = .ok (.iconst 1, 1) := by decide +kernel
theorem d_M_has_31 : decode b_M_has 31 = .ok (.goto 4, 3) := by decide +kernel
theorem d_M_has_34 : decode b_M_has 34 = .ok (.iconst 0, 1) := by decide +kernel
theorem d_M_has_35 : decode b_M_has 35 = .ok (.ireturn, 1) := by decide +kernel
theorem d_M_copy_0 : decode b_M_copy 0 = .ok (.aload_n 0, 1) := by decide +kernel
theorem d_M_copy_1 : decode b_M_copy 1 = .ok (.iconst 0, 1) := by decide +kernel
theorem d_M_copy_2 : decode b_M_copy 2 = .ok (.putfield 26, 3) := by decide +kernel
theorem d_M_copy_5 : decode b_M_copy 5 = .ok (.iload_n 1, 1) := by decide +kernel
theorem d_M_copy_6 : decode b_M_copy 6 = .ok (.invokestatic 52, 3) := by decide +kernel
theorem d_M_copy_9 : decode b_M_copy 9 = .ok (.ifCond .eq 10, 3) := by decide +kernel
theorem d_M_copy_12 : decode b_M_copy 12 = .ok (.iload_n 2, 1) := by decide +kernel
theorem d_M_copy_13 : decode b_M_copy 13 = .ok (.invokestatic 52, 3) := by decide +kernel
theorem d_M_copy_16 : decode b_M_copy 16 = .ok (.ifCond .ne 9, 3) := by decide +kernel
theorem d_M_copy_19 : decode b_M_copy 19 = .ok (.aload_n 0, 1) := by decide +kernel
theorem d_M_copy_20 : decode b_M_copy 20 = .ok (.iconst 1, 1) := by decide +kernel
theorem d_M_copy_21 : decode b_M_copy 21 = .ok (.invokevirtual 56, 3) := by decide +kernel
theorem d_M_copy_24 : decode b_M_copy 24 = .ok (.ireturn, 1) := by decide +kernel
theorem d_M_copy_25 : decode b_M_copy 25 = .ok (.aload_n 0, 1) := by decide +kernel
theorem d_M_copy_26 : decode b_M_copy 26 = .ok (.iload_n 2, 1) := by decide +kernel
theorem d_M_copy_27 : decode b_M_copy 27 = .ok (.iload_n 3, 1) := by decide +kernel
theorem d_M_copy_28 : decode b_M_copy 28 = .ok (.iload 4, 2) := by decide +kernel
theorem d_M_copy_30 : decode b_M_copy 30 = .ok (.invokevirtual 85, 3) := by decide +kernel
theorem d_M_copy_33 : decode b_M_copy 33 = .ok (.ifCond .ne 9, 3) := by decide +kernel
theorem d_M_copy_36 : decode b_M_copy 36 = .ok (.aload_n 0, 1) := by decide +kernel
theorem d_M_copy_37 : decode b_M_copy 37 = .ok (.iconst 2, 1) := by decide +kernel
theorem d_M_copy_38 : decode b_M_copy 38 = .ok (.invokevirtual 56, 3) := by decide +kernel
theorem d_M_copy_41 : decode b_M_copy 41 = .ok (.ireturn, 1) := by decide +kernel
theorem d_M_copy_42 : decode b_M_copy 42 = .ok (.aload_n 0, 1) := by decide +kernel
theorem d_M_copy_43 : decode b_M_copy 43 = .ok (.iload_n 1, 1) := by decide +kernel
theorem d_M_copy_44 : decode b_M_copy 44 = .ok (.iload 4, 2) := by decide +kernel
theorem d_M_copy_46 : decode b_M_copy 46 = .ok (.invokevirtual 60, 3) := by decide +kernel
theorem d_M_copy_49 : decode b_M_copy 49 = .ok (.ifCond .ne 9, 3) := by decide +kernel
theorem d_M_copy_52 : decode b_M_copy 52 = .ok (.aload_n 0, 1) := by decide +kernel
theorem d_M_copy_53 : decode b_M_copy 53 = .ok (.iconst 3, 1) := by decide +kernel
theorem d_M_copy_54 : decode b_M_copy 54 = .ok (.invokevirtual 56, 3) := by decide +kernel
theorem d_M_copy_57 : decode b_M_copy 57 = .ok (.ireturn, 1) := by decide +kernel
theorem d_M_copy_58 : decode b_M_copy 58 = .ok (.iconst 0, 1) := by decide +kernel
theorem d_M_copy_59 : decode b_M_copy 59 = .ok (.istore 5, 2) := by decide +kernel
theorem d_M_copy_61 : decode b_M_copy 61 = .ok (.iload 5, 2) := by decide +kernel
theorem d_M_copy_63 : decode b_M_copy 63 = .ok (.iload 4, 2) := by decide +kernel
theorem d_M_copy_65 : decode b_M_copy 65 = .ok (.if_icmp .ge 23, 3) := by decide +kernel
theorem d_M_copy_68 : decode b_M_copy 68 = .ok (.aload_n 0, 1) := by decide +kernel
theorem d_M_copy_69 : decode b_M_copy 69 = .ok (.iload_n 1, 1) := by decide +kernel
theorem d_M_copy_70 : decode b_M_copy 70 = .ok (.aload_n 0, 1) := by decide +kernel
theorem d_M_copy_71 : decode b_M_copy 71 = .ok (.iload_n 2, 1) := by decide +kernel
theorem d_M_copy_72 : decode b_M_copy 72 = .ok (.iload_n 3, 1) := by decide +kernel
theorem d_M_copy_73 : decode b_M_copy 73 = .ok (.iload 5, 2) := by decide +kernel
theorem d_M_copy_75 : decode b_M_copy 75 = .ok (.iadd, 1) := by decide +kernel
theorem d_M_copy_76 : decode b_M_copy 76 = .ok (.invokevirtual 47, 3) := by decide +kernel
theorem d_M_copy_79 : decode b_M_copy 79 = .ok (.invokevirtual 43, 3) := by decide +kernel
theorem d_M_copy_82 : decode b_M_copy 82 = .ok (.iinc 5 1, 3) := by decide +kernel
theorem d_M_copy_85 : decode b_M_copy 85 = .ok (.goto (-24), 3) := by decide +kernel
theorem d_M_copy_88 : decode b_M_copy 88 = .ok (.aload_n 0, 1) := by decide +kernel
theorem d_M_copy_89 : decode b_M_copy 89 = .ok (.getfield 14, 3) := by decide +kernel
theorem d_M_copy_92 : decode b_M_copy 92 = .ok (.iload_n 1, 1) := by decide +kernel
theorem d_M_copy_93 : decode b_M_copy 93 = .ok (.iaload, 1) := by decide +kernel
theorem d_M_copy_94 : decode b_M_copy 94 = .ok (.ireturn, 1) := by decide +kernel
theorem d_M_wrap_0 : decode b_M_wrap 0 = .ok (.iload_n 1, 1) := by decide +kernel
theorem d_M_wrap_1 : decode b_M_wrap 1 = .ok (.invokestatic 52, 3) := by decide +kernel
theorem d_M_wrap_4 : decode b_M_wrap 4 = .ok (.ifCond .eq 10, 3) := by decide +kernel
theorem d_M_wrap_7 : decode b_M_wrap 7 = .ok (.iload_n 2, 1) := by decide +kernel
theorem d_M_wrap_8 : decode b_M_wrap 8 = .ok (.invokestatic 52, 3) := by decide +kernel
theorem d_M_wrap_11 : decode b_M_wrap 11 = .ok (.ifCond .ne 9, 3) := by decide +kernel
theorem d_M_wrap_14 : decode b_M_wrap 14 = .ok (.aload_n 0, 1) := by decide +kernel
theorem d_M_wrap_15 : decode b_M_wrap 15 = .ok (.iconst 1, 1) := by decide +kernel
theorem d_M_wrap_16 : decode b_M_wrap 16 = .ok (.invokevirtual 56, 3) := by decide +kernel
theorem d_M_wrap_19 : decode b_M_wrap 19 = .ok (.ireturn, 1) := by decide +kernel
theorem d_M_wrap_20 : decode b_M_wrap 20 = .ok (.aload_n 0, 1) := by decide +kernel
theorem d_M_wrap_21 : decode b_M_wrap 21 = .ok (.getfield 14, 3) := by decide +kernel
theorem d_M_wrap_24 : decode b_M_wrap 24 = .ok (.iload_n 2, 1) := by decide +kernel
theorem d_M_wrap_25 : decode b_M_wrap 25 = .ok (.iaload, 1) := by decide +kernel
theorem d_M_wrap_26 : decode b_M_wrap 26 = .ok (.istore 4, 2) := by decide +kernel
theorem d_M_wrap_28 : decode b_M_wrap 28 = .ok (.iload 4, 2) := by decide +kernel
theorem d_M_wrap_30 : decode b_M_wrap 30 = .ok (.i2l, 1) := by decide +kernel
theorem d_M_wrap_31 : decode b_M_wrap 31 = .ok (.invokestatic 37, 3) := by decide +kernel
theorem d_M_wrap_34 : decode b_M_wrap 34 = .ok (.istore 5, 2) := by decide +kernel
theorem d_M_wrap_36 : decode b_M_wrap 36 = .ok (.aload_n 0, 1) := by decide +kernel
theorem d_M_wrap_37 : decode b_M_wrap 37 = .ok (.iload_n 1, 1) := by decide +kernel
theorem d_M_wrap_38 : decode b_M_wrap 38 = .ok (.iload 5, 2) := by decide +kernel
theorem d_M_wrap_40 : decode b_M_wrap 40 = .ok (.iload_n 3, 1) := by decide +kernel
theorem d_M_wrap_41 : decode b_M_wrap 41 = .ok (.iadd, 1) := by decide +kernel
theorem d_M_wrap_42 : decode b_M_wrap 42 = .ok (.iload 4, 2) := by decide +kernel
theorem d_M_wrap_44 : decode b_M_wrap 44 = .ok (.iadd, 1) := by decide +kernel
theorem d_M_wrap_45 : decode b_M_wrap 45 = .ok (.invokevirtual 60, 3) := by decide +kernel
theorem d_M_wrap_48 : decode b_M_wrap 48 = .ok (.ifCond .ne 9, 3) := by decide +kernel
theorem d_M_wrap_51 : decode b_M_wrap 51 = .ok (.aload_n 0, 1) := by decide +kernel
theorem d_M_wrap_52 : decode b_M_wrap 52 = .ok (.iconst 2, 1) := by decide +kernel
theorem d_M_wrap_53 : decode b_M_wrap 53 = .ok (.invokevirtual 56, 3) := by decide +kernel
theorem d_M_wrap_56 : decode b_M_wrap 56 = .ok (.ireturn, 1) := by decide +kernel
theorem d_M_wrap_57 : decode b_M_wrap 57 = .ok (.aload_n 0, 1) := by decide +kernel
theorem d_M_wrap_58 : decode b_M_wrap 58 = .ok (.iload_n 2, 1) := by decide +kernel
theorem d_M_wrap_59 : decode b_M_wrap 59 = .ok (.iconst 0, 1) := by decide +kernel
theorem d_M_wrap_60 : decode b_M_wrap 60 = .ok (.iload 4, 2) := by decide +kernel
theorem d_M_wrap_62 : decode b_M_wrap 62 = .ok (.invokevirtual 89, 3) := by decide +kernel
theorem d_M_wrap_65 : decode b_M_wrap 65 = .ok (.istore 6, 2) := by decide +kernel
theorem d_M_wrap_67 : decode b_M_wrap 67 = .ok (.aload_n 0, 1) := by decide +kernel
theorem d_M_wrap_68 : decode b_M_wrap 68 = .ok (.iload_n 1, 1) := by decide +kernel
theorem d_M_wrap_69 : decode b_M_wrap 69 = .ok (.iload 4, 2) := by decide +kernel
theorem d_M_wrap_71 : decode b_M_wrap 71 = .ok (.i2l, 1) := by decide +kernel
theorem d_M_wrap_72 : decode b_M_wrap 72 = .ok (.invokevirtual 64, 3) := by decide +kernel
theorem d_M_wrap_75 : decode b_M_wrap 75 = .ok (.iconst 0, 1) := by decide +kernel
theorem d_M_wrap_76 : decode b_M_wrap 76 = .ok (.istore 7, 2) := by decide +kernel
theorem d_M_wrap_78 : decode b_M_wrap 78 = .ok (.iload 7, 2) := by decide +kernel
theorem d_M_wrap_80 : decode b_M_wrap 80 = .ok (.iload_n 3, 1) := by decide +kernel
theorem d_M_wrap_81 : decode b_M_wrap 81 = .ok (.if_icmp .ge 26, 3) := by decide +kernel
theorem d_M_wrap_84 : decode b_M_wrap 84 = .ok (.aload_n 0, 1) := by decide +kernel
theorem d_M_wrap_85 : decode b_M_wrap 85 = .ok (.iload_n 1, 1) := by decide +kernel
theorem d_M_wrap_86 : decode b_M_wrap 86 = .ok (.iload 6, 2) := by decide +kernel
theorem d_M_wrap_88 : decode b_M_wrap 88 = .ok (.bipush 8, 2) := by decide +kernel
theorem d_M_wrap_90 : decode b_M_wrap 90 = .ok (.iload 7, 2) := by decide +kernel
theorem d_M_wrap_92 : decode b_M_wrap 92 = .ok (.imul, 1) := by decide +kernel
theorem d_M_wrap_93 : decode b_M_wrap 93 = .ok (.ishr, 1) := by decide +kernel
theorem d_M_wrap_94 : decode b_M_wrap 94 = .ok (.sipush 255, 3) := by decide +kernel
theorem d_M_wrap_97 : decode b_M_wrap 97 = .ok (.iand, 1) := by decide +kernel
theorem d_M_wrap_98 : decode b_M_wrap 98 = .ok (.invokevirtual 43, 3) := by decide +kernel
theorem d_M_wrap_101 : decode b_M_wrap 101 = .ok (.iinc 7 1, 3) := by decide +kernel
theorem d_M_wrap_104 : decode b_M_wrap 104 = .ok (.goto (-26), 3) := by decide +kernel
theorem d_M_wrap_107 : decode b_M_wrap 107 = .ok (.iconst 0, 1) := by decide +kernel
theorem d_M_wrap_108 : decode b_M_wrap 108 = .ok (.istore 7, 2) := by decide +kernel
theorem d_M_wrap_110 : decode b_M_wrap 110 = .ok (.iload 7, 2) := by decide +kernel
theorem d_M_wrap_112 : decode b_M_wrap 112 = .ok (.iload 4, 2) := by decide +kernel
theorem d_M_wrap_114 : decode b_M_wrap 114 = .ok (.if_icmp .ge 21, 3) := by decide +kernel
theorem d_M_wrap_117 : decode b_M_wrap 117 = .ok (.aload_n 0, 1) := by decide +kernel
theorem d_M_wrap_118 : decode b_M_wrap 118 = .ok (.iload_n 1, 1) := by decide +kernel
theorem d_M_wrap_119 : decode b_M_wrap 119 = .ok (.aload_n 0, 1) := by decide +kernel
theorem d_M_wrap_120 : decode b_M_wrap 120 = .ok (.iload_n 2, 1) := by decide +kernel
theorem d_M_wrap_121 : decode b_M_wrap 121 = .ok (.iload 7, 2) := by decide +kernel
theorem d_M_wrap_123 : decode b_M_wrap 123 = .ok (.invokevirtual 47, 3) := by decide +kernel
theorem d_M_wrap_126 : decode b_M_wrap 126 = .ok (.invokevirtual 43, 3) := by decide +kernel
theorem d_M_wrap_129 : decode b_M_wrap 129 = .ok (.iinc 7 1, 3) := by decide +kernel
theorem d_M_wrap_132 : decode b_M_wrap 132 = .ok (.goto (-22), 3) := by decide +kernel
theorem d_M_wrap_135 : decode b_M_wrap 135 = .ok (.iload 5, 2) := by decide +kernel
theorem d_M_wrap_137 : decode b_M_wrap 137 = .ok (.iload_n 3, 1) := by decide +kernel
theorem d_M_wrap_138 : decode b_M_wrap 138 = .ok (.iadd, 1) := by decide +kernel
theorem d_M_wrap_139 : decode b_M_wrap 139 = .ok (.iload 4, 2) := by decide +kernel
theorem d_M_wrap_141 : decode b_M_wrap 141 = .ok (.iadd, 1) := by decide +kernel
theorem d_M_wrap_142 : decode b_M_wrap 142 = .ok (.ireturn, 1) := by decide +kernel
theorem d_M_block_0 : decode b_M_block 0 = .ok (.aload_n 0, 1) := by decide +kernel
theorem d_M_block_1 : decode b_M_block 1 = .ok (.iconst 0, 1) := by decide +kernel
theorem d_M_block_2 : decode b_M_block 2 = .ok (.putfield 26, 3) := by decide +kernel
theorem d_M_block_5 : decode b_M_block 5 = .ok (.aload_n 0, 1) := by decide +kernel
theorem d_M_block_6 : decode b_M_block 6 = .ok (.iload_n 1, 1) := by decide +kernel
theorem d_M_block_7 : decode b_M_block 7 = .ok (.iload_n 2, 1) := by decide +kernel
theorem d_M_block_8 : decode b_M_block 8 = .ok (.iconst 0, 1) := by decide +kernel
theorem d_M_block_9 : decode b_M_block 9 = .ok (.invokevirtual 93, 3) := by decide +kernel
theorem d_M_block_12 : decode b_M_block 12 = .ok (.ireturn, 1) := by decide +kernel
theorem d_M_frame_0 : decode b_M_frame 0 = .ok (.aload_n 0, 1) := by decide +kernel
theorem d_M_frame_1 : decode b_M_frame 1 = .ok (.iconst 0, 1) := by decide +kernel
theorem d_M_frame_2 : decode b_M_frame 2 = .ok (.putfield 26, 3) := by decide +kernel
theorem d_M_frame_5 : decode b_M_frame 5 = .ok (.aload_n 0, 1) := by decide +kernel
theorem d_M_frame_6 : decode b_M_frame 6 = .ok (.iload_n 1, 1) := by decide +kernel
theorem d_M_frame_7 : decode b_M_frame 7 = .ok (.iload_n 2, 1) := by decide +kernel
theorem d_M_frame_8 : decode b_M_frame 8 = .ok (.iconst 4, 1) := by decide +kernel
theorem d_M_frame_9 : decode b_M_frame 9 = .ok (.invokevirtual 93, 3) := by decide +kernel
theorem d_M_frame_12 : decode b_M_frame 12 = .ok (.ireturn, 1) := by decide +kernel
theorem d_M_cut_0 : decode b_M_cut 0 = .ok (.aload_n 0, 1) := by decide +kernel
theorem d_M_cut_1 : decode b_M_cut 1 = .ok (.iconst 0, 1) := by decide +kernel
theorem d_M_cut_2 : decode b_M_cut 2 = .ok (.putfield 26, 3) := by decide +kernel
theorem d_M_cut_5 : decode b_M_cut 5 = .ok (.iload_n 1, 1) := by decide +kernel
theorem d_M_cut_6 : decode b_M_cut 6 = .ok (.invokestatic 52, 3) := by decide +kernel
theorem d_M_cut_9 : decode b_M_cut 9 = .ok (.ifCond .ne 9, 3) := by decide +kernel
theorem d_M_cut_12 : decode b_M_cut 12 = .ok (.aload_n 0, 1) := by decide +kernel
theorem d_M_cut_13 : decode b_M_cut 13 = .ok (.iconst 1, 1) := by decide +kernel
theorem d_M_cut_14 : decode b_M_cut 14 = .ok (.invokevirtual 56, 3) := by decide +kernel
theorem d_M_cut_17 : decode b_M_cut 17 = .ok (.ireturn, 1) := by decide +kernel
theorem d_M_cut_18 : decode b_M_cut 18 = .ok (.iload_n 2, 1) := by decide +kernel
theorem d_M_cut_19 : decode b_M_cut 19 = .ok (.ifCond .lt 13, 3) := by decide +kernel
theorem d_M_cut_22 : decode b_M_cut 22 = .ok (.iload_n 2, 1) := by decide +kernel
theorem d_M_cut_23 : decode b_M_cut 23 = .ok (.aload_n 0, 1) := by decide +kernel
theorem d_M_cut_24 : decode b_M_cut 24 = .ok (.getfield 14, 3) := by decide +kernel
theorem d_M_cut_27 : decode b_M_cut 27 = .ok (.iload_n 1, 1) := by decide +kernel
theorem d_M_cut_28 : decode b_M_cut 28 = .ok (.iaload, 1) := by decide +kernel
theorem d_M_cut_29 : decode b_M_cut 29 = .ok (.if_icmp .le 9, 3) := by decide +kernel
theorem d_M_cut_32 : decode b_M_cut 32 = .ok (.aload_n 0, 1) := by decide +kernel
theorem d_M_cut_33 : decode b_M_cut 33 = .ok (.iconst 2, 1) := by decide +kernel
theorem d_M_cut_34 : decode b_M_cut 34 = .ok (.invokevirtual 56, 3) := by decide +kernel
theorem d_M_cut_37 : decode b_M_cut 37 = .ok (.ireturn, 1) := by decide +kernel
theorem d_M_cut_38 : decode b_M_cut 38 = .ok (.aload_n 0, 1) := by decide +kernel
theorem d_M_cut_39 : decode b_M_cut 39 = .ok (.getfield 14, 3) := by decide +kernel
theorem d_M_cut_42 : decode b_M_cut 42 = .ok (.iload_n 1, 1) := by decide +kernel
theorem d_M_cut_43 : decode b_M_cut 43 = .ok (.iaload, 1) := by decide +kernel
theorem d_M_cut_44 : decode b_M_cut 44 = .ok (.istore_n 3, 1) := by decide +kernel
theorem d_M_cut_45 : decode b_M_cut 45 = .ok (.aload_n 0, 1) := by decide +kernel
theorem d_M_cut_46 : decode b_M_cut 46 = .ok (.getfield 14, 3) := by decide +kernel
theorem d_M_cut_49 : decode b_M_cut 49 = .ok (.iload_n 1, 1) := by decide +kernel
theorem d_M_cut_50 : decode b_M_cut 50 = .ok (.iload_n 2, 1) := by decide +kernel
theorem d_M_cut_51 : decode b_M_cut 51 = .ok (.iastore, 1) := by decide +kernel
theorem d_M_cut_52 : decode b_M_cut 52 = .ok (.aload_n 0, 1) := by decide +kernel
theorem d_M_cut_53 : decode b_M_cut 53 = .ok (.getfield 18, 3) := by decide +kernel
theorem d_M_cut_56 : decode b_M_cut 56 = .ok (.iload_n 1, 1) := by decide +kernel
theorem d_M_cut_57 : decode b_M_cut 57 = .ok (.aload_n 0, 1) := by decide +kernel
theorem d_M_cut_58 : decode b_M_cut 58 = .ok (.getfield 18, 3) := by decide +kernel
theorem d_M_cut_61 : decode b_M_cut 61 = .ok (.iload_n 1, 1) := by decide +kernel
theorem d_M_cut_62 : decode b_M_cut 62 = .ok (.iaload, 1) := by decide +kernel
theorem d_M_cut_63 : decode b_M_cut 63 = .ok (.iload_n 2, 1) := by decide +kernel
theorem d_M_cut_64 : decode b_M_cut 64 = .ok (.if_icmp .ge 12, 3) := by decide +kernel
theorem d_M_cut_67 : decode b_M_cut 67 = .ok (.aload_n 0, 1) := by decide +kernel
theorem d_M_cut_68 : decode b_M_cut 68 = .ok (.getfield 18, 3) := by decide +kernel
theorem d_M_cut_71 : decode b_M_cut 71 = .ok (.iload_n 1, 1) := by decide +kernel
theorem d_M_cut_72 : decode b_M_cut 72 = .ok (.iaload, 1) := by decide +kernel
theorem d_M_cut_73 : decode b_M_cut 73 = .ok (.goto 4, 3) := by decide +kernel
theorem d_M_cut_76 : decode b_M_cut 76 = .ok (.iload_n 2, 1) := by decide +kernel
theorem d_M_cut_77 : decode b_M_cut 77 = .ok (.iastore, 1) := by decide +kernel
theorem d_M_cut_78 : decode b_M_cut 78 = .ok (.iload_n 3, 1) := by decide +kernel
theorem d_M_cut_79 : decode b_M_cut 79 = .ok (.ireturn, 1) := by decide +kernel
theorem d_M_turn_0 : decode b_M_turn 0 = .ok (.aload_n 0, 1) := by decide +kernel
theorem d_M_turn_1 : decode b_M_turn 1 = .ok (.iconst 0, 1) := by decide +kernel
theorem d_M_turn_2 : decode b_M_turn 2 = .ok (.putfield 26, 3) := by decide +kernel
theorem d_M_turn_5 : decode b_M_turn 5 = .ok (.iload_n 1, 1) := by decide +kernel
theorem d_M_turn_6 : decode b_M_turn 6 = .ok (.invokestatic 52, 3) := by decide +kernel
theorem d_M_turn_9 : decode b_M_turn 9 = .ok (.ifCond .ne 9, 3) := by decide +kernel
theorem d_M_turn_12 : decode b_M_turn 12 = .ok (.aload_n 0, 1) := by decide +kernel
theorem d_M_turn_13 : decode b_M_turn 13 = .ok (.iconst 1, 1) := by decide +kernel
theorem d_M_turn_14 : decode b_M_turn 14 = .ok (.invokevirtual 56, 3) := by decide +kernel
theorem d_M_turn_17 : decode b_M_turn 17 = .ok (.ireturn, 1) := by decide +kernel
theorem d_M_turn_18 : decode b_M_turn 18 = .ok (.iload_n 2, 1) := by decide +kernel
theorem d_M_turn_19 : decode b_M_turn 19 = .ok (.ifCond .lt 16, 3) := by decide +kernel
theorem d_M_turn_22 : decode b_M_turn 22 = .ok (.iload_n 2, 1) := by decide +kernel
theorem d_M_turn_23 : decode b_M_turn 23 = .ok (.bipush 8, 2) := by decide +kernel
theorem d_M_turn_25 : decode b_M_turn 25 = .ok (.idiv, 1) := by decide +kernel
theorem d_M_turn_26 : decode b_M_turn 26 = .ok (.aload_n 0, 1) := by decide +kernel
theorem d_M_turn_27 : decode b_M_turn 27 = .ok (.getfield 14, 3) := by decide +kernel
theorem d_M_turn_30 : decode b_M_turn 30 = .ok (.iload_n 1, 1) := by decide +kernel
theorem d_M_turn_31 : decode b_M_turn 31 = .ok (.iaload, 1) := by decide +kernel
theorem d_M_turn_32 : decode b_M_turn 32 = .ok (.if_icmp .lt 9, 3) := by decide +kernel
theorem d_M_turn_35 : decode b_M_turn 35 = .ok (.aload_n 0, 1) := by decide +kernel
theorem d_M_turn_36 : decode b_M_turn 36 = .ok (.iconst 2, 1) := by decide +kernel
theorem d_M_turn_37 : decode b_M_turn 37 = .ok (.invokevirtual 56, 3) := by decide +kernel
theorem d_M_turn_40 : decode b_M_turn 40 = .ok (.ireturn, 1) := by decide +kernel
theorem d_M_turn_41 : decode b_M_turn 41 = .ok (.aload_n 0, 1) := by decide +kernel
theorem d_M_turn_42 : decode b_M_turn 42 = .ok (.iload_n 1, 1) := by decide +kernel
theorem d_M_turn_43 : decode b_M_turn 43 = .ok (.iload_n 2, 1) := by decide +kernel
theorem d_M_turn_44 : decode b_M_turn 44 = .ok (.bipush 8, 2) := by decide +kernel
theorem d_M_turn_46 : decode b_M_turn 46 = .ok (.idiv, 1) := by decide +kernel
theorem d_M_turn_47 : decode b_M_turn 47 = .ok (.aload_n 0, 1) := by decide +kernel
theorem d_M_turn_48 : decode b_M_turn 48 = .ok (.iload_n 1, 1) := by decide +kernel
theorem d_M_turn_49 : decode b_M_turn 49 = .ok (.iload_n 2, 1) := by decide +kernel
theorem d_M_turn_50 : decode b_M_turn 50 = .ok (.bipush 8, 2) := by decide +kernel
theorem d_M_turn_52 : decode b_M_turn 52 = .ok (.idiv, 1) := by decide +kernel
theorem d_M_turn_53 : decode b_M_turn 53 = .ok (.invokevirtual 47, 3) := by decide +kernel
theorem d_M_turn_56 : decode b_M_turn 56 = .ok (.iconst 1, 1) := by decide +kernel
theorem d_M_turn_57 : decode b_M_turn 57 = .ok (.iload_n 2, 1) := by decide +kernel
theorem d_M_turn_58 : decode b_M_turn 58 = .ok (.bipush 8, 2) := by decide +kernel
theorem d_M_turn_60 : decode b_M_turn 60 = .ok (.irem, 1) := by decide +kernel
theorem d_M_turn_61 : decode b_M_turn 61 = .ok (.ishl, 1) := by decide +kernel
theorem d_M_turn_62 : decode b_M_turn 62 = .ok (.ixor, 1) := by decide +kernel
theorem d_M_turn_63 : decode b_M_turn 63 = .ok (.invokevirtual 33, 3) := by decide +kernel
theorem d_M_turn_66 : decode b_M_turn 66 = .ok (.aload_n 0, 1) := by decide +kernel
theorem d_M_turn_67 : decode b_M_turn 67 = .ok (.iload_n 1, 1) := by decide +kernel
theorem d_M_turn_68 : decode b_M_turn 68 = .ok (.iload_n 2, 1) := by decide +kernel
theorem d_M_turn_69 : decode b_M_turn 69 = .ok (.bipush 8, 2) := by decide +kernel
theorem d_M_turn_71 : decode b_M_turn 71 = .ok (.idiv, 1) := by decide +kernel
theorem d_M_turn_72 : decode b_M_turn 72 = .ok (.invokevirtual 47, 3) := by decide +kernel
theorem d_M_turn_75 : decode b_M_turn 75 = .ok (.ireturn, 1) := by decide +kernel
theorem d_M_place_0 : decode b_M_place 0 = .ok (.aload_n 0, 1) := by decide +kernel
theorem d_M_place_1 : decode b_M_place 1 = .ok (.iconst 0, 1) := by decide +kernel
theorem d_M_place_2 : decode b_M_place 2 = .ok (.putfield 26, 3) := by decide +kernel
theorem d_M_place_5 : decode b_M_place 5 = .ok (.iload_n 1, 1) := by decide +kernel
theorem d_M_place_6 : decode b_M_place 6 = .ok (.invokestatic 52, 3) := by decide +kernel
theorem d_M_place_9 : decode b_M_place 9 = .ok (.ifCond .ne 9, 3) := by decide +kernel
theorem d_M_place_12 : decode b_M_place 12 = .ok (.aload_n 0, 1) := by decide +kernel
theorem d_M_place_13 : decode b_M_place 13 = .ok (.iconst 1, 1) := by decide +kernel
theorem d_M_place_14 : decode b_M_place 14 = .ok (.invokevirtual 56, 3) := by decide +kernel
theorem d_M_place_17 : decode b_M_place 17 = .ok (.ireturn, 1) := by decide +kernel
theorem d_M_place_18 : decode b_M_place 18 = .ok (.iload_n 2, 1) := by decide +kernel
theorem d_M_place_19 : decode b_M_place 19 = .ok (.ifCond .lt 13, 3) := by decide +kernel
theorem d_M_place_22 : decode b_M_place 22 = .ok (.iload_n 2, 1) := by decide +kernel
theorem d_M_place_23 : decode b_M_place 23 = .ok (.aload_n 0, 1) := by decide +kernel
theorem d_M_place_24 : decode b_M_place 24 = .ok (.getfield 14, 3) := by decide +kernel
theorem d_M_place_27 : decode b_M_place 27 = .ok (.iload_n 1, 1) := by decide +kernel
theorem d_M_place_28 : decode b_M_place 28 = .ok (.iaload, 1) := by decide +kernel
theorem d_M_place_29 : decode b_M_place 29 = .ok (.if_icmp .le 9, 3) := by decide +kernel
theorem d_M_place_32 : decode b_M_place 32 = .ok (.aload_n 0, 1) := by decide +kernel
theorem d_M_place_33 : decode b_M_place 33 = .ok (.iconst 2, 1) := by decide +kernel
theorem d_M_place_34 : decode b_M_place 34 = .ok (.invokevirtual 56, 3) := by decide +kernel
theorem d_M_place_37 : decode b_M_place 37 = .ok (.ireturn, 1) := by decide +kernel
theorem d_M_place_38 : decode b_M_place 38 = .ok (.aload_n 0, 1) := by decide +kernel
theorem d_M_place_39 : decode b_M_place 39 = .ok (.getfield 18, 3) := by decide +kernel
theorem d_M_place_42 : decode b_M_place 42 = .ok (.iload_n 1, 1) := by decide +kernel
theorem d_M_place_43 : decode b_M_place 43 = .ok (.iaload, 1) := by decide +kernel
theorem d_M_place_44 : decode b_M_place 44 = .ok (.istore_n 3, 1) := by decide +kernel
theorem d_M_place_45 : decode b_M_place 45 = .ok (.aload_n 0, 1) := by decide +kernel
theorem d_M_place_46 : decode b_M_place 46 = .ok (.getfield 18, 3) := by decide +kernel
theorem d_M_place_49 : decode b_M_place 49 = .ok (.iload_n 1, 1) := by decide +kernel
theorem d_M_place_50 : decode b_M_place 50 = .ok (.iload_n 2, 1) := by decide +kernel
theorem d_M_place_51 : decode b_M_place 51 = .ok (.iastore, 1) := by decide +kernel
theorem d_M_place_52 : decode b_M_place 52 = .ok (.iload_n 3, 1) := by decide +kernel
theorem d_M_place_53 : decode b_M_place 53 = .ok (.ireturn, 1) := by decide +kernel
theorem d_M_number_0 : decode b_M_number 0 = .ok (.lconst 0, 1) := by decide +kernel
theorem d_M_number_1 : decode b_M_number 1 = .ok (.lstore 4, 2) := by decide +kernel
theorem d_M_number_3 : decode b_M_number 3 = .ok (.iload_n 3, 1) := by decide +kernel
theorem d_M_number_4 : decode b_M_number 4 = .ok (.iconst 1, 1) := by decide +kernel
theorem d_M_number_5 : decode b_M_number 5 = .ok (.isub, 1) := by decide +kernel
theorem d_M_number_6 : decode b_M_number 6 = .ok (.istore 6, 2) := by decide +kernel
theorem d_M_number_8 : decode b_M_number 8 = .ok (.iload 6, 2) := by decide +kernel
theorem d_M_number_10 : decode b_M_number 10 = .ok (.ifCond .lt 27, 3) := by decide +kernel
theorem d_M_number_13 : decode b_M_number 13 = .ok (.lload 4, 2) := by decide +kernel
theorem d_M_number_15 : decode b_M_number 15 = .ok (.bipush 8, 2) := by decide +kernel
theorem d_M_number_17 : decode b_M_number 17 = .ok (.lshl, 1) := by decide +kernel
theorem d_M_number_18 : decode b_M_number 18 = .ok (.aload_n 0, 1) := by decide +kernel
theorem d_M_number_19 : decode b_M_number 19 = .ok (.iload_n 1, 1) := by decide +kernel
theorem d_M_number_20 : decode b_M_number 20 = .ok (.iload_n 2, 1) := by decide +kernel
theorem d_M_number_21 : decode b_M_number 21 = .ok (.iload 6, 2) := by decide +kernel
theorem d_M_number_23 : decode b_M_number 23 = .ok (.iadd, 1) := by decide +kernel
theorem d_M_number_24 : decode b_M_number 24 = .ok (.invokevirtual 47, 3) := by decide +kernel
theorem d_M_number_27 : decode b_M_number 27 = .ok (.i2l, 1) := by decide +kernel
theorem d_M_number_28 : decode b_M_number 28 = .ok (.lor, 1) := by decide +kernel
theorem d_M_number_29 : decode b_M_number 29 = .ok (.lstore 4, 2) := by decide +kernel
theorem d_M_number_31 : decode b_M_number 31 = .ok (.iinc 6 (-1), 3) := by decide +kernel
theorem d_M_number_34 : decode b_M_number 34 = .ok (.goto (-26), 3) := by decide +kernel
theorem d_M_number_37 : decode b_M_number 37 = .ok (.lload 4, 2) := by decide +kernel
theorem d_M_number_39 : decode b_M_number 39 = .ok (.lreturn, 1) := by decide +kernel
