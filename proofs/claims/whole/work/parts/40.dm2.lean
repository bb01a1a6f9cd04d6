/-! decode rows -/
theorem d_M_readFixed_0 : decode b_M_readFixed 0 = .ok (.aload_n 0, 1) := by decide +kernel
theorem d_M_readFixed_1 : decode b_M_readFixed 1 = .ok (.iconst 0, 1) := by decide +kernel
theorem d_M_readFixed_2 : decode b_M_readFixed 2 = .ok (.putfield 26, 3) := by decide +kernel
theorem d_M_readFixed_5 : decode b_M_readFixed 5 = .ok (.iload_n 1, 1) := by decide +kernel
theorem d_M_readFixed_6 : decode b_M_readFixed 6 = .ok (.invokestatic 52, 3) := by decide +kernel
theorem d_M_readFixed_9 : decode b_M_readFixed 9 = .ok (.ifCond .ne 10, 3) := by decide +kernel
theorem d_M_readFixed_12 : decode b_M_readFixed 12 = .ok (.aload_n 0, 1) := by decide +kernel
theorem d_M_readFixed_13 : decode b_M_readFixed 13 = .ok (.iconst 1, 1) := by decide +kernel
theorem d_M_readFixed_14 : decode b_M_readFixed 14 = .ok (.invokevirtual 56, 3) := by decide +kernel
theorem d_M_readFixed_17 : decode b_M_readFixed 17 = .ok (.i2l, 1) := by decide +kernel
theorem d_M_readFixed_18 : decode b_M_readFixed 18 = .ok (.lreturn, 1) := by decide +kernel
theorem d_M_readFixed_19 : decode b_M_readFixed 19 = .ok (.iload_n 2, 1) := by decide +kernel
theorem d_M_readFixed_20 : decode b_M_readFixed 20 = .ok (.iconst 1, 1) := by decide +kernel
theorem d_M_readFixed_21 : decode b_M_readFixed 21 = .ok (.if_icmp .lt 9, 3) := by decide +kernel
theorem d_M_readFixed_24 : decode b_M_readFixed 24 = .ok (.iload_n 2, 1) := by decide +kernel
theorem d_M_readFixed_25 : decode b_M_readFixed 25 = .ok (.bipush 8, 2) := by decide +kernel
theorem d_M_readFixed_27 : decode b_M_readFixed 27 = .ok (.if_icmp .le 10, 3) := by decide +kernel
theorem d_M_readFixed_30 : decode b_M_readFixed 30 = .ok (.aload_n 0, 1) := by decide +kernel
theorem d_M_readFixed_31 : decode b_M_readFixed 31 = .ok (.iconst 2, 1) := by decide +kernel
theorem d_M_readFixed_32 : decode b_M_readFixed 32 = .ok (.invokevirtual 56, 3) := by decide +kernel
theorem d_M_readFixed_35 : decode b_M_readFixed 35 = .ok (.i2l, 1) := by decide +kernel
theorem d_M_readFixed_36 : decode b_M_readFixed 36 = .ok (.lreturn, 1) := by decide +kernel
theorem d_M_readFixed_37 : decode b_M_readFixed 37 = .ok (.aload_n 0, 1) := by decide +kernel
theorem d_M_readFixed_38 : decode b_M_readFixed 38 = .ok (.iload_n 1, 1) := by decide +kernel
theorem d_M_readFixed_39 : decode b_M_readFixed 39 = .ok (.aload_n 0, 1) := by decide +kernel
theorem d_M_readFixed_40 : decode b_M_readFixed 40 = .ok (.getfield 18, 3) := by decide +kernel
theorem d_M_readFixed_43 : decode b_M_readFixed 43 = .ok (.iload_n 1, 1) := by decide +kernel
theorem d_M_readFixed_44 : decode b_M_readFixed 44 = .ok (.iaload, 1) := by decide +kernel
theorem d_M_readFixed_45 : decode b_M_readFixed 45 = .ok (.iload_n 2, 1) := by decide +kernel
theorem d_M_readFixed_46 : decode b_M_readFixed 46 = .ok (.invokevirtual 85, 3) := by decide +kernel
theorem d_M_readFixed_49 : decode b_M_readFixed 49 = .ok (.ifCond .ne 10, 3) := by decide +kernel
theorem d_M_readFixed_52 : decode b_M_readFixed 52 = .ok (.aload_n 0, 1) := by decide +kernel
theorem d_M_readFixed_53 : decode b_M_readFixed 53 = .ok (.iconst 3, 1) := by decide +kernel
theorem d_M_readFixed_54 : decode b_M_readFixed 54 = .ok (.invokevirtual 56, 3) := by decide +kernel
theorem d_M_readFixed_57 : decode b_M_readFixed 57 = .ok (.i2l, 1) := by decide +kernel
theorem d_M_readFixed_58 : decode b_M_readFixed 58 = .ok (.lreturn, 1) := by decide +kernel
theorem d_M_readFixed_59 : decode b_M_readFixed 59 = .ok (.aload_n 0, 1) := by decide +kernel
theorem d_M_readFixed_60 : decode b_M_readFixed 60 = .ok (.iload_n 1, 1) := by decide +kernel
theorem d_M_readFixed_61 : decode b_M_readFixed 61 = .ok (.aload_n 0, 1) := by decide +kernel
theorem d_M_readFixed_62 : decode b_M_readFixed 62 = .ok (.getfield 18, 3) := by decide +kernel
theorem d_M_readFixed_65 : decode b_M_readFixed 65 = .ok (.iload_n 1, 1) := by decide +kernel
theorem d_M_readFixed_66 : decode b_M_readFixed 66 = .ok (.iaload, 1) := by decide +kernel
theorem d_M_readFixed_67 : decode b_M_readFixed 67 = .ok (.iload_n 2, 1) := by decide +kernel
theorem d_M_readFixed_68 : decode b_M_readFixed 68 = .ok (.invokevirtual 96, 3) := by decide +kernel
theorem d_M_readFixed_71 : decode b_M_readFixed 71 = .ok (.lstore_n 3, 1) := by decide +kernel
theorem d_M_readFixed_72 : decode b_M_readFixed 72 = .ok (.aload_n 0, 1) := by decide +kernel
theorem d_M_readFixed_73 : decode b_M_readFixed 73 = .ok (.getfield 18, 3) := by decide +kernel
theorem d_M_readFixed_76 : decode b_M_readFixed 76 = .ok (.iload_n 1, 1) := by decide +kernel
theorem d_M_readFixed_77 : decode b_M_readFixed 77 = .ok (.dup2, 1) := by decide +kernel
theorem d_M_readFixed_78 : decode b_M_readFixed 78 = .ok (.iaload, 1) := by decide +kernel
theorem d_M_readFixed_79 : decode b_M_readFixed 79 = .ok (.iload_n 2, 1) := by decide +kernel
theorem d_M_readFixed_80 : decode b_M_readFixed 80 = .ok (.iadd, 1) := by decide +kernel
theorem d_M_readFixed_81 : decode b_M_readFixed 81 = .ok (.iastore, 1) := by decide +kernel
theorem d_M_readFixed_82 : decode b_M_readFixed 82 = .ok (.lload_n 3, 1) := by decide +kernel
theorem d_M_readFixed_83 : decode b_M_readFixed 83 = .ok (.lreturn, 1) := by decide +kernel
theorem d_M_grouped_0 : decode b_M_grouped 0 = .ok (.lconst 0, 1) := by decide +kernel
theorem d_M_grouped_1 : decode b_M_grouped 1 = .ok (.lstore_n 3, 1) := by decide +kernel
theorem d_M_grouped_2 : decode b_M_grouped 2 = .ok (.iconst 0, 1) := by decide +kernel
theorem d_M_grouped_3 : decode b_M_grouped 3 = .ok (.istore 5, 2) := by decide +kernel
theorem d_M_grouped_5 : decode b_M_grouped 5 = .ok (.iload 5, 2) := by decide +kernel
theorem d_M_grouped_7 : decode b_M_grouped 7 = .ok (.bipush 10, 2) := by decide +kernel
theorem d_M_grouped_9 : decode b_M_grouped 9 = .ok (.if_icmp .ge 122, 3) := by decide +kernel
theorem d_M_grouped_12 : decode b_M_grouped 12 = .ok (.iload_n 2, 1) := by decide +kernel
theorem d_M_grouped_13 : decode b_M_grouped 13 = .ok (.iload 5, 2) := by decide +kernel
theorem d_M_grouped_15 : decode b_M_grouped 15 = .ok (.iadd, 1) := by decide +kernel
theorem d_M_grouped_16 : decode b_M_grouped 16 = .ok (.aload_n 0, 1) := by decide +kernel
theorem d_M_grouped_17 : decode b_M_grouped 17 = .ok (.getfield 14, 3) := by decide +kernel
theorem d_M_grouped_20 : decode b_M_grouped 20 = .ok (.iload_n 1, 1) := by decide +kernel
theorem d_M_grouped_21 : decode b_M_grouped 21 = .ok (.iaload, 1) := by decide +kernel
theorem d_M_grouped_22 : decode b_M_grouped 22 = .ok (.if_icmp .lt 11, 3) := by decide +kernel
theorem d_M_grouped_25 : decode b_M_grouped 25 = .ok (.aload_n 0, 1) := by decide +kernel
theorem d_M_grouped_26 : decode b_M_grouped 26 = .ok (.bipush (-3), 2) := by decide +kernel
theorem d_M_grouped_28 : decode b_M_grouped 28 = .ok (.putfield 100, 3) := by decide +kernel
theorem d_M_grouped_31 : decode b_M_grouped 31 = .ok (.lconst 0, 1) := by decide +kernel
theorem d_M_grouped_32 : decode b_M_grouped 32 = .ok (.lreturn, 1) := by decide +kernel
theorem d_M_grouped_33 : decode b_M_grouped 33 = .ok (.aload_n 0, 1) := by decide +kernel
theorem d_M_grouped_34 : decode b_M_grouped 34 = .ok (.iload_n 1, 1) := by decide +kernel
theorem d_M_grouped_35 : decode b_M_grouped 35 = .ok (.iload_n 2, 1) := by decide +kernel
theorem d_M_grouped_36 : decode b_M_grouped 36 = .ok (.iload 5, 2) := by decide +kernel
theorem d_M_grouped_38 : decode b_M_grouped 38 = .ok (.iadd, 1) := by decide +kernel
theorem d_M_grouped_39 : decode b_M_grouped 39 = .ok (.invokevirtual 47, 3) := by decide +kernel
theorem d_M_grouped_42 : decode b_M_grouped 42 = .ok (.istore 6, 2) := by decide +kernel
theorem d_M_grouped_44 : decode b_M_grouped 44 = .ok (.lload_n 3, 1) := by decide +kernel
theorem d_M_grouped_45 : decode b_M_grouped 45 = .ok (.iload 6, 2) := by decide +kernel
theorem d_M_grouped_47 : decode b_M_grouped 47 = .ok (.bipush 127, 2) := by decide +kernel
theorem d_M_grouped_49 : decode b_M_grouped 49 = .ok (.iand, 1) := by decide +kernel
theorem d_M_grouped_50 : decode b_M_grouped 50 = .ok (.i2l, 1) := by decide +kernel
theorem d_M_grouped_51 : decode b_M_grouped 51 = .ok (.bipush 7, 2) := by decide +kernel
theorem d_M_grouped_53 : decode b_M_grouped 53 = .ok (.iload 5, 2) := by decide +kernel
theorem d_M_grouped_55 : decode b_M_grouped 55 = .ok (.imul, 1) := by decide +kernel
theorem d_M_grouped_56 : decode b_M_grouped 56 = .ok (.lshl, 1) := by decide +kernel
theorem d_M_grouped_57 : decode b_M_grouped 57 = .ok (.lor, 1) := by decide +kernel
theorem d_M_grouped_58 : decode b_M_grouped 58 = .ok (.lstore_n 3, 1) := by decide +kernel
theorem d_M_grouped_59 : decode b_M_grouped 59 = .ok (.iload 6, 2) := by decide +kernel
theorem d_M_grouped_61 : decode b_M_grouped 61 = .ok (.sipush 128, 3) := by decide +kernel
theorem d_M_grouped_64 : decode b_M_grouped 64 = .ok (.if_icmp .ge 7, 3) := by decide +kernel
theorem d_M_grouped_67 : decode b_M_grouped 67 = .ok (.iconst 1, 1) := by decide +kernel
theorem d_M_grouped_68 : decode b_M_grouped 68 = .ok (.goto 4, 3) := by decide +kernel
theorem d_M_grouped_71 : decode b_M_grouped 71 = .ok (.iconst 0, 1) := by decide +kernel
theorem d_M_grouped_72 : decode b_M_grouped 72 = .ok (.istore 7, 2) := by decide +kernel
theorem d_M_grouped_74 : decode b_M_grouped 74 = .ok (.iload 5, 2) := by decide +kernel
theorem d_M_grouped_76 : decode b_M_grouped 76 = .ok (.bipush 9, 2) := by decide +kernel
theorem d_M_grouped_78 : decode b_M_grouped 78 = .ok (.if_icmp .ne 9, 3) := by decide +kernel
theorem d_M_grouped_81 : decode b_M_grouped 81 = .ok (.iload 6, 2) := by decide +kernel
theorem d_M_grouped_83 : decode b_M_grouped 83 = .ok (.iconst 1, 1) := by decide +kernel
theorem d_M_grouped_84 : decode b_M_grouped 84 = .ok (.if_icmp .gt 18, 3) := by decide +kernel
theorem d_M_grouped_87 : decode b_M_grouped 87 = .ok (.iload 7, 2) := by decide +kernel
theorem d_M_grouped_89 : decode b_M_grouped 89 = .ok (.ifCond .eq 21, 3) := by decide +kernel
theorem d_M_grouped_92 : decode b_M_grouped 92 = .ok (.iload 6, 2) := by decide +kernel
theorem d_M_grouped_94 : decode b_M_grouped 94 = .ok (.ifCond .ne 16, 3) := by decide +kernel
theorem d_M_grouped_97 : decode b_M_grouped 97 = .ok (.iload 5, 2) := by decide +kernel
theorem d_M_grouped_99 : decode b_M_grouped 99 = .ok (.ifCond .le 11, 3) := by decide +kernel
theorem d_M_grouped_102 : decode b_M_grouped 102 = .ok (.aload_n 0, 1) := by decide +kernel
theorem d_M_grouped_103 : decode b_M_grouped 103 = .ok (.bipush (-2), 2) := by decide +kernel
theorem d_M_grouped_105 : decode b_M_grouped 105 = .ok (.putfield 100, 3) := by decide +kernel
theorem d_M_grouped_108 : decode b_M_grouped 108 = .ok (.lconst 0, 1) := by decide +kernel
theorem d_M_grouped_109 : decode b_M_grouped 109 = .ok (.lreturn, 1) := by decide +kernel
theorem d_M_grouped_110 : decode b_M_grouped 110 = .ok (.iload 7, 2) := by decide +kernel
theorem d_M_grouped_112 : decode b_M_grouped 112 = .ok (.ifCond .eq 13, 3) := by decide +kernel
theorem d_M_grouped_115 : decode b_M_grouped 115 = .ok (.aload_n 0, 1) := by decide +kernel
theorem d_M_grouped_116 : decode b_M_grouped 116 = .ok (.iload 5, 2) := by decide +kernel
theorem d_M_grouped_118 : decode b_M_grouped 118 = .ok (.iconst 1, 1) := by decide +kernel
theorem d_M_grouped_119 : decode b_M_grouped 119 = .ok (.iadd, 1) := by decide +kernel
theorem d_M_grouped_120 : decode b_M_grouped 120 = .ok (.putfield 100, 3) := by decide +kernel
theorem d_M_grouped_123 : decode b_M_grouped 123 = .ok (.lload_n 3, 1) := by decide +kernel
theorem d_M_grouped_124 : decode b_M_grouped 124 = .ok (.lreturn, 1) := by decide +kernel
theorem d_M_grouped_125 : decode b_M_grouped 125 = .ok (.iinc 5 1, 3) := by decide +kernel
theorem d_M_grouped_128 : decode b_M_grouped 128 = .ok (.goto (-123), 3) := by decide +kernel
theorem d_M_grouped_131 : decode b_M_grouped 131 = .ok (.lconst 0, 1) := by decide +kernel
theorem d_M_grouped_132 : decode b_M_grouped 132 = .ok (.lreturn, 1) := by decide +kernel
theorem d_M_failed_0 : decode b_M_failed 0 = .ok (.aload_n 0, 1) := by decide +kernel
theorem d_M_failed_1 : decode b_M_failed 1 = .ok (.aload_n 0, 1) := by decide +kernel
theorem d_M_failed_2 : decode b_M_failed 2 = .ok (.getfield 100, 3) := by decide +kernel
theorem d_M_failed_5 : decode b_M_failed 5 = .ok (.bipush (-2), 2) := by decide +kernel
theorem d_M_failed_7 : decode b_M_failed 7 = .ok (.if_icmp .ne 7, 3) := by decide +kernel
theorem d_M_failed_10 : decode b_M_failed 10 = .ok (.iconst 2, 1) := by decide +kernel
theorem d_M_failed_11 : decode b_M_failed 11 = .ok (.goto 4, 3) := by decide +kernel
theorem d_M_failed_14 : decode b_M_failed 14 = .ok (.iconst 3, 1) := by decide +kernel
theorem d_M_failed_15 : decode b_M_failed 15 = .ok (.invokevirtual 56, 3) := by decide +kernel
theorem d_M_failed_18 : decode b_M_failed 18 = .ok (.ireturn, 1) := by decide +kernel
theorem d_M_readSevens_0 : decode b_M_readSevens 0 = .ok (.aload_n 0, 1) := by decide +kernel
theorem d_M_readSevens_1 : decode b_M_readSevens 1 = .ok (.iconst 0, 1) := by decide +kernel
theorem d_M_readSevens_2 : decode b_M_readSevens 2 = .ok (.putfield 26, 3) := by decide +kernel
theorem d_M_readSevens_5 : decode b_M_readSevens 5 = .ok (.iload_n 1, 1) := by decide +kernel
theorem d_M_readSevens_6 : decode b_M_readSevens 6 = .ok (.invokestatic 52, 3) := by decide +kernel
theorem d_M_readSevens_9 : decode b_M_readSevens 9 = .ok (.ifCond .ne 10, 3) := by decide +kernel
theorem d_M_readSevens_12 : decode b_M_readSevens 12 = .ok (.aload_n 0, 1) := by decide +kernel
theorem d_M_readSevens_13 : decode b_M_readSevens 13 = .ok (.iconst 1, 1) := by decide +kernel
theorem d_M_readSevens_14 : decode b_M_readSevens 14 = .ok (.invokevirtual 56, 3) := by decide +kernel
theorem d_M_readSevens_17 : decode b_M_readSevens 17 = .ok (.i2l, 1) := by decide +kernel
theorem d_M_readSevens_18 : decode b_M_readSevens 18 = .ok (.lreturn, 1) := by decide +kernel
theorem d_M_readSevens_19 : decode b_M_readSevens 19 = .ok (.aload_n 0, 1) := by decide +kernel
theorem d_M_readSevens_20 : decode b_M_readSevens 20 = .ok (.iload_n 1, 1) := by decide +kernel
theorem d_M_readSevens_21 : decode b_M_readSevens 21 = .ok (.aload_n 0, 1) := by decide +kernel
theorem d_M_readSevens_22 : decode b_M_readSevens 22 = .ok (.getfield 18, 3) := by decide +kernel
theorem d_M_readSevens_25 : decode b_M_readSevens 25 = .ok (.iload_n 1, 1) := by decide +kernel
theorem d_M_readSevens_26 : decode b_M_readSevens 26 = .ok (.iaload, 1) := by decide +kernel
theorem d_M_readSevens_27 : decode b_M_readSevens 27 = .ok (.invokevirtual 103, 3) := by decide +kernel
theorem d_M_readSevens_30 : decode b_M_readSevens 30 = .ok (.lstore_n 2, 1) := by decide +kernel
theorem d_M_readSevens_31 : decode b_M_readSevens 31 = .ok (.aload_n 0, 1) := by decide +kernel
theorem d_M_readSevens_32 : decode b_M_readSevens 32 = .ok (.getfield 100, 3) := by decide +kernel
theorem d_M_readSevens_35 : decode b_M_readSevens 35 = .ok (.ifCond .ge 9, 3) := by decide +kernel
theorem d_M_readSevens_38 : decode b_M_readSevens 38 = .ok (.aload_n 0, 1) := by decide +kernel
theorem d_M_readSevens_39 : decode b_M_readSevens 39 = .ok (.invokevirtual 107, 3) := by decide +kernel
theorem d_M_readSevens_42 : decode b_M_readSevens 42 = .ok (.i2l, 1) := by decide +kernel
theorem d_M_readSevens_43 : decode b_M_readSevens 43 = .ok (.lreturn, 1) := by decide +kernel
theorem d_M_readSevens_44 : decode b_M_readSevens 44 = .ok (.aload_n 0, 1) := by decide +kernel
theorem d_M_readSevens_45 : decode b_M_readSevens 45 = .ok (.getfield 18, 3) := by decide +kernel
theorem d_M_readSevens_48 : decode b_M_readSevens 48 = .ok (.iload_n 1, 1) := by decide +kernel
theorem d_M_readSevens_49 : decode b_M_readSevens 49 = .ok (.dup2, 1) := by decide +kernel
theorem d_M_readSevens_50 : decode b_M_readSevens 50 = .ok (.iaload, 1) := by decide +kernel
theorem d_M_readSevens_51 : decode b_M_readSevens 51 = .ok (.aload_n 0, 1) := by decide +kernel
theorem d_M_readSevens_52 : decode b_M_readSevens 52 = .ok (.getfield 100, 3) := by decide +kernel
theorem d_M_readSevens_55 : decode b_M_readSevens 55 = .ok (.iadd, 1) := by decide +kernel
theorem d_M_readSevens_56 : decode b_M_readSevens 56 = .ok (.iastore, 1) := by decide +kernel
theorem d_M_readSevens_57 : decode b_M_readSevens 57 = .ok (.lload_n 2, 1) := by decide +kernel
theorem d_M_readSevens_58 : decode b_M_readSevens 58 = .ok (.lreturn, 1) := by decide +kernel
theorem d_M_readSigned_0 : decode b_M_readSigned 0 = .ok (.aload_n 0, 1) := by decide +kernel
theorem d_M_readSigned_1 : decode b_M_readSigned 1 = .ok (.iconst 0, 1) := by decide +kernel
theorem d_M_readSigned_2 : decode b_M_readSigned 2 = .ok (.putfield 26, 3) := by decide +kernel
theorem d_M_readSigned_5 : decode b_M_readSigned 5 = .ok (.iload_n 1, 1) := by decide +kernel
theorem d_M_readSigned_6 : decode b_M_readSigned 6 = .ok (.invokestatic 52, 3) := by decide +kernel
theorem d_M_readSigned_9 : decode b_M_readSigned 9 = .ok (.ifCond .ne 10, 3) := by decide +kernel
theorem d_M_readSigned_12 : decode b_M_readSigned 12 = .ok (.aload_n 0, 1) := by decide +kernel
theorem d_M_readSigned_13 : decode b_M_readSigned 13 = .ok (.iconst 1, 1) := by decide +kernel
theorem d_M_readSigned_14 : decode b_M_readSigned 14 = .ok (.invokevirtual 56, 3) := by decide +kernel
theorem d_M_readSigned_17 : decode b_M_readSigned 17 = .ok (.i2l, 1) := by decide +kernel
theorem d_M_readSigned_18 : decode b_M_readSigned 18 = .ok (.lreturn, 1) := by decide +kernel
theorem d_M_readSigned_19 : decode b_M_readSigned 19 = .ok (.aload_n 0, 1) := by decide +kernel
theorem d_M_readSigned_20 : decode b_M_readSigned 20 = .ok (.iload_n 1, 1) := by decide +kernel
theorem d_M_readSigned_21 : decode b_M_readSigned 21 = .ok (.aload_n 0, 1) := by decide +kernel
theorem d_M_readSigned_22 : decode b_M_readSigned 22 = .ok (.getfield 18, 3) := by decide +kernel
theorem d_M_readSigned_25 : decode b_M_readSigned 25 = .ok (.iload_n 1, 1) := by decide +kernel
theorem d_M_readSigned_26 : decode b_M_readSigned 26 = .ok (.iaload, 1) := by decide +kernel
theorem d_M_readSigned_27 : decode b_M_readSigned 27 = .ok (.invokevirtual 103, 3) := by decide +kernel
theorem d_M_readSigned_30 : decode b_M_readSigned 30 = .ok (.lstore_n 2, 1) := by decide +kernel
theorem d_M_readSigned_31 : decode b_M_readSigned 31 = .ok (.aload_n 0, 1) := by decide +kernel
theorem d_M_readSigned_32 : decode b_M_readSigned 32 = .ok (.getfield 100, 3) := by decide +kernel
theorem d_M_readSigned_35 : decode b_M_readSigned 35 = .ok (.ifCond .ge 9, 3) := by decide +kernel
theorem d_M_readSigned_38 : decode b_M_readSigned 38 = .ok (.aload_n 0, 1) := by decide +kernel
theorem d_M_readSigned_39 : decode b_M_readSigned 39 = .ok (.invokevirtual 107, 3) := by decide +kernel
theorem d_M_readSigned_42 : decode b_M_readSigned 42 = .ok (.i2l, 1) := by decide +kernel
theorem d_M_readSigned_43 : decode b_M_readSigned 43 = .ok (.lreturn, 1) := by decide +kernel
theorem d_M_readSigned_44 : decode b_M_readSigned 44 = .ok (.aload_n 0, 1) := by decide +kernel
theorem d_M_readSigned_45 : decode b_M_readSigned 45 = .ok (.getfield 18, 3) := by decide +kernel
theorem d_M_readSigned_48 : decode b_M_readSigned 48 = .ok (.iload_n 1, 1) := by decide +kernel
theorem d_M_readSigned_49 : decode b_M_readSigned 49 = .ok (.dup2, 1) := by decide +kernel
theorem d_M_readSigned_50 : decode b_M_readSigned 50 = .ok (.iaload, 1) := by decide +kernel
theorem d_M_readSigned_51 : decode b_M_readSigned 51 = .ok (.aload_n 0, 1) := by decide +kernel
theorem d_M_readSigned_52 : decode b_M_readSigned 52 = .ok (.getfield 100, 3) := by decide +kernel
theorem d_M_readSigned_55 : decode b_M_readSigned 55 = .ok (.iadd, 1) := by decide +kernel
theorem d_M_readSigned_56 : decode b_M_readSigned 56 = .ok (.iastore, 1) := by decide +kernel
theorem d_M_readSigned_57 : decode b_M_readSigned 57 = .ok (.lload_n 2, 1) := by decide +kernel
theorem d_M_readSigned_58 : decode b_M_readSigned 58 = .ok (.ldc2_w 111, 3) := by decide +kernel
theorem d_M_readSigned_61 : decode b_M_readSigned 61 = .ok (.lrem, 1) := by decide +kernel
theorem d_M_readSigned_62 : decode b_M_readSigned 62 = .ok (.lconst 0, 1) := by decide +kernel
theorem d_M_readSigned_63 : decode b_M_readSigned 63 = .ok (.lcmp, 1) := by decide +kernel
theorem d_M_readSigned_64 : decode b_M_readSigned 64 = .ok (.ifCond .ne 9, 3) := by decide +kernel
theorem d_M_readSigned_67 : decode b_M_readSigned 67 = .ok (.lload_n 2, 1) := by decide +kernel
theorem d_M_readSigned_68 : decode b_M_readSigned 68 = .ok (.iconst 1, 1) := by decide +kernel
theorem d_M_readSigned_69 : decode b_M_readSigned 69 = .ok (.lushr, 1) := by decide +kernel
theorem d_M_readSigned_70 : decode b_M_readSigned 70 = .ok (.goto 10, 3) := by decide +kernel
theorem d_M_readSigned_73 : decode b_M_readSigned 73 = .ok (.lload_n 2, 1) := by decide +kernel
theorem d_M_readSigned_74 : decode b_M_readSigned 74 = .ok (.iconst 1, 1) := by decide +kernel
theorem d_M_readSigned_75 : decode b_M_readSigned 75 = .ok (.lushr, 1) := by decide +kernel
theorem d_M_readSigned_76 : decode b_M_readSigned 76 = .ok (.ldc2_w 31, 3) := by decide +kernel
theorem d_M_readSigned_79 : decode b_M_readSigned 79 = .ok (.lxor, 1) := by decide +kernel
theorem d_M_readSigned_80 : decode b_M_readSigned 80 = .ok (.lreturn, 1) := by decide +kernel
theorem d_M_canBe_0 : decode b_M_canBe 0 = .ok (.iload_n 0, 1) := by decide +kernel
theorem d_M_canBe_1 : decode b_M_canBe 1 = .ok (.iconst 1, 1) := by decide +kernel
theorem d_M_canBe_2 : decode b_M_canBe 2 = .ok (.if_icmp .ne 5, 3) := by decide +kernel
theorem d_M_canBe_5 : decode b_M_canBe 5 = .ok (.iconst 1, 1) := by decide +kernel
theorem d_M_canBe_6 : decode b_M_canBe 6 = .ok (.ireturn, 1) := by decide +kernel
theorem d_M_canBe_7 : decode b_M_canBe 7 = .ok (.iload_n 0, 1) := by decide +kernel
theorem d_M_canBe_8 : decode b_M_canBe 8 = .ok (.iconst 2, 1) := by decide +kernel
theorem d_M_canBe_9 : decode b_M_canBe 9 = .ok (.if_icmp .ne 16, 3) := by decide +kernel
theorem d_M_canBe_12 : decode b_M_canBe 12 = .ok (.iload_n 2, 1) := by decide +kernel
theorem d_M_canBe_13 : decode b_M_canBe 13 = .ok (.sipush 128, 3) := by decide +kernel
theorem d_M_canBe_16 : decode b_M_canBe 16 = .ok (.if_icmp .lt 7, 3) := by decide +kernel
theorem d_M_canBe_19 : decode b_M_canBe 19 = .ok (.iconst 1, 1) := by decide +kernel
theorem d_M_canBe_20 : decode b_M_canBe 20 = .ok (.goto 4, 3) := by decide +kernel
theorem d_M_canBe_23 : decode b_M_canBe 23 = .ok (.iconst 0, 1) := by decide +kernel
theorem d_M_canBe_24 : decode b_M_canBe 24 = .ok (.ireturn, 1) := by decide +kernel
theorem d_M_canBe_25 : decode b_M_canBe 25 = .ok (.iload_n 0, 1) := by decide +kernel
theorem d_M_canBe_26 : decode b_M_canBe 26 = .ok (.iconst 3, 1) := by decide +kernel
theorem d_M_canBe_27 : decode b_M_canBe 27 = .ok (.if_icmp .ne 28, 3) := by decide +kernel
theorem d_M_canBe_30 : decode b_M_canBe 30 = .ok (.iload_n 2, 1) := by decide +kernel
theorem d_M_canBe_31 : decode b_M_canBe 31 = .ok (.sipush 2048, 3) := by decide +kernel
theorem d_M_canBe_34 : decode b_M_canBe 34 = .ok (.if_icmp .lt 19, 3) := by decide +kernel
theorem d_M_canBe_37 : decode b_M_canBe 37 = .ok (.iload_n 1, 1) := by decide +kernel
theorem d_M_canBe_38 : decode b_M_canBe 38 = .ok (.ldc 77, 2) := by decide +kernel
theorem d_M_canBe_40 : decode b_M_canBe 40 = .ok (.if_icmp .lt 9, 3) := by decide +kernel
theorem d_M_canBe_43 : decode b_M_canBe 43 = .ok (.iload_n 2, 1) := by decide +kernel
theorem d_M_canBe_44 : decode b_M_canBe 44 = .ok (.ldc 78, 2) := by decide +kernel
theorem d_M_canBe_46 : decode b_M_canBe 46 = .ok (.if_icmp .le 7, 3) := by decide +kernel
theorem d_M_canBe_49 : decode b_M_canBe 49 = .ok (.iconst 1, 1) := by decide +kernel
theorem d_M_canBe_50 : decode b_M_canBe 50 = .ok (.goto 4, 3) := by decide +kernel
theorem d_M_canBe_53 : decode b_M_canBe 53 = .ok (.iconst 0, 1) := by decide +kernel
theorem d_M_canBe_54 : decode b_M_canBe 54 = .ok (.ireturn, 1) := by decide +kernel
theorem d_M_canBe_55 : decode b_M_canBe 55 = .ok (.iload_n 2, 1) := by decide +kernel
theorem d_M_canBe_56 : decode b_M_canBe 56 = .ok (.ldc 21, 2) := by decide +kernel
theorem d_M_canBe_58 : decode b_M_canBe 58 = .ok (.if_icmp .lt 13, 3) := by decide +kernel
theorem d_M_canBe_61 : decode b_M_canBe 61 = .ok (.iload_n 1, 1) := by decide +kernel
theorem d_M_canBe_62 : decode b_M_canBe 62 = .ok (.ldc 76, 2) := by decide +kernel
theorem d_M_canBe_64 : decode b_M_canBe 64 = .ok (.if_icmp .gt 7, 3) := by decide +kernel
theorem d_M_canBe_67 : decode b_M_canBe 67 = .ok (.iconst 1, 1) := by decide +kernel
theorem d_M_canBe_68 : decode b_M_canBe 68 = .ok (.goto 4, 3) := by decide +kernel
theorem d_M_canBe_71 : decode b_M_canBe 71 = .ok (.iconst 0, 1) := by decide +kernel
theorem d_M_canBe_72 : decode b_M_canBe 72 = .ok (.ireturn, 1) := by decide +kernel
