/-! decode rows -/
theorem d_D_sevensAtPlace_0 : decode b_D_sevensAtPlace 0 = .ok (.lconst 0, 1) := by decide +kernel
theorem d_D_sevensAtPlace_1 : decode b_D_sevensAtPlace 1 = .ok (.lstore_n 2, 1) := by decide +kernel
theorem d_D_sevensAtPlace_2 : decode b_D_sevensAtPlace 2 = .ok (.iconst 0, 1) := by decide +kernel
theorem d_D_sevensAtPlace_3 : decode b_D_sevensAtPlace 3 = .ok (.istore 4, 2) := by decide +kernel
theorem d_D_sevensAtPlace_5 : decode b_D_sevensAtPlace 5 = .ok (.iload 4, 2) := by decide +kernel
theorem d_D_sevensAtPlace_7 : decode b_D_sevensAtPlace 7 = .ok (.iload_n 1, 1) := by decide +kernel
theorem d_D_sevensAtPlace_8 : decode b_D_sevensAtPlace 8 = .ok (.if_icmp .ge 33, 3) := by decide +kernel
theorem d_D_sevensAtPlace_11 : decode b_D_sevensAtPlace 11 = .ok (.lload_n 2, 1) := by decide +kernel
theorem d_D_sevensAtPlace_12 : decode b_D_sevensAtPlace 12 = .ok (.aload_n 0, 1) := by decide +kernel
theorem d_D_sevensAtPlace_13 : decode b_D_sevensAtPlace 13 = .ok (.aload_n 0, 1) := by decide +kernel
theorem d_D_sevensAtPlace_14 : decode b_D_sevensAtPlace 14 = .ok (.getfield 87, 3) := by decide +kernel
theorem d_D_sevensAtPlace_17 : decode b_D_sevensAtPlace 17 = .ok (.iload 4, 2) := by decide +kernel
theorem d_D_sevensAtPlace_19 : decode b_D_sevensAtPlace 19 = .ok (.iadd, 1) := by decide +kernel
theorem d_D_sevensAtPlace_20 : decode b_D_sevensAtPlace 20 = .ok (.invokevirtual 92, 3) := by decide +kernel
theorem d_D_sevensAtPlace_23 : decode b_D_sevensAtPlace 23 = .ok (.bipush 127, 2) := by decide +kernel
theorem d_D_sevensAtPlace_25 : decode b_D_sevensAtPlace 25 = .ok (.iand, 1) := by decide +kernel
theorem d_D_sevensAtPlace_26 : decode b_D_sevensAtPlace 26 = .ok (.i2l, 1) := by decide +kernel
theorem d_D_sevensAtPlace_27 : decode b_D_sevensAtPlace 27 = .ok (.bipush 7, 2) := by decide +kernel
theorem d_D_sevensAtPlace_29 : decode b_D_sevensAtPlace 29 = .ok (.iload 4, 2) := by decide +kernel
theorem d_D_sevensAtPlace_31 : decode b_D_sevensAtPlace 31 = .ok (.imul, 1) := by decide +kernel
theorem d_D_sevensAtPlace_32 : decode b_D_sevensAtPlace 32 = .ok (.lshl, 1) := by decide +kernel
theorem d_D_sevensAtPlace_33 : decode b_D_sevensAtPlace 33 = .ok (.lor, 1) := by decide +kernel
theorem d_D_sevensAtPlace_34 : decode b_D_sevensAtPlace 34 = .ok (.lstore_n 2, 1) := by decide +kernel
theorem d_D_sevensAtPlace_35 : decode b_D_sevensAtPlace 35 = .ok (.iinc 4 1, 3) := by decide +kernel
theorem d_D_sevensAtPlace_38 : decode b_D_sevensAtPlace 38 = .ok (.goto (-33), 3) := by decide +kernel
theorem d_D_sevensAtPlace_41 : decode b_D_sevensAtPlace 41 = .ok (.lload_n 2, 1) := by decide +kernel
theorem d_D_sevensAtPlace_42 : decode b_D_sevensAtPlace 42 = .ok (.lreturn, 1) := by decide +kernel
theorem d_D_takeSevens_0 : decode b_D_takeSevens 0 = .ok (.aload_n 0, 1) := by decide +kernel
theorem d_D_takeSevens_1 : decode b_D_takeSevens 1 = .ok (.invokestatic 126, 3) := by decide +kernel
theorem d_D_takeSevens_4 : decode b_D_takeSevens 4 = .ok (.istore_n 1, 1) := by decide +kernel
theorem d_D_takeSevens_5 : decode b_D_takeSevens 5 = .ok (.aload_n 0, 1) := by decide +kernel
theorem d_D_takeSevens_6 : decode b_D_takeSevens 6 = .ok (.iload_n 1, 1) := by decide +kernel
theorem d_D_takeSevens_7 : decode b_D_takeSevens 7 = .ok (.invokestatic 177, 3) := by decide +kernel
theorem d_D_takeSevens_10 : decode b_D_takeSevens 10 = .ok (.lstore_n 2, 1) := by decide +kernel
theorem d_D_takeSevens_11 : decode b_D_takeSevens 11 = .ok (.aload_n 0, 1) := by decide +kernel
theorem d_D_takeSevens_12 : decode b_D_takeSevens 12 = .ok (.dup, 1) := by decide +kernel
theorem d_D_takeSevens_13 : decode b_D_takeSevens 13 = .ok (.getfield 87, 3) := by decide +kernel
theorem d_D_takeSevens_16 : decode b_D_takeSevens 16 = .ok (.iload_n 1, 1) := by decide +kernel
theorem d_D_takeSevens_17 : decode b_D_takeSevens 17 = .ok (.iadd, 1) := by decide +kernel
theorem d_D_takeSevens_18 : decode b_D_takeSevens 18 = .ok (.putfield 87, 3) := by decide +kernel
theorem d_D_takeSevens_21 : decode b_D_takeSevens 21 = .ok (.lload_n 2, 1) := by decide +kernel
theorem d_D_takeSevens_22 : decode b_D_takeSevens 22 = .ok (.lreturn, 1) := by decide +kernel
theorem d_D_howManyAtPlace_0 : decode b_D_howManyAtPlace 0 = .ok (.aload_n 0, 1) := by decide +kernel
theorem d_D_howManyAtPlace_1 : decode b_D_howManyAtPlace 1 = .ok (.iload_n 1, 1) := by decide +kernel
theorem d_D_howManyAtPlace_2 : decode b_D_howManyAtPlace 2 = .ok (.invokestatic 177, 3) := by decide +kernel
theorem d_D_howManyAtPlace_5 : decode b_D_howManyAtPlace 5 = .ok (.lstore_n 2, 1) := by decide +kernel
theorem d_D_howManyAtPlace_6 : decode b_D_howManyAtPlace 6 = .ok (.lload_n 2, 1) := by decide +kernel
theorem d_D_howManyAtPlace_7 : decode b_D_howManyAtPlace 7 = .ok (.lconst 0, 1) := by decide +kernel
theorem d_D_howManyAtPlace_8 : decode b_D_howManyAtPlace 8 = .ok (.lcmp, 1) := by decide +kernel
theorem d_D_howManyAtPlace_9 : decode b_D_howManyAtPlace 9 = .ok (.ifCond .lt 11, 3) := by decide +kernel
theorem d_D_howManyAtPlace_12 : decode b_D_howManyAtPlace 12 = .ok (.lload_n 2, 1) := by decide +kernel
theorem d_D_howManyAtPlace_13 : decode b_D_howManyAtPlace 13 = .ok (.ldc2_w 181, 3) := by decide +kernel
theorem d_D_howManyAtPlace_16 : decode b_D_howManyAtPlace 16 = .ok (.lcmp, 1) := by decide +kernel
theorem d_D_howManyAtPlace_17 : decode b_D_howManyAtPlace 17 = .ok (.ifCond .le 13, 3) := by decide +kernel
theorem d_D_howManyAtPlace_20 : decode b_D_howManyAtPlace 20 = .ok (.new 55, 3) := by decide +kernel
theorem d_D_howManyAtPlace_23 : decode b_D_howManyAtPlace 23 = .ok (.dup, 1) := by decide +kernel
theorem d_D_howManyAtPlace_24 : decode b_D_howManyAtPlace 24 = .ok (.ldc 183, 2) := by decide +kernel
theorem d_D_howManyAtPlace_26 : decode b_D_howManyAtPlace 26 = .ok (.invokespecial 59, 3) := by decide +kernel
theorem d_D_howManyAtPlace_29 : decode b_D_howManyAtPlace 29 = .ok (.athrow, 1) := by decide +kernel
theorem d_D_howManyAtPlace_30 : decode b_D_howManyAtPlace 30 = .ok (.lload_n 2, 1) := by decide +kernel
theorem d_D_howManyAtPlace_31 : decode b_D_howManyAtPlace 31 = .ok (.l2i, 1) := by decide +kernel
theorem d_D_howManyAtPlace_32 : decode b_D_howManyAtPlace 32 = .ok (.ireturn, 1) := by decide +kernel
theorem d_D_letterWidth_0 : decode b_D_letterWidth 0 = .ok (.iload_n 0, 1) := by decide +kernel
theorem d_D_letterWidth_1 : decode b_D_letterWidth 1 = .ok (.ifCond .lt 21, 3) := by decide +kernel
theorem d_D_letterWidth_4 : decode b_D_letterWidth 4 = .ok (.iload_n 0, 1) := by decide +kernel
theorem d_D_letterWidth_5 : decode b_D_letterWidth 5 = .ok (.ldc 185, 2) := by decide +kernel
theorem d_D_letterWidth_7 : decode b_D_letterWidth 7 = .ok (.if_icmp .gt 15, 3) := by decide +kernel
theorem d_D_letterWidth_10 : decode b_D_letterWidth 10 = .ok (.iload_n 0, 1) := by decide +kernel
theorem d_D_letterWidth_11 : decode b_D_letterWidth 11 = .ok (.ldc 186, 2) := by decide +kernel
theorem d_D_letterWidth_13 : decode b_D_letterWidth 13 = .ok (.if_icmp .lt 11, 3) := by decide +kernel
theorem d_D_letterWidth_16 : decode b_D_letterWidth 16 = .ok (.iload_n 0, 1) := by decide +kernel
theorem d_D_letterWidth_17 : decode b_D_letterWidth 17 = .ok (.ldc 187, 2) := by decide +kernel
theorem d_D_letterWidth_19 : decode b_D_letterWidth 19 = .ok (.if_icmp .gt 5, 3) := by decide +kernel
theorem d_D_letterWidth_22 : decode b_D_letterWidth 22 = .ok (.iconst 0, 1) := by decide +kernel
theorem d_D_letterWidth_23 : decode b_D_letterWidth 23 = .ok (.ireturn, 1) := by decide +kernel
theorem d_D_letterWidth_24 : decode b_D_letterWidth 24 = .ok (.iload_n 0, 1) := by decide +kernel
theorem d_D_letterWidth_25 : decode b_D_letterWidth 25 = .ok (.sipush 128, 3) := by decide +kernel
theorem d_D_letterWidth_28 : decode b_D_letterWidth 28 = .ok (.if_icmp .ge 5, 3) := by decide +kernel
theorem d_D_letterWidth_31 : decode b_D_letterWidth 31 = .ok (.iconst 1, 1) := by decide +kernel
theorem d_D_letterWidth_32 : decode b_D_letterWidth 32 = .ok (.ireturn, 1) := by decide +kernel
theorem d_D_letterWidth_33 : decode b_D_letterWidth 33 = .ok (.iload_n 0, 1) := by decide +kernel
theorem d_D_letterWidth_34 : decode b_D_letterWidth 34 = .ok (.sipush 2048, 3) := by decide +kernel
theorem d_D_letterWidth_37 : decode b_D_letterWidth 37 = .ok (.if_icmp .ge 5, 3) := by decide +kernel
theorem d_D_letterWidth_40 : decode b_D_letterWidth 40 = .ok (.iconst 2, 1) := by decide +kernel
theorem d_D_letterWidth_41 : decode b_D_letterWidth 41 = .ok (.ireturn, 1) := by decide +kernel
theorem d_D_letterWidth_42 : decode b_D_letterWidth 42 = .ok (.iload_n 0, 1) := by decide +kernel
theorem d_D_letterWidth_43 : decode b_D_letterWidth 43 = .ok (.ldc 9, 2) := by decide +kernel
theorem d_D_letterWidth_45 : decode b_D_letterWidth 45 = .ok (.if_icmp .ge 7, 3) := by decide +kernel
theorem d_D_letterWidth_48 : decode b_D_letterWidth 48 = .ok (.iconst 3, 1) := by decide +kernel
theorem d_D_letterWidth_49 : decode b_D_letterWidth 49 = .ok (.goto 4, 3) := by decide +kernel
theorem d_D_letterWidth_52 : decode b_D_letterWidth 52 = .ok (.iconst 4, 1) := by decide +kernel
theorem d_D_letterWidth_53 : decode b_D_letterWidth 53 = .ok (.ireturn, 1) := by decide +kernel
theorem d_D_addLetter_0 : decode b_D_addLetter 0 = .ok (.bipush 6, 2) := by decide +kernel
theorem d_D_addLetter_2 : decode b_D_addLetter 2 = .ok (.iload_n 2, 1) := by decide +kernel
theorem d_D_addLetter_3 : decode b_D_addLetter 3 = .ok (.iconst 1, 1) := by decide +kernel
theorem d_D_addLetter_4 : decode b_D_addLetter 4 = .ok (.isub, 1) := by decide +kernel
theorem d_D_addLetter_5 : decode b_D_addLetter 5 = .ok (.imul, 1) := by decide +kernel
theorem d_D_addLetter_6 : decode b_D_addLetter 6 = .ok (.istore_n 3, 1) := by decide +kernel
theorem d_D_addLetter_7 : decode b_D_addLetter 7 = .ok (.aload_n 0, 1) := by decide +kernel
theorem d_D_addLetter_8 : decode b_D_addLetter 8 = .ok (.iload_n 2, 1) := by decide +kernel
theorem d_D_addLetter_9 : decode b_D_addLetter 9 = .ok (.invokestatic 188, 3) := by decide +kernel
theorem d_D_addLetter_12 : decode b_D_addLetter 12 = .ok (.iload_n 1, 1) := by decide +kernel
theorem d_D_addLetter_13 : decode b_D_addLetter 13 = .ok (.iload_n 3, 1) := by decide +kernel
theorem d_D_addLetter_14 : decode b_D_addLetter 14 = .ok (.iushr, 1) := by decide +kernel
theorem d_D_addLetter_15 : decode b_D_addLetter 15 = .ok (.ior, 1) := by decide +kernel
theorem d_D_addLetter_16 : decode b_D_addLetter 16 = .ok (.invokevirtual 165, 3) := by decide +kernel
theorem d_D_addLetter_19 : decode b_D_addLetter 19 = .ok (.iconst 1, 1) := by decide +kernel
theorem d_D_addLetter_20 : decode b_D_addLetter 20 = .ok (.istore 4, 2) := by decide +kernel
theorem d_D_addLetter_22 : decode b_D_addLetter 22 = .ok (.iload 4, 2) := by decide +kernel
theorem d_D_addLetter_24 : decode b_D_addLetter 24 = .ok (.iload_n 2, 1) := by decide +kernel
theorem d_D_addLetter_25 : decode b_D_addLetter 25 = .ok (.if_icmp .ge 29, 3) := by decide +kernel
theorem d_D_addLetter_28 : decode b_D_addLetter 28 = .ok (.aload_n 0, 1) := by decide +kernel
theorem d_D_addLetter_29 : decode b_D_addLetter 29 = .ok (.sipush 128, 3) := by decide +kernel
theorem d_D_addLetter_32 : decode b_D_addLetter 32 = .ok (.iload_n 1, 1) := by decide +kernel
theorem d_D_addLetter_33 : decode b_D_addLetter 33 = .ok (.iload_n 3, 1) := by decide +kernel
theorem d_D_addLetter_34 : decode b_D_addLetter 34 = .ok (.bipush 6, 2) := by decide +kernel
theorem d_D_addLetter_36 : decode b_D_addLetter 36 = .ok (.iload 4, 2) := by decide +kernel
theorem d_D_addLetter_38 : decode b_D_addLetter 38 = .ok (.imul, 1) := by decide +kernel
theorem d_D_addLetter_39 : decode b_D_addLetter 39 = .ok (.isub, 1) := by decide +kernel
theorem d_D_addLetter_40 : decode b_D_addLetter 40 = .ok (.iushr, 1) := by decide +kernel
theorem d_D_addLetter_41 : decode b_D_addLetter 41 = .ok (.bipush 63, 2) := by decide +kernel
theorem d_D_addLetter_43 : decode b_D_addLetter 43 = .ok (.iand, 1) := by decide +kernel
theorem d_D_addLetter_44 : decode b_D_addLetter 44 = .ok (.ior, 1) := by decide +kernel
theorem d_D_addLetter_45 : decode b_D_addLetter 45 = .ok (.invokevirtual 165, 3) := by decide +kernel
theorem d_D_addLetter_48 : decode b_D_addLetter 48 = .ok (.iinc 4 1, 3) := by decide +kernel
theorem d_D_addLetter_51 : decode b_D_addLetter 51 = .ok (.goto (-29), 3) := by decide +kernel
theorem d_D_addLetter_54 : decode b_D_addLetter 54 = .ok (.return_, 1) := by decide +kernel
theorem d_D_firstMark_0 : decode b_D_firstMark 0 = .ok (.iload_n 0, 1) := by decide +kernel
theorem d_D_firstMark_1 : decode b_D_firstMark 1 = .ok (.tableswitch 39 2 4 #[27, 31, 35], 27) := by decide +kernel
theorem d_D_firstMark_28 : decode b_D_firstMark 28 = .ok (.sipush 192, 3) := by decide +kernel
theorem d_D_firstMark_31 : decode b_D_firstMark 31 = .ok (.ireturn, 1) := by decide +kernel
theorem d_D_firstMark_32 : decode b_D_firstMark 32 = .ok (.sipush 224, 3) := by decide +kernel
theorem d_D_firstMark_35 : decode b_D_firstMark 35 = .ok (.ireturn, 1) := by decide +kernel
theorem d_D_firstMark_36 : decode b_D_firstMark 36 = .ok (.sipush 240, 3) := by decide +kernel
theorem d_D_firstMark_39 : decode b_D_firstMark 39 = .ok (.ireturn, 1) := by decide +kernel
theorem d_D_firstMark_40 : decode b_D_firstMark 40 = .ok (.iconst 0, 1) := by decide +kernel
theorem d_D_firstMark_41 : decode b_D_firstMark 41 = .ok (.ireturn, 1) := by decide +kernel
theorem d_D_widthByFirst_0 : decode b_D_widthByFirst 0 = .ok (.iload_n 0, 1) := by decide +kernel
theorem d_D_widthByFirst_1 : decode b_D_widthByFirst 1 = .ok (.sipush 128, 3) := by decide +kernel
theorem d_D_widthByFirst_4 : decode b_D_widthByFirst 4 = .ok (.if_icmp .ge 5, 3) := by decide +kernel
theorem d_D_widthByFirst_7 : decode b_D_widthByFirst 7 = .ok (.iconst 1, 1) := by decide +kernel
theorem d_D_widthByFirst_8 : decode b_D_widthByFirst 8 = .ok (.ireturn, 1) := by decide +kernel
theorem d_D_widthByFirst_9 : decode b_D_widthByFirst 9 = .ok (.iload_n 0, 1) := by decide +kernel
theorem d_D_widthByFirst_10 : decode b_D_widthByFirst 10 = .ok (.sipush 194, 3) := by decide +kernel
theorem d_D_widthByFirst_13 : decode b_D_widthByFirst 13 = .ok (.if_icmp .lt 10, 3) := by decide +kernel
theorem d_D_widthByFirst_16 : decode b_D_widthByFirst 16 = .ok (.iload_n 0, 1) := by decide +kernel
theorem d_D_widthByFirst_17 : decode b_D_widthByFirst 17 = .ok (.sipush 244, 3) := by decide +kernel
theorem d_D_widthByFirst_20 : decode b_D_widthByFirst 20 = .ok (.if_icmp .le 5, 3) := by decide +kernel
theorem d_D_widthByFirst_23 : decode b_D_widthByFirst 23 = .ok (.iconst 0, 1) := by decide +kernel
theorem d_D_widthByFirst_24 : decode b_D_widthByFirst 24 = .ok (.ireturn, 1) := by decide +kernel
theorem d_D_widthByFirst_25 : decode b_D_widthByFirst 25 = .ok (.iload_n 0, 1) := by decide +kernel
theorem d_D_widthByFirst_26 : decode b_D_widthByFirst 26 = .ok (.sipush 224, 3) := by decide +kernel
theorem d_D_widthByFirst_29 : decode b_D_widthByFirst 29 = .ok (.if_icmp .ge 5, 3) := by decide +kernel
theorem d_D_widthByFirst_32 : decode b_D_widthByFirst 32 = .ok (.iconst 2, 1) := by decide +kernel
theorem d_D_widthByFirst_33 : decode b_D_widthByFirst 33 = .ok (.ireturn, 1) := by decide +kernel
theorem d_D_widthByFirst_34 : decode b_D_widthByFirst 34 = .ok (.iload_n 0, 1) := by decide +kernel
theorem d_D_widthByFirst_35 : decode b_D_widthByFirst 35 = .ok (.sipush 240, 3) := by decide +kernel
theorem d_D_widthByFirst_38 : decode b_D_widthByFirst 38 = .ok (.if_icmp .ge 7, 3) := by decide +kernel
theorem d_D_widthByFirst_41 : decode b_D_widthByFirst 41 = .ok (.iconst 3, 1) := by decide +kernel
theorem d_D_widthByFirst_42 : decode b_D_widthByFirst 42 = .ok (.goto 4, 3) := by decide +kernel
theorem d_D_widthByFirst_45 : decode b_D_widthByFirst 45 = .ok (.iconst 4, 1) := by decide +kernel
theorem d_D_widthByFirst_46 : decode b_D_widthByFirst 46 = .ok (.ireturn, 1) := by decide +kernel
theorem d_D_letterAt_0 : decode b_D_letterAt 0 = .ok (.iload_n 1, 1) := by decide +kernel
theorem d_D_letterAt_1 : decode b_D_letterAt 1 = .ok (.iload_n 2, 1) := by decide +kernel
theorem d_D_letterAt_2 : decode b_D_letterAt 2 = .ok (.if_icmp .lt 6, 3) := by decide +kernel
theorem d_D_letterAt_5 : decode b_D_letterAt 5 = .ok (.bipush (-2), 2) := by decide +kernel
theorem d_D_letterAt_7 : decode b_D_letterAt 7 = .ok (.ireturn, 1) := by decide +kernel
theorem d_D_letterAt_8 : decode b_D_letterAt 8 = .ok (.aload_n 0, 1) := by decide +kernel
theorem d_D_letterAt_9 : decode b_D_letterAt 9 = .ok (.iload_n 1, 1) := by decide +kernel
theorem d_D_letterAt_10 : decode b_D_letterAt 10 = .ok (.invokevirtual 92, 3) := by decide +kernel
theorem d_D_letterAt_13 : decode b_D_letterAt 13 = .ok (.istore_n 3, 1) := by decide +kernel
theorem d_D_letterAt_14 : decode b_D_letterAt 14 = .ok (.iload_n 3, 1) := by decide +kernel
theorem d_D_letterAt_15 : decode b_D_letterAt 15 = .ok (.invokestatic 191, 3) := by decide +kernel
theorem d_D_letterAt_18 : decode b_D_letterAt 18 = .ok (.istore 4, 2) := by decide +kernel
theorem d_D_letterAt_20 : decode b_D_letterAt 20 = .ok (.iload 4, 2) := by decide +kernel
theorem d_D_letterAt_22 : decode b_D_letterAt 22 = .ok (.ifCond .ne 5, 3) := by decide +kernel
theorem d_D_letterAt_25 : decode b_D_letterAt 25 = .ok (.iconst (-1), 1) := by decide +kernel
theorem d_D_letterAt_26 : decode b_D_letterAt 26 = .ok (.ireturn, 1) := by decide +kernel
theorem d_D_letterAt_27 : decode b_D_letterAt 27 = .ok (.iload_n 3, 1) := by decide +kernel
theorem d_D_letterAt_28 : decode b_D_letterAt 28 = .ok (.iload 4, 2) := by decide +kernel
theorem d_D_letterAt_30 : decode b_D_letterAt 30 = .ok (.invokestatic 188, 3) := by decide +kernel
theorem d_D_letterAt_33 : decode b_D_letterAt 33 = .ok (.isub, 1) := by decide +kernel
theorem d_D_letterAt_34 : decode b_D_letterAt 34 = .ok (.istore 5, 2) := by decide +kernel
theorem d_D_letterAt_36 : decode b_D_letterAt 36 = .ok (.iconst 1, 1) := by decide +kernel
theorem d_D_letterAt_37 : decode b_D_letterAt 37 = .ok (.istore 6, 2) := by decide +kernel
theorem d_D_letterAt_39 : decode b_D_letterAt 39 = .ok (.iload 6, 2) := by decide +kernel
theorem d_D_letterAt_41 : decode b_D_letterAt 41 = .ok (.iload 4, 2) := by decide +kernel
theorem d_D_letterAt_43 : decode b_D_letterAt 43 = .ok (.if_icmp .ge 84, 3) := by decide +kernel
theorem d_D_letterAt_46 : decode b_D_letterAt 46 = .ok (.iload_n 1, 1) := by decide +kernel
theorem d_D_letterAt_47 : decode b_D_letterAt 47 = .ok (.iload 6, 2) := by decide +kernel
theorem d_D_letterAt_49 : decode b_D_letterAt 49 = .ok (.iadd, 1) := by decide +kernel
theorem d_D_letterAt_50 : decode b_D_letterAt 50 = .ok (.iload_n 2, 1) := by decide +kernel
theorem d_D_letterAt_51 : decode b_D_letterAt 51 = .ok (.if_icmp .lt 6, 3) := by decide +kernel
theorem d_D_letterAt_54 : decode b_D_letterAt 54 = .ok (.bipush (-2), 2) := by decide +kernel
theorem d_D_letterAt_56 : decode b_D_letterAt 56 = .ok (.ireturn, 1) := by decide +kernel
theorem d_D_letterAt_57 : decode b_D_letterAt 57 = .ok (.aload_n 0, 1) := by decide +kernel
theorem d_D_letterAt_58 : decode b_D_letterAt 58 = .ok (.iload_n 1, 1) := by decide +kernel
theorem d_D_letterAt_59 : decode b_D_letterAt 59 = .ok (.iload 6, 2) := by decide +kernel
theorem d_D_letterAt_61 : decode b_D_letterAt 61 = .ok (.iadd, 1) := by decide +kernel
theorem d_D_letterAt_62 : decode b_D_letterAt 62 = .ok (.invokevirtual 92, 3) := by decide +kernel
theorem d_D_letterAt_65 : decode b_D_letterAt 65 = .ok (.istore 7, 2) := by decide +kernel
theorem d_D_letterAt_67 : decode b_D_letterAt 67 = .ok (.iload 7, 2) := by decide +kernel
theorem d_D_letterAt_69 : decode b_D_letterAt 69 = .ok (.sipush 128, 3) := by decide +kernel
theorem d_D_letterAt_72 : decode b_D_letterAt 72 = .ok (.if_icmp .lt 11, 3) := by decide +kernel
theorem d_D_letterAt_75 : decode b_D_letterAt 75 = .ok (.iload 7, 2) := by decide +kernel
theorem d_D_letterAt_77 : decode b_D_letterAt 77 = .ok (.sipush 191, 3) := by decide +kernel
theorem d_D_letterAt_80 : decode b_D_letterAt 80 = .ok (.if_icmp .le 5, 3) := by decide +kernel
theorem d_D_letterAt_83 : decode b_D_letterAt 83 = .ok (.iconst (-1), 1) := by decide +kernel
theorem d_D_letterAt_84 : decode b_D_letterAt 84 = .ok (.ireturn, 1) := by decide +kernel
theorem d_D_letterAt_85 : decode b_D_letterAt 85 = .ok (.iload 5, 2) := by decide +kernel
theorem d_D_letterAt_87 : decode b_D_letterAt 87 = .ok (.bipush 6, 2) := by decide +kernel
theorem d_D_letterAt_89 : decode b_D_letterAt 89 = .ok (.ishl, 1) := by decide +kernel
theorem d_D_letterAt_90 : decode b_D_letterAt 90 = .ok (.iload 7, 2) := by decide +kernel
theorem d_D_letterAt_92 : decode b_D_letterAt 92 = .ok (.bipush 63, 2) := by decide +kernel
theorem d_D_letterAt_94 : decode b_D_letterAt 94 = .ok (.iand, 1) := by decide +kernel
theorem d_D_letterAt_95 : decode b_D_letterAt 95 = .ok (.ior, 1) := by decide +kernel
theorem d_D_letterAt_96 : decode b_D_letterAt 96 = .ok (.istore 5, 2) := by decide +kernel
theorem d_D_letterAt_98 : decode b_D_letterAt 98 = .ok (.iload 5, 2) := by decide +kernel
theorem d_D_letterAt_100 : decode b_D_letterAt 100 = .ok (.bipush 6, 2) := by decide +kernel
theorem d_D_letterAt_102 : decode b_D_letterAt 102 = .ok (.iload 4, 2) := by decide +kernel
theorem d_D_letterAt_104 : decode b_D_letterAt 104 = .ok (.iconst 1, 1) := by decide +kernel
theorem d_D_letterAt_105 : decode b_D_letterAt 105 = .ok (.isub, 1) := by decide +kernel
theorem d_D_letterAt_106 : decode b_D_letterAt 106 = .ok (.iload 6, 2) := by decide +kernel
theorem d_D_letterAt_108 : decode b_D_letterAt 108 = .ok (.isub, 1) := by decide +kernel
theorem d_D_letterAt_109 : decode b_D_letterAt 109 = .ok (.imul, 1) := by decide +kernel
theorem d_D_letterAt_110 : decode b_D_letterAt 110 = .ok (.ishl, 1) := by decide +kernel
theorem d_D_letterAt_111 : decode b_D_letterAt 111 = .ok (.invokestatic 51, 3) := by decide +kernel
theorem d_D_letterAt_114 : decode b_D_letterAt 114 = .ok (.iload 4, 2) := by decide +kernel
theorem d_D_letterAt_116 : decode b_D_letterAt 116 = .ok (.if_icmp .eq 5, 3) := by decide +kernel
theorem d_D_letterAt_119 : decode b_D_letterAt 119 = .ok (.iconst (-1), 1) := by decide +kernel
theorem d_D_letterAt_120 : decode b_D_letterAt 120 = .ok (.ireturn, 1) := by decide +kernel
theorem d_D_letterAt_121 : decode b_D_letterAt 121 = .ok (.iinc 6 1, 3) := by decide +kernel
theorem d_D_letterAt_124 : decode b_D_letterAt 124 = .ok (.goto (-85), 3) := by decide +kernel
theorem d_D_letterAt_127 : decode b_D_letterAt 127 = .ok (.iload 5, 2) := by decide +kernel
theorem d_D_letterAt_129 : decode b_D_letterAt 129 = .ok (.ireturn, 1) := by decide +kernel
theorem d_D_sumOf_0 : decode b_D_sumOf 0 = .ok (.iconst (-1), 1) := by decide +kernel
theorem d_D_sumOf_1 : decode b_D_sumOf 1 = .ok (.istore_n 3, 1) := by decide +kernel
theorem d_D_sumOf_2 : decode b_D_sumOf 2 = .ok (.iconst 0, 1) := by decide +kernel
theorem d_D_sumOf_3 : decode b_D_sumOf 3 = .ok (.istore 4, 2) := by decide +kernel
theorem d_D_sumOf_5 : decode b_D_sumOf 5 = .ok (.iload 4, 2) := by decide +kernel
theorem d_D_sumOf_7 : decode b_D_sumOf 7 = .ok (.iload_n 2, 1) := by decide +kernel
theorem d_D_sumOf_8 : decode b_D_sumOf 8 = .ok (.if_icmp .ge 55, 3) := by decide +kernel
theorem d_D_sumOf_11 : decode b_D_sumOf 11 = .ok (.iload_n 3, 1) := by decide +kernel
theorem d_D_sumOf_12 : decode b_D_sumOf 12 = .ok (.aload_n 0, 1) := by decide +kernel
theorem d_D_sumOf_13 : decode b_D_sumOf 13 = .ok (.iload_n 1, 1) := by decide +kernel
theorem d_D_sumOf_14 : decode b_D_sumOf 14 = .ok (.iload 4, 2) := by decide +kernel
theorem d_D_sumOf_16 : decode b_D_sumOf 16 = .ok (.iadd, 1) := by decide +kernel
theorem d_D_sumOf_17 : decode b_D_sumOf 17 = .ok (.invokevirtual 92, 3) := by decide +kernel
theorem d_D_sumOf_20 : decode b_D_sumOf 20 = .ok (.ixor, 1) := by decide +kernel
theorem d_D_sumOf_21 : decode b_D_sumOf 21 = .ok (.istore_n 3, 1) := by decide +kernel
theorem d_D_sumOf_22 : decode b_D_sumOf 22 = .ok (.iconst 0, 1) := by decide +kernel
theorem d_D_sumOf_23 : decode b_D_sumOf 23 = .ok (.istore 5, 2) := by decide +kernel
theorem d_D_sumOf_25 : decode b_D_sumOf 25 = .ok (.iload 5, 2) := by decide +kernel
theorem d_D_sumOf_27 : decode b_D_sumOf 27 = .ok (.bipush 8, 2) := by decide +kernel
theorem d_D_sumOf_29 : decode b_D_sumOf 29 = .ok (.if_icmp .ge 28, 3) := by decide +kernel
theorem d_D_sumOf_32 : decode b_D_sumOf 32 = .ok (.iload_n 3, 1) := by decide +kernel
theorem d_D_sumOf_33 : decode b_D_sumOf 33 = .ok (.iconst 1, 1) := by decide +kernel
theorem d_D_sumOf_34 : decode b_D_sumOf 34 = .ok (.iand, 1) := by decide +kernel
theorem d_D_sumOf_35 : decode b_D_sumOf 35 = .ok (.ifCond .eq 12, 3) := by decide +kernel
theorem d_D_sumOf_38 : decode b_D_sumOf 38 = .ok (.iload_n 3, 1) := by decide +kernel
theorem d_D_sumOf_39 : decode b_D_sumOf 39 = .ok (.iconst 1, 1) := by decide +kernel
theorem d_D_sumOf_40 : decode b_D_sumOf 40 = .ok (.iushr, 1) := by decide +kernel
theorem d_D_sumOf_41 : decode b_D_sumOf 41 = .ok (.ldc 194, 2) := by decide +kernel
theorem d_D_sumOf_43 : decode b_D_sumOf 43 = .ok (.ixor, 1) := by decide +kernel
theorem d_D_sumOf_44 : decode b_D_sumOf 44 = .ok (.goto 6, 3) := by decide +kernel
theorem d_D_sumOf_47 : decode b_D_sumOf 47 = .ok (.iload_n 3, 1) := by decide +kernel
theorem d_D_sumOf_48 : decode b_D_sumOf 48 = .ok (.iconst 1, 1) := by decide +kernel
theorem d_D_sumOf_49 : decode b_D_sumOf 49 = .ok (.iushr, 1) := by decide +kernel
theorem d_D_sumOf_50 : decode b_D_sumOf 50 = .ok (.istore_n 3, 1) := by decide +kernel
theorem d_D_sumOf_51 : decode b_D_sumOf 51 = .ok (.iinc 5 1, 3) := by decide +kernel
theorem d_D_sumOf_54 : decode b_D_sumOf 54 = .ok (.goto (-29), 3) := by decide +kernel
theorem d_D_sumOf_57 : decode b_D_sumOf 57 = .ok (.iinc 4 1, 3) := by decide +kernel
theorem d_D_sumOf_60 : decode b_D_sumOf 60 = .ok (.goto (-55), 3) := by decide +kernel
theorem d_D_sumOf_63 : decode b_D_sumOf 63 = .ok (.iload_n 3, 1) := by decide +kernel
theorem d_D_sumOf_64 : decode b_D_sumOf 64 = .ok (.iconst (-1), 1) := by decide +kernel
theorem d_D_sumOf_65 : decode b_D_sumOf 65 = .ok (.ixor, 1) := by decide +kernel
theorem d_D_sumOf_66 : decode b_D_sumOf 66 = .ok (.ireturn, 1) := by decide +kernel
theorem d_D_addBytes_0 : decode b_D_addBytes 0 = .ok (.aload_n 1, 1) := by decide +kernel
theorem d_D_addBytes_1 : decode b_D_addBytes 1 = .ok (.getfield 95, 3) := by decide +kernel
theorem d_D_addBytes_4 : decode b_D_addBytes 4 = .ok (.iload_n 2, 1) := by decide +kernel
theorem d_D_addBytes_5 : decode b_D_addBytes 5 = .ok (.aload_n 0, 1) := by decide +kernel
theorem d_D_addBytes_6 : decode b_D_addBytes 6 = .ok (.getfield 95, 3) := by decide +kernel
theorem d_D_addBytes_9 : decode b_D_addBytes 9 = .ok (.aload_n 0, 1) := by decide +kernel
theorem d_D_addBytes_10 : decode b_D_addBytes 10 = .ok (.getfield 43, 3) := by decide +kernel
theorem d_D_addBytes_13 : decode b_D_addBytes 13 = .ok (.iload_n 3, 1) := by decide +kernel
theorem d_D_addBytes_14 : decode b_D_addBytes 14 = .ok (.invokestatic 195, 3) := by decide +kernel
theorem d_D_addBytes_17 : decode b_D_addBytes 17 = .ok (.aload_n 0, 1) := by decide +kernel
theorem d_D_addBytes_18 : decode b_D_addBytes 18 = .ok (.dup, 1) := by decide +kernel
theorem d_D_addBytes_19 : decode b_D_addBytes 19 = .ok (.getfield 43, 3) := by decide +kernel
theorem d_D_addBytes_22 : decode b_D_addBytes 22 = .ok (.iload_n 3, 1) := by decide +kernel
theorem d_D_addBytes_23 : decode b_D_addBytes 23 = .ok (.iadd, 1) := by decide +kernel
theorem d_D_addBytes_24 : decode b_D_addBytes 24 = .ok (.putfield 43, 3) := by decide +kernel
theorem d_D_addBytes_27 : decode b_D_addBytes 27 = .ok (.return_, 1) := by decide +kernel
theorem d_D_moveBytes_0 : decode b_D_moveBytes 0 = .ok (.aload_n 0, 1) := by decide +kernel
theorem d_D_moveBytes_1 : decode b_D_moveBytes 1 = .ok (.getfield 95, 3) := by decide +kernel
theorem d_D_moveBytes_4 : decode b_D_moveBytes 4 = .ok (.iload_n 1, 1) := by decide +kernel
theorem d_D_moveBytes_5 : decode b_D_moveBytes 5 = .ok (.aload_n 3, 1) := by decide +kernel
theorem d_D_moveBytes_6 : decode b_D_moveBytes 6 = .ok (.getfield 95, 3) := by decide +kernel
theorem d_D_moveBytes_9 : decode b_D_moveBytes 9 = .ok (.iconst 0, 1) := by decide +kernel
theorem d_D_moveBytes_10 : decode b_D_moveBytes 10 = .ok (.iload_n 2, 1) := by decide +kernel
theorem d_D_moveBytes_11 : decode b_D_moveBytes 11 = .ok (.invokestatic 195, 3) := by decide +kernel
theorem d_D_moveBytes_14 : decode b_D_moveBytes 14 = .ok (.aload_n 3, 1) := by decide +kernel
theorem d_D_moveBytes_15 : decode b_D_moveBytes 15 = .ok (.iload_n 2, 1) := by decide +kernel
theorem d_D_moveBytes_16 : decode b_D_moveBytes 16 = .ok (.putfield 43, 3) := by decide +kernel
theorem d_D_moveBytes_19 : decode b_D_moveBytes 19 = .ok (.aload_n 3, 1) := by decide +kernel
theorem d_D_moveBytes_20 : decode b_D_moveBytes 20 = .ok (.iconst 0, 1) := by decide +kernel
theorem d_D_moveBytes_21 : decode b_D_moveBytes 21 = .ok (.putfield 87, 3) := by decide +kernel
theorem d_D_moveBytes_24 : decode b_D_moveBytes 24 = .ok (.aload_n 0, 1) := by decide +kernel
theorem d_D_moveBytes_25 : decode b_D_moveBytes 25 = .ok (.iload_n 1, 1) := by decide +kernel
theorem d_D_moveBytes_26 : decode b_D_moveBytes 26 = .ok (.iload_n 2, 1) := by decide +kernel
theorem d_D_moveBytes_27 : decode b_D_moveBytes 27 = .ok (.iadd, 1) := by decide +kernel
theorem d_D_moveBytes_28 : decode b_D_moveBytes 28 = .ok (.putfield 87, 3) := by decide +kernel
theorem d_D_moveBytes_31 : decode b_D_moveBytes 31 = .ok (.return_, 1) := by decide +kernel
