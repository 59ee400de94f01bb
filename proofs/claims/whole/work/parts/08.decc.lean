theorem dX0_init_0 : decode cX0_init 0 = .ok (.aload_n 0, 1) := by decide +kernel
theorem dX0_init_1 : decode cX0_init 1 = .ok (.invokespecial 3, 3) := by decide +kernel
theorem dX0_init_4 : decode cX0_init 4 = .ok (.aload_n 0, 1) := by decide +kernel
theorem dX0_init_5 : decode cX0_init 5 = .ok (.bipush 12, 2) := by decide +kernel
theorem dX0_init_7 : decode cX0_init 7 = .ok (.newarray .int, 2) := by decide +kernel
theorem dX0_init_9 : decode cX0_init 9 = .ok (.putfield 9, 3) := by decide +kernel
theorem dX0_init_12 : decode cX0_init 12 = .ok (.aload_n 0, 1) := by decide +kernel
theorem dX0_init_13 : decode cX0_init 13 = .ok (.bipush 12, 2) := by decide +kernel
theorem dX0_init_15 : decode cX0_init 15 = .ok (.newarray .int, 2) := by decide +kernel
theorem dX0_init_17 : decode cX0_init 17 = .ok (.putfield 15, 3) := by decide +kernel
theorem dX0_init_20 : decode cX0_init 20 = .ok (.iload_n 2, 1) := by decide +kernel
theorem dX0_init_21 : decode cX0_init 21 = .ok (.aload_n 1, 1) := by decide +kernel
theorem dX0_init_22 : decode cX0_init 22 = .ok (.arraylength, 1) := by decide +kernel
theorem dX0_init_23 : decode cX0_init 23 = .ok (.bipush 12, 2) := by decide +kernel
theorem dX0_init_25 : decode cX0_init 25 = .ok (.invokestatic 18, 3) := by decide +kernel
theorem dX0_init_28 : decode cX0_init 28 = .ok (.invokestatic 18, 3) := by decide +kernel
theorem dX0_init_31 : decode cX0_init 31 = .ok (.istore_n 3, 1) := by decide +kernel
theorem dX0_init_32 : decode cX0_init 32 = .ok (.iconst 0, 1) := by decide +kernel
theorem dX0_init_33 : decode cX0_init 33 = .ok (.istore 4, 2) := by decide +kernel
theorem dX0_init_35 : decode cX0_init 35 = .ok (.iconst 1, 1) := by decide +kernel
theorem dX0_init_36 : decode cX0_init 36 = .ok (.istore 5, 2) := by decide +kernel
theorem dX0_init_38 : decode cX0_init 38 = .ok (.iconst 0, 1) := by decide +kernel
theorem dX0_init_39 : decode cX0_init 39 = .ok (.istore 6, 2) := by decide +kernel
theorem dX0_init_41 : decode cX0_init 41 = .ok (.iload 6, 2) := by decide +kernel
theorem dX0_init_43 : decode cX0_init 43 = .ok (.iload_n 3, 1) := by decide +kernel
theorem dX0_init_44 : decode cX0_init 44 = .ok (.if_icmp .ge 70, 3) := by decide +kernel
theorem dX0_init_47 : decode cX0_init 47 = .ok (.aload_n 0, 1) := by decide +kernel
theorem dX0_init_48 : decode cX0_init 48 = .ok (.getfield 9, 3) := by decide +kernel
theorem dX0_init_51 : decode cX0_init 51 = .ok (.iload 6, 2) := by decide +kernel
theorem dX0_init_53 : decode cX0_init 53 = .ok (.aload_n 1, 1) := by decide +kernel
theorem dX0_init_54 : decode cX0_init 54 = .ok (.iload 6, 2) := by decide +kernel
theorem dX0_init_56 : decode cX0_init 56 = .ok (.iaload, 1) := by decide +kernel
theorem dX0_init_57 : decode cX0_init 57 = .ok (.iastore, 1) := by decide +kernel
theorem dX0_init_58 : decode cX0_init 58 = .ok (.iload 5, 2) := by decide +kernel
theorem dX0_init_60 : decode cX0_init 60 = .ok (.bipush 10, 2) := by decide +kernel
theorem dX0_init_62 : decode cX0_init 62 = .ok (.imul, 1) := by decide +kernel
theorem dX0_init_63 : decode cX0_init 63 = .ok (.aload_n 1, 1) := by decide +kernel
theorem dX0_init_64 : decode cX0_init 64 = .ok (.iload 6, 2) := by decide +kernel
theorem dX0_init_66 : decode cX0_init 66 = .ok (.iaload, 1) := by decide +kernel
theorem dX0_init_67 : decode cX0_init 67 = .ok (.iadd, 1) := by decide +kernel
theorem dX0_init_68 : decode cX0_init 68 = .ok (.istore 5, 2) := by decide +kernel
theorem dX0_init_70 : decode cX0_init 70 = .ok (.aload_n 1, 1) := by decide +kernel
theorem dX0_init_71 : decode cX0_init 71 = .ok (.iload 6, 2) := by decide +kernel
theorem dX0_init_73 : decode cX0_init 73 = .ok (.iaload, 1) := by decide +kernel
theorem dX0_init_74 : decode cX0_init 74 = .ok (.ifCond .eq 19, 3) := by decide +kernel
theorem dX0_init_77 : decode cX0_init 77 = .ok (.iload 5, 2) := by decide +kernel
theorem dX0_init_79 : decode cX0_init 79 = .ok (.sipush 10000, 3) := by decide +kernel
theorem dX0_init_82 : decode cX0_init 82 = .ok (.if_icmp .ge 11, 3) := by decide +kernel
theorem dX0_init_85 : decode cX0_init 85 = .ok (.iload 6, 2) := by decide +kernel
theorem dX0_init_87 : decode cX0_init 87 = .ok (.iload_n 3, 1) := by decide +kernel
theorem dX0_init_88 : decode cX0_init 88 = .ok (.iconst 1, 1) := by decide +kernel
theorem dX0_init_89 : decode cX0_init 89 = .ok (.isub, 1) := by decide +kernel
theorem dX0_init_90 : decode cX0_init 90 = .ok (.if_icmp .ne 18, 3) := by decide +kernel
theorem dX0_init_93 : decode cX0_init 93 = .ok (.aload_n 0, 1) := by decide +kernel
theorem dX0_init_94 : decode cX0_init 94 = .ok (.getfield 15, 3) := by decide +kernel
theorem dX0_init_97 : decode cX0_init 97 = .ok (.iload 4, 2) := by decide +kernel
theorem dX0_init_99 : decode cX0_init 99 = .ok (.iload 5, 2) := by decide +kernel
theorem dX0_init_101 : decode cX0_init 101 = .ok (.iastore, 1) := by decide +kernel
theorem dX0_init_102 : decode cX0_init 102 = .ok (.iinc 4 1, 3) := by decide +kernel
theorem dX0_init_105 : decode cX0_init 105 = .ok (.iconst 1, 1) := by decide +kernel
theorem dX0_init_106 : decode cX0_init 106 = .ok (.istore 5, 2) := by decide +kernel
theorem dX0_init_108 : decode cX0_init 108 = .ok (.iinc 6 1, 3) := by decide +kernel
theorem dX0_init_111 : decode cX0_init 111 = .ok (.goto (-70), 3) := by decide +kernel
theorem dX0_init_114 : decode cX0_init 114 = .ok (.aload_n 0, 1) := by decide +kernel
theorem dX0_init_115 : decode cX0_init 115 = .ok (.iload_n 3, 1) := by decide +kernel
theorem dX0_init_116 : decode cX0_init 116 = .ok (.iconst 0, 1) := by decide +kernel
theorem dX0_init_117 : decode cX0_init 117 = .ok (.invokestatic 24, 3) := by decide +kernel
theorem dX0_init_120 : decode cX0_init 120 = .ok (.putfield 27, 3) := by decide +kernel
theorem dX0_init_123 : decode cX0_init 123 = .ok (.aload_n 0, 1) := by decide +kernel
theorem dX0_init_124 : decode cX0_init 124 = .ok (.iload 4, 2) := by decide +kernel
theorem dX0_init_126 : decode cX0_init 126 = .ok (.putfield 31, 3) := by decide +kernel
theorem dX0_init_129 : decode cX0_init 129 = .ok (.return_, 1) := by decide +kernel
theorem dX0_numberIn_0 : decode cX0_numberIn 0 = .ok (.iload_n 1, 1) := by decide +kernel
theorem dX0_numberIn_1 : decode cX0_numberIn 1 = .ok (.ifCond .lt 20, 3) := by decide +kernel
theorem dX0_numberIn_4 : decode cX0_numberIn 4 = .ok (.iload_n 1, 1) := by decide +kernel
theorem dX0_numberIn_5 : decode cX0_numberIn 5 = .ok (.aload_n 0, 1) := by decide +kernel
theorem dX0_numberIn_6 : decode cX0_numberIn 6 = .ok (.getfield 27, 3) := by decide +kernel
theorem dX0_numberIn_9 : decode cX0_numberIn 9 = .ok (.if_icmp .ge 12, 3) := by decide +kernel
theorem dX0_numberIn_12 : decode cX0_numberIn 12 = .ok (.aload_n 0, 1) := by decide +kernel
theorem dX0_numberIn_13 : decode cX0_numberIn 13 = .ok (.getfield 9, 3) := by decide +kernel
theorem dX0_numberIn_16 : decode cX0_numberIn 16 = .ok (.iload_n 1, 1) := by decide +kernel
theorem dX0_numberIn_17 : decode cX0_numberIn 17 = .ok (.iaload, 1) := by decide +kernel
theorem dX0_numberIn_18 : decode cX0_numberIn 18 = .ok (.goto 4, 3) := by decide +kernel
theorem dX0_numberIn_21 : decode cX0_numberIn 21 = .ok (.iconst (-1), 1) := by decide +kernel
theorem dX0_numberIn_22 : decode cX0_numberIn 22 = .ok (.ireturn, 1) := by decide +kernel
theorem dX0_pieceIn_0 : decode cX0_pieceIn 0 = .ok (.iload_n 1, 1) := by decide +kernel
theorem dX0_pieceIn_1 : decode cX0_pieceIn 1 = .ok (.ifCond .lt 20, 3) := by decide +kernel
theorem dX0_pieceIn_4 : decode cX0_pieceIn 4 = .ok (.iload_n 1, 1) := by decide +kernel
theorem dX0_pieceIn_5 : decode cX0_pieceIn 5 = .ok (.aload_n 0, 1) := by decide +kernel
theorem dX0_pieceIn_6 : decode cX0_pieceIn 6 = .ok (.getfield 31, 3) := by decide +kernel
theorem dX0_pieceIn_9 : decode cX0_pieceIn 9 = .ok (.if_icmp .ge 12, 3) := by decide +kernel
theorem dX0_pieceIn_12 : decode cX0_pieceIn 12 = .ok (.aload_n 0, 1) := by decide +kernel
theorem dX0_pieceIn_13 : decode cX0_pieceIn 13 = .ok (.getfield 15, 3) := by decide +kernel
theorem dX0_pieceIn_16 : decode cX0_pieceIn 16 = .ok (.iload_n 1, 1) := by decide +kernel
theorem dX0_pieceIn_17 : decode cX0_pieceIn 17 = .ok (.iaload, 1) := by decide +kernel
theorem dX0_pieceIn_18 : decode cX0_pieceIn 18 = .ok (.goto 4, 3) := by decide +kernel
theorem dX0_pieceIn_21 : decode cX0_pieceIn 21 = .ok (.iconst (-1), 1) := by decide +kernel
theorem dX0_pieceIn_22 : decode cX0_pieceIn 22 = .ok (.ireturn, 1) := by decide +kernel
theorem dX0_isSame_0 : decode cX0_isSame 0 = .ok (.aload_n 0, 1) := by decide +kernel
theorem dX0_isSame_1 : decode cX0_isSame 1 = .ok (.getfield 27, 3) := by decide +kernel
theorem dX0_isSame_4 : decode cX0_isSame 4 = .ok (.aload_n 1, 1) := by decide +kernel
theorem dX0_isSame_5 : decode cX0_isSame 5 = .ok (.getfield 27, 3) := by decide +kernel
theorem dX0_isSame_8 : decode cX0_isSame 8 = .ok (.if_icmp .eq 5, 3) := by decide +kernel
theorem dX0_isSame_11 : decode cX0_isSame 11 = .ok (.iconst 0, 1) := by decide +kernel
theorem dX0_isSame_12 : decode cX0_isSame 12 = .ok (.ireturn, 1) := by decide +kernel
theorem dX0_isSame_13 : decode cX0_isSame 13 = .ok (.iconst 0, 1) := by decide +kernel
theorem dX0_isSame_14 : decode cX0_isSame 14 = .ok (.istore_n 2, 1) := by decide +kernel
theorem dX0_isSame_15 : decode cX0_isSame 15 = .ok (.iload_n 2, 1) := by decide +kernel
theorem dX0_isSame_16 : decode cX0_isSame 16 = .ok (.aload_n 0, 1) := by decide +kernel
theorem dX0_isSame_17 : decode cX0_isSame 17 = .ok (.getfield 27, 3) := by decide +kernel
theorem dX0_isSame_20 : decode cX0_isSame 20 = .ok (.if_icmp .ge 26, 3) := by decide +kernel
theorem dX0_isSame_23 : decode cX0_isSame 23 = .ok (.aload_n 0, 1) := by decide +kernel
theorem dX0_isSame_24 : decode cX0_isSame 24 = .ok (.getfield 9, 3) := by decide +kernel
theorem dX0_isSame_27 : decode cX0_isSame 27 = .ok (.iload_n 2, 1) := by decide +kernel
theorem dX0_isSame_28 : decode cX0_isSame 28 = .ok (.iaload, 1) := by decide +kernel
theorem dX0_isSame_29 : decode cX0_isSame 29 = .ok (.aload_n 1, 1) := by decide +kernel
theorem dX0_isSame_30 : decode cX0_isSame 30 = .ok (.getfield 9, 3) := by decide +kernel
theorem dX0_isSame_33 : decode cX0_isSame 33 = .ok (.iload_n 2, 1) := by decide +kernel
theorem dX0_isSame_34 : decode cX0_isSame 34 = .ok (.iaload, 1) := by decide +kernel
theorem dX0_isSame_35 : decode cX0_isSame 35 = .ok (.if_icmp .eq 5, 3) := by decide +kernel
theorem dX0_isSame_38 : decode cX0_isSame 38 = .ok (.iconst 0, 1) := by decide +kernel
theorem dX0_isSame_39 : decode cX0_isSame 39 = .ok (.ireturn, 1) := by decide +kernel
theorem dX0_isSame_40 : decode cX0_isSame 40 = .ok (.iinc 2 1, 3) := by decide +kernel
theorem dX0_isSame_43 : decode cX0_isSame 43 = .ok (.goto (-28), 3) := by decide +kernel
theorem dX0_isSame_46 : decode cX0_isSame 46 = .ok (.iconst 1, 1) := by decide +kernel
theorem dX0_isSame_47 : decode cX0_isSame 47 = .ok (.ireturn, 1) := by decide +kernel
theorem dX1_init_0 : decode cX1_init 0 = .ok (.aload_n 0, 1) := by decide +kernel
theorem dX1_init_1 : decode cX1_init 1 = .ok (.invokespecial 3, 3) := by decide +kernel
theorem dX1_init_4 : decode cX1_init 4 = .ok (.aload_n 0, 1) := by decide +kernel
theorem dX1_init_5 : decode cX1_init 5 = .ok (.iconst 0, 1) := by decide +kernel
theorem dX1_init_6 : decode cX1_init 6 = .ok (.putfield 9, 3) := by decide +kernel
theorem dX1_init_9 : decode cX1_init 9 = .ok (.aload_n 0, 1) := by decide +kernel
theorem dX1_init_10 : decode cX1_init 10 = .ok (.iconst (-1), 1) := by decide +kernel
theorem dX1_init_11 : decode cX1_init 11 = .ok (.putfield 15, 3) := by decide +kernel
theorem dX1_init_14 : decode cX1_init 14 = .ok (.aload_n 0, 1) := by decide +kernel
theorem dX1_init_15 : decode cX1_init 15 = .ok (.iconst (-1), 1) := by decide +kernel
theorem dX1_init_16 : decode cX1_init 16 = .ok (.putfield 18, 3) := by decide +kernel
theorem dX1_init_19 : decode cX1_init 19 = .ok (.aload_n 0, 1) := by decide +kernel
theorem dX1_init_20 : decode cX1_init 20 = .ok (.iconst 0, 1) := by decide +kernel
theorem dX1_init_21 : decode cX1_init 21 = .ok (.putfield 21, 3) := by decide +kernel
theorem dX1_init_24 : decode cX1_init 24 = .ok (.aload_n 0, 1) := by decide +kernel
theorem dX1_init_25 : decode cX1_init 25 = .ok (.iconst 0, 1) := by decide +kernel
theorem dX1_init_26 : decode cX1_init 26 = .ok (.putfield 25, 3) := by decide +kernel
theorem dX1_init_29 : decode cX1_init 29 = .ok (.aload_n 0, 1) := by decide +kernel
theorem dX1_init_30 : decode cX1_init 30 = .ok (.aload_n 1, 1) := by decide +kernel
theorem dX1_init_31 : decode cX1_init 31 = .ok (.putfield 28, 3) := by decide +kernel
theorem dX1_init_34 : decode cX1_init 34 = .ok (.aload_n 0, 1) := by decide +kernel
theorem dX1_init_35 : decode cX1_init 35 = .ok (.aload_n 1, 1) := by decide +kernel
theorem dX1_init_36 : decode cX1_init 36 = .ok (.putfield 32, 3) := by decide +kernel
theorem dX1_init_39 : decode cX1_init 39 = .ok (.return_, 1) := by decide +kernel
theorem dX1_put_0 : decode cX1_put 0 = .ok (.aload_n 0, 1) := by decide +kernel
theorem dX1_put_1 : decode cX1_put 1 = .ok (.iconst 2, 1) := by decide +kernel
theorem dX1_put_2 : decode cX1_put 2 = .ok (.putfield 9, 3) := by decide +kernel
theorem dX1_put_5 : decode cX1_put 5 = .ok (.aload_n 0, 1) := by decide +kernel
theorem dX1_put_6 : decode cX1_put 6 = .ok (.iload_n 1, 1) := by decide +kernel
theorem dX1_put_7 : decode cX1_put 7 = .ok (.putfield 15, 3) := by decide +kernel
theorem dX1_put_10 : decode cX1_put 10 = .ok (.aload_n 0, 1) := by decide +kernel
theorem dX1_put_11 : decode cX1_put 11 = .ok (.aload_n 2, 1) := by decide +kernel
theorem dX1_put_12 : decode cX1_put 12 = .ok (.putfield 32, 3) := by decide +kernel
theorem dX1_put_15 : decode cX1_put 15 = .ok (.return_, 1) := by decide +kernel
theorem dX1_clear_0 : decode cX1_clear 0 = .ok (.aload_n 0, 1) := by decide +kernel
theorem dX1_clear_1 : decode cX1_clear 1 = .ok (.iconst 0, 1) := by decide +kernel
theorem dX1_clear_2 : decode cX1_clear 2 = .ok (.putfield 9, 3) := by decide +kernel
theorem dX1_clear_5 : decode cX1_clear 5 = .ok (.aload_n 0, 1) := by decide +kernel
theorem dX1_clear_6 : decode cX1_clear 6 = .ok (.iconst (-1), 1) := by decide +kernel
theorem dX1_clear_7 : decode cX1_clear 7 = .ok (.putfield 15, 3) := by decide +kernel
theorem dX1_clear_10 : decode cX1_clear 10 = .ok (.aload_n 0, 1) := by decide +kernel
theorem dX1_clear_11 : decode cX1_clear 11 = .ok (.aload_n 0, 1) := by decide +kernel
theorem dX1_clear_12 : decode cX1_clear 12 = .ok (.getfield 28, 3) := by decide +kernel
theorem dX1_clear_15 : decode cX1_clear 15 = .ok (.putfield 32, 3) := by decide +kernel
theorem dX1_clear_18 : decode cX1_clear 18 = .ok (.return_, 1) := by decide +kernel
theorem dX1_fallBack_0 : decode cX1_fallBack 0 = .ok (.aload_n 0, 1) := by decide +kernel
theorem dX1_fallBack_1 : decode cX1_fallBack 1 = .ok (.aload_n 2, 1) := by decide +kernel
theorem dX1_fallBack_2 : decode cX1_fallBack 2 = .ok (.invokevirtual 35, 3) := by decide +kernel
theorem dX1_fallBack_5 : decode cX1_fallBack 5 = .ok (.ifCond .eq 7, 3) := by decide +kernel
theorem dX1_fallBack_8 : decode cX1_fallBack 8 = .ok (.iconst 0, 1) := by decide +kernel
theorem dX1_fallBack_9 : decode cX1_fallBack 9 = .ok (.goto 4, 3) := by decide +kernel
theorem dX1_fallBack_12 : decode cX1_fallBack 12 = .ok (.iconst 1, 1) := by decide +kernel
theorem dX1_fallBack_13 : decode cX1_fallBack 13 = .ok (.putfield 9, 3) := by decide +kernel
theorem dX1_fallBack_16 : decode cX1_fallBack 16 = .ok (.aload_n 0, 1) := by decide +kernel
theorem dX1_fallBack_17 : decode cX1_fallBack 17 = .ok (.aload_n 2, 1) := by decide +kernel
theorem dX1_fallBack_18 : decode cX1_fallBack 18 = .ok (.getfield 41, 3) := by decide +kernel
theorem dX1_fallBack_21 : decode cX1_fallBack 21 = .ok (.putfield 15, 3) := by decide +kernel
theorem dX1_fallBack_24 : decode cX1_fallBack 24 = .ok (.aload_n 0, 1) := by decide +kernel
theorem dX1_fallBack_25 : decode cX1_fallBack 25 = .ok (.aload_n 2, 1) := by decide +kernel
theorem dX1_fallBack_26 : decode cX1_fallBack 26 = .ok (.getfield 42, 3) := by decide +kernel
theorem dX1_fallBack_29 : decode cX1_fallBack 29 = .ok (.putfield 32, 3) := by decide +kernel
theorem dX1_fallBack_32 : decode cX1_fallBack 32 = .ok (.aload_n 0, 1) := by decide +kernel
theorem dX1_fallBack_33 : decode cX1_fallBack 33 = .ok (.iload_n 1, 1) := by decide +kernel
theorem dX1_fallBack_34 : decode cX1_fallBack 34 = .ok (.putfield 18, 3) := by decide +kernel
theorem dX1_fallBack_37 : decode cX1_fallBack 37 = .ok (.return_, 1) := by decide +kernel
theorem dX1_catchUp_0 : decode cX1_catchUp 0 = .ok (.aload_n 2, 1) := by decide +kernel
theorem dX1_catchUp_1 : decode cX1_catchUp 1 = .ok (.aload_n 0, 1) := by decide +kernel
theorem dX1_catchUp_2 : decode cX1_catchUp 2 = .ok (.getfield 15, 3) := by decide +kernel
theorem dX1_catchUp_5 : decode cX1_catchUp 5 = .ok (.aload_n 0, 1) := by decide +kernel
theorem dX1_catchUp_6 : decode cX1_catchUp 6 = .ok (.getfield 32, 3) := by decide +kernel
theorem dX1_catchUp_9 : decode cX1_catchUp 9 = .ok (.invokevirtual 43, 3) := by decide +kernel
theorem dX1_catchUp_12 : decode cX1_catchUp 12 = .ok (.ifCond .ne 7, 3) := by decide +kernel
theorem dX1_catchUp_15 : decode cX1_catchUp 15 = .ok (.iconst 1, 1) := by decide +kernel
theorem dX1_catchUp_16 : decode cX1_catchUp 16 = .ok (.goto 4, 3) := by decide +kernel
theorem dX1_catchUp_19 : decode cX1_catchUp 19 = .ok (.iconst 0, 1) := by decide +kernel
theorem dX1_catchUp_20 : decode cX1_catchUp 20 = .ok (.istore_n 3, 1) := by decide +kernel
theorem dX1_catchUp_21 : decode cX1_catchUp 21 = .ok (.aload_n 0, 1) := by decide +kernel
theorem dX1_catchUp_22 : decode cX1_catchUp 22 = .ok (.getfield 32, 3) := by decide +kernel
theorem dX1_catchUp_25 : decode cX1_catchUp 25 = .ok (.aload_n 2, 1) := by decide +kernel
theorem dX1_catchUp_26 : decode cX1_catchUp 26 = .ok (.getfield 42, 3) := by decide +kernel
theorem dX1_catchUp_29 : decode cX1_catchUp 29 = .ok (.invokevirtual 47, 3) := by decide +kernel
theorem dX1_catchUp_32 : decode cX1_catchUp 32 = .ok (.istore 4, 2) := by decide +kernel
theorem dX1_catchUp_34 : decode cX1_catchUp 34 = .ok (.aload_n 0, 1) := by decide +kernel
theorem dX1_catchUp_35 : decode cX1_catchUp 35 = .ok (.getfield 9, 3) := by decide +kernel
theorem dX1_catchUp_38 : decode cX1_catchUp 38 = .ok (.istore 5, 2) := by decide +kernel
theorem dX1_catchUp_40 : decode cX1_catchUp 40 = .ok (.aload_n 0, 1) := by decide +kernel
theorem dX1_catchUp_41 : decode cX1_catchUp 41 = .ok (.iload_n 1, 1) := by decide +kernel
theorem dX1_catchUp_42 : decode cX1_catchUp 42 = .ok (.aload_n 2, 1) := by decide +kernel
theorem dX1_catchUp_43 : decode cX1_catchUp 43 = .ok (.invokevirtual 53, 3) := by decide +kernel
theorem dX1_catchUp_46 : decode cX1_catchUp 46 = .ok (.iload 4, 2) := by decide +kernel
theorem dX1_catchUp_48 : decode cX1_catchUp 48 = .ok (.ifCond .eq 9, 3) := by decide +kernel
theorem dX1_catchUp_51 : decode cX1_catchUp 51 = .ok (.aload_n 0, 1) := by decide +kernel
theorem dX1_catchUp_52 : decode cX1_catchUp 52 = .ok (.iload 5, 2) := by decide +kernel
theorem dX1_catchUp_54 : decode cX1_catchUp 54 = .ok (.putfield 9, 3) := by decide +kernel
theorem dX1_catchUp_57 : decode cX1_catchUp 57 = .ok (.iload_n 3, 1) := by decide +kernel
theorem dX1_catchUp_58 : decode cX1_catchUp 58 = .ok (.ireturn, 1) := by decide +kernel
theorem dX2_init_0 : decode cX2_init 0 = .ok (.aload_n 0, 1) := by decide +kernel
theorem dX2_init_1 : decode cX2_init 1 = .ok (.invokespecial 3, 3) := by decide +kernel
theorem dX2_init_4 : decode cX2_init 4 = .ok (.aload_n 0, 1) := by decide +kernel
theorem dX2_init_5 : decode cX2_init 5 = .ok (.sipush 512, 3) := by decide +kernel
theorem dX2_init_8 : decode cX2_init 8 = .ok (.newarray .int, 2) := by decide +kernel
theorem dX2_init_10 : decode cX2_init 10 = .ok (.putfield 9, 3) := by decide +kernel
theorem dX2_init_13 : decode cX2_init 13 = .ok (.aload_n 0, 1) := by decide +kernel
theorem dX2_init_14 : decode cX2_init 14 = .ok (.sipush 512, 3) := by decide +kernel
theorem dX2_init_17 : decode cX2_init 17 = .ok (.newarray .int, 2) := by decide +kernel
theorem dX2_init_19 : decode cX2_init 19 = .ok (.putfield 15, 3) := by decide +kernel
theorem dX2_init_22 : decode cX2_init 22 = .ok (.aload_n 0, 1) := by decide +kernel
theorem dX2_init_23 : decode cX2_init 23 = .ok (.sipush 512, 3) := by decide +kernel
theorem dX2_init_26 : decode cX2_init 26 = .ok (.newarray .int, 2) := by decide +kernel
theorem dX2_init_28 : decode cX2_init 28 = .ok (.putfield 18, 3) := by decide +kernel
theorem dX2_init_31 : decode cX2_init 31 = .ok (.aload_n 0, 1) := by decide +kernel
theorem dX2_init_32 : decode cX2_init 32 = .ok (.iconst 0, 1) := by decide +kernel
theorem dX2_init_33 : decode cX2_init 33 = .ok (.putfield 21, 3) := by decide +kernel
theorem dX2_init_36 : decode cX2_init 36 = .ok (.return_, 1) := by decide +kernel
theorem dX2_add_0 : decode cX2_add 0 = .ok (.aload_n 0, 1) := by decide +kernel
theorem dX2_add_1 : decode cX2_add 1 = .ok (.getfield 21, 3) := by decide +kernel
theorem dX2_add_4 : decode cX2_add 4 = .ok (.sipush 512, 3) := by decide +kernel
theorem dX2_add_7 : decode cX2_add 7 = .ok (.if_icmp .lt 4, 3) := by decide +kernel
theorem dX2_add_10 : decode cX2_add 10 = .ok (.return_, 1) := by decide +kernel
theorem dX2_add_11 : decode cX2_add 11 = .ok (.aload_n 0, 1) := by decide +kernel
theorem dX2_add_12 : decode cX2_add 12 = .ok (.getfield 21, 3) := by decide +kernel
theorem dX2_add_15 : decode cX2_add 15 = .ok (.istore 4, 2) := by decide +kernel
theorem dX2_add_17 : decode cX2_add 17 = .ok (.iload 4, 2) := by decide +kernel
theorem dX2_add_19 : decode cX2_add 19 = .ok (.ifCond .le 32, 3) := by decide +kernel
theorem dX2_add_22 : decode cX2_add 22 = .ok (.aload_n 0, 1) := by decide +kernel
theorem dX2_add_23 : decode cX2_add 23 = .ok (.getfield 18, 3) := by decide +kernel
theorem dX2_add_26 : decode cX2_add 26 = .ok (.iload 4, 2) := by decide +kernel
theorem dX2_add_28 : decode cX2_add 28 = .ok (.iconst 1, 1) := by decide +kernel
theorem dX2_add_29 : decode cX2_add 29 = .ok (.isub, 1) := by decide +kernel
theorem dX2_add_30 : decode cX2_add 30 = .ok (.iaload, 1) := by decide +kernel
theorem dX2_add_31 : decode cX2_add 31 = .ok (.iload_n 3, 1) := by decide +kernel
theorem dX2_add_32 : decode cX2_add 32 = .ok (.if_icmp .le 19, 3) := by decide +kernel
theorem dX2_add_35 : decode cX2_add 35 = .ok (.aload_n 0, 1) := by decide +kernel
theorem dX2_add_36 : decode cX2_add 36 = .ok (.iload 4, 2) := by decide +kernel
theorem dX2_add_38 : decode cX2_add 38 = .ok (.iload 4, 2) := by decide +kernel
theorem dX2_add_40 : decode cX2_add 40 = .ok (.iconst 1, 1) := by decide +kernel
theorem dX2_add_41 : decode cX2_add 41 = .ok (.isub, 1) := by decide +kernel
theorem dX2_add_42 : decode cX2_add 42 = .ok (.invokevirtual 25, 3) := by decide +kernel
theorem dX2_add_45 : decode cX2_add 45 = .ok (.iinc 4 (-1), 3) := by decide +kernel
theorem dX2_add_48 : decode cX2_add 48 = .ok (.goto (-31), 3) := by decide +kernel
theorem dX2_add_51 : decode cX2_add 51 = .ok (.aload_n 0, 1) := by decide +kernel
theorem dX2_add_52 : decode cX2_add 52 = .ok (.getfield 9, 3) := by decide +kernel
theorem dX2_add_55 : decode cX2_add 55 = .ok (.iload 4, 2) := by decide +kernel
theorem dX2_add_57 : decode cX2_add 57 = .ok (.iload_n 1, 1) := by decide +kernel
theorem dX2_add_58 : decode cX2_add 58 = .ok (.iastore, 1) := by decide +kernel
theorem dX2_add_59 : decode cX2_add 59 = .ok (.aload_n 0, 1) := by decide +kernel
theorem dX2_add_60 : decode cX2_add 60 = .ok (.getfield 15, 3) := by decide +kernel
theorem dX2_add_63 : decode cX2_add 63 = .ok (.iload 4, 2) := by decide +kernel
theorem dX2_add_65 : decode cX2_add 65 = .ok (.iload_n 2, 1) := by decide +kernel
theorem dX2_add_66 : decode cX2_add 66 = .ok (.iastore, 1) := by decide +kernel
theorem dX2_add_67 : decode cX2_add 67 = .ok (.aload_n 0, 1) := by decide +kernel
theorem dX2_add_68 : decode cX2_add 68 = .ok (.getfield 18, 3) := by decide +kernel
theorem dX2_add_71 : decode cX2_add 71 = .ok (.iload 4, 2) := by decide +kernel
theorem dX2_add_73 : decode cX2_add 73 = .ok (.iload_n 3, 1) := by decide +kernel
theorem dX2_add_74 : decode cX2_add 74 = .ok (.iastore, 1) := by decide +kernel
theorem dX2_add_75 : decode cX2_add 75 = .ok (.aload_n 0, 1) := by decide +kernel
theorem dX2_add_76 : decode cX2_add 76 = .ok (.dup, 1) := by decide +kernel
theorem dX2_add_77 : decode cX2_add 77 = .ok (.getfield 21, 3) := by decide +kernel
theorem dX2_add_80 : decode cX2_add 80 = .ok (.iconst 1, 1) := by decide +kernel
theorem dX2_add_81 : decode cX2_add 81 = .ok (.iadd, 1) := by decide +kernel
theorem dX2_add_82 : decode cX2_add 82 = .ok (.putfield 21, 3) := by decide +kernel
theorem dX2_add_85 : decode cX2_add 85 = .ok (.return_, 1) := by decide +kernel
theorem dX2_comeBy_0 : decode cX2_comeBy 0 = .ok (.iconst 0, 1) := by decide +kernel
theorem dX2_comeBy_1 : decode cX2_comeBy 1 = .ok (.istore_n 2, 1) := by decide +kernel
theorem dX2_comeBy_2 : decode cX2_comeBy 2 = .ok (.iload_n 2, 1) := by decide +kernel
theorem dX2_comeBy_3 : decode cX2_comeBy 3 = .ok (.aload_n 0, 1) := by decide +kernel
theorem dX2_comeBy_4 : decode cX2_comeBy 4 = .ok (.getfield 21, 3) := by decide +kernel
theorem dX2_comeBy_7 : decode cX2_comeBy 7 = .ok (.if_icmp .ge 19, 3) := by decide +kernel
theorem dX2_comeBy_10 : decode cX2_comeBy 10 = .ok (.aload_n 0, 1) := by decide +kernel
theorem dX2_comeBy_11 : decode cX2_comeBy 11 = .ok (.getfield 18, 3) := by decide +kernel
theorem dX2_comeBy_14 : decode cX2_comeBy 14 = .ok (.iload_n 2, 1) := by decide +kernel
theorem dX2_comeBy_15 : decode cX2_comeBy 15 = .ok (.iaload, 1) := by decide +kernel
theorem dX2_comeBy_16 : decode cX2_comeBy 16 = .ok (.iload_n 1, 1) := by decide +kernel
theorem dX2_comeBy_17 : decode cX2_comeBy 17 = .ok (.if_icmp .gt 9, 3) := by decide +kernel
theorem dX2_comeBy_20 : decode cX2_comeBy 20 = .ok (.iinc 2 1, 3) := by decide +kernel
theorem dX2_comeBy_23 : decode cX2_comeBy 23 = .ok (.goto (-21), 3) := by decide +kernel
theorem dX2_comeBy_26 : decode cX2_comeBy 26 = .ok (.iload_n 2, 1) := by decide +kernel
theorem dX2_comeBy_27 : decode cX2_comeBy 27 = .ok (.ireturn, 1) := by decide +kernel
theorem dX2_dropFirst_0 : decode cX2_dropFirst 0 = .ok (.iload_n 1, 1) := by decide +kernel
theorem dX2_dropFirst_1 : decode cX2_dropFirst 1 = .ok (.istore_n 2, 1) := by decide +kernel
theorem dX2_dropFirst_2 : decode cX2_dropFirst 2 = .ok (.iload_n 2, 1) := by decide +kernel
theorem dX2_dropFirst_3 : decode cX2_dropFirst 3 = .ok (.aload_n 0, 1) := by decide +kernel
theorem dX2_dropFirst_4 : decode cX2_dropFirst 4 = .ok (.getfield 21, 3) := by decide +kernel
theorem dX2_dropFirst_7 : decode cX2_dropFirst 7 = .ok (.if_icmp .ge 17, 3) := by decide +kernel
theorem dX2_dropFirst_10 : decode cX2_dropFirst 10 = .ok (.aload_n 0, 1) := by decide +kernel
theorem dX2_dropFirst_11 : decode cX2_dropFirst 11 = .ok (.iload_n 2, 1) := by decide +kernel
theorem dX2_dropFirst_12 : decode cX2_dropFirst 12 = .ok (.iload_n 1, 1) := by decide +kernel
theorem dX2_dropFirst_13 : decode cX2_dropFirst 13 = .ok (.isub, 1) := by decide +kernel
theorem dX2_dropFirst_14 : decode cX2_dropFirst 14 = .ok (.iload_n 2, 1) := by decide +kernel
theorem dX2_dropFirst_15 : decode cX2_dropFirst 15 = .ok (.invokevirtual 25, 3) := by decide +kernel
theorem dX2_dropFirst_18 : decode cX2_dropFirst 18 = .ok (.iinc 2 1, 3) := by decide +kernel
theorem dX2_dropFirst_21 : decode cX2_dropFirst 21 = .ok (.goto (-19), 3) := by decide +kernel
theorem dX2_dropFirst_24 : decode cX2_dropFirst 24 = .ok (.aload_n 0, 1) := by decide +kernel
theorem dX2_dropFirst_25 : decode cX2_dropFirst 25 = .ok (.dup, 1) := by decide +kernel
theorem dX2_dropFirst_26 : decode cX2_dropFirst 26 = .ok (.getfield 21, 3) := by decide +kernel
theorem dX2_dropFirst_29 : decode cX2_dropFirst 29 = .ok (.iload_n 1, 1) := by decide +kernel
theorem dX2_dropFirst_30 : decode cX2_dropFirst 30 = .ok (.isub, 1) := by decide +kernel
theorem dX2_dropFirst_31 : decode cX2_dropFirst 31 = .ok (.putfield 21, 3) := by decide +kernel
theorem dX2_dropFirst_34 : decode cX2_dropFirst 34 = .ok (.return_, 1) := by decide +kernel
theorem dX2_dropOf_0 : decode cX2_dropOf 0 = .ok (.iconst 0, 1) := by decide +kernel
theorem dX2_dropOf_1 : decode cX2_dropOf 1 = .ok (.istore_n 2, 1) := by decide +kernel
theorem dX2_dropOf_2 : decode cX2_dropOf 2 = .ok (.iconst 0, 1) := by decide +kernel
theorem dX2_dropOf_3 : decode cX2_dropOf 3 = .ok (.istore_n 3, 1) := by decide +kernel
theorem dX2_dropOf_4 : decode cX2_dropOf 4 = .ok (.iload_n 3, 1) := by decide +kernel
theorem dX2_dropOf_5 : decode cX2_dropOf 5 = .ok (.aload_n 0, 1) := by decide +kernel
theorem dX2_dropOf_6 : decode cX2_dropOf 6 = .ok (.getfield 21, 3) := by decide +kernel
theorem dX2_dropOf_9 : decode cX2_dropOf 9 = .ok (.if_icmp .ge 28, 3) := by decide +kernel
theorem dX2_dropOf_12 : decode cX2_dropOf 12 = .ok (.aload_n 0, 1) := by decide +kernel
theorem dX2_dropOf_13 : decode cX2_dropOf 13 = .ok (.getfield 9, 3) := by decide +kernel
theorem dX2_dropOf_16 : decode cX2_dropOf 16 = .ok (.iload_n 3, 1) := by decide +kernel
theorem dX2_dropOf_17 : decode cX2_dropOf 17 = .ok (.iaload, 1) := by decide +kernel
theorem dX2_dropOf_18 : decode cX2_dropOf 18 = .ok (.iload_n 1, 1) := by decide +kernel
theorem dX2_dropOf_19 : decode cX2_dropOf 19 = .ok (.if_icmp .eq 12, 3) := by decide +kernel
theorem dX2_dropOf_22 : decode cX2_dropOf 22 = .ok (.aload_n 0, 1) := by decide +kernel
theorem dX2_dropOf_23 : decode cX2_dropOf 23 = .ok (.iload_n 2, 1) := by decide +kernel
theorem dX2_dropOf_24 : decode cX2_dropOf 24 = .ok (.iload_n 3, 1) := by decide +kernel
theorem dX2_dropOf_25 : decode cX2_dropOf 25 = .ok (.invokevirtual 25, 3) := by decide +kernel
theorem dX2_dropOf_28 : decode cX2_dropOf 28 = .ok (.iinc 2 1, 3) := by decide +kernel
theorem dX2_dropOf_31 : decode cX2_dropOf 31 = .ok (.iinc 3 1, 3) := by decide +kernel
theorem dX2_dropOf_34 : decode cX2_dropOf 34 = .ok (.goto (-30), 3) := by decide +kernel
theorem dX2_dropOf_37 : decode cX2_dropOf 37 = .ok (.aload_n 0, 1) := by decide +kernel
theorem dX2_dropOf_38 : decode cX2_dropOf 38 = .ok (.getfield 21, 3) := by decide +kernel
theorem dX2_dropOf_41 : decode cX2_dropOf 41 = .ok (.iload_n 2, 1) := by decide +kernel
theorem dX2_dropOf_42 : decode cX2_dropOf 42 = .ok (.isub, 1) := by decide +kernel
theorem dX2_dropOf_43 : decode cX2_dropOf 43 = .ok (.istore_n 3, 1) := by decide +kernel
theorem dX2_dropOf_44 : decode cX2_dropOf 44 = .ok (.aload_n 0, 1) := by decide +kernel
theorem dX2_dropOf_45 : decode cX2_dropOf 45 = .ok (.iload_n 2, 1) := by decide +kernel
theorem dX2_dropOf_46 : decode cX2_dropOf 46 = .ok (.putfield 21, 3) := by decide +kernel
theorem dX2_dropOf_49 : decode cX2_dropOf 49 = .ok (.iload_n 3, 1) := by decide +kernel
theorem dX2_dropOf_50 : decode cX2_dropOf 50 = .ok (.ireturn, 1) := by decide +kernel
theorem dX2_copyTo_0 : decode cX2_copyTo 0 = .ok (.aload_n 0, 1) := by decide +kernel
theorem dX2_copyTo_1 : decode cX2_copyTo 1 = .ok (.getfield 9, 3) := by decide +kernel
theorem dX2_copyTo_4 : decode cX2_copyTo 4 = .ok (.iload_n 1, 1) := by decide +kernel
theorem dX2_copyTo_5 : decode cX2_copyTo 5 = .ok (.aload_n 0, 1) := by decide +kernel
theorem dX2_copyTo_6 : decode cX2_copyTo 6 = .ok (.getfield 9, 3) := by decide +kernel
theorem dX2_copyTo_9 : decode cX2_copyTo 9 = .ok (.iload_n 2, 1) := by decide +kernel
theorem dX2_copyTo_10 : decode cX2_copyTo 10 = .ok (.iaload, 1) := by decide +kernel
theorem dX2_copyTo_11 : decode cX2_copyTo 11 = .ok (.iastore, 1) := by decide +kernel
theorem dX2_copyTo_12 : decode cX2_copyTo 12 = .ok (.aload_n 0, 1) := by decide +kernel
theorem dX2_copyTo_13 : decode cX2_copyTo 13 = .ok (.getfield 15, 3) := by decide +kernel
theorem dX2_copyTo_16 : decode cX2_copyTo 16 = .ok (.iload_n 1, 1) := by decide +kernel
theorem dX2_copyTo_17 : decode cX2_copyTo 17 = .ok (.aload_n 0, 1) := by decide +kernel
theorem dX2_copyTo_18 : decode cX2_copyTo 18 = .ok (.getfield 15, 3) := by decide +kernel
theorem dX2_copyTo_21 : decode cX2_copyTo 21 = .ok (.iload_n 2, 1) := by decide +kernel
theorem dX2_copyTo_22 : decode cX2_copyTo 22 = .ok (.iaload, 1) := by decide +kernel
theorem dX2_copyTo_23 : decode cX2_copyTo 23 = .ok (.iastore, 1) := by decide +kernel
theorem dX2_copyTo_24 : decode cX2_copyTo 24 = .ok (.aload_n 0, 1) := by decide +kernel
theorem dX2_copyTo_25 : decode cX2_copyTo 25 = .ok (.getfield 18, 3) := by decide +kernel
theorem dX2_copyTo_28 : decode cX2_copyTo 28 = .ok (.iload_n 1, 1) := by decide +kernel
theorem dX2_copyTo_29 : decode cX2_copyTo 29 = .ok (.aload_n 0, 1) := by decide +kernel
theorem dX2_copyTo_30 : decode cX2_copyTo 30 = .ok (.getfield 18, 3) := by decide +kernel
theorem dX2_copyTo_33 : decode cX2_copyTo 33 = .ok (.iload_n 2, 1) := by decide +kernel
theorem dX2_copyTo_34 : decode cX2_copyTo 34 = .ok (.iaload, 1) := by decide +kernel
theorem dX2_copyTo_35 : decode cX2_copyTo 35 = .ok (.iastore, 1) := by decide +kernel
theorem dX2_copyTo_36 : decode cX2_copyTo 36 = .ok (.return_, 1) := by decide +kernel
theorem dX3_init_0 : decode cX3_init 0 = .ok (.aload_n 0, 1) := by decide +kernel
theorem dX3_init_1 : decode cX3_init 1 = .ok (.invokespecial 3, 3) := by decide +kernel
theorem dX3_init_4 : decode cX3_init 4 = .ok (.aload_n 0, 1) := by decide +kernel
theorem dX3_init_5 : decode cX3_init 5 = .ok (.iconst 0, 1) := by decide +kernel
theorem dX3_init_6 : decode cX3_init 6 = .ok (.putfield 9, 3) := by decide +kernel
theorem dX3_init_9 : decode cX3_init 9 = .ok (.aload_n 0, 1) := by decide +kernel
theorem dX3_init_10 : decode cX3_init 10 = .ok (.bipush 10, 2) := by decide +kernel
theorem dX3_init_12 : decode cX3_init 12 = .ok (.newarray .int, 2) := by decide +kernel
theorem dX3_init_14 : decode cX3_init 14 = .ok (.putfield 15, 3) := by decide +kernel
theorem dX3_init_17 : decode cX3_init 17 = .ok (.aload_n 0, 1) := by decide +kernel
theorem dX3_init_18 : decode cX3_init 18 = .ok (.bipush 10, 2) := by decide +kernel
theorem dX3_init_20 : decode cX3_init 20 = .ok (.newarray .int, 2) := by decide +kernel
theorem dX3_init_22 : decode cX3_init 22 = .ok (.putfield 19, 3) := by decide +kernel
theorem dX3_init_25 : decode cX3_init 25 = .ok (.aload_n 0, 1) := by decide +kernel
theorem dX3_init_26 : decode cX3_init 26 = .ok (.bipush 10, 2) := by decide +kernel
theorem dX3_init_28 : decode cX3_init 28 = .ok (.newarray .int, 2) := by decide +kernel
theorem dX3_init_30 : decode cX3_init 30 = .ok (.putfield 22, 3) := by decide +kernel
theorem dX3_init_33 : decode cX3_init 33 = .ok (.return_, 1) := by decide +kernel
theorem dX3_add_0 : decode cX3_add 0 = .ok (.aload_n 0, 1) := by decide +kernel
theorem dX3_add_1 : decode cX3_add 1 = .ok (.getfield 9, 3) := by decide +kernel
theorem dX3_add_4 : decode cX3_add 4 = .ok (.bipush 10, 2) := by decide +kernel
theorem dX3_add_6 : decode cX3_add 6 = .ok (.if_icmp .ge 43, 3) := by decide +kernel
theorem dX3_add_9 : decode cX3_add 9 = .ok (.aload_n 0, 1) := by decide +kernel
theorem dX3_add_10 : decode cX3_add 10 = .ok (.getfield 15, 3) := by decide +kernel
theorem dX3_add_13 : decode cX3_add 13 = .ok (.aload_n 0, 1) := by decide +kernel
theorem dX3_add_14 : decode cX3_add 14 = .ok (.getfield 9, 3) := by decide +kernel
theorem dX3_add_17 : decode cX3_add 17 = .ok (.iload_n 1, 1) := by decide +kernel
theorem dX3_add_18 : decode cX3_add 18 = .ok (.iastore, 1) := by decide +kernel
theorem dX3_add_19 : decode cX3_add 19 = .ok (.aload_n 0, 1) := by decide +kernel
theorem dX3_add_20 : decode cX3_add 20 = .ok (.getfield 19, 3) := by decide +kernel
theorem dX3_add_23 : decode cX3_add 23 = .ok (.aload_n 0, 1) := by decide +kernel
theorem dX3_add_24 : decode cX3_add 24 = .ok (.getfield 9, 3) := by decide +kernel
theorem dX3_add_27 : decode cX3_add 27 = .ok (.iload_n 2, 1) := by decide +kernel
theorem dX3_add_28 : decode cX3_add 28 = .ok (.iastore, 1) := by decide +kernel
theorem dX3_add_29 : decode cX3_add 29 = .ok (.aload_n 0, 1) := by decide +kernel
theorem dX3_add_30 : decode cX3_add 30 = .ok (.getfield 22, 3) := by decide +kernel
theorem dX3_add_33 : decode cX3_add 33 = .ok (.aload_n 0, 1) := by decide +kernel
theorem dX3_add_34 : decode cX3_add 34 = .ok (.getfield 9, 3) := by decide +kernel
theorem dX3_add_37 : decode cX3_add 37 = .ok (.iload_n 3, 1) := by decide +kernel
theorem dX3_add_38 : decode cX3_add 38 = .ok (.iastore, 1) := by decide +kernel
theorem dX3_add_39 : decode cX3_add 39 = .ok (.aload_n 0, 1) := by decide +kernel
theorem dX3_add_40 : decode cX3_add 40 = .ok (.dup, 1) := by decide +kernel
theorem dX3_add_41 : decode cX3_add 41 = .ok (.getfield 9, 3) := by decide +kernel
theorem dX3_add_44 : decode cX3_add 44 = .ok (.iconst 1, 1) := by decide +kernel
theorem dX3_add_45 : decode cX3_add 45 = .ok (.iadd, 1) := by decide +kernel
theorem dX3_add_46 : decode cX3_add 46 = .ok (.putfield 9, 3) := by decide +kernel
theorem dX3_add_49 : decode cX3_add 49 = .ok (.return_, 1) := by decide +kernel
theorem dX3_isHeld_0 : decode cX3_isHeld 0 = .ok (.iconst 0, 1) := by decide +kernel
theorem dX3_isHeld_1 : decode cX3_isHeld 1 = .ok (.istore_n 3, 1) := by decide +kernel
theorem dX3_isHeld_2 : decode cX3_isHeld 2 = .ok (.iload_n 3, 1) := by decide +kernel
theorem dX3_isHeld_3 : decode cX3_isHeld 3 = .ok (.aload_n 0, 1) := by decide +kernel
theorem dX3_isHeld_4 : decode cX3_isHeld 4 = .ok (.getfield 9, 3) := by decide +kernel
theorem dX3_isHeld_7 : decode cX3_isHeld 7 = .ok (.if_icmp .ge 41, 3) := by decide +kernel
theorem dX3_isHeld_10 : decode cX3_isHeld 10 = .ok (.aload_n 0, 1) := by decide +kernel
theorem dX3_isHeld_11 : decode cX3_isHeld 11 = .ok (.getfield 15, 3) := by decide +kernel
theorem dX3_isHeld_14 : decode cX3_isHeld 14 = .ok (.iload_n 3, 1) := by decide +kernel
theorem dX3_isHeld_15 : decode cX3_isHeld 15 = .ok (.iaload, 1) := by decide +kernel
theorem dX3_isHeld_16 : decode cX3_isHeld 16 = .ok (.iload_n 1, 1) := by decide +kernel
theorem dX3_isHeld_17 : decode cX3_isHeld 17 = .ok (.if_icmp .ne 25, 3) := by decide +kernel
theorem dX3_isHeld_20 : decode cX3_isHeld 20 = .ok (.aload_n 0, 1) := by decide +kernel
theorem dX3_isHeld_21 : decode cX3_isHeld 21 = .ok (.getfield 19, 3) := by decide +kernel
theorem dX3_isHeld_24 : decode cX3_isHeld 24 = .ok (.iload_n 3, 1) := by decide +kernel
theorem dX3_isHeld_25 : decode cX3_isHeld 25 = .ok (.iaload, 1) := by decide +kernel
theorem dX3_isHeld_26 : decode cX3_isHeld 26 = .ok (.iload_n 2, 1) := by decide +kernel
theorem dX3_isHeld_27 : decode cX3_isHeld 27 = .ok (.if_icmp .gt 15, 3) := by decide +kernel
theorem dX3_isHeld_30 : decode cX3_isHeld 30 = .ok (.iload_n 2, 1) := by decide +kernel
theorem dX3_isHeld_31 : decode cX3_isHeld 31 = .ok (.aload_n 0, 1) := by decide +kernel
theorem dX3_isHeld_32 : decode cX3_isHeld 32 = .ok (.getfield 22, 3) := by decide +kernel
theorem dX3_isHeld_35 : decode cX3_isHeld 35 = .ok (.iload_n 3, 1) := by decide +kernel
theorem dX3_isHeld_36 : decode cX3_isHeld 36 = .ok (.iaload, 1) := by decide +kernel
theorem dX3_isHeld_37 : decode cX3_isHeld 37 = .ok (.if_icmp .gt 5, 3) := by decide +kernel
theorem dX3_isHeld_40 : decode cX3_isHeld 40 = .ok (.iconst 1, 1) := by decide +kernel
theorem dX3_isHeld_41 : decode cX3_isHeld 41 = .ok (.ireturn, 1) := by decide +kernel
theorem dX3_isHeld_42 : decode cX3_isHeld 42 = .ok (.iinc 3 1, 3) := by decide +kernel
theorem dX3_isHeld_45 : decode cX3_isHeld 45 = .ok (.goto (-43), 3) := by decide +kernel
theorem dX3_isHeld_48 : decode cX3_isHeld 48 = .ok (.iconst 0, 1) := by decide +kernel
theorem dX3_isHeld_49 : decode cX3_isHeld 49 = .ok (.ireturn, 1) := by decide +kernel
theorem dX4_init_0 : decode cX4_init 0 = .ok (.aload_n 0, 1) := by decide +kernel
theorem dX4_init_1 : decode cX4_init 1 = .ok (.invokespecial 3, 3) := by decide +kernel
theorem dX4_init_4 : decode cX4_init 4 = .ok (.aload_n 0, 1) := by decide +kernel
theorem dX4_init_5 : decode cX4_init 5 = .ok (.bipush 16, 2) := by decide +kernel
theorem dX4_init_7 : decode cX4_init 7 = .ok (.newarray .int, 2) := by decide +kernel
theorem dX4_init_9 : decode cX4_init 9 = .ok (.putfield 9, 3) := by decide +kernel
theorem dX4_init_12 : decode cX4_init 12 = .ok (.aload_n 0, 1) := by decide +kernel
theorem dX4_init_13 : decode cX4_init 13 = .ok (.bipush 16, 2) := by decide +kernel
theorem dX4_init_15 : decode cX4_init 15 = .ok (.newarray .int, 2) := by decide +kernel
theorem dX4_init_17 : decode cX4_init 17 = .ok (.putfield 15, 3) := by decide +kernel
theorem dX4_init_20 : decode cX4_init 20 = .ok (.return_, 1) := by decide +kernel
theorem dX4_holderAt_0 : decode cX4_holderAt 0 = .ok (.iload_n 2, 1) := by decide +kernel
theorem dX4_holderAt_1 : decode cX4_holderAt 1 = .ok (.aload_n 0, 1) := by decide +kernel
theorem dX4_holderAt_2 : decode cX4_holderAt 2 = .ok (.getfield 15, 3) := by decide +kernel
theorem dX4_holderAt_5 : decode cX4_holderAt 5 = .ok (.iload_n 1, 1) := by decide +kernel
theorem dX4_holderAt_6 : decode cX4_holderAt 6 = .ok (.iaload, 1) := by decide +kernel
theorem dX4_holderAt_7 : decode cX4_holderAt 7 = .ok (.if_icmp .ge 12, 3) := by decide +kernel
theorem dX4_holderAt_10 : decode cX4_holderAt 10 = .ok (.aload_n 0, 1) := by decide +kernel
theorem dX4_holderAt_11 : decode cX4_holderAt 11 = .ok (.getfield 9, 3) := by decide +kernel
theorem dX4_holderAt_14 : decode cX4_holderAt 14 = .ok (.iload_n 1, 1) := by decide +kernel
theorem dX4_holderAt_15 : decode cX4_holderAt 15 = .ok (.iaload, 1) := by decide +kernel
theorem dX4_holderAt_16 : decode cX4_holderAt 16 = .ok (.goto 4, 3) := by decide +kernel
theorem dX4_holderAt_19 : decode cX4_holderAt 19 = .ok (.iconst (-1), 1) := by decide +kernel
theorem dX4_holderAt_20 : decode cX4_holderAt 20 = .ok (.ireturn, 1) := by decide +kernel
theorem dX4_take_0 : decode cX4_take 0 = .ok (.aload_n 0, 1) := by decide +kernel
theorem dX4_take_1 : decode cX4_take 1 = .ok (.getfield 9, 3) := by decide +kernel
theorem dX4_take_4 : decode cX4_take 4 = .ok (.iload_n 1, 1) := by decide +kernel
theorem dX4_take_5 : decode cX4_take 5 = .ok (.iload_n 2, 1) := by decide +kernel
theorem dX4_take_6 : decode cX4_take 6 = .ok (.iastore, 1) := by decide +kernel
theorem dX4_take_7 : decode cX4_take 7 = .ok (.aload_n 0, 1) := by decide +kernel
theorem dX4_take_8 : decode cX4_take 8 = .ok (.getfield 15, 3) := by decide +kernel
theorem dX4_take_11 : decode cX4_take 11 = .ok (.iload_n 1, 1) := by decide +kernel
theorem dX4_take_12 : decode cX4_take 12 = .ok (.iload_n 3, 1) := by decide +kernel
theorem dX4_take_13 : decode cX4_take 13 = .ok (.iastore, 1) := by decide +kernel
theorem dX4_take_14 : decode cX4_take 14 = .ok (.return_, 1) := by decide +kernel
theorem dX5_init_0 : decode cX5_init 0 = .ok (.aload_n 0, 1) := by decide +kernel
theorem dX5_init_1 : decode cX5_init 1 = .ok (.invokespecial 3, 3) := by decide +kernel
theorem dX5_init_4 : decode cX5_init 4 = .ok (.aload_n 0, 1) := by decide +kernel
theorem dX5_init_5 : decode cX5_init 5 = .ok (.iconst 0, 1) := by decide +kernel
theorem dX5_init_6 : decode cX5_init 6 = .ok (.putfield 9, 3) := by decide +kernel
theorem dX5_init_9 : decode cX5_init 9 = .ok (.aload_n 0, 1) := by decide +kernel
theorem dX5_init_10 : decode cX5_init 10 = .ok (.bipush 16, 2) := by decide +kernel
theorem dX5_init_12 : decode cX5_init 12 = .ok (.newarray .int, 2) := by decide +kernel
theorem dX5_init_14 : decode cX5_init 14 = .ok (.putfield 15, 3) := by decide +kernel
theorem dX5_init_17 : decode cX5_init 17 = .ok (.aload_n 0, 1) := by decide +kernel
theorem dX5_init_18 : decode cX5_init 18 = .ok (.bipush 120, 2) := by decide +kernel
theorem dX5_init_20 : decode cX5_init 20 = .ok (.anewarray 19, 3) := by decide +kernel
theorem dX5_init_23 : decode cX5_init 23 = .ok (.putfield 21, 3) := by decide +kernel
theorem dX5_init_26 : decode cX5_init 26 = .ok (.aload_n 0, 1) := by decide +kernel
theorem dX5_init_27 : decode cX5_init 27 = .ok (.new 19, 3) := by decide +kernel
theorem dX5_init_30 : decode cX5_init 30 = .ok (.dup, 1) := by decide +kernel
theorem dX5_init_31 : decode cX5_init 31 = .ok (.iconst (-1), 1) := by decide +kernel
theorem dX5_init_32 : decode cX5_init 32 = .ok (.iconst 0, 1) := by decide +kernel
theorem dX5_init_33 : decode cX5_init 33 = .ok (.iconst (-1), 1) := by decide +kernel
theorem dX5_init_34 : decode cX5_init 34 = .ok (.iconst (-1), 1) := by decide +kernel
theorem dX5_init_35 : decode cX5_init 35 = .ok (.aload_n 1, 1) := by decide +kernel
theorem dX5_init_36 : decode cX5_init 36 = .ok (.invokespecial 25, 3) := by decide +kernel
theorem dX5_init_39 : decode cX5_init 39 = .ok (.putfield 28, 3) := by decide +kernel
theorem dX5_init_42 : decode cX5_init 42 = .ok (.iconst 0, 1) := by decide +kernel
theorem dX5_init_43 : decode cX5_init 43 = .ok (.istore_n 2, 1) := by decide +kernel
theorem dX5_init_44 : decode cX5_init 44 = .ok (.iload_n 2, 1) := by decide +kernel
theorem dX5_init_45 : decode cX5_init 45 = .ok (.bipush 120, 2) := by decide +kernel
theorem dX5_init_47 : decode cX5_init 47 = .ok (.if_icmp .ge 19, 3) := by decide +kernel
theorem dX5_init_50 : decode cX5_init 50 = .ok (.aload_n 0, 1) := by decide +kernel
theorem dX5_init_51 : decode cX5_init 51 = .ok (.getfield 21, 3) := by decide +kernel
theorem dX5_init_54 : decode cX5_init 54 = .ok (.iload_n 2, 1) := by decide +kernel
theorem dX5_init_55 : decode cX5_init 55 = .ok (.aload_n 0, 1) := by decide +kernel
theorem dX5_init_56 : decode cX5_init 56 = .ok (.getfield 28, 3) := by decide +kernel
theorem dX5_init_59 : decode cX5_init 59 = .ok (.aastore, 1) := by decide +kernel
theorem dX5_init_60 : decode cX5_init 60 = .ok (.iinc 2 1, 3) := by decide +kernel
theorem dX5_init_63 : decode cX5_init 63 = .ok (.goto (-19), 3) := by decide +kernel
theorem dX5_init_66 : decode cX5_init 66 = .ok (.iconst 0, 1) := by decide +kernel
theorem dX5_init_67 : decode cX5_init 67 = .ok (.istore_n 2, 1) := by decide +kernel
theorem dX5_init_68 : decode cX5_init 68 = .ok (.iload_n 2, 1) := by decide +kernel
theorem dX5_init_69 : decode cX5_init 69 = .ok (.bipush 16, 2) := by decide +kernel
theorem dX5_init_71 : decode cX5_init 71 = .ok (.if_icmp .ge 16, 3) := by decide +kernel
theorem dX5_init_74 : decode cX5_init 74 = .ok (.aload_n 0, 1) := by decide +kernel
theorem dX5_init_75 : decode cX5_init 75 = .ok (.getfield 15, 3) := by decide +kernel
theorem dX5_init_78 : decode cX5_init 78 = .ok (.iload_n 2, 1) := by decide +kernel
theorem dX5_init_79 : decode cX5_init 79 = .ok (.iconst (-1), 1) := by decide +kernel
theorem dX5_init_80 : decode cX5_init 80 = .ok (.iastore, 1) := by decide +kernel
theorem dX5_init_81 : decode cX5_init 81 = .ok (.iinc 2 1, 3) := by decide +kernel
theorem dX5_init_84 : decode cX5_init 84 = .ok (.goto (-16), 3) := by decide +kernel
theorem dX5_init_87 : decode cX5_init 87 = .ok (.return_, 1) := by decide +kernel
theorem dX5_at_0 : decode cX5_at 0 = .ok (.iload_n 1, 1) := by decide +kernel
theorem dX5_at_1 : decode cX5_at 1 = .ok (.ifCond .lt 20, 3) := by decide +kernel
theorem dX5_at_4 : decode cX5_at 4 = .ok (.iload_n 1, 1) := by decide +kernel
theorem dX5_at_5 : decode cX5_at 5 = .ok (.aload_n 0, 1) := by decide +kernel
theorem dX5_at_6 : decode cX5_at 6 = .ok (.getfield 9, 3) := by decide +kernel
theorem dX5_at_9 : decode cX5_at 9 = .ok (.if_icmp .ge 12, 3) := by decide +kernel
theorem dX5_at_12 : decode cX5_at 12 = .ok (.aload_n 0, 1) := by decide +kernel
theorem dX5_at_13 : decode cX5_at 13 = .ok (.getfield 21, 3) := by decide +kernel
theorem dX5_at_16 : decode cX5_at 16 = .ok (.iload_n 1, 1) := by decide +kernel
theorem dX5_at_17 : decode cX5_at 17 = .ok (.aaload, 1) := by decide +kernel
theorem dX5_at_18 : decode cX5_at 18 = .ok (.goto 7, 3) := by decide +kernel
theorem dX5_at_21 : decode cX5_at 21 = .ok (.aload_n 0, 1) := by decide +kernel
theorem dX5_at_22 : decode cX5_at 22 = .ok (.getfield 28, 3) := by decide +kernel
theorem dX5_at_25 : decode cX5_at 25 = .ok (.areturn, 1) := by decide +kernel
theorem dX5_add_0 : decode cX5_add 0 = .ok (.aload_n 0, 1) := by decide +kernel
theorem dX5_add_1 : decode cX5_add 1 = .ok (.getfield 9, 3) := by decide +kernel
theorem dX5_add_4 : decode cX5_add 4 = .ok (.bipush 120, 2) := by decide +kernel
theorem dX5_add_6 : decode cX5_add 6 = .ok (.if_icmp .ge 19, 3) := by decide +kernel
theorem dX5_add_9 : decode cX5_add 9 = .ok (.aload_n 1, 1) := by decide +kernel
theorem dX5_add_10 : decode cX5_add 10 = .ok (.getfield 32, 3) := by decide +kernel
theorem dX5_add_13 : decode cX5_add 13 = .ok (.ifCond .lt 12, 3) := by decide +kernel
theorem dX5_add_16 : decode cX5_add 16 = .ok (.aload_n 1, 1) := by decide +kernel
theorem dX5_add_17 : decode cX5_add 17 = .ok (.getfield 32, 3) := by decide +kernel
theorem dX5_add_20 : decode cX5_add 20 = .ok (.bipush 16, 2) := by decide +kernel
theorem dX5_add_22 : decode cX5_add 22 = .ok (.if_icmp .lt 5, 3) := by decide +kernel
theorem dX5_add_25 : decode cX5_add 25 = .ok (.iconst (-1), 1) := by decide +kernel
theorem dX5_add_26 : decode cX5_add 26 = .ok (.ireturn, 1) := by decide +kernel
theorem dX5_add_27 : decode cX5_add 27 = .ok (.aload_n 0, 1) := by decide +kernel
theorem dX5_add_28 : decode cX5_add 28 = .ok (.getfield 21, 3) := by decide +kernel
theorem dX5_add_31 : decode cX5_add 31 = .ok (.aload_n 0, 1) := by decide +kernel
theorem dX5_add_32 : decode cX5_add 32 = .ok (.getfield 9, 3) := by decide +kernel
theorem dX5_add_35 : decode cX5_add 35 = .ok (.aload_n 1, 1) := by decide +kernel
theorem dX5_add_36 : decode cX5_add 36 = .ok (.aastore, 1) := by decide +kernel
theorem dX5_add_37 : decode cX5_add 37 = .ok (.aload_n 0, 1) := by decide +kernel
theorem dX5_add_38 : decode cX5_add 38 = .ok (.getfield 15, 3) := by decide +kernel
theorem dX5_add_41 : decode cX5_add 41 = .ok (.aload_n 1, 1) := by decide +kernel
theorem dX5_add_42 : decode cX5_add 42 = .ok (.getfield 32, 3) := by decide +kernel
theorem dX5_add_45 : decode cX5_add 45 = .ok (.aload_n 0, 1) := by decide +kernel
theorem dX5_add_46 : decode cX5_add 46 = .ok (.getfield 9, 3) := by decide +kernel
theorem dX5_add_49 : decode cX5_add 49 = .ok (.iastore, 1) := by decide +kernel
theorem dX5_add_50 : decode cX5_add 50 = .ok (.aload_n 0, 1) := by decide +kernel
theorem dX5_add_51 : decode cX5_add 51 = .ok (.dup, 1) := by decide +kernel
theorem dX5_add_52 : decode cX5_add 52 = .ok (.getfield 9, 3) := by decide +kernel
theorem dX5_add_55 : decode cX5_add 55 = .ok (.iconst 1, 1) := by decide +kernel
theorem dX5_add_56 : decode cX5_add 56 = .ok (.iadd, 1) := by decide +kernel
theorem dX5_add_57 : decode cX5_add 57 = .ok (.putfield 9, 3) := by decide +kernel
theorem dX5_add_60 : decode cX5_add 60 = .ok (.aload_n 0, 1) := by decide +kernel
theorem dX5_add_61 : decode cX5_add 61 = .ok (.getfield 9, 3) := by decide +kernel
theorem dX5_add_64 : decode cX5_add 64 = .ok (.iconst 1, 1) := by decide +kernel
theorem dX5_add_65 : decode cX5_add 65 = .ok (.isub, 1) := by decide +kernel
theorem dX5_add_66 : decode cX5_add 66 = .ok (.ireturn, 1) := by decide +kernel
theorem dX5_latestOf_0 : decode cX5_latestOf 0 = .ok (.iload_n 1, 1) := by decide +kernel
theorem dX5_latestOf_1 : decode cX5_latestOf 1 = .ok (.ifCond .lt 18, 3) := by decide +kernel
theorem dX5_latestOf_4 : decode cX5_latestOf 4 = .ok (.iload_n 1, 1) := by decide +kernel
theorem dX5_latestOf_5 : decode cX5_latestOf 5 = .ok (.bipush 16, 2) := by decide +kernel
theorem dX5_latestOf_7 : decode cX5_latestOf 7 = .ok (.if_icmp .ge 12, 3) := by decide +kernel
theorem dX5_latestOf_10 : decode cX5_latestOf 10 = .ok (.aload_n 0, 1) := by decide +kernel
theorem dX5_latestOf_11 : decode cX5_latestOf 11 = .ok (.getfield 15, 3) := by decide +kernel
theorem dX5_latestOf_14 : decode cX5_latestOf 14 = .ok (.iload_n 1, 1) := by decide +kernel
theorem dX5_latestOf_15 : decode cX5_latestOf 15 = .ok (.iaload, 1) := by decide +kernel
theorem dX5_latestOf_16 : decode cX5_latestOf 16 = .ok (.goto 4, 3) := by decide +kernel
theorem dX5_latestOf_19 : decode cX5_latestOf 19 = .ok (.iconst (-1), 1) := by decide +kernel
theorem dX5_latestOf_20 : decode cX5_latestOf 20 = .ok (.ireturn, 1) := by decide +kernel
theorem dX5_lastUpTo_0 : decode cX5_lastUpTo 0 = .ok (.aload_n 0, 1) := by decide +kernel
theorem dX5_lastUpTo_1 : decode cX5_lastUpTo 1 = .ok (.getfield 9, 3) := by decide +kernel
theorem dX5_lastUpTo_4 : decode cX5_lastUpTo 4 = .ok (.iconst 1, 1) := by decide +kernel
theorem dX5_lastUpTo_5 : decode cX5_lastUpTo 5 = .ok (.isub, 1) := by decide +kernel
theorem dX5_lastUpTo_6 : decode cX5_lastUpTo 6 = .ok (.istore_n 3, 1) := by decide +kernel
theorem dX5_lastUpTo_7 : decode cX5_lastUpTo 7 = .ok (.iload_n 3, 1) := by decide +kernel
theorem dX5_lastUpTo_8 : decode cX5_lastUpTo 8 = .ok (.ifCond .lt 45, 3) := by decide +kernel
theorem dX5_lastUpTo_11 : decode cX5_lastUpTo 11 = .ok (.aload_n 0, 1) := by decide +kernel
theorem dX5_lastUpTo_12 : decode cX5_lastUpTo 12 = .ok (.getfield 21, 3) := by decide +kernel
theorem dX5_lastUpTo_15 : decode cX5_lastUpTo 15 = .ok (.iload_n 3, 1) := by decide +kernel
theorem dX5_lastUpTo_16 : decode cX5_lastUpTo 16 = .ok (.aaload, 1) := by decide +kernel
theorem dX5_lastUpTo_17 : decode cX5_lastUpTo 17 = .ok (.astore 4, 2) := by decide +kernel
theorem dX5_lastUpTo_19 : decode cX5_lastUpTo 19 = .ok (.aload 4, 2) := by decide +kernel
theorem dX5_lastUpTo_21 : decode cX5_lastUpTo 21 = .ok (.getfield 32, 3) := by decide +kernel
theorem dX5_lastUpTo_24 : decode cX5_lastUpTo 24 = .ok (.iload_n 1, 1) := by decide +kernel
theorem dX5_lastUpTo_25 : decode cX5_lastUpTo 25 = .ok (.if_icmp .ne 22, 3) := by decide +kernel
theorem dX5_lastUpTo_28 : decode cX5_lastUpTo 28 = .ok (.aload 4, 2) := by decide +kernel
theorem dX5_lastUpTo_30 : decode cX5_lastUpTo 30 = .ok (.getfield 35, 3) := by decide +kernel
theorem dX5_lastUpTo_33 : decode cX5_lastUpTo 33 = .ok (.ifCond .eq 14, 3) := by decide +kernel
theorem dX5_lastUpTo_36 : decode cX5_lastUpTo 36 = .ok (.aload 4, 2) := by decide +kernel
theorem dX5_lastUpTo_38 : decode cX5_lastUpTo 38 = .ok (.getfield 39, 3) := by decide +kernel
theorem dX5_lastUpTo_41 : decode cX5_lastUpTo 41 = .ok (.iload_n 2, 1) := by decide +kernel
theorem dX5_lastUpTo_42 : decode cX5_lastUpTo 42 = .ok (.if_icmp .gt 5, 3) := by decide +kernel
theorem dX5_lastUpTo_45 : decode cX5_lastUpTo 45 = .ok (.iload_n 3, 1) := by decide +kernel
theorem dX5_lastUpTo_46 : decode cX5_lastUpTo 46 = .ok (.ireturn, 1) := by decide +kernel
theorem dX5_lastUpTo_47 : decode cX5_lastUpTo 47 = .ok (.iinc 3 (-1), 3) := by decide +kernel
theorem dX5_lastUpTo_50 : decode cX5_lastUpTo 50 = .ok (.goto (-43), 3) := by decide +kernel
theorem dX5_lastUpTo_53 : decode cX5_lastUpTo 53 = .ok (.iconst (-1), 1) := by decide +kernel
theorem dX5_lastUpTo_54 : decode cX5_lastUpTo 54 = .ok (.ireturn, 1) := by decide +kernel
theorem dX5_lastOfSpan_0 : decode cX5_lastOfSpan 0 = .ok (.aload_n 0, 1) := by decide +kernel
theorem dX5_lastOfSpan_1 : decode cX5_lastOfSpan 1 = .ok (.getfield 9, 3) := by decide +kernel
theorem dX5_lastOfSpan_4 : decode cX5_lastOfSpan 4 = .ok (.iconst 1, 1) := by decide +kernel
theorem dX5_lastOfSpan_5 : decode cX5_lastOfSpan 5 = .ok (.isub, 1) := by decide +kernel
theorem dX5_lastOfSpan_6 : decode cX5_lastOfSpan 6 = .ok (.istore_n 3, 1) := by decide +kernel
theorem dX5_lastOfSpan_7 : decode cX5_lastOfSpan 7 = .ok (.iload_n 3, 1) := by decide +kernel
theorem dX5_lastOfSpan_8 : decode cX5_lastOfSpan 8 = .ok (.ifCond .lt 48, 3) := by decide +kernel
theorem dX5_lastOfSpan_11 : decode cX5_lastOfSpan 11 = .ok (.aload_n 0, 1) := by decide +kernel
theorem dX5_lastOfSpan_12 : decode cX5_lastOfSpan 12 = .ok (.getfield 21, 3) := by decide +kernel
theorem dX5_lastOfSpan_15 : decode cX5_lastOfSpan 15 = .ok (.iload_n 3, 1) := by decide +kernel
theorem dX5_lastOfSpan_16 : decode cX5_lastOfSpan 16 = .ok (.aaload, 1) := by decide +kernel
theorem dX5_lastOfSpan_17 : decode cX5_lastOfSpan 17 = .ok (.astore 4, 2) := by decide +kernel
theorem dX5_lastOfSpan_19 : decode cX5_lastOfSpan 19 = .ok (.aload 4, 2) := by decide +kernel
theorem dX5_lastOfSpan_21 : decode cX5_lastOfSpan 21 = .ok (.getfield 32, 3) := by decide +kernel
theorem dX5_lastOfSpan_24 : decode cX5_lastOfSpan 24 = .ok (.iload_n 1, 1) := by decide +kernel
theorem dX5_lastOfSpan_25 : decode cX5_lastOfSpan 25 = .ok (.if_icmp .ne 25, 3) := by decide +kernel
theorem dX5_lastOfSpan_28 : decode cX5_lastOfSpan 28 = .ok (.aload 4, 2) := by decide +kernel
theorem dX5_lastOfSpan_30 : decode cX5_lastOfSpan 30 = .ok (.getfield 35, 3) := by decide +kernel
theorem dX5_lastOfSpan_33 : decode cX5_lastOfSpan 33 = .ok (.ifCond .eq 17, 3) := by decide +kernel
theorem dX5_lastOfSpan_36 : decode cX5_lastOfSpan 36 = .ok (.aload 4, 2) := by decide +kernel
theorem dX5_lastOfSpan_38 : decode cX5_lastOfSpan 38 = .ok (.getfield 39, 3) := by decide +kernel
theorem dX5_lastOfSpan_41 : decode cX5_lastOfSpan 41 = .ok (.bipush 24, 2) := by decide +kernel
theorem dX5_lastOfSpan_43 : decode cX5_lastOfSpan 43 = .ok (.idiv, 1) := by decide +kernel
theorem dX5_lastOfSpan_44 : decode cX5_lastOfSpan 44 = .ok (.iload_n 2, 1) := by decide +kernel
theorem dX5_lastOfSpan_45 : decode cX5_lastOfSpan 45 = .ok (.if_icmp .ne 5, 3) := by decide +kernel
theorem dX5_lastOfSpan_48 : decode cX5_lastOfSpan 48 = .ok (.iload_n 3, 1) := by decide +kernel
theorem dX5_lastOfSpan_49 : decode cX5_lastOfSpan 49 = .ok (.ireturn, 1) := by decide +kernel
theorem dX5_lastOfSpan_50 : decode cX5_lastOfSpan 50 = .ok (.iinc 3 (-1), 3) := by decide +kernel
theorem dX5_lastOfSpan_53 : decode cX5_lastOfSpan 53 = .ok (.goto (-46), 3) := by decide +kernel
theorem dX5_lastOfSpan_56 : decode cX5_lastOfSpan 56 = .ok (.iconst (-1), 1) := by decide +kernel
theorem dX5_lastOfSpan_57 : decode cX5_lastOfSpan 57 = .ok (.ireturn, 1) := by decide +kernel
theorem dX5_countKeptFrom_0 : decode cX5_countKeptFrom 0 = .ok (.iconst 0, 1) := by decide +kernel
theorem dX5_countKeptFrom_1 : decode cX5_countKeptFrom 1 = .ok (.istore_n 2, 1) := by decide +kernel
theorem dX5_countKeptFrom_2 : decode cX5_countKeptFrom 2 = .ok (.iload_n 1, 1) := by decide +kernel
theorem dX5_countKeptFrom_3 : decode cX5_countKeptFrom 3 = .ok (.iconst 0, 1) := by decide +kernel
theorem dX5_countKeptFrom_4 : decode cX5_countKeptFrom 4 = .ok (.invokestatic 42, 3) := by decide +kernel
theorem dX5_countKeptFrom_7 : decode cX5_countKeptFrom 7 = .ok (.istore_n 3, 1) := by decide +kernel
theorem dX5_countKeptFrom_8 : decode cX5_countKeptFrom 8 = .ok (.iload_n 3, 1) := by decide +kernel
theorem dX5_countKeptFrom_9 : decode cX5_countKeptFrom 9 = .ok (.aload_n 0, 1) := by decide +kernel
theorem dX5_countKeptFrom_10 : decode cX5_countKeptFrom 10 = .ok (.getfield 9, 3) := by decide +kernel
theorem dX5_countKeptFrom_13 : decode cX5_countKeptFrom 13 = .ok (.if_icmp .ge 29, 3) := by decide +kernel
theorem dX5_countKeptFrom_16 : decode cX5_countKeptFrom 16 = .ok (.iload_n 2, 1) := by decide +kernel
theorem dX5_countKeptFrom_17 : decode cX5_countKeptFrom 17 = .ok (.aload_n 0, 1) := by decide +kernel
theorem dX5_countKeptFrom_18 : decode cX5_countKeptFrom 18 = .ok (.getfield 21, 3) := by decide +kernel
theorem dX5_countKeptFrom_21 : decode cX5_countKeptFrom 21 = .ok (.iload_n 3, 1) := by decide +kernel
theorem dX5_countKeptFrom_22 : decode cX5_countKeptFrom 22 = .ok (.aaload, 1) := by decide +kernel
theorem dX5_countKeptFrom_23 : decode cX5_countKeptFrom 23 = .ok (.getfield 35, 3) := by decide +kernel
theorem dX5_countKeptFrom_26 : decode cX5_countKeptFrom 26 = .ok (.ifCond .eq 7, 3) := by decide +kernel
theorem dX5_countKeptFrom_29 : decode cX5_countKeptFrom 29 = .ok (.iconst 1, 1) := by decide +kernel
theorem dX5_countKeptFrom_30 : decode cX5_countKeptFrom 30 = .ok (.goto 4, 3) := by decide +kernel
theorem dX5_countKeptFrom_33 : decode cX5_countKeptFrom 33 = .ok (.iconst 0, 1) := by decide +kernel
theorem dX5_countKeptFrom_34 : decode cX5_countKeptFrom 34 = .ok (.iadd, 1) := by decide +kernel
theorem dX5_countKeptFrom_35 : decode cX5_countKeptFrom 35 = .ok (.istore_n 2, 1) := by decide +kernel
theorem dX5_countKeptFrom_36 : decode cX5_countKeptFrom 36 = .ok (.iinc 3 1, 3) := by decide +kernel
theorem dX5_countKeptFrom_39 : decode cX5_countKeptFrom 39 = .ok (.goto (-31), 3) := by decide +kernel
theorem dX5_countKeptFrom_42 : decode cX5_countKeptFrom 42 = .ok (.iload_n 2, 1) := by decide +kernel
theorem dX5_countKeptFrom_43 : decode cX5_countKeptFrom 43 = .ok (.ireturn, 1) := by decide +kernel
theorem dX6_init_0 : decode cX6_init 0 = .ok (.aload_n 0, 1) := by decide +kernel
theorem dX6_init_1 : decode cX6_init 1 = .ok (.invokespecial 3, 3) := by decide +kernel
theorem dX6_init_4 : decode cX6_init 4 = .ok (.aload_n 0, 1) := by decide +kernel
theorem dX6_init_5 : decode cX6_init 5 = .ok (.bipush 16, 2) := by decide +kernel
theorem dX6_init_7 : decode cX6_init 7 = .ok (.anewarray 9, 3) := by decide +kernel
theorem dX6_init_10 : decode cX6_init 10 = .ok (.putfield 11, 3) := by decide +kernel
theorem dX6_init_13 : decode cX6_init 13 = .ok (.aload_n 0, 1) := by decide +kernel
theorem dX6_init_14 : decode cX6_init 14 = .ok (.bipush 16, 2) := by decide +kernel
theorem dX6_init_16 : decode cX6_init 16 = .ok (.newarray .int, 2) := by decide +kernel
theorem dX6_init_18 : decode cX6_init 18 = .ok (.putfield 17, 3) := by decide +kernel
theorem dX6_init_21 : decode cX6_init 21 = .ok (.aload_n 0, 1) := by decide +kernel
theorem dX6_init_22 : decode cX6_init 22 = .ok (.iconst 0, 1) := by decide +kernel
theorem dX6_init_23 : decode cX6_init 23 = .ok (.putfield 21, 3) := by decide +kernel
theorem dX6_init_26 : decode cX6_init 26 = .ok (.aload_n 0, 1) := by decide +kernel
theorem dX6_init_27 : decode cX6_init 27 = .ok (.iconst 0, 1) := by decide +kernel
theorem dX6_init_28 : decode cX6_init 28 = .ok (.putfield 25, 3) := by decide +kernel
theorem dX6_init_31 : decode cX6_init 31 = .ok (.aload_n 0, 1) := by decide +kernel
theorem dX6_init_32 : decode cX6_init 32 = .ok (.bipush 100, 2) := by decide +kernel
theorem dX6_init_34 : decode cX6_init 34 = .ok (.putfield 28, 3) := by decide +kernel
theorem dX6_init_37 : decode cX6_init 37 = .ok (.iconst 0, 1) := by decide +kernel
theorem dX6_init_38 : decode cX6_init 38 = .ok (.istore_n 2, 1) := by decide +kernel
theorem dX6_init_39 : decode cX6_init 39 = .ok (.iload_n 2, 1) := by decide +kernel
theorem dX6_init_40 : decode cX6_init 40 = .ok (.bipush 16, 2) := by decide +kernel
theorem dX6_init_42 : decode cX6_init 42 = .ok (.if_icmp .ge 23, 3) := by decide +kernel
theorem dX6_init_45 : decode cX6_init 45 = .ok (.aload_n 0, 1) := by decide +kernel
theorem dX6_init_46 : decode cX6_init 46 = .ok (.getfield 11, 3) := by decide +kernel
theorem dX6_init_49 : decode cX6_init 49 = .ok (.iload_n 2, 1) := by decide +kernel
theorem dX6_init_50 : decode cX6_init 50 = .ok (.new 9, 3) := by decide +kernel
theorem dX6_init_53 : decode cX6_init 53 = .ok (.dup, 1) := by decide +kernel
theorem dX6_init_54 : decode cX6_init 54 = .ok (.aload_n 1, 1) := by decide +kernel
theorem dX6_init_55 : decode cX6_init 55 = .ok (.invokespecial 31, 3) := by decide +kernel
theorem dX6_init_58 : decode cX6_init 58 = .ok (.aastore, 1) := by decide +kernel
theorem dX6_init_59 : decode cX6_init 59 = .ok (.iinc 2 1, 3) := by decide +kernel
theorem dX6_init_62 : decode cX6_init 62 = .ok (.goto (-23), 3) := by decide +kernel
theorem dX6_init_65 : decode cX6_init 65 = .ok (.return_, 1) := by decide +kernel
theorem dX6_note_0 : decode cX6_note 0 = .ok (.iconst 0, 1) := by decide +kernel
theorem dX6_note_1 : decode cX6_note 1 = .ok (.istore_n 2, 1) := by decide +kernel
theorem dX6_note_2 : decode cX6_note 2 = .ok (.iload_n 2, 1) := by decide +kernel
theorem dX6_note_3 : decode cX6_note 3 = .ok (.aload_n 0, 1) := by decide +kernel
theorem dX6_note_4 : decode cX6_note 4 = .ok (.getfield 21, 3) := by decide +kernel
theorem dX6_note_7 : decode cX6_note 7 = .ok (.if_icmp .ge 20, 3) := by decide +kernel
theorem dX6_note_10 : decode cX6_note 10 = .ok (.aload_n 0, 1) := by decide +kernel
theorem dX6_note_11 : decode cX6_note 11 = .ok (.getfield 17, 3) := by decide +kernel
theorem dX6_note_14 : decode cX6_note 14 = .ok (.iload_n 2, 1) := by decide +kernel
theorem dX6_note_15 : decode cX6_note 15 = .ok (.iaload, 1) := by decide +kernel
theorem dX6_note_16 : decode cX6_note 16 = .ok (.iload_n 1, 1) := by decide +kernel
theorem dX6_note_17 : decode cX6_note 17 = .ok (.if_icmp .ne 4, 3) := by decide +kernel
theorem dX6_note_20 : decode cX6_note 20 = .ok (.return_, 1) := by decide +kernel
theorem dX6_note_21 : decode cX6_note 21 = .ok (.iinc 2 1, 3) := by decide +kernel
theorem dX6_note_24 : decode cX6_note 24 = .ok (.goto (-22), 3) := by decide +kernel
theorem dX6_note_27 : decode cX6_note 27 = .ok (.aload_n 0, 1) := by decide +kernel
theorem dX6_note_28 : decode cX6_note 28 = .ok (.getfield 21, 3) := by decide +kernel
theorem dX6_note_31 : decode cX6_note 31 = .ok (.bipush 16, 2) := by decide +kernel
theorem dX6_note_33 : decode cX6_note 33 = .ok (.if_icmp .ge 23, 3) := by decide +kernel
theorem dX6_note_36 : decode cX6_note 36 = .ok (.aload_n 0, 1) := by decide +kernel
theorem dX6_note_37 : decode cX6_note 37 = .ok (.getfield 17, 3) := by decide +kernel
theorem dX6_note_40 : decode cX6_note 40 = .ok (.aload_n 0, 1) := by decide +kernel
theorem dX6_note_41 : decode cX6_note 41 = .ok (.getfield 21, 3) := by decide +kernel
theorem dX6_note_44 : decode cX6_note 44 = .ok (.iload_n 1, 1) := by decide +kernel
theorem dX6_note_45 : decode cX6_note 45 = .ok (.iastore, 1) := by decide +kernel
theorem dX6_note_46 : decode cX6_note 46 = .ok (.aload_n 0, 1) := by decide +kernel
theorem dX6_note_47 : decode cX6_note 47 = .ok (.dup, 1) := by decide +kernel
theorem dX6_note_48 : decode cX6_note 48 = .ok (.getfield 21, 3) := by decide +kernel
theorem dX6_note_51 : decode cX6_note 51 = .ok (.iconst 1, 1) := by decide +kernel
theorem dX6_note_52 : decode cX6_note 52 = .ok (.iadd, 1) := by decide +kernel
theorem dX6_note_53 : decode cX6_note 53 = .ok (.putfield 21, 3) := by decide +kernel
theorem dX6_note_56 : decode cX6_note 56 = .ok (.return_, 1) := by decide +kernel
theorem dX6_dropFirst_0 : decode cX6_dropFirst 0 = .ok (.aload_n 0, 1) := by decide +kernel
theorem dX6_dropFirst_1 : decode cX6_dropFirst 1 = .ok (.getfield 21, 3) := by decide +kernel
theorem dX6_dropFirst_4 : decode cX6_dropFirst 4 = .ok (.ifCond .le 32, 3) := by decide +kernel
theorem dX6_dropFirst_7 : decode cX6_dropFirst 7 = .ok (.aload_n 0, 1) := by decide +kernel
theorem dX6_dropFirst_8 : decode cX6_dropFirst 8 = .ok (.getfield 17, 3) := by decide +kernel
theorem dX6_dropFirst_11 : decode cX6_dropFirst 11 = .ok (.iconst 1, 1) := by decide +kernel
theorem dX6_dropFirst_12 : decode cX6_dropFirst 12 = .ok (.aload_n 0, 1) := by decide +kernel
theorem dX6_dropFirst_13 : decode cX6_dropFirst 13 = .ok (.getfield 17, 3) := by decide +kernel
theorem dX6_dropFirst_16 : decode cX6_dropFirst 16 = .ok (.iconst 0, 1) := by decide +kernel
theorem dX6_dropFirst_17 : decode cX6_dropFirst 17 = .ok (.aload_n 0, 1) := by decide +kernel
theorem dX6_dropFirst_18 : decode cX6_dropFirst 18 = .ok (.getfield 21, 3) := by decide +kernel
theorem dX6_dropFirst_21 : decode cX6_dropFirst 21 = .ok (.iconst 1, 1) := by decide +kernel
theorem dX6_dropFirst_22 : decode cX6_dropFirst 22 = .ok (.isub, 1) := by decide +kernel
theorem dX6_dropFirst_23 : decode cX6_dropFirst 23 = .ok (.invokestatic 34, 3) := by decide +kernel
theorem dX6_dropFirst_26 : decode cX6_dropFirst 26 = .ok (.aload_n 0, 1) := by decide +kernel
theorem dX6_dropFirst_27 : decode cX6_dropFirst 27 = .ok (.dup, 1) := by decide +kernel
theorem dX6_dropFirst_28 : decode cX6_dropFirst 28 = .ok (.getfield 21, 3) := by decide +kernel
theorem dX6_dropFirst_31 : decode cX6_dropFirst 31 = .ok (.iconst 1, 1) := by decide +kernel
theorem dX6_dropFirst_32 : decode cX6_dropFirst 32 = .ok (.isub, 1) := by decide +kernel
theorem dX6_dropFirst_33 : decode cX6_dropFirst 33 = .ok (.putfield 21, 3) := by decide +kernel
theorem dX6_dropFirst_36 : decode cX6_dropFirst 36 = .ok (.return_, 1) := by decide +kernel
theorem dX6_takenRoom_0 : decode cX6_takenRoom 0 = .ok (.iconst 0, 1) := by decide +kernel
theorem dX6_takenRoom_1 : decode cX6_takenRoom 1 = .ok (.istore_n 1, 1) := by decide +kernel
theorem dX6_takenRoom_2 : decode cX6_takenRoom 2 = .ok (.iconst 0, 1) := by decide +kernel
theorem dX6_takenRoom_3 : decode cX6_takenRoom 3 = .ok (.istore_n 2, 1) := by decide +kernel
theorem dX6_takenRoom_4 : decode cX6_takenRoom 4 = .ok (.iload_n 2, 1) := by decide +kernel
theorem dX6_takenRoom_5 : decode cX6_takenRoom 5 = .ok (.bipush 16, 2) := by decide +kernel
theorem dX6_takenRoom_7 : decode cX6_takenRoom 7 = .ok (.if_icmp .ge 41, 3) := by decide +kernel
theorem dX6_takenRoom_10 : decode cX6_takenRoom 10 = .ok (.iload_n 1, 1) := by decide +kernel
theorem dX6_takenRoom_11 : decode cX6_takenRoom 11 = .ok (.aload_n 0, 1) := by decide +kernel
theorem dX6_takenRoom_12 : decode cX6_takenRoom 12 = .ok (.getfield 11, 3) := by decide +kernel
theorem dX6_takenRoom_15 : decode cX6_takenRoom 15 = .ok (.iload_n 2, 1) := by decide +kernel
theorem dX6_takenRoom_16 : decode cX6_takenRoom 16 = .ok (.aaload, 1) := by decide +kernel
theorem dX6_takenRoom_17 : decode cX6_takenRoom 17 = .ok (.getfield 40, 3) := by decide +kernel
theorem dX6_takenRoom_20 : decode cX6_takenRoom 20 = .ok (.iconst 2, 1) := by decide +kernel
theorem dX6_takenRoom_21 : decode cX6_takenRoom 21 = .ok (.if_icmp .ne 18, 3) := by decide +kernel
theorem dX6_takenRoom_24 : decode cX6_takenRoom 24 = .ok (.aload_n 0, 1) := by decide +kernel
theorem dX6_takenRoom_25 : decode cX6_takenRoom 25 = .ok (.getfield 11, 3) := by decide +kernel
theorem dX6_takenRoom_28 : decode cX6_takenRoom 28 = .ok (.iload_n 2, 1) := by decide +kernel
theorem dX6_takenRoom_29 : decode cX6_takenRoom 29 = .ok (.aaload, 1) := by decide +kernel
theorem dX6_takenRoom_30 : decode cX6_takenRoom 30 = .ok (.getfield 43, 3) := by decide +kernel
theorem dX6_takenRoom_33 : decode cX6_takenRoom 33 = .ok (.getfield 47, 3) := by decide +kernel
theorem dX6_takenRoom_36 : decode cX6_takenRoom 36 = .ok (.goto 4, 3) := by decide +kernel
theorem dX6_takenRoom_39 : decode cX6_takenRoom 39 = .ok (.iconst 0, 1) := by decide +kernel
theorem dX6_takenRoom_40 : decode cX6_takenRoom 40 = .ok (.iadd, 1) := by decide +kernel
theorem dX6_takenRoom_41 : decode cX6_takenRoom 41 = .ok (.istore_n 1, 1) := by decide +kernel
theorem dX6_takenRoom_42 : decode cX6_takenRoom 42 = .ok (.iinc 2 1, 3) := by decide +kernel
theorem dX6_takenRoom_45 : decode cX6_takenRoom 45 = .ok (.goto (-41), 3) := by decide +kernel
theorem dX6_takenRoom_48 : decode cX6_takenRoom 48 = .ok (.iload_n 1, 1) := by decide +kernel
theorem dX6_takenRoom_49 : decode cX6_takenRoom 49 = .ok (.ireturn, 1) := by decide +kernel
theorem dX7_init_0 : decode cX7_init 0 = .ok (.aload_n 0, 1) := by decide +kernel
theorem dX7_init_1 : decode cX7_init 1 = .ok (.invokespecial 3, 3) := by decide +kernel
theorem dX7_init_4 : decode cX7_init 4 = .ok (.aload_n 0, 1) := by decide +kernel
theorem dX7_init_5 : decode cX7_init 5 = .ok (.bipush 12, 2) := by decide +kernel
theorem dX7_init_7 : decode cX7_init 7 = .ok (.newarray .int, 2) := by decide +kernel
theorem dX7_init_9 : decode cX7_init 9 = .ok (.putfield 9, 3) := by decide +kernel
theorem dX7_init_12 : decode cX7_init 12 = .ok (.aload_n 0, 1) := by decide +kernel
theorem dX7_init_13 : decode cX7_init 13 = .ok (.bipush 12, 2) := by decide +kernel
theorem dX7_init_15 : decode cX7_init 15 = .ok (.newarray .int, 2) := by decide +kernel
theorem dX7_init_17 : decode cX7_init 17 = .ok (.putfield 15, 3) := by decide +kernel
theorem dX7_init_20 : decode cX7_init 20 = .ok (.iconst 0, 1) := by decide +kernel
theorem dX7_init_21 : decode cX7_init 21 = .ok (.istore_n 1, 1) := by decide +kernel
theorem dX7_init_22 : decode cX7_init 22 = .ok (.iload_n 1, 1) := by decide +kernel
theorem dX7_init_23 : decode cX7_init 23 = .ok (.bipush 12, 2) := by decide +kernel
theorem dX7_init_25 : decode cX7_init 25 = .ok (.if_icmp .ge 25, 3) := by decide +kernel
theorem dX7_init_28 : decode cX7_init 28 = .ok (.aload_n 0, 1) := by decide +kernel
theorem dX7_init_29 : decode cX7_init 29 = .ok (.getfield 9, 3) := by decide +kernel
theorem dX7_init_32 : decode cX7_init 32 = .ok (.iload_n 1, 1) := by decide +kernel
theorem dX7_init_33 : decode cX7_init 33 = .ok (.iconst 2, 1) := by decide +kernel
theorem dX7_init_34 : decode cX7_init 34 = .ok (.iastore, 1) := by decide +kernel
theorem dX7_init_35 : decode cX7_init 35 = .ok (.aload_n 0, 1) := by decide +kernel
theorem dX7_init_36 : decode cX7_init 36 = .ok (.getfield 15, 3) := by decide +kernel
theorem dX7_init_39 : decode cX7_init 39 = .ok (.iload_n 1, 1) := by decide +kernel
theorem dX7_init_40 : decode cX7_init 40 = .ok (.sipush 2001, 3) := by decide +kernel
theorem dX7_init_43 : decode cX7_init 43 = .ok (.iastore, 1) := by decide +kernel
theorem dX7_init_44 : decode cX7_init 44 = .ok (.iinc 1 1, 3) := by decide +kernel
theorem dX7_init_47 : decode cX7_init 47 = .ok (.goto (-25), 3) := by decide +kernel
theorem dX7_init_50 : decode cX7_init 50 = .ok (.return_, 1) := by decide +kernel
theorem dX7_rightAt_0 : decode cX7_rightAt 0 = .ok (.iload_n 1, 1) := by decide +kernel
theorem dX7_rightAt_1 : decode cX7_rightAt 1 = .ok (.iconst 3, 1) := by decide +kernel
theorem dX7_rightAt_2 : decode cX7_rightAt 2 = .ok (.imul, 1) := by decide +kernel
theorem dX7_rightAt_3 : decode cX7_rightAt 3 = .ok (.iload_n 2, 1) := by decide +kernel
theorem dX7_rightAt_4 : decode cX7_rightAt 4 = .ok (.iadd, 1) := by decide +kernel
theorem dX7_rightAt_5 : decode cX7_rightAt 5 = .ok (.istore 4, 2) := by decide +kernel
theorem dX7_rightAt_7 : decode cX7_rightAt 7 = .ok (.iload_n 3, 1) := by decide +kernel
theorem dX7_rightAt_8 : decode cX7_rightAt 8 = .ok (.aload_n 0, 1) := by decide +kernel
theorem dX7_rightAt_9 : decode cX7_rightAt 9 = .ok (.getfield 15, 3) := by decide +kernel
theorem dX7_rightAt_12 : decode cX7_rightAt 12 = .ok (.iload 4, 2) := by decide +kernel
theorem dX7_rightAt_14 : decode cX7_rightAt 14 = .ok (.iaload, 1) := by decide +kernel
theorem dX7_rightAt_15 : decode cX7_rightAt 15 = .ok (.if_icmp .ge 13, 3) := by decide +kernel
theorem dX7_rightAt_18 : decode cX7_rightAt 18 = .ok (.aload_n 0, 1) := by decide +kernel
theorem dX7_rightAt_19 : decode cX7_rightAt 19 = .ok (.getfield 9, 3) := by decide +kernel
theorem dX7_rightAt_22 : decode cX7_rightAt 22 = .ok (.iload 4, 2) := by decide +kernel
theorem dX7_rightAt_24 : decode cX7_rightAt 24 = .ok (.iaload, 1) := by decide +kernel
theorem dX7_rightAt_25 : decode cX7_rightAt 25 = .ok (.goto 4, 3) := by decide +kernel
theorem dX7_rightAt_28 : decode cX7_rightAt 28 = .ok (.iconst 0, 1) := by decide +kernel
theorem dX7_rightAt_29 : decode cX7_rightAt 29 = .ok (.ireturn, 1) := by decide +kernel
theorem dX7_set_0 : decode cX7_set 0 = .ok (.iload_n 1, 1) := by decide +kernel
theorem dX7_set_1 : decode cX7_set 1 = .ok (.iconst 3, 1) := by decide +kernel
theorem dX7_set_2 : decode cX7_set 2 = .ok (.imul, 1) := by decide +kernel
theorem dX7_set_3 : decode cX7_set 3 = .ok (.iload_n 2, 1) := by decide +kernel
theorem dX7_set_4 : decode cX7_set 4 = .ok (.iadd, 1) := by decide +kernel
theorem dX7_set_5 : decode cX7_set 5 = .ok (.istore 5, 2) := by decide +kernel
theorem dX7_set_7 : decode cX7_set 7 = .ok (.aload_n 0, 1) := by decide +kernel
theorem dX7_set_8 : decode cX7_set 8 = .ok (.getfield 9, 3) := by decide +kernel
theorem dX7_set_11 : decode cX7_set 11 = .ok (.iload 5, 2) := by decide +kernel
theorem dX7_set_13 : decode cX7_set 13 = .ok (.iload_n 3, 1) := by decide +kernel
theorem dX7_set_14 : decode cX7_set 14 = .ok (.iastore, 1) := by decide +kernel
theorem dX7_set_15 : decode cX7_set 15 = .ok (.aload_n 0, 1) := by decide +kernel
theorem dX7_set_16 : decode cX7_set 16 = .ok (.getfield 15, 3) := by decide +kernel
theorem dX7_set_19 : decode cX7_set 19 = .ok (.iload 5, 2) := by decide +kernel
theorem dX7_set_21 : decode cX7_set 21 = .ok (.iload 4, 2) := by decide +kernel
theorem dX7_set_23 : decode cX7_set 23 = .ok (.iastore, 1) := by decide +kernel
theorem dX7_set_24 : decode cX7_set 24 = .ok (.return_, 1) := by decide +kernel
theorem dX8_init_0 : decode cX8_init 0 = .ok (.aload_n 0, 1) := by decide +kernel
theorem dX8_init_1 : decode cX8_init 1 = .ok (.invokespecial 3, 3) := by decide +kernel
theorem dX8_init_4 : decode cX8_init 4 = .ok (.aload_n 0, 1) := by decide +kernel
theorem dX8_init_5 : decode cX8_init 5 = .ok (.iconst 0, 1) := by decide +kernel
theorem dX8_init_6 : decode cX8_init 6 = .ok (.putfield 9, 3) := by decide +kernel
theorem dX8_init_9 : decode cX8_init 9 = .ok (.aload_n 0, 1) := by decide +kernel
theorem dX8_init_10 : decode cX8_init 10 = .ok (.iconst 0, 1) := by decide +kernel
theorem dX8_init_11 : decode cX8_init 11 = .ok (.putfield 15, 3) := by decide +kernel
theorem dX8_init_14 : decode cX8_init 14 = .ok (.aload_n 0, 1) := by decide +kernel
theorem dX8_init_15 : decode cX8_init 15 = .ok (.iconst 0, 1) := by decide +kernel
theorem dX8_init_16 : decode cX8_init 16 = .ok (.putfield 18, 3) := by decide +kernel
theorem dX8_init_19 : decode cX8_init 19 = .ok (.aload_n 0, 1) := by decide +kernel
theorem dX8_init_20 : decode cX8_init 20 = .ok (.sipush 512, 3) := by decide +kernel
theorem dX8_init_23 : decode cX8_init 23 = .ok (.newarray .int, 2) := by decide +kernel
theorem dX8_init_25 : decode cX8_init 25 = .ok (.putfield 21, 3) := by decide +kernel
theorem dX8_init_28 : decode cX8_init 28 = .ok (.aload_n 0, 1) := by decide +kernel
theorem dX8_init_29 : decode cX8_init 29 = .ok (.sipush 512, 3) := by decide +kernel
theorem dX8_init_32 : decode cX8_init 32 = .ok (.newarray .int, 2) := by decide +kernel
theorem dX8_init_34 : decode cX8_init 34 = .ok (.putfield 25, 3) := by decide +kernel
theorem dX8_init_37 : decode cX8_init 37 = .ok (.aload_n 0, 1) := by decide +kernel
theorem dX8_init_38 : decode cX8_init 38 = .ok (.sipush 512, 3) := by decide +kernel
theorem dX8_init_41 : decode cX8_init 41 = .ok (.newarray .boolean, 2) := by decide +kernel
theorem dX8_init_43 : decode cX8_init 43 = .ok (.putfield 28, 3) := by decide +kernel
theorem dX8_init_46 : decode cX8_init 46 = .ok (.aload_n 0, 1) := by decide +kernel
theorem dX8_init_47 : decode cX8_init 47 = .ok (.sipush 512, 3) := by decide +kernel
theorem dX8_init_50 : decode cX8_init 50 = .ok (.newarray .boolean, 2) := by decide +kernel
theorem dX8_init_52 : decode cX8_init 52 = .ok (.putfield 32, 3) := by decide +kernel
theorem dX8_init_55 : decode cX8_init 55 = .ok (.aload_n 0, 1) := by decide +kernel
theorem dX8_init_56 : decode cX8_init 56 = .ok (.sipush 512, 3) := by decide +kernel
theorem dX8_init_59 : decode cX8_init 59 = .ok (.newarray .boolean, 2) := by decide +kernel
theorem dX8_init_61 : decode cX8_init 61 = .ok (.putfield 35, 3) := by decide +kernel
theorem dX8_init_64 : decode cX8_init 64 = .ok (.return_, 1) := by decide +kernel
theorem dX8_find_0 : decode cX8_find 0 = .ok (.iconst 0, 1) := by decide +kernel
theorem dX8_find_1 : decode cX8_find 1 = .ok (.istore_n 2, 1) := by decide +kernel
theorem dX8_find_2 : decode cX8_find 2 = .ok (.iload_n 2, 1) := by decide +kernel
theorem dX8_find_3 : decode cX8_find 3 = .ok (.aload_n 0, 1) := by decide +kernel
theorem dX8_find_4 : decode cX8_find 4 = .ok (.getfield 9, 3) := by decide +kernel
theorem dX8_find_7 : decode cX8_find 7 = .ok (.if_icmp .ge 21, 3) := by decide +kernel
theorem dX8_find_10 : decode cX8_find 10 = .ok (.aload_n 0, 1) := by decide +kernel
theorem dX8_find_11 : decode cX8_find 11 = .ok (.getfield 21, 3) := by decide +kernel
theorem dX8_find_14 : decode cX8_find 14 = .ok (.iload_n 2, 1) := by decide +kernel
theorem dX8_find_15 : decode cX8_find 15 = .ok (.iaload, 1) := by decide +kernel
theorem dX8_find_16 : decode cX8_find 16 = .ok (.iload_n 1, 1) := by decide +kernel
theorem dX8_find_17 : decode cX8_find 17 = .ok (.if_icmp .ne 5, 3) := by decide +kernel
theorem dX8_find_20 : decode cX8_find 20 = .ok (.iload_n 2, 1) := by decide +kernel
theorem dX8_find_21 : decode cX8_find 21 = .ok (.ireturn, 1) := by decide +kernel
theorem dX8_find_22 : decode cX8_find 22 = .ok (.iinc 2 1, 3) := by decide +kernel
theorem dX8_find_25 : decode cX8_find 25 = .ok (.goto (-23), 3) := by decide +kernel
theorem dX8_find_28 : decode cX8_find 28 = .ok (.iconst (-1), 1) := by decide +kernel
theorem dX8_find_29 : decode cX8_find 29 = .ok (.ireturn, 1) := by decide +kernel
theorem dX8_hasAll_0 : decode cX8_hasAll 0 = .ok (.iconst 0, 1) := by decide +kernel
theorem dX8_hasAll_1 : decode cX8_hasAll 1 = .ok (.istore_n 2, 1) := by decide +kernel
theorem dX8_hasAll_2 : decode cX8_hasAll 2 = .ok (.iload_n 2, 1) := by decide +kernel
theorem dX8_hasAll_3 : decode cX8_hasAll 3 = .ok (.aload_n 1, 1) := by decide +kernel
theorem dX8_hasAll_4 : decode cX8_hasAll 4 = .ok (.getfield 38, 3) := by decide +kernel
theorem dX8_hasAll_7 : decode cX8_hasAll 7 = .ok (.if_icmp .ge 24, 3) := by decide +kernel
theorem dX8_hasAll_10 : decode cX8_hasAll 10 = .ok (.aload_n 0, 1) := by decide +kernel
theorem dX8_hasAll_11 : decode cX8_hasAll 11 = .ok (.aload_n 1, 1) := by decide +kernel
theorem dX8_hasAll_12 : decode cX8_hasAll 12 = .ok (.iload_n 2, 1) := by decide +kernel
theorem dX8_hasAll_13 : decode cX8_hasAll 13 = .ok (.invokevirtual 43, 3) := by decide +kernel
theorem dX8_hasAll_16 : decode cX8_hasAll 16 = .ok (.invokevirtual 47, 3) := by decide +kernel
theorem dX8_hasAll_19 : decode cX8_hasAll 19 = .ok (.iconst (-1), 1) := by decide +kernel
theorem dX8_hasAll_20 : decode cX8_hasAll 20 = .ok (.if_icmp .ne 5, 3) := by decide +kernel
theorem dX8_hasAll_23 : decode cX8_hasAll 23 = .ok (.iconst 0, 1) := by decide +kernel
theorem dX8_hasAll_24 : decode cX8_hasAll 24 = .ok (.ireturn, 1) := by decide +kernel
theorem dX8_hasAll_25 : decode cX8_hasAll 25 = .ok (.iinc 2 1, 3) := by decide +kernel
theorem dX8_hasAll_28 : decode cX8_hasAll 28 = .ok (.goto (-26), 3) := by decide +kernel
theorem dX8_hasAll_31 : decode cX8_hasAll 31 = .ok (.iconst 1, 1) := by decide +kernel
theorem dX8_hasAll_32 : decode cX8_hasAll 32 = .ok (.ireturn, 1) := by decide +kernel
theorem dX8_hasAllWhole_0 : decode cX8_hasAllWhole 0 = .ok (.iconst 0, 1) := by decide +kernel
theorem dX8_hasAllWhole_1 : decode cX8_hasAllWhole 1 = .ok (.istore_n 2, 1) := by decide +kernel
theorem dX8_hasAllWhole_2 : decode cX8_hasAllWhole 2 = .ok (.iload_n 2, 1) := by decide +kernel
theorem dX8_hasAllWhole_3 : decode cX8_hasAllWhole 3 = .ok (.aload_n 1, 1) := by decide +kernel
theorem dX8_hasAllWhole_4 : decode cX8_hasAllWhole 4 = .ok (.getfield 38, 3) := by decide +kernel
theorem dX8_hasAllWhole_7 : decode cX8_hasAllWhole 7 = .ok (.if_icmp .ge 35, 3) := by decide +kernel
theorem dX8_hasAllWhole_10 : decode cX8_hasAllWhole 10 = .ok (.aload_n 0, 1) := by decide +kernel
theorem dX8_hasAllWhole_11 : decode cX8_hasAllWhole 11 = .ok (.aload_n 1, 1) := by decide +kernel
theorem dX8_hasAllWhole_12 : decode cX8_hasAllWhole 12 = .ok (.iload_n 2, 1) := by decide +kernel
theorem dX8_hasAllWhole_13 : decode cX8_hasAllWhole 13 = .ok (.invokevirtual 43, 3) := by decide +kernel
theorem dX8_hasAllWhole_16 : decode cX8_hasAllWhole 16 = .ok (.invokevirtual 47, 3) := by decide +kernel
theorem dX8_hasAllWhole_19 : decode cX8_hasAllWhole 19 = .ok (.istore_n 3, 1) := by decide +kernel
theorem dX8_hasAllWhole_20 : decode cX8_hasAllWhole 20 = .ok (.iload_n 3, 1) := by decide +kernel
theorem dX8_hasAllWhole_21 : decode cX8_hasAllWhole 21 = .ok (.iconst (-1), 1) := by decide +kernel
theorem dX8_hasAllWhole_22 : decode cX8_hasAllWhole 22 = .ok (.if_icmp .eq 12, 3) := by decide +kernel
theorem dX8_hasAllWhole_25 : decode cX8_hasAllWhole 25 = .ok (.aload_n 0, 1) := by decide +kernel
theorem dX8_hasAllWhole_26 : decode cX8_hasAllWhole 26 = .ok (.getfield 28, 3) := by decide +kernel
theorem dX8_hasAllWhole_29 : decode cX8_hasAllWhole 29 = .ok (.iload_n 3, 1) := by decide +kernel
theorem dX8_hasAllWhole_30 : decode cX8_hasAllWhole 30 = .ok (.baload, 1) := by decide +kernel
theorem dX8_hasAllWhole_31 : decode cX8_hasAllWhole 31 = .ok (.ifCond .eq 5, 3) := by decide +kernel
theorem dX8_hasAllWhole_34 : decode cX8_hasAllWhole 34 = .ok (.iconst 0, 1) := by decide +kernel
theorem dX8_hasAllWhole_35 : decode cX8_hasAllWhole 35 = .ok (.ireturn, 1) := by decide +kernel
theorem dX8_hasAllWhole_36 : decode cX8_hasAllWhole 36 = .ok (.iinc 2 1, 3) := by decide +kernel
theorem dX8_hasAllWhole_39 : decode cX8_hasAllWhole 39 = .ok (.goto (-37), 3) := by decide +kernel
theorem dX8_hasAllWhole_42 : decode cX8_hasAllWhole 42 = .ok (.iconst 1, 1) := by decide +kernel
theorem dX8_hasAllWhole_43 : decode cX8_hasAllWhole 43 = .ok (.ireturn, 1) := by decide +kernel
theorem dX8_isWholeSomewhere_0 : decode cX8_isWholeSomewhere 0 = .ok (.iconst 0, 1) := by decide +kernel
theorem dX8_isWholeSomewhere_1 : decode cX8_isWholeSomewhere 1 = .ok (.istore_n 2, 1) := by decide +kernel
theorem dX8_isWholeSomewhere_2 : decode cX8_isWholeSomewhere 2 = .ok (.iload_n 2, 1) := by decide +kernel
theorem dX8_isWholeSomewhere_3 : decode cX8_isWholeSomewhere 3 = .ok (.aload_n 1, 1) := by decide +kernel
theorem dX8_isWholeSomewhere_4 : decode cX8_isWholeSomewhere 4 = .ok (.getfield 38, 3) := by decide +kernel
theorem dX8_isWholeSomewhere_7 : decode cX8_isWholeSomewhere 7 = .ok (.if_icmp .ge 44, 3) := by decide +kernel
theorem dX8_isWholeSomewhere_10 : decode cX8_isWholeSomewhere 10 = .ok (.aload_n 0, 1) := by decide +kernel
theorem dX8_isWholeSomewhere_11 : decode cX8_isWholeSomewhere 11 = .ok (.aload_n 1, 1) := by decide +kernel
theorem dX8_isWholeSomewhere_12 : decode cX8_isWholeSomewhere 12 = .ok (.iload_n 2, 1) := by decide +kernel
theorem dX8_isWholeSomewhere_13 : decode cX8_isWholeSomewhere 13 = .ok (.invokevirtual 43, 3) := by decide +kernel
theorem dX8_isWholeSomewhere_16 : decode cX8_isWholeSomewhere 16 = .ok (.invokevirtual 47, 3) := by decide +kernel
theorem dX8_isWholeSomewhere_19 : decode cX8_isWholeSomewhere 19 = .ok (.istore_n 3, 1) := by decide +kernel
theorem dX8_isWholeSomewhere_20 : decode cX8_isWholeSomewhere 20 = .ok (.iload_n 3, 1) := by decide +kernel
theorem dX8_isWholeSomewhere_21 : decode cX8_isWholeSomewhere 21 = .ok (.iconst (-1), 1) := by decide +kernel
theorem dX8_isWholeSomewhere_22 : decode cX8_isWholeSomewhere 22 = .ok (.if_icmp .eq 21, 3) := by decide +kernel
theorem dX8_isWholeSomewhere_25 : decode cX8_isWholeSomewhere 25 = .ok (.aload_n 0, 1) := by decide +kernel
theorem dX8_isWholeSomewhere_26 : decode cX8_isWholeSomewhere 26 = .ok (.getfield 28, 3) := by decide +kernel
theorem dX8_isWholeSomewhere_29 : decode cX8_isWholeSomewhere 29 = .ok (.iload_n 3, 1) := by decide +kernel
theorem dX8_isWholeSomewhere_30 : decode cX8_isWholeSomewhere 30 = .ok (.baload, 1) := by decide +kernel
theorem dX8_isWholeSomewhere_31 : decode cX8_isWholeSomewhere 31 = .ok (.ifCond .eq 14, 3) := by decide +kernel
theorem dX8_isWholeSomewhere_34 : decode cX8_isWholeSomewhere 34 = .ok (.aload_n 0, 1) := by decide +kernel
theorem dX8_isWholeSomewhere_35 : decode cX8_isWholeSomewhere 35 = .ok (.getfield 32, 3) := by decide +kernel
theorem dX8_isWholeSomewhere_38 : decode cX8_isWholeSomewhere 38 = .ok (.iload_n 3, 1) := by decide +kernel
theorem dX8_isWholeSomewhere_39 : decode cX8_isWholeSomewhere 39 = .ok (.baload, 1) := by decide +kernel
theorem dX8_isWholeSomewhere_40 : decode cX8_isWholeSomewhere 40 = .ok (.ifCond .ne 5, 3) := by decide +kernel
theorem dX8_isWholeSomewhere_43 : decode cX8_isWholeSomewhere 43 = .ok (.iconst 0, 1) := by decide +kernel
theorem dX8_isWholeSomewhere_44 : decode cX8_isWholeSomewhere 44 = .ok (.ireturn, 1) := by decide +kernel
theorem dX8_isWholeSomewhere_45 : decode cX8_isWholeSomewhere 45 = .ok (.iinc 2 1, 3) := by decide +kernel
theorem dX8_isWholeSomewhere_48 : decode cX8_isWholeSomewhere 48 = .ok (.goto (-46), 3) := by decide +kernel
theorem dX8_isWholeSomewhere_51 : decode cX8_isWholeSomewhere 51 = .ok (.iconst 1, 1) := by decide +kernel
theorem dX8_isWholeSomewhere_52 : decode cX8_isWholeSomewhere 52 = .ok (.ireturn, 1) := by decide +kernel
theorem dX8_addMissing_0 : decode cX8_addMissing 0 = .ok (.iconst 0, 1) := by decide +kernel
theorem dX8_addMissing_1 : decode cX8_addMissing 1 = .ok (.istore_n 3, 1) := by decide +kernel
theorem dX8_addMissing_2 : decode cX8_addMissing 2 = .ok (.iconst 0, 1) := by decide +kernel
theorem dX8_addMissing_3 : decode cX8_addMissing 3 = .ok (.istore 4, 2) := by decide +kernel
theorem dX8_addMissing_5 : decode cX8_addMissing 5 = .ok (.iload 4, 2) := by decide +kernel
theorem dX8_addMissing_7 : decode cX8_addMissing 7 = .ok (.aload_n 1, 1) := by decide +kernel
theorem dX8_addMissing_8 : decode cX8_addMissing 8 = .ok (.getfield 38, 3) := by decide +kernel
theorem dX8_addMissing_11 : decode cX8_addMissing 11 = .ok (.if_icmp .ge 51, 3) := by decide +kernel
theorem dX8_addMissing_14 : decode cX8_addMissing 14 = .ok (.iload_n 3, 1) := by decide +kernel
theorem dX8_addMissing_15 : decode cX8_addMissing 15 = .ok (.iload_n 2, 1) := by decide +kernel
theorem dX8_addMissing_16 : decode cX8_addMissing 16 = .ok (.if_icmp .ge 46, 3) := by decide +kernel
theorem dX8_addMissing_19 : decode cX8_addMissing 19 = .ok (.aload_n 0, 1) := by decide +kernel
theorem dX8_addMissing_20 : decode cX8_addMissing 20 = .ok (.getfield 9, 3) := by decide +kernel
theorem dX8_addMissing_23 : decode cX8_addMissing 23 = .ok (.sipush 512, 3) := by decide +kernel
theorem dX8_addMissing_26 : decode cX8_addMissing 26 = .ok (.if_icmp .ge 36, 3) := by decide +kernel
theorem dX8_addMissing_29 : decode cX8_addMissing 29 = .ok (.aload_n 0, 1) := by decide +kernel
theorem dX8_addMissing_30 : decode cX8_addMissing 30 = .ok (.aload_n 1, 1) := by decide +kernel
theorem dX8_addMissing_31 : decode cX8_addMissing 31 = .ok (.iload 4, 2) := by decide +kernel
theorem dX8_addMissing_33 : decode cX8_addMissing 33 = .ok (.invokevirtual 43, 3) := by decide +kernel
theorem dX8_addMissing_36 : decode cX8_addMissing 36 = .ok (.invokevirtual 47, 3) := by decide +kernel
theorem dX8_addMissing_39 : decode cX8_addMissing 39 = .ok (.iconst (-1), 1) := by decide +kernel
theorem dX8_addMissing_40 : decode cX8_addMissing 40 = .ok (.if_icmp .ne 16, 3) := by decide +kernel
theorem dX8_addMissing_43 : decode cX8_addMissing 43 = .ok (.aload_n 0, 1) := by decide +kernel
theorem dX8_addMissing_44 : decode cX8_addMissing 44 = .ok (.aload_n 1, 1) := by decide +kernel
theorem dX8_addMissing_45 : decode cX8_addMissing 45 = .ok (.iload 4, 2) := by decide +kernel
theorem dX8_addMissing_47 : decode cX8_addMissing 47 = .ok (.invokevirtual 43, 3) := by decide +kernel
theorem dX8_addMissing_50 : decode cX8_addMissing 50 = .ok (.invokevirtual 50, 3) := by decide +kernel
theorem dX8_addMissing_53 : decode cX8_addMissing 53 = .ok (.iinc 3 1, 3) := by decide +kernel
theorem dX8_addMissing_56 : decode cX8_addMissing 56 = .ok (.iinc 4 1, 3) := by decide +kernel
theorem dX8_addMissing_59 : decode cX8_addMissing 59 = .ok (.goto (-54), 3) := by decide +kernel
theorem dX8_addMissing_62 : decode cX8_addMissing 62 = .ok (.aload_n 0, 1) := by decide +kernel
theorem dX8_addMissing_63 : decode cX8_addMissing 63 = .ok (.dup, 1) := by decide +kernel
theorem dX8_addMissing_64 : decode cX8_addMissing 64 = .ok (.getfield 18, 3) := by decide +kernel
theorem dX8_addMissing_67 : decode cX8_addMissing 67 = .ok (.iload_n 3, 1) := by decide +kernel
theorem dX8_addMissing_68 : decode cX8_addMissing 68 = .ok (.iadd, 1) := by decide +kernel
theorem dX8_addMissing_69 : decode cX8_addMissing 69 = .ok (.putfield 18, 3) := by decide +kernel
theorem dX8_addMissing_72 : decode cX8_addMissing 72 = .ok (.iload_n 3, 1) := by decide +kernel
theorem dX8_addMissing_73 : decode cX8_addMissing 73 = .ok (.ireturn, 1) := by decide +kernel
theorem dX8_add_0 : decode cX8_add 0 = .ok (.aload_n 0, 1) := by decide +kernel
theorem dX8_add_1 : decode cX8_add 1 = .ok (.getfield 15, 3) := by decide +kernel
theorem dX8_add_4 : decode cX8_add 4 = .ok (.ifCond .eq 17, 3) := by decide +kernel
theorem dX8_add_7 : decode cX8_add 7 = .ok (.aload_n 0, 1) := by decide +kernel
theorem dX8_add_8 : decode cX8_add 8 = .ok (.aload_n 0, 1) := by decide +kernel
theorem dX8_add_9 : decode cX8_add 9 = .ok (.getfield 15, 3) := by decide +kernel
theorem dX8_add_12 : decode cX8_add 12 = .ok (.iconst 1, 1) := by decide +kernel
theorem dX8_add_13 : decode cX8_add 13 = .ok (.isub, 1) := by decide +kernel
theorem dX8_add_14 : decode cX8_add 14 = .ok (.invokevirtual 54, 3) := by decide +kernel
theorem dX8_add_17 : decode cX8_add 17 = .ok (.iconst 5, 1) := by decide +kernel
theorem dX8_add_18 : decode cX8_add 18 = .ok (.if_icmp .lt 13, 3) := by decide +kernel
theorem dX8_add_21 : decode cX8_add 21 = .ok (.aload_n 0, 1) := by decide +kernel
theorem dX8_add_22 : decode cX8_add 22 = .ok (.dup, 1) := by decide +kernel
theorem dX8_add_23 : decode cX8_add 23 = .ok (.getfield 15, 3) := by decide +kernel
theorem dX8_add_26 : decode cX8_add 26 = .ok (.iconst 1, 1) := by decide +kernel
theorem dX8_add_27 : decode cX8_add 27 = .ok (.iadd, 1) := by decide +kernel
theorem dX8_add_28 : decode cX8_add 28 = .ok (.putfield 15, 3) := by decide +kernel
theorem dX8_add_31 : decode cX8_add 31 = .ok (.aload_n 0, 1) := by decide +kernel
theorem dX8_add_32 : decode cX8_add 32 = .ok (.getfield 21, 3) := by decide +kernel
theorem dX8_add_35 : decode cX8_add 35 = .ok (.aload_n 0, 1) := by decide +kernel
theorem dX8_add_36 : decode cX8_add 36 = .ok (.getfield 9, 3) := by decide +kernel
theorem dX8_add_39 : decode cX8_add 39 = .ok (.iload_n 1, 1) := by decide +kernel
theorem dX8_add_40 : decode cX8_add 40 = .ok (.iastore, 1) := by decide +kernel
theorem dX8_add_41 : decode cX8_add 41 = .ok (.aload_n 0, 1) := by decide +kernel
theorem dX8_add_42 : decode cX8_add 42 = .ok (.getfield 25, 3) := by decide +kernel
theorem dX8_add_45 : decode cX8_add 45 = .ok (.aload_n 0, 1) := by decide +kernel
theorem dX8_add_46 : decode cX8_add 46 = .ok (.getfield 9, 3) := by decide +kernel
theorem dX8_add_49 : decode cX8_add 49 = .ok (.aload_n 0, 1) := by decide +kernel
theorem dX8_add_50 : decode cX8_add 50 = .ok (.getfield 15, 3) := by decide +kernel
theorem dX8_add_53 : decode cX8_add 53 = .ok (.iconst 1, 1) := by decide +kernel
theorem dX8_add_54 : decode cX8_add 54 = .ok (.isub, 1) := by decide +kernel
theorem dX8_add_55 : decode cX8_add 55 = .ok (.iastore, 1) := by decide +kernel
theorem dX8_add_56 : decode cX8_add 56 = .ok (.aload_n 0, 1) := by decide +kernel
theorem dX8_add_57 : decode cX8_add 57 = .ok (.getfield 28, 3) := by decide +kernel
theorem dX8_add_60 : decode cX8_add 60 = .ok (.aload_n 0, 1) := by decide +kernel
theorem dX8_add_61 : decode cX8_add 61 = .ok (.getfield 9, 3) := by decide +kernel
theorem dX8_add_64 : decode cX8_add 64 = .ok (.iconst 0, 1) := by decide +kernel
theorem dX8_add_65 : decode cX8_add 65 = .ok (.bastore, 1) := by decide +kernel
theorem dX8_add_66 : decode cX8_add 66 = .ok (.aload_n 0, 1) := by decide +kernel
theorem dX8_add_67 : decode cX8_add 67 = .ok (.getfield 32, 3) := by decide +kernel
theorem dX8_add_70 : decode cX8_add 70 = .ok (.aload_n 0, 1) := by decide +kernel
theorem dX8_add_71 : decode cX8_add 71 = .ok (.getfield 9, 3) := by decide +kernel
theorem dX8_add_74 : decode cX8_add 74 = .ok (.iconst 0, 1) := by decide +kernel
theorem dX8_add_75 : decode cX8_add 75 = .ok (.bastore, 1) := by decide +kernel
theorem dX8_add_76 : decode cX8_add 76 = .ok (.aload_n 0, 1) := by decide +kernel
theorem dX8_add_77 : decode cX8_add 77 = .ok (.dup, 1) := by decide +kernel
theorem dX8_add_78 : decode cX8_add 78 = .ok (.getfield 9, 3) := by decide +kernel
theorem dX8_add_81 : decode cX8_add 81 = .ok (.iconst 1, 1) := by decide +kernel
theorem dX8_add_82 : decode cX8_add 82 = .ok (.iadd, 1) := by decide +kernel
theorem dX8_add_83 : decode cX8_add 83 = .ok (.putfield 9, 3) := by decide +kernel
theorem dX8_add_86 : decode cX8_add 86 = .ok (.return_, 1) := by decide +kernel
theorem dX8_countInPack_0 : decode cX8_countInPack 0 = .ok (.iconst 0, 1) := by decide +kernel
theorem dX8_countInPack_1 : decode cX8_countInPack 1 = .ok (.istore_n 2, 1) := by decide +kernel
theorem dX8_countInPack_2 : decode cX8_countInPack 2 = .ok (.iconst 0, 1) := by decide +kernel
theorem dX8_countInPack_3 : decode cX8_countInPack 3 = .ok (.istore_n 3, 1) := by decide +kernel
theorem dX8_countInPack_4 : decode cX8_countInPack 4 = .ok (.iload_n 3, 1) := by decide +kernel
theorem dX8_countInPack_5 : decode cX8_countInPack 5 = .ok (.aload_n 0, 1) := by decide +kernel
theorem dX8_countInPack_6 : decode cX8_countInPack 6 = .ok (.getfield 9, 3) := by decide +kernel
theorem dX8_countInPack_9 : decode cX8_countInPack 9 = .ok (.if_icmp .ge 27, 3) := by decide +kernel
theorem dX8_countInPack_12 : decode cX8_countInPack 12 = .ok (.iload_n 2, 1) := by decide +kernel
theorem dX8_countInPack_13 : decode cX8_countInPack 13 = .ok (.aload_n 0, 1) := by decide +kernel
theorem dX8_countInPack_14 : decode cX8_countInPack 14 = .ok (.getfield 25, 3) := by decide +kernel
theorem dX8_countInPack_17 : decode cX8_countInPack 17 = .ok (.iload_n 3, 1) := by decide +kernel
theorem dX8_countInPack_18 : decode cX8_countInPack 18 = .ok (.iaload, 1) := by decide +kernel
theorem dX8_countInPack_19 : decode cX8_countInPack 19 = .ok (.iload_n 1, 1) := by decide +kernel
theorem dX8_countInPack_20 : decode cX8_countInPack 20 = .ok (.if_icmp .ne 7, 3) := by decide +kernel
theorem dX8_countInPack_23 : decode cX8_countInPack 23 = .ok (.iconst 1, 1) := by decide +kernel
theorem dX8_countInPack_24 : decode cX8_countInPack 24 = .ok (.goto 4, 3) := by decide +kernel
theorem dX8_countInPack_27 : decode cX8_countInPack 27 = .ok (.iconst 0, 1) := by decide +kernel
theorem dX8_countInPack_28 : decode cX8_countInPack 28 = .ok (.iadd, 1) := by decide +kernel
theorem dX8_countInPack_29 : decode cX8_countInPack 29 = .ok (.istore_n 2, 1) := by decide +kernel
theorem dX8_countInPack_30 : decode cX8_countInPack 30 = .ok (.iinc 3 1, 3) := by decide +kernel
theorem dX8_countInPack_33 : decode cX8_countInPack 33 = .ok (.goto (-29), 3) := by decide +kernel
theorem dX8_countInPack_36 : decode cX8_countInPack 36 = .ok (.iload_n 2, 1) := by decide +kernel
theorem dX8_countInPack_37 : decode cX8_countInPack 37 = .ok (.ireturn, 1) := by decide +kernel
theorem dX8_damagePack_0 : decode cX8_damagePack 0 = .ok (.iconst 0, 1) := by decide +kernel
theorem dX8_damagePack_1 : decode cX8_damagePack 1 = .ok (.istore_n 2, 1) := by decide +kernel
theorem dX8_damagePack_2 : decode cX8_damagePack 2 = .ok (.iconst 0, 1) := by decide +kernel
theorem dX8_damagePack_3 : decode cX8_damagePack 3 = .ok (.istore_n 3, 1) := by decide +kernel
theorem dX8_damagePack_4 : decode cX8_damagePack 4 = .ok (.iload_n 3, 1) := by decide +kernel
theorem dX8_damagePack_5 : decode cX8_damagePack 5 = .ok (.aload_n 0, 1) := by decide +kernel
theorem dX8_damagePack_6 : decode cX8_damagePack 6 = .ok (.getfield 9, 3) := by decide +kernel
theorem dX8_damagePack_9 : decode cX8_damagePack 9 = .ok (.if_icmp .ge 38, 3) := by decide +kernel
theorem dX8_damagePack_12 : decode cX8_damagePack 12 = .ok (.aload_n 0, 1) := by decide +kernel
theorem dX8_damagePack_13 : decode cX8_damagePack 13 = .ok (.getfield 25, 3) := by decide +kernel
theorem dX8_damagePack_16 : decode cX8_damagePack 16 = .ok (.iload_n 3, 1) := by decide +kernel
theorem dX8_damagePack_17 : decode cX8_damagePack 17 = .ok (.iaload, 1) := by decide +kernel
theorem dX8_damagePack_18 : decode cX8_damagePack 18 = .ok (.iload_n 1, 1) := by decide +kernel
theorem dX8_damagePack_19 : decode cX8_damagePack 19 = .ok (.if_icmp .ne 22, 3) := by decide +kernel
theorem dX8_damagePack_22 : decode cX8_damagePack 22 = .ok (.aload_n 0, 1) := by decide +kernel
theorem dX8_damagePack_23 : decode cX8_damagePack 23 = .ok (.getfield 28, 3) := by decide +kernel
theorem dX8_damagePack_26 : decode cX8_damagePack 26 = .ok (.iload_n 3, 1) := by decide +kernel
theorem dX8_damagePack_27 : decode cX8_damagePack 27 = .ok (.baload, 1) := by decide +kernel
theorem dX8_damagePack_28 : decode cX8_damagePack 28 = .ok (.ifCond .ne 13, 3) := by decide +kernel
theorem dX8_damagePack_31 : decode cX8_damagePack 31 = .ok (.aload_n 0, 1) := by decide +kernel
theorem dX8_damagePack_32 : decode cX8_damagePack 32 = .ok (.getfield 28, 3) := by decide +kernel
theorem dX8_damagePack_35 : decode cX8_damagePack 35 = .ok (.iload_n 3, 1) := by decide +kernel
theorem dX8_damagePack_36 : decode cX8_damagePack 36 = .ok (.iconst 1, 1) := by decide +kernel
theorem dX8_damagePack_37 : decode cX8_damagePack 37 = .ok (.bastore, 1) := by decide +kernel
theorem dX8_damagePack_38 : decode cX8_damagePack 38 = .ok (.iinc 2 1, 3) := by decide +kernel
theorem dX8_damagePack_41 : decode cX8_damagePack 41 = .ok (.iinc 3 1, 3) := by decide +kernel
theorem dX8_damagePack_44 : decode cX8_damagePack 44 = .ok (.goto (-40), 3) := by decide +kernel
theorem dX8_damagePack_47 : decode cX8_damagePack 47 = .ok (.iload_n 2, 1) := by decide +kernel
theorem dX8_damagePack_48 : decode cX8_damagePack 48 = .ok (.ireturn, 1) := by decide +kernel
theorem dX8_mend_0 : decode cX8_mend 0 = .ok (.iconst 0, 1) := by decide +kernel
theorem dX8_mend_1 : decode cX8_mend 1 = .ok (.istore_n 1, 1) := by decide +kernel
theorem dX8_mend_2 : decode cX8_mend 2 = .ok (.iconst 0, 1) := by decide +kernel
theorem dX8_mend_3 : decode cX8_mend 3 = .ok (.istore_n 2, 1) := by decide +kernel
theorem dX8_mend_4 : decode cX8_mend 4 = .ok (.iload_n 2, 1) := by decide +kernel
theorem dX8_mend_5 : decode cX8_mend 5 = .ok (.aload_n 0, 1) := by decide +kernel
theorem dX8_mend_6 : decode cX8_mend 6 = .ok (.getfield 9, 3) := by decide +kernel
theorem dX8_mend_9 : decode cX8_mend 9 = .ok (.if_icmp .ge 37, 3) := by decide +kernel
theorem dX8_mend_12 : decode cX8_mend 12 = .ok (.aload_n 0, 1) := by decide +kernel
theorem dX8_mend_13 : decode cX8_mend 13 = .ok (.getfield 28, 3) := by decide +kernel
theorem dX8_mend_16 : decode cX8_mend 16 = .ok (.iload_n 2, 1) := by decide +kernel
theorem dX8_mend_17 : decode cX8_mend 17 = .ok (.baload, 1) := by decide +kernel
theorem dX8_mend_18 : decode cX8_mend 18 = .ok (.ifCond .eq 22, 3) := by decide +kernel
theorem dX8_mend_21 : decode cX8_mend 21 = .ok (.aload_n 0, 1) := by decide +kernel
theorem dX8_mend_22 : decode cX8_mend 22 = .ok (.getfield 32, 3) := by decide +kernel
theorem dX8_mend_25 : decode cX8_mend 25 = .ok (.iload_n 2, 1) := by decide +kernel
theorem dX8_mend_26 : decode cX8_mend 26 = .ok (.baload, 1) := by decide +kernel
theorem dX8_mend_27 : decode cX8_mend 27 = .ok (.ifCond .eq 13, 3) := by decide +kernel
theorem dX8_mend_30 : decode cX8_mend 30 = .ok (.aload_n 0, 1) := by decide +kernel
theorem dX8_mend_31 : decode cX8_mend 31 = .ok (.getfield 28, 3) := by decide +kernel
theorem dX8_mend_34 : decode cX8_mend 34 = .ok (.iload_n 2, 1) := by decide +kernel
theorem dX8_mend_35 : decode cX8_mend 35 = .ok (.iconst 0, 1) := by decide +kernel
theorem dX8_mend_36 : decode cX8_mend 36 = .ok (.bastore, 1) := by decide +kernel
theorem dX8_mend_37 : decode cX8_mend 37 = .ok (.iinc 1 1, 3) := by decide +kernel
theorem dX8_mend_40 : decode cX8_mend 40 = .ok (.iinc 2 1, 3) := by decide +kernel
theorem dX8_mend_43 : decode cX8_mend 43 = .ok (.goto (-39), 3) := by decide +kernel
theorem dX8_mend_46 : decode cX8_mend 46 = .ok (.iload_n 1, 1) := by decide +kernel
theorem dX8_mend_47 : decode cX8_mend 47 = .ok (.ireturn, 1) := by decide +kernel
theorem dX8_copyToSecond_0 : decode cX8_copyToSecond 0 = .ok (.iconst 0, 1) := by decide +kernel
theorem dX8_copyToSecond_1 : decode cX8_copyToSecond 1 = .ok (.istore_n 2, 1) := by decide +kernel
theorem dX8_copyToSecond_2 : decode cX8_copyToSecond 2 = .ok (.iload_n 2, 1) := by decide +kernel
theorem dX8_copyToSecond_3 : decode cX8_copyToSecond 3 = .ok (.aload_n 1, 1) := by decide +kernel
theorem dX8_copyToSecond_4 : decode cX8_copyToSecond 4 = .ok (.getfield 38, 3) := by decide +kernel
theorem dX8_copyToSecond_7 : decode cX8_copyToSecond 7 = .ok (.if_icmp .ge 40, 3) := by decide +kernel
theorem dX8_copyToSecond_10 : decode cX8_copyToSecond 10 = .ok (.aload_n 0, 1) := by decide +kernel
theorem dX8_copyToSecond_11 : decode cX8_copyToSecond 11 = .ok (.aload_n 1, 1) := by decide +kernel
theorem dX8_copyToSecond_12 : decode cX8_copyToSecond 12 = .ok (.iload_n 2, 1) := by decide +kernel
theorem dX8_copyToSecond_13 : decode cX8_copyToSecond 13 = .ok (.invokevirtual 43, 3) := by decide +kernel
theorem dX8_copyToSecond_16 : decode cX8_copyToSecond 16 = .ok (.invokevirtual 47, 3) := by decide +kernel
theorem dX8_copyToSecond_19 : decode cX8_copyToSecond 19 = .ok (.istore_n 3, 1) := by decide +kernel
theorem dX8_copyToSecond_20 : decode cX8_copyToSecond 20 = .ok (.iload_n 3, 1) := by decide +kernel
theorem dX8_copyToSecond_21 : decode cX8_copyToSecond 21 = .ok (.iconst (-1), 1) := by decide +kernel
theorem dX8_copyToSecond_22 : decode cX8_copyToSecond 22 = .ok (.if_icmp .eq 19, 3) := by decide +kernel
theorem dX8_copyToSecond_25 : decode cX8_copyToSecond 25 = .ok (.aload_n 0, 1) := by decide +kernel
theorem dX8_copyToSecond_26 : decode cX8_copyToSecond 26 = .ok (.getfield 28, 3) := by decide +kernel
theorem dX8_copyToSecond_29 : decode cX8_copyToSecond 29 = .ok (.iload_n 3, 1) := by decide +kernel
theorem dX8_copyToSecond_30 : decode cX8_copyToSecond 30 = .ok (.baload, 1) := by decide +kernel
theorem dX8_copyToSecond_31 : decode cX8_copyToSecond 31 = .ok (.ifCond .ne 10, 3) := by decide +kernel
theorem dX8_copyToSecond_34 : decode cX8_copyToSecond 34 = .ok (.aload_n 0, 1) := by decide +kernel
theorem dX8_copyToSecond_35 : decode cX8_copyToSecond 35 = .ok (.getfield 32, 3) := by decide +kernel
theorem dX8_copyToSecond_38 : decode cX8_copyToSecond 38 = .ok (.iload_n 3, 1) := by decide +kernel
theorem dX8_copyToSecond_39 : decode cX8_copyToSecond 39 = .ok (.iconst 1, 1) := by decide +kernel
theorem dX8_copyToSecond_40 : decode cX8_copyToSecond 40 = .ok (.bastore, 1) := by decide +kernel
theorem dX8_copyToSecond_41 : decode cX8_copyToSecond 41 = .ok (.iinc 2 1, 3) := by decide +kernel
theorem dX8_copyToSecond_44 : decode cX8_copyToSecond 44 = .ok (.goto (-42), 3) := by decide +kernel
theorem dX8_copyToSecond_47 : decode cX8_copyToSecond 47 = .ok (.return_, 1) := by decide +kernel
theorem dX8_needNothing_0 : decode cX8_needNothing 0 = .ok (.iconst 0, 1) := by decide +kernel
theorem dX8_needNothing_1 : decode cX8_needNothing 1 = .ok (.istore_n 1, 1) := by decide +kernel
theorem dX8_needNothing_2 : decode cX8_needNothing 2 = .ok (.iload_n 1, 1) := by decide +kernel
theorem dX8_needNothing_3 : decode cX8_needNothing 3 = .ok (.aload_n 0, 1) := by decide +kernel
theorem dX8_needNothing_4 : decode cX8_needNothing 4 = .ok (.getfield 9, 3) := by decide +kernel
theorem dX8_needNothing_7 : decode cX8_needNothing 7 = .ok (.if_icmp .ge 16, 3) := by decide +kernel
theorem dX8_needNothing_10 : decode cX8_needNothing 10 = .ok (.aload_n 0, 1) := by decide +kernel
theorem dX8_needNothing_11 : decode cX8_needNothing 11 = .ok (.getfield 35, 3) := by decide +kernel
theorem dX8_needNothing_14 : decode cX8_needNothing 14 = .ok (.iload_n 1, 1) := by decide +kernel
theorem dX8_needNothing_15 : decode cX8_needNothing 15 = .ok (.iconst 0, 1) := by decide +kernel
theorem dX8_needNothing_16 : decode cX8_needNothing 16 = .ok (.bastore, 1) := by decide +kernel
theorem dX8_needNothing_17 : decode cX8_needNothing 17 = .ok (.iinc 1 1, 3) := by decide +kernel
theorem dX8_needNothing_20 : decode cX8_needNothing 20 = .ok (.goto (-18), 3) := by decide +kernel
theorem dX8_needNothing_23 : decode cX8_needNothing 23 = .ok (.return_, 1) := by decide +kernel
theorem dX8_need_0 : decode cX8_need 0 = .ok (.iconst 0, 1) := by decide +kernel
theorem dX8_need_1 : decode cX8_need 1 = .ok (.istore_n 2, 1) := by decide +kernel
theorem dX8_need_2 : decode cX8_need 2 = .ok (.iload_n 2, 1) := by decide +kernel
theorem dX8_need_3 : decode cX8_need 3 = .ok (.aload_n 1, 1) := by decide +kernel
theorem dX8_need_4 : decode cX8_need 4 = .ok (.getfield 38, 3) := by decide +kernel
theorem dX8_need_7 : decode cX8_need 7 = .ok (.if_icmp .ge 31, 3) := by decide +kernel
theorem dX8_need_10 : decode cX8_need 10 = .ok (.aload_n 0, 1) := by decide +kernel
theorem dX8_need_11 : decode cX8_need 11 = .ok (.aload_n 1, 1) := by decide +kernel
theorem dX8_need_12 : decode cX8_need 12 = .ok (.iload_n 2, 1) := by decide +kernel
theorem dX8_need_13 : decode cX8_need 13 = .ok (.invokevirtual 43, 3) := by decide +kernel
theorem dX8_need_16 : decode cX8_need 16 = .ok (.invokevirtual 47, 3) := by decide +kernel
theorem dX8_need_19 : decode cX8_need 19 = .ok (.istore_n 3, 1) := by decide +kernel
theorem dX8_need_20 : decode cX8_need 20 = .ok (.iload_n 3, 1) := by decide +kernel
theorem dX8_need_21 : decode cX8_need 21 = .ok (.iconst (-1), 1) := by decide +kernel
theorem dX8_need_22 : decode cX8_need 22 = .ok (.if_icmp .eq 10, 3) := by decide +kernel
theorem dX8_need_25 : decode cX8_need 25 = .ok (.aload_n 0, 1) := by decide +kernel
theorem dX8_need_26 : decode cX8_need 26 = .ok (.getfield 35, 3) := by decide +kernel
theorem dX8_need_29 : decode cX8_need 29 = .ok (.iload_n 3, 1) := by decide +kernel
theorem dX8_need_30 : decode cX8_need 30 = .ok (.iconst 1, 1) := by decide +kernel
theorem dX8_need_31 : decode cX8_need 31 = .ok (.bastore, 1) := by decide +kernel
theorem dX8_need_32 : decode cX8_need 32 = .ok (.iinc 2 1, 3) := by decide +kernel
theorem dX8_need_35 : decode cX8_need 35 = .ok (.goto (-33), 3) := by decide +kernel
theorem dX8_need_38 : decode cX8_need 38 = .ok (.return_, 1) := by decide +kernel
theorem dX8_dropUnneeded_0 : decode cX8_dropUnneeded 0 = .ok (.iconst 0, 1) := by decide +kernel
theorem dX8_dropUnneeded_1 : decode cX8_dropUnneeded 1 = .ok (.istore_n 1, 1) := by decide +kernel
theorem dX8_dropUnneeded_2 : decode cX8_dropUnneeded 2 = .ok (.iconst 0, 1) := by decide +kernel
theorem dX8_dropUnneeded_3 : decode cX8_dropUnneeded 3 = .ok (.istore_n 2, 1) := by decide +kernel
theorem dX8_dropUnneeded_4 : decode cX8_dropUnneeded 4 = .ok (.iload_n 2, 1) := by decide +kernel
theorem dX8_dropUnneeded_5 : decode cX8_dropUnneeded 5 = .ok (.aload_n 0, 1) := by decide +kernel
theorem dX8_dropUnneeded_6 : decode cX8_dropUnneeded 6 = .ok (.getfield 9, 3) := by decide +kernel
theorem dX8_dropUnneeded_9 : decode cX8_dropUnneeded 9 = .ok (.if_icmp .ge 69, 3) := by decide +kernel
theorem dX8_dropUnneeded_12 : decode cX8_dropUnneeded 12 = .ok (.aload_n 0, 1) := by decide +kernel
theorem dX8_dropUnneeded_13 : decode cX8_dropUnneeded 13 = .ok (.getfield 35, 3) := by decide +kernel
theorem dX8_dropUnneeded_16 : decode cX8_dropUnneeded 16 = .ok (.iload_n 2, 1) := by decide +kernel
theorem dX8_dropUnneeded_17 : decode cX8_dropUnneeded 17 = .ok (.baload, 1) := by decide +kernel
theorem dX8_dropUnneeded_18 : decode cX8_dropUnneeded 18 = .ok (.ifCond .eq 54, 3) := by decide +kernel
theorem dX8_dropUnneeded_21 : decode cX8_dropUnneeded 21 = .ok (.aload_n 0, 1) := by decide +kernel
theorem dX8_dropUnneeded_22 : decode cX8_dropUnneeded 22 = .ok (.getfield 21, 3) := by decide +kernel
theorem dX8_dropUnneeded_25 : decode cX8_dropUnneeded 25 = .ok (.iload_n 1, 1) := by decide +kernel
theorem dX8_dropUnneeded_26 : decode cX8_dropUnneeded 26 = .ok (.aload_n 0, 1) := by decide +kernel
theorem dX8_dropUnneeded_27 : decode cX8_dropUnneeded 27 = .ok (.getfield 21, 3) := by decide +kernel
theorem dX8_dropUnneeded_30 : decode cX8_dropUnneeded 30 = .ok (.iload_n 2, 1) := by decide +kernel
theorem dX8_dropUnneeded_31 : decode cX8_dropUnneeded 31 = .ok (.iaload, 1) := by decide +kernel
theorem dX8_dropUnneeded_32 : decode cX8_dropUnneeded 32 = .ok (.iastore, 1) := by decide +kernel
theorem dX8_dropUnneeded_33 : decode cX8_dropUnneeded 33 = .ok (.aload_n 0, 1) := by decide +kernel
theorem dX8_dropUnneeded_34 : decode cX8_dropUnneeded 34 = .ok (.getfield 25, 3) := by decide +kernel
theorem dX8_dropUnneeded_37 : decode cX8_dropUnneeded 37 = .ok (.iload_n 1, 1) := by decide +kernel
theorem dX8_dropUnneeded_38 : decode cX8_dropUnneeded 38 = .ok (.aload_n 0, 1) := by decide +kernel
theorem dX8_dropUnneeded_39 : decode cX8_dropUnneeded 39 = .ok (.getfield 25, 3) := by decide +kernel
theorem dX8_dropUnneeded_42 : decode cX8_dropUnneeded 42 = .ok (.iload_n 2, 1) := by decide +kernel
theorem dX8_dropUnneeded_43 : decode cX8_dropUnneeded 43 = .ok (.iaload, 1) := by decide +kernel
theorem dX8_dropUnneeded_44 : decode cX8_dropUnneeded 44 = .ok (.iastore, 1) := by decide +kernel
theorem dX8_dropUnneeded_45 : decode cX8_dropUnneeded 45 = .ok (.aload_n 0, 1) := by decide +kernel
theorem dX8_dropUnneeded_46 : decode cX8_dropUnneeded 46 = .ok (.getfield 28, 3) := by decide +kernel
theorem dX8_dropUnneeded_49 : decode cX8_dropUnneeded 49 = .ok (.iload_n 1, 1) := by decide +kernel
theorem dX8_dropUnneeded_50 : decode cX8_dropUnneeded 50 = .ok (.aload_n 0, 1) := by decide +kernel
theorem dX8_dropUnneeded_51 : decode cX8_dropUnneeded 51 = .ok (.getfield 28, 3) := by decide +kernel
theorem dX8_dropUnneeded_54 : decode cX8_dropUnneeded 54 = .ok (.iload_n 2, 1) := by decide +kernel
theorem dX8_dropUnneeded_55 : decode cX8_dropUnneeded 55 = .ok (.baload, 1) := by decide +kernel
theorem dX8_dropUnneeded_56 : decode cX8_dropUnneeded 56 = .ok (.bastore, 1) := by decide +kernel
theorem dX8_dropUnneeded_57 : decode cX8_dropUnneeded 57 = .ok (.aload_n 0, 1) := by decide +kernel
theorem dX8_dropUnneeded_58 : decode cX8_dropUnneeded 58 = .ok (.getfield 32, 3) := by decide +kernel
theorem dX8_dropUnneeded_61 : decode cX8_dropUnneeded 61 = .ok (.iload_n 1, 1) := by decide +kernel
theorem dX8_dropUnneeded_62 : decode cX8_dropUnneeded 62 = .ok (.aload_n 0, 1) := by decide +kernel
theorem dX8_dropUnneeded_63 : decode cX8_dropUnneeded 63 = .ok (.getfield 32, 3) := by decide +kernel
theorem dX8_dropUnneeded_66 : decode cX8_dropUnneeded 66 = .ok (.iload_n 2, 1) := by decide +kernel
theorem dX8_dropUnneeded_67 : decode cX8_dropUnneeded 67 = .ok (.baload, 1) := by decide +kernel
theorem dX8_dropUnneeded_68 : decode cX8_dropUnneeded 68 = .ok (.bastore, 1) := by decide +kernel
theorem dX8_dropUnneeded_69 : decode cX8_dropUnneeded 69 = .ok (.iinc 1 1, 3) := by decide +kernel
theorem dX8_dropUnneeded_72 : decode cX8_dropUnneeded 72 = .ok (.iinc 2 1, 3) := by decide +kernel
theorem dX8_dropUnneeded_75 : decode cX8_dropUnneeded 75 = .ok (.goto (-71), 3) := by decide +kernel
theorem dX8_dropUnneeded_78 : decode cX8_dropUnneeded 78 = .ok (.aload_n 0, 1) := by decide +kernel
theorem dX8_dropUnneeded_79 : decode cX8_dropUnneeded 79 = .ok (.iload_n 1, 1) := by decide +kernel
theorem dX8_dropUnneeded_80 : decode cX8_dropUnneeded 80 = .ok (.putfield 9, 3) := by decide +kernel
theorem dX8_dropUnneeded_83 : decode cX8_dropUnneeded 83 = .ok (.return_, 1) := by decide +kernel
theorem dX8_countDamaged_0 : decode cX8_countDamaged 0 = .ok (.iconst 0, 1) := by decide +kernel
theorem dX8_countDamaged_1 : decode cX8_countDamaged 1 = .ok (.istore_n 1, 1) := by decide +kernel
theorem dX8_countDamaged_2 : decode cX8_countDamaged 2 = .ok (.iconst 0, 1) := by decide +kernel
theorem dX8_countDamaged_3 : decode cX8_countDamaged 3 = .ok (.istore_n 2, 1) := by decide +kernel
theorem dX8_countDamaged_4 : decode cX8_countDamaged 4 = .ok (.iload_n 2, 1) := by decide +kernel
theorem dX8_countDamaged_5 : decode cX8_countDamaged 5 = .ok (.aload_n 0, 1) := by decide +kernel
theorem dX8_countDamaged_6 : decode cX8_countDamaged 6 = .ok (.getfield 9, 3) := by decide +kernel
theorem dX8_countDamaged_9 : decode cX8_countDamaged 9 = .ok (.if_icmp .ge 26, 3) := by decide +kernel
theorem dX8_countDamaged_12 : decode cX8_countDamaged 12 = .ok (.iload_n 1, 1) := by decide +kernel
theorem dX8_countDamaged_13 : decode cX8_countDamaged 13 = .ok (.aload_n 0, 1) := by decide +kernel
theorem dX8_countDamaged_14 : decode cX8_countDamaged 14 = .ok (.getfield 28, 3) := by decide +kernel
theorem dX8_countDamaged_17 : decode cX8_countDamaged 17 = .ok (.iload_n 2, 1) := by decide +kernel
theorem dX8_countDamaged_18 : decode cX8_countDamaged 18 = .ok (.baload, 1) := by decide +kernel
theorem dX8_countDamaged_19 : decode cX8_countDamaged 19 = .ok (.ifCond .eq 7, 3) := by decide +kernel
theorem dX8_countDamaged_22 : decode cX8_countDamaged 22 = .ok (.iconst 1, 1) := by decide +kernel
theorem dX8_countDamaged_23 : decode cX8_countDamaged 23 = .ok (.goto 4, 3) := by decide +kernel
theorem dX8_countDamaged_26 : decode cX8_countDamaged 26 = .ok (.iconst 0, 1) := by decide +kernel
theorem dX8_countDamaged_27 : decode cX8_countDamaged 27 = .ok (.iadd, 1) := by decide +kernel
theorem dX8_countDamaged_28 : decode cX8_countDamaged 28 = .ok (.istore_n 1, 1) := by decide +kernel
theorem dX8_countDamaged_29 : decode cX8_countDamaged 29 = .ok (.iinc 2 1, 3) := by decide +kernel
theorem dX8_countDamaged_32 : decode cX8_countDamaged 32 = .ok (.goto (-28), 3) := by decide +kernel
theorem dX8_countDamaged_35 : decode cX8_countDamaged 35 = .ok (.iload_n 1, 1) := by decide +kernel
theorem dX8_countDamaged_36 : decode cX8_countDamaged 36 = .ok (.ireturn, 1) := by decide +kernel
theorem dX8_countSecond_0 : decode cX8_countSecond 0 = .ok (.iconst 0, 1) := by decide +kernel
theorem dX8_countSecond_1 : decode cX8_countSecond 1 = .ok (.istore_n 1, 1) := by decide +kernel
theorem dX8_countSecond_2 : decode cX8_countSecond 2 = .ok (.iconst 0, 1) := by decide +kernel
theorem dX8_countSecond_3 : decode cX8_countSecond 3 = .ok (.istore_n 2, 1) := by decide +kernel
theorem dX8_countSecond_4 : decode cX8_countSecond 4 = .ok (.iload_n 2, 1) := by decide +kernel
theorem dX8_countSecond_5 : decode cX8_countSecond 5 = .ok (.aload_n 0, 1) := by decide +kernel
theorem dX8_countSecond_6 : decode cX8_countSecond 6 = .ok (.getfield 9, 3) := by decide +kernel
theorem dX8_countSecond_9 : decode cX8_countSecond 9 = .ok (.if_icmp .ge 26, 3) := by decide +kernel
theorem dX8_countSecond_12 : decode cX8_countSecond 12 = .ok (.iload_n 1, 1) := by decide +kernel
theorem dX8_countSecond_13 : decode cX8_countSecond 13 = .ok (.aload_n 0, 1) := by decide +kernel
theorem dX8_countSecond_14 : decode cX8_countSecond 14 = .ok (.getfield 32, 3) := by decide +kernel
theorem dX8_countSecond_17 : decode cX8_countSecond 17 = .ok (.iload_n 2, 1) := by decide +kernel
theorem dX8_countSecond_18 : decode cX8_countSecond 18 = .ok (.baload, 1) := by decide +kernel
theorem dX8_countSecond_19 : decode cX8_countSecond 19 = .ok (.ifCond .eq 7, 3) := by decide +kernel
theorem dX8_countSecond_22 : decode cX8_countSecond 22 = .ok (.iconst 1, 1) := by decide +kernel
theorem dX8_countSecond_23 : decode cX8_countSecond 23 = .ok (.goto 4, 3) := by decide +kernel
theorem dX8_countSecond_26 : decode cX8_countSecond 26 = .ok (.iconst 0, 1) := by decide +kernel
theorem dX8_countSecond_27 : decode cX8_countSecond 27 = .ok (.iadd, 1) := by decide +kernel
theorem dX8_countSecond_28 : decode cX8_countSecond 28 = .ok (.istore_n 1, 1) := by decide +kernel
theorem dX8_countSecond_29 : decode cX8_countSecond 29 = .ok (.iinc 2 1, 3) := by decide +kernel
theorem dX8_countSecond_32 : decode cX8_countSecond 32 = .ok (.goto (-28), 3) := by decide +kernel
theorem dX8_countSecond_35 : decode cX8_countSecond 35 = .ok (.iload_n 1, 1) := by decide +kernel
theorem dX8_countSecond_36 : decode cX8_countSecond 36 = .ok (.ireturn, 1) := by decide +kernel
theorem dX9_init_0 : decode cX9_init 0 = .ok (.aload_n 0, 1) := by decide +kernel
theorem dX9_init_1 : decode cX9_init 1 = .ok (.invokespecial 3, 3) := by decide +kernel
theorem dX9_init_4 : decode cX9_init 4 = .ok (.aload_n 0, 1) := by decide +kernel
theorem dX9_init_5 : decode cX9_init 5 = .ok (.iconst 1, 1) := by decide +kernel
theorem dX9_init_6 : decode cX9_init 6 = .ok (.putfield 9, 3) := by decide +kernel
theorem dX9_init_9 : decode cX9_init 9 = .ok (.aload_n 0, 1) := by decide +kernel
theorem dX9_init_10 : decode cX9_init 10 = .ok (.iload_n 1, 1) := by decide +kernel
theorem dX9_init_11 : decode cX9_init 11 = .ok (.putfield 15, 3) := by decide +kernel
theorem dX9_init_14 : decode cX9_init 14 = .ok (.aload_n 0, 1) := by decide +kernel
theorem dX9_init_15 : decode cX9_init 15 = .ok (.iload_n 2, 1) := by decide +kernel
theorem dX9_init_16 : decode cX9_init 16 = .ok (.putfield 19, 3) := by decide +kernel
theorem dX9_init_19 : decode cX9_init 19 = .ok (.aload_n 0, 1) := by decide +kernel
theorem dX9_init_20 : decode cX9_init 20 = .ok (.iload_n 3, 1) := by decide +kernel
theorem dX9_init_21 : decode cX9_init 21 = .ok (.putfield 22, 3) := by decide +kernel
theorem dX9_init_24 : decode cX9_init 24 = .ok (.aload_n 0, 1) := by decide +kernel
theorem dX9_init_25 : decode cX9_init 25 = .ok (.iload 4, 2) := by decide +kernel
theorem dX9_init_27 : decode cX9_init 27 = .ok (.putfield 25, 3) := by decide +kernel
theorem dX9_init_30 : decode cX9_init 30 = .ok (.aload_n 0, 1) := by decide +kernel
theorem dX9_init_31 : decode cX9_init 31 = .ok (.aload 5, 2) := by decide +kernel
theorem dX9_init_33 : decode cX9_init 33 = .ok (.putfield 28, 3) := by decide +kernel
theorem dX9_init_36 : decode cX9_init 36 = .ok (.return_, 1) := by decide +kernel
theorem dX9_isDeletion_0 : decode cX9_isDeletion 0 = .ok (.aload_n 0, 1) := by decide +kernel
theorem dX9_isDeletion_1 : decode cX9_isDeletion 1 = .ok (.getfield 25, 3) := by decide +kernel
theorem dX9_isDeletion_4 : decode cX9_isDeletion 4 = .ok (.iconst (-1), 1) := by decide +kernel
theorem dX9_isDeletion_5 : decode cX9_isDeletion 5 = .ok (.if_icmp .ne 7, 3) := by decide +kernel
theorem dX9_isDeletion_8 : decode cX9_isDeletion 8 = .ok (.iconst 1, 1) := by decide +kernel
theorem dX9_isDeletion_9 : decode cX9_isDeletion 9 = .ok (.goto 4, 3) := by decide +kernel
theorem dX9_isDeletion_12 : decode cX9_isDeletion 12 = .ok (.iconst 0, 1) := by decide +kernel
theorem dX9_isDeletion_13 : decode cX9_isDeletion 13 = .ok (.ireturn, 1) := by decide +kernel
theorem dX9_isAs_0 : decode cX9_isAs 0 = .ok (.aload_n 0, 1) := by decide +kernel
theorem dX9_isAs_1 : decode cX9_isAs 1 = .ok (.getfield 25, 3) := by decide +kernel
theorem dX9_isAs_4 : decode cX9_isAs 4 = .ok (.iload_n 1, 1) := by decide +kernel
theorem dX9_isAs_5 : decode cX9_isAs 5 = .ok (.if_icmp .ne 18, 3) := by decide +kernel
theorem dX9_isAs_8 : decode cX9_isAs 8 = .ok (.aload_n 0, 1) := by decide +kernel
theorem dX9_isAs_9 : decode cX9_isAs 9 = .ok (.getfield 28, 3) := by decide +kernel
theorem dX9_isAs_12 : decode cX9_isAs 12 = .ok (.aload_n 2, 1) := by decide +kernel
theorem dX9_isAs_13 : decode cX9_isAs 13 = .ok (.invokevirtual 32, 3) := by decide +kernel
theorem dX9_isAs_16 : decode cX9_isAs 16 = .ok (.ifCond .eq 7, 3) := by decide +kernel
theorem dX9_isAs_19 : decode cX9_isAs 19 = .ok (.iconst 1, 1) := by decide +kernel
theorem dX9_isAs_20 : decode cX9_isAs 20 = .ok (.goto 4, 3) := by decide +kernel
theorem dX9_isAs_23 : decode cX9_isAs 23 = .ok (.iconst 0, 1) := by decide +kernel
theorem dX9_isAs_24 : decode cX9_isAs 24 = .ok (.ireturn, 1) := by decide +kernel
theorem dX10_init_0 : decode cX10_init 0 = .ok (.aload_n 0, 1) := by decide +kernel
theorem dX10_init_1 : decode cX10_init 1 = .ok (.invokespecial 1, 3) := by decide +kernel
theorem dX10_init_4 : decode cX10_init 4 = .ok (.aload_n 0, 1) := by decide +kernel
theorem dX10_init_5 : decode cX10_init 5 = .ok (.bipush 12, 2) := by decide +kernel
theorem dX10_init_7 : decode cX10_init 7 = .ok (.newarray .int, 2) := by decide +kernel
theorem dX10_init_9 : decode cX10_init 9 = .ok (.putfield 9, 3) := by decide +kernel
theorem dX10_init_12 : decode cX10_init 12 = .ok (.aload_n 0, 1) := by decide +kernel
theorem dX10_init_13 : decode cX10_init 13 = .ok (.iconst 3, 1) := by decide +kernel
theorem dX10_init_14 : decode cX10_init 14 = .ok (.anewarray 13, 3) := by decide +kernel
theorem dX10_init_17 : decode cX10_init 17 = .ok (.putfield 15, 3) := by decide +kernel
theorem dX10_init_20 : decode cX10_init 20 = .ok (.aload_n 0, 1) := by decide +kernel
theorem dX10_init_21 : decode cX10_init 21 = .ok (.new 19, 3) := by decide +kernel
theorem dX10_init_24 : decode cX10_init 24 = .ok (.dup, 1) := by decide +kernel
theorem dX10_init_25 : decode cX10_init 25 = .ok (.invokespecial 21, 3) := by decide +kernel
theorem dX10_init_28 : decode cX10_init 28 = .ok (.putfield 22, 3) := by decide +kernel
theorem dX10_init_31 : decode cX10_init 31 = .ok (.aload_n 0, 1) := by decide +kernel
theorem dX10_init_32 : decode cX10_init 32 = .ok (.new 26, 3) := by decide +kernel
theorem dX10_init_35 : decode cX10_init 35 = .ok (.dup, 1) := by decide +kernel
theorem dX10_init_36 : decode cX10_init 36 = .ok (.invokespecial 28, 3) := by decide +kernel
theorem dX10_init_39 : decode cX10_init 39 = .ok (.putfield 29, 3) := by decide +kernel
theorem dX10_init_42 : decode cX10_init 42 = .ok (.aload_n 0, 1) := by decide +kernel
theorem dX10_init_43 : decode cX10_init 43 = .ok (.new 33, 3) := by decide +kernel
theorem dX10_init_46 : decode cX10_init 46 = .ok (.dup, 1) := by decide +kernel
theorem dX10_init_47 : decode cX10_init 47 = .ok (.invokespecial 35, 3) := by decide +kernel
theorem dX10_init_50 : decode cX10_init 50 = .ok (.putfield 36, 3) := by decide +kernel
theorem dX10_init_53 : decode cX10_init 53 = .ok (.aload_n 0, 1) := by decide +kernel
theorem dX10_init_54 : decode cX10_init 54 = .ok (.new 40, 3) := by decide +kernel
theorem dX10_init_57 : decode cX10_init 57 = .ok (.dup, 1) := by decide +kernel
theorem dX10_init_58 : decode cX10_init 58 = .ok (.invokespecial 42, 3) := by decide +kernel
theorem dX10_init_61 : decode cX10_init 61 = .ok (.putfield 43, 3) := by decide +kernel
theorem dX10_init_64 : decode cX10_init 64 = .ok (.aload_n 0, 1) := by decide +kernel
theorem dX10_init_65 : decode cX10_init 65 = .ok (.new 47, 3) := by decide +kernel
theorem dX10_init_68 : decode cX10_init 68 = .ok (.dup, 1) := by decide +kernel
theorem dX10_init_69 : decode cX10_init 69 = .ok (.invokespecial 49, 3) := by decide +kernel
theorem dX10_init_72 : decode cX10_init 72 = .ok (.putfield 50, 3) := by decide +kernel
theorem dX10_init_75 : decode cX10_init 75 = .ok (.aload_n 0, 1) := by decide +kernel
theorem dX10_init_76 : decode cX10_init 76 = .ok (.iconst 0, 1) := by decide +kernel
theorem dX10_init_77 : decode cX10_init 77 = .ok (.putfield 54, 3) := by decide +kernel
theorem dX10_init_80 : decode cX10_init 80 = .ok (.aload_n 0, 1) := by decide +kernel
theorem dX10_init_81 : decode cX10_init 81 = .ok (.iconst 0, 1) := by decide +kernel
theorem dX10_init_82 : decode cX10_init 82 = .ok (.putfield 58, 3) := by decide +kernel
theorem dX10_init_85 : decode cX10_init 85 = .ok (.aload_n 0, 1) := by decide +kernel
theorem dX10_init_86 : decode cX10_init 86 = .ok (.iconst 0, 1) := by decide +kernel
theorem dX10_init_87 : decode cX10_init 87 = .ok (.putfield 61, 3) := by decide +kernel
theorem dX10_init_90 : decode cX10_init 90 = .ok (.aload_n 0, 1) := by decide +kernel
theorem dX10_init_91 : decode cX10_init 91 = .ok (.iconst 0, 1) := by decide +kernel
theorem dX10_init_92 : decode cX10_init 92 = .ok (.putfield 64, 3) := by decide +kernel
theorem dX10_init_95 : decode cX10_init 95 = .ok (.aload_n 0, 1) := by decide +kernel
theorem dX10_init_96 : decode cX10_init 96 = .ok (.iconst 0, 1) := by decide +kernel
theorem dX10_init_97 : decode cX10_init 97 = .ok (.putfield 67, 3) := by decide +kernel
theorem dX10_init_100 : decode cX10_init 100 = .ok (.aload_n 0, 1) := by decide +kernel
theorem dX10_init_101 : decode cX10_init 101 = .ok (.iconst 0, 1) := by decide +kernel
theorem dX10_init_102 : decode cX10_init 102 = .ok (.putfield 70, 3) := by decide +kernel
theorem dX10_init_105 : decode cX10_init 105 = .ok (.new 73, 3) := by decide +kernel
theorem dX10_init_108 : decode cX10_init 108 = .ok (.dup, 1) := by decide +kernel
theorem dX10_init_109 : decode cX10_init 109 = .ok (.iconst 0, 1) := by decide +kernel
theorem dX10_init_110 : decode cX10_init 110 = .ok (.newarray .int, 2) := by decide +kernel
theorem dX10_init_112 : decode cX10_init 112 = .ok (.iconst 0, 1) := by decide +kernel
theorem dX10_init_113 : decode cX10_init 113 = .ok (.invokespecial 75, 3) := by decide +kernel
theorem dX10_init_116 : decode cX10_init 116 = .ok (.astore_n 1, 1) := by decide +kernel
theorem dX10_init_117 : decode cX10_init 117 = .ok (.aload_n 0, 1) := by decide +kernel
theorem dX10_init_118 : decode cX10_init 118 = .ok (.new 78, 3) := by decide +kernel
theorem dX10_init_121 : decode cX10_init 121 = .ok (.dup, 1) := by decide +kernel
theorem dX10_init_122 : decode cX10_init 122 = .ok (.aload_n 1, 1) := by decide +kernel
theorem dX10_init_123 : decode cX10_init 123 = .ok (.invokespecial 80, 3) := by decide +kernel
theorem dX10_init_126 : decode cX10_init 126 = .ok (.putfield 83, 3) := by decide +kernel
theorem dX10_init_129 : decode cX10_init 129 = .ok (.iconst 0, 1) := by decide +kernel
theorem dX10_init_130 : decode cX10_init 130 = .ok (.istore_n 2, 1) := by decide +kernel
theorem dX10_init_131 : decode cX10_init 131 = .ok (.iload_n 2, 1) := by decide +kernel
theorem dX10_init_132 : decode cX10_init 132 = .ok (.iconst 3, 1) := by decide +kernel
theorem dX10_init_133 : decode cX10_init 133 = .ok (.if_icmp .ge 23, 3) := by decide +kernel
theorem dX10_init_136 : decode cX10_init 136 = .ok (.aload_n 0, 1) := by decide +kernel
theorem dX10_init_137 : decode cX10_init 137 = .ok (.getfield 15, 3) := by decide +kernel
theorem dX10_init_140 : decode cX10_init 140 = .ok (.iload_n 2, 1) := by decide +kernel
theorem dX10_init_141 : decode cX10_init 141 = .ok (.new 13, 3) := by decide +kernel
theorem dX10_init_144 : decode cX10_init 144 = .ok (.dup, 1) := by decide +kernel
theorem dX10_init_145 : decode cX10_init 145 = .ok (.aload_n 1, 1) := by decide +kernel
theorem dX10_init_146 : decode cX10_init 146 = .ok (.invokespecial 87, 3) := by decide +kernel
theorem dX10_init_149 : decode cX10_init 149 = .ok (.aastore, 1) := by decide +kernel
theorem dX10_init_150 : decode cX10_init 150 = .ok (.iinc 2 1, 3) := by decide +kernel
theorem dX10_init_153 : decode cX10_init 153 = .ok (.goto (-22), 3) := by decide +kernel
theorem dX10_init_156 : decode cX10_init 156 = .ok (.return_, 1) := by decide +kernel
theorem dX10_draft_0 : decode cX10_draft 0 = .ok (.iload_n 1, 1) := by decide +kernel
theorem dX10_draft_1 : decode cX10_draft 1 = .ok (.iconst 0, 1) := by decide +kernel
theorem dX10_draft_2 : decode cX10_draft 2 = .ok (.bipush 9, 2) := by decide +kernel
theorem dX10_draft_4 : decode cX10_draft 4 = .ok (.invokestatic 88, 3) := by decide +kernel
theorem dX10_draft_7 : decode cX10_draft 7 = .ok (.aload_n 0, 1) := by decide +kernel
theorem dX10_draft_8 : decode cX10_draft 8 = .ok (.getfield 54, 3) := by decide +kernel
theorem dX10_draft_11 : decode cX10_draft 11 = .ok (.bipush 12, 2) := by decide +kernel
theorem dX10_draft_13 : decode cX10_draft 13 = .ok (.if_icmp .lt 13, 3) := by decide +kernel
theorem dX10_draft_16 : decode cX10_draft 16 = .ok (.new 92, 3) := by decide +kernel
theorem dX10_draft_19 : decode cX10_draft 19 = .ok (.dup, 1) := by decide +kernel
theorem dX10_draft_20 : decode cX10_draft 20 = .ok (.ldc 94, 2) := by decide +kernel
theorem dX10_draft_22 : decode cX10_draft 22 = .ok (.invokespecial 96, 3) := by decide +kernel
theorem dX10_draft_25 : decode cX10_draft 25 = .ok (.athrow, 1) := by decide +kernel
theorem dX10_draft_26 : decode cX10_draft 26 = .ok (.aload_n 0, 1) := by decide +kernel
theorem dX10_draft_27 : decode cX10_draft 27 = .ok (.getfield 9, 3) := by decide +kernel
theorem dX10_draft_30 : decode cX10_draft 30 = .ok (.aload_n 0, 1) := by decide +kernel
theorem dX10_draft_31 : decode cX10_draft 31 = .ok (.getfield 54, 3) := by decide +kernel
theorem dX10_draft_34 : decode cX10_draft 34 = .ok (.iload_n 1, 1) := by decide +kernel
theorem dX10_draft_35 : decode cX10_draft 35 = .ok (.iastore, 1) := by decide +kernel
theorem dX10_draft_36 : decode cX10_draft 36 = .ok (.aload_n 0, 1) := by decide +kernel
theorem dX10_draft_37 : decode cX10_draft 37 = .ok (.dup, 1) := by decide +kernel
theorem dX10_draft_38 : decode cX10_draft 38 = .ok (.getfield 54, 3) := by decide +kernel
theorem dX10_draft_41 : decode cX10_draft 41 = .ok (.iconst 1, 1) := by decide +kernel
theorem dX10_draft_42 : decode cX10_draft 42 = .ok (.iadd, 1) := by decide +kernel
theorem dX10_draft_43 : decode cX10_draft 43 = .ok (.putfield 54, 3) := by decide +kernel
theorem dX10_draft_46 : decode cX10_draft 46 = .ok (.aload_n 0, 1) := by decide +kernel
theorem dX10_draft_47 : decode cX10_draft 47 = .ok (.getfield 54, 3) := by decide +kernel
theorem dX10_draft_50 : decode cX10_draft 50 = .ok (.ireturn, 1) := by decide +kernel
theorem dX10_write_0 : decode cX10_write 0 = .ok (.iload_n 1, 1) := by decide +kernel
theorem dX10_write_1 : decode cX10_write 1 = .ok (.iconst 3, 1) := by decide +kernel
theorem dX10_write_2 : decode cX10_write 2 = .ok (.invokestatic 99, 3) := by decide +kernel
theorem dX10_write_5 : decode cX10_write 5 = .ok (.iload_n 2, 1) := by decide +kernel
theorem dX10_write_6 : decode cX10_write 6 = .ok (.bipush 16, 2) := by decide +kernel
theorem dX10_write_8 : decode cX10_write 8 = .ok (.invokestatic 99, 3) := by decide +kernel
theorem dX10_write_11 : decode cX10_write 11 = .ok (.aload_n 0, 1) := by decide +kernel
theorem dX10_write_12 : decode cX10_write 12 = .ok (.getfield 54, 3) := by decide +kernel
theorem dX10_write_15 : decode cX10_write 15 = .ok (.ifCond .ne 13, 3) := by decide +kernel
theorem dX10_write_18 : decode cX10_write 18 = .ok (.new 92, 3) := by decide +kernel
theorem dX10_write_21 : decode cX10_write 21 = .ok (.dup, 1) := by decide +kernel
theorem dX10_write_22 : decode cX10_write 22 = .ok (.ldc 103, 2) := by decide +kernel
theorem dX10_write_24 : decode cX10_write 24 = .ok (.invokespecial 96, 3) := by decide +kernel
theorem dX10_write_27 : decode cX10_write 27 = .ok (.athrow, 1) := by decide +kernel
theorem dX10_write_28 : decode cX10_write 28 = .ok (.aload_n 0, 1) := by decide +kernel
theorem dX10_write_29 : decode cX10_write 29 = .ok (.getfield 15, 3) := by decide +kernel
theorem dX10_write_32 : decode cX10_write 32 = .ok (.iload_n 1, 1) := by decide +kernel
theorem dX10_write_33 : decode cX10_write 33 = .ok (.aaload, 1) := by decide +kernel
theorem dX10_write_34 : decode cX10_write 34 = .ok (.getfield 105, 3) := by decide +kernel
theorem dX10_write_37 : decode cX10_write 37 = .ok (.iload_n 2, 1) := by decide +kernel
theorem dX10_write_38 : decode cX10_write 38 = .ok (.aaload, 1) := by decide +kernel
theorem dX10_write_39 : decode cX10_write 39 = .ok (.astore_n 3, 1) := by decide +kernel
theorem dX10_write_40 : decode cX10_write 40 = .ok (.aload_n 3, 1) := by decide +kernel
theorem dX10_write_41 : decode cX10_write 41 = .ok (.getfield 109, 3) := by decide +kernel
theorem dX10_write_44 : decode cX10_write 44 = .ok (.ifCond .ne 9, 3) := by decide +kernel
theorem dX10_write_47 : decode cX10_write 47 = .ok (.iload_n 2, 1) := by decide +kernel
theorem dX10_write_48 : decode cX10_write 48 = .ok (.iconst 4, 1) := by decide +kernel
theorem dX10_write_49 : decode cX10_write 49 = .ok (.irem, 1) := by decide +kernel
theorem dX10_write_50 : decode cX10_write 50 = .ok (.goto 7, 3) := by decide +kernel
theorem dX10_write_53 : decode cX10_write 53 = .ok (.aload_n 3, 1) := by decide +kernel
theorem dX10_write_54 : decode cX10_write 54 = .ok (.getfield 114, 3) := by decide +kernel
theorem dX10_write_57 : decode cX10_write 57 = .ok (.istore 4, 2) := by decide +kernel
theorem dX10_write_59 : decode cX10_write 59 = .ok (.aload_n 0, 1) := by decide +kernel
theorem dX10_write_60 : decode cX10_write 60 = .ok (.getfield 54, 3) := by decide +kernel
theorem dX10_write_63 : decode cX10_write 63 = .ok (.istore 5, 2) := by decide +kernel
theorem dX10_write_65 : decode cX10_write 65 = .ok (.aload_n 3, 1) := by decide +kernel
theorem dX10_write_66 : decode cX10_write 66 = .ok (.iload 4, 2) := by decide +kernel
theorem dX10_write_68 : decode cX10_write 68 = .ok (.new 73, 3) := by decide +kernel
theorem dX10_write_71 : decode cX10_write 71 = .ok (.dup, 1) := by decide +kernel
theorem dX10_write_72 : decode cX10_write 72 = .ok (.aload_n 0, 1) := by decide +kernel
theorem dX10_write_73 : decode cX10_write 73 = .ok (.getfield 9, 3) := by decide +kernel
theorem dX10_write_76 : decode cX10_write 76 = .ok (.iload 5, 2) := by decide +kernel
theorem dX10_write_78 : decode cX10_write 78 = .ok (.invokespecial 75, 3) := by decide +kernel
theorem dX10_write_81 : decode cX10_write 81 = .ok (.invokevirtual 117, 3) := by decide +kernel
theorem dX10_write_84 : decode cX10_write 84 = .ok (.aload_n 0, 1) := by decide +kernel
theorem dX10_write_85 : decode cX10_write 85 = .ok (.iconst 0, 1) := by decide +kernel
theorem dX10_write_86 : decode cX10_write 86 = .ok (.putfield 54, 3) := by decide +kernel
theorem dX10_write_89 : decode cX10_write 89 = .ok (.aload_n 0, 1) := by decide +kernel
theorem dX10_write_90 : decode cX10_write 90 = .ok (.iload_n 1, 1) := by decide +kernel
theorem dX10_write_91 : decode cX10_write 91 = .ok (.iload_n 2, 1) := by decide +kernel
theorem dX10_write_92 : decode cX10_write 92 = .ok (.invokevirtual 121, 3) := by decide +kernel
theorem dX10_write_95 : decode cX10_write 95 = .ok (.iload 5, 2) := by decide +kernel
theorem dX10_write_97 : decode cX10_write 97 = .ok (.ireturn, 1) := by decide +kernel
theorem dX10_move_0 : decode cX10_move 0 = .ok (.iload_n 1, 1) := by decide +kernel
theorem dX10_move_1 : decode cX10_move 1 = .ok (.iconst 3, 1) := by decide +kernel
theorem dX10_move_2 : decode cX10_move 2 = .ok (.invokestatic 99, 3) := by decide +kernel
theorem dX10_move_5 : decode cX10_move 5 = .ok (.iload_n 2, 1) := by decide +kernel
theorem dX10_move_6 : decode cX10_move 6 = .ok (.bipush 16, 2) := by decide +kernel
theorem dX10_move_8 : decode cX10_move 8 = .ok (.invokestatic 99, 3) := by decide +kernel
theorem dX10_move_11 : decode cX10_move 11 = .ok (.iload_n 3, 1) := by decide +kernel
theorem dX10_move_12 : decode cX10_move 12 = .ok (.iconst 4, 1) := by decide +kernel
theorem dX10_move_13 : decode cX10_move 13 = .ok (.invokestatic 99, 3) := by decide +kernel
theorem dX10_move_16 : decode cX10_move 16 = .ok (.aload_n 0, 1) := by decide +kernel
theorem dX10_move_17 : decode cX10_move 17 = .ok (.getfield 15, 3) := by decide +kernel
theorem dX10_move_20 : decode cX10_move 20 = .ok (.iload_n 1, 1) := by decide +kernel
theorem dX10_move_21 : decode cX10_move 21 = .ok (.aaload, 1) := by decide +kernel
theorem dX10_move_22 : decode cX10_move 22 = .ok (.getfield 105, 3) := by decide +kernel
theorem dX10_move_25 : decode cX10_move 25 = .ok (.iload_n 2, 1) := by decide +kernel
theorem dX10_move_26 : decode cX10_move 26 = .ok (.aaload, 1) := by decide +kernel
theorem dX10_move_27 : decode cX10_move 27 = .ok (.astore 4, 2) := by decide +kernel
theorem dX10_move_29 : decode cX10_move 29 = .ok (.aload 4, 2) := by decide +kernel
theorem dX10_move_31 : decode cX10_move 31 = .ok (.getfield 109, 3) := by decide +kernel
theorem dX10_move_34 : decode cX10_move 34 = .ok (.iconst 2, 1) := by decide +kernel
theorem dX10_move_35 : decode cX10_move 35 = .ok (.if_icmp .eq 13, 3) := by decide +kernel
theorem dX10_move_38 : decode cX10_move 38 = .ok (.new 92, 3) := by decide +kernel
theorem dX10_move_41 : decode cX10_move 41 = .ok (.dup, 1) := by decide +kernel
theorem dX10_move_42 : decode cX10_move 42 = .ok (.ldc 124, 2) := by decide +kernel
theorem dX10_move_44 : decode cX10_move 44 = .ok (.invokespecial 96, 3) := by decide +kernel
theorem dX10_move_47 : decode cX10_move 47 = .ok (.athrow, 1) := by decide +kernel
theorem dX10_move_48 : decode cX10_move 48 = .ok (.aload 4, 2) := by decide +kernel
theorem dX10_move_50 : decode cX10_move 50 = .ok (.getfield 114, 3) := by decide +kernel
theorem dX10_move_53 : decode cX10_move 53 = .ok (.istore 5, 2) := by decide +kernel
theorem dX10_move_55 : decode cX10_move 55 = .ok (.aload 4, 2) := by decide +kernel
theorem dX10_move_57 : decode cX10_move 57 = .ok (.iload_n 3, 1) := by decide +kernel
theorem dX10_move_58 : decode cX10_move 58 = .ok (.putfield 114, 3) := by decide +kernel
theorem dX10_move_61 : decode cX10_move 61 = .ok (.aload_n 0, 1) := by decide +kernel
theorem dX10_move_62 : decode cX10_move 62 = .ok (.iload_n 1, 1) := by decide +kernel
theorem dX10_move_63 : decode cX10_move 63 = .ok (.iload_n 2, 1) := by decide +kernel
theorem dX10_move_64 : decode cX10_move 64 = .ok (.invokevirtual 121, 3) := by decide +kernel
theorem dX10_move_67 : decode cX10_move 67 = .ok (.iload 5, 2) := by decide +kernel
theorem dX10_move_69 : decode cX10_move 69 = .ok (.ireturn, 1) := by decide +kernel
theorem dX10_erase_0 : decode cX10_erase 0 = .ok (.iload_n 1, 1) := by decide +kernel
theorem dX10_erase_1 : decode cX10_erase 1 = .ok (.iconst 3, 1) := by decide +kernel
theorem dX10_erase_2 : decode cX10_erase 2 = .ok (.invokestatic 99, 3) := by decide +kernel
theorem dX10_erase_5 : decode cX10_erase 5 = .ok (.iload_n 2, 1) := by decide +kernel
theorem dX10_erase_6 : decode cX10_erase 6 = .ok (.bipush 16, 2) := by decide +kernel
theorem dX10_erase_8 : decode cX10_erase 8 = .ok (.invokestatic 99, 3) := by decide +kernel
theorem dX10_erase_11 : decode cX10_erase 11 = .ok (.aload_n 0, 1) := by decide +kernel
theorem dX10_erase_12 : decode cX10_erase 12 = .ok (.getfield 15, 3) := by decide +kernel
theorem dX10_erase_15 : decode cX10_erase 15 = .ok (.iload_n 1, 1) := by decide +kernel
theorem dX10_erase_16 : decode cX10_erase 16 = .ok (.aaload, 1) := by decide +kernel
theorem dX10_erase_17 : decode cX10_erase 17 = .ok (.getfield 105, 3) := by decide +kernel
theorem dX10_erase_20 : decode cX10_erase 20 = .ok (.iload_n 2, 1) := by decide +kernel
theorem dX10_erase_21 : decode cX10_erase 21 = .ok (.aaload, 1) := by decide +kernel
theorem dX10_erase_22 : decode cX10_erase 22 = .ok (.astore_n 3, 1) := by decide +kernel
theorem dX10_erase_23 : decode cX10_erase 23 = .ok (.aload_n 3, 1) := by decide +kernel
theorem dX10_erase_24 : decode cX10_erase 24 = .ok (.getfield 109, 3) := by decide +kernel
theorem dX10_erase_27 : decode cX10_erase 27 = .ok (.istore 4, 2) := by decide +kernel
theorem dX10_erase_29 : decode cX10_erase 29 = .ok (.iload 4, 2) := by decide +kernel
theorem dX10_erase_31 : decode cX10_erase 31 = .ok (.ifCond .ne 13, 3) := by decide +kernel
theorem dX10_erase_34 : decode cX10_erase 34 = .ok (.new 92, 3) := by decide +kernel
theorem dX10_erase_37 : decode cX10_erase 37 = .ok (.dup, 1) := by decide +kernel
theorem dX10_erase_38 : decode cX10_erase 38 = .ok (.ldc 126, 2) := by decide +kernel
theorem dX10_erase_40 : decode cX10_erase 40 = .ok (.invokespecial 96, 3) := by decide +kernel
theorem dX10_erase_43 : decode cX10_erase 43 = .ok (.athrow, 1) := by decide +kernel
theorem dX10_erase_44 : decode cX10_erase 44 = .ok (.aload_n 3, 1) := by decide +kernel
theorem dX10_erase_45 : decode cX10_erase 45 = .ok (.invokevirtual 128, 3) := by decide +kernel
theorem dX10_erase_48 : decode cX10_erase 48 = .ok (.aload_n 0, 1) := by decide +kernel
theorem dX10_erase_49 : decode cX10_erase 49 = .ok (.iload_n 1, 1) := by decide +kernel
theorem dX10_erase_50 : decode cX10_erase 50 = .ok (.iload_n 2, 1) := by decide +kernel
theorem dX10_erase_51 : decode cX10_erase 51 = .ok (.invokevirtual 121, 3) := by decide +kernel
theorem dX10_erase_54 : decode cX10_erase 54 = .ok (.iload 4, 2) := by decide +kernel
theorem dX10_erase_56 : decode cX10_erase 56 = .ok (.ireturn, 1) := by decide +kernel
theorem dX10_late_0 : decode cX10_late 0 = .ok (.iload_n 1, 1) := by decide +kernel
theorem dX10_late_1 : decode cX10_late 1 = .ok (.iconst 3, 1) := by decide +kernel
theorem dX10_late_2 : decode cX10_late 2 = .ok (.invokestatic 99, 3) := by decide +kernel
theorem dX10_late_5 : decode cX10_late 5 = .ok (.iload_n 2, 1) := by decide +kernel
theorem dX10_late_6 : decode cX10_late 6 = .ok (.iconst 0, 1) := by decide +kernel
theorem dX10_late_7 : decode cX10_late 7 = .ok (.bipush 50, 2) := by decide +kernel
theorem dX10_late_9 : decode cX10_late 9 = .ok (.invokestatic 88, 3) := by decide +kernel
theorem dX10_late_12 : decode cX10_late 12 = .ok (.aload_n 0, 1) := by decide +kernel
theorem dX10_late_13 : decode cX10_late 13 = .ok (.getfield 15, 3) := by decide +kernel
theorem dX10_late_16 : decode cX10_late 16 = .ok (.iload_n 1, 1) := by decide +kernel
theorem dX10_late_17 : decode cX10_late 17 = .ok (.aaload, 1) := by decide +kernel
theorem dX10_late_18 : decode cX10_late 18 = .ok (.getfield 131, 3) := by decide +kernel
theorem dX10_late_21 : decode cX10_late 21 = .ok (.istore_n 3, 1) := by decide +kernel
theorem dX10_late_22 : decode cX10_late 22 = .ok (.aload_n 0, 1) := by decide +kernel
theorem dX10_late_23 : decode cX10_late 23 = .ok (.getfield 15, 3) := by decide +kernel
theorem dX10_late_26 : decode cX10_late 26 = .ok (.iload_n 1, 1) := by decide +kernel
theorem dX10_late_27 : decode cX10_late 27 = .ok (.aaload, 1) := by decide +kernel
theorem dX10_late_28 : decode cX10_late 28 = .ok (.iload_n 2, 1) := by decide +kernel
theorem dX10_late_29 : decode cX10_late 29 = .ok (.putfield 131, 3) := by decide +kernel
theorem dX10_late_32 : decode cX10_late 32 = .ok (.iload_n 3, 1) := by decide +kernel
theorem dX10_late_33 : decode cX10_late 33 = .ok (.ireturn, 1) := by decide +kernel
theorem dX10_lose_0 : decode cX10_lose 0 = .ok (.iload_n 1, 1) := by decide +kernel
theorem dX10_lose_1 : decode cX10_lose 1 = .ok (.iconst 3, 1) := by decide +kernel
theorem dX10_lose_2 : decode cX10_lose 2 = .ok (.invokestatic 99, 3) := by decide +kernel
theorem dX10_lose_5 : decode cX10_lose 5 = .ok (.aload_n 0, 1) := by decide +kernel
theorem dX10_lose_6 : decode cX10_lose 6 = .ok (.getfield 22, 3) := by decide +kernel
theorem dX10_lose_9 : decode cX10_lose 9 = .ok (.iload_n 1, 1) := by decide +kernel
theorem dX10_lose_10 : decode cX10_lose 10 = .ok (.invokevirtual 134, 3) := by decide +kernel
theorem dX10_lose_13 : decode cX10_lose 13 = .ok (.ireturn, 1) := by decide +kernel
theorem dX10_scan_0 : decode cX10_scan 0 = .ok (.iload_n 1, 1) := by decide +kernel
theorem dX10_scan_1 : decode cX10_scan 1 = .ok (.iconst 3, 1) := by decide +kernel
theorem dX10_scan_2 : decode cX10_scan 2 = .ok (.invokestatic 99, 3) := by decide +kernel
theorem dX10_scan_5 : decode cX10_scan 5 = .ok (.aload_n 0, 1) := by decide +kernel
theorem dX10_scan_6 : decode cX10_scan 6 = .ok (.getfield 15, 3) := by decide +kernel
theorem dX10_scan_9 : decode cX10_scan 9 = .ok (.iload_n 1, 1) := by decide +kernel
theorem dX10_scan_10 : decode cX10_scan 10 = .ok (.aaload, 1) := by decide +kernel
theorem dX10_scan_11 : decode cX10_scan 11 = .ok (.astore_n 2, 1) := by decide +kernel
theorem dX10_scan_12 : decode cX10_scan 12 = .ok (.aload_n 2, 1) := by decide +kernel
theorem dX10_scan_13 : decode cX10_scan 13 = .ok (.getfield 138, 3) := by decide +kernel
theorem dX10_scan_16 : decode cX10_scan 16 = .ok (.istore_n 3, 1) := by decide +kernel
theorem dX10_scan_17 : decode cX10_scan 17 = .ok (.iconst 0, 1) := by decide +kernel
theorem dX10_scan_18 : decode cX10_scan 18 = .ok (.istore 4, 2) := by decide +kernel
theorem dX10_scan_20 : decode cX10_scan 20 = .ok (.iload 4, 2) := by decide +kernel
theorem dX10_scan_22 : decode cX10_scan 22 = .ok (.bipush 16, 2) := by decide +kernel
theorem dX10_scan_24 : decode cX10_scan 24 = .ok (.if_icmp .ge 29, 3) := by decide +kernel
theorem dX10_scan_27 : decode cX10_scan 27 = .ok (.aload_n 0, 1) := by decide +kernel
theorem dX10_scan_28 : decode cX10_scan 28 = .ok (.aload_n 2, 1) := by decide +kernel
theorem dX10_scan_29 : decode cX10_scan 29 = .ok (.getfield 105, 3) := by decide +kernel
theorem dX10_scan_32 : decode cX10_scan 32 = .ok (.iload 4, 2) := by decide +kernel
theorem dX10_scan_34 : decode cX10_scan 34 = .ok (.aaload, 1) := by decide +kernel
theorem dX10_scan_35 : decode cX10_scan 35 = .ok (.invokevirtual 141, 3) := by decide +kernel
theorem dX10_scan_38 : decode cX10_scan 38 = .ok (.ifCond .eq 9, 3) := by decide +kernel
theorem dX10_scan_41 : decode cX10_scan 41 = .ok (.aload_n 2, 1) := by decide +kernel
theorem dX10_scan_42 : decode cX10_scan 42 = .ok (.iload 4, 2) := by decide +kernel
theorem dX10_scan_44 : decode cX10_scan 44 = .ok (.invokevirtual 145, 3) := by decide +kernel
theorem dX10_scan_47 : decode cX10_scan 47 = .ok (.iinc 4 1, 3) := by decide +kernel
theorem dX10_scan_50 : decode cX10_scan 50 = .ok (.goto (-30), 3) := by decide +kernel
theorem dX10_scan_53 : decode cX10_scan 53 = .ok (.aload_n 2, 1) := by decide +kernel
theorem dX10_scan_54 : decode cX10_scan 54 = .ok (.getfield 138, 3) := by decide +kernel
theorem dX10_scan_57 : decode cX10_scan 57 = .ok (.iload_n 3, 1) := by decide +kernel
theorem dX10_scan_58 : decode cX10_scan 58 = .ok (.isub, 1) := by decide +kernel
theorem dX10_scan_59 : decode cX10_scan 59 = .ok (.ireturn, 1) := by decide +kernel
theorem dX10_room_0 : decode cX10_room 0 = .ok (.iload_n 1, 1) := by decide +kernel
theorem dX10_room_1 : decode cX10_room 1 = .ok (.iconst 3, 1) := by decide +kernel
theorem dX10_room_2 : decode cX10_room 2 = .ok (.invokestatic 99, 3) := by decide +kernel
theorem dX10_room_5 : decode cX10_room 5 = .ok (.iload_n 2, 1) := by decide +kernel
theorem dX10_room_6 : decode cX10_room 6 = .ok (.iconst 0, 1) := by decide +kernel
theorem dX10_room_7 : decode cX10_room 7 = .ok (.sipush 200, 3) := by decide +kernel
theorem dX10_room_10 : decode cX10_room 10 = .ok (.invokestatic 88, 3) := by decide +kernel
theorem dX10_room_13 : decode cX10_room 13 = .ok (.aload_n 0, 1) := by decide +kernel
theorem dX10_room_14 : decode cX10_room 14 = .ok (.getfield 15, 3) := by decide +kernel
theorem dX10_room_17 : decode cX10_room 17 = .ok (.iload_n 1, 1) := by decide +kernel
theorem dX10_room_18 : decode cX10_room 18 = .ok (.aaload, 1) := by decide +kernel
theorem dX10_room_19 : decode cX10_room 19 = .ok (.getfield 149, 3) := by decide +kernel
theorem dX10_room_22 : decode cX10_room 22 = .ok (.istore_n 3, 1) := by decide +kernel
theorem dX10_room_23 : decode cX10_room 23 = .ok (.aload_n 0, 1) := by decide +kernel
theorem dX10_room_24 : decode cX10_room 24 = .ok (.getfield 15, 3) := by decide +kernel
theorem dX10_room_27 : decode cX10_room 27 = .ok (.iload_n 1, 1) := by decide +kernel
theorem dX10_room_28 : decode cX10_room 28 = .ok (.aaload, 1) := by decide +kernel
theorem dX10_room_29 : decode cX10_room 29 = .ok (.iload_n 2, 1) := by decide +kernel
theorem dX10_room_30 : decode cX10_room 30 = .ok (.putfield 149, 3) := by decide +kernel
theorem dX10_room_33 : decode cX10_room 33 = .ok (.iload_n 3, 1) := by decide +kernel
theorem dX10_room_34 : decode cX10_room 34 = .ok (.ireturn, 1) := by decide +kernel
theorem dX10_pin_0 : decode cX10_pin 0 = .ok (.iload_n 1, 1) := by decide +kernel
theorem dX10_pin_1 : decode cX10_pin 1 = .ok (.iconst 3, 1) := by decide +kernel
theorem dX10_pin_2 : decode cX10_pin 2 = .ok (.invokestatic 99, 3) := by decide +kernel
theorem dX10_pin_5 : decode cX10_pin 5 = .ok (.iload_n 2, 1) := by decide +kernel
theorem dX10_pin_6 : decode cX10_pin 6 = .ok (.bipush 16, 2) := by decide +kernel
theorem dX10_pin_8 : decode cX10_pin 8 = .ok (.invokestatic 99, 3) := by decide +kernel
theorem dX10_pin_11 : decode cX10_pin 11 = .ok (.aload_n 0, 1) := by decide +kernel
theorem dX10_pin_12 : decode cX10_pin 12 = .ok (.getfield 15, 3) := by decide +kernel
theorem dX10_pin_15 : decode cX10_pin 15 = .ok (.iload_n 1, 1) := by decide +kernel
theorem dX10_pin_16 : decode cX10_pin 16 = .ok (.aaload, 1) := by decide +kernel
theorem dX10_pin_17 : decode cX10_pin 17 = .ok (.getfield 105, 3) := by decide +kernel
theorem dX10_pin_20 : decode cX10_pin 20 = .ok (.iload_n 2, 1) := by decide +kernel
theorem dX10_pin_21 : decode cX10_pin 21 = .ok (.aaload, 1) := by decide +kernel
theorem dX10_pin_22 : decode cX10_pin 22 = .ok (.astore 4, 2) := by decide +kernel
theorem dX10_pin_24 : decode cX10_pin 24 = .ok (.aload 4, 2) := by decide +kernel
theorem dX10_pin_26 : decode cX10_pin 26 = .ok (.getfield 152, 3) := by decide +kernel
theorem dX10_pin_29 : decode cX10_pin 29 = .ok (.istore 5, 2) := by decide +kernel
theorem dX10_pin_31 : decode cX10_pin 31 = .ok (.aload 4, 2) := by decide +kernel
theorem dX10_pin_33 : decode cX10_pin 33 = .ok (.iload_n 3, 1) := by decide +kernel
theorem dX10_pin_34 : decode cX10_pin 34 = .ok (.putfield 152, 3) := by decide +kernel
theorem dX10_pin_37 : decode cX10_pin 37 = .ok (.iload 5, 2) := by decide +kernel
theorem dX10_pin_39 : decode cX10_pin 39 = .ok (.ireturn, 1) := by decide +kernel
theorem dX10_upload_0 : decode cX10_upload 0 = .ok (.iload_n 1, 1) := by decide +kernel
theorem dX10_upload_1 : decode cX10_upload 1 = .ok (.iconst 3, 1) := by decide +kernel
theorem dX10_upload_2 : decode cX10_upload 2 = .ok (.invokestatic 99, 3) := by decide +kernel
theorem dX10_upload_5 : decode cX10_upload 5 = .ok (.iload_n 2, 1) := by decide +kernel
theorem dX10_upload_6 : decode cX10_upload 6 = .ok (.iconst 0, 1) := by decide +kernel
theorem dX10_upload_7 : decode cX10_upload 7 = .ok (.bipush 100, 2) := by decide +kernel
theorem dX10_upload_9 : decode cX10_upload 9 = .ok (.invokestatic 88, 3) := by decide +kernel
theorem dX10_upload_12 : decode cX10_upload 12 = .ok (.aload_n 0, 1) := by decide +kernel
theorem dX10_upload_13 : decode cX10_upload 13 = .ok (.invokevirtual 156, 3) := by decide +kernel
theorem dX10_upload_16 : decode cX10_upload 16 = .ok (.aload_n 0, 1) := by decide +kernel
theorem dX10_upload_17 : decode cX10_upload 17 = .ok (.getfield 15, 3) := by decide +kernel
theorem dX10_upload_20 : decode cX10_upload 20 = .ok (.iload_n 1, 1) := by decide +kernel
theorem dX10_upload_21 : decode cX10_upload 21 = .ok (.aaload, 1) := by decide +kernel
theorem dX10_upload_22 : decode cX10_upload 22 = .ok (.astore_n 3, 1) := by decide +kernel
theorem dX10_upload_23 : decode cX10_upload 23 = .ok (.aload_n 0, 1) := by decide +kernel
theorem dX10_upload_24 : decode cX10_upload 24 = .ok (.getfield 83, 3) := by decide +kernel
theorem dX10_upload_27 : decode cX10_upload 27 = .ok (.getfield 159, 3) := by decide +kernel
theorem dX10_upload_30 : decode cX10_upload 30 = .ok (.istore 4, 2) := by decide +kernel
theorem dX10_upload_32 : decode cX10_upload 32 = .ok (.iload_n 2, 1) := by decide +kernel
theorem dX10_upload_33 : decode cX10_upload 33 = .ok (.istore 5, 2) := by decide +kernel
theorem dX10_upload_35 : decode cX10_upload 35 = .ok (.iconst 0, 1) := by decide +kernel
theorem dX10_upload_36 : decode cX10_upload 36 = .ok (.istore 6, 2) := by decide +kernel
theorem dX10_upload_38 : decode cX10_upload 38 = .ok (.iload 6, 2) := by decide +kernel
theorem dX10_upload_40 : decode cX10_upload 40 = .ok (.bipush 16, 2) := by decide +kernel
theorem dX10_upload_42 : decode cX10_upload 42 = .ok (.if_icmp .ge 90, 3) := by decide +kernel
theorem dX10_upload_45 : decode cX10_upload 45 = .ok (.aload_n 3, 1) := by decide +kernel
theorem dX10_upload_46 : decode cX10_upload 46 = .ok (.getfield 138, 3) := by decide +kernel
theorem dX10_upload_49 : decode cX10_upload 49 = .ok (.ifCond .le 83, 3) := by decide +kernel
theorem dX10_upload_52 : decode cX10_upload 52 = .ok (.aload_n 3, 1) := by decide +kernel
theorem dX10_upload_53 : decode cX10_upload 53 = .ok (.getfield 162, 3) := by decide +kernel
theorem dX10_upload_56 : decode cX10_upload 56 = .ok (.iconst 0, 1) := by decide +kernel
theorem dX10_upload_57 : decode cX10_upload 57 = .ok (.iaload, 1) := by decide +kernel
theorem dX10_upload_58 : decode cX10_upload 58 = .ok (.istore 7, 2) := by decide +kernel
theorem dX10_upload_60 : decode cX10_upload 60 = .ok (.aload_n 3, 1) := by decide +kernel
theorem dX10_upload_61 : decode cX10_upload 61 = .ok (.getfield 105, 3) := by decide +kernel
theorem dX10_upload_64 : decode cX10_upload 64 = .ok (.iload 7, 2) := by decide +kernel
theorem dX10_upload_66 : decode cX10_upload 66 = .ok (.aaload, 1) := by decide +kernel
theorem dX10_upload_67 : decode cX10_upload 67 = .ok (.astore 8, 2) := by decide +kernel
theorem dX10_upload_69 : decode cX10_upload 69 = .ok (.aload_n 0, 1) := by decide +kernel
theorem dX10_upload_70 : decode cX10_upload 70 = .ok (.aload 8, 2) := by decide +kernel
theorem dX10_upload_72 : decode cX10_upload 72 = .ok (.invokevirtual 141, 3) := by decide +kernel
theorem dX10_upload_75 : decode cX10_upload 75 = .ok (.ifCond .eq 47, 3) := by decide +kernel
theorem dX10_upload_78 : decode cX10_upload 78 = .ok (.iload 5, 2) := by decide +kernel
theorem dX10_upload_80 : decode cX10_upload 80 = .ok (.aload_n 0, 1) := by decide +kernel
theorem dX10_upload_81 : decode cX10_upload 81 = .ok (.getfield 29, 3) := by decide +kernel
theorem dX10_upload_84 : decode cX10_upload 84 = .ok (.aload 8, 2) := by decide +kernel
theorem dX10_upload_86 : decode cX10_upload 86 = .ok (.getfield 165, 3) := by decide +kernel
theorem dX10_upload_89 : decode cX10_upload 89 = .ok (.iload 5, 2) := by decide +kernel
theorem dX10_upload_91 : decode cX10_upload 91 = .ok (.invokevirtual 169, 3) := by decide +kernel
theorem dX10_upload_94 : decode cX10_upload 94 = .ok (.isub, 1) := by decide +kernel
theorem dX10_upload_95 : decode cX10_upload 95 = .ok (.istore 5, 2) := by decide +kernel
theorem dX10_upload_97 : decode cX10_upload 97 = .ok (.aload_n 0, 1) := by decide +kernel
theorem dX10_upload_98 : decode cX10_upload 98 = .ok (.getfield 29, 3) := by decide +kernel
theorem dX10_upload_101 : decode cX10_upload 101 = .ok (.aload 8, 2) := by decide +kernel
theorem dX10_upload_103 : decode cX10_upload 103 = .ok (.getfield 165, 3) := by decide +kernel
theorem dX10_upload_106 : decode cX10_upload 106 = .ok (.invokevirtual 173, 3) := by decide +kernel
theorem dX10_upload_109 : decode cX10_upload 109 = .ok (.ifCond .ne 6, 3) := by decide +kernel
theorem dX10_upload_112 : decode cX10_upload 112 = .ok (.goto 20, 3) := by decide +kernel
theorem dX10_upload_115 : decode cX10_upload 115 = .ok (.aload_n 0, 1) := by decide +kernel
theorem dX10_upload_116 : decode cX10_upload 116 = .ok (.iload_n 1, 1) := by decide +kernel
theorem dX10_upload_117 : decode cX10_upload 117 = .ok (.iload 7, 2) := by decide +kernel
theorem dX10_upload_119 : decode cX10_upload 119 = .ok (.invokevirtual 177, 3) := by decide +kernel
theorem dX10_upload_122 : decode cX10_upload 122 = .ok (.aload_n 3, 1) := by decide +kernel
theorem dX10_upload_123 : decode cX10_upload 123 = .ok (.invokevirtual 180, 3) := by decide +kernel
theorem dX10_upload_126 : decode cX10_upload 126 = .ok (.iinc 6 1, 3) := by decide +kernel
theorem dX10_upload_129 : decode cX10_upload 129 = .ok (.goto (-91), 3) := by decide +kernel
theorem dX10_upload_132 : decode cX10_upload 132 = .ok (.aload_n 0, 1) := by decide +kernel
theorem dX10_upload_133 : decode cX10_upload 133 = .ok (.getfield 83, 3) := by decide +kernel
theorem dX10_upload_136 : decode cX10_upload 136 = .ok (.getfield 159, 3) := by decide +kernel
theorem dX10_upload_139 : decode cX10_upload 139 = .ok (.iload 4, 2) := by decide +kernel
theorem dX10_upload_141 : decode cX10_upload 141 = .ok (.isub, 1) := by decide +kernel
theorem dX10_upload_142 : decode cX10_upload 142 = .ok (.ireturn, 1) := by decide +kernel
theorem dX10_pull_0 : decode cX10_pull 0 = .ok (.iload_n 1, 1) := by decide +kernel
theorem dX10_pull_1 : decode cX10_pull 1 = .ok (.iconst 3, 1) := by decide +kernel
theorem dX10_pull_2 : decode cX10_pull 2 = .ok (.invokestatic 99, 3) := by decide +kernel
theorem dX10_pull_5 : decode cX10_pull 5 = .ok (.iconst 0, 1) := by decide +kernel
theorem dX10_pull_6 : decode cX10_pull 6 = .ok (.istore_n 2, 1) := by decide +kernel
theorem dX10_pull_7 : decode cX10_pull 7 = .ok (.iconst 0, 1) := by decide +kernel
theorem dX10_pull_8 : decode cX10_pull 8 = .ok (.istore_n 3, 1) := by decide +kernel
theorem dX10_pull_9 : decode cX10_pull 9 = .ok (.iload_n 3, 1) := by decide +kernel
theorem dX10_pull_10 : decode cX10_pull 10 = .ok (.bipush 16, 2) := by decide +kernel
theorem dX10_pull_12 : decode cX10_pull 12 = .ok (.if_icmp .ge 93, 3) := by decide +kernel
theorem dX10_pull_15 : decode cX10_pull 15 = .ok (.aload_n 0, 1) := by decide +kernel
theorem dX10_pull_16 : decode cX10_pull 16 = .ok (.getfield 15, 3) := by decide +kernel
theorem dX10_pull_19 : decode cX10_pull 19 = .ok (.iload_n 1, 1) := by decide +kernel
theorem dX10_pull_20 : decode cX10_pull 20 = .ok (.aaload, 1) := by decide +kernel
theorem dX10_pull_21 : decode cX10_pull 21 = .ok (.getfield 105, 3) := by decide +kernel
theorem dX10_pull_24 : decode cX10_pull 24 = .ok (.iload_n 3, 1) := by decide +kernel
theorem dX10_pull_25 : decode cX10_pull 25 = .ok (.aaload, 1) := by decide +kernel
theorem dX10_pull_26 : decode cX10_pull 26 = .ok (.astore 4, 2) := by decide +kernel
theorem dX10_pull_28 : decode cX10_pull 28 = .ok (.aload_n 0, 1) := by decide +kernel
theorem dX10_pull_29 : decode cX10_pull 29 = .ok (.getfield 83, 3) := by decide +kernel
theorem dX10_pull_32 : decode cX10_pull 32 = .ok (.iload_n 3, 1) := by decide +kernel
theorem dX10_pull_33 : decode cX10_pull 33 = .ok (.invokevirtual 183, 3) := by decide +kernel
theorem dX10_pull_36 : decode cX10_pull 36 = .ok (.istore 5, 2) := by decide +kernel
theorem dX10_pull_38 : decode cX10_pull 38 = .ok (.iload 5, 2) := by decide +kernel
theorem dX10_pull_40 : decode cX10_pull 40 = .ok (.iconst (-1), 1) := by decide +kernel
theorem dX10_pull_41 : decode cX10_pull 41 = .ok (.if_icmp .eq 58, 3) := by decide +kernel
theorem dX10_pull_44 : decode cX10_pull 44 = .ok (.aload_n 0, 1) := by decide +kernel
theorem dX10_pull_45 : decode cX10_pull 45 = .ok (.aload 4, 2) := by decide +kernel
theorem dX10_pull_47 : decode cX10_pull 47 = .ok (.invokevirtual 141, 3) := by decide +kernel
theorem dX10_pull_50 : decode cX10_pull 50 = .ok (.ifCond .ne 49, 3) := by decide +kernel
theorem dX10_pull_53 : decode cX10_pull 53 = .ok (.aload_n 0, 1) := by decide +kernel
theorem dX10_pull_54 : decode cX10_pull 54 = .ok (.iload_n 1, 1) := by decide +kernel
theorem dX10_pull_55 : decode cX10_pull 55 = .ok (.aload 4, 2) := by decide +kernel
theorem dX10_pull_57 : decode cX10_pull 57 = .ok (.aload_n 0, 1) := by decide +kernel
theorem dX10_pull_58 : decode cX10_pull 58 = .ok (.getfield 83, 3) := by decide +kernel
theorem dX10_pull_61 : decode cX10_pull 61 = .ok (.iload 5, 2) := by decide +kernel
theorem dX10_pull_63 : decode cX10_pull 63 = .ok (.invokevirtual 186, 3) := by decide +kernel
theorem dX10_pull_66 : decode cX10_pull 66 = .ok (.invokevirtual 190, 3) := by decide +kernel
theorem dX10_pull_69 : decode cX10_pull 69 = .ok (.ifCond .eq 30, 3) := by decide +kernel
theorem dX10_pull_72 : decode cX10_pull 72 = .ok (.iload_n 2, 1) := by decide +kernel
theorem dX10_pull_73 : decode cX10_pull 73 = .ok (.aload 4, 2) := by decide +kernel
theorem dX10_pull_75 : decode cX10_pull 75 = .ok (.iload 5, 2) := by decide +kernel
theorem dX10_pull_77 : decode cX10_pull 77 = .ok (.aload_n 0, 1) := by decide +kernel
theorem dX10_pull_78 : decode cX10_pull 78 = .ok (.getfield 83, 3) := by decide +kernel
theorem dX10_pull_81 : decode cX10_pull 81 = .ok (.iload 5, 2) := by decide +kernel
theorem dX10_pull_83 : decode cX10_pull 83 = .ok (.invokevirtual 186, 3) := by decide +kernel
theorem dX10_pull_86 : decode cX10_pull 86 = .ok (.invokevirtual 194, 3) := by decide +kernel
theorem dX10_pull_89 : decode cX10_pull 89 = .ok (.ifCond .eq 7, 3) := by decide +kernel
theorem dX10_pull_92 : decode cX10_pull 92 = .ok (.iconst 1, 1) := by decide +kernel
theorem dX10_pull_93 : decode cX10_pull 93 = .ok (.goto 4, 3) := by decide +kernel
theorem dX10_pull_96 : decode cX10_pull 96 = .ok (.iconst 0, 1) := by decide +kernel
theorem dX10_pull_97 : decode cX10_pull 97 = .ok (.iadd, 1) := by decide +kernel
theorem dX10_pull_98 : decode cX10_pull 98 = .ok (.istore_n 2, 1) := by decide +kernel
theorem dX10_pull_99 : decode cX10_pull 99 = .ok (.iinc 3 1, 3) := by decide +kernel
theorem dX10_pull_102 : decode cX10_pull 102 = .ok (.goto (-93), 3) := by decide +kernel
theorem dX10_pull_105 : decode cX10_pull 105 = .ok (.iload_n 2, 1) := by decide +kernel
theorem dX10_pull_106 : decode cX10_pull 106 = .ok (.ireturn, 1) := by decide +kernel
theorem dX10_open_0 : decode cX10_open 0 = .ok (.iload_n 1, 1) := by decide +kernel
theorem dX10_open_1 : decode cX10_open 1 = .ok (.iconst 3, 1) := by decide +kernel
theorem dX10_open_2 : decode cX10_open 2 = .ok (.invokestatic 99, 3) := by decide +kernel
theorem dX10_open_5 : decode cX10_open 5 = .ok (.iload_n 2, 1) := by decide +kernel
theorem dX10_open_6 : decode cX10_open 6 = .ok (.bipush 16, 2) := by decide +kernel
theorem dX10_open_8 : decode cX10_open 8 = .ok (.invokestatic 99, 3) := by decide +kernel
theorem dX10_open_11 : decode cX10_open 11 = .ok (.aload_n 0, 1) := by decide +kernel
theorem dX10_open_12 : decode cX10_open 12 = .ok (.getfield 15, 3) := by decide +kernel
theorem dX10_open_15 : decode cX10_open 15 = .ok (.iload_n 1, 1) := by decide +kernel
theorem dX10_open_16 : decode cX10_open 16 = .ok (.aaload, 1) := by decide +kernel
theorem dX10_open_17 : decode cX10_open 17 = .ok (.getfield 105, 3) := by decide +kernel
theorem dX10_open_20 : decode cX10_open 20 = .ok (.iload_n 2, 1) := by decide +kernel
theorem dX10_open_21 : decode cX10_open 21 = .ok (.aaload, 1) := by decide +kernel
theorem dX10_open_22 : decode cX10_open 22 = .ok (.astore_n 3, 1) := by decide +kernel
theorem dX10_open_23 : decode cX10_open 23 = .ok (.aload_n 3, 1) := by decide +kernel
theorem dX10_open_24 : decode cX10_open 24 = .ok (.getfield 109, 3) := by decide +kernel
theorem dX10_open_27 : decode cX10_open 27 = .ok (.ifCond .eq 20, 3) := by decide +kernel
theorem dX10_open_30 : decode cX10_open 30 = .ok (.aload_n 3, 1) := by decide +kernel
theorem dX10_open_31 : decode cX10_open 31 = .ok (.getfield 109, 3) := by decide +kernel
theorem dX10_open_34 : decode cX10_open 34 = .ok (.iconst 1, 1) := by decide +kernel
theorem dX10_open_35 : decode cX10_open 35 = .ok (.if_icmp .ne 22, 3) := by decide +kernel
theorem dX10_open_38 : decode cX10_open 38 = .ok (.aload_n 0, 1) := by decide +kernel
theorem dX10_open_39 : decode cX10_open 39 = .ok (.iload_n 1, 1) := by decide +kernel
theorem dX10_open_40 : decode cX10_open 40 = .ok (.aload_n 3, 1) := by decide +kernel
theorem dX10_open_41 : decode cX10_open 41 = .ok (.invokevirtual 198, 3) := by decide +kernel
theorem dX10_open_44 : decode cX10_open 44 = .ok (.ifCond .ne 13, 3) := by decide +kernel
theorem dX10_open_47 : decode cX10_open 47 = .ok (.new 92, 3) := by decide +kernel
theorem dX10_open_50 : decode cX10_open 50 = .ok (.dup, 1) := by decide +kernel
theorem dX10_open_51 : decode cX10_open 51 = .ok (.ldc 202, 2) := by decide +kernel
theorem dX10_open_53 : decode cX10_open 53 = .ok (.invokespecial 96, 3) := by decide +kernel
theorem dX10_open_56 : decode cX10_open 56 = .ok (.athrow, 1) := by decide +kernel
theorem dX10_open_57 : decode cX10_open 57 = .ok (.aload_n 3, 1) := by decide +kernel
theorem dX10_open_58 : decode cX10_open 58 = .ok (.getfield 109, 3) := by decide +kernel
theorem dX10_open_61 : decode cX10_open 61 = .ok (.iconst 1, 1) := by decide +kernel
theorem dX10_open_62 : decode cX10_open 62 = .ok (.if_icmp .ne 25, 3) := by decide +kernel
theorem dX10_open_65 : decode cX10_open 65 = .ok (.aload_n 0, 1) := by decide +kernel
theorem dX10_open_66 : decode cX10_open 66 = .ok (.aload_n 0, 1) := by decide +kernel
theorem dX10_open_67 : decode cX10_open 67 = .ok (.getfield 15, 3) := by decide +kernel
theorem dX10_open_70 : decode cX10_open 70 = .ok (.iload_n 1, 1) := by decide +kernel
theorem dX10_open_71 : decode cX10_open 71 = .ok (.aaload, 1) := by decide +kernel
theorem dX10_open_72 : decode cX10_open 72 = .ok (.aload_n 3, 1) := by decide +kernel
theorem dX10_open_73 : decode cX10_open 73 = .ok (.getfield 165, 3) := by decide +kernel
theorem dX10_open_76 : decode cX10_open 76 = .ok (.getfield 204, 3) := by decide +kernel
theorem dX10_open_79 : decode cX10_open 79 = .ok (.invokevirtual 207, 3) := by decide +kernel
theorem dX10_open_82 : decode cX10_open 82 = .ok (.aload_n 3, 1) := by decide +kernel
theorem dX10_open_83 : decode cX10_open 83 = .ok (.iconst 2, 1) := by decide +kernel
theorem dX10_open_84 : decode cX10_open 84 = .ok (.putfield 109, 3) := by decide +kernel
theorem dX10_open_87 : decode cX10_open 87 = .ok (.aload_n 0, 1) := by decide +kernel
theorem dX10_open_88 : decode cX10_open 88 = .ok (.dup, 1) := by decide +kernel
theorem dX10_open_89 : decode cX10_open 89 = .ok (.getfield 61, 3) := by decide +kernel
theorem dX10_open_92 : decode cX10_open 92 = .ok (.iconst 1, 1) := by decide +kernel
theorem dX10_open_93 : decode cX10_open 93 = .ok (.iadd, 1) := by decide +kernel
theorem dX10_open_94 : decode cX10_open 94 = .ok (.putfield 61, 3) := by decide +kernel
theorem dX10_open_97 : decode cX10_open 97 = .ok (.aload_n 3, 1) := by decide +kernel
theorem dX10_open_98 : decode cX10_open 98 = .ok (.aload_n 0, 1) := by decide +kernel
theorem dX10_open_99 : decode cX10_open 99 = .ok (.getfield 61, 3) := by decide +kernel
theorem dX10_open_102 : decode cX10_open 102 = .ok (.putfield 211, 3) := by decide +kernel
theorem dX10_open_105 : decode cX10_open 105 = .ok (.aload_n 3, 1) := by decide +kernel
theorem dX10_open_106 : decode cX10_open 106 = .ok (.getfield 165, 3) := by decide +kernel
theorem dX10_open_109 : decode cX10_open 109 = .ok (.getfield 204, 3) := by decide +kernel
theorem dX10_open_112 : decode cX10_open 112 = .ok (.ireturn, 1) := by decide +kernel
theorem dX10_lock_0 : decode cX10_lock 0 = .ok (.iload_n 1, 1) := by decide +kernel
theorem dX10_lock_1 : decode cX10_lock 1 = .ok (.iconst 3, 1) := by decide +kernel
theorem dX10_lock_2 : decode cX10_lock 2 = .ok (.invokestatic 99, 3) := by decide +kernel
theorem dX10_lock_5 : decode cX10_lock 5 = .ok (.iload_n 2, 1) := by decide +kernel
theorem dX10_lock_6 : decode cX10_lock 6 = .ok (.bipush 16, 2) := by decide +kernel
theorem dX10_lock_8 : decode cX10_lock 8 = .ok (.invokestatic 99, 3) := by decide +kernel
theorem dX10_lock_11 : decode cX10_lock 11 = .ok (.iload_n 3, 1) := by decide +kernel
theorem dX10_lock_12 : decode cX10_lock 12 = .ok (.iconst 1, 1) := by decide +kernel
theorem dX10_lock_13 : decode cX10_lock 13 = .ok (.bipush 48, 2) := by decide +kernel
theorem dX10_lock_15 : decode cX10_lock 15 = .ok (.invokestatic 88, 3) := by decide +kernel
theorem dX10_lock_18 : decode cX10_lock 18 = .ok (.aload_n 0, 1) := by decide +kernel
theorem dX10_lock_19 : decode cX10_lock 19 = .ok (.iload_n 1, 1) := by decide +kernel
theorem dX10_lock_20 : decode cX10_lock 20 = .ok (.iload_n 2, 1) := by decide +kernel
theorem dX10_lock_21 : decode cX10_lock 21 = .ok (.invokevirtual 214, 3) := by decide +kernel
theorem dX10_lock_24 : decode cX10_lock 24 = .ok (.ifCond .eq 13, 3) := by decide +kernel
theorem dX10_lock_27 : decode cX10_lock 27 = .ok (.new 92, 3) := by decide +kernel
theorem dX10_lock_30 : decode cX10_lock 30 = .ok (.dup, 1) := by decide +kernel
theorem dX10_lock_31 : decode cX10_lock 31 = .ok (.ldc 218, 2) := by decide +kernel
theorem dX10_lock_33 : decode cX10_lock 33 = .ok (.invokespecial 96, 3) := by decide +kernel
theorem dX10_lock_36 : decode cX10_lock 36 = .ok (.athrow, 1) := by decide +kernel
theorem dX10_lock_37 : decode cX10_lock 37 = .ok (.aload_n 0, 1) := by decide +kernel
theorem dX10_lock_38 : decode cX10_lock 38 = .ok (.getfield 36, 3) := by decide +kernel
theorem dX10_lock_41 : decode cX10_lock 41 = .ok (.iload_n 2, 1) := by decide +kernel
theorem dX10_lock_42 : decode cX10_lock 42 = .ok (.iload_n 1, 1) := by decide +kernel
theorem dX10_lock_43 : decode cX10_lock 43 = .ok (.aload_n 0, 1) := by decide +kernel
theorem dX10_lock_44 : decode cX10_lock 44 = .ok (.getfield 58, 3) := by decide +kernel
theorem dX10_lock_47 : decode cX10_lock 47 = .ok (.iload_n 3, 1) := by decide +kernel
theorem dX10_lock_48 : decode cX10_lock 48 = .ok (.iadd, 1) := by decide +kernel
theorem dX10_lock_49 : decode cX10_lock 49 = .ok (.invokevirtual 220, 3) := by decide +kernel
theorem dX10_lock_52 : decode cX10_lock 52 = .ok (.aload_n 0, 1) := by decide +kernel
theorem dX10_lock_53 : decode cX10_lock 53 = .ok (.getfield 58, 3) := by decide +kernel
theorem dX10_lock_56 : decode cX10_lock 56 = .ok (.iload_n 3, 1) := by decide +kernel
theorem dX10_lock_57 : decode cX10_lock 57 = .ok (.iadd, 1) := by decide +kernel
theorem dX10_lock_58 : decode cX10_lock 58 = .ok (.ireturn, 1) := by decide +kernel
theorem dX10_breakLock_0 : decode cX10_breakLock 0 = .ok (.iload_n 1, 1) := by decide +kernel
theorem dX10_breakLock_1 : decode cX10_breakLock 1 = .ok (.bipush 16, 2) := by decide +kernel
theorem dX10_breakLock_3 : decode cX10_breakLock 3 = .ok (.invokestatic 99, 3) := by decide +kernel
theorem dX10_breakLock_6 : decode cX10_breakLock 6 = .ok (.aload_n 0, 1) := by decide +kernel
theorem dX10_breakLock_7 : decode cX10_breakLock 7 = .ok (.getfield 36, 3) := by decide +kernel
theorem dX10_breakLock_10 : decode cX10_breakLock 10 = .ok (.iload_n 1, 1) := by decide +kernel
theorem dX10_breakLock_11 : decode cX10_breakLock 11 = .ok (.aload_n 0, 1) := by decide +kernel
theorem dX10_breakLock_12 : decode cX10_breakLock 12 = .ok (.getfield 58, 3) := by decide +kernel
theorem dX10_breakLock_15 : decode cX10_breakLock 15 = .ok (.invokevirtual 223, 3) := by decide +kernel
theorem dX10_breakLock_18 : decode cX10_breakLock 18 = .ok (.istore_n 2, 1) := by decide +kernel
theorem dX10_breakLock_19 : decode cX10_breakLock 19 = .ok (.iload_n 2, 1) := by decide +kernel
theorem dX10_breakLock_20 : decode cX10_breakLock 20 = .ok (.iconst (-1), 1) := by decide +kernel
theorem dX10_breakLock_21 : decode cX10_breakLock 21 = .ok (.if_icmp .ne 13, 3) := by decide +kernel
theorem dX10_breakLock_24 : decode cX10_breakLock 24 = .ok (.new 92, 3) := by decide +kernel
theorem dX10_breakLock_27 : decode cX10_breakLock 27 = .ok (.dup, 1) := by decide +kernel
theorem dX10_breakLock_28 : decode cX10_breakLock 28 = .ok (.ldc 227, 2) := by decide +kernel
theorem dX10_breakLock_30 : decode cX10_breakLock 30 = .ok (.invokespecial 96, 3) := by decide +kernel
theorem dX10_breakLock_33 : decode cX10_breakLock 33 = .ok (.athrow, 1) := by decide +kernel
theorem dX10_breakLock_34 : decode cX10_breakLock 34 = .ok (.aload_n 0, 1) := by decide +kernel
theorem dX10_breakLock_35 : decode cX10_breakLock 35 = .ok (.getfield 36, 3) := by decide +kernel
theorem dX10_breakLock_38 : decode cX10_breakLock 38 = .ok (.iload_n 1, 1) := by decide +kernel
theorem dX10_breakLock_39 : decode cX10_breakLock 39 = .ok (.iconst (-1), 1) := by decide +kernel
theorem dX10_breakLock_40 : decode cX10_breakLock 40 = .ok (.aload_n 0, 1) := by decide +kernel
theorem dX10_breakLock_41 : decode cX10_breakLock 41 = .ok (.getfield 58, 3) := by decide +kernel
theorem dX10_breakLock_44 : decode cX10_breakLock 44 = .ok (.invokevirtual 220, 3) := by decide +kernel
theorem dX10_breakLock_47 : decode cX10_breakLock 47 = .ok (.iload_n 2, 1) := by decide +kernel
theorem dX10_breakLock_48 : decode cX10_breakLock 48 = .ok (.ireturn, 1) := by decide +kernel
theorem dX10_share_0 : decode cX10_share 0 = .ok (.iload_n 1, 1) := by decide +kernel
theorem dX10_share_1 : decode cX10_share 1 = .ok (.iconst 4, 1) := by decide +kernel
theorem dX10_share_2 : decode cX10_share 2 = .ok (.invokestatic 99, 3) := by decide +kernel
theorem dX10_share_5 : decode cX10_share 5 = .ok (.iload_n 2, 1) := by decide +kernel
theorem dX10_share_6 : decode cX10_share 6 = .ok (.iconst 3, 1) := by decide +kernel
theorem dX10_share_7 : decode cX10_share 7 = .ok (.invokestatic 99, 3) := by decide +kernel
theorem dX10_share_10 : decode cX10_share 10 = .ok (.iload_n 3, 1) := by decide +kernel
theorem dX10_share_11 : decode cX10_share 11 = .ok (.iconst 0, 1) := by decide +kernel
theorem dX10_share_12 : decode cX10_share 12 = .ok (.iconst 2, 1) := by decide +kernel
theorem dX10_share_13 : decode cX10_share 13 = .ok (.invokestatic 88, 3) := by decide +kernel
theorem dX10_share_16 : decode cX10_share 16 = .ok (.iload 4, 2) := by decide +kernel
theorem dX10_share_18 : decode cX10_share 18 = .ok (.iconst 1, 1) := by decide +kernel
theorem dX10_share_19 : decode cX10_share 19 = .ok (.sipush 2000, 3) := by decide +kernel
theorem dX10_share_22 : decode cX10_share 22 = .ok (.invokestatic 88, 3) := by decide +kernel
theorem dX10_share_25 : decode cX10_share 25 = .ok (.aload_n 0, 1) := by decide +kernel
theorem dX10_share_26 : decode cX10_share 26 = .ok (.getfield 43, 3) := by decide +kernel
theorem dX10_share_29 : decode cX10_share 29 = .ok (.iload_n 1, 1) := by decide +kernel
theorem dX10_share_30 : decode cX10_share 30 = .ok (.iload_n 2, 1) := by decide +kernel
theorem dX10_share_31 : decode cX10_share 31 = .ok (.iload_n 3, 1) := by decide +kernel
theorem dX10_share_32 : decode cX10_share 32 = .ok (.aload_n 0, 1) := by decide +kernel
theorem dX10_share_33 : decode cX10_share 33 = .ok (.getfield 58, 3) := by decide +kernel
theorem dX10_share_36 : decode cX10_share 36 = .ok (.iload 4, 2) := by decide +kernel
theorem dX10_share_38 : decode cX10_share 38 = .ok (.iadd, 1) := by decide +kernel
theorem dX10_share_39 : decode cX10_share 39 = .ok (.invokevirtual 229, 3) := by decide +kernel
theorem dX10_share_42 : decode cX10_share 42 = .ok (.return_, 1) := by decide +kernel
theorem dX10_hold_0 : decode cX10_hold 0 = .ok (.iload_n 1, 1) := by decide +kernel
theorem dX10_hold_1 : decode cX10_hold 1 = .ok (.bipush 16, 2) := by decide +kernel
theorem dX10_hold_3 : decode cX10_hold 3 = .ok (.invokestatic 99, 3) := by decide +kernel
theorem dX10_hold_6 : decode cX10_hold 6 = .ok (.iload_n 2, 1) := by decide +kernel
theorem dX10_hold_7 : decode cX10_hold 7 = .ok (.iconst 0, 1) := by decide +kernel
theorem dX10_hold_8 : decode cX10_hold 8 = .ok (.sipush 2000, 3) := by decide +kernel
theorem dX10_hold_11 : decode cX10_hold 11 = .ok (.invokestatic 88, 3) := by decide +kernel
theorem dX10_hold_14 : decode cX10_hold 14 = .ok (.iload_n 3, 1) := by decide +kernel
theorem dX10_hold_15 : decode cX10_hold 15 = .ok (.iload_n 2, 1) := by decide +kernel
theorem dX10_hold_16 : decode cX10_hold 16 = .ok (.sipush 2000, 3) := by decide +kernel
theorem dX10_hold_19 : decode cX10_hold 19 = .ok (.invokestatic 88, 3) := by decide +kernel
theorem dX10_hold_22 : decode cX10_hold 22 = .ok (.aload_n 0, 1) := by decide +kernel
theorem dX10_hold_23 : decode cX10_hold 23 = .ok (.getfield 50, 3) := by decide +kernel
theorem dX10_hold_26 : decode cX10_hold 26 = .ok (.getfield 233, 3) := by decide +kernel
theorem dX10_hold_29 : decode cX10_hold 29 = .ok (.bipush 10, 2) := by decide +kernel
theorem dX10_hold_31 : decode cX10_hold 31 = .ok (.if_icmp .lt 13, 3) := by decide +kernel
theorem dX10_hold_34 : decode cX10_hold 34 = .ok (.new 92, 3) := by decide +kernel
theorem dX10_hold_37 : decode cX10_hold 37 = .ok (.dup, 1) := by decide +kernel
theorem dX10_hold_38 : decode cX10_hold 38 = .ok (.ldc 236, 2) := by decide +kernel
theorem dX10_hold_40 : decode cX10_hold 40 = .ok (.invokespecial 96, 3) := by decide +kernel
theorem dX10_hold_43 : decode cX10_hold 43 = .ok (.athrow, 1) := by decide +kernel
theorem dX10_hold_44 : decode cX10_hold 44 = .ok (.aload_n 0, 1) := by decide +kernel
theorem dX10_hold_45 : decode cX10_hold 45 = .ok (.getfield 50, 3) := by decide +kernel
theorem dX10_hold_48 : decode cX10_hold 48 = .ok (.iload_n 1, 1) := by decide +kernel
theorem dX10_hold_49 : decode cX10_hold 49 = .ok (.iload_n 2, 1) := by decide +kernel
theorem dX10_hold_50 : decode cX10_hold 50 = .ok (.iload_n 3, 1) := by decide +kernel
theorem dX10_hold_51 : decode cX10_hold 51 = .ok (.invokevirtual 238, 3) := by decide +kernel
theorem dX10_hold_54 : decode cX10_hold 54 = .ok (.aload_n 0, 1) := by decide +kernel
theorem dX10_hold_55 : decode cX10_hold 55 = .ok (.getfield 50, 3) := by decide +kernel
theorem dX10_hold_58 : decode cX10_hold 58 = .ok (.getfield 233, 3) := by decide +kernel
theorem dX10_hold_61 : decode cX10_hold 61 = .ok (.ireturn, 1) := by decide +kernel
theorem dX10_release_0 : decode cX10_release 0 = .ok (.aload_n 0, 1) := by decide +kernel
theorem dX10_release_1 : decode cX10_release 1 = .ok (.getfield 50, 3) := by decide +kernel
theorem dX10_release_4 : decode cX10_release 4 = .ok (.getfield 233, 3) := by decide +kernel
theorem dX10_release_7 : decode cX10_release 7 = .ok (.istore_n 1, 1) := by decide +kernel
theorem dX10_release_8 : decode cX10_release 8 = .ok (.aload_n 0, 1) := by decide +kernel
theorem dX10_release_9 : decode cX10_release 9 = .ok (.getfield 50, 3) := by decide +kernel
theorem dX10_release_12 : decode cX10_release 12 = .ok (.iconst 0, 1) := by decide +kernel
theorem dX10_release_13 : decode cX10_release 13 = .ok (.putfield 233, 3) := by decide +kernel
theorem dX10_release_16 : decode cX10_release 16 = .ok (.iload_n 1, 1) := by decide +kernel
theorem dX10_release_17 : decode cX10_release 17 = .ok (.ireturn, 1) := by decide +kernel
theorem dX10_thin_0 : decode cX10_thin 0 = .ok (.iconst 0, 1) := by decide +kernel
theorem dX10_thin_1 : decode cX10_thin 1 = .ok (.istore_n 1, 1) := by decide +kernel
theorem dX10_thin_2 : decode cX10_thin 2 = .ok (.iconst 0, 1) := by decide +kernel
theorem dX10_thin_3 : decode cX10_thin 3 = .ok (.istore_n 2, 1) := by decide +kernel
theorem dX10_thin_4 : decode cX10_thin 4 = .ok (.iload_n 2, 1) := by decide +kernel
theorem dX10_thin_5 : decode cX10_thin 5 = .ok (.aload_n 0, 1) := by decide +kernel
theorem dX10_thin_6 : decode cX10_thin 6 = .ok (.getfield 83, 3) := by decide +kernel
theorem dX10_thin_9 : decode cX10_thin 9 = .ok (.getfield 159, 3) := by decide +kernel
theorem dX10_thin_12 : decode cX10_thin 12 = .ok (.if_icmp .ge 42, 3) := by decide +kernel
theorem dX10_thin_15 : decode cX10_thin 15 = .ok (.aload_n 0, 1) := by decide +kernel
theorem dX10_thin_16 : decode cX10_thin 16 = .ok (.getfield 83, 3) := by decide +kernel
theorem dX10_thin_19 : decode cX10_thin 19 = .ok (.iload_n 2, 1) := by decide +kernel
theorem dX10_thin_20 : decode cX10_thin 20 = .ok (.invokevirtual 186, 3) := by decide +kernel
theorem dX10_thin_23 : decode cX10_thin 23 = .ok (.astore_n 3, 1) := by decide +kernel
theorem dX10_thin_24 : decode cX10_thin 24 = .ok (.aload_n 3, 1) := by decide +kernel
theorem dX10_thin_25 : decode cX10_thin 25 = .ok (.getfield 241, 3) := by decide +kernel
theorem dX10_thin_28 : decode cX10_thin 28 = .ok (.ifCond .eq 20, 3) := by decide +kernel
theorem dX10_thin_31 : decode cX10_thin 31 = .ok (.aload_n 0, 1) := by decide +kernel
theorem dX10_thin_32 : decode cX10_thin 32 = .ok (.iload_n 2, 1) := by decide +kernel
theorem dX10_thin_33 : decode cX10_thin 33 = .ok (.aload_n 3, 1) := by decide +kernel
theorem dX10_thin_34 : decode cX10_thin 34 = .ok (.invokevirtual 246, 3) := by decide +kernel
theorem dX10_thin_37 : decode cX10_thin 37 = .ok (.ifCond .eq 11, 3) := by decide +kernel
theorem dX10_thin_40 : decode cX10_thin 40 = .ok (.aload_n 3, 1) := by decide +kernel
theorem dX10_thin_41 : decode cX10_thin 41 = .ok (.iconst 0, 1) := by decide +kernel
theorem dX10_thin_42 : decode cX10_thin 42 = .ok (.putfield 241, 3) := by decide +kernel
theorem dX10_thin_45 : decode cX10_thin 45 = .ok (.iinc 1 1, 3) := by decide +kernel
theorem dX10_thin_48 : decode cX10_thin 48 = .ok (.iinc 2 1, 3) := by decide +kernel
theorem dX10_thin_51 : decode cX10_thin 51 = .ok (.goto (-47), 3) := by decide +kernel
theorem dX10_thin_54 : decode cX10_thin 54 = .ok (.aload_n 0, 1) := by decide +kernel
theorem dX10_thin_55 : decode cX10_thin 55 = .ok (.invokevirtual 249, 3) := by decide +kernel
theorem dX10_thin_58 : decode cX10_thin 58 = .ok (.iload_n 1, 1) := by decide +kernel
theorem dX10_thin_59 : decode cX10_thin 59 = .ok (.ireturn, 1) := by decide +kernel
theorem dX10_restore_0 : decode cX10_restore 0 = .ok (.iload_n 1, 1) := by decide +kernel
theorem dX10_restore_1 : decode cX10_restore 1 = .ok (.bipush 16, 2) := by decide +kernel
theorem dX10_restore_3 : decode cX10_restore 3 = .ok (.invokestatic 99, 3) := by decide +kernel
theorem dX10_restore_6 : decode cX10_restore 6 = .ok (.iload_n 2, 1) := by decide +kernel
theorem dX10_restore_7 : decode cX10_restore 7 = .ok (.iconst 0, 1) := by decide +kernel
theorem dX10_restore_8 : decode cX10_restore 8 = .ok (.aload_n 0, 1) := by decide +kernel
theorem dX10_restore_9 : decode cX10_restore 9 = .ok (.getfield 58, 3) := by decide +kernel
theorem dX10_restore_12 : decode cX10_restore 12 = .ok (.invokestatic 88, 3) := by decide +kernel
theorem dX10_restore_15 : decode cX10_restore 15 = .ok (.aload_n 0, 1) := by decide +kernel
theorem dX10_restore_16 : decode cX10_restore 16 = .ok (.invokevirtual 156, 3) := by decide +kernel
theorem dX10_restore_19 : decode cX10_restore 19 = .ok (.aload_n 0, 1) := by decide +kernel
theorem dX10_restore_20 : decode cX10_restore 20 = .ok (.iload_n 1, 1) := by decide +kernel
theorem dX10_restore_21 : decode cX10_restore 21 = .ok (.iload_n 2, 1) := by decide +kernel
theorem dX10_restore_22 : decode cX10_restore 22 = .ok (.invokevirtual 252, 3) := by decide +kernel
theorem dX10_restore_25 : decode cX10_restore 25 = .ok (.ireturn, 1) := by decide +kernel
theorem dX10_restoreFolder_0 : decode cX10_restoreFolder 0 = .ok (.iload_n 1, 1) := by decide +kernel
theorem dX10_restoreFolder_1 : decode cX10_restoreFolder 1 = .ok (.iconst 4, 1) := by decide +kernel
theorem dX10_restoreFolder_2 : decode cX10_restoreFolder 2 = .ok (.invokestatic 99, 3) := by decide +kernel
theorem dX10_restoreFolder_5 : decode cX10_restoreFolder 5 = .ok (.iload_n 2, 1) := by decide +kernel
theorem dX10_restoreFolder_6 : decode cX10_restoreFolder 6 = .ok (.iconst 0, 1) := by decide +kernel
theorem dX10_restoreFolder_7 : decode cX10_restoreFolder 7 = .ok (.aload_n 0, 1) := by decide +kernel
theorem dX10_restoreFolder_8 : decode cX10_restoreFolder 8 = .ok (.getfield 58, 3) := by decide +kernel
theorem dX10_restoreFolder_11 : decode cX10_restoreFolder 11 = .ok (.invokestatic 88, 3) := by decide +kernel
theorem dX10_restoreFolder_14 : decode cX10_restoreFolder 14 = .ok (.aload_n 0, 1) := by decide +kernel
theorem dX10_restoreFolder_15 : decode cX10_restoreFolder 15 = .ok (.invokevirtual 156, 3) := by decide +kernel
theorem dX10_restoreFolder_18 : decode cX10_restoreFolder 18 = .ok (.aload_n 0, 1) := by decide +kernel
theorem dX10_restoreFolder_19 : decode cX10_restoreFolder 19 = .ok (.getfield 83, 3) := by decide +kernel
theorem dX10_restoreFolder_22 : decode cX10_restoreFolder 22 = .ok (.getfield 159, 3) := by decide +kernel
theorem dX10_restoreFolder_25 : decode cX10_restoreFolder 25 = .ok (.istore_n 3, 1) := by decide +kernel
theorem dX10_restoreFolder_26 : decode cX10_restoreFolder 26 = .ok (.iconst 0, 1) := by decide +kernel
theorem dX10_restoreFolder_27 : decode cX10_restoreFolder 27 = .ok (.istore 4, 2) := by decide +kernel
theorem dX10_restoreFolder_29 : decode cX10_restoreFolder 29 = .ok (.iload 4, 2) := by decide +kernel
theorem dX10_restoreFolder_31 : decode cX10_restoreFolder 31 = .ok (.bipush 16, 2) := by decide +kernel
theorem dX10_restoreFolder_33 : decode cX10_restoreFolder 33 = .ok (.if_icmp .ge 72, 3) := by decide +kernel
theorem dX10_restoreFolder_36 : decode cX10_restoreFolder 36 = .ok (.aload_n 0, 1) := by decide +kernel
theorem dX10_restoreFolder_37 : decode cX10_restoreFolder 37 = .ok (.getfield 83, 3) := by decide +kernel
theorem dX10_restoreFolder_40 : decode cX10_restoreFolder 40 = .ok (.aload_n 0, 1) := by decide +kernel
theorem dX10_restoreFolder_41 : decode cX10_restoreFolder 41 = .ok (.getfield 83, 3) := by decide +kernel
theorem dX10_restoreFolder_44 : decode cX10_restoreFolder 44 = .ok (.iload 4, 2) := by decide +kernel
theorem dX10_restoreFolder_46 : decode cX10_restoreFolder 46 = .ok (.iload_n 2, 1) := by decide +kernel
theorem dX10_restoreFolder_47 : decode cX10_restoreFolder 47 = .ok (.invokevirtual 255, 3) := by decide +kernel
theorem dX10_restoreFolder_50 : decode cX10_restoreFolder 50 = .ok (.invokevirtual 186, 3) := by decide +kernel
theorem dX10_restoreFolder_53 : decode cX10_restoreFolder 53 = .ok (.getfield 258, 3) := by decide +kernel
theorem dX10_restoreFolder_56 : decode cX10_restoreFolder 56 = .ok (.istore 5, 2) := by decide +kernel
theorem dX10_restoreFolder_58 : decode cX10_restoreFolder 58 = .ok (.aload_n 0, 1) := by decide +kernel
theorem dX10_restoreFolder_59 : decode cX10_restoreFolder 59 = .ok (.getfield 83, 3) := by decide +kernel
theorem dX10_restoreFolder_62 : decode cX10_restoreFolder 62 = .ok (.aload_n 0, 1) := by decide +kernel
theorem dX10_restoreFolder_63 : decode cX10_restoreFolder 63 = .ok (.getfield 83, 3) := by decide +kernel
theorem dX10_restoreFolder_66 : decode cX10_restoreFolder 66 = .ok (.iload 4, 2) := by decide +kernel
theorem dX10_restoreFolder_68 : decode cX10_restoreFolder 68 = .ok (.invokevirtual 183, 3) := by decide +kernel
theorem dX10_restoreFolder_71 : decode cX10_restoreFolder 71 = .ok (.invokevirtual 186, 3) := by decide +kernel
theorem dX10_restoreFolder_74 : decode cX10_restoreFolder 74 = .ok (.getfield 258, 3) := by decide +kernel
theorem dX10_restoreFolder_77 : decode cX10_restoreFolder 77 = .ok (.istore 6, 2) := by decide +kernel
theorem dX10_restoreFolder_79 : decode cX10_restoreFolder 79 = .ok (.iload 5, 2) := by decide +kernel
theorem dX10_restoreFolder_81 : decode cX10_restoreFolder 81 = .ok (.iload_n 1, 1) := by decide +kernel
theorem dX10_restoreFolder_82 : decode cX10_restoreFolder 82 = .ok (.if_icmp .eq 9, 3) := by decide +kernel
theorem dX10_restoreFolder_85 : decode cX10_restoreFolder 85 = .ok (.iload 6, 2) := by decide +kernel
theorem dX10_restoreFolder_87 : decode cX10_restoreFolder 87 = .ok (.iload_n 1, 1) := by decide +kernel
theorem dX10_restoreFolder_88 : decode cX10_restoreFolder 88 = .ok (.if_icmp .ne 11, 3) := by decide +kernel
theorem dX10_restoreFolder_91 : decode cX10_restoreFolder 91 = .ok (.aload_n 0, 1) := by decide +kernel
theorem dX10_restoreFolder_92 : decode cX10_restoreFolder 92 = .ok (.iload 4, 2) := by decide +kernel
theorem dX10_restoreFolder_94 : decode cX10_restoreFolder 94 = .ok (.iload_n 2, 1) := by decide +kernel
theorem dX10_restoreFolder_95 : decode cX10_restoreFolder 95 = .ok (.invokevirtual 252, 3) := by decide +kernel
theorem dX10_restoreFolder_98 : decode cX10_restoreFolder 98 = .ok (.pop, 1) := by decide +kernel
theorem dX10_restoreFolder_99 : decode cX10_restoreFolder 99 = .ok (.iinc 4 1, 3) := by decide +kernel
theorem dX10_restoreFolder_102 : decode cX10_restoreFolder 102 = .ok (.goto (-73), 3) := by decide +kernel
theorem dX10_restoreFolder_105 : decode cX10_restoreFolder 105 = .ok (.aload_n 0, 1) := by decide +kernel
theorem dX10_restoreFolder_106 : decode cX10_restoreFolder 106 = .ok (.getfield 83, 3) := by decide +kernel
theorem dX10_restoreFolder_109 : decode cX10_restoreFolder 109 = .ok (.getfield 159, 3) := by decide +kernel
theorem dX10_restoreFolder_112 : decode cX10_restoreFolder 112 = .ok (.iload_n 3, 1) := by decide +kernel
theorem dX10_restoreFolder_113 : decode cX10_restoreFolder 113 = .ok (.isub, 1) := by decide +kernel
theorem dX10_restoreFolder_114 : decode cX10_restoreFolder 114 = .ok (.ireturn, 1) := by decide +kernel
theorem dX10_damage_0 : decode cX10_damage 0 = .ok (.iload_n 1, 1) := by decide +kernel
theorem dX10_damage_1 : decode cX10_damage 1 = .ok (.aload_n 0, 1) := by decide +kernel
theorem dX10_damage_2 : decode cX10_damage 2 = .ok (.getfield 29, 3) := by decide +kernel
theorem dX10_damage_5 : decode cX10_damage 5 = .ok (.getfield 259, 3) := by decide +kernel
theorem dX10_damage_8 : decode cX10_damage 8 = .ok (.invokestatic 99, 3) := by decide +kernel
theorem dX10_damage_11 : decode cX10_damage 11 = .ok (.aload_n 0, 1) := by decide +kernel
theorem dX10_damage_12 : decode cX10_damage 12 = .ok (.getfield 29, 3) := by decide +kernel
theorem dX10_damage_15 : decode cX10_damage 15 = .ok (.iload_n 1, 1) := by decide +kernel
theorem dX10_damage_16 : decode cX10_damage 16 = .ok (.invokevirtual 262, 3) := by decide +kernel
theorem dX10_damage_19 : decode cX10_damage 19 = .ok (.ireturn, 1) := by decide +kernel
theorem dX10_scrub_0 : decode cX10_scrub 0 = .ok (.aload_n 0, 1) := by decide +kernel
theorem dX10_scrub_1 : decode cX10_scrub 1 = .ok (.getfield 29, 3) := by decide +kernel
theorem dX10_scrub_4 : decode cX10_scrub 4 = .ok (.invokevirtual 265, 3) := by decide +kernel
theorem dX10_scrub_7 : decode cX10_scrub 7 = .ok (.ireturn, 1) := by decide +kernel
theorem dX10_follow_0 : decode cX10_follow 0 = .ok (.iload_n 1, 1) := by decide +kernel
theorem dX10_follow_1 : decode cX10_follow 1 = .ok (.iconst 1, 1) := by decide +kernel
theorem dX10_follow_2 : decode cX10_follow 2 = .ok (.bipush 120, 2) := by decide +kernel
theorem dX10_follow_4 : decode cX10_follow 4 = .ok (.invokestatic 88, 3) := by decide +kernel
theorem dX10_follow_7 : decode cX10_follow 7 = .ok (.iconst 0, 1) := by decide +kernel
theorem dX10_follow_8 : decode cX10_follow 8 = .ok (.istore_n 2, 1) := by decide +kernel
theorem dX10_follow_9 : decode cX10_follow 9 = .ok (.aload_n 0, 1) := by decide +kernel
theorem dX10_follow_10 : decode cX10_follow 10 = .ok (.getfield 70, 3) := by decide +kernel
theorem dX10_follow_13 : decode cX10_follow 13 = .ok (.aload_n 0, 1) := by decide +kernel
theorem dX10_follow_14 : decode cX10_follow 14 = .ok (.getfield 83, 3) := by decide +kernel
theorem dX10_follow_17 : decode cX10_follow 17 = .ok (.getfield 159, 3) := by decide +kernel
theorem dX10_follow_20 : decode cX10_follow 20 = .ok (.if_icmp .ge 54, 3) := by decide +kernel
theorem dX10_follow_23 : decode cX10_follow 23 = .ok (.iload_n 2, 1) := by decide +kernel
theorem dX10_follow_24 : decode cX10_follow 24 = .ok (.iload_n 1, 1) := by decide +kernel
theorem dX10_follow_25 : decode cX10_follow 25 = .ok (.if_icmp .ge 49, 3) := by decide +kernel
theorem dX10_follow_28 : decode cX10_follow 28 = .ok (.aload_n 0, 1) := by decide +kernel
theorem dX10_follow_29 : decode cX10_follow 29 = .ok (.getfield 83, 3) := by decide +kernel
theorem dX10_follow_32 : decode cX10_follow 32 = .ok (.aload_n 0, 1) := by decide +kernel
theorem dX10_follow_33 : decode cX10_follow 33 = .ok (.getfield 70, 3) := by decide +kernel
theorem dX10_follow_36 : decode cX10_follow 36 = .ok (.invokevirtual 186, 3) := by decide +kernel
theorem dX10_follow_39 : decode cX10_follow 39 = .ok (.astore_n 3, 1) := by decide +kernel
theorem dX10_follow_40 : decode cX10_follow 40 = .ok (.aload_n 3, 1) := by decide +kernel
theorem dX10_follow_41 : decode cX10_follow 41 = .ok (.getfield 241, 3) := by decide +kernel
theorem dX10_follow_44 : decode cX10_follow 44 = .ok (.ifCond .eq 17, 3) := by decide +kernel
theorem dX10_follow_47 : decode cX10_follow 47 = .ok (.aload_n 0, 1) := by decide +kernel
theorem dX10_follow_48 : decode cX10_follow 48 = .ok (.getfield 29, 3) := by decide +kernel
theorem dX10_follow_51 : decode cX10_follow 51 = .ok (.aload_n 3, 1) := by decide +kernel
theorem dX10_follow_52 : decode cX10_follow 52 = .ok (.getfield 269, 3) := by decide +kernel
theorem dX10_follow_55 : decode cX10_follow 55 = .ok (.invokevirtual 270, 3) := by decide +kernel
theorem dX10_follow_58 : decode cX10_follow 58 = .ok (.iinc 2 1, 3) := by decide +kernel
theorem dX10_follow_61 : decode cX10_follow 61 = .ok (.aload_n 0, 1) := by decide +kernel
theorem dX10_follow_62 : decode cX10_follow 62 = .ok (.dup, 1) := by decide +kernel
theorem dX10_follow_63 : decode cX10_follow 63 = .ok (.getfield 70, 3) := by decide +kernel
theorem dX10_follow_66 : decode cX10_follow 66 = .ok (.iconst 1, 1) := by decide +kernel
theorem dX10_follow_67 : decode cX10_follow 67 = .ok (.iadd, 1) := by decide +kernel
theorem dX10_follow_68 : decode cX10_follow 68 = .ok (.putfield 70, 3) := by decide +kernel
theorem dX10_follow_71 : decode cX10_follow 71 = .ok (.goto (-62), 3) := by decide +kernel
theorem dX10_follow_74 : decode cX10_follow 74 = .ok (.iload_n 2, 1) := by decide +kernel
theorem dX10_follow_75 : decode cX10_follow 75 = .ok (.ireturn, 1) := by decide +kernel
theorem dX10_pass_0 : decode cX10_pass 0 = .ok (.iload_n 1, 1) := by decide +kernel
theorem dX10_pass_1 : decode cX10_pass 1 = .ok (.iconst 1, 1) := by decide +kernel
theorem dX10_pass_2 : decode cX10_pass 2 = .ok (.bipush 100, 2) := by decide +kernel
theorem dX10_pass_4 : decode cX10_pass 4 = .ok (.invokestatic 88, 3) := by decide +kernel
theorem dX10_pass_7 : decode cX10_pass 7 = .ok (.aload_n 0, 1) := by decide +kernel
theorem dX10_pass_8 : decode cX10_pass 8 = .ok (.getfield 58, 3) := by decide +kernel
theorem dX10_pass_11 : decode cX10_pass 11 = .ok (.iload_n 1, 1) := by decide +kernel
theorem dX10_pass_12 : decode cX10_pass 12 = .ok (.iadd, 1) := by decide +kernel
theorem dX10_pass_13 : decode cX10_pass 13 = .ok (.sipush 2000, 3) := by decide +kernel
theorem dX10_pass_16 : decode cX10_pass 16 = .ok (.if_icmp .le 14, 3) := by decide +kernel
theorem dX10_pass_19 : decode cX10_pass 19 = .ok (.new 92, 3) := by decide +kernel
theorem dX10_pass_22 : decode cX10_pass 22 = .ok (.dup, 1) := by decide +kernel
theorem dX10_pass_23 : decode cX10_pass 23 = .ok (.ldc_w 273, 3) := by decide +kernel
theorem dX10_pass_26 : decode cX10_pass 26 = .ok (.invokespecial 96, 3) := by decide +kernel
theorem dX10_pass_29 : decode cX10_pass 29 = .ok (.athrow, 1) := by decide +kernel
theorem dX10_pass_30 : decode cX10_pass 30 = .ok (.aload_n 0, 1) := by decide +kernel
theorem dX10_pass_31 : decode cX10_pass 31 = .ok (.dup, 1) := by decide +kernel
theorem dX10_pass_32 : decode cX10_pass 32 = .ok (.getfield 58, 3) := by decide +kernel
theorem dX10_pass_35 : decode cX10_pass 35 = .ok (.iload_n 1, 1) := by decide +kernel
theorem dX10_pass_36 : decode cX10_pass 36 = .ok (.iadd, 1) := by decide +kernel
theorem dX10_pass_37 : decode cX10_pass 37 = .ok (.putfield 58, 3) := by decide +kernel
theorem dX10_pass_40 : decode cX10_pass 40 = .ok (.aload_n 0, 1) := by decide +kernel
theorem dX10_pass_41 : decode cX10_pass 41 = .ok (.getfield 22, 3) := by decide +kernel
theorem dX10_pass_44 : decode cX10_pass 44 = .ok (.aload_n 0, 1) := by decide +kernel
theorem dX10_pass_45 : decode cX10_pass 45 = .ok (.getfield 58, 3) := by decide +kernel
theorem dX10_pass_48 : decode cX10_pass 48 = .ok (.invokevirtual 275, 3) := by decide +kernel
theorem dX10_pass_51 : decode cX10_pass 51 = .ok (.istore_n 2, 1) := by decide +kernel
theorem dX10_pass_52 : decode cX10_pass 52 = .ok (.iconst 0, 1) := by decide +kernel
theorem dX10_pass_53 : decode cX10_pass 53 = .ok (.istore_n 3, 1) := by decide +kernel
theorem dX10_pass_54 : decode cX10_pass 54 = .ok (.iload_n 3, 1) := by decide +kernel
theorem dX10_pass_55 : decode cX10_pass 55 = .ok (.iload_n 2, 1) := by decide +kernel
theorem dX10_pass_56 : decode cX10_pass 56 = .ok (.if_icmp .ge 35, 3) := by decide +kernel
theorem dX10_pass_59 : decode cX10_pass 59 = .ok (.aload_n 0, 1) := by decide +kernel
theorem dX10_pass_60 : decode cX10_pass 60 = .ok (.getfield 15, 3) := by decide +kernel
theorem dX10_pass_63 : decode cX10_pass 63 = .ok (.aload_n 0, 1) := by decide +kernel
theorem dX10_pass_64 : decode cX10_pass 64 = .ok (.getfield 22, 3) := by decide +kernel
theorem dX10_pass_67 : decode cX10_pass 67 = .ok (.getfield 278, 3) := by decide +kernel
theorem dX10_pass_70 : decode cX10_pass 70 = .ok (.iload_n 3, 1) := by decide +kernel
theorem dX10_pass_71 : decode cX10_pass 71 = .ok (.iaload, 1) := by decide +kernel
theorem dX10_pass_72 : decode cX10_pass 72 = .ok (.aaload, 1) := by decide +kernel
theorem dX10_pass_73 : decode cX10_pass 73 = .ok (.aload_n 0, 1) := by decide +kernel
theorem dX10_pass_74 : decode cX10_pass 74 = .ok (.getfield 22, 3) := by decide +kernel
theorem dX10_pass_77 : decode cX10_pass 77 = .ok (.getfield 281, 3) := by decide +kernel
theorem dX10_pass_80 : decode cX10_pass 80 = .ok (.iload_n 3, 1) := by decide +kernel
theorem dX10_pass_81 : decode cX10_pass 81 = .ok (.iaload, 1) := by decide +kernel
theorem dX10_pass_82 : decode cX10_pass 82 = .ok (.invokevirtual 145, 3) := by decide +kernel
theorem dX10_pass_85 : decode cX10_pass 85 = .ok (.iinc 3 1, 3) := by decide +kernel
theorem dX10_pass_88 : decode cX10_pass 88 = .ok (.goto (-34), 3) := by decide +kernel
theorem dX10_pass_91 : decode cX10_pass 91 = .ok (.aload_n 0, 1) := by decide +kernel
theorem dX10_pass_92 : decode cX10_pass 92 = .ok (.getfield 22, 3) := by decide +kernel
theorem dX10_pass_95 : decode cX10_pass 95 = .ok (.iload_n 2, 1) := by decide +kernel
theorem dX10_pass_96 : decode cX10_pass 96 = .ok (.invokevirtual 284, 3) := by decide +kernel
theorem dX10_pass_99 : decode cX10_pass 99 = .ok (.aload_n 0, 1) := by decide +kernel
theorem dX10_pass_100 : decode cX10_pass 100 = .ok (.getfield 58, 3) := by decide +kernel
theorem dX10_pass_103 : decode cX10_pass 103 = .ok (.ireturn, 1) := by decide +kernel
theorem dX10_time_0 : decode cX10_time 0 = .ok (.aload_n 0, 1) := by decide +kernel
theorem dX10_time_1 : decode cX10_time 1 = .ok (.getfield 58, 3) := by decide +kernel
theorem dX10_time_4 : decode cX10_time 4 = .ok (.ireturn, 1) := by decide +kernel
theorem dX10_stateOf_0 : decode cX10_stateOf 0 = .ok (.iload_n 1, 1) := by decide +kernel
theorem dX10_stateOf_1 : decode cX10_stateOf 1 = .ok (.iconst 3, 1) := by decide +kernel
theorem dX10_stateOf_2 : decode cX10_stateOf 2 = .ok (.invokestatic 99, 3) := by decide +kernel
theorem dX10_stateOf_5 : decode cX10_stateOf 5 = .ok (.iload_n 2, 1) := by decide +kernel
theorem dX10_stateOf_6 : decode cX10_stateOf 6 = .ok (.bipush 16, 2) := by decide +kernel
theorem dX10_stateOf_8 : decode cX10_stateOf 8 = .ok (.invokestatic 99, 3) := by decide +kernel
theorem dX10_stateOf_11 : decode cX10_stateOf 11 = .ok (.aload_n 0, 1) := by decide +kernel
theorem dX10_stateOf_12 : decode cX10_stateOf 12 = .ok (.getfield 15, 3) := by decide +kernel
theorem dX10_stateOf_15 : decode cX10_stateOf 15 = .ok (.iload_n 1, 1) := by decide +kernel
theorem dX10_stateOf_16 : decode cX10_stateOf 16 = .ok (.aaload, 1) := by decide +kernel
theorem dX10_stateOf_17 : decode cX10_stateOf 17 = .ok (.getfield 105, 3) := by decide +kernel
theorem dX10_stateOf_20 : decode cX10_stateOf 20 = .ok (.iload_n 2, 1) := by decide +kernel
theorem dX10_stateOf_21 : decode cX10_stateOf 21 = .ok (.aaload, 1) := by decide +kernel
theorem dX10_stateOf_22 : decode cX10_stateOf 22 = .ok (.getfield 109, 3) := by decide +kernel
theorem dX10_stateOf_25 : decode cX10_stateOf 25 = .ok (.ireturn, 1) := by decide +kernel
theorem dX10_folderOf_0 : decode cX10_folderOf 0 = .ok (.iload_n 1, 1) := by decide +kernel
theorem dX10_folderOf_1 : decode cX10_folderOf 1 = .ok (.iconst 3, 1) := by decide +kernel
theorem dX10_folderOf_2 : decode cX10_folderOf 2 = .ok (.invokestatic 99, 3) := by decide +kernel
theorem dX10_folderOf_5 : decode cX10_folderOf 5 = .ok (.iload_n 2, 1) := by decide +kernel
theorem dX10_folderOf_6 : decode cX10_folderOf 6 = .ok (.bipush 16, 2) := by decide +kernel
theorem dX10_folderOf_8 : decode cX10_folderOf 8 = .ok (.invokestatic 99, 3) := by decide +kernel
theorem dX10_folderOf_11 : decode cX10_folderOf 11 = .ok (.aload_n 0, 1) := by decide +kernel
theorem dX10_folderOf_12 : decode cX10_folderOf 12 = .ok (.getfield 15, 3) := by decide +kernel
theorem dX10_folderOf_15 : decode cX10_folderOf 15 = .ok (.iload_n 1, 1) := by decide +kernel
theorem dX10_folderOf_16 : decode cX10_folderOf 16 = .ok (.aaload, 1) := by decide +kernel
theorem dX10_folderOf_17 : decode cX10_folderOf 17 = .ok (.getfield 105, 3) := by decide +kernel
theorem dX10_folderOf_20 : decode cX10_folderOf 20 = .ok (.iload_n 2, 1) := by decide +kernel
theorem dX10_folderOf_21 : decode cX10_folderOf 21 = .ok (.aaload, 1) := by decide +kernel
theorem dX10_folderOf_22 : decode cX10_folderOf 22 = .ok (.getfield 114, 3) := by decide +kernel
theorem dX10_folderOf_25 : decode cX10_folderOf 25 = .ok (.ireturn, 1) := by decide +kernel
theorem dX10_numberAt_0 : decode cX10_numberAt 0 = .ok (.iload_n 1, 1) := by decide +kernel
theorem dX10_numberAt_1 : decode cX10_numberAt 1 = .ok (.iconst 3, 1) := by decide +kernel
theorem dX10_numberAt_2 : decode cX10_numberAt 2 = .ok (.invokestatic 99, 3) := by decide +kernel
theorem dX10_numberAt_5 : decode cX10_numberAt 5 = .ok (.iload_n 2, 1) := by decide +kernel
theorem dX10_numberAt_6 : decode cX10_numberAt 6 = .ok (.bipush 16, 2) := by decide +kernel
theorem dX10_numberAt_8 : decode cX10_numberAt 8 = .ok (.invokestatic 99, 3) := by decide +kernel
theorem dX10_numberAt_11 : decode cX10_numberAt 11 = .ok (.iload_n 3, 1) := by decide +kernel
theorem dX10_numberAt_12 : decode cX10_numberAt 12 = .ok (.ifCond .ge 14, 3) := by decide +kernel
theorem dX10_numberAt_15 : decode cX10_numberAt 15 = .ok (.new 286, 3) := by decide +kernel
theorem dX10_numberAt_18 : decode cX10_numberAt 18 = .ok (.dup, 1) := by decide +kernel
theorem dX10_numberAt_19 : decode cX10_numberAt 19 = .ok (.ldc_w 288, 3) := by decide +kernel
theorem dX10_numberAt_22 : decode cX10_numberAt 22 = .ok (.invokespecial 290, 3) := by decide +kernel
theorem dX10_numberAt_25 : decode cX10_numberAt 25 = .ok (.athrow, 1) := by decide +kernel
theorem dX10_numberAt_26 : decode cX10_numberAt 26 = .ok (.aload_n 0, 1) := by decide +kernel
theorem dX10_numberAt_27 : decode cX10_numberAt 27 = .ok (.getfield 15, 3) := by decide +kernel
theorem dX10_numberAt_30 : decode cX10_numberAt 30 = .ok (.iload_n 1, 1) := by decide +kernel
theorem dX10_numberAt_31 : decode cX10_numberAt 31 = .ok (.aaload, 1) := by decide +kernel
theorem dX10_numberAt_32 : decode cX10_numberAt 32 = .ok (.getfield 105, 3) := by decide +kernel
theorem dX10_numberAt_35 : decode cX10_numberAt 35 = .ok (.iload_n 2, 1) := by decide +kernel
theorem dX10_numberAt_36 : decode cX10_numberAt 36 = .ok (.aaload, 1) := by decide +kernel
theorem dX10_numberAt_37 : decode cX10_numberAt 37 = .ok (.astore 4, 2) := by decide +kernel
theorem dX10_numberAt_39 : decode cX10_numberAt 39 = .ok (.aload 4, 2) := by decide +kernel
theorem dX10_numberAt_41 : decode cX10_numberAt 41 = .ok (.getfield 109, 3) := by decide +kernel
theorem dX10_numberAt_44 : decode cX10_numberAt 44 = .ok (.iconst 2, 1) := by decide +kernel
theorem dX10_numberAt_45 : decode cX10_numberAt 45 = .ok (.if_icmp .ne 15, 3) := by decide +kernel
theorem dX10_numberAt_48 : decode cX10_numberAt 48 = .ok (.aload 4, 2) := by decide +kernel
theorem dX10_numberAt_50 : decode cX10_numberAt 50 = .ok (.getfield 165, 3) := by decide +kernel
theorem dX10_numberAt_53 : decode cX10_numberAt 53 = .ok (.iload_n 3, 1) := by decide +kernel
theorem dX10_numberAt_54 : decode cX10_numberAt 54 = .ok (.invokevirtual 291, 3) := by decide +kernel
theorem dX10_numberAt_57 : decode cX10_numberAt 57 = .ok (.goto 4, 3) := by decide +kernel
theorem dX10_numberAt_60 : decode cX10_numberAt 60 = .ok (.iconst (-1), 1) := by decide +kernel
theorem dX10_numberAt_61 : decode cX10_numberAt 61 = .ok (.ireturn, 1) := by decide +kernel
theorem dX10_isChanged_0 : decode cX10_isChanged 0 = .ok (.iload_n 1, 1) := by decide +kernel
theorem dX10_isChanged_1 : decode cX10_isChanged 1 = .ok (.iconst 3, 1) := by decide +kernel
theorem dX10_isChanged_2 : decode cX10_isChanged 2 = .ok (.invokestatic 99, 3) := by decide +kernel
theorem dX10_isChanged_5 : decode cX10_isChanged 5 = .ok (.iload_n 2, 1) := by decide +kernel
theorem dX10_isChanged_6 : decode cX10_isChanged 6 = .ok (.bipush 16, 2) := by decide +kernel
theorem dX10_isChanged_8 : decode cX10_isChanged 8 = .ok (.invokestatic 99, 3) := by decide +kernel
theorem dX10_isChanged_11 : decode cX10_isChanged 11 = .ok (.aload_n 0, 1) := by decide +kernel
theorem dX10_isChanged_12 : decode cX10_isChanged 12 = .ok (.aload_n 0, 1) := by decide +kernel
theorem dX10_isChanged_13 : decode cX10_isChanged 13 = .ok (.getfield 15, 3) := by decide +kernel
theorem dX10_isChanged_16 : decode cX10_isChanged 16 = .ok (.iload_n 1, 1) := by decide +kernel
theorem dX10_isChanged_17 : decode cX10_isChanged 17 = .ok (.aaload, 1) := by decide +kernel
theorem dX10_isChanged_18 : decode cX10_isChanged 18 = .ok (.getfield 105, 3) := by decide +kernel
theorem dX10_isChanged_21 : decode cX10_isChanged 21 = .ok (.iload_n 2, 1) := by decide +kernel
theorem dX10_isChanged_22 : decode cX10_isChanged 22 = .ok (.aaload, 1) := by decide +kernel
theorem dX10_isChanged_23 : decode cX10_isChanged 23 = .ok (.invokevirtual 141, 3) := by decide +kernel
theorem dX10_isChanged_26 : decode cX10_isChanged 26 = .ok (.ireturn, 1) := by decide +kernel
theorem dX10_seen_0 : decode cX10_seen 0 = .ok (.iload_n 1, 1) := by decide +kernel
theorem dX10_seen_1 : decode cX10_seen 1 = .ok (.iconst 3, 1) := by decide +kernel
theorem dX10_seen_2 : decode cX10_seen 2 = .ok (.invokestatic 99, 3) := by decide +kernel
theorem dX10_seen_5 : decode cX10_seen 5 = .ok (.iload_n 2, 1) := by decide +kernel
theorem dX10_seen_6 : decode cX10_seen 6 = .ok (.bipush 16, 2) := by decide +kernel
theorem dX10_seen_8 : decode cX10_seen 8 = .ok (.invokestatic 99, 3) := by decide +kernel
theorem dX10_seen_11 : decode cX10_seen 11 = .ok (.aload_n 0, 1) := by decide +kernel
theorem dX10_seen_12 : decode cX10_seen 12 = .ok (.getfield 15, 3) := by decide +kernel
theorem dX10_seen_15 : decode cX10_seen 15 = .ok (.iload_n 1, 1) := by decide +kernel
theorem dX10_seen_16 : decode cX10_seen 16 = .ok (.aaload, 1) := by decide +kernel
theorem dX10_seen_17 : decode cX10_seen 17 = .ok (.getfield 105, 3) := by decide +kernel
theorem dX10_seen_20 : decode cX10_seen 20 = .ok (.iload_n 2, 1) := by decide +kernel
theorem dX10_seen_21 : decode cX10_seen 21 = .ok (.aaload, 1) := by decide +kernel
theorem dX10_seen_22 : decode cX10_seen 22 = .ok (.getfield 294, 3) := by decide +kernel
theorem dX10_seen_25 : decode cX10_seen 25 = .ok (.ireturn, 1) := by decide +kernel
theorem dX10_noted_0 : decode cX10_noted 0 = .ok (.iload_n 1, 1) := by decide +kernel
theorem dX10_noted_1 : decode cX10_noted 1 = .ok (.iconst 3, 1) := by decide +kernel
theorem dX10_noted_2 : decode cX10_noted 2 = .ok (.invokestatic 99, 3) := by decide +kernel
theorem dX10_noted_5 : decode cX10_noted 5 = .ok (.aload_n 0, 1) := by decide +kernel
theorem dX10_noted_6 : decode cX10_noted 6 = .ok (.getfield 15, 3) := by decide +kernel
theorem dX10_noted_9 : decode cX10_noted 9 = .ok (.iload_n 1, 1) := by decide +kernel
theorem dX10_noted_10 : decode cX10_noted 10 = .ok (.aaload, 1) := by decide +kernel
theorem dX10_noted_11 : decode cX10_noted 11 = .ok (.getfield 138, 3) := by decide +kernel
theorem dX10_noted_14 : decode cX10_noted 14 = .ok (.ireturn, 1) := by decide +kernel
theorem dX10_taken_0 : decode cX10_taken 0 = .ok (.iload_n 1, 1) := by decide +kernel
theorem dX10_taken_1 : decode cX10_taken 1 = .ok (.iconst 3, 1) := by decide +kernel
theorem dX10_taken_2 : decode cX10_taken 2 = .ok (.invokestatic 99, 3) := by decide +kernel
theorem dX10_taken_5 : decode cX10_taken 5 = .ok (.aload_n 0, 1) := by decide +kernel
theorem dX10_taken_6 : decode cX10_taken 6 = .ok (.getfield 15, 3) := by decide +kernel
theorem dX10_taken_9 : decode cX10_taken 9 = .ok (.iload_n 1, 1) := by decide +kernel
theorem dX10_taken_10 : decode cX10_taken 10 = .ok (.aaload, 1) := by decide +kernel
theorem dX10_taken_11 : decode cX10_taken 11 = .ok (.invokevirtual 297, 3) := by decide +kernel
theorem dX10_taken_14 : decode cX10_taken 14 = .ok (.ireturn, 1) := by decide +kernel
theorem dX10_versions_0 : decode cX10_versions 0 = .ok (.aload_n 0, 1) := by decide +kernel
theorem dX10_versions_1 : decode cX10_versions 1 = .ok (.getfield 83, 3) := by decide +kernel
theorem dX10_versions_4 : decode cX10_versions 4 = .ok (.getfield 159, 3) := by decide +kernel
theorem dX10_versions_7 : decode cX10_versions 7 = .ok (.ireturn, 1) := by decide +kernel
theorem dX10_version_0 : decode cX10_version 0 = .ok (.iload_n 1, 1) := by decide +kernel
theorem dX10_version_1 : decode cX10_version 1 = .ok (.aload_n 0, 1) := by decide +kernel
theorem dX10_version_2 : decode cX10_version 2 = .ok (.getfield 83, 3) := by decide +kernel
theorem dX10_version_5 : decode cX10_version 5 = .ok (.getfield 159, 3) := by decide +kernel
theorem dX10_version_8 : decode cX10_version 8 = .ok (.invokestatic 99, 3) := by decide +kernel
theorem dX10_version_11 : decode cX10_version 11 = .ok (.iload_n 2, 1) := by decide +kernel
theorem dX10_version_12 : decode cX10_version 12 = .ok (.iconst 0, 1) := by decide +kernel
theorem dX10_version_13 : decode cX10_version 13 = .ok (.iconst 5, 1) := by decide +kernel
theorem dX10_version_14 : decode cX10_version 14 = .ok (.invokestatic 88, 3) := by decide +kernel
theorem dX10_version_17 : decode cX10_version 17 = .ok (.aload_n 0, 1) := by decide +kernel
theorem dX10_version_18 : decode cX10_version 18 = .ok (.getfield 83, 3) := by decide +kernel
theorem dX10_version_21 : decode cX10_version 21 = .ok (.iload_n 1, 1) := by decide +kernel
theorem dX10_version_22 : decode cX10_version 22 = .ok (.invokevirtual 186, 3) := by decide +kernel
theorem dX10_version_25 : decode cX10_version 25 = .ok (.astore_n 3, 1) := by decide +kernel
theorem dX10_version_26 : decode cX10_version 26 = .ok (.iload_n 2, 1) := by decide +kernel
theorem dX10_version_27 : decode cX10_version 27 = .ok (.tableswitch 61 0 4 #[33, 38, 43, 48, 53], 33) := by decide +kernel
theorem dX10_version_60 : decode cX10_version 60 = .ok (.aload_n 3, 1) := by decide +kernel
theorem dX10_version_61 : decode cX10_version 61 = .ok (.getfield 300, 3) := by decide +kernel
theorem dX10_version_64 : decode cX10_version 64 = .ok (.ireturn, 1) := by decide +kernel
theorem dX10_version_65 : decode cX10_version 65 = .ok (.aload_n 3, 1) := by decide +kernel
theorem dX10_version_66 : decode cX10_version 66 = .ok (.getfield 302, 3) := by decide +kernel
theorem dX10_version_69 : decode cX10_version 69 = .ok (.ireturn, 1) := by decide +kernel
theorem dX10_version_70 : decode cX10_version 70 = .ok (.aload_n 3, 1) := by decide +kernel
theorem dX10_version_71 : decode cX10_version 71 = .ok (.getfield 305, 3) := by decide +kernel
theorem dX10_version_74 : decode cX10_version 74 = .ok (.ireturn, 1) := by decide +kernel
theorem dX10_version_75 : decode cX10_version 75 = .ok (.aload_n 3, 1) := by decide +kernel
theorem dX10_version_76 : decode cX10_version 76 = .ok (.getfield 258, 3) := by decide +kernel
theorem dX10_version_79 : decode cX10_version 79 = .ok (.ireturn, 1) := by decide +kernel
theorem dX10_version_80 : decode cX10_version 80 = .ok (.aload_n 3, 1) := by decide +kernel
theorem dX10_version_81 : decode cX10_version 81 = .ok (.getfield 269, 3) := by decide +kernel
theorem dX10_version_84 : decode cX10_version 84 = .ok (.getfield 204, 3) := by decide +kernel
theorem dX10_version_87 : decode cX10_version 87 = .ok (.ireturn, 1) := by decide +kernel
theorem dX10_version_88 : decode cX10_version 88 = .ok (.aload_n 3, 1) := by decide +kernel
theorem dX10_version_89 : decode cX10_version 89 = .ok (.getfield 241, 3) := by decide +kernel
theorem dX10_version_92 : decode cX10_version 92 = .ok (.ifCond .eq 7, 3) := by decide +kernel
theorem dX10_version_95 : decode cX10_version 95 = .ok (.iconst 1, 1) := by decide +kernel
theorem dX10_version_96 : decode cX10_version 96 = .ok (.goto 4, 3) := by decide +kernel
theorem dX10_version_99 : decode cX10_version 99 = .ok (.iconst 0, 1) := by decide +kernel
theorem dX10_version_100 : decode cX10_version 100 = .ok (.ireturn, 1) := by decide +kernel
theorem dX10_asOf_0 : decode cX10_asOf 0 = .ok (.iload_n 1, 1) := by decide +kernel
theorem dX10_asOf_1 : decode cX10_asOf 1 = .ok (.bipush 16, 2) := by decide +kernel
theorem dX10_asOf_3 : decode cX10_asOf 3 = .ok (.invokestatic 99, 3) := by decide +kernel
theorem dX10_asOf_6 : decode cX10_asOf 6 = .ok (.iload_n 2, 1) := by decide +kernel
theorem dX10_asOf_7 : decode cX10_asOf 7 = .ok (.iconst 0, 1) := by decide +kernel
theorem dX10_asOf_8 : decode cX10_asOf 8 = .ok (.aload_n 0, 1) := by decide +kernel
theorem dX10_asOf_9 : decode cX10_asOf 9 = .ok (.getfield 58, 3) := by decide +kernel
theorem dX10_asOf_12 : decode cX10_asOf 12 = .ok (.invokestatic 88, 3) := by decide +kernel
theorem dX10_asOf_15 : decode cX10_asOf 15 = .ok (.aload_n 0, 1) := by decide +kernel
theorem dX10_asOf_16 : decode cX10_asOf 16 = .ok (.getfield 83, 3) := by decide +kernel
theorem dX10_asOf_19 : decode cX10_asOf 19 = .ok (.iload_n 1, 1) := by decide +kernel
theorem dX10_asOf_20 : decode cX10_asOf 20 = .ok (.iload_n 2, 1) := by decide +kernel
theorem dX10_asOf_21 : decode cX10_asOf 21 = .ok (.invokevirtual 255, 3) := by decide +kernel
theorem dX10_asOf_24 : decode cX10_asOf 24 = .ok (.ireturn, 1) := by decide +kernel
theorem dX10_lockOf_0 : decode cX10_lockOf 0 = .ok (.iload_n 1, 1) := by decide +kernel
theorem dX10_lockOf_1 : decode cX10_lockOf 1 = .ok (.bipush 16, 2) := by decide +kernel
theorem dX10_lockOf_3 : decode cX10_lockOf 3 = .ok (.invokestatic 99, 3) := by decide +kernel
theorem dX10_lockOf_6 : decode cX10_lockOf 6 = .ok (.aload_n 0, 1) := by decide +kernel
theorem dX10_lockOf_7 : decode cX10_lockOf 7 = .ok (.getfield 36, 3) := by decide +kernel
theorem dX10_lockOf_10 : decode cX10_lockOf 10 = .ok (.iload_n 1, 1) := by decide +kernel
theorem dX10_lockOf_11 : decode cX10_lockOf 11 = .ok (.aload_n 0, 1) := by decide +kernel
theorem dX10_lockOf_12 : decode cX10_lockOf 12 = .ok (.getfield 58, 3) := by decide +kernel
theorem dX10_lockOf_15 : decode cX10_lockOf 15 = .ok (.invokevirtual 223, 3) := by decide +kernel
theorem dX10_lockOf_18 : decode cX10_lockOf 18 = .ok (.ireturn, 1) := by decide +kernel
theorem dX10_right_0 : decode cX10_right 0 = .ok (.iload_n 1, 1) := by decide +kernel
theorem dX10_right_1 : decode cX10_right 1 = .ok (.iconst 4, 1) := by decide +kernel
theorem dX10_right_2 : decode cX10_right 2 = .ok (.invokestatic 99, 3) := by decide +kernel
theorem dX10_right_5 : decode cX10_right 5 = .ok (.iload_n 2, 1) := by decide +kernel
theorem dX10_right_6 : decode cX10_right 6 = .ok (.iconst 3, 1) := by decide +kernel
theorem dX10_right_7 : decode cX10_right 7 = .ok (.invokestatic 99, 3) := by decide +kernel
theorem dX10_right_10 : decode cX10_right 10 = .ok (.aload_n 0, 1) := by decide +kernel
theorem dX10_right_11 : decode cX10_right 11 = .ok (.getfield 43, 3) := by decide +kernel
theorem dX10_right_14 : decode cX10_right 14 = .ok (.iload_n 1, 1) := by decide +kernel
theorem dX10_right_15 : decode cX10_right 15 = .ok (.iload_n 2, 1) := by decide +kernel
theorem dX10_right_16 : decode cX10_right 16 = .ok (.aload_n 0, 1) := by decide +kernel
theorem dX10_right_17 : decode cX10_right 17 = .ok (.getfield 58, 3) := by decide +kernel
theorem dX10_right_20 : decode cX10_right 20 = .ok (.invokevirtual 307, 3) := by decide +kernel
theorem dX10_right_23 : decode cX10_right 23 = .ok (.ireturn, 1) := by decide +kernel
theorem dX10_count_0 : decode cX10_count 0 = .ok (.iload_n 1, 1) := by decide +kernel
theorem dX10_count_1 : decode cX10_count 1 = .ok (.iconst 0, 1) := by decide +kernel
theorem dX10_count_2 : decode cX10_count 2 = .ok (.bipush 7, 2) := by decide +kernel
theorem dX10_count_4 : decode cX10_count 4 = .ok (.invokestatic 88, 3) := by decide +kernel
theorem dX10_count_7 : decode cX10_count 7 = .ok (.iload_n 1, 1) := by decide +kernel
theorem dX10_count_8 : decode cX10_count 8 = .ok (.tableswitch 98 0 6 #[44, 52, 60, 68, 76, 88, 93], 44) := by decide +kernel
theorem dX10_count_52 : decode cX10_count 52 = .ok (.aload_n 0, 1) := by decide +kernel
theorem dX10_count_53 : decode cX10_count 53 = .ok (.getfield 29, 3) := by decide +kernel
theorem dX10_count_56 : decode cX10_count 56 = .ok (.getfield 311, 3) := by decide +kernel
theorem dX10_count_59 : decode cX10_count 59 = .ok (.ireturn, 1) := by decide +kernel
theorem dX10_count_60 : decode cX10_count 60 = .ok (.aload_n 0, 1) := by decide +kernel
theorem dX10_count_61 : decode cX10_count 61 = .ok (.getfield 29, 3) := by decide +kernel
theorem dX10_count_64 : decode cX10_count 64 = .ok (.getfield 259, 3) := by decide +kernel
theorem dX10_count_67 : decode cX10_count 67 = .ok (.ireturn, 1) := by decide +kernel
theorem dX10_count_68 : decode cX10_count 68 = .ok (.aload_n 0, 1) := by decide +kernel
theorem dX10_count_69 : decode cX10_count 69 = .ok (.getfield 29, 3) := by decide +kernel
theorem dX10_count_72 : decode cX10_count 72 = .ok (.invokevirtual 312, 3) := by decide +kernel
theorem dX10_count_75 : decode cX10_count 75 = .ok (.ireturn, 1) := by decide +kernel
theorem dX10_count_76 : decode cX10_count 76 = .ok (.aload_n 0, 1) := by decide +kernel
theorem dX10_count_77 : decode cX10_count 77 = .ok (.getfield 29, 3) := by decide +kernel
theorem dX10_count_80 : decode cX10_count 80 = .ok (.invokevirtual 315, 3) := by decide +kernel
theorem dX10_count_83 : decode cX10_count 83 = .ok (.ireturn, 1) := by decide +kernel
theorem dX10_count_84 : decode cX10_count 84 = .ok (.aload_n 0, 1) := by decide +kernel
theorem dX10_count_85 : decode cX10_count 85 = .ok (.getfield 83, 3) := by decide +kernel
theorem dX10_count_88 : decode cX10_count 88 = .ok (.aload_n 0, 1) := by decide +kernel
theorem dX10_count_89 : decode cX10_count 89 = .ok (.getfield 70, 3) := by decide +kernel
theorem dX10_count_92 : decode cX10_count 92 = .ok (.invokevirtual 318, 3) := by decide +kernel
theorem dX10_count_95 : decode cX10_count 95 = .ok (.ireturn, 1) := by decide +kernel
theorem dX10_count_96 : decode cX10_count 96 = .ok (.aload_n 0, 1) := by decide +kernel
theorem dX10_count_97 : decode cX10_count 97 = .ok (.getfield 64, 3) := by decide +kernel
theorem dX10_count_100 : decode cX10_count 100 = .ok (.ireturn, 1) := by decide +kernel
theorem dX10_count_101 : decode cX10_count 101 = .ok (.aload_n 0, 1) := by decide +kernel
theorem dX10_count_102 : decode cX10_count 102 = .ok (.getfield 67, 3) := by decide +kernel
theorem dX10_count_105 : decode cX10_count 105 = .ok (.ireturn, 1) := by decide +kernel
theorem dX10_count_106 : decode cX10_count 106 = .ok (.aload_n 0, 1) := by decide +kernel
theorem dX10_count_107 : decode cX10_count 107 = .ok (.getfield 29, 3) := by decide +kernel
theorem dX10_count_110 : decode cX10_count 110 = .ok (.getfield 321, 3) := by decide +kernel
theorem dX10_count_113 : decode cX10_count 113 = .ok (.ireturn, 1) := by decide +kernel
theorem dX10_lost_0 : decode cX10_lost 0 = .ok (.iconst 0, 1) := by decide +kernel
theorem dX10_lost_1 : decode cX10_lost 1 = .ok (.istore_n 1, 1) := by decide +kernel
theorem dX10_lost_2 : decode cX10_lost 2 = .ok (.iconst 0, 1) := by decide +kernel
theorem dX10_lost_3 : decode cX10_lost 3 = .ok (.istore_n 2, 1) := by decide +kernel
theorem dX10_lost_4 : decode cX10_lost 4 = .ok (.iload_n 2, 1) := by decide +kernel
theorem dX10_lost_5 : decode cX10_lost 5 = .ok (.aload_n 0, 1) := by decide +kernel
theorem dX10_lost_6 : decode cX10_lost 6 = .ok (.getfield 83, 3) := by decide +kernel
theorem dX10_lost_9 : decode cX10_lost 9 = .ok (.getfield 159, 3) := by decide +kernel
theorem dX10_lost_12 : decode cX10_lost 12 = .ok (.if_icmp .ge 42, 3) := by decide +kernel
theorem dX10_lost_15 : decode cX10_lost 15 = .ok (.aload_n 0, 1) := by decide +kernel
theorem dX10_lost_16 : decode cX10_lost 16 = .ok (.getfield 83, 3) := by decide +kernel
theorem dX10_lost_19 : decode cX10_lost 19 = .ok (.iload_n 2, 1) := by decide +kernel
theorem dX10_lost_20 : decode cX10_lost 20 = .ok (.invokevirtual 186, 3) := by decide +kernel
theorem dX10_lost_23 : decode cX10_lost 23 = .ok (.astore_n 3, 1) := by decide +kernel
theorem dX10_lost_24 : decode cX10_lost 24 = .ok (.aload_n 3, 1) := by decide +kernel
theorem dX10_lost_25 : decode cX10_lost 25 = .ok (.getfield 241, 3) := by decide +kernel
theorem dX10_lost_28 : decode cX10_lost 28 = .ok (.ifCond .eq 20, 3) := by decide +kernel
theorem dX10_lost_31 : decode cX10_lost 31 = .ok (.aload_n 0, 1) := by decide +kernel
theorem dX10_lost_32 : decode cX10_lost 32 = .ok (.getfield 29, 3) := by decide +kernel
theorem dX10_lost_35 : decode cX10_lost 35 = .ok (.aload_n 3, 1) := by decide +kernel
theorem dX10_lost_36 : decode cX10_lost 36 = .ok (.getfield 269, 3) := by decide +kernel
theorem dX10_lost_39 : decode cX10_lost 39 = .ok (.invokevirtual 324, 3) := by decide +kernel
theorem dX10_lost_42 : decode cX10_lost 42 = .ok (.ifCond .ne 6, 3) := by decide +kernel
theorem dX10_lost_45 : decode cX10_lost 45 = .ok (.iinc 1 1, 3) := by decide +kernel
theorem dX10_lost_48 : decode cX10_lost 48 = .ok (.iinc 2 1, 3) := by decide +kernel
theorem dX10_lost_51 : decode cX10_lost 51 = .ok (.goto (-47), 3) := by decide +kernel
theorem dX10_lost_54 : decode cX10_lost 54 = .ok (.iload_n 1, 1) := by decide +kernel
theorem dX10_lost_55 : decode cX10_lost 55 = .ok (.ireturn, 1) := by decide +kernel
theorem dX10_needIndex_0 : decode cX10_needIndex 0 = .ok (.iload_n 0, 1) := by decide +kernel
theorem dX10_needIndex_1 : decode cX10_needIndex 1 = .ok (.ifCond .lt 8, 3) := by decide +kernel
theorem dX10_needIndex_4 : decode cX10_needIndex 4 = .ok (.iload_n 0, 1) := by decide +kernel
theorem dX10_needIndex_5 : decode cX10_needIndex 5 = .ok (.iload_n 1, 1) := by decide +kernel
theorem dX10_needIndex_6 : decode cX10_needIndex 6 = .ok (.if_icmp .lt 14, 3) := by decide +kernel
theorem dX10_needIndex_9 : decode cX10_needIndex 9 = .ok (.new 286, 3) := by decide +kernel
theorem dX10_needIndex_12 : decode cX10_needIndex 12 = .ok (.dup, 1) := by decide +kernel
theorem dX10_needIndex_13 : decode cX10_needIndex 13 = .ok (.ldc_w 327, 3) := by decide +kernel
theorem dX10_needIndex_16 : decode cX10_needIndex 16 = .ok (.invokespecial 290, 3) := by decide +kernel
theorem dX10_needIndex_19 : decode cX10_needIndex 19 = .ok (.athrow, 1) := by decide +kernel
theorem dX10_needIndex_20 : decode cX10_needIndex 20 = .ok (.return_, 1) := by decide +kernel
theorem dX10_needRange_0 : decode cX10_needRange 0 = .ok (.iload_n 0, 1) := by decide +kernel
theorem dX10_needRange_1 : decode cX10_needRange 1 = .ok (.iload_n 1, 1) := by decide +kernel
theorem dX10_needRange_2 : decode cX10_needRange 2 = .ok (.if_icmp .lt 8, 3) := by decide +kernel
theorem dX10_needRange_5 : decode cX10_needRange 5 = .ok (.iload_n 0, 1) := by decide +kernel
theorem dX10_needRange_6 : decode cX10_needRange 6 = .ok (.iload_n 2, 1) := by decide +kernel
theorem dX10_needRange_7 : decode cX10_needRange 7 = .ok (.if_icmp .le 14, 3) := by decide +kernel
theorem dX10_needRange_10 : decode cX10_needRange 10 = .ok (.new 329, 3) := by decide +kernel
theorem dX10_needRange_13 : decode cX10_needRange 13 = .ok (.dup, 1) := by decide +kernel
theorem dX10_needRange_14 : decode cX10_needRange 14 = .ok (.ldc_w 331, 3) := by decide +kernel
theorem dX10_needRange_17 : decode cX10_needRange 17 = .ok (.invokespecial 333, 3) := by decide +kernel
theorem dX10_needRange_20 : decode cX10_needRange 20 = .ok (.athrow, 1) := by decide +kernel
theorem dX10_needRange_21 : decode cX10_needRange 21 = .ok (.return_, 1) := by decide +kernel
theorem dX10_needFewVersions_0 : decode cX10_needFewVersions 0 = .ok (.aload_n 0, 1) := by decide +kernel
theorem dX10_needFewVersions_1 : decode cX10_needFewVersions 1 = .ok (.getfield 83, 3) := by decide +kernel
theorem dX10_needFewVersions_4 : decode cX10_needFewVersions 4 = .ok (.getfield 159, 3) := by decide +kernel
theorem dX10_needFewVersions_7 : decode cX10_needFewVersions 7 = .ok (.bipush 100, 2) := by decide +kernel
theorem dX10_needFewVersions_9 : decode cX10_needFewVersions 9 = .ok (.if_icmp .le 14, 3) := by decide +kernel
theorem dX10_needFewVersions_12 : decode cX10_needFewVersions 12 = .ok (.new 92, 3) := by decide +kernel
theorem dX10_needFewVersions_15 : decode cX10_needFewVersions 15 = .ok (.dup, 1) := by decide +kernel
theorem dX10_needFewVersions_16 : decode cX10_needFewVersions 16 = .ok (.ldc_w 334, 3) := by decide +kernel
theorem dX10_needFewVersions_19 : decode cX10_needFewVersions 19 = .ok (.invokespecial 96, 3) := by decide +kernel
theorem dX10_needFewVersions_22 : decode cX10_needFewVersions 22 = .ok (.athrow, 1) := by decide +kernel
theorem dX10_needFewVersions_23 : decode cX10_needFewVersions 23 = .ok (.return_, 1) := by decide +kernel
theorem dX10_sendEvent_0 : decode cX10_sendEvent 0 = .ok (.aload_n 0, 1) := by decide +kernel
theorem dX10_sendEvent_1 : decode cX10_sendEvent 1 = .ok (.getfield 15, 3) := by decide +kernel
theorem dX10_sendEvent_4 : decode cX10_sendEvent 4 = .ok (.iload_n 1, 1) := by decide +kernel
theorem dX10_sendEvent_5 : decode cX10_sendEvent 5 = .ok (.aaload, 1) := by decide +kernel
theorem dX10_sendEvent_6 : decode cX10_sendEvent 6 = .ok (.getfield 131, 3) := by decide +kernel
theorem dX10_sendEvent_9 : decode cX10_sendEvent 9 = .ok (.istore_n 3, 1) := by decide +kernel
theorem dX10_sendEvent_10 : decode cX10_sendEvent 10 = .ok (.iload_n 3, 1) := by decide +kernel
theorem dX10_sendEvent_11 : decode cX10_sendEvent 11 = .ok (.ifCond .ne 16, 3) := by decide +kernel
theorem dX10_sendEvent_14 : decode cX10_sendEvent 14 = .ok (.aload_n 0, 1) := by decide +kernel
theorem dX10_sendEvent_15 : decode cX10_sendEvent 15 = .ok (.getfield 15, 3) := by decide +kernel
theorem dX10_sendEvent_18 : decode cX10_sendEvent 18 = .ok (.iload_n 1, 1) := by decide +kernel
theorem dX10_sendEvent_19 : decode cX10_sendEvent 19 = .ok (.aaload, 1) := by decide +kernel
theorem dX10_sendEvent_20 : decode cX10_sendEvent 20 = .ok (.iload_n 2, 1) := by decide +kernel
theorem dX10_sendEvent_21 : decode cX10_sendEvent 21 = .ok (.invokevirtual 145, 3) := by decide +kernel
theorem dX10_sendEvent_24 : decode cX10_sendEvent 24 = .ok (.goto 18, 3) := by decide +kernel
theorem dX10_sendEvent_27 : decode cX10_sendEvent 27 = .ok (.aload_n 0, 1) := by decide +kernel
theorem dX10_sendEvent_28 : decode cX10_sendEvent 28 = .ok (.getfield 22, 3) := by decide +kernel
theorem dX10_sendEvent_31 : decode cX10_sendEvent 31 = .ok (.iload_n 1, 1) := by decide +kernel
theorem dX10_sendEvent_32 : decode cX10_sendEvent 32 = .ok (.iload_n 2, 1) := by decide +kernel
theorem dX10_sendEvent_33 : decode cX10_sendEvent 33 = .ok (.aload_n 0, 1) := by decide +kernel
theorem dX10_sendEvent_34 : decode cX10_sendEvent 34 = .ok (.getfield 58, 3) := by decide +kernel
theorem dX10_sendEvent_37 : decode cX10_sendEvent 37 = .ok (.iload_n 3, 1) := by decide +kernel
theorem dX10_sendEvent_38 : decode cX10_sendEvent 38 = .ok (.iadd, 1) := by decide +kernel
theorem dX10_sendEvent_39 : decode cX10_sendEvent 39 = .ok (.invokevirtual 336, 3) := by decide +kernel
theorem dX10_sendEvent_42 : decode cX10_sendEvent 42 = .ok (.return_, 1) := by decide +kernel
theorem dX10_isEdited_0 : decode cX10_isEdited 0 = .ok (.aload_n 0, 1) := by decide +kernel
theorem dX10_isEdited_1 : decode cX10_isEdited 1 = .ok (.getfield 83, 3) := by decide +kernel
theorem dX10_isEdited_4 : decode cX10_isEdited 4 = .ok (.aload_n 1, 1) := by decide +kernel
theorem dX10_isEdited_5 : decode cX10_isEdited 5 = .ok (.getfield 294, 3) := by decide +kernel
theorem dX10_isEdited_8 : decode cX10_isEdited 8 = .ok (.invokevirtual 186, 3) := by decide +kernel
theorem dX10_isEdited_11 : decode cX10_isEdited 11 = .ok (.aload_n 1, 1) := by decide +kernel
theorem dX10_isEdited_12 : decode cX10_isEdited 12 = .ok (.getfield 114, 3) := by decide +kernel
theorem dX10_isEdited_15 : decode cX10_isEdited 15 = .ok (.aload_n 1, 1) := by decide +kernel
theorem dX10_isEdited_16 : decode cX10_isEdited 16 = .ok (.getfield 165, 3) := by decide +kernel
theorem dX10_isEdited_19 : decode cX10_isEdited 19 = .ok (.invokevirtual 337, 3) := by decide +kernel
theorem dX10_isEdited_22 : decode cX10_isEdited 22 = .ok (.ifCond .ne 7, 3) := by decide +kernel
theorem dX10_isEdited_25 : decode cX10_isEdited 25 = .ok (.iconst 1, 1) := by decide +kernel
theorem dX10_isEdited_26 : decode cX10_isEdited 26 = .ok (.goto 4, 3) := by decide +kernel
theorem dX10_isEdited_29 : decode cX10_isEdited 29 = .ok (.iconst 0, 1) := by decide +kernel
theorem dX10_isEdited_30 : decode cX10_isEdited 30 = .ok (.ireturn, 1) := by decide +kernel
theorem dX10_canPutAway_0 : decode cX10_canPutAway 0 = .ok (.aload_n 1, 1) := by decide +kernel
theorem dX10_canPutAway_1 : decode cX10_canPutAway 1 = .ok (.getfield 109, 3) := by decide +kernel
theorem dX10_canPutAway_4 : decode cX10_canPutAway 4 = .ok (.iconst 2, 1) := by decide +kernel
theorem dX10_canPutAway_5 : decode cX10_canPutAway 5 = .ok (.if_icmp .ne 22, 3) := by decide +kernel
theorem dX10_canPutAway_8 : decode cX10_canPutAway 8 = .ok (.aload_n 1, 1) := by decide +kernel
theorem dX10_canPutAway_9 : decode cX10_canPutAway 9 = .ok (.getfield 152, 3) := by decide +kernel
theorem dX10_canPutAway_12 : decode cX10_canPutAway 12 = .ok (.ifCond .ne 15, 3) := by decide +kernel
theorem dX10_canPutAway_15 : decode cX10_canPutAway 15 = .ok (.aload_n 0, 1) := by decide +kernel
theorem dX10_canPutAway_16 : decode cX10_canPutAway 16 = .ok (.aload_n 1, 1) := by decide +kernel
theorem dX10_canPutAway_17 : decode cX10_canPutAway 17 = .ok (.invokevirtual 141, 3) := by decide +kernel
theorem dX10_canPutAway_20 : decode cX10_canPutAway 20 = .ok (.ifCond .ne 7, 3) := by decide +kernel
theorem dX10_canPutAway_23 : decode cX10_canPutAway 23 = .ok (.iconst 1, 1) := by decide +kernel
theorem dX10_canPutAway_24 : decode cX10_canPutAway 24 = .ok (.goto 4, 3) := by decide +kernel
theorem dX10_canPutAway_27 : decode cX10_canPutAway 27 = .ok (.iconst 0, 1) := by decide +kernel
theorem dX10_canPutAway_28 : decode cX10_canPutAway 28 = .ok (.ireturn, 1) := by decide +kernel
theorem dX10_canFetch_0 : decode cX10_canFetch 0 = .ok (.aload_n 0, 1) := by decide +kernel
theorem dX10_canFetch_1 : decode cX10_canFetch 1 = .ok (.getfield 43, 3) := by decide +kernel
theorem dX10_canFetch_4 : decode cX10_canFetch 4 = .ok (.aload_n 2, 1) := by decide +kernel
theorem dX10_canFetch_5 : decode cX10_canFetch 5 = .ok (.getfield 114, 3) := by decide +kernel
theorem dX10_canFetch_8 : decode cX10_canFetch 8 = .ok (.iload_n 1, 1) := by decide +kernel
theorem dX10_canFetch_9 : decode cX10_canFetch 9 = .ok (.aload_n 0, 1) := by decide +kernel
theorem dX10_canFetch_10 : decode cX10_canFetch 10 = .ok (.getfield 58, 3) := by decide +kernel
theorem dX10_canFetch_13 : decode cX10_canFetch 13 = .ok (.invokevirtual 307, 3) := by decide +kernel
theorem dX10_canFetch_16 : decode cX10_canFetch 16 = .ok (.iconst 1, 1) := by decide +kernel
theorem dX10_canFetch_17 : decode cX10_canFetch 17 = .ok (.if_icmp .lt 41, 3) := by decide +kernel
theorem dX10_canFetch_20 : decode cX10_canFetch 20 = .ok (.aload_n 0, 1) := by decide +kernel
theorem dX10_canFetch_21 : decode cX10_canFetch 21 = .ok (.getfield 29, 3) := by decide +kernel
theorem dX10_canFetch_24 : decode cX10_canFetch 24 = .ok (.aload_n 2, 1) := by decide +kernel
theorem dX10_canFetch_25 : decode cX10_canFetch 25 = .ok (.getfield 165, 3) := by decide +kernel
theorem dX10_canFetch_28 : decode cX10_canFetch 28 = .ok (.invokevirtual 341, 3) := by decide +kernel
theorem dX10_canFetch_31 : decode cX10_canFetch 31 = .ok (.ifCond .eq 27, 3) := by decide +kernel
theorem dX10_canFetch_34 : decode cX10_canFetch 34 = .ok (.aload_n 0, 1) := by decide +kernel
theorem dX10_canFetch_35 : decode cX10_canFetch 35 = .ok (.aload_n 0, 1) := by decide +kernel
theorem dX10_canFetch_36 : decode cX10_canFetch 36 = .ok (.getfield 15, 3) := by decide +kernel
theorem dX10_canFetch_39 : decode cX10_canFetch 39 = .ok (.iload_n 1, 1) := by decide +kernel
theorem dX10_canFetch_40 : decode cX10_canFetch 40 = .ok (.aaload, 1) := by decide +kernel
theorem dX10_canFetch_41 : decode cX10_canFetch 41 = .ok (.aload_n 2, 1) := by decide +kernel
theorem dX10_canFetch_42 : decode cX10_canFetch 42 = .ok (.getfield 165, 3) := by decide +kernel
theorem dX10_canFetch_45 : decode cX10_canFetch 45 = .ok (.getfield 204, 3) := by decide +kernel
theorem dX10_canFetch_48 : decode cX10_canFetch 48 = .ok (.invokevirtual 344, 3) := by decide +kernel
theorem dX10_canFetch_51 : decode cX10_canFetch 51 = .ok (.ifCond .eq 7, 3) := by decide +kernel
theorem dX10_canFetch_54 : decode cX10_canFetch 54 = .ok (.iconst 1, 1) := by decide +kernel
theorem dX10_canFetch_55 : decode cX10_canFetch 55 = .ok (.goto 4, 3) := by decide +kernel
theorem dX10_canFetch_58 : decode cX10_canFetch 58 = .ok (.iconst 0, 1) := by decide +kernel
theorem dX10_canFetch_59 : decode cX10_canFetch 59 = .ok (.ireturn, 1) := by decide +kernel
theorem dX10_canHaveRoom_0 : decode cX10_canHaveRoom 0 = .ok (.aload_n 1, 1) := by decide +kernel
theorem dX10_canHaveRoom_1 : decode cX10_canHaveRoom 1 = .ok (.invokevirtual 297, 3) := by decide +kernel
theorem dX10_canHaveRoom_4 : decode cX10_canHaveRoom 4 = .ok (.iload_n 2, 1) := by decide +kernel
theorem dX10_canHaveRoom_5 : decode cX10_canHaveRoom 5 = .ok (.iadd, 1) := by decide +kernel
theorem dX10_canHaveRoom_6 : decode cX10_canHaveRoom 6 = .ok (.istore_n 3, 1) := by decide +kernel
theorem dX10_canHaveRoom_7 : decode cX10_canHaveRoom 7 = .ok (.iconst 0, 1) := by decide +kernel
theorem dX10_canHaveRoom_8 : decode cX10_canHaveRoom 8 = .ok (.istore 4, 2) := by decide +kernel
theorem dX10_canHaveRoom_10 : decode cX10_canHaveRoom 10 = .ok (.iload 4, 2) := by decide +kernel
theorem dX10_canHaveRoom_12 : decode cX10_canHaveRoom 12 = .ok (.bipush 16, 2) := by decide +kernel
theorem dX10_canHaveRoom_14 : decode cX10_canHaveRoom 14 = .ok (.if_icmp .ge 42, 3) := by decide +kernel
theorem dX10_canHaveRoom_17 : decode cX10_canHaveRoom 17 = .ok (.aload_n 1, 1) := by decide +kernel
theorem dX10_canHaveRoom_18 : decode cX10_canHaveRoom 18 = .ok (.getfield 105, 3) := by decide +kernel
theorem dX10_canHaveRoom_21 : decode cX10_canHaveRoom 21 = .ok (.iload 4, 2) := by decide +kernel
theorem dX10_canHaveRoom_23 : decode cX10_canHaveRoom 23 = .ok (.aaload, 1) := by decide +kernel
theorem dX10_canHaveRoom_24 : decode cX10_canHaveRoom 24 = .ok (.astore 5, 2) := by decide +kernel
theorem dX10_canHaveRoom_26 : decode cX10_canHaveRoom 26 = .ok (.iload_n 3, 1) := by decide +kernel
theorem dX10_canHaveRoom_27 : decode cX10_canHaveRoom 27 = .ok (.aload_n 0, 1) := by decide +kernel
theorem dX10_canHaveRoom_28 : decode cX10_canHaveRoom 28 = .ok (.aload 5, 2) := by decide +kernel
theorem dX10_canHaveRoom_30 : decode cX10_canHaveRoom 30 = .ok (.invokevirtual 348, 3) := by decide +kernel
theorem dX10_canHaveRoom_33 : decode cX10_canHaveRoom 33 = .ok (.ifCond .eq 14, 3) := by decide +kernel
theorem dX10_canHaveRoom_36 : decode cX10_canHaveRoom 36 = .ok (.aload 5, 2) := by decide +kernel
theorem dX10_canHaveRoom_38 : decode cX10_canHaveRoom 38 = .ok (.getfield 165, 3) := by decide +kernel
theorem dX10_canHaveRoom_41 : decode cX10_canHaveRoom 41 = .ok (.getfield 204, 3) := by decide +kernel
theorem dX10_canHaveRoom_44 : decode cX10_canHaveRoom 44 = .ok (.goto 4, 3) := by decide +kernel
theorem dX10_canHaveRoom_47 : decode cX10_canHaveRoom 47 = .ok (.iconst 0, 1) := by decide +kernel
theorem dX10_canHaveRoom_48 : decode cX10_canHaveRoom 48 = .ok (.isub, 1) := by decide +kernel
theorem dX10_canHaveRoom_49 : decode cX10_canHaveRoom 49 = .ok (.istore_n 3, 1) := by decide +kernel
theorem dX10_canHaveRoom_50 : decode cX10_canHaveRoom 50 = .ok (.iinc 4 1, 3) := by decide +kernel
theorem dX10_canHaveRoom_53 : decode cX10_canHaveRoom 53 = .ok (.goto (-43), 3) := by decide +kernel
theorem dX10_canHaveRoom_56 : decode cX10_canHaveRoom 56 = .ok (.iload_n 3, 1) := by decide +kernel
theorem dX10_canHaveRoom_57 : decode cX10_canHaveRoom 57 = .ok (.aload_n 1, 1) := by decide +kernel
theorem dX10_canHaveRoom_58 : decode cX10_canHaveRoom 58 = .ok (.getfield 149, 3) := by decide +kernel
theorem dX10_canHaveRoom_61 : decode cX10_canHaveRoom 61 = .ok (.if_icmp .gt 7, 3) := by decide +kernel
theorem dX10_canHaveRoom_64 : decode cX10_canHaveRoom 64 = .ok (.iconst 1, 1) := by decide +kernel
theorem dX10_canHaveRoom_65 : decode cX10_canHaveRoom 65 = .ok (.goto 4, 3) := by decide +kernel
theorem dX10_canHaveRoom_68 : decode cX10_canHaveRoom 68 = .ok (.iconst 0, 1) := by decide +kernel
theorem dX10_canHaveRoom_69 : decode cX10_canHaveRoom 69 = .ok (.ireturn, 1) := by decide +kernel
theorem dX10_makeRoom_0 : decode cX10_makeRoom 0 = .ok (.iconst 0, 1) := by decide +kernel
theorem dX10_makeRoom_1 : decode cX10_makeRoom 1 = .ok (.istore_n 3, 1) := by decide +kernel
theorem dX10_makeRoom_2 : decode cX10_makeRoom 2 = .ok (.iload_n 3, 1) := by decide +kernel
theorem dX10_makeRoom_3 : decode cX10_makeRoom 3 = .ok (.bipush 16, 2) := by decide +kernel
theorem dX10_makeRoom_5 : decode cX10_makeRoom 5 = .ok (.if_icmp .ge 49, 3) := by decide +kernel
theorem dX10_makeRoom_8 : decode cX10_makeRoom 8 = .ok (.aload_n 1, 1) := by decide +kernel
theorem dX10_makeRoom_9 : decode cX10_makeRoom 9 = .ok (.invokevirtual 297, 3) := by decide +kernel
theorem dX10_makeRoom_12 : decode cX10_makeRoom 12 = .ok (.iload_n 2, 1) := by decide +kernel
theorem dX10_makeRoom_13 : decode cX10_makeRoom 13 = .ok (.iadd, 1) := by decide +kernel
theorem dX10_makeRoom_14 : decode cX10_makeRoom 14 = .ok (.aload_n 1, 1) := by decide +kernel
theorem dX10_makeRoom_15 : decode cX10_makeRoom 15 = .ok (.getfield 149, 3) := by decide +kernel
theorem dX10_makeRoom_18 : decode cX10_makeRoom 18 = .ok (.if_icmp .le 36, 3) := by decide +kernel
theorem dX10_makeRoom_21 : decode cX10_makeRoom 21 = .ok (.aload_n 0, 1) := by decide +kernel
theorem dX10_makeRoom_22 : decode cX10_makeRoom 22 = .ok (.aload_n 1, 1) := by decide +kernel
theorem dX10_makeRoom_23 : decode cX10_makeRoom 23 = .ok (.invokevirtual 351, 3) := by decide +kernel
theorem dX10_makeRoom_26 : decode cX10_makeRoom 26 = .ok (.istore 4, 2) := by decide +kernel
theorem dX10_makeRoom_28 : decode cX10_makeRoom 28 = .ok (.iload 4, 2) := by decide +kernel
theorem dX10_makeRoom_30 : decode cX10_makeRoom 30 = .ok (.iconst (-1), 1) := by decide +kernel
theorem dX10_makeRoom_31 : decode cX10_makeRoom 31 = .ok (.if_icmp .ne 6, 3) := by decide +kernel
theorem dX10_makeRoom_34 : decode cX10_makeRoom 34 = .ok (.goto 20, 3) := by decide +kernel
theorem dX10_makeRoom_37 : decode cX10_makeRoom 37 = .ok (.aload_n 1, 1) := by decide +kernel
theorem dX10_makeRoom_38 : decode cX10_makeRoom 38 = .ok (.getfield 105, 3) := by decide +kernel
theorem dX10_makeRoom_41 : decode cX10_makeRoom 41 = .ok (.iload 4, 2) := by decide +kernel
theorem dX10_makeRoom_43 : decode cX10_makeRoom 43 = .ok (.aaload, 1) := by decide +kernel
theorem dX10_makeRoom_44 : decode cX10_makeRoom 44 = .ok (.iconst 1, 1) := by decide +kernel
theorem dX10_makeRoom_45 : decode cX10_makeRoom 45 = .ok (.putfield 109, 3) := by decide +kernel
theorem dX10_makeRoom_48 : decode cX10_makeRoom 48 = .ok (.iinc 3 1, 3) := by decide +kernel
theorem dX10_makeRoom_51 : decode cX10_makeRoom 51 = .ok (.goto (-49), 3) := by decide +kernel
theorem dX10_makeRoom_54 : decode cX10_makeRoom 54 = .ok (.return_, 1) := by decide +kernel
theorem dX10_openedLongestAgo_0 : decode cX10_openedLongestAgo 0 = .ok (.iconst (-1), 1) := by decide +kernel
theorem dX10_openedLongestAgo_1 : decode cX10_openedLongestAgo 1 = .ok (.istore_n 2, 1) := by decide +kernel
theorem dX10_openedLongestAgo_2 : decode cX10_openedLongestAgo 2 = .ok (.iconst 0, 1) := by decide +kernel
theorem dX10_openedLongestAgo_3 : decode cX10_openedLongestAgo 3 = .ok (.istore_n 3, 1) := by decide +kernel
theorem dX10_openedLongestAgo_4 : decode cX10_openedLongestAgo 4 = .ok (.iconst 0, 1) := by decide +kernel
theorem dX10_openedLongestAgo_5 : decode cX10_openedLongestAgo 5 = .ok (.istore 4, 2) := by decide +kernel
theorem dX10_openedLongestAgo_7 : decode cX10_openedLongestAgo 7 = .ok (.iload 4, 2) := by decide +kernel
theorem dX10_openedLongestAgo_9 : decode cX10_openedLongestAgo 9 = .ok (.bipush 16, 2) := by decide +kernel
theorem dX10_openedLongestAgo_11 : decode cX10_openedLongestAgo 11 = .ok (.if_icmp .ge 50, 3) := by decide +kernel
theorem dX10_openedLongestAgo_14 : decode cX10_openedLongestAgo 14 = .ok (.aload_n 1, 1) := by decide +kernel
theorem dX10_openedLongestAgo_15 : decode cX10_openedLongestAgo 15 = .ok (.getfield 105, 3) := by decide +kernel
theorem dX10_openedLongestAgo_18 : decode cX10_openedLongestAgo 18 = .ok (.iload 4, 2) := by decide +kernel
theorem dX10_openedLongestAgo_20 : decode cX10_openedLongestAgo 20 = .ok (.aaload, 1) := by decide +kernel
theorem dX10_openedLongestAgo_21 : decode cX10_openedLongestAgo 21 = .ok (.astore 5, 2) := by decide +kernel
theorem dX10_openedLongestAgo_23 : decode cX10_openedLongestAgo 23 = .ok (.aload_n 0, 1) := by decide +kernel
theorem dX10_openedLongestAgo_24 : decode cX10_openedLongestAgo 24 = .ok (.aload 5, 2) := by decide +kernel
theorem dX10_openedLongestAgo_26 : decode cX10_openedLongestAgo 26 = .ok (.invokevirtual 348, 3) := by decide +kernel
theorem dX10_openedLongestAgo_29 : decode cX10_openedLongestAgo 29 = .ok (.ifCond .eq 26, 3) := by decide +kernel
theorem dX10_openedLongestAgo_32 : decode cX10_openedLongestAgo 32 = .ok (.iload_n 2, 1) := by decide +kernel
theorem dX10_openedLongestAgo_33 : decode cX10_openedLongestAgo 33 = .ok (.iconst (-1), 1) := by decide +kernel
theorem dX10_openedLongestAgo_34 : decode cX10_openedLongestAgo 34 = .ok (.if_icmp .eq 12, 3) := by decide +kernel
theorem dX10_openedLongestAgo_37 : decode cX10_openedLongestAgo 37 = .ok (.aload 5, 2) := by decide +kernel
theorem dX10_openedLongestAgo_39 : decode cX10_openedLongestAgo 39 = .ok (.getfield 211, 3) := by decide +kernel
theorem dX10_openedLongestAgo_42 : decode cX10_openedLongestAgo 42 = .ok (.iload_n 3, 1) := by decide +kernel
theorem dX10_openedLongestAgo_43 : decode cX10_openedLongestAgo 43 = .ok (.if_icmp .ge 12, 3) := by decide +kernel
theorem dX10_openedLongestAgo_46 : decode cX10_openedLongestAgo 46 = .ok (.iload 4, 2) := by decide +kernel
theorem dX10_openedLongestAgo_48 : decode cX10_openedLongestAgo 48 = .ok (.istore_n 2, 1) := by decide +kernel
theorem dX10_openedLongestAgo_49 : decode cX10_openedLongestAgo 49 = .ok (.aload 5, 2) := by decide +kernel
theorem dX10_openedLongestAgo_51 : decode cX10_openedLongestAgo 51 = .ok (.getfield 211, 3) := by decide +kernel
theorem dX10_openedLongestAgo_54 : decode cX10_openedLongestAgo 54 = .ok (.istore_n 3, 1) := by decide +kernel
theorem dX10_openedLongestAgo_55 : decode cX10_openedLongestAgo 55 = .ok (.iinc 4 1, 3) := by decide +kernel
theorem dX10_openedLongestAgo_58 : decode cX10_openedLongestAgo 58 = .ok (.goto (-51), 3) := by decide +kernel
theorem dX10_openedLongestAgo_61 : decode cX10_openedLongestAgo 61 = .ok (.iload_n 2, 1) := by decide +kernel
theorem dX10_openedLongestAgo_62 : decode cX10_openedLongestAgo 62 = .ok (.ireturn, 1) := by decide +kernel
theorem dX10_mayWrite_0 : decode cX10_mayWrite 0 = .ok (.aload_n 0, 1) := by decide +kernel
theorem dX10_mayWrite_1 : decode cX10_mayWrite 1 = .ok (.getfield 43, 3) := by decide +kernel
theorem dX10_mayWrite_4 : decode cX10_mayWrite 4 = .ok (.iload_n 2, 1) := by decide +kernel
theorem dX10_mayWrite_5 : decode cX10_mayWrite 5 = .ok (.iload_n 1, 1) := by decide +kernel
theorem dX10_mayWrite_6 : decode cX10_mayWrite 6 = .ok (.aload_n 0, 1) := by decide +kernel
theorem dX10_mayWrite_7 : decode cX10_mayWrite 7 = .ok (.getfield 58, 3) := by decide +kernel
theorem dX10_mayWrite_10 : decode cX10_mayWrite 10 = .ok (.invokevirtual 307, 3) := by decide +kernel
theorem dX10_mayWrite_13 : decode cX10_mayWrite 13 = .ok (.iconst 2, 1) := by decide +kernel
theorem dX10_mayWrite_14 : decode cX10_mayWrite 14 = .ok (.if_icmp .ne 7, 3) := by decide +kernel
theorem dX10_mayWrite_17 : decode cX10_mayWrite 17 = .ok (.iconst 1, 1) := by decide +kernel
theorem dX10_mayWrite_18 : decode cX10_mayWrite 18 = .ok (.goto 4, 3) := by decide +kernel
theorem dX10_mayWrite_21 : decode cX10_mayWrite 21 = .ok (.iconst 0, 1) := by decide +kernel
theorem dX10_mayWrite_22 : decode cX10_mayWrite 22 = .ok (.ireturn, 1) := by decide +kernel
theorem dX10_isLockedByOther_0 : decode cX10_isLockedByOther 0 = .ok (.aload_n 0, 1) := by decide +kernel
theorem dX10_isLockedByOther_1 : decode cX10_isLockedByOther 1 = .ok (.getfield 36, 3) := by decide +kernel
theorem dX10_isLockedByOther_4 : decode cX10_isLockedByOther 4 = .ok (.iload_n 2, 1) := by decide +kernel
theorem dX10_isLockedByOther_5 : decode cX10_isLockedByOther 5 = .ok (.aload_n 0, 1) := by decide +kernel
theorem dX10_isLockedByOther_6 : decode cX10_isLockedByOther 6 = .ok (.getfield 58, 3) := by decide +kernel
theorem dX10_isLockedByOther_9 : decode cX10_isLockedByOther 9 = .ok (.invokevirtual 223, 3) := by decide +kernel
theorem dX10_isLockedByOther_12 : decode cX10_isLockedByOther 12 = .ok (.istore_n 3, 1) := by decide +kernel
theorem dX10_isLockedByOther_13 : decode cX10_isLockedByOther 13 = .ok (.iload_n 3, 1) := by decide +kernel
theorem dX10_isLockedByOther_14 : decode cX10_isLockedByOther 14 = .ok (.iconst (-1), 1) := by decide +kernel
theorem dX10_isLockedByOther_15 : decode cX10_isLockedByOther 15 = .ok (.if_icmp .eq 12, 3) := by decide +kernel
theorem dX10_isLockedByOther_18 : decode cX10_isLockedByOther 18 = .ok (.iload_n 3, 1) := by decide +kernel
theorem dX10_isLockedByOther_19 : decode cX10_isLockedByOther 19 = .ok (.iload_n 1, 1) := by decide +kernel
theorem dX10_isLockedByOther_20 : decode cX10_isLockedByOther 20 = .ok (.if_icmp .eq 7, 3) := by decide +kernel
theorem dX10_isLockedByOther_23 : decode cX10_isLockedByOther 23 = .ok (.iconst 1, 1) := by decide +kernel
theorem dX10_isLockedByOther_24 : decode cX10_isLockedByOther 24 = .ok (.goto 4, 3) := by decide +kernel
theorem dX10_isLockedByOther_27 : decode cX10_isLockedByOther 27 = .ok (.iconst 0, 1) := by decide +kernel
theorem dX10_isLockedByOther_28 : decode cX10_isLockedByOther 28 = .ok (.ireturn, 1) := by decide +kernel
theorem dX10_mayAcknowledge_0 : decode cX10_mayAcknowledge 0 = .ok (.aload_n 0, 1) := by decide +kernel
theorem dX10_mayAcknowledge_1 : decode cX10_mayAcknowledge 1 = .ok (.getfield 15, 3) := by decide +kernel
theorem dX10_mayAcknowledge_4 : decode cX10_mayAcknowledge 4 = .ok (.iload_n 1, 1) := by decide +kernel
theorem dX10_mayAcknowledge_5 : decode cX10_mayAcknowledge 5 = .ok (.aaload, 1) := by decide +kernel
theorem dX10_mayAcknowledge_6 : decode cX10_mayAcknowledge 6 = .ok (.getfield 105, 3) := by decide +kernel
theorem dX10_mayAcknowledge_9 : decode cX10_mayAcknowledge 9 = .ok (.iload_n 2, 1) := by decide +kernel
theorem dX10_mayAcknowledge_10 : decode cX10_mayAcknowledge 10 = .ok (.aaload, 1) := by decide +kernel
theorem dX10_mayAcknowledge_11 : decode cX10_mayAcknowledge 11 = .ok (.getfield 114, 3) := by decide +kernel
theorem dX10_mayAcknowledge_14 : decode cX10_mayAcknowledge 14 = .ok (.istore_n 3, 1) := by decide +kernel
theorem dX10_mayAcknowledge_15 : decode cX10_mayAcknowledge 15 = .ok (.aload_n 0, 1) := by decide +kernel
theorem dX10_mayAcknowledge_16 : decode cX10_mayAcknowledge 16 = .ok (.getfield 83, 3) := by decide +kernel
theorem dX10_mayAcknowledge_19 : decode cX10_mayAcknowledge 19 = .ok (.aload_n 0, 1) := by decide +kernel
theorem dX10_mayAcknowledge_20 : decode cX10_mayAcknowledge 20 = .ok (.getfield 83, 3) := by decide +kernel
theorem dX10_mayAcknowledge_23 : decode cX10_mayAcknowledge 23 = .ok (.iload_n 2, 1) := by decide +kernel
theorem dX10_mayAcknowledge_24 : decode cX10_mayAcknowledge 24 = .ok (.invokevirtual 183, 3) := by decide +kernel
theorem dX10_mayAcknowledge_27 : decode cX10_mayAcknowledge 27 = .ok (.invokevirtual 186, 3) := by decide +kernel
theorem dX10_mayAcknowledge_30 : decode cX10_mayAcknowledge 30 = .ok (.getfield 258, 3) := by decide +kernel
theorem dX10_mayAcknowledge_33 : decode cX10_mayAcknowledge 33 = .ok (.istore 4, 2) := by decide +kernel
theorem dX10_mayAcknowledge_35 : decode cX10_mayAcknowledge 35 = .ok (.iload 4, 2) := by decide +kernel
theorem dX10_mayAcknowledge_37 : decode cX10_mayAcknowledge 37 = .ok (.iconst (-1), 1) := by decide +kernel
theorem dX10_mayAcknowledge_38 : decode cX10_mayAcknowledge 38 = .ok (.if_icmp .eq 13, 3) := by decide +kernel
theorem dX10_mayAcknowledge_41 : decode cX10_mayAcknowledge 41 = .ok (.aload_n 0, 1) := by decide +kernel
theorem dX10_mayAcknowledge_42 : decode cX10_mayAcknowledge 42 = .ok (.iload_n 1, 1) := by decide +kernel
theorem dX10_mayAcknowledge_43 : decode cX10_mayAcknowledge 43 = .ok (.iload 4, 2) := by decide +kernel
theorem dX10_mayAcknowledge_45 : decode cX10_mayAcknowledge 45 = .ok (.invokevirtual 355, 3) := by decide +kernel
theorem dX10_mayAcknowledge_48 : decode cX10_mayAcknowledge 48 = .ok (.ifCond .eq 7, 3) := by decide +kernel
theorem dX10_mayAcknowledge_51 : decode cX10_mayAcknowledge 51 = .ok (.iconst 1, 1) := by decide +kernel
theorem dX10_mayAcknowledge_52 : decode cX10_mayAcknowledge 52 = .ok (.goto 4, 3) := by decide +kernel
theorem dX10_mayAcknowledge_55 : decode cX10_mayAcknowledge 55 = .ok (.iconst 0, 1) := by decide +kernel
theorem dX10_mayAcknowledge_56 : decode cX10_mayAcknowledge 56 = .ok (.istore 5, 2) := by decide +kernel
theorem dX10_mayAcknowledge_58 : decode cX10_mayAcknowledge 58 = .ok (.iload_n 3, 1) := by decide +kernel
theorem dX10_mayAcknowledge_59 : decode cX10_mayAcknowledge 59 = .ok (.iconst (-1), 1) := by decide +kernel
theorem dX10_mayAcknowledge_60 : decode cX10_mayAcknowledge 60 = .ok (.if_icmp .eq 18, 3) := by decide +kernel
theorem dX10_mayAcknowledge_63 : decode cX10_mayAcknowledge 63 = .ok (.iload_n 3, 1) := by decide +kernel
theorem dX10_mayAcknowledge_64 : decode cX10_mayAcknowledge 64 = .ok (.iload 4, 2) := by decide +kernel
theorem dX10_mayAcknowledge_66 : decode cX10_mayAcknowledge 66 = .ok (.if_icmp .eq 12, 3) := by decide +kernel
theorem dX10_mayAcknowledge_69 : decode cX10_mayAcknowledge 69 = .ok (.aload_n 0, 1) := by decide +kernel
theorem dX10_mayAcknowledge_70 : decode cX10_mayAcknowledge 70 = .ok (.iload_n 1, 1) := by decide +kernel
theorem dX10_mayAcknowledge_71 : decode cX10_mayAcknowledge 71 = .ok (.iload_n 3, 1) := by decide +kernel
theorem dX10_mayAcknowledge_72 : decode cX10_mayAcknowledge 72 = .ok (.invokevirtual 355, 3) := by decide +kernel
theorem dX10_mayAcknowledge_75 : decode cX10_mayAcknowledge 75 = .ok (.ifCond .eq 7, 3) := by decide +kernel
theorem dX10_mayAcknowledge_78 : decode cX10_mayAcknowledge 78 = .ok (.iconst 1, 1) := by decide +kernel
theorem dX10_mayAcknowledge_79 : decode cX10_mayAcknowledge 79 = .ok (.goto 4, 3) := by decide +kernel
theorem dX10_mayAcknowledge_82 : decode cX10_mayAcknowledge 82 = .ok (.iconst 0, 1) := by decide +kernel
theorem dX10_mayAcknowledge_83 : decode cX10_mayAcknowledge 83 = .ok (.istore 6, 2) := by decide +kernel
theorem dX10_mayAcknowledge_85 : decode cX10_mayAcknowledge 85 = .ok (.iload 5, 2) := by decide +kernel
theorem dX10_mayAcknowledge_87 : decode cX10_mayAcknowledge 87 = .ok (.ifCond .eq 21, 3) := by decide +kernel
theorem dX10_mayAcknowledge_90 : decode cX10_mayAcknowledge 90 = .ok (.iload 6, 2) := by decide +kernel
theorem dX10_mayAcknowledge_92 : decode cX10_mayAcknowledge 92 = .ok (.ifCond .eq 16, 3) := by decide +kernel
theorem dX10_mayAcknowledge_95 : decode cX10_mayAcknowledge 95 = .ok (.aload_n 0, 1) := by decide +kernel
theorem dX10_mayAcknowledge_96 : decode cX10_mayAcknowledge 96 = .ok (.iload_n 1, 1) := by decide +kernel
theorem dX10_mayAcknowledge_97 : decode cX10_mayAcknowledge 97 = .ok (.iload_n 2, 1) := by decide +kernel
theorem dX10_mayAcknowledge_98 : decode cX10_mayAcknowledge 98 = .ok (.invokevirtual 214, 3) := by decide +kernel
theorem dX10_mayAcknowledge_101 : decode cX10_mayAcknowledge 101 = .ok (.ifCond .ne 7, 3) := by decide +kernel
theorem dX10_mayAcknowledge_104 : decode cX10_mayAcknowledge 104 = .ok (.iconst 1, 1) := by decide +kernel
theorem dX10_mayAcknowledge_105 : decode cX10_mayAcknowledge 105 = .ok (.goto 4, 3) := by decide +kernel
theorem dX10_mayAcknowledge_108 : decode cX10_mayAcknowledge 108 = .ok (.iconst 0, 1) := by decide +kernel
theorem dX10_mayAcknowledge_109 : decode cX10_mayAcknowledge 109 = .ok (.ireturn, 1) := by decide +kernel
theorem dX10_mayFollow_0 : decode cX10_mayFollow 0 = .ok (.aload_n 3, 1) := by decide +kernel
theorem dX10_mayFollow_1 : decode cX10_mayFollow 1 = .ok (.invokevirtual 358, 3) := by decide +kernel
theorem dX10_mayFollow_4 : decode cX10_mayFollow 4 = .ok (.ifCond .eq 10, 3) := by decide +kernel
theorem dX10_mayFollow_7 : decode cX10_mayFollow 7 = .ok (.aload_n 2, 1) := by decide +kernel
theorem dX10_mayFollow_8 : decode cX10_mayFollow 8 = .ok (.getfield 114, 3) := by decide +kernel
theorem dX10_mayFollow_11 : decode cX10_mayFollow 11 = .ok (.goto 7, 3) := by decide +kernel
theorem dX10_mayFollow_14 : decode cX10_mayFollow 14 = .ok (.aload_n 3, 1) := by decide +kernel
theorem dX10_mayFollow_15 : decode cX10_mayFollow 15 = .ok (.getfield 258, 3) := by decide +kernel
theorem dX10_mayFollow_18 : decode cX10_mayFollow 18 = .ok (.istore 4, 2) := by decide +kernel
theorem dX10_mayFollow_20 : decode cX10_mayFollow 20 = .ok (.iload 4, 2) := by decide +kernel
theorem dX10_mayFollow_22 : decode cX10_mayFollow 22 = .ok (.iconst (-1), 1) := by decide +kernel
theorem dX10_mayFollow_23 : decode cX10_mayFollow 23 = .ok (.if_icmp .eq 21, 3) := by decide +kernel
theorem dX10_mayFollow_26 : decode cX10_mayFollow 26 = .ok (.aload_n 0, 1) := by decide +kernel
theorem dX10_mayFollow_27 : decode cX10_mayFollow 27 = .ok (.getfield 43, 3) := by decide +kernel
theorem dX10_mayFollow_30 : decode cX10_mayFollow 30 = .ok (.iload 4, 2) := by decide +kernel
theorem dX10_mayFollow_32 : decode cX10_mayFollow 32 = .ok (.iload_n 1, 1) := by decide +kernel
theorem dX10_mayFollow_33 : decode cX10_mayFollow 33 = .ok (.aload_n 0, 1) := by decide +kernel
theorem dX10_mayFollow_34 : decode cX10_mayFollow 34 = .ok (.getfield 58, 3) := by decide +kernel
theorem dX10_mayFollow_37 : decode cX10_mayFollow 37 = .ok (.invokevirtual 307, 3) := by decide +kernel
theorem dX10_mayFollow_40 : decode cX10_mayFollow 40 = .ok (.iconst 1, 1) := by decide +kernel
theorem dX10_mayFollow_41 : decode cX10_mayFollow 41 = .ok (.if_icmp .lt 7, 3) := by decide +kernel
theorem dX10_mayFollow_44 : decode cX10_mayFollow 44 = .ok (.iconst 1, 1) := by decide +kernel
theorem dX10_mayFollow_45 : decode cX10_mayFollow 45 = .ok (.goto 4, 3) := by decide +kernel
theorem dX10_mayFollow_48 : decode cX10_mayFollow 48 = .ok (.iconst 0, 1) := by decide +kernel
theorem dX10_mayFollow_49 : decode cX10_mayFollow 49 = .ok (.ireturn, 1) := by decide +kernel
theorem dX10_lookAt_0 : decode cX10_lookAt 0 = .ok (.aload_n 0, 1) := by decide +kernel
theorem dX10_lookAt_1 : decode cX10_lookAt 1 = .ok (.getfield 15, 3) := by decide +kernel
theorem dX10_lookAt_4 : decode cX10_lookAt 4 = .ok (.iload_n 1, 1) := by decide +kernel
theorem dX10_lookAt_5 : decode cX10_lookAt 5 = .ok (.aaload, 1) := by decide +kernel
theorem dX10_lookAt_6 : decode cX10_lookAt 6 = .ok (.getfield 105, 3) := by decide +kernel
theorem dX10_lookAt_9 : decode cX10_lookAt 9 = .ok (.iload_n 2, 1) := by decide +kernel
theorem dX10_lookAt_10 : decode cX10_lookAt 10 = .ok (.aaload, 1) := by decide +kernel
theorem dX10_lookAt_11 : decode cX10_lookAt 11 = .ok (.astore_n 3, 1) := by decide +kernel
theorem dX10_lookAt_12 : decode cX10_lookAt 12 = .ok (.aload_n 0, 1) := by decide +kernel
theorem dX10_lookAt_13 : decode cX10_lookAt 13 = .ok (.getfield 83, 3) := by decide +kernel
theorem dX10_lookAt_16 : decode cX10_lookAt 16 = .ok (.iload_n 2, 1) := by decide +kernel
theorem dX10_lookAt_17 : decode cX10_lookAt 17 = .ok (.invokevirtual 183, 3) := by decide +kernel
theorem dX10_lookAt_20 : decode cX10_lookAt 20 = .ok (.istore 4, 2) := by decide +kernel
theorem dX10_lookAt_22 : decode cX10_lookAt 22 = .ok (.aload_n 0, 1) := by decide +kernel
theorem dX10_lookAt_23 : decode cX10_lookAt 23 = .ok (.iload_n 1, 1) := by decide +kernel
theorem dX10_lookAt_24 : decode cX10_lookAt 24 = .ok (.iload_n 2, 1) := by decide +kernel
theorem dX10_lookAt_25 : decode cX10_lookAt 25 = .ok (.invokevirtual 362, 3) := by decide +kernel
theorem dX10_lookAt_28 : decode cX10_lookAt 28 = .ok (.istore 5, 2) := by decide +kernel
theorem dX10_lookAt_30 : decode cX10_lookAt 30 = .ok (.iload 5, 2) := by decide +kernel
theorem dX10_lookAt_32 : decode cX10_lookAt 32 = .ok (.ifCond .eq 21, 3) := by decide +kernel
theorem dX10_lookAt_35 : decode cX10_lookAt 35 = .ok (.iload 4, 2) := by decide +kernel
theorem dX10_lookAt_37 : decode cX10_lookAt 37 = .ok (.aload_n 3, 1) := by decide +kernel
theorem dX10_lookAt_38 : decode cX10_lookAt 38 = .ok (.getfield 294, 3) := by decide +kernel
theorem dX10_lookAt_41 : decode cX10_lookAt 41 = .ok (.if_icmp .ne 12, 3) := by decide +kernel
theorem dX10_lookAt_44 : decode cX10_lookAt 44 = .ok (.aload_n 0, 1) := by decide +kernel
theorem dX10_lookAt_45 : decode cX10_lookAt 45 = .ok (.iload_n 1, 1) := by decide +kernel
theorem dX10_lookAt_46 : decode cX10_lookAt 46 = .ok (.iload_n 2, 1) := by decide +kernel
theorem dX10_lookAt_47 : decode cX10_lookAt 47 = .ok (.invokevirtual 365, 3) := by decide +kernel
theorem dX10_lookAt_50 : decode cX10_lookAt 50 = .ok (.goto 53, 3) := by decide +kernel
theorem dX10_lookAt_53 : decode cX10_lookAt 53 = .ok (.aload_n 0, 1) := by decide +kernel
theorem dX10_lookAt_54 : decode cX10_lookAt 54 = .ok (.getfield 83, 3) := by decide +kernel
theorem dX10_lookAt_57 : decode cX10_lookAt 57 = .ok (.iload 4, 2) := by decide +kernel
theorem dX10_lookAt_59 : decode cX10_lookAt 59 = .ok (.invokevirtual 186, 3) := by decide +kernel
theorem dX10_lookAt_62 : decode cX10_lookAt 62 = .ok (.aload_n 3, 1) := by decide +kernel
theorem dX10_lookAt_63 : decode cX10_lookAt 63 = .ok (.getfield 114, 3) := by decide +kernel
theorem dX10_lookAt_66 : decode cX10_lookAt 66 = .ok (.aload_n 3, 1) := by decide +kernel
theorem dX10_lookAt_67 : decode cX10_lookAt 67 = .ok (.getfield 165, 3) := by decide +kernel
theorem dX10_lookAt_70 : decode cX10_lookAt 70 = .ok (.invokevirtual 337, 3) := by decide +kernel
theorem dX10_lookAt_73 : decode cX10_lookAt 73 = .ok (.ifCond .eq 12, 3) := by decide +kernel
theorem dX10_lookAt_76 : decode cX10_lookAt 76 = .ok (.aload_n 3, 1) := by decide +kernel
theorem dX10_lookAt_77 : decode cX10_lookAt 77 = .ok (.iload 4, 2) := by decide +kernel
theorem dX10_lookAt_79 : decode cX10_lookAt 79 = .ok (.putfield 294, 3) := by decide +kernel
theorem dX10_lookAt_82 : decode cX10_lookAt 82 = .ok (.goto 21, 3) := by decide +kernel
theorem dX10_lookAt_85 : decode cX10_lookAt 85 = .ok (.aload_n 0, 1) := by decide +kernel
theorem dX10_lookAt_86 : decode cX10_lookAt 86 = .ok (.dup, 1) := by decide +kernel
theorem dX10_lookAt_87 : decode cX10_lookAt 87 = .ok (.getfield 64, 3) := by decide +kernel
theorem dX10_lookAt_90 : decode cX10_lookAt 90 = .ok (.iconst 1, 1) := by decide +kernel
theorem dX10_lookAt_91 : decode cX10_lookAt 91 = .ok (.iadd, 1) := by decide +kernel
theorem dX10_lookAt_92 : decode cX10_lookAt 92 = .ok (.putfield 64, 3) := by decide +kernel
theorem dX10_lookAt_95 : decode cX10_lookAt 95 = .ok (.aload_n 0, 1) := by decide +kernel
theorem dX10_lookAt_96 : decode cX10_lookAt 96 = .ok (.iload_n 1, 1) := by decide +kernel
theorem dX10_lookAt_97 : decode cX10_lookAt 97 = .ok (.iload_n 2, 1) := by decide +kernel
theorem dX10_lookAt_98 : decode cX10_lookAt 98 = .ok (.iload 5, 2) := by decide +kernel
theorem dX10_lookAt_100 : decode cX10_lookAt 100 = .ok (.invokevirtual 368, 3) := by decide +kernel
theorem dX10_lookAt_103 : decode cX10_lookAt 103 = .ok (.return_, 1) := by decide +kernel
theorem dX10_settle_0 : decode cX10_settle 0 = .ok (.aload_n 0, 1) := by decide +kernel
theorem dX10_settle_1 : decode cX10_settle 1 = .ok (.getfield 15, 3) := by decide +kernel
theorem dX10_settle_4 : decode cX10_settle 4 = .ok (.iload_n 1, 1) := by decide +kernel
theorem dX10_settle_5 : decode cX10_settle 5 = .ok (.aaload, 1) := by decide +kernel
theorem dX10_settle_6 : decode cX10_settle 6 = .ok (.getfield 105, 3) := by decide +kernel
theorem dX10_settle_9 : decode cX10_settle 9 = .ok (.iload_n 2, 1) := by decide +kernel
theorem dX10_settle_10 : decode cX10_settle 10 = .ok (.aaload, 1) := by decide +kernel
theorem dX10_settle_11 : decode cX10_settle 11 = .ok (.astore 4, 2) := by decide +kernel
theorem dX10_settle_13 : decode cX10_settle 13 = .ok (.aload_n 0, 1) := by decide +kernel
theorem dX10_settle_14 : decode cX10_settle 14 = .ok (.getfield 83, 3) := by decide +kernel
theorem dX10_settle_17 : decode cX10_settle 17 = .ok (.iload_n 2, 1) := by decide +kernel
theorem dX10_settle_18 : decode cX10_settle 18 = .ok (.invokevirtual 183, 3) := by decide +kernel
theorem dX10_settle_21 : decode cX10_settle 21 = .ok (.istore 5, 2) := by decide +kernel
theorem dX10_settle_23 : decode cX10_settle 23 = .ok (.aload 4, 2) := by decide +kernel
theorem dX10_settle_25 : decode cX10_settle 25 = .ok (.getfield 109, 3) := by decide +kernel
theorem dX10_settle_28 : decode cX10_settle 28 = .ok (.ifCond .ne 22, 3) := by decide +kernel
theorem dX10_settle_31 : decode cX10_settle 31 = .ok (.aload 4, 2) := by decide +kernel
theorem dX10_settle_33 : decode cX10_settle 33 = .ok (.iload 5, 2) := by decide +kernel
theorem dX10_settle_35 : decode cX10_settle 35 = .ok (.aload_n 0, 1) := by decide +kernel
theorem dX10_settle_36 : decode cX10_settle 36 = .ok (.getfield 83, 3) := by decide +kernel
theorem dX10_settle_39 : decode cX10_settle 39 = .ok (.iload 5, 2) := by decide +kernel
theorem dX10_settle_41 : decode cX10_settle 41 = .ok (.invokevirtual 186, 3) := by decide +kernel
theorem dX10_settle_44 : decode cX10_settle 44 = .ok (.invokevirtual 372, 3) := by decide +kernel
theorem dX10_settle_47 : decode cX10_settle 47 = .ok (.goto 37, 3) := by decide +kernel
theorem dX10_settle_50 : decode cX10_settle 50 = .ok (.iload_n 3, 1) := by decide +kernel
theorem dX10_settle_51 : decode cX10_settle 51 = .ok (.ifCond .eq 27, 3) := by decide +kernel
theorem dX10_settle_54 : decode cX10_settle 54 = .ok (.aload_n 0, 1) := by decide +kernel
theorem dX10_settle_55 : decode cX10_settle 55 = .ok (.getfield 83, 3) := by decide +kernel
theorem dX10_settle_58 : decode cX10_settle 58 = .ok (.iload 5, 2) := by decide +kernel
theorem dX10_settle_60 : decode cX10_settle 60 = .ok (.invokevirtual 186, 3) := by decide +kernel
theorem dX10_settle_63 : decode cX10_settle 63 = .ok (.invokevirtual 358, 3) := by decide +kernel
theorem dX10_settle_66 : decode cX10_settle 66 = .ok (.ifCond .eq 12, 3) := by decide +kernel
theorem dX10_settle_69 : decode cX10_settle 69 = .ok (.aload_n 0, 1) := by decide +kernel
theorem dX10_settle_70 : decode cX10_settle 70 = .ok (.iload_n 1, 1) := by decide +kernel
theorem dX10_settle_71 : decode cX10_settle 71 = .ok (.iload_n 2, 1) := by decide +kernel
theorem dX10_settle_72 : decode cX10_settle 72 = .ok (.invokevirtual 365, 3) := by decide +kernel
theorem dX10_settle_75 : decode cX10_settle 75 = .ok (.goto 9, 3) := by decide +kernel
theorem dX10_settle_78 : decode cX10_settle 78 = .ok (.aload_n 0, 1) := by decide +kernel
theorem dX10_settle_79 : decode cX10_settle 79 = .ok (.iload_n 1, 1) := by decide +kernel
theorem dX10_settle_80 : decode cX10_settle 80 = .ok (.iload_n 2, 1) := by decide +kernel
theorem dX10_settle_81 : decode cX10_settle 81 = .ok (.invokevirtual 376, 3) := by decide +kernel
theorem dX10_settle_84 : decode cX10_settle 84 = .ok (.return_, 1) := by decide +kernel
theorem dX10_keepBoth_0 : decode cX10_keepBoth 0 = .ok (.aload_n 0, 1) := by decide +kernel
theorem dX10_keepBoth_1 : decode cX10_keepBoth 1 = .ok (.getfield 15, 3) := by decide +kernel
theorem dX10_keepBoth_4 : decode cX10_keepBoth 4 = .ok (.iload_n 1, 1) := by decide +kernel
theorem dX10_keepBoth_5 : decode cX10_keepBoth 5 = .ok (.aaload, 1) := by decide +kernel
theorem dX10_keepBoth_6 : decode cX10_keepBoth 6 = .ok (.getfield 105, 3) := by decide +kernel
theorem dX10_keepBoth_9 : decode cX10_keepBoth 9 = .ok (.iload_n 2, 1) := by decide +kernel
theorem dX10_keepBoth_10 : decode cX10_keepBoth 10 = .ok (.aaload, 1) := by decide +kernel
theorem dX10_keepBoth_11 : decode cX10_keepBoth 11 = .ok (.astore_n 3, 1) := by decide +kernel
theorem dX10_keepBoth_12 : decode cX10_keepBoth 12 = .ok (.aload_n 0, 1) := by decide +kernel
theorem dX10_keepBoth_13 : decode cX10_keepBoth 13 = .ok (.invokevirtual 379, 3) := by decide +kernel
theorem dX10_keepBoth_16 : decode cX10_keepBoth 16 = .ok (.istore 4, 2) := by decide +kernel
theorem dX10_keepBoth_18 : decode cX10_keepBoth 18 = .ok (.iload 4, 2) := by decide +kernel
theorem dX10_keepBoth_20 : decode cX10_keepBoth 20 = .ok (.iconst (-1), 1) := by decide +kernel
theorem dX10_keepBoth_21 : decode cX10_keepBoth 21 = .ok (.if_icmp .eq 15, 3) := by decide +kernel
theorem dX10_keepBoth_24 : decode cX10_keepBoth 24 = .ok (.aload_n 0, 1) := by decide +kernel
theorem dX10_keepBoth_25 : decode cX10_keepBoth 25 = .ok (.iload_n 1, 1) := by decide +kernel
theorem dX10_keepBoth_26 : decode cX10_keepBoth 26 = .ok (.aload_n 3, 1) := by decide +kernel
theorem dX10_keepBoth_27 : decode cX10_keepBoth 27 = .ok (.getfield 114, 3) := by decide +kernel
theorem dX10_keepBoth_30 : decode cX10_keepBoth 30 = .ok (.invokevirtual 355, 3) := by decide +kernel
theorem dX10_keepBoth_33 : decode cX10_keepBoth 33 = .ok (.ifCond .ne 14, 3) := by decide +kernel
theorem dX10_keepBoth_36 : decode cX10_keepBoth 36 = .ok (.aload_n 0, 1) := by decide +kernel
theorem dX10_keepBoth_37 : decode cX10_keepBoth 37 = .ok (.dup, 1) := by decide +kernel
theorem dX10_keepBoth_38 : decode cX10_keepBoth 38 = .ok (.getfield 67, 3) := by decide +kernel
theorem dX10_keepBoth_41 : decode cX10_keepBoth 41 = .ok (.iconst 1, 1) := by decide +kernel
theorem dX10_keepBoth_42 : decode cX10_keepBoth 42 = .ok (.iadd, 1) := by decide +kernel
theorem dX10_keepBoth_43 : decode cX10_keepBoth 43 = .ok (.putfield 67, 3) := by decide +kernel
theorem dX10_keepBoth_46 : decode cX10_keepBoth 46 = .ok (.return_, 1) := by decide +kernel
theorem dX10_keepBoth_47 : decode cX10_keepBoth 47 = .ok (.aload_n 0, 1) := by decide +kernel
theorem dX10_keepBoth_48 : decode cX10_keepBoth 48 = .ok (.getfield 15, 3) := by decide +kernel
theorem dX10_keepBoth_51 : decode cX10_keepBoth 51 = .ok (.iload_n 1, 1) := by decide +kernel
theorem dX10_keepBoth_52 : decode cX10_keepBoth 52 = .ok (.aaload, 1) := by decide +kernel
theorem dX10_keepBoth_53 : decode cX10_keepBoth 53 = .ok (.getfield 105, 3) := by decide +kernel
theorem dX10_keepBoth_56 : decode cX10_keepBoth 56 = .ok (.iload 4, 2) := by decide +kernel
theorem dX10_keepBoth_58 : decode cX10_keepBoth 58 = .ok (.aaload, 1) := by decide +kernel
theorem dX10_keepBoth_59 : decode cX10_keepBoth 59 = .ok (.aload_n 3, 1) := by decide +kernel
theorem dX10_keepBoth_60 : decode cX10_keepBoth 60 = .ok (.getfield 114, 3) := by decide +kernel
theorem dX10_keepBoth_63 : decode cX10_keepBoth 63 = .ok (.aload_n 3, 1) := by decide +kernel
theorem dX10_keepBoth_64 : decode cX10_keepBoth 64 = .ok (.getfield 165, 3) := by decide +kernel
theorem dX10_keepBoth_67 : decode cX10_keepBoth 67 = .ok (.invokevirtual 117, 3) := by decide +kernel
theorem dX10_keepBoth_70 : decode cX10_keepBoth 70 = .ok (.aload_n 0, 1) := by decide +kernel
theorem dX10_keepBoth_71 : decode cX10_keepBoth 71 = .ok (.iload_n 1, 1) := by decide +kernel
theorem dX10_keepBoth_72 : decode cX10_keepBoth 72 = .ok (.iload 4, 2) := by decide +kernel
theorem dX10_keepBoth_74 : decode cX10_keepBoth 74 = .ok (.invokevirtual 365, 3) := by decide +kernel
theorem dX10_keepBoth_77 : decode cX10_keepBoth 77 = .ok (.aload_n 3, 1) := by decide +kernel
theorem dX10_keepBoth_78 : decode cX10_keepBoth 78 = .ok (.aload_n 0, 1) := by decide +kernel
theorem dX10_keepBoth_79 : decode cX10_keepBoth 79 = .ok (.getfield 83, 3) := by decide +kernel
theorem dX10_keepBoth_82 : decode cX10_keepBoth 82 = .ok (.iload_n 2, 1) := by decide +kernel
theorem dX10_keepBoth_83 : decode cX10_keepBoth 83 = .ok (.invokevirtual 183, 3) := by decide +kernel
theorem dX10_keepBoth_86 : decode cX10_keepBoth 86 = .ok (.aload_n 0, 1) := by decide +kernel
theorem dX10_keepBoth_87 : decode cX10_keepBoth 87 = .ok (.getfield 83, 3) := by decide +kernel
theorem dX10_keepBoth_90 : decode cX10_keepBoth 90 = .ok (.aload_n 0, 1) := by decide +kernel
theorem dX10_keepBoth_91 : decode cX10_keepBoth 91 = .ok (.getfield 83, 3) := by decide +kernel
theorem dX10_keepBoth_94 : decode cX10_keepBoth 94 = .ok (.iload_n 2, 1) := by decide +kernel
theorem dX10_keepBoth_95 : decode cX10_keepBoth 95 = .ok (.invokevirtual 183, 3) := by decide +kernel
theorem dX10_keepBoth_98 : decode cX10_keepBoth 98 = .ok (.invokevirtual 186, 3) := by decide +kernel
theorem dX10_keepBoth_101 : decode cX10_keepBoth 101 = .ok (.invokevirtual 372, 3) := by decide +kernel
theorem dX10_keepBoth_104 : decode cX10_keepBoth 104 = .ok (.return_, 1) := by decide +kernel
theorem dX10_spareFile_0 : decode cX10_spareFile 0 = .ok (.iconst 0, 1) := by decide +kernel
theorem dX10_spareFile_1 : decode cX10_spareFile 1 = .ok (.istore_n 1, 1) := by decide +kernel
theorem dX10_spareFile_2 : decode cX10_spareFile 2 = .ok (.iload_n 1, 1) := by decide +kernel
theorem dX10_spareFile_3 : decode cX10_spareFile 3 = .ok (.bipush 16, 2) := by decide +kernel
theorem dX10_spareFile_5 : decode cX10_spareFile 5 = .ok (.if_icmp .ge 31, 3) := by decide +kernel
theorem dX10_spareFile_8 : decode cX10_spareFile 8 = .ok (.aload_n 0, 1) := by decide +kernel
theorem dX10_spareFile_9 : decode cX10_spareFile 9 = .ok (.getfield 83, 3) := by decide +kernel
theorem dX10_spareFile_12 : decode cX10_spareFile 12 = .ok (.iload_n 1, 1) := by decide +kernel
theorem dX10_spareFile_13 : decode cX10_spareFile 13 = .ok (.invokevirtual 183, 3) := by decide +kernel
theorem dX10_spareFile_16 : decode cX10_spareFile 16 = .ok (.iconst (-1), 1) := by decide +kernel
theorem dX10_spareFile_17 : decode cX10_spareFile 17 = .ok (.if_icmp .ne 13, 3) := by decide +kernel
theorem dX10_spareFile_20 : decode cX10_spareFile 20 = .ok (.aload_n 0, 1) := by decide +kernel
theorem dX10_spareFile_21 : decode cX10_spareFile 21 = .ok (.iload_n 1, 1) := by decide +kernel
theorem dX10_spareFile_22 : decode cX10_spareFile 22 = .ok (.invokevirtual 382, 3) := by decide +kernel
theorem dX10_spareFile_25 : decode cX10_spareFile 25 = .ok (.ifCond .eq 5, 3) := by decide +kernel
theorem dX10_spareFile_28 : decode cX10_spareFile 28 = .ok (.iload_n 1, 1) := by decide +kernel
theorem dX10_spareFile_29 : decode cX10_spareFile 29 = .ok (.ireturn, 1) := by decide +kernel
theorem dX10_spareFile_30 : decode cX10_spareFile 30 = .ok (.iinc 1 1, 3) := by decide +kernel
theorem dX10_spareFile_33 : decode cX10_spareFile 33 = .ok (.goto (-31), 3) := by decide +kernel
theorem dX10_spareFile_36 : decode cX10_spareFile 36 = .ok (.iconst (-1), 1) := by decide +kernel
theorem dX10_spareFile_37 : decode cX10_spareFile 37 = .ok (.ireturn, 1) := by decide +kernel
theorem dX10_isAtNoMachine_0 : decode cX10_isAtNoMachine 0 = .ok (.iconst 0, 1) := by decide +kernel
theorem dX10_isAtNoMachine_1 : decode cX10_isAtNoMachine 1 = .ok (.istore_n 2, 1) := by decide +kernel
theorem dX10_isAtNoMachine_2 : decode cX10_isAtNoMachine 2 = .ok (.iload_n 2, 1) := by decide +kernel
theorem dX10_isAtNoMachine_3 : decode cX10_isAtNoMachine 3 = .ok (.iconst 3, 1) := by decide +kernel
theorem dX10_isAtNoMachine_4 : decode cX10_isAtNoMachine 4 = .ok (.if_icmp .ge 28, 3) := by decide +kernel
theorem dX10_isAtNoMachine_7 : decode cX10_isAtNoMachine 7 = .ok (.aload_n 0, 1) := by decide +kernel
theorem dX10_isAtNoMachine_8 : decode cX10_isAtNoMachine 8 = .ok (.getfield 15, 3) := by decide +kernel
theorem dX10_isAtNoMachine_11 : decode cX10_isAtNoMachine 11 = .ok (.iload_n 2, 1) := by decide +kernel
theorem dX10_isAtNoMachine_12 : decode cX10_isAtNoMachine 12 = .ok (.aaload, 1) := by decide +kernel
theorem dX10_isAtNoMachine_13 : decode cX10_isAtNoMachine 13 = .ok (.getfield 105, 3) := by decide +kernel
theorem dX10_isAtNoMachine_16 : decode cX10_isAtNoMachine 16 = .ok (.iload_n 1, 1) := by decide +kernel
theorem dX10_isAtNoMachine_17 : decode cX10_isAtNoMachine 17 = .ok (.aaload, 1) := by decide +kernel
theorem dX10_isAtNoMachine_18 : decode cX10_isAtNoMachine 18 = .ok (.getfield 109, 3) := by decide +kernel
theorem dX10_isAtNoMachine_21 : decode cX10_isAtNoMachine 21 = .ok (.ifCond .eq 5, 3) := by decide +kernel
theorem dX10_isAtNoMachine_24 : decode cX10_isAtNoMachine 24 = .ok (.iconst 0, 1) := by decide +kernel
theorem dX10_isAtNoMachine_25 : decode cX10_isAtNoMachine 25 = .ok (.ireturn, 1) := by decide +kernel
theorem dX10_isAtNoMachine_26 : decode cX10_isAtNoMachine 26 = .ok (.iinc 2 1, 3) := by decide +kernel
theorem dX10_isAtNoMachine_29 : decode cX10_isAtNoMachine 29 = .ok (.goto (-27), 3) := by decide +kernel
theorem dX10_isAtNoMachine_32 : decode cX10_isAtNoMachine 32 = .ok (.iconst 1, 1) := by decide +kernel
theorem dX10_isAtNoMachine_33 : decode cX10_isAtNoMachine 33 = .ok (.ireturn, 1) := by decide +kernel
theorem dX10_acknowledge_0 : decode cX10_acknowledge 0 = .ok (.aload_n 0, 1) := by decide +kernel
theorem dX10_acknowledge_1 : decode cX10_acknowledge 1 = .ok (.getfield 15, 3) := by decide +kernel
theorem dX10_acknowledge_4 : decode cX10_acknowledge 4 = .ok (.iload_n 1, 1) := by decide +kernel
theorem dX10_acknowledge_5 : decode cX10_acknowledge 5 = .ok (.aaload, 1) := by decide +kernel
theorem dX10_acknowledge_6 : decode cX10_acknowledge 6 = .ok (.getfield 105, 3) := by decide +kernel
theorem dX10_acknowledge_9 : decode cX10_acknowledge 9 = .ok (.iload_n 2, 1) := by decide +kernel
theorem dX10_acknowledge_10 : decode cX10_acknowledge 10 = .ok (.aaload, 1) := by decide +kernel
theorem dX10_acknowledge_11 : decode cX10_acknowledge 11 = .ok (.astore_n 3, 1) := by decide +kernel
theorem dX10_acknowledge_12 : decode cX10_acknowledge 12 = .ok (.aload_n 3, 1) := by decide +kernel
theorem dX10_acknowledge_13 : decode cX10_acknowledge 13 = .ok (.aload_n 0, 1) := by decide +kernel
theorem dX10_acknowledge_14 : decode cX10_acknowledge 14 = .ok (.getfield 83, 3) := by decide +kernel
theorem dX10_acknowledge_17 : decode cX10_acknowledge 17 = .ok (.new 242, 3) := by decide +kernel
theorem dX10_acknowledge_20 : decode cX10_acknowledge 20 = .ok (.dup, 1) := by decide +kernel
theorem dX10_acknowledge_21 : decode cX10_acknowledge 21 = .ok (.iload_n 2, 1) := by decide +kernel
theorem dX10_acknowledge_22 : decode cX10_acknowledge 22 = .ok (.aload_n 0, 1) := by decide +kernel
theorem dX10_acknowledge_23 : decode cX10_acknowledge 23 = .ok (.getfield 58, 3) := by decide +kernel
theorem dX10_acknowledge_26 : decode cX10_acknowledge 26 = .ok (.iload_n 1, 1) := by decide +kernel
theorem dX10_acknowledge_27 : decode cX10_acknowledge 27 = .ok (.aload_n 3, 1) := by decide +kernel
theorem dX10_acknowledge_28 : decode cX10_acknowledge 28 = .ok (.getfield 114, 3) := by decide +kernel
theorem dX10_acknowledge_31 : decode cX10_acknowledge 31 = .ok (.aload_n 3, 1) := by decide +kernel
theorem dX10_acknowledge_32 : decode cX10_acknowledge 32 = .ok (.getfield 165, 3) := by decide +kernel
theorem dX10_acknowledge_35 : decode cX10_acknowledge 35 = .ok (.invokespecial 386, 3) := by decide +kernel
theorem dX10_acknowledge_38 : decode cX10_acknowledge 38 = .ok (.invokevirtual 389, 3) := by decide +kernel
theorem dX10_acknowledge_41 : decode cX10_acknowledge 41 = .ok (.putfield 294, 3) := by decide +kernel
theorem dX10_acknowledge_44 : decode cX10_acknowledge 44 = .ok (.return_, 1) := by decide +kernel
theorem dX10_makeAsOf_0 : decode cX10_makeAsOf 0 = .ok (.aload_n 0, 1) := by decide +kernel
theorem dX10_makeAsOf_1 : decode cX10_makeAsOf 1 = .ok (.getfield 83, 3) := by decide +kernel
theorem dX10_makeAsOf_4 : decode cX10_makeAsOf 4 = .ok (.iload_n 1, 1) := by decide +kernel
theorem dX10_makeAsOf_5 : decode cX10_makeAsOf 5 = .ok (.iload_n 2, 1) := by decide +kernel
theorem dX10_makeAsOf_6 : decode cX10_makeAsOf 6 = .ok (.invokevirtual 255, 3) := by decide +kernel
theorem dX10_makeAsOf_9 : decode cX10_makeAsOf 9 = .ok (.istore_n 3, 1) := by decide +kernel
theorem dX10_makeAsOf_10 : decode cX10_makeAsOf 10 = .ok (.aload_n 0, 1) := by decide +kernel
theorem dX10_makeAsOf_11 : decode cX10_makeAsOf 11 = .ok (.getfield 83, 3) := by decide +kernel
theorem dX10_makeAsOf_14 : decode cX10_makeAsOf 14 = .ok (.iload_n 3, 1) := by decide +kernel
theorem dX10_makeAsOf_15 : decode cX10_makeAsOf 15 = .ok (.invokevirtual 186, 3) := by decide +kernel
theorem dX10_makeAsOf_18 : decode cX10_makeAsOf 18 = .ok (.astore 4, 2) := by decide +kernel
theorem dX10_makeAsOf_20 : decode cX10_makeAsOf 20 = .ok (.iload_n 3, 1) := by decide +kernel
theorem dX10_makeAsOf_21 : decode cX10_makeAsOf 21 = .ok (.iconst (-1), 1) := by decide +kernel
theorem dX10_makeAsOf_22 : decode cX10_makeAsOf 22 = .ok (.if_icmp .eq 34, 3) := by decide +kernel
theorem dX10_makeAsOf_25 : decode cX10_makeAsOf 25 = .ok (.aload_n 0, 1) := by decide +kernel
theorem dX10_makeAsOf_26 : decode cX10_makeAsOf 26 = .ok (.getfield 83, 3) := by decide +kernel
theorem dX10_makeAsOf_29 : decode cX10_makeAsOf 29 = .ok (.aload_n 0, 1) := by decide +kernel
theorem dX10_makeAsOf_30 : decode cX10_makeAsOf 30 = .ok (.getfield 83, 3) := by decide +kernel
theorem dX10_makeAsOf_33 : decode cX10_makeAsOf 33 = .ok (.iload_n 1, 1) := by decide +kernel
theorem dX10_makeAsOf_34 : decode cX10_makeAsOf 34 = .ok (.invokevirtual 183, 3) := by decide +kernel
theorem dX10_makeAsOf_37 : decode cX10_makeAsOf 37 = .ok (.invokevirtual 186, 3) := by decide +kernel
theorem dX10_makeAsOf_40 : decode cX10_makeAsOf 40 = .ok (.aload 4, 2) := by decide +kernel
theorem dX10_makeAsOf_42 : decode cX10_makeAsOf 42 = .ok (.getfield 258, 3) := by decide +kernel
theorem dX10_makeAsOf_45 : decode cX10_makeAsOf 45 = .ok (.aload 4, 2) := by decide +kernel
theorem dX10_makeAsOf_47 : decode cX10_makeAsOf 47 = .ok (.getfield 269, 3) := by decide +kernel
theorem dX10_makeAsOf_50 : decode cX10_makeAsOf 50 = .ok (.invokevirtual 337, 3) := by decide +kernel
theorem dX10_makeAsOf_53 : decode cX10_makeAsOf 53 = .ok (.ifCond .eq 5, 3) := by decide +kernel
theorem dX10_makeAsOf_56 : decode cX10_makeAsOf 56 = .ok (.iconst (-1), 1) := by decide +kernel
theorem dX10_makeAsOf_57 : decode cX10_makeAsOf 57 = .ok (.ireturn, 1) := by decide +kernel
theorem dX10_makeAsOf_58 : decode cX10_makeAsOf 58 = .ok (.aload_n 0, 1) := by decide +kernel
theorem dX10_makeAsOf_59 : decode cX10_makeAsOf 59 = .ok (.getfield 83, 3) := by decide +kernel
theorem dX10_makeAsOf_62 : decode cX10_makeAsOf 62 = .ok (.new 242, 3) := by decide +kernel
theorem dX10_makeAsOf_65 : decode cX10_makeAsOf 65 = .ok (.dup, 1) := by decide +kernel
theorem dX10_makeAsOf_66 : decode cX10_makeAsOf 66 = .ok (.iload_n 1, 1) := by decide +kernel
theorem dX10_makeAsOf_67 : decode cX10_makeAsOf 67 = .ok (.aload_n 0, 1) := by decide +kernel
theorem dX10_makeAsOf_68 : decode cX10_makeAsOf 68 = .ok (.getfield 58, 3) := by decide +kernel
theorem dX10_makeAsOf_71 : decode cX10_makeAsOf 71 = .ok (.iconst (-1), 1) := by decide +kernel
theorem dX10_makeAsOf_72 : decode cX10_makeAsOf 72 = .ok (.aload 4, 2) := by decide +kernel
theorem dX10_makeAsOf_74 : decode cX10_makeAsOf 74 = .ok (.getfield 258, 3) := by decide +kernel
theorem dX10_makeAsOf_77 : decode cX10_makeAsOf 77 = .ok (.aload 4, 2) := by decide +kernel
theorem dX10_makeAsOf_79 : decode cX10_makeAsOf 79 = .ok (.getfield 269, 3) := by decide +kernel
theorem dX10_makeAsOf_82 : decode cX10_makeAsOf 82 = .ok (.invokespecial 386, 3) := by decide +kernel
theorem dX10_makeAsOf_85 : decode cX10_makeAsOf 85 = .ok (.invokevirtual 389, 3) := by decide +kernel
theorem dX10_makeAsOf_88 : decode cX10_makeAsOf 88 = .ok (.ireturn, 1) := by decide +kernel
theorem dX10_isToBeDropped_0 : decode cX10_isToBeDropped 0 = .ok (.aload_n 0, 1) := by decide +kernel
theorem dX10_isToBeDropped_1 : decode cX10_isToBeDropped 1 = .ok (.getfield 58, 3) := by decide +kernel
theorem dX10_isToBeDropped_4 : decode cX10_isToBeDropped 4 = .ok (.aload_n 2, 1) := by decide +kernel
theorem dX10_isToBeDropped_5 : decode cX10_isToBeDropped 5 = .ok (.getfield 302, 3) := by decide +kernel
theorem dX10_isToBeDropped_8 : decode cX10_isToBeDropped 8 = .ok (.isub, 1) := by decide +kernel
theorem dX10_isToBeDropped_9 : decode cX10_isToBeDropped 9 = .ok (.istore_n 3, 1) := by decide +kernel
theorem dX10_isToBeDropped_10 : decode cX10_isToBeDropped 10 = .ok (.iload_n 3, 1) := by decide +kernel
theorem dX10_isToBeDropped_11 : decode cX10_isToBeDropped 11 = .ok (.bipush 24, 2) := by decide +kernel
theorem dX10_isToBeDropped_13 : decode cX10_isToBeDropped 13 = .ok (.if_icmp .lt 21, 3) := by decide +kernel
theorem dX10_isToBeDropped_16 : decode cX10_isToBeDropped 16 = .ok (.aload_n 0, 1) := by decide +kernel
theorem dX10_isToBeDropped_17 : decode cX10_isToBeDropped 17 = .ok (.getfield 50, 3) := by decide +kernel
theorem dX10_isToBeDropped_20 : decode cX10_isToBeDropped 20 = .ok (.aload_n 2, 1) := by decide +kernel
theorem dX10_isToBeDropped_21 : decode cX10_isToBeDropped 21 = .ok (.getfield 300, 3) := by decide +kernel
theorem dX10_isToBeDropped_24 : decode cX10_isToBeDropped 24 = .ok (.aload_n 2, 1) := by decide +kernel
theorem dX10_isToBeDropped_25 : decode cX10_isToBeDropped 25 = .ok (.getfield 302, 3) := by decide +kernel
theorem dX10_isToBeDropped_28 : decode cX10_isToBeDropped 28 = .ok (.invokevirtual 392, 3) := by decide +kernel
theorem dX10_isToBeDropped_31 : decode cX10_isToBeDropped 31 = .ok (.ifCond .eq 5, 3) := by decide +kernel
theorem dX10_isToBeDropped_34 : decode cX10_isToBeDropped 34 = .ok (.iconst 0, 1) := by decide +kernel
theorem dX10_isToBeDropped_35 : decode cX10_isToBeDropped 35 = .ok (.ireturn, 1) := by decide +kernel
theorem dX10_isToBeDropped_36 : decode cX10_isToBeDropped 36 = .ok (.iload_n 3, 1) := by decide +kernel
theorem dX10_isToBeDropped_37 : decode cX10_isToBeDropped 37 = .ok (.sipush 240, 3) := by decide +kernel
theorem dX10_isToBeDropped_40 : decode cX10_isToBeDropped 40 = .ok (.if_icmp .lt 24, 3) := by decide +kernel
theorem dX10_isToBeDropped_43 : decode cX10_isToBeDropped 43 = .ok (.iload_n 1, 1) := by decide +kernel
theorem dX10_isToBeDropped_44 : decode cX10_isToBeDropped 44 = .ok (.aload_n 0, 1) := by decide +kernel
theorem dX10_isToBeDropped_45 : decode cX10_isToBeDropped 45 = .ok (.getfield 83, 3) := by decide +kernel
theorem dX10_isToBeDropped_48 : decode cX10_isToBeDropped 48 = .ok (.aload_n 2, 1) := by decide +kernel
theorem dX10_isToBeDropped_49 : decode cX10_isToBeDropped 49 = .ok (.getfield 300, 3) := by decide +kernel
theorem dX10_isToBeDropped_52 : decode cX10_isToBeDropped 52 = .ok (.invokevirtual 183, 3) := by decide +kernel
theorem dX10_isToBeDropped_55 : decode cX10_isToBeDropped 55 = .ok (.if_icmp .eq 7, 3) := by decide +kernel
theorem dX10_isToBeDropped_58 : decode cX10_isToBeDropped 58 = .ok (.iconst 1, 1) := by decide +kernel
theorem dX10_isToBeDropped_59 : decode cX10_isToBeDropped 59 = .ok (.goto 4, 3) := by decide +kernel
theorem dX10_isToBeDropped_62 : decode cX10_isToBeDropped 62 = .ok (.iconst 0, 1) := by decide +kernel
theorem dX10_isToBeDropped_63 : decode cX10_isToBeDropped 63 = .ok (.ireturn, 1) := by decide +kernel
theorem dX10_isToBeDropped_64 : decode cX10_isToBeDropped 64 = .ok (.iload_n 1, 1) := by decide +kernel
theorem dX10_isToBeDropped_65 : decode cX10_isToBeDropped 65 = .ok (.aload_n 0, 1) := by decide +kernel
theorem dX10_isToBeDropped_66 : decode cX10_isToBeDropped 66 = .ok (.getfield 83, 3) := by decide +kernel
theorem dX10_isToBeDropped_69 : decode cX10_isToBeDropped 69 = .ok (.aload_n 2, 1) := by decide +kernel
theorem dX10_isToBeDropped_70 : decode cX10_isToBeDropped 70 = .ok (.getfield 300, 3) := by decide +kernel
theorem dX10_isToBeDropped_73 : decode cX10_isToBeDropped 73 = .ok (.aload_n 2, 1) := by decide +kernel
theorem dX10_isToBeDropped_74 : decode cX10_isToBeDropped 74 = .ok (.getfield 302, 3) := by decide +kernel
theorem dX10_isToBeDropped_77 : decode cX10_isToBeDropped 77 = .ok (.bipush 24, 2) := by decide +kernel
theorem dX10_isToBeDropped_79 : decode cX10_isToBeDropped 79 = .ok (.idiv, 1) := by decide +kernel
theorem dX10_isToBeDropped_80 : decode cX10_isToBeDropped 80 = .ok (.invokevirtual 395, 3) := by decide +kernel
theorem dX10_isToBeDropped_83 : decode cX10_isToBeDropped 83 = .ok (.if_icmp .eq 7, 3) := by decide +kernel
theorem dX10_isToBeDropped_86 : decode cX10_isToBeDropped 86 = .ok (.iconst 1, 1) := by decide +kernel
theorem dX10_isToBeDropped_87 : decode cX10_isToBeDropped 87 = .ok (.goto 4, 3) := by decide +kernel
theorem dX10_isToBeDropped_90 : decode cX10_isToBeDropped 90 = .ok (.iconst 0, 1) := by decide +kernel
theorem dX10_isToBeDropped_91 : decode cX10_isToBeDropped 91 = .ok (.ireturn, 1) := by decide +kernel
theorem dX10_dropPieces_0 : decode cX10_dropPieces 0 = .ok (.aload_n 0, 1) := by decide +kernel
theorem dX10_dropPieces_1 : decode cX10_dropPieces 1 = .ok (.getfield 29, 3) := by decide +kernel
theorem dX10_dropPieces_4 : decode cX10_dropPieces 4 = .ok (.invokevirtual 398, 3) := by decide +kernel
theorem dX10_dropPieces_7 : decode cX10_dropPieces 7 = .ok (.iconst 0, 1) := by decide +kernel
theorem dX10_dropPieces_8 : decode cX10_dropPieces 8 = .ok (.istore_n 1, 1) := by decide +kernel
theorem dX10_dropPieces_9 : decode cX10_dropPieces 9 = .ok (.iload_n 1, 1) := by decide +kernel
theorem dX10_dropPieces_10 : decode cX10_dropPieces 10 = .ok (.aload_n 0, 1) := by decide +kernel
theorem dX10_dropPieces_11 : decode cX10_dropPieces 11 = .ok (.getfield 83, 3) := by decide +kernel
theorem dX10_dropPieces_14 : decode cX10_dropPieces 14 = .ok (.getfield 159, 3) := by decide +kernel
theorem dX10_dropPieces_17 : decode cX10_dropPieces 17 = .ok (.if_icmp .ge 36, 3) := by decide +kernel
theorem dX10_dropPieces_20 : decode cX10_dropPieces 20 = .ok (.aload_n 0, 1) := by decide +kernel
theorem dX10_dropPieces_21 : decode cX10_dropPieces 21 = .ok (.getfield 83, 3) := by decide +kernel
theorem dX10_dropPieces_24 : decode cX10_dropPieces 24 = .ok (.iload_n 1, 1) := by decide +kernel
theorem dX10_dropPieces_25 : decode cX10_dropPieces 25 = .ok (.invokevirtual 186, 3) := by decide +kernel
theorem dX10_dropPieces_28 : decode cX10_dropPieces 28 = .ok (.astore_n 2, 1) := by decide +kernel
theorem dX10_dropPieces_29 : decode cX10_dropPieces 29 = .ok (.aload_n 2, 1) := by decide +kernel
theorem dX10_dropPieces_30 : decode cX10_dropPieces 30 = .ok (.getfield 241, 3) := by decide +kernel
theorem dX10_dropPieces_33 : decode cX10_dropPieces 33 = .ok (.ifCond .eq 14, 3) := by decide +kernel
theorem dX10_dropPieces_36 : decode cX10_dropPieces 36 = .ok (.aload_n 0, 1) := by decide +kernel
theorem dX10_dropPieces_37 : decode cX10_dropPieces 37 = .ok (.getfield 29, 3) := by decide +kernel
theorem dX10_dropPieces_40 : decode cX10_dropPieces 40 = .ok (.aload_n 2, 1) := by decide +kernel
theorem dX10_dropPieces_41 : decode cX10_dropPieces 41 = .ok (.getfield 269, 3) := by decide +kernel
theorem dX10_dropPieces_44 : decode cX10_dropPieces 44 = .ok (.invokevirtual 401, 3) := by decide +kernel
theorem dX10_dropPieces_47 : decode cX10_dropPieces 47 = .ok (.iinc 1 1, 3) := by decide +kernel
theorem dX10_dropPieces_50 : decode cX10_dropPieces 50 = .ok (.goto (-41), 3) := by decide +kernel
theorem dX10_dropPieces_53 : decode cX10_dropPieces 53 = .ok (.iconst 0, 1) := by decide +kernel
theorem dX10_dropPieces_54 : decode cX10_dropPieces 54 = .ok (.istore_n 1, 1) := by decide +kernel
theorem dX10_dropPieces_55 : decode cX10_dropPieces 55 = .ok (.iload_n 1, 1) := by decide +kernel
theorem dX10_dropPieces_56 : decode cX10_dropPieces 56 = .ok (.iconst 3, 1) := by decide +kernel
theorem dX10_dropPieces_57 : decode cX10_dropPieces 57 = .ok (.if_icmp .ge 19, 3) := by decide +kernel
theorem dX10_dropPieces_60 : decode cX10_dropPieces 60 = .ok (.aload_n 0, 1) := by decide +kernel
theorem dX10_dropPieces_61 : decode cX10_dropPieces 61 = .ok (.aload_n 0, 1) := by decide +kernel
theorem dX10_dropPieces_62 : decode cX10_dropPieces 62 = .ok (.getfield 15, 3) := by decide +kernel
theorem dX10_dropPieces_65 : decode cX10_dropPieces 65 = .ok (.iload_n 1, 1) := by decide +kernel
theorem dX10_dropPieces_66 : decode cX10_dropPieces 66 = .ok (.aaload, 1) := by decide +kernel
theorem dX10_dropPieces_67 : decode cX10_dropPieces 67 = .ok (.invokevirtual 404, 3) := by decide +kernel
theorem dX10_dropPieces_70 : decode cX10_dropPieces 70 = .ok (.iinc 1 1, 3) := by decide +kernel
theorem dX10_dropPieces_73 : decode cX10_dropPieces 73 = .ok (.goto (-18), 3) := by decide +kernel
theorem dX10_dropPieces_76 : decode cX10_dropPieces 76 = .ok (.aload_n 0, 1) := by decide +kernel
theorem dX10_dropPieces_77 : decode cX10_dropPieces 77 = .ok (.getfield 29, 3) := by decide +kernel
theorem dX10_dropPieces_80 : decode cX10_dropPieces 80 = .ok (.invokevirtual 408, 3) := by decide +kernel
theorem dX10_dropPieces_83 : decode cX10_dropPieces 83 = .ok (.return_, 1) := by decide +kernel
theorem dX10_needNotedContents_0 : decode cX10_needNotedContents 0 = .ok (.iconst 0, 1) := by decide +kernel
theorem dX10_needNotedContents_1 : decode cX10_needNotedContents 1 = .ok (.istore_n 2, 1) := by decide +kernel
theorem dX10_needNotedContents_2 : decode cX10_needNotedContents 2 = .ok (.iload_n 2, 1) := by decide +kernel
theorem dX10_needNotedContents_3 : decode cX10_needNotedContents 3 = .ok (.aload_n 1, 1) := by decide +kernel
theorem dX10_needNotedContents_4 : decode cX10_needNotedContents 4 = .ok (.getfield 138, 3) := by decide +kernel
theorem dX10_needNotedContents_7 : decode cX10_needNotedContents 7 = .ok (.if_icmp .ge 40, 3) := by decide +kernel
theorem dX10_needNotedContents_10 : decode cX10_needNotedContents 10 = .ok (.aload_n 1, 1) := by decide +kernel
theorem dX10_needNotedContents_11 : decode cX10_needNotedContents 11 = .ok (.getfield 105, 3) := by decide +kernel
theorem dX10_needNotedContents_14 : decode cX10_needNotedContents 14 = .ok (.aload_n 1, 1) := by decide +kernel
theorem dX10_needNotedContents_15 : decode cX10_needNotedContents 15 = .ok (.getfield 162, 3) := by decide +kernel
theorem dX10_needNotedContents_18 : decode cX10_needNotedContents 18 = .ok (.iload_n 2, 1) := by decide +kernel
theorem dX10_needNotedContents_19 : decode cX10_needNotedContents 19 = .ok (.iaload, 1) := by decide +kernel
theorem dX10_needNotedContents_20 : decode cX10_needNotedContents 20 = .ok (.aaload, 1) := by decide +kernel
theorem dX10_needNotedContents_21 : decode cX10_needNotedContents 21 = .ok (.astore_n 3, 1) := by decide +kernel
theorem dX10_needNotedContents_22 : decode cX10_needNotedContents 22 = .ok (.aload_n 3, 1) := by decide +kernel
theorem dX10_needNotedContents_23 : decode cX10_needNotedContents 23 = .ok (.getfield 109, 3) := by decide +kernel
theorem dX10_needNotedContents_26 : decode cX10_needNotedContents 26 = .ok (.iconst 2, 1) := by decide +kernel
theorem dX10_needNotedContents_27 : decode cX10_needNotedContents 27 = .ok (.if_icmp .ne 14, 3) := by decide +kernel
theorem dX10_needNotedContents_30 : decode cX10_needNotedContents 30 = .ok (.aload_n 0, 1) := by decide +kernel
theorem dX10_needNotedContents_31 : decode cX10_needNotedContents 31 = .ok (.getfield 29, 3) := by decide +kernel
theorem dX10_needNotedContents_34 : decode cX10_needNotedContents 34 = .ok (.aload_n 3, 1) := by decide +kernel
theorem dX10_needNotedContents_35 : decode cX10_needNotedContents 35 = .ok (.getfield 165, 3) := by decide +kernel
theorem dX10_needNotedContents_38 : decode cX10_needNotedContents 38 = .ok (.invokevirtual 401, 3) := by decide +kernel
theorem dX10_needNotedContents_41 : decode cX10_needNotedContents 41 = .ok (.iinc 2 1, 3) := by decide +kernel
theorem dX10_needNotedContents_44 : decode cX10_needNotedContents 44 = .ok (.goto (-42), 3) := by decide +kernel
theorem dX10_needNotedContents_47 : decode cX10_needNotedContents 47 = .ok (.return_, 1) := by decide +kernel
theorem dJ9_max_7cf53_0 : decode cJ9_max_7cf53 0 = .ok (.iload_n 0, 1) := by decide +kernel
theorem dJ9_max_7cf53_1 : decode cJ9_max_7cf53 1 = .ok (.iload_n 1, 1) := by decide +kernel
theorem dJ9_max_7cf53_2 : decode cJ9_max_7cf53 2 = .ok (.if_icmp .lt 7, 3) := by decide +kernel
theorem dJ9_max_7cf53_5 : decode cJ9_max_7cf53 5 = .ok (.iload_n 0, 1) := by decide +kernel
theorem dJ9_max_7cf53_6 : decode cJ9_max_7cf53 6 = .ok (.goto 4, 3) := by decide +kernel
theorem dJ9_max_7cf53_9 : decode cJ9_max_7cf53 9 = .ok (.iload_n 1, 1) := by decide +kernel
theorem dJ9_max_7cf53_10 : decode cJ9_max_7cf53 10 = .ok (.ireturn, 1) := by decide +kernel
theorem dJ9_min_7cf53_0 : decode cJ9_min_7cf53 0 = .ok (.iload_n 0, 1) := by decide +kernel
theorem dJ9_min_7cf53_1 : decode cJ9_min_7cf53 1 = .ok (.iload_n 1, 1) := by decide +kernel
theorem dJ9_min_7cf53_2 : decode cJ9_min_7cf53 2 = .ok (.if_icmp .gt 7, 3) := by decide +kernel
theorem dJ9_min_7cf53_5 : decode cJ9_min_7cf53 5 = .ok (.iload_n 0, 1) := by decide +kernel
theorem dJ9_min_7cf53_6 : decode cJ9_min_7cf53 6 = .ok (.goto 4, 3) := by decide +kernel
theorem dJ9_min_7cf53_9 : decode cJ9_min_7cf53 9 = .ok (.iload_n 1, 1) := by decide +kernel
theorem dJ9_min_7cf53_10 : decode cJ9_min_7cf53 10 = .ok (.ireturn, 1) := by decide +kernel
