theorem dX11_termOf_122 : decode cX11_termOf 122 = .ok (.lmul, 1) := by decide +kernel
theorem dX11_termOf_123 : decode cX11_termOf 123 = .ok (.goto 7, 3) := by decide +kernel
theorem dX11_termOf_126 : decode cX11_termOf 126 = .ok (.lload_n 2, 1) := by decide +kernel
theorem dX11_termOf_127 : decode cX11_termOf 127 = .ok (.lload 5, 2) := by decide +kernel
theorem dX11_termOf_129 : decode cX11_termOf 129 = .ok (.ldiv, 1) := by decide +kernel
theorem dX11_termOf_130 : decode cX11_termOf 130 = .ok (.iload_n 1, 1) := by decide +kernel
theorem dX11_termOf_131 : decode cX11_termOf 131 = .ok (.invokevirtual 246, 3) := by decide +kernel
theorem dX11_termOf_134 : decode cX11_termOf 134 = .ok (.lstore_n 2, 1) := by decide +kernel
theorem dX11_termOf_135 : decode cX11_termOf 135 = .ok (.goto (-129), 3) := by decide +kernel
theorem dX11_termOf_138 : decode cX11_termOf 138 = .ok (.lload_n 2, 1) := by decide +kernel
theorem dX11_termOf_139 : decode cX11_termOf 139 = .ok (.lreturn, 1) := by decide +kernel
theorem dX11_partOf_0 : decode cX11_partOf 0 = .ok (.aload_n 0, 1) := by decide +kernel
theorem dX11_partOf_1 : decode cX11_partOf 1 = .ok (.bipush 91, 2) := by decide +kernel
theorem dX11_partOf_3 : decode cX11_partOf 3 = .ok (.invokestatic 203, 3) := by decide +kernel
theorem dX11_partOf_6 : decode cX11_partOf 6 = .ok (.invokevirtual 253, 3) := by decide +kernel
theorem dX11_partOf_9 : decode cX11_partOf 9 = .ok (.ifCond .eq 21, 3) := by decide +kernel
theorem dX11_partOf_12 : decode cX11_partOf 12 = .ok (.aload_n 0, 1) := by decide +kernel
theorem dX11_partOf_13 : decode cX11_partOf 13 = .ok (.iload_n 1, 1) := by decide +kernel
theorem dX11_partOf_14 : decode cX11_partOf 14 = .ok (.invokevirtual 256, 3) := by decide +kernel
theorem dX11_partOf_17 : decode cX11_partOf 17 = .ok (.lstore_n 2, 1) := by decide +kernel
theorem dX11_partOf_18 : decode cX11_partOf 18 = .ok (.aload_n 0, 1) := by decide +kernel
theorem dX11_partOf_19 : decode cX11_partOf 19 = .ok (.dup, 1) := by decide +kernel
theorem dX11_partOf_20 : decode cX11_partOf 20 = .ok (.getfield 228, 3) := by decide +kernel
theorem dX11_partOf_23 : decode cX11_partOf 23 = .ok (.iconst 1, 1) := by decide +kernel
theorem dX11_partOf_24 : decode cX11_partOf 24 = .ok (.iadd, 1) := by decide +kernel
theorem dX11_partOf_25 : decode cX11_partOf 25 = .ok (.putfield 228, 3) := by decide +kernel
theorem dX11_partOf_28 : decode cX11_partOf 28 = .ok (.lload_n 2, 1) := by decide +kernel
theorem dX11_partOf_29 : decode cX11_partOf 29 = .ok (.lreturn, 1) := by decide +kernel
theorem dX11_partOf_30 : decode cX11_partOf 30 = .ok (.aload_n 0, 1) := by decide +kernel
theorem dX11_partOf_31 : decode cX11_partOf 31 = .ok (.aload_n 0, 1) := by decide +kernel
theorem dX11_partOf_32 : decode cX11_partOf 32 = .ok (.getfield 228, 3) := by decide +kernel
theorem dX11_partOf_35 : decode cX11_partOf 35 = .ok (.invokevirtual 231, 3) := by decide +kernel
theorem dX11_partOf_38 : decode cX11_partOf 38 = .ok (.istore_n 2, 1) := by decide +kernel
theorem dX11_partOf_39 : decode cX11_partOf 39 = .ok (.aload_n 0, 1) := by decide +kernel
theorem dX11_partOf_40 : decode cX11_partOf 40 = .ok (.dup, 1) := by decide +kernel
theorem dX11_partOf_41 : decode cX11_partOf 41 = .ok (.getfield 228, 3) := by decide +kernel
theorem dX11_partOf_44 : decode cX11_partOf 44 = .ok (.iconst 1, 1) := by decide +kernel
theorem dX11_partOf_45 : decode cX11_partOf 45 = .ok (.iadd, 1) := by decide +kernel
theorem dX11_partOf_46 : decode cX11_partOf 46 = .ok (.putfield 228, 3) := by decide +kernel
theorem dX11_partOf_49 : decode cX11_partOf 49 = .ok (.iload_n 1, 1) := by decide +kernel
theorem dX11_partOf_50 : decode cX11_partOf 50 = .ok (.ifCond .eq 10, 3) := by decide +kernel
theorem dX11_partOf_53 : decode cX11_partOf 53 = .ok (.aload_n 0, 1) := by decide +kernel
theorem dX11_partOf_54 : decode cX11_partOf 54 = .ok (.getfield 238, 3) := by decide +kernel
theorem dX11_partOf_57 : decode cX11_partOf 57 = .ok (.ifCond .eq 5, 3) := by decide +kernel
theorem dX11_partOf_60 : decode cX11_partOf 60 = .ok (.lconst 0, 1) := by decide +kernel
theorem dX11_partOf_61 : decode cX11_partOf 61 = .ok (.lreturn, 1) := by decide +kernel
theorem dX11_partOf_62 : decode cX11_partOf 62 = .ok (.iload_n 2, 1) := by decide +kernel
theorem dX11_partOf_63 : decode cX11_partOf 63 = .ok (.bipush 50, 2) := by decide +kernel
theorem dX11_partOf_65 : decode cX11_partOf 65 = .ok (.if_icmp .ne 22, 3) := by decide +kernel
theorem dX11_partOf_68 : decode cX11_partOf 68 = .ok (.aload_n 0, 1) := by decide +kernel
theorem dX11_partOf_69 : decode cX11_partOf 69 = .ok (.getfield 17, 3) := by decide +kernel
theorem dX11_partOf_72 : decode cX11_partOf 72 = .ok (.sipush 2488, 3) := by decide +kernel
theorem dX11_partOf_75 : decode cX11_partOf 75 = .ok (.aload_n 0, 1) := by decide +kernel
theorem dX11_partOf_76 : decode cX11_partOf 76 = .ok (.getfield 228, 3) := by decide +kernel
theorem dX11_partOf_79 : decode cX11_partOf 79 = .ok (.iadd, 1) := by decide +kernel
theorem dX11_partOf_80 : decode cX11_partOf 80 = .ok (.iconst 1, 1) := by decide +kernel
theorem dX11_partOf_81 : decode cX11_partOf 81 = .ok (.isub, 1) := by decide +kernel
theorem dX11_partOf_82 : decode cX11_partOf 82 = .ok (.iaload, 1) := by decide +kernel
theorem dX11_partOf_83 : decode cX11_partOf 83 = .ok (.i2l, 1) := by decide +kernel
theorem dX11_partOf_84 : decode cX11_partOf 84 = .ok (.goto 13, 3) := by decide +kernel
theorem dX11_partOf_87 : decode cX11_partOf 87 = .ok (.aload_n 0, 1) := by decide +kernel
theorem dX11_partOf_88 : decode cX11_partOf 88 = .ok (.getfield 49, 3) := by decide +kernel
theorem dX11_partOf_91 : decode cX11_partOf 91 = .ok (.iload_n 2, 1) := by decide +kernel
theorem dX11_partOf_92 : decode cX11_partOf 92 = .ok (.bipush 7, 2) := by decide +kernel
theorem dX11_partOf_94 : decode cX11_partOf 94 = .ok (.isub, 1) := by decide +kernel
theorem dX11_partOf_95 : decode cX11_partOf 95 = .ok (.iaload, 1) := by decide +kernel
theorem dX11_partOf_96 : decode cX11_partOf 96 = .ok (.i2l, 1) := by decide +kernel
theorem dX11_partOf_97 : decode cX11_partOf 97 = .ok (.lreturn, 1) := by decide +kernel
theorem dX11_testOf_0 : decode cX11_testOf 0 = .ok (.aload_n 0, 1) := by decide +kernel
theorem dX11_testOf_1 : decode cX11_testOf 1 = .ok (.iload_n 1, 1) := by decide +kernel
theorem dX11_testOf_2 : decode cX11_testOf 2 = .ok (.invokevirtual 259, 3) := by decide +kernel
theorem dX11_testOf_5 : decode cX11_testOf 5 = .ok (.istore_n 2, 1) := by decide +kernel
theorem dX11_testOf_6 : decode cX11_testOf 6 = .ok (.aload_n 0, 1) := by decide +kernel
theorem dX11_testOf_7 : decode cX11_testOf 7 = .ok (.iconst 4, 1) := by decide +kernel
theorem dX11_testOf_8 : decode cX11_testOf 8 = .ok (.invokevirtual 253, 3) := by decide +kernel
theorem dX11_testOf_11 : decode cX11_testOf 11 = .ok (.ifCond .eq 38, 3) := by decide +kernel
theorem dX11_testOf_14 : decode cX11_testOf 14 = .ok (.aload_n 0, 1) := by decide +kernel
theorem dX11_testOf_15 : decode cX11_testOf 15 = .ok (.iload_n 1, 1) := by decide +kernel
theorem dX11_testOf_16 : decode cX11_testOf 16 = .ok (.ifCond .eq 11, 3) := by decide +kernel
theorem dX11_testOf_19 : decode cX11_testOf 19 = .ok (.iload_n 2, 1) := by decide +kernel
theorem dX11_testOf_20 : decode cX11_testOf 20 = .ok (.ifCond .ne 7, 3) := by decide +kernel
theorem dX11_testOf_23 : decode cX11_testOf 23 = .ok (.iconst 1, 1) := by decide +kernel
theorem dX11_testOf_24 : decode cX11_testOf 24 = .ok (.goto 4, 3) := by decide +kernel
theorem dX11_testOf_27 : decode cX11_testOf 27 = .ok (.iconst 0, 1) := by decide +kernel
theorem dX11_testOf_28 : decode cX11_testOf 28 = .ok (.invokevirtual 259, 3) := by decide +kernel
theorem dX11_testOf_31 : decode cX11_testOf 31 = .ok (.istore_n 3, 1) := by decide +kernel
theorem dX11_testOf_32 : decode cX11_testOf 32 = .ok (.iload_n 2, 1) := by decide +kernel
theorem dX11_testOf_33 : decode cX11_testOf 33 = .ok (.ifCond .ne 7, 3) := by decide +kernel
theorem dX11_testOf_36 : decode cX11_testOf 36 = .ok (.iload_n 3, 1) := by decide +kernel
theorem dX11_testOf_37 : decode cX11_testOf 37 = .ok (.ifCond .eq 7, 3) := by decide +kernel
theorem dX11_testOf_40 : decode cX11_testOf 40 = .ok (.iconst 1, 1) := by decide +kernel
theorem dX11_testOf_41 : decode cX11_testOf 41 = .ok (.goto 4, 3) := by decide +kernel
theorem dX11_testOf_44 : decode cX11_testOf 44 = .ok (.iconst 0, 1) := by decide +kernel
theorem dX11_testOf_45 : decode cX11_testOf 45 = .ok (.istore_n 2, 1) := by decide +kernel
theorem dX11_testOf_46 : decode cX11_testOf 46 = .ok (.goto (-40), 3) := by decide +kernel
theorem dX11_testOf_49 : decode cX11_testOf 49 = .ok (.iload_n 2, 1) := by decide +kernel
theorem dX11_testOf_50 : decode cX11_testOf 50 = .ok (.ireturn, 1) := by decide +kernel
theorem dX11_bothOf_0 : decode cX11_bothOf 0 = .ok (.aload_n 0, 1) := by decide +kernel
theorem dX11_bothOf_1 : decode cX11_bothOf 1 = .ok (.iload_n 1, 1) := by decide +kernel
theorem dX11_bothOf_2 : decode cX11_bothOf 2 = .ok (.invokevirtual 263, 3) := by decide +kernel
theorem dX11_bothOf_5 : decode cX11_bothOf 5 = .ok (.istore_n 2, 1) := by decide +kernel
theorem dX11_bothOf_6 : decode cX11_bothOf 6 = .ok (.aload_n 0, 1) := by decide +kernel
theorem dX11_bothOf_7 : decode cX11_bothOf 7 = .ok (.iconst 5, 1) := by decide +kernel
theorem dX11_bothOf_8 : decode cX11_bothOf 8 = .ok (.invokevirtual 253, 3) := by decide +kernel
theorem dX11_bothOf_11 : decode cX11_bothOf 11 = .ok (.ifCond .eq 38, 3) := by decide +kernel
theorem dX11_bothOf_14 : decode cX11_bothOf 14 = .ok (.aload_n 0, 1) := by decide +kernel
theorem dX11_bothOf_15 : decode cX11_bothOf 15 = .ok (.iload_n 1, 1) := by decide +kernel
theorem dX11_bothOf_16 : decode cX11_bothOf 16 = .ok (.ifCond .eq 11, 3) := by decide +kernel
theorem dX11_bothOf_19 : decode cX11_bothOf 19 = .ok (.iload_n 2, 1) := by decide +kernel
theorem dX11_bothOf_20 : decode cX11_bothOf 20 = .ok (.ifCond .eq 7, 3) := by decide +kernel
theorem dX11_bothOf_23 : decode cX11_bothOf 23 = .ok (.iconst 1, 1) := by decide +kernel
theorem dX11_bothOf_24 : decode cX11_bothOf 24 = .ok (.goto 4, 3) := by decide +kernel
theorem dX11_bothOf_27 : decode cX11_bothOf 27 = .ok (.iconst 0, 1) := by decide +kernel
theorem dX11_bothOf_28 : decode cX11_bothOf 28 = .ok (.invokevirtual 263, 3) := by decide +kernel
theorem dX11_bothOf_31 : decode cX11_bothOf 31 = .ok (.istore_n 3, 1) := by decide +kernel
theorem dX11_bothOf_32 : decode cX11_bothOf 32 = .ok (.iload_n 2, 1) := by decide +kernel
theorem dX11_bothOf_33 : decode cX11_bothOf 33 = .ok (.ifCond .eq 11, 3) := by decide +kernel
theorem dX11_bothOf_36 : decode cX11_bothOf 36 = .ok (.iload_n 3, 1) := by decide +kernel
theorem dX11_bothOf_37 : decode cX11_bothOf 37 = .ok (.ifCond .eq 7, 3) := by decide +kernel
theorem dX11_bothOf_40 : decode cX11_bothOf 40 = .ok (.iconst 1, 1) := by decide +kernel
theorem dX11_bothOf_41 : decode cX11_bothOf 41 = .ok (.goto 4, 3) := by decide +kernel
theorem dX11_bothOf_44 : decode cX11_bothOf 44 = .ok (.iconst 0, 1) := by decide +kernel
theorem dX11_bothOf_45 : decode cX11_bothOf 45 = .ok (.istore_n 2, 1) := by decide +kernel
theorem dX11_bothOf_46 : decode cX11_bothOf 46 = .ok (.goto (-40), 3) := by decide +kernel
theorem dX11_bothOf_49 : decode cX11_bothOf 49 = .ok (.iload_n 2, 1) := by decide +kernel
theorem dX11_bothOf_50 : decode cX11_bothOf 50 = .ok (.ireturn, 1) := by decide +kernel
theorem dX11_plainOf_0 : decode cX11_plainOf 0 = .ok (.iconst 0, 1) := by decide +kernel
theorem dX11_plainOf_1 : decode cX11_plainOf 1 = .ok (.istore_n 2, 1) := by decide +kernel
theorem dX11_plainOf_2 : decode cX11_plainOf 2 = .ok (.aload_n 0, 1) := by decide +kernel
theorem dX11_plainOf_3 : decode cX11_plainOf 3 = .ok (.bipush 6, 2) := by decide +kernel
theorem dX11_plainOf_5 : decode cX11_plainOf 5 = .ok (.invokevirtual 253, 3) := by decide +kernel
theorem dX11_plainOf_8 : decode cX11_plainOf 8 = .ok (.ifCond .eq 16, 3) := by decide +kernel
theorem dX11_plainOf_11 : decode cX11_plainOf 11 = .ok (.iload_n 2, 1) := by decide +kernel
theorem dX11_plainOf_12 : decode cX11_plainOf 12 = .ok (.ifCond .ne 7, 3) := by decide +kernel
theorem dX11_plainOf_15 : decode cX11_plainOf 15 = .ok (.iconst 1, 1) := by decide +kernel
theorem dX11_plainOf_16 : decode cX11_plainOf 16 = .ok (.goto 4, 3) := by decide +kernel
theorem dX11_plainOf_19 : decode cX11_plainOf 19 = .ok (.iconst 0, 1) := by decide +kernel
theorem dX11_plainOf_20 : decode cX11_plainOf 20 = .ok (.istore_n 2, 1) := by decide +kernel
theorem dX11_plainOf_21 : decode cX11_plainOf 21 = .ok (.goto (-19), 3) := by decide +kernel
theorem dX11_plainOf_24 : decode cX11_plainOf 24 = .ok (.aload_n 0, 1) := by decide +kernel
theorem dX11_plainOf_25 : decode cX11_plainOf 25 = .ok (.iload_n 1, 1) := by decide +kernel
theorem dX11_plainOf_26 : decode cX11_plainOf 26 = .ok (.invokevirtual 266, 3) := by decide +kernel
theorem dX11_plainOf_29 : decode cX11_plainOf 29 = .ok (.iload_n 2, 1) := by decide +kernel
theorem dX11_plainOf_30 : decode cX11_plainOf 30 = .ok (.if_icmp .eq 7, 3) := by decide +kernel
theorem dX11_plainOf_33 : decode cX11_plainOf 33 = .ok (.iconst 1, 1) := by decide +kernel
theorem dX11_plainOf_34 : decode cX11_plainOf 34 = .ok (.goto 4, 3) := by decide +kernel
theorem dX11_plainOf_37 : decode cX11_plainOf 37 = .ok (.iconst 0, 1) := by decide +kernel
theorem dX11_plainOf_38 : decode cX11_plainOf 38 = .ok (.ireturn, 1) := by decide +kernel
theorem dX11_positiveOf_0 : decode cX11_positiveOf 0 = .ok (.aload_n 0, 1) := by decide +kernel
theorem dX11_positiveOf_1 : decode cX11_positiveOf 1 = .ok (.bipush 40, 2) := by decide +kernel
theorem dX11_positiveOf_3 : decode cX11_positiveOf 3 = .ok (.invokestatic 203, 3) := by decide +kernel
theorem dX11_positiveOf_6 : decode cX11_positiveOf 6 = .ok (.invokevirtual 253, 3) := by decide +kernel
theorem dX11_positiveOf_9 : decode cX11_positiveOf 9 = .ok (.ifCond .eq 21, 3) := by decide +kernel
theorem dX11_positiveOf_12 : decode cX11_positiveOf 12 = .ok (.aload_n 0, 1) := by decide +kernel
theorem dX11_positiveOf_13 : decode cX11_positiveOf 13 = .ok (.iload_n 1, 1) := by decide +kernel
theorem dX11_positiveOf_14 : decode cX11_positiveOf 14 = .ok (.invokevirtual 269, 3) := by decide +kernel
theorem dX11_positiveOf_17 : decode cX11_positiveOf 17 = .ok (.istore_n 2, 1) := by decide +kernel
theorem dX11_positiveOf_18 : decode cX11_positiveOf 18 = .ok (.aload_n 0, 1) := by decide +kernel
theorem dX11_positiveOf_19 : decode cX11_positiveOf 19 = .ok (.dup, 1) := by decide +kernel
theorem dX11_positiveOf_20 : decode cX11_positiveOf 20 = .ok (.getfield 228, 3) := by decide +kernel
theorem dX11_positiveOf_23 : decode cX11_positiveOf 23 = .ok (.iconst 1, 1) := by decide +kernel
theorem dX11_positiveOf_24 : decode cX11_positiveOf 24 = .ok (.iadd, 1) := by decide +kernel
theorem dX11_positiveOf_25 : decode cX11_positiveOf 25 = .ok (.putfield 228, 3) := by decide +kernel
theorem dX11_positiveOf_28 : decode cX11_positiveOf 28 = .ok (.iload_n 2, 1) := by decide +kernel
theorem dX11_positiveOf_29 : decode cX11_positiveOf 29 = .ok (.ireturn, 1) := by decide +kernel
theorem dX11_positiveOf_30 : decode cX11_positiveOf 30 = .ok (.aload_n 0, 1) := by decide +kernel
theorem dX11_positiveOf_31 : decode cX11_positiveOf 31 = .ok (.iload_n 1, 1) := by decide +kernel
theorem dX11_positiveOf_32 : decode cX11_positiveOf 32 = .ok (.invokevirtual 256, 3) := by decide +kernel
theorem dX11_positiveOf_35 : decode cX11_positiveOf 35 = .ok (.lstore_n 2, 1) := by decide +kernel
theorem dX11_positiveOf_36 : decode cX11_positiveOf 36 = .ok (.aload_n 0, 1) := by decide +kernel
theorem dX11_positiveOf_37 : decode cX11_positiveOf 37 = .ok (.aload_n 0, 1) := by decide +kernel
theorem dX11_positiveOf_38 : decode cX11_positiveOf 38 = .ok (.getfield 228, 3) := by decide +kernel
theorem dX11_positiveOf_41 : decode cX11_positiveOf 41 = .ok (.invokevirtual 231, 3) := by decide +kernel
theorem dX11_positiveOf_44 : decode cX11_positiveOf 44 = .ok (.istore 4, 2) := by decide +kernel
theorem dX11_positiveOf_46 : decode cX11_positiveOf 46 = .ok (.aload_n 0, 1) := by decide +kernel
theorem dX11_positiveOf_47 : decode cX11_positiveOf 47 = .ok (.dup, 1) := by decide +kernel
theorem dX11_positiveOf_48 : decode cX11_positiveOf 48 = .ok (.getfield 228, 3) := by decide +kernel
theorem dX11_positiveOf_51 : decode cX11_positiveOf 51 = .ok (.iconst 1, 1) := by decide +kernel
theorem dX11_positiveOf_52 : decode cX11_positiveOf 52 = .ok (.iadd, 1) := by decide +kernel
theorem dX11_positiveOf_53 : decode cX11_positiveOf 53 = .ok (.putfield 228, 3) := by decide +kernel
theorem dX11_positiveOf_56 : decode cX11_positiveOf 56 = .ok (.aload_n 0, 1) := by decide +kernel
theorem dX11_positiveOf_57 : decode cX11_positiveOf 57 = .ok (.iload_n 1, 1) := by decide +kernel
theorem dX11_positiveOf_58 : decode cX11_positiveOf 58 = .ok (.invokevirtual 256, 3) := by decide +kernel
theorem dX11_positiveOf_61 : decode cX11_positiveOf 61 = .ok (.lstore 5, 2) := by decide +kernel
theorem dX11_positiveOf_63 : decode cX11_positiveOf 63 = .ok (.iload_n 1, 1) := by decide +kernel
theorem dX11_positiveOf_64 : decode cX11_positiveOf 64 = .ok (.ifCond .eq 61, 3) := by decide +kernel
theorem dX11_positiveOf_67 : decode cX11_positiveOf 67 = .ok (.aload_n 0, 1) := by decide +kernel
theorem dX11_positiveOf_68 : decode cX11_positiveOf 68 = .ok (.getfield 238, 3) := by decide +kernel
theorem dX11_positiveOf_71 : decode cX11_positiveOf 71 = .ok (.ifCond .ne 54, 3) := by decide +kernel
theorem dX11_positiveOf_74 : decode cX11_positiveOf 74 = .ok (.iload 4, 2) := by decide +kernel
theorem dX11_positiveOf_76 : decode cX11_positiveOf 76 = .ok (.bipush 60, 2) := by decide +kernel
theorem dX11_positiveOf_78 : decode cX11_positiveOf 78 = .ok (.invokestatic 203, 3) := by decide +kernel
theorem dX11_positiveOf_81 : decode cX11_positiveOf 81 = .ok (.if_icmp .ne 13, 3) := by decide +kernel
theorem dX11_positiveOf_84 : decode cX11_positiveOf 84 = .ok (.lload_n 2, 1) := by decide +kernel
theorem dX11_positiveOf_85 : decode cX11_positiveOf 85 = .ok (.lload 5, 2) := by decide +kernel
theorem dX11_positiveOf_87 : decode cX11_positiveOf 87 = .ok (.lcmp, 1) := by decide +kernel
theorem dX11_positiveOf_88 : decode cX11_positiveOf 88 = .ok (.ifCond .ge 37, 3) := by decide +kernel
theorem dX11_positiveOf_91 : decode cX11_positiveOf 91 = .ok (.goto 30, 3) := by decide +kernel
theorem dX11_positiveOf_94 : decode cX11_positiveOf 94 = .ok (.iload 4, 2) := by decide +kernel
theorem dX11_positiveOf_96 : decode cX11_positiveOf 96 = .ok (.bipush 62, 2) := by decide +kernel
theorem dX11_positiveOf_98 : decode cX11_positiveOf 98 = .ok (.invokestatic 203, 3) := by decide +kernel
theorem dX11_positiveOf_101 : decode cX11_positiveOf 101 = .ok (.if_icmp .ne 13, 3) := by decide +kernel
theorem dX11_positiveOf_104 : decode cX11_positiveOf 104 = .ok (.lload_n 2, 1) := by decide +kernel
theorem dX11_positiveOf_105 : decode cX11_positiveOf 105 = .ok (.lload 5, 2) := by decide +kernel
theorem dX11_positiveOf_107 : decode cX11_positiveOf 107 = .ok (.lcmp, 1) := by decide +kernel
theorem dX11_positiveOf_108 : decode cX11_positiveOf 108 = .ok (.ifCond .le 17, 3) := by decide +kernel
theorem dX11_positiveOf_111 : decode cX11_positiveOf 111 = .ok (.goto 10, 3) := by decide +kernel
theorem dX11_positiveOf_114 : decode cX11_positiveOf 114 = .ok (.lload_n 2, 1) := by decide +kernel
theorem dX11_positiveOf_115 : decode cX11_positiveOf 115 = .ok (.lload 5, 2) := by decide +kernel
theorem dX11_positiveOf_117 : decode cX11_positiveOf 117 = .ok (.lcmp, 1) := by decide +kernel
theorem dX11_positiveOf_118 : decode cX11_positiveOf 118 = .ok (.ifCond .ne 7, 3) := by decide +kernel
theorem dX11_positiveOf_121 : decode cX11_positiveOf 121 = .ok (.iconst 1, 1) := by decide +kernel
theorem dX11_positiveOf_122 : decode cX11_positiveOf 122 = .ok (.goto 4, 3) := by decide +kernel
theorem dX11_positiveOf_125 : decode cX11_positiveOf 125 = .ok (.iconst 0, 1) := by decide +kernel
theorem dX11_positiveOf_126 : decode cX11_positiveOf 126 = .ok (.ireturn, 1) := by decide +kernel
theorem dX11_asksOf_0 : decode cX11_asksOf 0 = .ok (.aload_n 0, 1) := by decide +kernel
theorem dX11_asksOf_1 : decode cX11_asksOf 1 = .ok (.aload_n 0, 1) := by decide +kernel
theorem dX11_asksOf_2 : decode cX11_asksOf 2 = .ok (.iload_n 1, 1) := by decide +kernel
theorem dX11_asksOf_3 : decode cX11_asksOf 3 = .ok (.iconst 0, 1) := by decide +kernel
theorem dX11_asksOf_4 : decode cX11_asksOf 4 = .ok (.invokevirtual 138, 3) := by decide +kernel
theorem dX11_asksOf_7 : decode cX11_asksOf 7 = .ok (.putfield 272, 3) := by decide +kernel
theorem dX11_asksOf_10 : decode cX11_asksOf 10 = .ok (.aload_n 0, 1) := by decide +kernel
theorem dX11_asksOf_11 : decode cX11_asksOf 11 = .ok (.iconst 0, 1) := by decide +kernel
theorem dX11_asksOf_12 : decode cX11_asksOf 12 = .ok (.putfield 275, 3) := by decide +kernel
theorem dX11_asksOf_15 : decode cX11_asksOf 15 = .ok (.aload_n 0, 1) := by decide +kernel
theorem dX11_asksOf_16 : decode cX11_asksOf 16 = .ok (.getfield 17, 3) := by decide +kernel
theorem dX11_asksOf_19 : decode cX11_asksOf 19 = .ok (.bipush 81, 2) := by decide +kernel
theorem dX11_asksOf_21 : decode cX11_asksOf 21 = .ok (.iaload, 1) := by decide +kernel
theorem dX11_asksOf_22 : decode cX11_asksOf 22 = .ok (.iconst (-1), 1) := by decide +kernel
theorem dX11_asksOf_23 : decode cX11_asksOf 23 = .ok (.if_icmp .ne 4, 3) := by decide +kernel
theorem dX11_asksOf_26 : decode cX11_asksOf 26 = .ok (.return_, 1) := by decide +kernel
theorem dX11_asksOf_27 : decode cX11_asksOf 27 = .ok (.aload_n 0, 1) := by decide +kernel
theorem dX11_asksOf_28 : decode cX11_asksOf 28 = .ok (.getfield 49, 3) := by decide +kernel
theorem dX11_asksOf_31 : decode cX11_asksOf 31 = .ok (.iconst 0, 1) := by decide +kernel
theorem dX11_asksOf_32 : decode cX11_asksOf 32 = .ok (.iload_n 1, 1) := by decide +kernel
theorem dX11_asksOf_33 : decode cX11_asksOf 33 = .ok (.iastore, 1) := by decide +kernel
theorem dX11_asksOf_34 : decode cX11_asksOf 34 = .ok (.aload_n 0, 1) := by decide +kernel
theorem dX11_asksOf_35 : decode cX11_asksOf 35 = .ok (.getfield 49, 3) := by decide +kernel
theorem dX11_asksOf_38 : decode cX11_asksOf 38 = .ok (.iconst 1, 1) := by decide +kernel
theorem dX11_asksOf_39 : decode cX11_asksOf 39 = .ok (.aload_n 0, 1) := by decide +kernel
theorem dX11_asksOf_40 : decode cX11_asksOf 40 = .ok (.iload_n 1, 1) := by decide +kernel
theorem dX11_asksOf_41 : decode cX11_asksOf 41 = .ok (.iconst 0, 1) := by decide +kernel
theorem dX11_asksOf_42 : decode cX11_asksOf 42 = .ok (.invokevirtual 138, 3) := by decide +kernel
theorem dX11_asksOf_45 : decode cX11_asksOf 45 = .ok (.iastore, 1) := by decide +kernel
theorem dX11_asksOf_46 : decode cX11_asksOf 46 = .ok (.aload_n 0, 1) := by decide +kernel
theorem dX11_asksOf_47 : decode cX11_asksOf 47 = .ok (.getfield 49, 3) := by decide +kernel
theorem dX11_asksOf_50 : decode cX11_asksOf 50 = .ok (.iconst 2, 1) := by decide +kernel
theorem dX11_asksOf_51 : decode cX11_asksOf 51 = .ok (.aload_n 0, 1) := by decide +kernel
theorem dX11_asksOf_52 : decode cX11_asksOf 52 = .ok (.iload_n 1, 1) := by decide +kernel
theorem dX11_asksOf_53 : decode cX11_asksOf 53 = .ok (.iconst 1, 1) := by decide +kernel
theorem dX11_asksOf_54 : decode cX11_asksOf 54 = .ok (.invokevirtual 138, 3) := by decide +kernel
theorem dX11_asksOf_57 : decode cX11_asksOf 57 = .ok (.iastore, 1) := by decide +kernel
theorem dX11_asksOf_58 : decode cX11_asksOf 58 = .ok (.aload_n 0, 1) := by decide +kernel
theorem dX11_asksOf_59 : decode cX11_asksOf 59 = .ok (.getfield 49, 3) := by decide +kernel
theorem dX11_asksOf_62 : decode cX11_asksOf 62 = .ok (.iconst 3, 1) := by decide +kernel
theorem dX11_asksOf_63 : decode cX11_asksOf 63 = .ok (.aload_n 0, 1) := by decide +kernel
theorem dX11_asksOf_64 : decode cX11_asksOf 64 = .ok (.iload_n 1, 1) := by decide +kernel
theorem dX11_asksOf_65 : decode cX11_asksOf 65 = .ok (.iconst 2, 1) := by decide +kernel
theorem dX11_asksOf_66 : decode cX11_asksOf 66 = .ok (.invokevirtual 138, 3) := by decide +kernel
theorem dX11_asksOf_69 : decode cX11_asksOf 69 = .ok (.iastore, 1) := by decide +kernel
theorem dX11_asksOf_70 : decode cX11_asksOf 70 = .ok (.aload_n 0, 1) := by decide +kernel
theorem dX11_asksOf_71 : decode cX11_asksOf 71 = .ok (.getfield 49, 3) := by decide +kernel
theorem dX11_asksOf_74 : decode cX11_asksOf 74 = .ok (.iconst 4, 1) := by decide +kernel
theorem dX11_asksOf_75 : decode cX11_asksOf 75 = .ok (.iload_n 3, 1) := by decide +kernel
theorem dX11_asksOf_76 : decode cX11_asksOf 76 = .ok (.iastore, 1) := by decide +kernel
theorem dX11_asksOf_77 : decode cX11_asksOf 77 = .ok (.aload_n 0, 1) := by decide +kernel
theorem dX11_asksOf_78 : decode cX11_asksOf 78 = .ok (.getfield 49, 3) := by decide +kernel
theorem dX11_asksOf_81 : decode cX11_asksOf 81 = .ok (.iconst 5, 1) := by decide +kernel
theorem dX11_asksOf_82 : decode cX11_asksOf 82 = .ok (.iload_n 2, 1) := by decide +kernel
theorem dX11_asksOf_83 : decode cX11_asksOf 83 = .ok (.iastore, 1) := by decide +kernel
theorem dX11_asksOf_84 : decode cX11_asksOf 84 = .ok (.aload_n 0, 1) := by decide +kernel
theorem dX11_asksOf_85 : decode cX11_asksOf 85 = .ok (.getfield 49, 3) := by decide +kernel
theorem dX11_asksOf_88 : decode cX11_asksOf 88 = .ok (.bipush 6, 2) := by decide +kernel
theorem dX11_asksOf_90 : decode cX11_asksOf 90 = .ok (.iload 4, 2) := by decide +kernel
theorem dX11_asksOf_92 : decode cX11_asksOf 92 = .ok (.iastore, 1) := by decide +kernel
theorem dX11_asksOf_93 : decode cX11_asksOf 93 = .ok (.aload_n 0, 1) := by decide +kernel
theorem dX11_asksOf_94 : decode cX11_asksOf 94 = .ok (.getfield 49, 3) := by decide +kernel
theorem dX11_asksOf_97 : decode cX11_asksOf 97 = .ok (.bipush 7, 2) := by decide +kernel
theorem dX11_asksOf_99 : decode cX11_asksOf 99 = .ok (.iload 4, 2) := by decide +kernel
theorem dX11_asksOf_101 : decode cX11_asksOf 101 = .ok (.iconst (-1), 1) := by decide +kernel
theorem dX11_asksOf_102 : decode cX11_asksOf 102 = .ok (.if_icmp .ne 7, 3) := by decide +kernel
theorem dX11_asksOf_105 : decode cX11_asksOf 105 = .ok (.iconst (-1), 1) := by decide +kernel
theorem dX11_asksOf_106 : decode cX11_asksOf 106 = .ok (.goto 10, 3) := by decide +kernel
theorem dX11_asksOf_109 : decode cX11_asksOf 109 = .ok (.aload_n 0, 1) := by decide +kernel
theorem dX11_asksOf_110 : decode cX11_asksOf 110 = .ok (.iload 4, 2) := by decide +kernel
theorem dX11_asksOf_112 : decode cX11_asksOf 112 = .ok (.iconst 1, 1) := by decide +kernel
theorem dX11_asksOf_113 : decode cX11_asksOf 113 = .ok (.invokevirtual 138, 3) := by decide +kernel
theorem dX11_asksOf_116 : decode cX11_asksOf 116 = .ok (.iastore, 1) := by decide +kernel
theorem dX11_asksOf_117 : decode cX11_asksOf 117 = .ok (.aload_n 0, 1) := by decide +kernel
theorem dX11_asksOf_118 : decode cX11_asksOf 118 = .ok (.sipush 400, 3) := by decide +kernel
theorem dX11_asksOf_121 : decode cX11_asksOf 121 = .ok (.aload_n 0, 1) := by decide +kernel
theorem dX11_asksOf_122 : decode cX11_asksOf 122 = .ok (.getfield 17, 3) := by decide +kernel
theorem dX11_asksOf_125 : decode cX11_asksOf 125 = .ok (.bipush 81, 2) := by decide +kernel
theorem dX11_asksOf_127 : decode cX11_asksOf 127 = .ok (.iaload, 1) := by decide +kernel
theorem dX11_asksOf_128 : decode cX11_asksOf 128 = .ok (.imul, 1) := by decide +kernel
theorem dX11_asksOf_129 : decode cX11_asksOf 129 = .ok (.putfield 228, 3) := by decide +kernel
theorem dX11_asksOf_132 : decode cX11_asksOf 132 = .ok (.aload_n 0, 1) := by decide +kernel
theorem dX11_asksOf_133 : decode cX11_asksOf 133 = .ok (.aload_n 0, 1) := by decide +kernel
theorem dX11_asksOf_134 : decode cX11_asksOf 134 = .ok (.getfield 228, 3) := by decide +kernel
theorem dX11_asksOf_137 : decode cX11_asksOf 137 = .ok (.aload_n 0, 1) := by decide +kernel
theorem dX11_asksOf_138 : decode cX11_asksOf 138 = .ok (.getfield 17, 3) := by decide +kernel
theorem dX11_asksOf_141 : decode cX11_asksOf 141 = .ok (.bipush 82, 2) := by decide +kernel
theorem dX11_asksOf_143 : decode cX11_asksOf 143 = .ok (.aload_n 0, 1) := by decide +kernel
theorem dX11_asksOf_144 : decode cX11_asksOf 144 = .ok (.getfield 17, 3) := by decide +kernel
theorem dX11_asksOf_147 : decode cX11_asksOf 147 = .ok (.bipush 81, 2) := by decide +kernel
theorem dX11_asksOf_149 : decode cX11_asksOf 149 = .ok (.iaload, 1) := by decide +kernel
theorem dX11_asksOf_150 : decode cX11_asksOf 150 = .ok (.iadd, 1) := by decide +kernel
theorem dX11_asksOf_151 : decode cX11_asksOf 151 = .ok (.iaload, 1) := by decide +kernel
theorem dX11_asksOf_152 : decode cX11_asksOf 152 = .ok (.iadd, 1) := by decide +kernel
theorem dX11_asksOf_153 : decode cX11_asksOf 153 = .ok (.putfield 225, 3) := by decide +kernel
theorem dX11_asksOf_156 : decode cX11_asksOf 156 = .ok (.aload_n 0, 1) := by decide +kernel
theorem dX11_asksOf_157 : decode cX11_asksOf 157 = .ok (.getfield 228, 3) := by decide +kernel
theorem dX11_asksOf_160 : decode cX11_asksOf 160 = .ok (.aload_n 0, 1) := by decide +kernel
theorem dX11_asksOf_161 : decode cX11_asksOf 161 = .ok (.getfield 225, 3) := by decide +kernel
theorem dX11_asksOf_164 : decode cX11_asksOf 164 = .ok (.if_icmp .ge 175, 3) := by decide +kernel
theorem dX11_asksOf_167 : decode cX11_asksOf 167 = .ok (.aload_n 0, 1) := by decide +kernel
theorem dX11_asksOf_168 : decode cX11_asksOf 168 = .ok (.aload_n 0, 1) := by decide +kernel
theorem dX11_asksOf_169 : decode cX11_asksOf 169 = .ok (.getfield 228, 3) := by decide +kernel
theorem dX11_asksOf_172 : decode cX11_asksOf 172 = .ok (.invokevirtual 231, 3) := by decide +kernel
theorem dX11_asksOf_175 : decode cX11_asksOf 175 = .ok (.iconst 2, 1) := by decide +kernel
theorem dX11_asksOf_176 : decode cX11_asksOf 176 = .ok (.if_icmp .ne 7, 3) := by decide +kernel
theorem dX11_asksOf_179 : decode cX11_asksOf 179 = .ok (.iconst 1, 1) := by decide +kernel
theorem dX11_asksOf_180 : decode cX11_asksOf 180 = .ok (.goto 4, 3) := by decide +kernel
theorem dX11_asksOf_183 : decode cX11_asksOf 183 = .ok (.iconst 0, 1) := by decide +kernel
theorem dX11_asksOf_184 : decode cX11_asksOf 184 = .ok (.istore 5, 2) := by decide +kernel
theorem dX11_asksOf_186 : decode cX11_asksOf 186 = .ok (.aload_n 0, 1) := by decide +kernel
theorem dX11_asksOf_187 : decode cX11_asksOf 187 = .ok (.iconst 0, 1) := by decide +kernel
theorem dX11_asksOf_188 : decode cX11_asksOf 188 = .ok (.putfield 238, 3) := by decide +kernel
theorem dX11_asksOf_191 : decode cX11_asksOf 191 = .ok (.aload_n 0, 1) := by decide +kernel
theorem dX11_asksOf_192 : decode cX11_asksOf 192 = .ok (.dup, 1) := by decide +kernel
theorem dX11_asksOf_193 : decode cX11_asksOf 193 = .ok (.getfield 228, 3) := by decide +kernel
theorem dX11_asksOf_196 : decode cX11_asksOf 196 = .ok (.iconst 1, 1) := by decide +kernel
theorem dX11_asksOf_197 : decode cX11_asksOf 197 = .ok (.iadd, 1) := by decide +kernel
theorem dX11_asksOf_198 : decode cX11_asksOf 198 = .ok (.putfield 228, 3) := by decide +kernel
theorem dX11_asksOf_201 : decode cX11_asksOf 201 = .ok (.iload 5, 2) := by decide +kernel
theorem dX11_asksOf_203 : decode cX11_asksOf 203 = .ok (.ifCond .eq 7, 3) := by decide +kernel
theorem dX11_asksOf_206 : decode cX11_asksOf 206 = .ok (.lconst 0, 1) := by decide +kernel
theorem dX11_asksOf_207 : decode cX11_asksOf 207 = .ok (.goto 8, 3) := by decide +kernel
theorem dX11_asksOf_210 : decode cX11_asksOf 210 = .ok (.aload_n 0, 1) := by decide +kernel
theorem dX11_asksOf_211 : decode cX11_asksOf 211 = .ok (.iconst 1, 1) := by decide +kernel
theorem dX11_asksOf_212 : decode cX11_asksOf 212 = .ok (.invokevirtual 256, 3) := by decide +kernel
theorem dX11_asksOf_215 : decode cX11_asksOf 215 = .ok (.lstore 6, 2) := by decide +kernel
theorem dX11_asksOf_217 : decode cX11_asksOf 217 = .ok (.aload_n 0, 1) := by decide +kernel
theorem dX11_asksOf_218 : decode cX11_asksOf 218 = .ok (.getfield 238, 3) := by decide +kernel
theorem dX11_asksOf_221 : decode cX11_asksOf 221 = .ok (.istore 8, 2) := by decide +kernel
theorem dX11_asksOf_223 : decode cX11_asksOf 223 = .ok (.aload_n 0, 1) := by decide +kernel
theorem dX11_asksOf_224 : decode cX11_asksOf 224 = .ok (.iconst 0, 1) := by decide +kernel
theorem dX11_asksOf_225 : decode cX11_asksOf 225 = .ok (.putfield 238, 3) := by decide +kernel
theorem dX11_asksOf_228 : decode cX11_asksOf 228 = .ok (.aload_n 0, 1) := by decide +kernel
theorem dX11_asksOf_229 : decode cX11_asksOf 229 = .ok (.iconst 3, 1) := by decide +kernel
theorem dX11_asksOf_230 : decode cX11_asksOf 230 = .ok (.invokevirtual 253, 3) := by decide +kernel
theorem dX11_asksOf_233 : decode cX11_asksOf 233 = .ok (.ifCond .eq 11, 3) := by decide +kernel
theorem dX11_asksOf_236 : decode cX11_asksOf 236 = .ok (.aload_n 0, 1) := by decide +kernel
theorem dX11_asksOf_237 : decode cX11_asksOf 237 = .ok (.iconst 1, 1) := by decide +kernel
theorem dX11_asksOf_238 : decode cX11_asksOf 238 = .ok (.invokevirtual 269, 3) := by decide +kernel
theorem dX11_asksOf_241 : decode cX11_asksOf 241 = .ok (.ifCond .eq 7, 3) := by decide +kernel
theorem dX11_asksOf_244 : decode cX11_asksOf 244 = .ok (.iconst 1, 1) := by decide +kernel
theorem dX11_asksOf_245 : decode cX11_asksOf 245 = .ok (.goto 4, 3) := by decide +kernel
theorem dX11_asksOf_248 : decode cX11_asksOf 248 = .ok (.iconst 0, 1) := by decide +kernel
theorem dX11_asksOf_249 : decode cX11_asksOf 249 = .ok (.istore 9, 2) := by decide +kernel
theorem dX11_asksOf_251 : decode cX11_asksOf 251 = .ok (.iload 9, 2) := by decide +kernel
theorem dX11_asksOf_253 : decode cX11_asksOf 253 = .ok (.ifCond .eq 73, 3) := by decide +kernel
theorem dX11_asksOf_256 : decode cX11_asksOf 256 = .ok (.aload_n 0, 1) := by decide +kernel
theorem dX11_asksOf_257 : decode cX11_asksOf 257 = .ok (.getfield 238, 3) := by decide +kernel
theorem dX11_asksOf_260 : decode cX11_asksOf 260 = .ok (.ifCond .ne 66, 3) := by decide +kernel
theorem dX11_asksOf_263 : decode cX11_asksOf 263 = .ok (.iload 8, 2) := by decide +kernel
theorem dX11_asksOf_265 : decode cX11_asksOf 265 = .ok (.ifCond .ne 61, 3) := by decide +kernel
theorem dX11_asksOf_268 : decode cX11_asksOf 268 = .ok (.aload_n 0, 1) := by decide +kernel
theorem dX11_asksOf_269 : decode cX11_asksOf 269 = .ok (.aload_n 0, 1) := by decide +kernel
theorem dX11_asksOf_270 : decode cX11_asksOf 270 = .ok (.getfield 275, 3) := by decide +kernel
theorem dX11_asksOf_273 : decode cX11_asksOf 273 = .ok (.ifCond .ne 8, 3) := by decide +kernel
theorem dX11_asksOf_276 : decode cX11_asksOf 276 = .ok (.iload 5, 2) := by decide +kernel
theorem dX11_asksOf_278 : decode cX11_asksOf 278 = .ok (.ifCond .eq 7, 3) := by decide +kernel
theorem dX11_asksOf_281 : decode cX11_asksOf 281 = .ok (.iconst 1, 1) := by decide +kernel
theorem dX11_asksOf_282 : decode cX11_asksOf 282 = .ok (.goto 4, 3) := by decide +kernel
theorem dX11_asksOf_285 : decode cX11_asksOf 285 = .ok (.iconst 0, 1) := by decide +kernel
theorem dX11_asksOf_286 : decode cX11_asksOf 286 = .ok (.putfield 275, 3) := by decide +kernel
theorem dX11_asksOf_289 : decode cX11_asksOf 289 = .ok (.iload 5, 2) := by decide +kernel
theorem dX11_asksOf_291 : decode cX11_asksOf 291 = .ok (.ifCond .ne 35, 3) := by decide +kernel
theorem dX11_asksOf_294 : decode cX11_asksOf 294 = .ok (.aload_n 0, 1) := by decide +kernel
theorem dX11_asksOf_295 : decode cX11_asksOf 295 = .ok (.lload 6, 2) := by decide +kernel
theorem dX11_asksOf_297 : decode cX11_asksOf 297 = .ok (.lconst 0, 1) := by decide +kernel
theorem dX11_asksOf_298 : decode cX11_asksOf 298 = .ok (.lcmp, 1) := by decide +kernel
theorem dX11_asksOf_299 : decode cX11_asksOf 299 = .ok (.ifCond .ge 7, 3) := by decide +kernel
theorem dX11_asksOf_302 : decode cX11_asksOf 302 = .ok (.iconst 0, 1) := by decide +kernel
theorem dX11_asksOf_303 : decode cX11_asksOf 303 = .ok (.goto 20, 3) := by decide +kernel
theorem dX11_asksOf_306 : decode cX11_asksOf 306 = .ok (.lload 6, 2) := by decide +kernel
theorem dX11_asksOf_308 : decode cX11_asksOf 308 = .ok (.ldc2_w 278, 3) := by decide +kernel
theorem dX11_asksOf_311 : decode cX11_asksOf 311 = .ok (.lcmp, 1) := by decide +kernel
theorem dX11_asksOf_312 : decode cX11_asksOf 312 = .ok (.ifCond .le 8, 3) := by decide +kernel
theorem dX11_asksOf_315 : decode cX11_asksOf 315 = .ok (.bipush 40, 2) := by decide +kernel
theorem dX11_asksOf_317 : decode cX11_asksOf 317 = .ok (.goto 6, 3) := by decide +kernel
theorem dX11_asksOf_320 : decode cX11_asksOf 320 = .ok (.lload 6, 2) := by decide +kernel
theorem dX11_asksOf_322 : decode cX11_asksOf 322 = .ok (.l2i, 1) := by decide +kernel
theorem dX11_asksOf_323 : decode cX11_asksOf 323 = .ok (.putfield 272, 3) := by decide +kernel
theorem dX11_asksOf_326 : decode cX11_asksOf 326 = .ok (.aload_n 0, 1) := by decide +kernel
theorem dX11_asksOf_327 : decode cX11_asksOf 327 = .ok (.dup, 1) := by decide +kernel
theorem dX11_asksOf_328 : decode cX11_asksOf 328 = .ok (.getfield 228, 3) := by decide +kernel
theorem dX11_asksOf_331 : decode cX11_asksOf 331 = .ok (.iconst 1, 1) := by decide +kernel
theorem dX11_asksOf_332 : decode cX11_asksOf 332 = .ok (.iadd, 1) := by decide +kernel
theorem dX11_asksOf_333 : decode cX11_asksOf 333 = .ok (.putfield 228, 3) := by decide +kernel
theorem dX11_asksOf_336 : decode cX11_asksOf 336 = .ok (.goto (-180), 3) := by decide +kernel
theorem dX11_asksOf_339 : decode cX11_asksOf 339 = .ok (.return_, 1) := by decide +kernel
theorem dX11_asksAll_0 : decode cX11_asksAll 0 = .ok (.iconst 0, 1) := by decide +kernel
theorem dX11_asksAll_1 : decode cX11_asksAll 1 = .ok (.istore_n 2, 1) := by decide +kernel
theorem dX11_asksAll_2 : decode cX11_asksAll 2 = .ok (.iload_n 2, 1) := by decide +kernel
theorem dX11_asksAll_3 : decode cX11_asksAll 3 = .ok (.aload_n 0, 1) := by decide +kernel
theorem dX11_asksAll_4 : decode cX11_asksAll 4 = .ok (.invokevirtual 121, 3) := by decide +kernel
theorem dX11_asksAll_7 : decode cX11_asksAll 7 = .ok (.if_icmp .ge 99, 3) := by decide +kernel
theorem dX11_asksAll_10 : decode cX11_asksAll 10 = .ok (.aload_n 0, 1) := by decide +kernel
theorem dX11_asksAll_11 : decode cX11_asksAll 11 = .ok (.iload_n 2, 1) := by decide +kernel
theorem dX11_asksAll_12 : decode cX11_asksAll 12 = .ok (.iload_n 1, 1) := by decide +kernel
theorem dX11_asksAll_13 : decode cX11_asksAll 13 = .ok (.aload_n 0, 1) := by decide +kernel
theorem dX11_asksAll_14 : decode cX11_asksAll 14 = .ok (.getfield 61, 3) := by decide +kernel
theorem dX11_asksAll_17 : decode cX11_asksAll 17 = .ok (.iload_n 2, 1) := by decide +kernel
theorem dX11_asksAll_18 : decode cX11_asksAll 18 = .ok (.iaload, 1) := by decide +kernel
theorem dX11_asksAll_19 : decode cX11_asksAll 19 = .ok (.iconst (-1), 1) := by decide +kernel
theorem dX11_asksAll_20 : decode cX11_asksAll 20 = .ok (.invokevirtual 280, 3) := by decide +kernel
theorem dX11_asksAll_23 : decode cX11_asksAll 23 = .ok (.aload_n 0, 1) := by decide +kernel
theorem dX11_asksAll_24 : decode cX11_asksAll 24 = .ok (.getfield 52, 3) := by decide +kernel
theorem dX11_asksAll_27 : decode cX11_asksAll 27 = .ok (.iload_n 2, 1) := by decide +kernel
theorem dX11_asksAll_28 : decode cX11_asksAll 28 = .ok (.aload_n 0, 1) := by decide +kernel
theorem dX11_asksAll_29 : decode cX11_asksAll 29 = .ok (.getfield 272, 3) := by decide +kernel
theorem dX11_asksAll_32 : decode cX11_asksAll 32 = .ok (.iastore, 1) := by decide +kernel
theorem dX11_asksAll_33 : decode cX11_asksAll 33 = .ok (.aload_n 0, 1) := by decide +kernel
theorem dX11_asksAll_34 : decode cX11_asksAll 34 = .ok (.getfield 55, 3) := by decide +kernel
theorem dX11_asksAll_37 : decode cX11_asksAll 37 = .ok (.iload_n 2, 1) := by decide +kernel
theorem dX11_asksAll_38 : decode cX11_asksAll 38 = .ok (.iconst 0, 1) := by decide +kernel
theorem dX11_asksAll_39 : decode cX11_asksAll 39 = .ok (.iastore, 1) := by decide +kernel
theorem dX11_asksAll_40 : decode cX11_asksAll 40 = .ok (.iconst 0, 1) := by decide +kernel
theorem dX11_asksAll_41 : decode cX11_asksAll 41 = .ok (.istore_n 3, 1) := by decide +kernel
theorem dX11_asksAll_42 : decode cX11_asksAll 42 = .ok (.iload_n 3, 1) := by decide +kernel
theorem dX11_asksAll_43 : decode cX11_asksAll 43 = .ok (.aload_n 0, 1) := by decide +kernel
theorem dX11_asksAll_44 : decode cX11_asksAll 44 = .ok (.invokevirtual 121, 3) := by decide +kernel
theorem dX11_asksAll_47 : decode cX11_asksAll 47 = .ok (.if_icmp .ge 53, 3) := by decide +kernel
theorem dX11_asksAll_50 : decode cX11_asksAll 50 = .ok (.iload_n 3, 1) := by decide +kernel
theorem dX11_asksAll_51 : decode cX11_asksAll 51 = .ok (.iload_n 2, 1) := by decide +kernel
theorem dX11_asksAll_52 : decode cX11_asksAll 52 = .ok (.if_icmp .ne 6, 3) := by decide +kernel
theorem dX11_asksAll_55 : decode cX11_asksAll 55 = .ok (.goto 39, 3) := by decide +kernel
theorem dX11_asksAll_58 : decode cX11_asksAll 58 = .ok (.aload_n 0, 1) := by decide +kernel
theorem dX11_asksAll_59 : decode cX11_asksAll 59 = .ok (.iload_n 2, 1) := by decide +kernel
theorem dX11_asksAll_60 : decode cX11_asksAll 60 = .ok (.iload_n 1, 1) := by decide +kernel
theorem dX11_asksAll_61 : decode cX11_asksAll 61 = .ok (.aload_n 0, 1) := by decide +kernel
theorem dX11_asksAll_62 : decode cX11_asksAll 62 = .ok (.getfield 61, 3) := by decide +kernel
theorem dX11_asksAll_65 : decode cX11_asksAll 65 = .ok (.iload_n 2, 1) := by decide +kernel
theorem dX11_asksAll_66 : decode cX11_asksAll 66 = .ok (.iaload, 1) := by decide +kernel
theorem dX11_asksAll_67 : decode cX11_asksAll 67 = .ok (.iload_n 3, 1) := by decide +kernel
theorem dX11_asksAll_68 : decode cX11_asksAll 68 = .ok (.invokevirtual 280, 3) := by decide +kernel
theorem dX11_asksAll_71 : decode cX11_asksAll 71 = .ok (.aload_n 0, 1) := by decide +kernel
theorem dX11_asksAll_72 : decode cX11_asksAll 72 = .ok (.getfield 55, 3) := by decide +kernel
theorem dX11_asksAll_75 : decode cX11_asksAll 75 = .ok (.iload_n 2, 1) := by decide +kernel
theorem dX11_asksAll_76 : decode cX11_asksAll 76 = .ok (.dup2, 1) := by decide +kernel
theorem dX11_asksAll_77 : decode cX11_asksAll 77 = .ok (.iaload, 1) := by decide +kernel
theorem dX11_asksAll_78 : decode cX11_asksAll 78 = .ok (.aload_n 0, 1) := by decide +kernel
theorem dX11_asksAll_79 : decode cX11_asksAll 79 = .ok (.getfield 275, 3) := by decide +kernel
theorem dX11_asksAll_82 : decode cX11_asksAll 82 = .ok (.ifCond .eq 9, 3) := by decide +kernel
theorem dX11_asksAll_85 : decode cX11_asksAll 85 = .ok (.iconst 1, 1) := by decide +kernel
theorem dX11_asksAll_86 : decode cX11_asksAll 86 = .ok (.iload_n 3, 1) := by decide +kernel
theorem dX11_asksAll_87 : decode cX11_asksAll 87 = .ok (.ishl, 1) := by decide +kernel
theorem dX11_asksAll_88 : decode cX11_asksAll 88 = .ok (.goto 4, 3) := by decide +kernel
theorem dX11_asksAll_91 : decode cX11_asksAll 91 = .ok (.iconst 0, 1) := by decide +kernel
theorem dX11_asksAll_92 : decode cX11_asksAll 92 = .ok (.ior, 1) := by decide +kernel
theorem dX11_asksAll_93 : decode cX11_asksAll 93 = .ok (.iastore, 1) := by decide +kernel
theorem dX11_asksAll_94 : decode cX11_asksAll 94 = .ok (.iinc 3 1, 3) := by decide +kernel
theorem dX11_asksAll_97 : decode cX11_asksAll 97 = .ok (.goto (-55), 3) := by decide +kernel
theorem dX11_asksAll_100 : decode cX11_asksAll 100 = .ok (.iinc 2 1, 3) := by decide +kernel
theorem dX11_asksAll_103 : decode cX11_asksAll 103 = .ok (.goto (-101), 3) := by decide +kernel
theorem dX11_asksAll_106 : decode cX11_asksAll 106 = .ok (.return_, 1) := by decide +kernel
theorem dX11_lays_0 : decode cX11_lays 0 = .ok (.iconst 0, 1) := by decide +kernel
theorem dX11_lays_1 : decode cX11_lays 1 = .ok (.istore_n 2, 1) := by decide +kernel
theorem dX11_lays_2 : decode cX11_lays 2 = .ok (.iload_n 2, 1) := by decide +kernel
theorem dX11_lays_3 : decode cX11_lays 3 = .ok (.aload_n 0, 1) := by decide +kernel
theorem dX11_lays_4 : decode cX11_lays 4 = .ok (.invokevirtual 121, 3) := by decide +kernel
theorem dX11_lays_7 : decode cX11_lays 7 = .ok (.if_icmp .ge 21, 3) := by decide +kernel
theorem dX11_lays_10 : decode cX11_lays 10 = .ok (.aload_n 0, 1) := by decide +kernel
theorem dX11_lays_11 : decode cX11_lays 11 = .ok (.getfield 61, 3) := by decide +kernel
theorem dX11_lays_14 : decode cX11_lays 14 = .ok (.iload_n 2, 1) := by decide +kernel
theorem dX11_lays_15 : decode cX11_lays 15 = .ok (.aload_n 0, 1) := by decide +kernel
theorem dX11_lays_16 : decode cX11_lays 16 = .ok (.iload_n 2, 1) := by decide +kernel
theorem dX11_lays_17 : decode cX11_lays 17 = .ok (.iconst 3, 1) := by decide +kernel
theorem dX11_lays_18 : decode cX11_lays 18 = .ok (.invokevirtual 138, 3) := by decide +kernel
theorem dX11_lays_21 : decode cX11_lays 21 = .ok (.iastore, 1) := by decide +kernel
theorem dX11_lays_22 : decode cX11_lays 22 = .ok (.iinc 2 1, 3) := by decide +kernel
theorem dX11_lays_25 : decode cX11_lays 25 = .ok (.goto (-23), 3) := by decide +kernel
theorem dX11_lays_28 : decode cX11_lays 28 = .ok (.aload_n 0, 1) := by decide +kernel
theorem dX11_lays_29 : decode cX11_lays 29 = .ok (.getfield 58, 3) := by decide +kernel
theorem dX11_lays_32 : decode cX11_lays 32 = .ok (.iconst 0, 1) := by decide +kernel
theorem dX11_lays_33 : decode cX11_lays 33 = .ok (.aload_n 0, 1) := by decide +kernel
theorem dX11_lays_34 : decode cX11_lays 34 = .ok (.getfield 17, 3) := by decide +kernel
theorem dX11_lays_37 : decode cX11_lays 37 = .ok (.bipush 43, 2) := by decide +kernel
theorem dX11_lays_39 : decode cX11_lays 39 = .ok (.iaload, 1) := by decide +kernel
theorem dX11_lays_40 : decode cX11_lays 40 = .ok (.iastore, 1) := by decide +kernel
theorem dX11_lays_41 : decode cX11_lays 41 = .ok (.aload_n 0, 1) := by decide +kernel
theorem dX11_lays_42 : decode cX11_lays 42 = .ok (.getfield 58, 3) := by decide +kernel
theorem dX11_lays_45 : decode cX11_lays 45 = .ok (.iconst 1, 1) := by decide +kernel
theorem dX11_lays_46 : decode cX11_lays 46 = .ok (.aload_n 0, 1) := by decide +kernel
theorem dX11_lays_47 : decode cX11_lays 47 = .ok (.getfield 17, 3) := by decide +kernel
theorem dX11_lays_50 : decode cX11_lays 50 = .ok (.bipush 44, 2) := by decide +kernel
theorem dX11_lays_52 : decode cX11_lays 52 = .ok (.iaload, 1) := by decide +kernel
theorem dX11_lays_53 : decode cX11_lays 53 = .ok (.iastore, 1) := by decide +kernel
theorem dX11_lays_54 : decode cX11_lays 54 = .ok (.aload_n 0, 1) := by decide +kernel
theorem dX11_lays_55 : decode cX11_lays 55 = .ok (.iload_n 1, 1) := by decide +kernel
theorem dX11_lays_56 : decode cX11_lays 56 = .ok (.invokevirtual 284, 3) := by decide +kernel
theorem dX11_lays_59 : decode cX11_lays 59 = .ok (.return_, 1) := by decide +kernel
theorem dX11_bakesAll_0 : decode cX11_bakesAll 0 = .ok (.iconst 0, 1) := by decide +kernel
theorem dX11_bakesAll_1 : decode cX11_bakesAll 1 = .ok (.istore_n 1, 1) := by decide +kernel
theorem dX11_bakesAll_2 : decode cX11_bakesAll 2 = .ok (.iload_n 1, 1) := by decide +kernel
theorem dX11_bakesAll_3 : decode cX11_bakesAll 3 = .ok (.aload_n 0, 1) := by decide +kernel
theorem dX11_bakesAll_4 : decode cX11_bakesAll 4 = .ok (.invokevirtual 121, 3) := by decide +kernel
theorem dX11_bakesAll_7 : decode cX11_bakesAll 7 = .ok (.if_icmp .ge 29, 3) := by decide +kernel
theorem dX11_bakesAll_10 : decode cX11_bakesAll 10 = .ok (.aload_n 0, 1) := by decide +kernel
theorem dX11_bakesAll_11 : decode cX11_bakesAll 11 = .ok (.getfield 58, 3) := by decide +kernel
theorem dX11_bakesAll_14 : decode cX11_bakesAll 14 = .ok (.aload_n 0, 1) := by decide +kernel
theorem dX11_bakesAll_15 : decode cX11_bakesAll 15 = .ok (.iload_n 1, 1) := by decide +kernel
theorem dX11_bakesAll_16 : decode cX11_bakesAll 16 = .ok (.iconst 2, 1) := by decide +kernel
theorem dX11_bakesAll_17 : decode cX11_bakesAll 17 = .ok (.invokevirtual 138, 3) := by decide +kernel
theorem dX11_bakesAll_20 : decode cX11_bakesAll 20 = .ok (.dup2, 1) := by decide +kernel
theorem dX11_bakesAll_21 : decode cX11_bakesAll 21 = .ok (.iaload, 1) := by decide +kernel
theorem dX11_bakesAll_22 : decode cX11_bakesAll 22 = .ok (.aload_n 0, 1) := by decide +kernel
theorem dX11_bakesAll_23 : decode cX11_bakesAll 23 = .ok (.getfield 52, 3) := by decide +kernel
theorem dX11_bakesAll_26 : decode cX11_bakesAll 26 = .ok (.iload_n 1, 1) := by decide +kernel
theorem dX11_bakesAll_27 : decode cX11_bakesAll 27 = .ok (.iaload, 1) := by decide +kernel
theorem dX11_bakesAll_28 : decode cX11_bakesAll 28 = .ok (.iadd, 1) := by decide +kernel
theorem dX11_bakesAll_29 : decode cX11_bakesAll 29 = .ok (.iastore, 1) := by decide +kernel
theorem dX11_bakesAll_30 : decode cX11_bakesAll 30 = .ok (.iinc 1 1, 3) := by decide +kernel
theorem dX11_bakesAll_33 : decode cX11_bakesAll 33 = .ok (.goto (-31), 3) := by decide +kernel
theorem dX11_bakesAll_36 : decode cX11_bakesAll 36 = .ok (.return_, 1) := by decide +kernel
theorem dX11_waits_0 : decode cX11_waits 0 = .ok (.aload_n 0, 1) := by decide +kernel
theorem dX11_waits_1 : decode cX11_waits 1 = .ok (.iload_n 1, 1) := by decide +kernel
theorem dX11_waits_2 : decode cX11_waits 2 = .ok (.invokevirtual 134, 3) := by decide +kernel
theorem dX11_waits_5 : decode cX11_waits 5 = .ok (.ifCond .eq 16, 3) := by decide +kernel
theorem dX11_waits_8 : decode cX11_waits 8 = .ok (.aload_n 0, 1) := by decide +kernel
theorem dX11_waits_9 : decode cX11_waits 9 = .ok (.iload_n 2, 1) := by decide +kernel
theorem dX11_waits_10 : decode cX11_waits 10 = .ok (.invokevirtual 134, 3) := by decide +kernel
theorem dX11_waits_13 : decode cX11_waits 13 = .ok (.ifCond .eq 8, 3) := by decide +kernel
theorem dX11_waits_16 : decode cX11_waits 16 = .ok (.iload_n 1, 1) := by decide +kernel
theorem dX11_waits_17 : decode cX11_waits 17 = .ok (.iload_n 2, 1) := by decide +kernel
theorem dX11_waits_18 : decode cX11_waits 18 = .ok (.if_icmp .ne 5, 3) := by decide +kernel
theorem dX11_waits_21 : decode cX11_waits 21 = .ok (.iconst (-1), 1) := by decide +kernel
theorem dX11_waits_22 : decode cX11_waits 22 = .ok (.ireturn, 1) := by decide +kernel
theorem dX11_waits_23 : decode cX11_waits 23 = .ok (.aload_n 0, 1) := by decide +kernel
theorem dX11_waits_24 : decode cX11_waits 24 = .ok (.aload_n 0, 1) := by decide +kernel
theorem dX11_waits_25 : decode cX11_waits 25 = .ok (.getfield 17, 3) := by decide +kernel
theorem dX11_waits_28 : decode cX11_waits 28 = .ok (.bipush 42, 2) := by decide +kernel
theorem dX11_waits_30 : decode cX11_waits 30 = .ok (.iaload, 1) := by decide +kernel
theorem dX11_waits_31 : decode cX11_waits 31 = .ok (.invokevirtual 142, 3) := by decide +kernel
theorem dX11_waits_34 : decode cX11_waits 34 = .ok (.aload_n 0, 1) := by decide +kernel
theorem dX11_waits_35 : decode cX11_waits 35 = .ok (.getfield 55, 3) := by decide +kernel
theorem dX11_waits_38 : decode cX11_waits 38 = .ok (.iload_n 1, 1) := by decide +kernel
theorem dX11_waits_39 : decode cX11_waits 39 = .ok (.iaload, 1) := by decide +kernel
theorem dX11_waits_40 : decode cX11_waits 40 = .ok (.iload_n 2, 1) := by decide +kernel
theorem dX11_waits_41 : decode cX11_waits 41 = .ok (.invokestatic 287, 3) := by decide +kernel
theorem dX11_waits_44 : decode cX11_waits 44 = .ok (.ifCond .eq 7, 3) := by decide +kernel
theorem dX11_waits_47 : decode cX11_waits 47 = .ok (.iconst 1, 1) := by decide +kernel
theorem dX11_waits_48 : decode cX11_waits 48 = .ok (.goto 4, 3) := by decide +kernel
theorem dX11_waits_51 : decode cX11_waits 51 = .ok (.iconst 0, 1) := by decide +kernel
theorem dX11_waits_52 : decode cX11_waits 52 = .ok (.ireturn, 1) := by decide +kernel
theorem dX11_blessedBy_0 : decode cX11_blessedBy 0 = .ok (.aload_n 0, 1) := by decide +kernel
theorem dX11_blessedBy_1 : decode cX11_blessedBy 1 = .ok (.getfield 17, 3) := by decide +kernel
theorem dX11_blessedBy_4 : decode cX11_blessedBy 4 = .ok (.bipush 41, 2) := by decide +kernel
theorem dX11_blessedBy_6 : decode cX11_blessedBy 6 = .ok (.iaload, 1) := by decide +kernel
theorem dX11_blessedBy_7 : decode cX11_blessedBy 7 = .ok (.ifCond .ne 13, 3) := by decide +kernel
theorem dX11_blessedBy_10 : decode cX11_blessedBy 10 = .ok (.iload_n 1, 1) := by decide +kernel
theorem dX11_blessedBy_11 : decode cX11_blessedBy 11 = .ok (.aload_n 0, 1) := by decide +kernel
theorem dX11_blessedBy_12 : decode cX11_blessedBy 12 = .ok (.getfield 17, 3) := by decide +kernel
theorem dX11_blessedBy_15 : decode cX11_blessedBy 15 = .ok (.bipush 40, 2) := by decide +kernel
theorem dX11_blessedBy_17 : decode cX11_blessedBy 17 = .ok (.iaload, 1) := by decide +kernel
theorem dX11_blessedBy_18 : decode cX11_blessedBy 18 = .ok (.idiv, 1) := by decide +kernel
theorem dX11_blessedBy_19 : decode cX11_blessedBy 19 = .ok (.ireturn, 1) := by decide +kernel
theorem dX11_blessedBy_20 : decode cX11_blessedBy 20 = .ok (.aload_n 0, 1) := by decide +kernel
theorem dX11_blessedBy_21 : decode cX11_blessedBy 21 = .ok (.getfield 17, 3) := by decide +kernel
theorem dX11_blessedBy_24 : decode cX11_blessedBy 24 = .ok (.bipush 41, 2) := by decide +kernel
theorem dX11_blessedBy_26 : decode cX11_blessedBy 26 = .ok (.iaload, 1) := by decide +kernel
theorem dX11_blessedBy_27 : decode cX11_blessedBy 27 = .ok (.aload_n 0, 1) := by decide +kernel
theorem dX11_blessedBy_28 : decode cX11_blessedBy 28 = .ok (.getfield 17, 3) := by decide +kernel
theorem dX11_blessedBy_31 : decode cX11_blessedBy 31 = .ok (.bipush 40, 2) := by decide +kernel
theorem dX11_blessedBy_33 : decode cX11_blessedBy 33 = .ok (.iaload, 1) := by decide +kernel
theorem dX11_blessedBy_34 : decode cX11_blessedBy 34 = .ok (.imul, 1) := by decide +kernel
theorem dX11_blessedBy_35 : decode cX11_blessedBy 35 = .ok (.iconst 1, 1) := by decide +kernel
theorem dX11_blessedBy_36 : decode cX11_blessedBy 36 = .ok (.iadd, 1) := by decide +kernel
theorem dX11_blessedBy_37 : decode cX11_blessedBy 37 = .ok (.istore_n 2, 1) := by decide +kernel
theorem dX11_blessedBy_38 : decode cX11_blessedBy 38 = .ok (.iload_n 1, 1) := by decide +kernel
theorem dX11_blessedBy_39 : decode cX11_blessedBy 39 = .ok (.iload_n 2, 1) := by decide +kernel
theorem dX11_blessedBy_40 : decode cX11_blessedBy 40 = .ok (.idiv, 1) := by decide +kernel
theorem dX11_blessedBy_41 : decode cX11_blessedBy 41 = .ok (.aload_n 0, 1) := by decide +kernel
theorem dX11_blessedBy_42 : decode cX11_blessedBy 42 = .ok (.getfield 17, 3) := by decide +kernel
theorem dX11_blessedBy_45 : decode cX11_blessedBy 45 = .ok (.bipush 41, 2) := by decide +kernel
theorem dX11_blessedBy_47 : decode cX11_blessedBy 47 = .ok (.iaload, 1) := by decide +kernel
theorem dX11_blessedBy_48 : decode cX11_blessedBy 48 = .ok (.imul, 1) := by decide +kernel
theorem dX11_blessedBy_49 : decode cX11_blessedBy 49 = .ok (.iload_n 1, 1) := by decide +kernel
theorem dX11_blessedBy_50 : decode cX11_blessedBy 50 = .ok (.iload_n 2, 1) := by decide +kernel
theorem dX11_blessedBy_51 : decode cX11_blessedBy 51 = .ok (.irem, 1) := by decide +kernel
theorem dX11_blessedBy_52 : decode cX11_blessedBy 52 = .ok (.aload_n 0, 1) := by decide +kernel
theorem dX11_blessedBy_53 : decode cX11_blessedBy 53 = .ok (.getfield 17, 3) := by decide +kernel
theorem dX11_blessedBy_56 : decode cX11_blessedBy 56 = .ok (.bipush 40, 2) := by decide +kernel
theorem dX11_blessedBy_58 : decode cX11_blessedBy 58 = .ok (.iaload, 1) := by decide +kernel
theorem dX11_blessedBy_59 : decode cX11_blessedBy 59 = .ok (.idiv, 1) := by decide +kernel
theorem dX11_blessedBy_60 : decode cX11_blessedBy 60 = .ok (.aload_n 0, 1) := by decide +kernel
theorem dX11_blessedBy_61 : decode cX11_blessedBy 61 = .ok (.getfield 17, 3) := by decide +kernel
theorem dX11_blessedBy_64 : decode cX11_blessedBy 64 = .ok (.bipush 41, 2) := by decide +kernel
theorem dX11_blessedBy_66 : decode cX11_blessedBy 66 = .ok (.iaload, 1) := by decide +kernel
theorem dX11_blessedBy_67 : decode cX11_blessedBy 67 = .ok (.iconst 1, 1) := by decide +kernel
theorem dX11_blessedBy_68 : decode cX11_blessedBy 68 = .ok (.isub, 1) := by decide +kernel
theorem dX11_blessedBy_69 : decode cX11_blessedBy 69 = .ok (.invokestatic 290, 3) := by decide +kernel
theorem dX11_blessedBy_72 : decode cX11_blessedBy 72 = .ok (.iadd, 1) := by decide +kernel
theorem dX11_blessedBy_73 : decode cX11_blessedBy 73 = .ok (.ireturn, 1) := by decide +kernel
theorem dX11_blessed_0 : decode cX11_blessed 0 = .ok (.iload_n 1, 1) := by decide +kernel
theorem dX11_blessed_1 : decode cX11_blessed 1 = .ok (.iconst 1, 1) := by decide +kernel
theorem dX11_blessed_2 : decode cX11_blessed 2 = .ok (.ldc 168, 2) := by decide +kernel
theorem dX11_blessed_4 : decode cX11_blessed 4 = .ok (.invokestatic 110, 3) := by decide +kernel
theorem dX11_blessed_7 : decode cX11_blessed 7 = .ok (.ifCond .eq 12, 3) := by decide +kernel
theorem dX11_blessed_10 : decode cX11_blessed 10 = .ok (.iload_n 2, 1) := by decide +kernel
theorem dX11_blessed_11 : decode cX11_blessed 11 = .ok (.iconst 0, 1) := by decide +kernel
theorem dX11_blessed_12 : decode cX11_blessed 12 = .ok (.iconst 1, 1) := by decide +kernel
theorem dX11_blessed_13 : decode cX11_blessed 13 = .ok (.invokestatic 110, 3) := by decide +kernel
theorem dX11_blessed_16 : decode cX11_blessed 16 = .ok (.ifCond .ne 5, 3) := by decide +kernel
theorem dX11_blessed_19 : decode cX11_blessed 19 = .ok (.iconst (-1), 1) := by decide +kernel
theorem dX11_blessed_20 : decode cX11_blessed 20 = .ok (.ireturn, 1) := by decide +kernel
theorem dX11_blessed_21 : decode cX11_blessed 21 = .ok (.iload_n 2, 1) := by decide +kernel
theorem dX11_blessed_22 : decode cX11_blessed 22 = .ok (.iconst 1, 1) := by decide +kernel
theorem dX11_blessed_23 : decode cX11_blessed 23 = .ok (.if_icmp .ne 11, 3) := by decide +kernel
theorem dX11_blessed_26 : decode cX11_blessed 26 = .ok (.aload_n 0, 1) := by decide +kernel
theorem dX11_blessed_27 : decode cX11_blessed 27 = .ok (.iload_n 1, 1) := by decide +kernel
theorem dX11_blessed_28 : decode cX11_blessed 28 = .ok (.invokevirtual 293, 3) := by decide +kernel
theorem dX11_blessed_31 : decode cX11_blessed 31 = .ok (.goto 16, 3) := by decide +kernel
theorem dX11_blessed_34 : decode cX11_blessed 34 = .ok (.aload_n 0, 1) := by decide +kernel
theorem dX11_blessed_35 : decode cX11_blessed 35 = .ok (.iload_n 1, 1) := by decide +kernel
theorem dX11_blessed_36 : decode cX11_blessed 36 = .ok (.invokevirtual 293, 3) := by decide +kernel
theorem dX11_blessed_39 : decode cX11_blessed 39 = .ok (.aload_n 0, 1) := by decide +kernel
theorem dX11_blessed_40 : decode cX11_blessed 40 = .ok (.iload_n 1, 1) := by decide +kernel
theorem dX11_blessed_41 : decode cX11_blessed 41 = .ok (.iconst 1, 1) := by decide +kernel
theorem dX11_blessed_42 : decode cX11_blessed 42 = .ok (.isub, 1) := by decide +kernel
theorem dX11_blessed_43 : decode cX11_blessed 43 = .ok (.invokevirtual 293, 3) := by decide +kernel
theorem dX11_blessed_46 : decode cX11_blessed 46 = .ok (.isub, 1) := by decide +kernel
theorem dX11_blessed_47 : decode cX11_blessed 47 = .ok (.ireturn, 1) := by decide +kernel
theorem dX11_startOf_0 : decode cX11_startOf 0 = .ok (.aload_n 0, 1) := by decide +kernel
theorem dX11_startOf_1 : decode cX11_startOf 1 = .ok (.getfield 58, 3) := by decide +kernel
theorem dX11_startOf_4 : decode cX11_startOf 4 = .ok (.aload_n 0, 1) := by decide +kernel
theorem dX11_startOf_5 : decode cX11_startOf 5 = .ok (.iload_n 2, 1) := by decide +kernel
theorem dX11_startOf_6 : decode cX11_startOf 6 = .ok (.iconst 2, 1) := by decide +kernel
theorem dX11_startOf_7 : decode cX11_startOf 7 = .ok (.invokevirtual 138, 3) := by decide +kernel
theorem dX11_startOf_10 : decode cX11_startOf 10 = .ok (.iaload, 1) := by decide +kernel
theorem dX11_startOf_11 : decode cX11_startOf 11 = .ok (.istore_n 3, 1) := by decide +kernel
theorem dX11_startOf_12 : decode cX11_startOf 12 = .ok (.iconst 0, 1) := by decide +kernel
theorem dX11_startOf_13 : decode cX11_startOf 13 = .ok (.istore 4, 2) := by decide +kernel
theorem dX11_startOf_15 : decode cX11_startOf 15 = .ok (.iload 4, 2) := by decide +kernel
theorem dX11_startOf_17 : decode cX11_startOf 17 = .ok (.aload_n 0, 1) := by decide +kernel
theorem dX11_startOf_18 : decode cX11_startOf 18 = .ok (.invokevirtual 121, 3) := by decide +kernel
theorem dX11_startOf_21 : decode cX11_startOf 21 = .ok (.if_icmp .ge 48, 3) := by decide +kernel
theorem dX11_startOf_24 : decode cX11_startOf 24 = .ok (.iload_n 3, 1) := by decide +kernel
theorem dX11_startOf_25 : decode cX11_startOf 25 = .ok (.iload_n 1, 1) := by decide +kernel
theorem dX11_startOf_26 : decode cX11_startOf 26 = .ok (.iload 4, 2) := by decide +kernel
theorem dX11_startOf_28 : decode cX11_startOf 28 = .ok (.invokestatic 287, 3) := by decide +kernel
theorem dX11_startOf_31 : decode cX11_startOf 31 = .ok (.ifCond .eq 29, 3) := by decide +kernel
theorem dX11_startOf_34 : decode cX11_startOf 34 = .ok (.aload_n 0, 1) := by decide +kernel
theorem dX11_startOf_35 : decode cX11_startOf 35 = .ok (.iload 4, 2) := by decide +kernel
theorem dX11_startOf_37 : decode cX11_startOf 37 = .ok (.iconst 2, 1) := by decide +kernel
theorem dX11_startOf_38 : decode cX11_startOf 38 = .ok (.invokevirtual 138, 3) := by decide +kernel
theorem dX11_startOf_41 : decode cX11_startOf 41 = .ok (.aload_n 0, 1) := by decide +kernel
theorem dX11_startOf_42 : decode cX11_startOf 42 = .ok (.iload_n 2, 1) := by decide +kernel
theorem dX11_startOf_43 : decode cX11_startOf 43 = .ok (.iconst 2, 1) := by decide +kernel
theorem dX11_startOf_44 : decode cX11_startOf 44 = .ok (.invokevirtual 138, 3) := by decide +kernel
theorem dX11_startOf_47 : decode cX11_startOf 47 = .ok (.if_icmp .ne 13, 3) := by decide +kernel
theorem dX11_startOf_50 : decode cX11_startOf 50 = .ok (.aload_n 0, 1) := by decide +kernel
theorem dX11_startOf_51 : decode cX11_startOf 51 = .ok (.getfield 52, 3) := by decide +kernel
theorem dX11_startOf_54 : decode cX11_startOf 54 = .ok (.iload 4, 2) := by decide +kernel
theorem dX11_startOf_56 : decode cX11_startOf 56 = .ok (.iaload, 1) := by decide +kernel
theorem dX11_startOf_57 : decode cX11_startOf 57 = .ok (.goto 4, 3) := by decide +kernel
theorem dX11_startOf_60 : decode cX11_startOf 60 = .ok (.iconst 0, 1) := by decide +kernel
theorem dX11_startOf_61 : decode cX11_startOf 61 = .ok (.iadd, 1) := by decide +kernel
theorem dX11_startOf_62 : decode cX11_startOf 62 = .ok (.istore_n 3, 1) := by decide +kernel
theorem dX11_startOf_63 : decode cX11_startOf 63 = .ok (.iinc 4 1, 3) := by decide +kernel
theorem dX11_startOf_66 : decode cX11_startOf 66 = .ok (.goto (-51), 3) := by decide +kernel
theorem dX11_startOf_69 : decode cX11_startOf 69 = .ok (.iload_n 3, 1) := by decide +kernel
theorem dX11_startOf_70 : decode cX11_startOf 70 = .ok (.ireturn, 1) := by decide +kernel
theorem dX11_getsOf_0 : decode cX11_getsOf 0 = .ok (.aload_n 0, 1) := by decide +kernel
theorem dX11_getsOf_1 : decode cX11_getsOf 1 = .ok (.aload_n 0, 1) := by decide +kernel
theorem dX11_getsOf_2 : decode cX11_getsOf 2 = .ok (.iload_n 1, 1) := by decide +kernel
theorem dX11_getsOf_3 : decode cX11_getsOf 3 = .ok (.iload_n 2, 1) := by decide +kernel
theorem dX11_getsOf_4 : decode cX11_getsOf 4 = .ok (.invokevirtual 296, 3) := by decide +kernel
theorem dX11_getsOf_7 : decode cX11_getsOf 7 = .ok (.aload_n 0, 1) := by decide +kernel
theorem dX11_getsOf_8 : decode cX11_getsOf 8 = .ok (.getfield 52, 3) := by decide +kernel
theorem dX11_getsOf_11 : decode cX11_getsOf 11 = .ok (.iload_n 2, 1) := by decide +kernel
theorem dX11_getsOf_12 : decode cX11_getsOf 12 = .ok (.iaload, 1) := by decide +kernel
theorem dX11_getsOf_13 : decode cX11_getsOf 13 = .ok (.iadd, 1) := by decide +kernel
theorem dX11_getsOf_14 : decode cX11_getsOf 14 = .ok (.invokevirtual 293, 3) := by decide +kernel
theorem dX11_getsOf_17 : decode cX11_getsOf 17 = .ok (.aload_n 0, 1) := by decide +kernel
theorem dX11_getsOf_18 : decode cX11_getsOf 18 = .ok (.aload_n 0, 1) := by decide +kernel
theorem dX11_getsOf_19 : decode cX11_getsOf 19 = .ok (.iload_n 1, 1) := by decide +kernel
theorem dX11_getsOf_20 : decode cX11_getsOf 20 = .ok (.iload_n 2, 1) := by decide +kernel
theorem dX11_getsOf_21 : decode cX11_getsOf 21 = .ok (.invokevirtual 296, 3) := by decide +kernel
theorem dX11_getsOf_24 : decode cX11_getsOf 24 = .ok (.invokevirtual 293, 3) := by decide +kernel
theorem dX11_getsOf_27 : decode cX11_getsOf 27 = .ok (.isub, 1) := by decide +kernel
theorem dX11_getsOf_28 : decode cX11_getsOf 28 = .ok (.ireturn, 1) := by decide +kernel
theorem dX11_mayNext_0 : decode cX11_mayNext 0 = .ok (.iload_n 1, 1) := by decide +kernel
theorem dX11_mayNext_1 : decode cX11_mayNext 1 = .ok (.iload_n 2, 1) := by decide +kernel
theorem dX11_mayNext_2 : decode cX11_mayNext 2 = .ok (.invokestatic 287, 3) := by decide +kernel
theorem dX11_mayNext_5 : decode cX11_mayNext 5 = .ok (.ifCond .ne 20, 3) := by decide +kernel
theorem dX11_mayNext_8 : decode cX11_mayNext 8 = .ok (.aload_n 0, 1) := by decide +kernel
theorem dX11_mayNext_9 : decode cX11_mayNext 9 = .ok (.getfield 55, 3) := by decide +kernel
theorem dX11_mayNext_12 : decode cX11_mayNext 12 = .ok (.iload_n 2, 1) := by decide +kernel
theorem dX11_mayNext_13 : decode cX11_mayNext 13 = .ok (.iaload, 1) := by decide +kernel
theorem dX11_mayNext_14 : decode cX11_mayNext 14 = .ok (.iload_n 1, 1) := by decide +kernel
theorem dX11_mayNext_15 : decode cX11_mayNext 15 = .ok (.iconst (-1), 1) := by decide +kernel
theorem dX11_mayNext_16 : decode cX11_mayNext 16 = .ok (.ixor, 1) := by decide +kernel
theorem dX11_mayNext_17 : decode cX11_mayNext 17 = .ok (.iand, 1) := by decide +kernel
theorem dX11_mayNext_18 : decode cX11_mayNext 18 = .ok (.ifCond .ne 7, 3) := by decide +kernel
theorem dX11_mayNext_21 : decode cX11_mayNext 21 = .ok (.iconst 1, 1) := by decide +kernel
theorem dX11_mayNext_22 : decode cX11_mayNext 22 = .ok (.goto 4, 3) := by decide +kernel
theorem dX11_mayNext_25 : decode cX11_mayNext 25 = .ok (.iconst 0, 1) := by decide +kernel
theorem dX11_mayNext_26 : decode cX11_mayNext 26 = .ok (.ireturn, 1) := by decide +kernel
theorem dX11_everyone_0 : decode cX11_everyone 0 = .ok (.iconst 1, 1) := by decide +kernel
theorem dX11_everyone_1 : decode cX11_everyone 1 = .ok (.aload_n 0, 1) := by decide +kernel
theorem dX11_everyone_2 : decode cX11_everyone 2 = .ok (.invokevirtual 121, 3) := by decide +kernel
theorem dX11_everyone_5 : decode cX11_everyone 5 = .ok (.ishl, 1) := by decide +kernel
theorem dX11_everyone_6 : decode cX11_everyone 6 = .ok (.iconst 1, 1) := by decide +kernel
theorem dX11_everyone_7 : decode cX11_everyone 7 = .ok (.isub, 1) := by decide +kernel
theorem dX11_everyone_8 : decode cX11_everyone 8 = .ok (.ireturn, 1) := by decide +kernel
theorem dX11_served_0 : decode cX11_served 0 = .ok (.aload_n 0, 1) := by decide +kernel
theorem dX11_served_1 : decode cX11_served 1 = .ok (.iload_n 1, 1) := by decide +kernel
theorem dX11_served_2 : decode cX11_served 2 = .ok (.invokevirtual 134, 3) := by decide +kernel
theorem dX11_served_5 : decode cX11_served 5 = .ok (.ifCond .eq 12, 3) := by decide +kernel
theorem dX11_served_8 : decode cX11_served 8 = .ok (.iload_n 2, 1) := by decide +kernel
theorem dX11_served_9 : decode cX11_served 9 = .ok (.iconst 0, 1) := by decide +kernel
theorem dX11_served_10 : decode cX11_served 10 = .ok (.iconst 1, 1) := by decide +kernel
theorem dX11_served_11 : decode cX11_served 11 = .ok (.invokestatic 110, 3) := by decide +kernel
theorem dX11_served_14 : decode cX11_served 14 = .ok (.ifCond .ne 5, 3) := by decide +kernel
theorem dX11_served_17 : decode cX11_served 17 = .ok (.iconst (-1), 1) := by decide +kernel
theorem dX11_served_18 : decode cX11_served 18 = .ok (.ireturn, 1) := by decide +kernel
theorem dX11_served_19 : decode cX11_served 19 = .ok (.aload_n 0, 1) := by decide +kernel
theorem dX11_served_20 : decode cX11_served 20 = .ok (.aload_n 0, 1) := by decide +kernel
theorem dX11_served_21 : decode cX11_served 21 = .ok (.getfield 17, 3) := by decide +kernel
theorem dX11_served_24 : decode cX11_served 24 = .ok (.bipush 42, 2) := by decide +kernel
theorem dX11_served_26 : decode cX11_served 26 = .ok (.iaload, 1) := by decide +kernel
theorem dX11_served_27 : decode cX11_served 27 = .ok (.invokevirtual 142, 3) := by decide +kernel
theorem dX11_served_30 : decode cX11_served 30 = .ok (.iconst 1, 1) := by decide +kernel
theorem dX11_served_31 : decode cX11_served 31 = .ok (.iload_n 1, 1) := by decide +kernel
theorem dX11_served_32 : decode cX11_served 32 = .ok (.ishl, 1) := by decide +kernel
theorem dX11_served_33 : decode cX11_served 33 = .ok (.iconst 1, 1) := by decide +kernel
theorem dX11_served_34 : decode cX11_served 34 = .ok (.isub, 1) := by decide +kernel
theorem dX11_served_35 : decode cX11_served 35 = .ok (.istore_n 3, 1) := by decide +kernel
theorem dX11_served_36 : decode cX11_served 36 = .ok (.iload_n 2, 1) := by decide +kernel
theorem dX11_served_37 : decode cX11_served 37 = .ok (.ifCond .ne 12, 3) := by decide +kernel
theorem dX11_served_40 : decode cX11_served 40 = .ok (.aload_n 0, 1) := by decide +kernel
theorem dX11_served_41 : decode cX11_served 41 = .ok (.iload_n 3, 1) := by decide +kernel
theorem dX11_served_42 : decode cX11_served 42 = .ok (.iload_n 1, 1) := by decide +kernel
theorem dX11_served_43 : decode cX11_served 43 = .ok (.invokevirtual 299, 3) := by decide +kernel
theorem dX11_served_46 : decode cX11_served 46 = .ok (.goto 24, 3) := by decide +kernel
theorem dX11_served_49 : decode cX11_served 49 = .ok (.aload_n 0, 1) := by decide +kernel
theorem dX11_served_50 : decode cX11_served 50 = .ok (.getfield 52, 3) := by decide +kernel
theorem dX11_served_53 : decode cX11_served 53 = .ok (.iload_n 1, 1) := by decide +kernel
theorem dX11_served_54 : decode cX11_served 54 = .ok (.iaload, 1) := by decide +kernel
theorem dX11_served_55 : decode cX11_served 55 = .ok (.ifCond .ne 7, 3) := by decide +kernel
theorem dX11_served_58 : decode cX11_served 58 = .ok (.iconst (-1), 1) := by decide +kernel
theorem dX11_served_59 : decode cX11_served 59 = .ok (.goto 11, 3) := by decide +kernel
theorem dX11_served_62 : decode cX11_served 62 = .ok (.aload_n 0, 1) := by decide +kernel
theorem dX11_served_63 : decode cX11_served 63 = .ok (.iload_n 3, 1) := by decide +kernel
theorem dX11_served_64 : decode cX11_served 64 = .ok (.iload_n 1, 1) := by decide +kernel
theorem dX11_served_65 : decode cX11_served 65 = .ok (.invokevirtual 296, 3) := by decide +kernel
theorem dX11_served_68 : decode cX11_served 68 = .ok (.iconst 1, 1) := by decide +kernel
theorem dX11_served_69 : decode cX11_served 69 = .ok (.iadd, 1) := by decide +kernel
theorem dX11_served_70 : decode cX11_served 70 = .ok (.ireturn, 1) := by decide +kernel
theorem dX11_counts0_0 : decode cX11_counts0 0 = .ok (.aload_n 0, 1) := by decide +kernel
theorem dX11_counts0_1 : decode cX11_counts0 1 = .ok (.invokevirtual 302, 3) := by decide +kernel
theorem dX11_counts0_4 : decode cX11_counts0 4 = .ok (.istore_n 1, 1) := by decide +kernel
theorem dX11_counts0_5 : decode cX11_counts0 5 = .ok (.iconst 0, 1) := by decide +kernel
theorem dX11_counts0_6 : decode cX11_counts0 6 = .ok (.istore_n 2, 1) := by decide +kernel
theorem dX11_counts0_7 : decode cX11_counts0 7 = .ok (.iload_n 2, 1) := by decide +kernel
theorem dX11_counts0_8 : decode cX11_counts0 8 = .ok (.iload_n 1, 1) := by decide +kernel
theorem dX11_counts0_9 : decode cX11_counts0 9 = .ok (.if_icmp .gt 84, 3) := by decide +kernel
theorem dX11_counts0_12 : decode cX11_counts0 12 = .ok (.aload_n 0, 1) := by decide +kernel
theorem dX11_counts0_13 : decode cX11_counts0 13 = .ok (.getfield 64, 3) := by decide +kernel
theorem dX11_counts0_16 : decode cX11_counts0 16 = .ok (.iload_n 2, 1) := by decide +kernel
theorem dX11_counts0_17 : decode cX11_counts0 17 = .ok (.iload_n 2, 1) := by decide +kernel
theorem dX11_counts0_18 : decode cX11_counts0 18 = .ok (.ifCond .ne 7, 3) := by decide +kernel
theorem dX11_counts0_21 : decode cX11_counts0 21 = .ok (.iconst 1, 1) := by decide +kernel
theorem dX11_counts0_22 : decode cX11_counts0 22 = .ok (.goto 4, 3) := by decide +kernel
theorem dX11_counts0_25 : decode cX11_counts0 25 = .ok (.iconst 0, 1) := by decide +kernel
theorem dX11_counts0_26 : decode cX11_counts0 26 = .ok (.iastore, 1) := by decide +kernel
theorem dX11_counts0_27 : decode cX11_counts0 27 = .ok (.iconst 0, 1) := by decide +kernel
theorem dX11_counts0_28 : decode cX11_counts0 28 = .ok (.istore_n 3, 1) := by decide +kernel
theorem dX11_counts0_29 : decode cX11_counts0 29 = .ok (.iload_n 3, 1) := by decide +kernel
theorem dX11_counts0_30 : decode cX11_counts0 30 = .ok (.aload_n 0, 1) := by decide +kernel
theorem dX11_counts0_31 : decode cX11_counts0 31 = .ok (.invokevirtual 121, 3) := by decide +kernel
theorem dX11_counts0_34 : decode cX11_counts0 34 = .ok (.if_icmp .ge 53, 3) := by decide +kernel
theorem dX11_counts0_37 : decode cX11_counts0 37 = .ok (.iload_n 2, 1) := by decide +kernel
theorem dX11_counts0_38 : decode cX11_counts0 38 = .ok (.iload_n 3, 1) := by decide +kernel
theorem dX11_counts0_39 : decode cX11_counts0 39 = .ok (.invokestatic 287, 3) := by decide +kernel
theorem dX11_counts0_42 : decode cX11_counts0 42 = .ok (.ifCond .eq 39, 3) := by decide +kernel
theorem dX11_counts0_45 : decode cX11_counts0 45 = .ok (.aload_n 0, 1) := by decide +kernel
theorem dX11_counts0_46 : decode cX11_counts0 46 = .ok (.iload_n 2, 1) := by decide +kernel
theorem dX11_counts0_47 : decode cX11_counts0 47 = .ok (.iconst 1, 1) := by decide +kernel
theorem dX11_counts0_48 : decode cX11_counts0 48 = .ok (.iload_n 3, 1) := by decide +kernel
theorem dX11_counts0_49 : decode cX11_counts0 49 = .ok (.ishl, 1) := by decide +kernel
theorem dX11_counts0_50 : decode cX11_counts0 50 = .ok (.iconst (-1), 1) := by decide +kernel
theorem dX11_counts0_51 : decode cX11_counts0 51 = .ok (.ixor, 1) := by decide +kernel
theorem dX11_counts0_52 : decode cX11_counts0 52 = .ok (.iand, 1) := by decide +kernel
theorem dX11_counts0_53 : decode cX11_counts0 53 = .ok (.iload_n 3, 1) := by decide +kernel
theorem dX11_counts0_54 : decode cX11_counts0 54 = .ok (.invokevirtual 305, 3) := by decide +kernel
theorem dX11_counts0_57 : decode cX11_counts0 57 = .ok (.ifCond .eq 24, 3) := by decide +kernel
theorem dX11_counts0_60 : decode cX11_counts0 60 = .ok (.aload_n 0, 1) := by decide +kernel
theorem dX11_counts0_61 : decode cX11_counts0 61 = .ok (.getfield 64, 3) := by decide +kernel
theorem dX11_counts0_64 : decode cX11_counts0 64 = .ok (.iload_n 2, 1) := by decide +kernel
theorem dX11_counts0_65 : decode cX11_counts0 65 = .ok (.dup2, 1) := by decide +kernel
theorem dX11_counts0_66 : decode cX11_counts0 66 = .ok (.iaload, 1) := by decide +kernel
theorem dX11_counts0_67 : decode cX11_counts0 67 = .ok (.aload_n 0, 1) := by decide +kernel
theorem dX11_counts0_68 : decode cX11_counts0 68 = .ok (.getfield 64, 3) := by decide +kernel
theorem dX11_counts0_71 : decode cX11_counts0 71 = .ok (.iload_n 2, 1) := by decide +kernel
theorem dX11_counts0_72 : decode cX11_counts0 72 = .ok (.iconst 1, 1) := by decide +kernel
theorem dX11_counts0_73 : decode cX11_counts0 73 = .ok (.iload_n 3, 1) := by decide +kernel
theorem dX11_counts0_74 : decode cX11_counts0 74 = .ok (.ishl, 1) := by decide +kernel
theorem dX11_counts0_75 : decode cX11_counts0 75 = .ok (.iconst (-1), 1) := by decide +kernel
theorem dX11_counts0_76 : decode cX11_counts0 76 = .ok (.ixor, 1) := by decide +kernel
theorem dX11_counts0_77 : decode cX11_counts0 77 = .ok (.iand, 1) := by decide +kernel
theorem dX11_counts0_78 : decode cX11_counts0 78 = .ok (.iaload, 1) := by decide +kernel
theorem dX11_counts0_79 : decode cX11_counts0 79 = .ok (.iadd, 1) := by decide +kernel
theorem dX11_counts0_80 : decode cX11_counts0 80 = .ok (.iastore, 1) := by decide +kernel
theorem dX11_counts0_81 : decode cX11_counts0 81 = .ok (.iinc 3 1, 3) := by decide +kernel
theorem dX11_counts0_84 : decode cX11_counts0 84 = .ok (.goto (-55), 3) := by decide +kernel
theorem dX11_counts0_87 : decode cX11_counts0 87 = .ok (.iinc 2 1, 3) := by decide +kernel
theorem dX11_counts0_90 : decode cX11_counts0 90 = .ok (.goto (-83), 3) := by decide +kernel
theorem dX11_counts0_93 : decode cX11_counts0 93 = .ok (.iload_n 1, 1) := by decide +kernel
theorem dX11_counts0_94 : decode cX11_counts0 94 = .ok (.istore_n 2, 1) := by decide +kernel
theorem dX11_counts0_95 : decode cX11_counts0 95 = .ok (.iload_n 2, 1) := by decide +kernel
theorem dX11_counts0_96 : decode cX11_counts0 96 = .ok (.ifCond .lt 69, 3) := by decide +kernel
theorem dX11_counts0_99 : decode cX11_counts0 99 = .ok (.aload_n 0, 1) := by decide +kernel
theorem dX11_counts0_100 : decode cX11_counts0 100 = .ok (.getfield 67, 3) := by decide +kernel
theorem dX11_counts0_103 : decode cX11_counts0 103 = .ok (.iload_n 2, 1) := by decide +kernel
theorem dX11_counts0_104 : decode cX11_counts0 104 = .ok (.iload_n 2, 1) := by decide +kernel
theorem dX11_counts0_105 : decode cX11_counts0 105 = .ok (.iload_n 1, 1) := by decide +kernel
theorem dX11_counts0_106 : decode cX11_counts0 106 = .ok (.if_icmp .ne 7, 3) := by decide +kernel
theorem dX11_counts0_109 : decode cX11_counts0 109 = .ok (.iconst 1, 1) := by decide +kernel
theorem dX11_counts0_110 : decode cX11_counts0 110 = .ok (.goto 4, 3) := by decide +kernel
theorem dX11_counts0_113 : decode cX11_counts0 113 = .ok (.iconst 0, 1) := by decide +kernel
theorem dX11_counts0_114 : decode cX11_counts0 114 = .ok (.iastore, 1) := by decide +kernel
theorem dX11_counts0_115 : decode cX11_counts0 115 = .ok (.iconst 0, 1) := by decide +kernel
theorem dX11_counts0_116 : decode cX11_counts0 116 = .ok (.istore_n 3, 1) := by decide +kernel
theorem dX11_counts0_117 : decode cX11_counts0 117 = .ok (.iload_n 3, 1) := by decide +kernel
theorem dX11_counts0_118 : decode cX11_counts0 118 = .ok (.aload_n 0, 1) := by decide +kernel
theorem dX11_counts0_119 : decode cX11_counts0 119 = .ok (.invokevirtual 121, 3) := by decide +kernel
theorem dX11_counts0_122 : decode cX11_counts0 122 = .ok (.if_icmp .ge 37, 3) := by decide +kernel
theorem dX11_counts0_125 : decode cX11_counts0 125 = .ok (.aload_n 0, 1) := by decide +kernel
theorem dX11_counts0_126 : decode cX11_counts0 126 = .ok (.iload_n 2, 1) := by decide +kernel
theorem dX11_counts0_127 : decode cX11_counts0 127 = .ok (.iload_n 3, 1) := by decide +kernel
theorem dX11_counts0_128 : decode cX11_counts0 128 = .ok (.invokevirtual 305, 3) := by decide +kernel
theorem dX11_counts0_131 : decode cX11_counts0 131 = .ok (.ifCond .eq 22, 3) := by decide +kernel
theorem dX11_counts0_134 : decode cX11_counts0 134 = .ok (.aload_n 0, 1) := by decide +kernel
theorem dX11_counts0_135 : decode cX11_counts0 135 = .ok (.getfield 67, 3) := by decide +kernel
theorem dX11_counts0_138 : decode cX11_counts0 138 = .ok (.iload_n 2, 1) := by decide +kernel
theorem dX11_counts0_139 : decode cX11_counts0 139 = .ok (.dup2, 1) := by decide +kernel
theorem dX11_counts0_140 : decode cX11_counts0 140 = .ok (.iaload, 1) := by decide +kernel
theorem dX11_counts0_141 : decode cX11_counts0 141 = .ok (.aload_n 0, 1) := by decide +kernel
theorem dX11_counts0_142 : decode cX11_counts0 142 = .ok (.getfield 67, 3) := by decide +kernel
theorem dX11_counts0_145 : decode cX11_counts0 145 = .ok (.iload_n 2, 1) := by decide +kernel
theorem dX11_counts0_146 : decode cX11_counts0 146 = .ok (.iconst 1, 1) := by decide +kernel
theorem dX11_counts0_147 : decode cX11_counts0 147 = .ok (.iload_n 3, 1) := by decide +kernel
theorem dX11_counts0_148 : decode cX11_counts0 148 = .ok (.ishl, 1) := by decide +kernel
theorem dX11_counts0_149 : decode cX11_counts0 149 = .ok (.ior, 1) := by decide +kernel
theorem dX11_counts0_150 : decode cX11_counts0 150 = .ok (.iaload, 1) := by decide +kernel
theorem dX11_counts0_151 : decode cX11_counts0 151 = .ok (.iadd, 1) := by decide +kernel
theorem dX11_counts0_152 : decode cX11_counts0 152 = .ok (.iastore, 1) := by decide +kernel
theorem dX11_counts0_153 : decode cX11_counts0 153 = .ok (.iinc 3 1, 3) := by decide +kernel
theorem dX11_counts0_156 : decode cX11_counts0 156 = .ok (.goto (-39), 3) := by decide +kernel
theorem dX11_counts0_159 : decode cX11_counts0 159 = .ok (.iinc 2 (-1), 3) := by decide +kernel
theorem dX11_counts0_162 : decode cX11_counts0 162 = .ok (.goto (-67), 3) := by decide +kernel
theorem dX11_counts0_165 : decode cX11_counts0 165 = .ok (.return_, 1) := by decide +kernel
theorem dX11_orders_0 : decode cX11_orders 0 = .ok (.aload_n 0, 1) := by decide +kernel
theorem dX11_orders_1 : decode cX11_orders 1 = .ok (.aload_n 0, 1) := by decide +kernel
theorem dX11_orders_2 : decode cX11_orders 2 = .ok (.getfield 17, 3) := by decide +kernel
theorem dX11_orders_5 : decode cX11_orders 5 = .ok (.bipush 42, 2) := by decide +kernel
theorem dX11_orders_7 : decode cX11_orders 7 = .ok (.iaload, 1) := by decide +kernel
theorem dX11_orders_8 : decode cX11_orders 8 = .ok (.invokevirtual 142, 3) := by decide +kernel
theorem dX11_orders_11 : decode cX11_orders 11 = .ok (.aload_n 0, 1) := by decide +kernel
theorem dX11_orders_12 : decode cX11_orders 12 = .ok (.invokevirtual 308, 3) := by decide +kernel
theorem dX11_orders_15 : decode cX11_orders 15 = .ok (.aload_n 0, 1) := by decide +kernel
theorem dX11_orders_16 : decode cX11_orders 16 = .ok (.getfield 67, 3) := by decide +kernel
theorem dX11_orders_19 : decode cX11_orders 19 = .ok (.iconst 0, 1) := by decide +kernel
theorem dX11_orders_20 : decode cX11_orders 20 = .ok (.iaload, 1) := by decide +kernel
theorem dX11_orders_21 : decode cX11_orders 21 = .ok (.ireturn, 1) := by decide +kernel
theorem dX11_measure_0 : decode cX11_measure 0 = .ok (.aload_n 0, 1) := by decide +kernel
theorem dX11_measure_1 : decode cX11_measure 1 = .ok (.iload_n 2, 1) := by decide +kernel
theorem dX11_measure_2 : decode cX11_measure 2 = .ok (.iload_n 3, 1) := by decide +kernel
theorem dX11_measure_3 : decode cX11_measure 3 = .ok (.invokevirtual 299, 3) := by decide +kernel
theorem dX11_measure_6 : decode cX11_measure 6 = .ok (.istore 4, 2) := by decide +kernel
theorem dX11_measure_8 : decode cX11_measure 8 = .ok (.iload_n 1, 1) := by decide +kernel
theorem dX11_measure_9 : decode cX11_measure 9 = .ok (.ifCond .ne 14, 3) := by decide +kernel
theorem dX11_measure_12 : decode cX11_measure 12 = .ok (.iload 4, 2) := by decide +kernel
theorem dX11_measure_14 : decode cX11_measure 14 = .ok (.ifCond .le 7, 3) := by decide +kernel
theorem dX11_measure_17 : decode cX11_measure 17 = .ok (.iconst (-1), 1) := by decide +kernel
theorem dX11_measure_18 : decode cX11_measure 18 = .ok (.goto 4, 3) := by decide +kernel
theorem dX11_measure_21 : decode cX11_measure 21 = .ok (.iconst 0, 1) := by decide +kernel
theorem dX11_measure_22 : decode cX11_measure 22 = .ok (.ireturn, 1) := by decide +kernel
theorem dX11_measure_23 : decode cX11_measure 23 = .ok (.iload_n 1, 1) := by decide +kernel
theorem dX11_measure_24 : decode cX11_measure 24 = .ok (.iconst 1, 1) := by decide +kernel
theorem dX11_measure_25 : decode cX11_measure 25 = .ok (.if_icmp .ne 50, 3) := by decide +kernel
theorem dX11_measure_28 : decode cX11_measure 28 = .ok (.aload_n 0, 1) := by decide +kernel
theorem dX11_measure_29 : decode cX11_measure 29 = .ok (.iload_n 3, 1) := by decide +kernel
theorem dX11_measure_30 : decode cX11_measure 30 = .ok (.iconst 4, 1) := by decide +kernel
theorem dX11_measure_31 : decode cX11_measure 31 = .ok (.invokevirtual 138, 3) := by decide +kernel
theorem dX11_measure_34 : decode cX11_measure 34 = .ok (.aload_n 0, 1) := by decide +kernel
theorem dX11_measure_35 : decode cX11_measure 35 = .ok (.getfield 52, 3) := by decide +kernel
theorem dX11_measure_38 : decode cX11_measure 38 = .ok (.iload_n 3, 1) := by decide +kernel
theorem dX11_measure_39 : decode cX11_measure 39 = .ok (.iaload, 1) := by decide +kernel
theorem dX11_measure_40 : decode cX11_measure 40 = .ok (.iadd, 1) := by decide +kernel
theorem dX11_measure_41 : decode cX11_measure 41 = .ok (.aload_n 0, 1) := by decide +kernel
theorem dX11_measure_42 : decode cX11_measure 42 = .ok (.getfield 17, 3) := by decide +kernel
theorem dX11_measure_45 : decode cX11_measure 45 = .ok (.bipush 40, 2) := by decide +kernel
theorem dX11_measure_47 : decode cX11_measure 47 = .ok (.iaload, 1) := by decide +kernel
theorem dX11_measure_48 : decode cX11_measure 48 = .ok (.aload_n 0, 1) := by decide +kernel
theorem dX11_measure_49 : decode cX11_measure 49 = .ok (.iload_n 3, 1) := by decide +kernel
theorem dX11_measure_50 : decode cX11_measure 50 = .ok (.iconst 3, 1) := by decide +kernel
theorem dX11_measure_51 : decode cX11_measure 51 = .ok (.invokevirtual 138, 3) := by decide +kernel
theorem dX11_measure_54 : decode cX11_measure 54 = .ok (.iload 4, 2) := by decide +kernel
theorem dX11_measure_56 : decode cX11_measure 56 = .ok (.iadd, 1) := by decide +kernel
theorem dX11_measure_57 : decode cX11_measure 57 = .ok (.imul, 1) := by decide +kernel
theorem dX11_measure_58 : decode cX11_measure 58 = .ok (.isub, 1) := by decide +kernel
theorem dX11_measure_59 : decode cX11_measure 59 = .ok (.istore 5, 2) := by decide +kernel
theorem dX11_measure_61 : decode cX11_measure 61 = .ok (.iload 5, 2) := by decide +kernel
theorem dX11_measure_63 : decode cX11_measure 63 = .ok (.ifCond .ge 9, 3) := by decide +kernel
theorem dX11_measure_66 : decode cX11_measure 66 = .ok (.iload 5, 2) := by decide +kernel
theorem dX11_measure_68 : decode cX11_measure 68 = .ok (.ineg, 1) := by decide +kernel
theorem dX11_measure_69 : decode cX11_measure 69 = .ok (.goto 5, 3) := by decide +kernel
theorem dX11_measure_72 : decode cX11_measure 72 = .ok (.iload 5, 2) := by decide +kernel
theorem dX11_measure_74 : decode cX11_measure 74 = .ok (.ireturn, 1) := by decide +kernel
theorem dX11_measure_75 : decode cX11_measure 75 = .ok (.iconst 0, 1) := by decide +kernel
theorem dX11_measure_76 : decode cX11_measure 76 = .ok (.istore 5, 2) := by decide +kernel
theorem dX11_measure_78 : decode cX11_measure 78 = .ok (.iconst 0, 1) := by decide +kernel
theorem dX11_measure_79 : decode cX11_measure 79 = .ok (.istore 6, 2) := by decide +kernel
theorem dX11_measure_81 : decode cX11_measure 81 = .ok (.iload 6, 2) := by decide +kernel
theorem dX11_measure_83 : decode cX11_measure 83 = .ok (.aload_n 0, 1) := by decide +kernel
theorem dX11_measure_84 : decode cX11_measure 84 = .ok (.getfield 17, 3) := by decide +kernel
theorem dX11_measure_87 : decode cX11_measure 87 = .ok (.bipush 79, 2) := by decide +kernel
theorem dX11_measure_89 : decode cX11_measure 89 = .ok (.iaload, 1) := by decide +kernel
theorem dX11_measure_90 : decode cX11_measure 90 = .ok (.if_icmp .ge 54, 3) := by decide +kernel
theorem dX11_measure_93 : decode cX11_measure 93 = .ok (.iload 5, 2) := by decide +kernel
theorem dX11_measure_95 : decode cX11_measure 95 = .ok (.aload_n 0, 1) := by decide +kernel
theorem dX11_measure_96 : decode cX11_measure 96 = .ok (.getfield 17, 3) := by decide +kernel
theorem dX11_measure_99 : decode cX11_measure 99 = .ok (.bipush 61, 2) := by decide +kernel
theorem dX11_measure_101 : decode cX11_measure 101 = .ok (.iconst 2, 1) := by decide +kernel
theorem dX11_measure_102 : decode cX11_measure 102 = .ok (.iload 6, 2) := by decide +kernel
theorem dX11_measure_104 : decode cX11_measure 104 = .ok (.imul, 1) := by decide +kernel
theorem dX11_measure_105 : decode cX11_measure 105 = .ok (.iadd, 1) := by decide +kernel
theorem dX11_measure_106 : decode cX11_measure 106 = .ok (.iaload, 1) := by decide +kernel
theorem dX11_measure_107 : decode cX11_measure 107 = .ok (.iload_n 3, 1) := by decide +kernel
theorem dX11_measure_108 : decode cX11_measure 108 = .ok (.if_icmp .ne 26, 3) := by decide +kernel
theorem dX11_measure_111 : decode cX11_measure 111 = .ok (.aload_n 0, 1) := by decide +kernel
theorem dX11_measure_112 : decode cX11_measure 112 = .ok (.getfield 17, 3) := by decide +kernel
theorem dX11_measure_115 : decode cX11_measure 115 = .ok (.bipush 61, 2) := by decide +kernel
theorem dX11_measure_117 : decode cX11_measure 117 = .ok (.iconst 2, 1) := by decide +kernel
theorem dX11_measure_118 : decode cX11_measure 118 = .ok (.iload 6, 2) := by decide +kernel
theorem dX11_measure_120 : decode cX11_measure 120 = .ok (.imul, 1) := by decide +kernel
theorem dX11_measure_121 : decode cX11_measure 121 = .ok (.iadd, 1) := by decide +kernel
theorem dX11_measure_122 : decode cX11_measure 122 = .ok (.iconst 1, 1) := by decide +kernel
theorem dX11_measure_123 : decode cX11_measure 123 = .ok (.iadd, 1) := by decide +kernel
theorem dX11_measure_124 : decode cX11_measure 124 = .ok (.iaload, 1) := by decide +kernel
theorem dX11_measure_125 : decode cX11_measure 125 = .ok (.iload 4, 2) := by decide +kernel
theorem dX11_measure_127 : decode cX11_measure 127 = .ok (.if_icmp .eq 7, 3) := by decide +kernel
theorem dX11_measure_130 : decode cX11_measure 130 = .ok (.iconst 1, 1) := by decide +kernel
theorem dX11_measure_131 : decode cX11_measure 131 = .ok (.goto 4, 3) := by decide +kernel
theorem dX11_measure_134 : decode cX11_measure 134 = .ok (.iconst 0, 1) := by decide +kernel
theorem dX11_measure_135 : decode cX11_measure 135 = .ok (.iadd, 1) := by decide +kernel
theorem dX11_measure_136 : decode cX11_measure 136 = .ok (.istore 5, 2) := by decide +kernel
theorem dX11_measure_138 : decode cX11_measure 138 = .ok (.iinc 6 1, 3) := by decide +kernel
theorem dX11_measure_141 : decode cX11_measure 141 = .ok (.goto (-60), 3) := by decide +kernel
theorem dX11_measure_144 : decode cX11_measure 144 = .ok (.iload 5, 2) := by decide +kernel
theorem dX11_measure_146 : decode cX11_measure 146 = .ok (.ireturn, 1) := by decide +kernel
theorem dX11_joined_0 : decode cX11_joined 0 = .ok (.iload_n 0, 1) := by decide +kernel
theorem dX11_joined_1 : decode cX11_joined 1 = .ok (.iconst 1, 1) := by decide +kernel
theorem dX11_joined_2 : decode cX11_joined 2 = .ok (.if_icmp .ne 11, 3) := by decide +kernel
theorem dX11_joined_5 : decode cX11_joined 5 = .ok (.iload_n 1, 1) := by decide +kernel
theorem dX11_joined_6 : decode cX11_joined 6 = .ok (.iload_n 2, 1) := by decide +kernel
theorem dX11_joined_7 : decode cX11_joined 7 = .ok (.invokestatic 311, 3) := by decide +kernel
theorem dX11_joined_10 : decode cX11_joined 10 = .ok (.goto 6, 3) := by decide +kernel
theorem dX11_joined_13 : decode cX11_joined 13 = .ok (.iload_n 1, 1) := by decide +kernel
theorem dX11_joined_14 : decode cX11_joined 14 = .ok (.iload_n 2, 1) := by decide +kernel
theorem dX11_joined_15 : decode cX11_joined 15 = .ok (.iadd, 1) := by decide +kernel
theorem dX11_joined_16 : decode cX11_joined 16 = .ok (.ireturn, 1) := by decide +kernel
theorem dX11_measures_0 : decode cX11_measures 0 = .ok (.aload_n 0, 1) := by decide +kernel
theorem dX11_measures_1 : decode cX11_measures 1 = .ok (.invokevirtual 302, 3) := by decide +kernel
theorem dX11_measures_4 : decode cX11_measures 4 = .ok (.istore_n 2, 1) := by decide +kernel
theorem dX11_measures_5 : decode cX11_measures 5 = .ok (.iload_n 2, 1) := by decide +kernel
theorem dX11_measures_6 : decode cX11_measures 6 = .ok (.istore_n 3, 1) := by decide +kernel
theorem dX11_measures_7 : decode cX11_measures 7 = .ok (.iload_n 3, 1) := by decide +kernel
theorem dX11_measures_8 : decode cX11_measures 8 = .ok (.ifCond .lt 202, 3) := by decide +kernel
theorem dX11_measures_11 : decode cX11_measures 11 = .ok (.aload_n 0, 1) := by decide +kernel
theorem dX11_measures_12 : decode cX11_measures 12 = .ok (.getfield 70, 3) := by decide +kernel
theorem dX11_measures_15 : decode cX11_measures 15 = .ok (.iload_n 3, 1) := by decide +kernel
theorem dX11_measures_16 : decode cX11_measures 16 = .ok (.iload_n 3, 1) := by decide +kernel
theorem dX11_measures_17 : decode cX11_measures 17 = .ok (.iload_n 2, 1) := by decide +kernel
theorem dX11_measures_18 : decode cX11_measures 18 = .ok (.if_icmp .ne 7, 3) := by decide +kernel
theorem dX11_measures_21 : decode cX11_measures 21 = .ok (.iconst 0, 1) := by decide +kernel
theorem dX11_measures_22 : decode cX11_measures 22 = .ok (.goto 6, 3) := by decide +kernel
theorem dX11_measures_25 : decode cX11_measures 25 = .ok (.ldc_w 314, 3) := by decide +kernel
theorem dX11_measures_28 : decode cX11_measures 28 = .ok (.iastore, 1) := by decide +kernel
theorem dX11_measures_29 : decode cX11_measures 29 = .ok (.aload_n 0, 1) := by decide +kernel
theorem dX11_measures_30 : decode cX11_measures 30 = .ok (.getfield 73, 3) := by decide +kernel
theorem dX11_measures_33 : decode cX11_measures 33 = .ok (.iload_n 3, 1) := by decide +kernel
theorem dX11_measures_34 : decode cX11_measures 34 = .ok (.iload_n 3, 1) := by decide +kernel
theorem dX11_measures_35 : decode cX11_measures 35 = .ok (.iload_n 2, 1) := by decide +kernel
theorem dX11_measures_36 : decode cX11_measures 36 = .ok (.if_icmp .ne 7, 3) := by decide +kernel
theorem dX11_measures_39 : decode cX11_measures 39 = .ok (.iconst 1, 1) := by decide +kernel
theorem dX11_measures_40 : decode cX11_measures 40 = .ok (.goto 4, 3) := by decide +kernel
theorem dX11_measures_43 : decode cX11_measures 43 = .ok (.iconst 0, 1) := by decide +kernel
theorem dX11_measures_44 : decode cX11_measures 44 = .ok (.iastore, 1) := by decide +kernel
theorem dX11_measures_45 : decode cX11_measures 45 = .ok (.iconst 0, 1) := by decide +kernel
theorem dX11_measures_46 : decode cX11_measures 46 = .ok (.istore 4, 2) := by decide +kernel
theorem dX11_measures_48 : decode cX11_measures 48 = .ok (.iload 4, 2) := by decide +kernel
theorem dX11_measures_50 : decode cX11_measures 50 = .ok (.aload_n 0, 1) := by decide +kernel
theorem dX11_measures_51 : decode cX11_measures 51 = .ok (.invokevirtual 121, 3) := by decide +kernel
theorem dX11_measures_54 : decode cX11_measures 54 = .ok (.if_icmp .ge 150, 3) := by decide +kernel
theorem dX11_measures_57 : decode cX11_measures 57 = .ok (.aload_n 0, 1) := by decide +kernel
theorem dX11_measures_58 : decode cX11_measures 58 = .ok (.iload_n 3, 1) := by decide +kernel
theorem dX11_measures_59 : decode cX11_measures 59 = .ok (.iload 4, 2) := by decide +kernel
theorem dX11_measures_61 : decode cX11_measures 61 = .ok (.invokevirtual 305, 3) := by decide +kernel
theorem dX11_measures_64 : decode cX11_measures 64 = .ok (.ifCond .eq 134, 3) := by decide +kernel
theorem dX11_measures_67 : decode cX11_measures 67 = .ok (.aload_n 0, 1) := by decide +kernel
theorem dX11_measures_68 : decode cX11_measures 68 = .ok (.getfield 73, 3) := by decide +kernel
theorem dX11_measures_71 : decode cX11_measures 71 = .ok (.iload_n 3, 1) := by decide +kernel
theorem dX11_measures_72 : decode cX11_measures 72 = .ok (.iconst 1, 1) := by decide +kernel
theorem dX11_measures_73 : decode cX11_measures 73 = .ok (.iload 4, 2) := by decide +kernel
theorem dX11_measures_75 : decode cX11_measures 75 = .ok (.ishl, 1) := by decide +kernel
theorem dX11_measures_76 : decode cX11_measures 76 = .ok (.ior, 1) := by decide +kernel
theorem dX11_measures_77 : decode cX11_measures 77 = .ok (.iaload, 1) := by decide +kernel
theorem dX11_measures_78 : decode cX11_measures 78 = .ok (.ifCond .ne 6, 3) := by decide +kernel
theorem dX11_measures_81 : decode cX11_measures 81 = .ok (.goto 117, 3) := by decide +kernel
theorem dX11_measures_84 : decode cX11_measures 84 = .ok (.iload_n 1, 1) := by decide +kernel
theorem dX11_measures_85 : decode cX11_measures 85 = .ok (.aload_n 0, 1) := by decide +kernel
theorem dX11_measures_86 : decode cX11_measures 86 = .ok (.iload_n 1, 1) := by decide +kernel
theorem dX11_measures_87 : decode cX11_measures 87 = .ok (.iload_n 3, 1) := by decide +kernel
theorem dX11_measures_88 : decode cX11_measures 88 = .ok (.iload 4, 2) := by decide +kernel
theorem dX11_measures_90 : decode cX11_measures 90 = .ok (.invokevirtual 315, 3) := by decide +kernel
theorem dX11_measures_93 : decode cX11_measures 93 = .ok (.aload_n 0, 1) := by decide +kernel
theorem dX11_measures_94 : decode cX11_measures 94 = .ok (.getfield 70, 3) := by decide +kernel
theorem dX11_measures_97 : decode cX11_measures 97 = .ok (.iload_n 3, 1) := by decide +kernel
theorem dX11_measures_98 : decode cX11_measures 98 = .ok (.iconst 1, 1) := by decide +kernel
theorem dX11_measures_99 : decode cX11_measures 99 = .ok (.iload 4, 2) := by decide +kernel
theorem dX11_measures_101 : decode cX11_measures 101 = .ok (.ishl, 1) := by decide +kernel
theorem dX11_measures_102 : decode cX11_measures 102 = .ok (.ior, 1) := by decide +kernel
theorem dX11_measures_103 : decode cX11_measures 103 = .ok (.iaload, 1) := by decide +kernel
theorem dX11_measures_104 : decode cX11_measures 104 = .ok (.invokestatic 318, 3) := by decide +kernel
theorem dX11_measures_107 : decode cX11_measures 107 = .ok (.istore 5, 2) := by decide +kernel
theorem dX11_measures_109 : decode cX11_measures 109 = .ok (.aload_n 0, 1) := by decide +kernel
theorem dX11_measures_110 : decode cX11_measures 110 = .ok (.getfield 73, 3) := by decide +kernel
theorem dX11_measures_113 : decode cX11_measures 113 = .ok (.iload_n 3, 1) := by decide +kernel
theorem dX11_measures_114 : decode cX11_measures 114 = .ok (.iaload, 1) := by decide +kernel
theorem dX11_measures_115 : decode cX11_measures 115 = .ok (.ifCond .le 17, 3) := by decide +kernel
theorem dX11_measures_118 : decode cX11_measures 118 = .ok (.iload 5, 2) := by decide +kernel
theorem dX11_measures_120 : decode cX11_measures 120 = .ok (.aload_n 0, 1) := by decide +kernel
theorem dX11_measures_121 : decode cX11_measures 121 = .ok (.getfield 70, 3) := by decide +kernel
theorem dX11_measures_124 : decode cX11_measures 124 = .ok (.iload_n 3, 1) := by decide +kernel
theorem dX11_measures_125 : decode cX11_measures 125 = .ok (.iaload, 1) := by decide +kernel
theorem dX11_measures_126 : decode cX11_measures 126 = .ok (.if_icmp .le 6, 3) := by decide +kernel
theorem dX11_measures_129 : decode cX11_measures 129 = .ok (.goto 69, 3) := by decide +kernel
theorem dX11_measures_132 : decode cX11_measures 132 = .ok (.aload_n 0, 1) := by decide +kernel
theorem dX11_measures_133 : decode cX11_measures 133 = .ok (.getfield 73, 3) := by decide +kernel
theorem dX11_measures_136 : decode cX11_measures 136 = .ok (.iload_n 3, 1) := by decide +kernel
theorem dX11_measures_137 : decode cX11_measures 137 = .ok (.aload_n 0, 1) := by decide +kernel
theorem dX11_measures_138 : decode cX11_measures 138 = .ok (.getfield 73, 3) := by decide +kernel
theorem dX11_measures_141 : decode cX11_measures 141 = .ok (.iload_n 3, 1) := by decide +kernel
theorem dX11_measures_142 : decode cX11_measures 142 = .ok (.iaload, 1) := by decide +kernel
theorem dX11_measures_143 : decode cX11_measures 143 = .ok (.ifCond .le 35, 3) := by decide +kernel
theorem dX11_measures_146 : decode cX11_measures 146 = .ok (.iload 5, 2) := by decide +kernel
theorem dX11_measures_148 : decode cX11_measures 148 = .ok (.aload_n 0, 1) := by decide +kernel
theorem dX11_measures_149 : decode cX11_measures 149 = .ok (.getfield 70, 3) := by decide +kernel
theorem dX11_measures_152 : decode cX11_measures 152 = .ok (.iload_n 3, 1) := by decide +kernel
theorem dX11_measures_153 : decode cX11_measures 153 = .ok (.iaload, 1) := by decide +kernel
theorem dX11_measures_154 : decode cX11_measures 154 = .ok (.if_icmp .ne 24, 3) := by decide +kernel
theorem dX11_measures_157 : decode cX11_measures 157 = .ok (.aload_n 0, 1) := by decide +kernel
theorem dX11_measures_158 : decode cX11_measures 158 = .ok (.getfield 73, 3) := by decide +kernel
theorem dX11_measures_161 : decode cX11_measures 161 = .ok (.iload_n 3, 1) := by decide +kernel
theorem dX11_measures_162 : decode cX11_measures 162 = .ok (.iaload, 1) := by decide +kernel
theorem dX11_measures_163 : decode cX11_measures 163 = .ok (.aload_n 0, 1) := by decide +kernel
theorem dX11_measures_164 : decode cX11_measures 164 = .ok (.getfield 73, 3) := by decide +kernel
theorem dX11_measures_167 : decode cX11_measures 167 = .ok (.iload_n 3, 1) := by decide +kernel
theorem dX11_measures_168 : decode cX11_measures 168 = .ok (.iconst 1, 1) := by decide +kernel
theorem dX11_measures_169 : decode cX11_measures 169 = .ok (.iload 4, 2) := by decide +kernel
theorem dX11_measures_171 : decode cX11_measures 171 = .ok (.ishl, 1) := by decide +kernel
theorem dX11_measures_172 : decode cX11_measures 172 = .ok (.ior, 1) := by decide +kernel
theorem dX11_measures_173 : decode cX11_measures 173 = .ok (.iaload, 1) := by decide +kernel
theorem dX11_measures_174 : decode cX11_measures 174 = .ok (.iadd, 1) := by decide +kernel
theorem dX11_measures_175 : decode cX11_measures 175 = .ok (.goto 14, 3) := by decide +kernel
theorem dX11_measures_178 : decode cX11_measures 178 = .ok (.aload_n 0, 1) := by decide +kernel
theorem dX11_measures_179 : decode cX11_measures 179 = .ok (.getfield 73, 3) := by decide +kernel
theorem dX11_measures_182 : decode cX11_measures 182 = .ok (.iload_n 3, 1) := by decide +kernel
theorem dX11_measures_183 : decode cX11_measures 183 = .ok (.iconst 1, 1) := by decide +kernel
theorem dX11_measures_184 : decode cX11_measures 184 = .ok (.iload 4, 2) := by decide +kernel
theorem dX11_measures_186 : decode cX11_measures 186 = .ok (.ishl, 1) := by decide +kernel
theorem dX11_measures_187 : decode cX11_measures 187 = .ok (.ior, 1) := by decide +kernel
theorem dX11_measures_188 : decode cX11_measures 188 = .ok (.iaload, 1) := by decide +kernel
theorem dX11_measures_189 : decode cX11_measures 189 = .ok (.iastore, 1) := by decide +kernel
theorem dX11_measures_190 : decode cX11_measures 190 = .ok (.aload_n 0, 1) := by decide +kernel
theorem dX11_measures_191 : decode cX11_measures 191 = .ok (.getfield 70, 3) := by decide +kernel
theorem dX11_measures_194 : decode cX11_measures 194 = .ok (.iload_n 3, 1) := by decide +kernel
theorem dX11_measures_195 : decode cX11_measures 195 = .ok (.iload 5, 2) := by decide +kernel
theorem dX11_measures_197 : decode cX11_measures 197 = .ok (.iastore, 1) := by decide +kernel
theorem dX11_measures_198 : decode cX11_measures 198 = .ok (.iinc 4 1, 3) := by decide +kernel
theorem dX11_measures_201 : decode cX11_measures 201 = .ok (.goto (-153), 3) := by decide +kernel
theorem dX11_measures_204 : decode cX11_measures 204 = .ok (.iinc 3 (-1), 3) := by decide +kernel
theorem dX11_measures_207 : decode cX11_measures 207 = .ok (.goto (-200), 3) := by decide +kernel
theorem dX11_measures_210 : decode cX11_measures 210 = .ok (.return_, 1) := by decide +kernel
theorem dX11_rows_0 : decode cX11_rows 0 = .ok (.iconst 0, 1) := by decide +kernel
theorem dX11_rows_1 : decode cX11_rows 1 = .ok (.istore_n 2, 1) := by decide +kernel
theorem dX11_rows_2 : decode cX11_rows 2 = .ok (.aload_n 0, 1) := by decide +kernel
theorem dX11_rows_3 : decode cX11_rows 3 = .ok (.getfield 70, 3) := by decide +kernel
theorem dX11_rows_6 : decode cX11_rows 6 = .ok (.iconst 0, 1) := by decide +kernel
theorem dX11_rows_7 : decode cX11_rows 7 = .ok (.iaload, 1) := by decide +kernel
theorem dX11_rows_8 : decode cX11_rows 8 = .ok (.istore_n 3, 1) := by decide +kernel
theorem dX11_rows_9 : decode cX11_rows 9 = .ok (.iconst 0, 1) := by decide +kernel
theorem dX11_rows_10 : decode cX11_rows 10 = .ok (.istore 4, 2) := by decide +kernel
theorem dX11_rows_12 : decode cX11_rows 12 = .ok (.iload 4, 2) := by decide +kernel
theorem dX11_rows_14 : decode cX11_rows 14 = .ok (.aload_n 0, 1) := by decide +kernel
theorem dX11_rows_15 : decode cX11_rows 15 = .ok (.invokevirtual 121, 3) := by decide +kernel
theorem dX11_rows_18 : decode cX11_rows 18 = .ok (.if_icmp .ge 121, 3) := by decide +kernel
theorem dX11_rows_21 : decode cX11_rows 21 = .ok (.iconst 0, 1) := by decide +kernel
theorem dX11_rows_22 : decode cX11_rows 22 = .ok (.istore 5, 2) := by decide +kernel
theorem dX11_rows_24 : decode cX11_rows 24 = .ok (.aload_n 0, 1) := by decide +kernel
theorem dX11_rows_25 : decode cX11_rows 25 = .ok (.iload_n 2, 1) := by decide +kernel
theorem dX11_rows_26 : decode cX11_rows 26 = .ok (.iload 5, 2) := by decide +kernel
theorem dX11_rows_28 : decode cX11_rows 28 = .ok (.invokevirtual 305, 3) := by decide +kernel
theorem dX11_rows_31 : decode cX11_rows 31 = .ok (.ifCond .eq 80, 3) := by decide +kernel
theorem dX11_rows_34 : decode cX11_rows 34 = .ok (.aload_n 0, 1) := by decide +kernel
theorem dX11_rows_35 : decode cX11_rows 35 = .ok (.getfield 73, 3) := by decide +kernel
theorem dX11_rows_38 : decode cX11_rows 38 = .ok (.iload_n 2, 1) := by decide +kernel
theorem dX11_rows_39 : decode cX11_rows 39 = .ok (.iconst 1, 1) := by decide +kernel
theorem dX11_rows_40 : decode cX11_rows 40 = .ok (.iload 5, 2) := by decide +kernel
theorem dX11_rows_42 : decode cX11_rows 42 = .ok (.ishl, 1) := by decide +kernel
theorem dX11_rows_43 : decode cX11_rows 43 = .ok (.ior, 1) := by decide +kernel
theorem dX11_rows_44 : decode cX11_rows 44 = .ok (.iaload, 1) := by decide +kernel
theorem dX11_rows_45 : decode cX11_rows 45 = .ok (.ifCond .eq 66, 3) := by decide +kernel
theorem dX11_rows_48 : decode cX11_rows 48 = .ok (.iload_n 1, 1) := by decide +kernel
theorem dX11_rows_49 : decode cX11_rows 49 = .ok (.iconst 1, 1) := by decide +kernel
theorem dX11_rows_50 : decode cX11_rows 50 = .ok (.if_icmp .ne 32, 3) := by decide +kernel
theorem dX11_rows_53 : decode cX11_rows 53 = .ok (.aload_n 0, 1) := by decide +kernel
theorem dX11_rows_54 : decode cX11_rows 54 = .ok (.iload_n 1, 1) := by decide +kernel
theorem dX11_rows_55 : decode cX11_rows 55 = .ok (.iload_n 2, 1) := by decide +kernel
theorem dX11_rows_56 : decode cX11_rows 56 = .ok (.iload 5, 2) := by decide +kernel
theorem dX11_rows_58 : decode cX11_rows 58 = .ok (.invokevirtual 315, 3) := by decide +kernel
theorem dX11_rows_61 : decode cX11_rows 61 = .ok (.aload_n 0, 1) := by decide +kernel
theorem dX11_rows_62 : decode cX11_rows 62 = .ok (.getfield 70, 3) := by decide +kernel
theorem dX11_rows_65 : decode cX11_rows 65 = .ok (.iload_n 2, 1) := by decide +kernel
theorem dX11_rows_66 : decode cX11_rows 66 = .ok (.iconst 1, 1) := by decide +kernel
theorem dX11_rows_67 : decode cX11_rows 67 = .ok (.iload 5, 2) := by decide +kernel
theorem dX11_rows_69 : decode cX11_rows 69 = .ok (.ishl, 1) := by decide +kernel
theorem dX11_rows_70 : decode cX11_rows 70 = .ok (.ior, 1) := by decide +kernel
theorem dX11_rows_71 : decode cX11_rows 71 = .ok (.iaload, 1) := by decide +kernel
theorem dX11_rows_72 : decode cX11_rows 72 = .ok (.invokestatic 311, 3) := by decide +kernel
theorem dX11_rows_75 : decode cX11_rows 75 = .ok (.iload_n 3, 1) := by decide +kernel
theorem dX11_rows_76 : decode cX11_rows 76 = .ok (.if_icmp .le 41, 3) := by decide +kernel
theorem dX11_rows_79 : decode cX11_rows 79 = .ok (.goto 32, 3) := by decide +kernel
theorem dX11_rows_82 : decode cX11_rows 82 = .ok (.aload_n 0, 1) := by decide +kernel
theorem dX11_rows_83 : decode cX11_rows 83 = .ok (.iload_n 1, 1) := by decide +kernel
theorem dX11_rows_84 : decode cX11_rows 84 = .ok (.iload_n 2, 1) := by decide +kernel
theorem dX11_rows_85 : decode cX11_rows 85 = .ok (.iload 5, 2) := by decide +kernel
theorem dX11_rows_87 : decode cX11_rows 87 = .ok (.invokevirtual 315, 3) := by decide +kernel
theorem dX11_rows_90 : decode cX11_rows 90 = .ok (.aload_n 0, 1) := by decide +kernel
theorem dX11_rows_91 : decode cX11_rows 91 = .ok (.getfield 70, 3) := by decide +kernel
theorem dX11_rows_94 : decode cX11_rows 94 = .ok (.iload_n 2, 1) := by decide +kernel
theorem dX11_rows_95 : decode cX11_rows 95 = .ok (.iconst 1, 1) := by decide +kernel
theorem dX11_rows_96 : decode cX11_rows 96 = .ok (.iload 5, 2) := by decide +kernel
theorem dX11_rows_98 : decode cX11_rows 98 = .ok (.ishl, 1) := by decide +kernel
theorem dX11_rows_99 : decode cX11_rows 99 = .ok (.ior, 1) := by decide +kernel
theorem dX11_rows_100 : decode cX11_rows 100 = .ok (.iaload, 1) := by decide +kernel
theorem dX11_rows_101 : decode cX11_rows 101 = .ok (.iadd, 1) := by decide +kernel
theorem dX11_rows_102 : decode cX11_rows 102 = .ok (.aload_n 0, 1) := by decide +kernel
theorem dX11_rows_103 : decode cX11_rows 103 = .ok (.getfield 70, 3) := by decide +kernel
theorem dX11_rows_106 : decode cX11_rows 106 = .ok (.iload_n 2, 1) := by decide +kernel
theorem dX11_rows_107 : decode cX11_rows 107 = .ok (.iaload, 1) := by decide +kernel
theorem dX11_rows_108 : decode cX11_rows 108 = .ok (.if_icmp .eq 9, 3) := by decide +kernel
theorem dX11_rows_111 : decode cX11_rows 111 = .ok (.iinc 5 1, 3) := by decide +kernel
theorem dX11_rows_114 : decode cX11_rows 114 = .ok (.goto (-90), 3) := by decide +kernel
theorem dX11_rows_117 : decode cX11_rows 117 = .ok (.aload_n 0, 1) := by decide +kernel
theorem dX11_rows_118 : decode cX11_rows 118 = .ok (.getfield 76, 3) := by decide +kernel
theorem dX11_rows_121 : decode cX11_rows 121 = .ok (.iload 4, 2) := by decide +kernel
theorem dX11_rows_123 : decode cX11_rows 123 = .ok (.iload 5, 2) := by decide +kernel
theorem dX11_rows_125 : decode cX11_rows 125 = .ok (.iastore, 1) := by decide +kernel
theorem dX11_rows_126 : decode cX11_rows 126 = .ok (.iload_n 2, 1) := by decide +kernel
theorem dX11_rows_127 : decode cX11_rows 127 = .ok (.iconst 1, 1) := by decide +kernel
theorem dX11_rows_128 : decode cX11_rows 128 = .ok (.iload 5, 2) := by decide +kernel
theorem dX11_rows_130 : decode cX11_rows 130 = .ok (.ishl, 1) := by decide +kernel
theorem dX11_rows_131 : decode cX11_rows 131 = .ok (.ior, 1) := by decide +kernel
theorem dX11_rows_132 : decode cX11_rows 132 = .ok (.istore_n 2, 1) := by decide +kernel
theorem dX11_rows_133 : decode cX11_rows 133 = .ok (.iinc 4 1, 3) := by decide +kernel
theorem dX11_rows_136 : decode cX11_rows 136 = .ok (.goto (-124), 3) := by decide +kernel
theorem dX11_rows_139 : decode cX11_rows 139 = .ok (.return_, 1) := by decide +kernel
theorem dX11_finds_0 : decode cX11_finds 0 = .ok (.aload_n 0, 1) := by decide +kernel
theorem dX11_finds_1 : decode cX11_finds 1 = .ok (.aload_n 0, 1) := by decide +kernel
theorem dX11_finds_2 : decode cX11_finds 2 = .ok (.getfield 17, 3) := by decide +kernel
theorem dX11_finds_5 : decode cX11_finds 5 = .ok (.bipush 42, 2) := by decide +kernel
theorem dX11_finds_7 : decode cX11_finds 7 = .ok (.iaload, 1) := by decide +kernel
theorem dX11_finds_8 : decode cX11_finds 8 = .ok (.invokevirtual 142, 3) := by decide +kernel
theorem dX11_finds_11 : decode cX11_finds 11 = .ok (.aload_n 0, 1) := by decide +kernel
theorem dX11_finds_12 : decode cX11_finds 12 = .ok (.iload_n 1, 1) := by decide +kernel
theorem dX11_finds_13 : decode cX11_finds 13 = .ok (.invokevirtual 321, 3) := by decide +kernel
theorem dX11_finds_16 : decode cX11_finds 16 = .ok (.aload_n 0, 1) := by decide +kernel
theorem dX11_finds_17 : decode cX11_finds 17 = .ok (.getfield 73, 3) := by decide +kernel
theorem dX11_finds_20 : decode cX11_finds 20 = .ok (.iconst 0, 1) := by decide +kernel
theorem dX11_finds_21 : decode cX11_finds 21 = .ok (.iaload, 1) := by decide +kernel
theorem dX11_finds_22 : decode cX11_finds 22 = .ok (.ifCond .ne 5, 3) := by decide +kernel
theorem dX11_finds_25 : decode cX11_finds 25 = .ok (.iconst 0, 1) := by decide +kernel
theorem dX11_finds_26 : decode cX11_finds 26 = .ok (.ireturn, 1) := by decide +kernel
theorem dX11_finds_27 : decode cX11_finds 27 = .ok (.aload_n 0, 1) := by decide +kernel
theorem dX11_finds_28 : decode cX11_finds 28 = .ok (.iload_n 1, 1) := by decide +kernel
theorem dX11_finds_29 : decode cX11_finds 29 = .ok (.invokevirtual 324, 3) := by decide +kernel
theorem dX11_finds_32 : decode cX11_finds 32 = .ok (.iconst 1, 1) := by decide +kernel
theorem dX11_finds_33 : decode cX11_finds 33 = .ok (.ireturn, 1) := by decide +kernel
theorem dX11_rowOf_0 : decode cX11_rowOf 0 = .ok (.iload_n 1, 1) := by decide +kernel
theorem dX11_rowOf_1 : decode cX11_rowOf 1 = .ok (.iconst 0, 1) := by decide +kernel
theorem dX11_rowOf_2 : decode cX11_rowOf 2 = .ok (.aload_n 0, 1) := by decide +kernel
theorem dX11_rowOf_3 : decode cX11_rowOf 3 = .ok (.invokevirtual 121, 3) := by decide +kernel
theorem dX11_rowOf_6 : decode cX11_rowOf 6 = .ok (.iconst 1, 1) := by decide +kernel
theorem dX11_rowOf_7 : decode cX11_rowOf 7 = .ok (.isub, 1) := by decide +kernel
theorem dX11_rowOf_8 : decode cX11_rowOf 8 = .ok (.invokestatic 110, 3) := by decide +kernel
theorem dX11_rowOf_11 : decode cX11_rowOf 11 = .ok (.ifCond .eq 12, 3) := by decide +kernel
theorem dX11_rowOf_14 : decode cX11_rowOf 14 = .ok (.aload_n 0, 1) := by decide +kernel
theorem dX11_rowOf_15 : decode cX11_rowOf 15 = .ok (.getfield 76, 3) := by decide +kernel
theorem dX11_rowOf_18 : decode cX11_rowOf 18 = .ok (.iload_n 1, 1) := by decide +kernel
theorem dX11_rowOf_19 : decode cX11_rowOf 19 = .ok (.iaload, 1) := by decide +kernel
theorem dX11_rowOf_20 : decode cX11_rowOf 20 = .ok (.goto 4, 3) := by decide +kernel
theorem dX11_rowOf_23 : decode cX11_rowOf 23 = .ok (.iconst (-1), 1) := by decide +kernel
theorem dX11_rowOf_24 : decode cX11_rowOf 24 = .ok (.ireturn, 1) := by decide +kernel
theorem dX11_best_0 : decode cX11_best 0 = .ok (.iload_n 1, 1) := by decide +kernel
theorem dX11_best_1 : decode cX11_best 1 = .ok (.ifCond .ge 5, 3) := by decide +kernel
theorem dX11_best_4 : decode cX11_best 4 = .ok (.iconst (-1), 1) := by decide +kernel
theorem dX11_best_5 : decode cX11_best 5 = .ok (.ireturn, 1) := by decide +kernel
theorem dX11_best_6 : decode cX11_best 6 = .ok (.aload_n 0, 1) := by decide +kernel
theorem dX11_best_7 : decode cX11_best 7 = .ok (.iconst 0, 1) := by decide +kernel
theorem dX11_best_8 : decode cX11_best 8 = .ok (.invokevirtual 327, 3) := by decide +kernel
theorem dX11_best_11 : decode cX11_best 11 = .ok (.ifCond .ne 14, 3) := by decide +kernel
theorem dX11_best_14 : decode cX11_best 14 = .ok (.iload_n 1, 1) := by decide +kernel
theorem dX11_best_15 : decode cX11_best 15 = .ok (.iconst 1, 1) := by decide +kernel
theorem dX11_best_16 : decode cX11_best 16 = .ok (.if_icmp .ne 7, 3) := by decide +kernel
theorem dX11_best_19 : decode cX11_best 19 = .ok (.iconst 0, 1) := by decide +kernel
theorem dX11_best_20 : decode cX11_best 20 = .ok (.goto 4, 3) := by decide +kernel
theorem dX11_best_23 : decode cX11_best 23 = .ok (.iconst (-1), 1) := by decide +kernel
theorem dX11_best_24 : decode cX11_best 24 = .ok (.ireturn, 1) := by decide +kernel
theorem dX11_best_25 : decode cX11_best 25 = .ok (.iload_n 1, 1) := by decide +kernel
theorem dX11_best_26 : decode cX11_best 26 = .ok (.ifCond .ne 13, 3) := by decide +kernel
theorem dX11_best_29 : decode cX11_best 29 = .ok (.aload_n 0, 1) := by decide +kernel
theorem dX11_best_30 : decode cX11_best 30 = .ok (.getfield 70, 3) := by decide +kernel
theorem dX11_best_33 : decode cX11_best 33 = .ok (.iconst 0, 1) := by decide +kernel
theorem dX11_best_34 : decode cX11_best 34 = .ok (.iaload, 1) := by decide +kernel
theorem dX11_best_35 : decode cX11_best 35 = .ok (.ineg, 1) := by decide +kernel
theorem dX11_best_36 : decode cX11_best 36 = .ok (.goto 24, 3) := by decide +kernel
theorem dX11_best_39 : decode cX11_best 39 = .ok (.iload_n 1, 1) := by decide +kernel
theorem dX11_best_40 : decode cX11_best 40 = .ok (.iconst 1, 1) := by decide +kernel
theorem dX11_best_41 : decode cX11_best 41 = .ok (.if_icmp .ne 12, 3) := by decide +kernel
theorem dX11_best_44 : decode cX11_best 44 = .ok (.aload_n 0, 1) := by decide +kernel
theorem dX11_best_45 : decode cX11_best 45 = .ok (.getfield 73, 3) := by decide +kernel
theorem dX11_best_48 : decode cX11_best 48 = .ok (.iconst 0, 1) := by decide +kernel
theorem dX11_best_49 : decode cX11_best 49 = .ok (.iaload, 1) := by decide +kernel
theorem dX11_best_50 : decode cX11_best 50 = .ok (.goto 10, 3) := by decide +kernel
theorem dX11_best_53 : decode cX11_best 53 = .ok (.aload_n 0, 1) := by decide +kernel
theorem dX11_best_54 : decode cX11_best 54 = .ok (.iload_n 1, 1) := by decide +kernel
theorem dX11_best_55 : decode cX11_best 55 = .ok (.iconst 2, 1) := by decide +kernel
theorem dX11_best_56 : decode cX11_best 56 = .ok (.isub, 1) := by decide +kernel
theorem dX11_best_57 : decode cX11_best 57 = .ok (.invokevirtual 330, 3) := by decide +kernel
theorem dX11_best_60 : decode cX11_best 60 = .ok (.ireturn, 1) := by decide +kernel
theorem dX11_fairest_0 : decode cX11_fairest 0 = .ok (.iload_n 1, 1) := by decide +kernel
theorem dX11_fairest_1 : decode cX11_fairest 1 = .ok (.ifCond .lt 11, 3) := by decide +kernel
theorem dX11_fairest_4 : decode cX11_fairest 4 = .ok (.aload_n 0, 1) := by decide +kernel
theorem dX11_fairest_5 : decode cX11_fairest 5 = .ok (.iconst 1, 1) := by decide +kernel
theorem dX11_fairest_6 : decode cX11_fairest 6 = .ok (.invokevirtual 327, 3) := by decide +kernel
theorem dX11_fairest_9 : decode cX11_fairest 9 = .ok (.ifCond .ne 5, 3) := by decide +kernel
theorem dX11_fairest_12 : decode cX11_fairest 12 = .ok (.iconst (-1), 1) := by decide +kernel
theorem dX11_fairest_13 : decode cX11_fairest 13 = .ok (.ireturn, 1) := by decide +kernel
theorem dX11_fairest_14 : decode cX11_fairest 14 = .ok (.iload_n 1, 1) := by decide +kernel
theorem dX11_fairest_15 : decode cX11_fairest 15 = .ok (.ifCond .ne 12, 3) := by decide +kernel
theorem dX11_fairest_18 : decode cX11_fairest 18 = .ok (.aload_n 0, 1) := by decide +kernel
theorem dX11_fairest_19 : decode cX11_fairest 19 = .ok (.getfield 70, 3) := by decide +kernel
theorem dX11_fairest_22 : decode cX11_fairest 22 = .ok (.iconst 0, 1) := by decide +kernel
theorem dX11_fairest_23 : decode cX11_fairest 23 = .ok (.iaload, 1) := by decide +kernel
theorem dX11_fairest_24 : decode cX11_fairest 24 = .ok (.goto 10, 3) := by decide +kernel
theorem dX11_fairest_27 : decode cX11_fairest 27 = .ok (.aload_n 0, 1) := by decide +kernel
theorem dX11_fairest_28 : decode cX11_fairest 28 = .ok (.iload_n 1, 1) := by decide +kernel
theorem dX11_fairest_29 : decode cX11_fairest 29 = .ok (.iconst 1, 1) := by decide +kernel
theorem dX11_fairest_30 : decode cX11_fairest 30 = .ok (.isub, 1) := by decide +kernel
theorem dX11_fairest_31 : decode cX11_fairest 31 = .ok (.invokevirtual 330, 3) := by decide +kernel
theorem dX11_fairest_34 : decode cX11_fairest 34 = .ok (.ireturn, 1) := by decide +kernel
theorem dX11_wrong_0 : decode cX11_wrong 0 = .ok (.iload_n 1, 1) := by decide +kernel
theorem dX11_wrong_1 : decode cX11_wrong 1 = .ok (.ifCond .ge 5, 3) := by decide +kernel
theorem dX11_wrong_4 : decode cX11_wrong 4 = .ok (.iconst (-1), 1) := by decide +kernel
theorem dX11_wrong_5 : decode cX11_wrong 5 = .ok (.ireturn, 1) := by decide +kernel
theorem dX11_wrong_6 : decode cX11_wrong 6 = .ok (.aload_n 0, 1) := by decide +kernel
theorem dX11_wrong_7 : decode cX11_wrong 7 = .ok (.iconst 2, 1) := by decide +kernel
theorem dX11_wrong_8 : decode cX11_wrong 8 = .ok (.invokevirtual 327, 3) := by decide +kernel
theorem dX11_wrong_11 : decode cX11_wrong 11 = .ok (.ifCond .ne 14, 3) := by decide +kernel
theorem dX11_wrong_14 : decode cX11_wrong 14 = .ok (.iload_n 1, 1) := by decide +kernel
theorem dX11_wrong_15 : decode cX11_wrong 15 = .ok (.iconst 1, 1) := by decide +kernel
theorem dX11_wrong_16 : decode cX11_wrong 16 = .ok (.if_icmp .ne 7, 3) := by decide +kernel
theorem dX11_wrong_19 : decode cX11_wrong 19 = .ok (.iconst 0, 1) := by decide +kernel
theorem dX11_wrong_20 : decode cX11_wrong 20 = .ok (.goto 4, 3) := by decide +kernel
theorem dX11_wrong_23 : decode cX11_wrong 23 = .ok (.iconst (-1), 1) := by decide +kernel
theorem dX11_wrong_24 : decode cX11_wrong 24 = .ok (.ireturn, 1) := by decide +kernel
theorem dX11_wrong_25 : decode cX11_wrong 25 = .ok (.iload_n 1, 1) := by decide +kernel
theorem dX11_wrong_26 : decode cX11_wrong 26 = .ok (.ifCond .ne 12, 3) := by decide +kernel
theorem dX11_wrong_29 : decode cX11_wrong 29 = .ok (.aload_n 0, 1) := by decide +kernel
theorem dX11_wrong_30 : decode cX11_wrong 30 = .ok (.getfield 70, 3) := by decide +kernel
theorem dX11_wrong_33 : decode cX11_wrong 33 = .ok (.iconst 0, 1) := by decide +kernel
theorem dX11_wrong_34 : decode cX11_wrong 34 = .ok (.iaload, 1) := by decide +kernel
theorem dX11_wrong_35 : decode cX11_wrong 35 = .ok (.goto 24, 3) := by decide +kernel
theorem dX11_wrong_38 : decode cX11_wrong 38 = .ok (.iload_n 1, 1) := by decide +kernel
theorem dX11_wrong_39 : decode cX11_wrong 39 = .ok (.iconst 1, 1) := by decide +kernel
theorem dX11_wrong_40 : decode cX11_wrong 40 = .ok (.if_icmp .ne 12, 3) := by decide +kernel
theorem dX11_wrong_43 : decode cX11_wrong 43 = .ok (.aload_n 0, 1) := by decide +kernel
theorem dX11_wrong_44 : decode cX11_wrong 44 = .ok (.getfield 73, 3) := by decide +kernel
theorem dX11_wrong_47 : decode cX11_wrong 47 = .ok (.iconst 0, 1) := by decide +kernel
theorem dX11_wrong_48 : decode cX11_wrong 48 = .ok (.iaload, 1) := by decide +kernel
theorem dX11_wrong_49 : decode cX11_wrong 49 = .ok (.goto 10, 3) := by decide +kernel
theorem dX11_wrong_52 : decode cX11_wrong 52 = .ok (.aload_n 0, 1) := by decide +kernel
theorem dX11_wrong_53 : decode cX11_wrong 53 = .ok (.iload_n 1, 1) := by decide +kernel
theorem dX11_wrong_54 : decode cX11_wrong 54 = .ok (.iconst 2, 1) := by decide +kernel
theorem dX11_wrong_55 : decode cX11_wrong 55 = .ok (.isub, 1) := by decide +kernel
theorem dX11_wrong_56 : decode cX11_wrong 56 = .ok (.invokevirtual 330, 3) := by decide +kernel
theorem dX11_wrong_59 : decode cX11_wrong 59 = .ok (.ireturn, 1) := by decide +kernel
theorem dX11_families_0 : decode cX11_families 0 = .ok (.aload_n 0, 1) := by decide +kernel
theorem dX11_families_1 : decode cX11_families 1 = .ok (.invokevirtual 302, 3) := by decide +kernel
theorem dX11_families_4 : decode cX11_families 4 = .ok (.istore_n 2, 1) := by decide +kernel
theorem dX11_families_5 : decode cX11_families 5 = .ok (.iconst 0, 1) := by decide +kernel
theorem dX11_families_6 : decode cX11_families 6 = .ok (.istore_n 3, 1) := by decide +kernel
theorem dX11_families_7 : decode cX11_families 7 = .ok (.iload_n 3, 1) := by decide +kernel
theorem dX11_families_8 : decode cX11_families 8 = .ok (.ldc 82, 2) := by decide +kernel
theorem dX11_families_10 : decode cX11_families 10 = .ok (.if_icmp .ge 16, 3) := by decide +kernel
theorem dX11_families_13 : decode cX11_families 13 = .ok (.aload_n 0, 1) := by decide +kernel
theorem dX11_families_14 : decode cX11_families 14 = .ok (.getfield 83, 3) := by decide +kernel
theorem dX11_families_17 : decode cX11_families 17 = .ok (.iload_n 3, 1) := by decide +kernel
theorem dX11_families_18 : decode cX11_families 18 = .ok (.iconst 0, 1) := by decide +kernel
theorem dX11_families_19 : decode cX11_families 19 = .ok (.bastore, 1) := by decide +kernel
theorem dX11_families_20 : decode cX11_families 20 = .ok (.iinc 3 1, 3) := by decide +kernel
theorem dX11_families_23 : decode cX11_families 23 = .ok (.goto (-16), 3) := by decide +kernel
theorem dX11_families_26 : decode cX11_families 26 = .ok (.aload_n 0, 1) := by decide +kernel
theorem dX11_families_27 : decode cX11_families 27 = .ok (.getfield 83, 3) := by decide +kernel
theorem dX11_families_30 : decode cX11_families 30 = .ok (.iconst 0, 1) := by decide +kernel
theorem dX11_families_31 : decode cX11_families 31 = .ok (.iconst 1, 1) := by decide +kernel
theorem dX11_families_32 : decode cX11_families 32 = .ok (.bastore, 1) := by decide +kernel
theorem dX11_families_33 : decode cX11_families 33 = .ok (.iconst 0, 1) := by decide +kernel
theorem dX11_families_34 : decode cX11_families 34 = .ok (.istore_n 3, 1) := by decide +kernel
theorem dX11_families_35 : decode cX11_families 35 = .ok (.iload_n 3, 1) := by decide +kernel
theorem dX11_families_36 : decode cX11_families 36 = .ok (.iload_n 2, 1) := by decide +kernel
theorem dX11_families_37 : decode cX11_families 37 = .ok (.if_icmp .gt 123, 3) := by decide +kernel
theorem dX11_families_40 : decode cX11_families 40 = .ok (.iload_n 3, 1) := by decide +kernel
theorem dX11_families_41 : decode cX11_families 41 = .ok (.istore 4, 2) := by decide +kernel
theorem dX11_families_43 : decode cX11_families 43 = .ok (.iload 4, 2) := by decide +kernel
theorem dX11_families_45 : decode cX11_families 45 = .ok (.ifCond .lt 109, 3) := by decide +kernel
theorem dX11_families_48 : decode cX11_families 48 = .ok (.aload_n 0, 1) := by decide +kernel
theorem dX11_families_49 : decode cX11_families 49 = .ok (.getfield 83, 3) := by decide +kernel
theorem dX11_families_52 : decode cX11_families 52 = .ok (.sipush 256, 3) := by decide +kernel
theorem dX11_families_55 : decode cX11_families 55 = .ok (.iload_n 3, 1) := by decide +kernel
theorem dX11_families_56 : decode cX11_families 56 = .ok (.imul, 1) := by decide +kernel
theorem dX11_families_57 : decode cX11_families 57 = .ok (.iload 4, 2) := by decide +kernel
theorem dX11_families_59 : decode cX11_families 59 = .ok (.iadd, 1) := by decide +kernel
theorem dX11_families_60 : decode cX11_families 60 = .ok (.baload, 1) := by decide +kernel
theorem dX11_families_61 : decode cX11_families 61 = .ok (.ifCond .ne 6, 3) := by decide +kernel
theorem dX11_families_64 : decode cX11_families 64 = .ok (.goto 70, 3) := by decide +kernel
theorem dX11_families_67 : decode cX11_families 67 = .ok (.iconst 0, 1) := by decide +kernel
theorem dX11_families_68 : decode cX11_families 68 = .ok (.istore 5, 2) := by decide +kernel
theorem dX11_families_70 : decode cX11_families 70 = .ok (.iload 5, 2) := by decide +kernel
theorem dX11_families_72 : decode cX11_families 72 = .ok (.aload_n 0, 1) := by decide +kernel
theorem dX11_families_73 : decode cX11_families 73 = .ok (.invokevirtual 121, 3) := by decide +kernel
theorem dX11_families_76 : decode cX11_families 76 = .ok (.if_icmp .ge 58, 3) := by decide +kernel
theorem dX11_families_79 : decode cX11_families 79 = .ok (.aload_n 0, 1) := by decide +kernel
theorem dX11_families_80 : decode cX11_families 80 = .ok (.iload_n 3, 1) := by decide +kernel
theorem dX11_families_81 : decode cX11_families 81 = .ok (.iload 5, 2) := by decide +kernel
theorem dX11_families_83 : decode cX11_families 83 = .ok (.invokevirtual 305, 3) := by decide +kernel
theorem dX11_families_86 : decode cX11_families 86 = .ok (.ifCond .eq 42, 3) := by decide +kernel
theorem dX11_families_89 : decode cX11_families 89 = .ok (.aload_n 0, 1) := by decide +kernel
theorem dX11_families_90 : decode cX11_families 90 = .ok (.getfield 83, 3) := by decide +kernel
theorem dX11_families_93 : decode cX11_families 93 = .ok (.sipush 256, 3) := by decide +kernel
theorem dX11_families_96 : decode cX11_families 96 = .ok (.iload_n 3, 1) := by decide +kernel
theorem dX11_families_97 : decode cX11_families 97 = .ok (.iconst 1, 1) := by decide +kernel
theorem dX11_families_98 : decode cX11_families 98 = .ok (.iload 5, 2) := by decide +kernel
theorem dX11_families_100 : decode cX11_families 100 = .ok (.ishl, 1) := by decide +kernel
theorem dX11_families_101 : decode cX11_families 101 = .ok (.ior, 1) := by decide +kernel
theorem dX11_families_102 : decode cX11_families 102 = .ok (.imul, 1) := by decide +kernel
theorem dX11_families_103 : decode cX11_families 103 = .ok (.aload_n 0, 1) := by decide +kernel
theorem dX11_families_104 : decode cX11_families 104 = .ok (.iload_n 3, 1) := by decide +kernel
theorem dX11_families_105 : decode cX11_families 105 = .ok (.iload 5, 2) := by decide +kernel
theorem dX11_families_107 : decode cX11_families 107 = .ok (.invokevirtual 299, 3) := by decide +kernel
theorem dX11_families_110 : decode cX11_families 110 = .ok (.ifCond .le 13, 3) := by decide +kernel
theorem dX11_families_113 : decode cX11_families 113 = .ok (.iload 4, 2) := by decide +kernel
theorem dX11_families_115 : decode cX11_families 115 = .ok (.iconst 1, 1) := by decide +kernel
theorem dX11_families_116 : decode cX11_families 116 = .ok (.iload 5, 2) := by decide +kernel
theorem dX11_families_118 : decode cX11_families 118 = .ok (.ishl, 1) := by decide +kernel
theorem dX11_families_119 : decode cX11_families 119 = .ok (.ior, 1) := by decide +kernel
theorem dX11_families_120 : decode cX11_families 120 = .ok (.goto 5, 3) := by decide +kernel
theorem dX11_families_123 : decode cX11_families 123 = .ok (.iload 4, 2) := by decide +kernel
theorem dX11_families_125 : decode cX11_families 125 = .ok (.iadd, 1) := by decide +kernel
theorem dX11_families_126 : decode cX11_families 126 = .ok (.iconst 1, 1) := by decide +kernel
theorem dX11_families_127 : decode cX11_families 127 = .ok (.bastore, 1) := by decide +kernel
theorem dX11_families_128 : decode cX11_families 128 = .ok (.iinc 5 1, 3) := by decide +kernel
theorem dX11_families_131 : decode cX11_families 131 = .ok (.goto (-61), 3) := by decide +kernel
theorem dX11_families_134 : decode cX11_families 134 = .ok (.iload 4, 2) := by decide +kernel
theorem dX11_families_136 : decode cX11_families 136 = .ok (.ifCond .ne 7, 3) := by decide +kernel
theorem dX11_families_139 : decode cX11_families 139 = .ok (.iconst (-1), 1) := by decide +kernel
theorem dX11_families_140 : decode cX11_families 140 = .ok (.goto 9, 3) := by decide +kernel
theorem dX11_families_143 : decode cX11_families 143 = .ok (.iload 4, 2) := by decide +kernel
theorem dX11_families_145 : decode cX11_families 145 = .ok (.iconst 1, 1) := by decide +kernel
theorem dX11_families_146 : decode cX11_families 146 = .ok (.isub, 1) := by decide +kernel
theorem dX11_families_147 : decode cX11_families 147 = .ok (.iload_n 3, 1) := by decide +kernel
theorem dX11_families_148 : decode cX11_families 148 = .ok (.iand, 1) := by decide +kernel
theorem dX11_families_149 : decode cX11_families 149 = .ok (.istore 4, 2) := by decide +kernel
theorem dX11_families_151 : decode cX11_families 151 = .ok (.goto (-108), 3) := by decide +kernel
theorem dX11_families_154 : decode cX11_families 154 = .ok (.iinc 3 1, 3) := by decide +kernel
theorem dX11_families_157 : decode cX11_families 157 = .ok (.goto (-122), 3) := by decide +kernel
theorem dX11_families_160 : decode cX11_families 160 = .ok (.iconst 0, 1) := by decide +kernel
theorem dX11_families_161 : decode cX11_families 161 = .ok (.istore_n 3, 1) := by decide +kernel
theorem dX11_families_162 : decode cX11_families 162 = .ok (.iload_n 3, 1) := by decide +kernel
theorem dX11_families_163 : decode cX11_families 163 = .ok (.iload_n 2, 1) := by decide +kernel
theorem dX11_families_164 : decode cX11_families 164 = .ok (.if_icmp .gt 33, 3) := by decide +kernel
theorem dX11_families_167 : decode cX11_families 167 = .ok (.aload_n 0, 1) := by decide +kernel
theorem dX11_families_168 : decode cX11_families 168 = .ok (.getfield 79, 3) := by decide +kernel
theorem dX11_families_171 : decode cX11_families 171 = .ok (.sipush 256, 3) := by decide +kernel
theorem dX11_families_174 : decode cX11_families 174 = .ok (.iload_n 1, 1) := by decide +kernel
theorem dX11_families_175 : decode cX11_families 175 = .ok (.imul, 1) := by decide +kernel
theorem dX11_families_176 : decode cX11_families 176 = .ok (.iload_n 3, 1) := by decide +kernel
theorem dX11_families_177 : decode cX11_families 177 = .ok (.iadd, 1) := by decide +kernel
theorem dX11_families_178 : decode cX11_families 178 = .ok (.aload_n 0, 1) := by decide +kernel
theorem dX11_families_179 : decode cX11_families 179 = .ok (.getfield 83, 3) := by decide +kernel
theorem dX11_families_182 : decode cX11_families 182 = .ok (.sipush 256, 3) := by decide +kernel
theorem dX11_families_185 : decode cX11_families 185 = .ok (.iload_n 2, 1) := by decide +kernel
theorem dX11_families_186 : decode cX11_families 186 = .ok (.imul, 1) := by decide +kernel
theorem dX11_families_187 : decode cX11_families 187 = .ok (.iload_n 3, 1) := by decide +kernel
theorem dX11_families_188 : decode cX11_families 188 = .ok (.iadd, 1) := by decide +kernel
theorem dX11_families_189 : decode cX11_families 189 = .ok (.baload, 1) := by decide +kernel
theorem dX11_families_190 : decode cX11_families 190 = .ok (.bastore, 1) := by decide +kernel
theorem dX11_families_191 : decode cX11_families 191 = .ok (.iinc 3 1, 3) := by decide +kernel
theorem dX11_families_194 : decode cX11_families 194 = .ok (.goto (-32), 3) := by decide +kernel
theorem dX11_families_197 : decode cX11_families 197 = .ok (.return_, 1) := by decide +kernel
theorem dX11_yearOf_0 : decode cX11_yearOf 0 = .ok (.aload_n 0, 1) := by decide +kernel
theorem dX11_yearOf_1 : decode cX11_yearOf 1 = .ok (.invokevirtual 302, 3) := by decide +kernel
theorem dX11_yearOf_4 : decode cX11_yearOf 4 = .ok (.istore_n 1, 1) := by decide +kernel
theorem dX11_yearOf_5 : decode cX11_yearOf 5 = .ok (.iconst 0, 1) := by decide +kernel
theorem dX11_yearOf_6 : decode cX11_yearOf 6 = .ok (.istore_n 2, 1) := by decide +kernel
theorem dX11_yearOf_7 : decode cX11_yearOf 7 = .ok (.iload_n 2, 1) := by decide +kernel
theorem dX11_yearOf_8 : decode cX11_yearOf 8 = .ok (.iload_n 1, 1) := by decide +kernel
theorem dX11_yearOf_9 : decode cX11_yearOf 9 = .ok (.if_icmp .gt 24, 3) := by decide +kernel
theorem dX11_yearOf_12 : decode cX11_yearOf 12 = .ok (.aload_n 0, 1) := by decide +kernel
theorem dX11_yearOf_13 : decode cX11_yearOf 13 = .ok (.getfield 86, 3) := by decide +kernel
theorem dX11_yearOf_16 : decode cX11_yearOf 16 = .ok (.iload_n 2, 1) := by decide +kernel
theorem dX11_yearOf_17 : decode cX11_yearOf 17 = .ok (.iload_n 2, 1) := by decide +kernel
theorem dX11_yearOf_18 : decode cX11_yearOf 18 = .ok (.ifCond .ne 7, 3) := by decide +kernel
theorem dX11_yearOf_21 : decode cX11_yearOf 21 = .ok (.iconst 1, 1) := by decide +kernel
theorem dX11_yearOf_22 : decode cX11_yearOf 22 = .ok (.goto 4, 3) := by decide +kernel
theorem dX11_yearOf_25 : decode cX11_yearOf 25 = .ok (.iconst 0, 1) := by decide +kernel
theorem dX11_yearOf_26 : decode cX11_yearOf 26 = .ok (.bastore, 1) := by decide +kernel
theorem dX11_yearOf_27 : decode cX11_yearOf 27 = .ok (.iinc 2 1, 3) := by decide +kernel
theorem dX11_yearOf_30 : decode cX11_yearOf 30 = .ok (.goto (-23), 3) := by decide +kernel
theorem dX11_yearOf_33 : decode cX11_yearOf 33 = .ok (.aload_n 0, 1) := by decide +kernel
theorem dX11_yearOf_34 : decode cX11_yearOf 34 = .ok (.aload_n 0, 1) := by decide +kernel
theorem dX11_yearOf_35 : decode cX11_yearOf 35 = .ok (.getfield 17, 3) := by decide +kernel
theorem dX11_yearOf_38 : decode cX11_yearOf 38 = .ok (.bipush 42, 2) := by decide +kernel
theorem dX11_yearOf_40 : decode cX11_yearOf 40 = .ok (.iaload, 1) := by decide +kernel
theorem dX11_yearOf_41 : decode cX11_yearOf 41 = .ok (.invokevirtual 142, 3) := by decide +kernel
theorem dX11_yearOf_44 : decode cX11_yearOf 44 = .ok (.iconst 0, 1) := by decide +kernel
theorem dX11_yearOf_45 : decode cX11_yearOf 45 = .ok (.istore_n 2, 1) := by decide +kernel
theorem dX11_yearOf_46 : decode cX11_yearOf 46 = .ok (.iload_n 2, 1) := by decide +kernel
theorem dX11_yearOf_47 : decode cX11_yearOf 47 = .ok (.bipush 30, 2) := by decide +kernel
theorem dX11_yearOf_49 : decode cX11_yearOf 49 = .ok (.if_icmp .ge 157, 3) := by decide +kernel
theorem dX11_yearOf_52 : decode cX11_yearOf 52 = .ok (.aload_n 0, 1) := by decide +kernel
theorem dX11_yearOf_53 : decode cX11_yearOf 53 = .ok (.aload_n 0, 1) := by decide +kernel
theorem dX11_yearOf_54 : decode cX11_yearOf 54 = .ok (.getfield 17, 3) := by decide +kernel
theorem dX11_yearOf_57 : decode cX11_yearOf 57 = .ok (.bipush 42, 2) := by decide +kernel
theorem dX11_yearOf_59 : decode cX11_yearOf 59 = .ok (.iaload, 1) := by decide +kernel
theorem dX11_yearOf_60 : decode cX11_yearOf 60 = .ok (.iload_n 2, 1) := by decide +kernel
theorem dX11_yearOf_61 : decode cX11_yearOf 61 = .ok (.iadd, 1) := by decide +kernel
theorem dX11_yearOf_62 : decode cX11_yearOf 62 = .ok (.invokevirtual 284, 3) := by decide +kernel
theorem dX11_yearOf_65 : decode cX11_yearOf 65 = .ok (.aload_n 0, 1) := by decide +kernel
theorem dX11_yearOf_66 : decode cX11_yearOf 66 = .ok (.iload_n 2, 1) := by decide +kernel
theorem dX11_yearOf_67 : decode cX11_yearOf 67 = .ok (.invokevirtual 333, 3) := by decide +kernel
theorem dX11_yearOf_70 : decode cX11_yearOf 70 = .ok (.aload_n 0, 1) := by decide +kernel
theorem dX11_yearOf_71 : decode cX11_yearOf 71 = .ok (.invokevirtual 336, 3) := by decide +kernel
theorem dX11_yearOf_74 : decode cX11_yearOf 74 = .ok (.iconst 0, 1) := by decide +kernel
theorem dX11_yearOf_75 : decode cX11_yearOf 75 = .ok (.istore_n 3, 1) := by decide +kernel
theorem dX11_yearOf_76 : decode cX11_yearOf 76 = .ok (.iload_n 3, 1) := by decide +kernel
theorem dX11_yearOf_77 : decode cX11_yearOf 77 = .ok (.iload_n 1, 1) := by decide +kernel
theorem dX11_yearOf_78 : decode cX11_yearOf 78 = .ok (.if_icmp .gt 24, 3) := by decide +kernel
theorem dX11_yearOf_81 : decode cX11_yearOf 81 = .ok (.aload_n 0, 1) := by decide +kernel
theorem dX11_yearOf_82 : decode cX11_yearOf 82 = .ok (.getfield 86, 3) := by decide +kernel
theorem dX11_yearOf_85 : decode cX11_yearOf 85 = .ok (.sipush 256, 3) := by decide +kernel
theorem dX11_yearOf_88 : decode cX11_yearOf 88 = .ok (.iload_n 2, 1) := by decide +kernel
theorem dX11_yearOf_89 : decode cX11_yearOf 89 = .ok (.iconst 1, 1) := by decide +kernel
theorem dX11_yearOf_90 : decode cX11_yearOf 90 = .ok (.iadd, 1) := by decide +kernel
theorem dX11_yearOf_91 : decode cX11_yearOf 91 = .ok (.imul, 1) := by decide +kernel
theorem dX11_yearOf_92 : decode cX11_yearOf 92 = .ok (.iload_n 3, 1) := by decide +kernel
theorem dX11_yearOf_93 : decode cX11_yearOf 93 = .ok (.iadd, 1) := by decide +kernel
theorem dX11_yearOf_94 : decode cX11_yearOf 94 = .ok (.iconst 0, 1) := by decide +kernel
theorem dX11_yearOf_95 : decode cX11_yearOf 95 = .ok (.bastore, 1) := by decide +kernel
theorem dX11_yearOf_96 : decode cX11_yearOf 96 = .ok (.iinc 3 1, 3) := by decide +kernel
theorem dX11_yearOf_99 : decode cX11_yearOf 99 = .ok (.goto (-23), 3) := by decide +kernel
theorem dX11_yearOf_102 : decode cX11_yearOf 102 = .ok (.iconst 0, 1) := by decide +kernel
theorem dX11_yearOf_103 : decode cX11_yearOf 103 = .ok (.istore_n 3, 1) := by decide +kernel
theorem dX11_yearOf_104 : decode cX11_yearOf 104 = .ok (.iload_n 3, 1) := by decide +kernel
theorem dX11_yearOf_105 : decode cX11_yearOf 105 = .ok (.iload_n 1, 1) := by decide +kernel
theorem dX11_yearOf_106 : decode cX11_yearOf 106 = .ok (.if_icmp .gt 73, 3) := by decide +kernel
theorem dX11_yearOf_109 : decode cX11_yearOf 109 = .ok (.iconst 0, 1) := by decide +kernel
theorem dX11_yearOf_110 : decode cX11_yearOf 110 = .ok (.istore 4, 2) := by decide +kernel
theorem dX11_yearOf_112 : decode cX11_yearOf 112 = .ok (.iload 4, 2) := by decide +kernel
theorem dX11_yearOf_114 : decode cX11_yearOf 114 = .ok (.iload_n 1, 1) := by decide +kernel
theorem dX11_yearOf_115 : decode cX11_yearOf 115 = .ok (.if_icmp .gt 58, 3) := by decide +kernel
theorem dX11_yearOf_118 : decode cX11_yearOf 118 = .ok (.aload_n 0, 1) := by decide +kernel
theorem dX11_yearOf_119 : decode cX11_yearOf 119 = .ok (.getfield 86, 3) := by decide +kernel
theorem dX11_yearOf_122 : decode cX11_yearOf 122 = .ok (.sipush 256, 3) := by decide +kernel
theorem dX11_yearOf_125 : decode cX11_yearOf 125 = .ok (.iload_n 2, 1) := by decide +kernel
theorem dX11_yearOf_126 : decode cX11_yearOf 126 = .ok (.imul, 1) := by decide +kernel
theorem dX11_yearOf_127 : decode cX11_yearOf 127 = .ok (.iload_n 3, 1) := by decide +kernel
theorem dX11_yearOf_128 : decode cX11_yearOf 128 = .ok (.iadd, 1) := by decide +kernel
theorem dX11_yearOf_129 : decode cX11_yearOf 129 = .ok (.baload, 1) := by decide +kernel
theorem dX11_yearOf_130 : decode cX11_yearOf 130 = .ok (.ifCond .eq 43, 3) := by decide +kernel
theorem dX11_yearOf_133 : decode cX11_yearOf 133 = .ok (.aload_n 0, 1) := by decide +kernel
theorem dX11_yearOf_134 : decode cX11_yearOf 134 = .ok (.getfield 79, 3) := by decide +kernel
theorem dX11_yearOf_137 : decode cX11_yearOf 137 = .ok (.sipush 256, 3) := by decide +kernel
theorem dX11_yearOf_140 : decode cX11_yearOf 140 = .ok (.iload_n 2, 1) := by decide +kernel
theorem dX11_yearOf_141 : decode cX11_yearOf 141 = .ok (.imul, 1) := by decide +kernel
theorem dX11_yearOf_142 : decode cX11_yearOf 142 = .ok (.iload 4, 2) := by decide +kernel
theorem dX11_yearOf_144 : decode cX11_yearOf 144 = .ok (.iadd, 1) := by decide +kernel
theorem dX11_yearOf_145 : decode cX11_yearOf 145 = .ok (.baload, 1) := by decide +kernel
theorem dX11_yearOf_146 : decode cX11_yearOf 146 = .ok (.ifCond .eq 21, 3) := by decide +kernel
theorem dX11_yearOf_149 : decode cX11_yearOf 149 = .ok (.aload_n 0, 1) := by decide +kernel
theorem dX11_yearOf_150 : decode cX11_yearOf 150 = .ok (.getfield 86, 3) := by decide +kernel
theorem dX11_yearOf_153 : decode cX11_yearOf 153 = .ok (.sipush 256, 3) := by decide +kernel
theorem dX11_yearOf_156 : decode cX11_yearOf 156 = .ok (.iload_n 2, 1) := by decide +kernel
theorem dX11_yearOf_157 : decode cX11_yearOf 157 = .ok (.iconst 1, 1) := by decide +kernel
theorem dX11_yearOf_158 : decode cX11_yearOf 158 = .ok (.iadd, 1) := by decide +kernel
theorem dX11_yearOf_159 : decode cX11_yearOf 159 = .ok (.imul, 1) := by decide +kernel
theorem dX11_yearOf_160 : decode cX11_yearOf 160 = .ok (.iload_n 3, 1) := by decide +kernel
theorem dX11_yearOf_161 : decode cX11_yearOf 161 = .ok (.iload 4, 2) := by decide +kernel
theorem dX11_yearOf_163 : decode cX11_yearOf 163 = .ok (.ior, 1) := by decide +kernel
theorem dX11_yearOf_164 : decode cX11_yearOf 164 = .ok (.iadd, 1) := by decide +kernel
theorem dX11_yearOf_165 : decode cX11_yearOf 165 = .ok (.iconst 1, 1) := by decide +kernel
theorem dX11_yearOf_166 : decode cX11_yearOf 166 = .ok (.bastore, 1) := by decide +kernel
theorem dX11_yearOf_167 : decode cX11_yearOf 167 = .ok (.iinc 4 1, 3) := by decide +kernel
theorem dX11_yearOf_170 : decode cX11_yearOf 170 = .ok (.goto (-58), 3) := by decide +kernel
theorem dX11_yearOf_173 : decode cX11_yearOf 173 = .ok (.iinc 3 1, 3) := by decide +kernel
theorem dX11_yearOf_176 : decode cX11_yearOf 176 = .ok (.goto (-72), 3) := by decide +kernel
theorem dX11_yearOf_179 : decode cX11_yearOf 179 = .ok (.aload_n 0, 1) := by decide +kernel
theorem dX11_yearOf_180 : decode cX11_yearOf 180 = .ok (.getfield 86, 3) := by decide +kernel
theorem dX11_yearOf_183 : decode cX11_yearOf 183 = .ok (.sipush 256, 3) := by decide +kernel
theorem dX11_yearOf_186 : decode cX11_yearOf 186 = .ok (.iload_n 2, 1) := by decide +kernel
theorem dX11_yearOf_187 : decode cX11_yearOf 187 = .ok (.iconst 1, 1) := by decide +kernel
theorem dX11_yearOf_188 : decode cX11_yearOf 188 = .ok (.iadd, 1) := by decide +kernel
theorem dX11_yearOf_189 : decode cX11_yearOf 189 = .ok (.imul, 1) := by decide +kernel
theorem dX11_yearOf_190 : decode cX11_yearOf 190 = .ok (.iload_n 1, 1) := by decide +kernel
theorem dX11_yearOf_191 : decode cX11_yearOf 191 = .ok (.iadd, 1) := by decide +kernel
theorem dX11_yearOf_192 : decode cX11_yearOf 192 = .ok (.baload, 1) := by decide +kernel
theorem dX11_yearOf_193 : decode cX11_yearOf 193 = .ok (.ifCond .eq 7, 3) := by decide +kernel
theorem dX11_yearOf_196 : decode cX11_yearOf 196 = .ok (.iload_n 2, 1) := by decide +kernel
theorem dX11_yearOf_197 : decode cX11_yearOf 197 = .ok (.iconst 1, 1) := by decide +kernel
theorem dX11_yearOf_198 : decode cX11_yearOf 198 = .ok (.iadd, 1) := by decide +kernel
theorem dX11_yearOf_199 : decode cX11_yearOf 199 = .ok (.ireturn, 1) := by decide +kernel
theorem dX11_yearOf_200 : decode cX11_yearOf 200 = .ok (.iinc 2 1, 3) := by decide +kernel
theorem dX11_yearOf_203 : decode cX11_yearOf 203 = .ok (.goto (-157), 3) := by decide +kernel
theorem dX11_yearOf_206 : decode cX11_yearOf 206 = .ok (.iconst (-1), 1) := by decide +kernel
theorem dX11_yearOf_207 : decode cX11_yearOf 207 = .ok (.ireturn, 1) := by decide +kernel
theorem dX11_year_0 : decode cX11_year 0 = .ok (.aload_n 0, 1) := by decide +kernel
theorem dX11_year_1 : decode cX11_year 1 = .ok (.invokevirtual 121, 3) := by decide +kernel
theorem dX11_year_4 : decode cX11_year 4 = .ok (.ifCond .ne 5, 3) := by decide +kernel
theorem dX11_year_7 : decode cX11_year 7 = .ok (.iconst (-1), 1) := by decide +kernel
theorem dX11_year_8 : decode cX11_year 8 = .ok (.ireturn, 1) := by decide +kernel
theorem dX11_year_9 : decode cX11_year 9 = .ok (.aload_n 0, 1) := by decide +kernel
theorem dX11_year_10 : decode cX11_year 10 = .ok (.invokevirtual 339, 3) := by decide +kernel
theorem dX11_year_13 : decode cX11_year 13 = .ok (.istore_n 2, 1) := by decide +kernel
theorem dX11_year_14 : decode cX11_year 14 = .ok (.iload_n 1, 1) := by decide +kernel
theorem dX11_year_15 : decode cX11_year 15 = .ok (.iconst (-1), 1) := by decide +kernel
theorem dX11_year_16 : decode cX11_year 16 = .ok (.if_icmp .eq 8, 3) := by decide +kernel
theorem dX11_year_19 : decode cX11_year 19 = .ok (.iload_n 2, 1) := by decide +kernel
theorem dX11_year_20 : decode cX11_year 20 = .ok (.iconst (-1), 1) := by decide +kernel
theorem dX11_year_21 : decode cX11_year 21 = .ok (.if_icmp .ne 5, 3) := by decide +kernel
theorem dX11_year_24 : decode cX11_year 24 = .ok (.iload_n 2, 1) := by decide +kernel
theorem dX11_year_25 : decode cX11_year 25 = .ok (.ireturn, 1) := by decide +kernel
theorem dX11_year_26 : decode cX11_year 26 = .ok (.iload_n 1, 1) := by decide +kernel
theorem dX11_year_27 : decode cX11_year 27 = .ok (.iconst 0, 1) := by decide +kernel
theorem dX11_year_28 : decode cX11_year 28 = .ok (.iload_n 2, 1) := by decide +kernel
theorem dX11_year_29 : decode cX11_year 29 = .ok (.iconst 1, 1) := by decide +kernel
theorem dX11_year_30 : decode cX11_year 30 = .ok (.isub, 1) := by decide +kernel
theorem dX11_year_31 : decode cX11_year 31 = .ok (.invokestatic 110, 3) := by decide +kernel
theorem dX11_year_34 : decode cX11_year 34 = .ok (.ifCond .ne 5, 3) := by decide +kernel
theorem dX11_year_37 : decode cX11_year 37 = .ok (.iconst (-1), 1) := by decide +kernel
theorem dX11_year_38 : decode cX11_year 38 = .ok (.ireturn, 1) := by decide +kernel
theorem dX11_year_39 : decode cX11_year 39 = .ok (.aload_n 0, 1) := by decide +kernel
theorem dX11_year_40 : decode cX11_year 40 = .ok (.invokevirtual 302, 3) := by decide +kernel
theorem dX11_year_43 : decode cX11_year 43 = .ok (.istore_n 3, 1) := by decide +kernel
theorem dX11_year_44 : decode cX11_year 44 = .ok (.iconst 0, 1) := by decide +kernel
theorem dX11_year_45 : decode cX11_year 45 = .ok (.istore 4, 2) := by decide +kernel
theorem dX11_year_47 : decode cX11_year 47 = .ok (.iload 4, 2) := by decide +kernel
theorem dX11_year_49 : decode cX11_year 49 = .ok (.iload_n 3, 1) := by decide +kernel
theorem dX11_year_50 : decode cX11_year 50 = .ok (.if_icmp .gt 33, 3) := by decide +kernel
theorem dX11_year_53 : decode cX11_year 53 = .ok (.aload_n 0, 1) := by decide +kernel
theorem dX11_year_54 : decode cX11_year 54 = .ok (.getfield 89, 3) := by decide +kernel
theorem dX11_year_57 : decode cX11_year 57 = .ok (.sipush 256, 3) := by decide +kernel
theorem dX11_year_60 : decode cX11_year 60 = .ok (.iload_n 2, 1) := by decide +kernel
theorem dX11_year_61 : decode cX11_year 61 = .ok (.imul, 1) := by decide +kernel
theorem dX11_year_62 : decode cX11_year 62 = .ok (.iload 4, 2) := by decide +kernel
theorem dX11_year_64 : decode cX11_year 64 = .ok (.iadd, 1) := by decide +kernel
theorem dX11_year_65 : decode cX11_year 65 = .ok (.iload 4, 2) := by decide +kernel
theorem dX11_year_67 : decode cX11_year 67 = .ok (.iload_n 3, 1) := by decide +kernel
theorem dX11_year_68 : decode cX11_year 68 = .ok (.if_icmp .ne 7, 3) := by decide +kernel
theorem dX11_year_71 : decode cX11_year 71 = .ok (.iconst 1, 1) := by decide +kernel
theorem dX11_year_72 : decode cX11_year 72 = .ok (.goto 4, 3) := by decide +kernel
theorem dX11_year_75 : decode cX11_year 75 = .ok (.iconst 0, 1) := by decide +kernel
theorem dX11_year_76 : decode cX11_year 76 = .ok (.bastore, 1) := by decide +kernel
theorem dX11_year_77 : decode cX11_year 77 = .ok (.iinc 4 1, 3) := by decide +kernel
theorem dX11_year_80 : decode cX11_year 80 = .ok (.goto (-33), 3) := by decide +kernel
theorem dX11_year_83 : decode cX11_year 83 = .ok (.iload_n 2, 1) := by decide +kernel
theorem dX11_year_84 : decode cX11_year 84 = .ok (.iconst 1, 1) := by decide +kernel
theorem dX11_year_85 : decode cX11_year 85 = .ok (.isub, 1) := by decide +kernel
theorem dX11_year_86 : decode cX11_year 86 = .ok (.istore 4, 2) := by decide +kernel
theorem dX11_year_88 : decode cX11_year 88 = .ok (.iload 4, 2) := by decide +kernel
theorem dX11_year_90 : decode cX11_year 90 = .ok (.ifCond .lt 129, 3) := by decide +kernel
theorem dX11_year_93 : decode cX11_year 93 = .ok (.iconst 0, 1) := by decide +kernel
theorem dX11_year_94 : decode cX11_year 94 = .ok (.istore 5, 2) := by decide +kernel
theorem dX11_year_96 : decode cX11_year 96 = .ok (.iload 5, 2) := by decide +kernel
theorem dX11_year_98 : decode cX11_year 98 = .ok (.iload_n 3, 1) := by decide +kernel
theorem dX11_year_99 : decode cX11_year 99 = .ok (.if_icmp .gt 114, 3) := by decide +kernel
theorem dX11_year_102 : decode cX11_year 102 = .ok (.aload_n 0, 1) := by decide +kernel
theorem dX11_year_103 : decode cX11_year 103 = .ok (.getfield 89, 3) := by decide +kernel
theorem dX11_year_106 : decode cX11_year 106 = .ok (.sipush 256, 3) := by decide +kernel
theorem dX11_year_109 : decode cX11_year 109 = .ok (.iload 4, 2) := by decide +kernel
theorem dX11_year_111 : decode cX11_year 111 = .ok (.imul, 1) := by decide +kernel
theorem dX11_year_112 : decode cX11_year 112 = .ok (.iload 5, 2) := by decide +kernel
theorem dX11_year_114 : decode cX11_year 114 = .ok (.iadd, 1) := by decide +kernel
theorem dX11_year_115 : decode cX11_year 115 = .ok (.iconst 0, 1) := by decide +kernel
theorem dX11_year_116 : decode cX11_year 116 = .ok (.bastore, 1) := by decide +kernel
theorem dX11_year_117 : decode cX11_year 117 = .ok (.iconst 0, 1) := by decide +kernel
theorem dX11_year_118 : decode cX11_year 118 = .ok (.istore 6, 2) := by decide +kernel
theorem dX11_year_120 : decode cX11_year 120 = .ok (.iload 6, 2) := by decide +kernel
theorem dX11_year_122 : decode cX11_year 122 = .ok (.iload_n 3, 1) := by decide +kernel
theorem dX11_year_123 : decode cX11_year 123 = .ok (.if_icmp .gt 84, 3) := by decide +kernel
theorem dX11_year_126 : decode cX11_year 126 = .ok (.aload_n 0, 1) := by decide +kernel
theorem dX11_year_127 : decode cX11_year 127 = .ok (.getfield 89, 3) := by decide +kernel
theorem dX11_year_130 : decode cX11_year 130 = .ok (.sipush 256, 3) := by decide +kernel
theorem dX11_year_133 : decode cX11_year 133 = .ok (.iload 4, 2) := by decide +kernel
theorem dX11_year_135 : decode cX11_year 135 = .ok (.imul, 1) := by decide +kernel
theorem dX11_year_136 : decode cX11_year 136 = .ok (.iload 5, 2) := by decide +kernel
theorem dX11_year_138 : decode cX11_year 138 = .ok (.iadd, 1) := by decide +kernel
theorem dX11_year_139 : decode cX11_year 139 = .ok (.aload_n 0, 1) := by decide +kernel
theorem dX11_year_140 : decode cX11_year 140 = .ok (.getfield 89, 3) := by decide +kernel
theorem dX11_year_143 : decode cX11_year 143 = .ok (.sipush 256, 3) := by decide +kernel
theorem dX11_year_146 : decode cX11_year 146 = .ok (.iload 4, 2) := by decide +kernel
theorem dX11_year_148 : decode cX11_year 148 = .ok (.imul, 1) := by decide +kernel
theorem dX11_year_149 : decode cX11_year 149 = .ok (.iload 5, 2) := by decide +kernel
theorem dX11_year_151 : decode cX11_year 151 = .ok (.iadd, 1) := by decide +kernel
theorem dX11_year_152 : decode cX11_year 152 = .ok (.baload, 1) := by decide +kernel
theorem dX11_year_153 : decode cX11_year 153 = .ok (.ifCond .ne 42, 3) := by decide +kernel
theorem dX11_year_156 : decode cX11_year 156 = .ok (.aload_n 0, 1) := by decide +kernel
theorem dX11_year_157 : decode cX11_year 157 = .ok (.getfield 79, 3) := by decide +kernel
theorem dX11_year_160 : decode cX11_year 160 = .ok (.sipush 256, 3) := by decide +kernel
theorem dX11_year_163 : decode cX11_year 163 = .ok (.iload 4, 2) := by decide +kernel
theorem dX11_year_165 : decode cX11_year 165 = .ok (.imul, 1) := by decide +kernel
theorem dX11_year_166 : decode cX11_year 166 = .ok (.iload 6, 2) := by decide +kernel
theorem dX11_year_168 : decode cX11_year 168 = .ok (.iadd, 1) := by decide +kernel
theorem dX11_year_169 : decode cX11_year 169 = .ok (.baload, 1) := by decide +kernel
theorem dX11_year_170 : decode cX11_year 170 = .ok (.ifCond .eq 29, 3) := by decide +kernel
theorem dX11_year_173 : decode cX11_year 173 = .ok (.aload_n 0, 1) := by decide +kernel
theorem dX11_year_174 : decode cX11_year 174 = .ok (.getfield 89, 3) := by decide +kernel
theorem dX11_year_177 : decode cX11_year 177 = .ok (.sipush 256, 3) := by decide +kernel
theorem dX11_year_180 : decode cX11_year 180 = .ok (.iload 4, 2) := by decide +kernel
theorem dX11_year_182 : decode cX11_year 182 = .ok (.iconst 1, 1) := by decide +kernel
theorem dX11_year_183 : decode cX11_year 183 = .ok (.iadd, 1) := by decide +kernel
theorem dX11_year_184 : decode cX11_year 184 = .ok (.imul, 1) := by decide +kernel
theorem dX11_year_185 : decode cX11_year 185 = .ok (.iload 5, 2) := by decide +kernel
theorem dX11_year_187 : decode cX11_year 187 = .ok (.iload 6, 2) := by decide +kernel
theorem dX11_year_189 : decode cX11_year 189 = .ok (.ior, 1) := by decide +kernel
theorem dX11_year_190 : decode cX11_year 190 = .ok (.iadd, 1) := by decide +kernel
theorem dX11_year_191 : decode cX11_year 191 = .ok (.baload, 1) := by decide +kernel
theorem dX11_year_192 : decode cX11_year 192 = .ok (.ifCond .eq 7, 3) := by decide +kernel
theorem dX11_year_195 : decode cX11_year 195 = .ok (.iconst 1, 1) := by decide +kernel
theorem dX11_year_196 : decode cX11_year 196 = .ok (.goto 4, 3) := by decide +kernel
theorem dX11_year_199 : decode cX11_year 199 = .ok (.iconst 0, 1) := by decide +kernel
theorem dX11_year_200 : decode cX11_year 200 = .ok (.bastore, 1) := by decide +kernel
theorem dX11_year_201 : decode cX11_year 201 = .ok (.iinc 6 1, 3) := by decide +kernel
theorem dX11_year_204 : decode cX11_year 204 = .ok (.goto (-84), 3) := by decide +kernel
theorem dX11_year_207 : decode cX11_year 207 = .ok (.iinc 5 1, 3) := by decide +kernel
theorem dX11_year_210 : decode cX11_year 210 = .ok (.goto (-114), 3) := by decide +kernel
theorem dX11_year_213 : decode cX11_year 213 = .ok (.iinc 4 (-1), 3) := by decide +kernel
theorem dX11_year_216 : decode cX11_year 216 = .ok (.goto (-128), 3) := by decide +kernel
theorem dX11_year_219 : decode cX11_year 219 = .ok (.iconst 0, 1) := by decide +kernel
theorem dX11_year_220 : decode cX11_year 220 = .ok (.istore 4, 2) := by decide +kernel
theorem dX11_year_222 : decode cX11_year 222 = .ok (.iconst 0, 1) := by decide +kernel
theorem dX11_year_223 : decode cX11_year 223 = .ok (.istore 5, 2) := by decide +kernel
theorem dX11_year_225 : decode cX11_year 225 = .ok (.iload 5, 2) := by decide +kernel
theorem dX11_year_227 : decode cX11_year 227 = .ok (.iload_n 1, 1) := by decide +kernel
theorem dX11_year_228 : decode cX11_year 228 = .ok (.if_icmp .gt 54, 3) := by decide +kernel
theorem dX11_year_231 : decode cX11_year 231 = .ok (.iconst 0, 1) := by decide +kernel
theorem dX11_year_232 : decode cX11_year 232 = .ok (.istore 6, 2) := by decide +kernel
theorem dX11_year_234 : decode cX11_year 234 = .ok (.aload_n 0, 1) := by decide +kernel
theorem dX11_year_235 : decode cX11_year 235 = .ok (.getfield 89, 3) := by decide +kernel
theorem dX11_year_238 : decode cX11_year 238 = .ok (.sipush 256, 3) := by decide +kernel
theorem dX11_year_241 : decode cX11_year 241 = .ok (.iload 5, 2) := by decide +kernel
theorem dX11_year_243 : decode cX11_year 243 = .ok (.iconst 1, 1) := by decide +kernel
theorem dX11_year_244 : decode cX11_year 244 = .ok (.iadd, 1) := by decide +kernel
theorem dX11_year_245 : decode cX11_year 245 = .ok (.imul, 1) := by decide +kernel
theorem dX11_year_246 : decode cX11_year 246 = .ok (.iload 6, 2) := by decide +kernel
theorem dX11_year_248 : decode cX11_year 248 = .ok (.iadd, 1) := by decide +kernel
theorem dX11_year_249 : decode cX11_year 249 = .ok (.baload, 1) := by decide +kernel
theorem dX11_year_250 : decode cX11_year 250 = .ok (.ifCond .eq 16, 3) := by decide +kernel
theorem dX11_year_253 : decode cX11_year 253 = .ok (.aload_n 0, 1) := by decide +kernel
theorem dX11_year_254 : decode cX11_year 254 = .ok (.iload 5, 2) := by decide +kernel
theorem dX11_year_256 : decode cX11_year 256 = .ok (.iload 4, 2) := by decide +kernel
theorem dX11_year_258 : decode cX11_year 258 = .ok (.iload 6, 2) := by decide +kernel
theorem dX11_year_260 : decode cX11_year 260 = .ok (.invokevirtual 342, 3) := by decide +kernel
theorem dX11_year_263 : decode cX11_year 263 = .ok (.ifCond .ne 9, 3) := by decide +kernel
