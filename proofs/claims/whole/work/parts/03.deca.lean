theorem dX0_init_0 : decode cX0_init 0 = .ok (.aload_n 0, 1) := by decide +kernel
theorem dX0_init_1 : decode cX0_init 1 = .ok (.invokespecial 5, 3) := by decide +kernel
theorem dX0_init_4 : decode cX0_init 4 = .ok (.aload_n 0, 1) := by decide +kernel
theorem dX0_init_5 : decode cX0_init 5 = .ok (.bipush 8, 2) := by decide +kernel
theorem dX0_init_7 : decode cX0_init 7 = .ok (.newarray .int, 2) := by decide +kernel
theorem dX0_init_9 : decode cX0_init 9 = .ok (.putfield 13, 3) := by decide +kernel
theorem dX0_init_12 : decode cX0_init 12 = .ok (.aload_n 0, 1) := by decide +kernel
theorem dX0_init_13 : decode cX0_init 13 = .ok (.bipush 64, 2) := by decide +kernel
theorem dX0_init_15 : decode cX0_init 15 = .ok (.newarray .int, 2) := by decide +kernel
theorem dX0_init_17 : decode cX0_init 17 = .ok (.putfield 17, 3) := by decide +kernel
theorem dX0_init_20 : decode cX0_init 20 = .ok (.return_, 1) := by decide +kernel
theorem dX0_askWants_0 : decode cX0_askWants 0 = .ok (.aload_n 1, 1) := by decide +kernel
theorem dX0_askWants_1 : decode cX0_askWants 1 = .ok (.invokevirtual 20, 3) := by decide +kernel
theorem dX0_askWants_4 : decode cX0_askWants 4 = .ok (.astore_n 3, 1) := by decide +kernel
theorem dX0_askWants_5 : decode cX0_askWants 5 = .ok (.aload_n 3, 1) := by decide +kernel
theorem dX0_askWants_6 : decode cX0_askWants 6 = .ok (.ifnonnull 10, 3) := by decide +kernel
theorem dX0_askWants_9 : decode cX0_askWants 9 = .ok (.aload_n 1, 1) := by decide +kernel
theorem dX0_askWants_10 : decode cX0_askWants 10 = .ok (.iconst 0, 1) := by decide +kernel
theorem dX0_askWants_11 : decode cX0_askWants 11 = .ok (.iload_n 2, 1) := by decide +kernel
theorem dX0_askWants_12 : decode cX0_askWants 12 = .ok (.invokevirtual 26, 3) := by decide +kernel
theorem dX0_askWants_15 : decode cX0_askWants 15 = .ok (.ireturn, 1) := by decide +kernel
theorem dX0_askWants_16 : decode cX0_askWants 16 = .ok (.aload_n 0, 1) := by decide +kernel
theorem dX0_askWants_17 : decode cX0_askWants 17 = .ok (.aload_n 1, 1) := by decide +kernel
theorem dX0_askWants_18 : decode cX0_askWants 18 = .ok (.iload_n 2, 1) := by decide +kernel
theorem dX0_askWants_19 : decode cX0_askWants 19 = .ok (.invokevirtual 30, 3) := by decide +kernel
theorem dX0_askWants_22 : decode cX0_askWants 22 = .ok (.aload_n 0, 1) := by decide +kernel
theorem dX0_askWants_23 : decode cX0_askWants 23 = .ok (.getfield 13, 3) := by decide +kernel
theorem dX0_askWants_26 : decode cX0_askWants 26 = .ok (.bipush 6, 2) := by decide +kernel
theorem dX0_askWants_28 : decode cX0_askWants 28 = .ok (.iconst (-1), 1) := by decide +kernel
theorem dX0_askWants_29 : decode cX0_askWants 29 = .ok (.iastore, 1) := by decide +kernel
theorem dX0_askWants_30 : decode cX0_askWants 30 = .ok (.aload_n 0, 1) := by decide +kernel
theorem dX0_askWants_31 : decode cX0_askWants 31 = .ok (.getfield 13, 3) := by decide +kernel
theorem dX0_askWants_34 : decode cX0_askWants 34 = .ok (.bipush 7, 2) := by decide +kernel
theorem dX0_askWants_36 : decode cX0_askWants 36 = .ok (.iconst (-1), 1) := by decide +kernel
theorem dX0_askWants_37 : decode cX0_askWants 37 = .ok (.iastore, 1) := by decide +kernel
theorem dX0_askWants_38 : decode cX0_askWants 38 = .ok (.aload_n 3, 1) := by decide +kernel
theorem dX0_askWants_39 : decode cX0_askWants 39 = .ok (.getfield 34, 3) := by decide +kernel
theorem dX0_askWants_42 : decode cX0_askWants 42 = .ok (.iconst 1, 1) := by decide +kernel
theorem dX0_askWants_43 : decode cX0_askWants 43 = .ok (.isub, 1) := by decide +kernel
theorem dX0_askWants_44 : decode cX0_askWants 44 = .ok (.istore 4, 2) := by decide +kernel
theorem dX0_askWants_46 : decode cX0_askWants 46 = .ok (.iload 4, 2) := by decide +kernel
theorem dX0_askWants_48 : decode cX0_askWants 48 = .ok (.ifCond .lt 52, 3) := by decide +kernel
theorem dX0_askWants_51 : decode cX0_askWants 51 = .ok (.aload_n 3, 1) := by decide +kernel
theorem dX0_askWants_52 : decode cX0_askWants 52 = .ok (.iload 4, 2) := by decide +kernel
theorem dX0_askWants_54 : decode cX0_askWants 54 = .ok (.iconst 0, 1) := by decide +kernel
theorem dX0_askWants_55 : decode cX0_askWants 55 = .ok (.invokevirtual 40, 3) := by decide +kernel
theorem dX0_askWants_58 : decode cX0_askWants 58 = .ok (.iconst 1, 1) := by decide +kernel
theorem dX0_askWants_59 : decode cX0_askWants 59 = .ok (.if_icmp .ne 35, 3) := by decide +kernel
theorem dX0_askWants_62 : decode cX0_askWants 62 = .ok (.aload_n 0, 1) := by decide +kernel
theorem dX0_askWants_63 : decode cX0_askWants 63 = .ok (.aload_n 3, 1) := by decide +kernel
theorem dX0_askWants_64 : decode cX0_askWants 64 = .ok (.iload 4, 2) := by decide +kernel
theorem dX0_askWants_66 : decode cX0_askWants 66 = .ok (.invokevirtual 43, 3) := by decide +kernel
theorem dX0_askWants_69 : decode cX0_askWants 69 = .ok (.lstore 5, 2) := by decide +kernel
theorem dX0_askWants_71 : decode cX0_askWants 71 = .ok (.lload 5, 2) := by decide +kernel
theorem dX0_askWants_73 : decode cX0_askWants 73 = .ok (.ldc2_w 47, 3) := by decide +kernel
theorem dX0_askWants_76 : decode cX0_askWants 76 = .ok (.lcmp, 1) := by decide +kernel
theorem dX0_askWants_77 : decode cX0_askWants 77 = .ok (.ifCond .eq 17, 3) := by decide +kernel
theorem dX0_askWants_80 : decode cX0_askWants 80 = .ok (.lconst 0, 1) := by decide +kernel
theorem dX0_askWants_81 : decode cX0_askWants 81 = .ok (.ldc2_w 49, 3) := by decide +kernel
theorem dX0_askWants_84 : decode cX0_askWants 84 = .ok (.lload 5, 2) := by decide +kernel
theorem dX0_askWants_86 : decode cX0_askWants 86 = .ok (.invokestatic 51, 3) := by decide +kernel
theorem dX0_askWants_89 : decode cX0_askWants 89 = .ok (.invokestatic 57, 3) := by decide +kernel
theorem dX0_askWants_92 : decode cX0_askWants 92 = .ok (.l2i, 1) := by decide +kernel
theorem dX0_askWants_93 : decode cX0_askWants 93 = .ok (.ireturn, 1) := by decide +kernel
theorem dX0_askWants_94 : decode cX0_askWants 94 = .ok (.iinc 4 (-1), 3) := by decide +kernel
theorem dX0_askWants_97 : decode cX0_askWants 97 = .ok (.goto (-51), 3) := by decide +kernel
theorem dX0_askWants_100 : decode cX0_askWants 100 = .ok (.aload_n 1, 1) := by decide +kernel
theorem dX0_askWants_101 : decode cX0_askWants 101 = .ok (.iconst 0, 1) := by decide +kernel
theorem dX0_askWants_102 : decode cX0_askWants 102 = .ok (.iload_n 2, 1) := by decide +kernel
theorem dX0_askWants_103 : decode cX0_askWants 103 = .ok (.invokevirtual 26, 3) := by decide +kernel
theorem dX0_askWants_106 : decode cX0_askWants 106 = .ok (.ireturn, 1) := by decide +kernel
theorem dX0_askWaits_0 : decode cX0_askWaits 0 = .ok (.aload_n 1, 1) := by decide +kernel
theorem dX0_askWaits_1 : decode cX0_askWaits 1 = .ok (.invokevirtual 20, 3) := by decide +kernel
theorem dX0_askWaits_4 : decode cX0_askWaits 4 = .ok (.astore 4, 2) := by decide +kernel
theorem dX0_askWaits_6 : decode cX0_askWaits 6 = .ok (.aload 4, 2) := by decide +kernel
theorem dX0_askWaits_8 : decode cX0_askWaits 8 = .ok (.ifnonnull 5, 3) := by decide +kernel
theorem dX0_askWaits_11 : decode cX0_askWaits 11 = .ok (.iconst 0, 1) := by decide +kernel
theorem dX0_askWaits_12 : decode cX0_askWaits 12 = .ok (.ireturn, 1) := by decide +kernel
theorem dX0_askWaits_13 : decode cX0_askWaits 13 = .ok (.aload_n 0, 1) := by decide +kernel
theorem dX0_askWaits_14 : decode cX0_askWaits 14 = .ok (.aload_n 1, 1) := by decide +kernel
theorem dX0_askWaits_15 : decode cX0_askWaits 15 = .ok (.iload_n 2, 1) := by decide +kernel
theorem dX0_askWaits_16 : decode cX0_askWaits 16 = .ok (.invokevirtual 30, 3) := by decide +kernel
theorem dX0_askWaits_19 : decode cX0_askWaits 19 = .ok (.aload_n 0, 1) := by decide +kernel
theorem dX0_askWaits_20 : decode cX0_askWaits 20 = .ok (.getfield 13, 3) := by decide +kernel
theorem dX0_askWaits_23 : decode cX0_askWaits 23 = .ok (.bipush 6, 2) := by decide +kernel
theorem dX0_askWaits_25 : decode cX0_askWaits 25 = .ok (.iload_n 3, 1) := by decide +kernel
theorem dX0_askWaits_26 : decode cX0_askWaits 26 = .ok (.iastore, 1) := by decide +kernel
theorem dX0_askWaits_27 : decode cX0_askWaits 27 = .ok (.aload_n 0, 1) := by decide +kernel
theorem dX0_askWaits_28 : decode cX0_askWaits 28 = .ok (.getfield 13, 3) := by decide +kernel
theorem dX0_askWaits_31 : decode cX0_askWaits 31 = .ok (.bipush 7, 2) := by decide +kernel
theorem dX0_askWaits_33 : decode cX0_askWaits 33 = .ok (.aload_n 1, 1) := by decide +kernel
theorem dX0_askWaits_34 : decode cX0_askWaits 34 = .ok (.iconst 1, 1) := by decide +kernel
theorem dX0_askWaits_35 : decode cX0_askWaits 35 = .ok (.iload_n 3, 1) := by decide +kernel
theorem dX0_askWaits_36 : decode cX0_askWaits 36 = .ok (.invokevirtual 26, 3) := by decide +kernel
theorem dX0_askWaits_39 : decode cX0_askWaits 39 = .ok (.iastore, 1) := by decide +kernel
theorem dX0_askWaits_40 : decode cX0_askWaits 40 = .ok (.iconst 0, 1) := by decide +kernel
theorem dX0_askWaits_41 : decode cX0_askWaits 41 = .ok (.istore 5, 2) := by decide +kernel
theorem dX0_askWaits_43 : decode cX0_askWaits 43 = .ok (.iload 5, 2) := by decide +kernel
theorem dX0_askWaits_45 : decode cX0_askWaits 45 = .ok (.aload 4, 2) := by decide +kernel
theorem dX0_askWaits_47 : decode cX0_askWaits 47 = .ok (.getfield 34, 3) := by decide +kernel
theorem dX0_askWaits_50 : decode cX0_askWaits 50 = .ok (.if_icmp .ge 37, 3) := by decide +kernel
theorem dX0_askWaits_53 : decode cX0_askWaits 53 = .ok (.aload 4, 2) := by decide +kernel
theorem dX0_askWaits_55 : decode cX0_askWaits 55 = .ok (.iload 5, 2) := by decide +kernel
theorem dX0_askWaits_57 : decode cX0_askWaits 57 = .ok (.iconst 0, 1) := by decide +kernel
theorem dX0_askWaits_58 : decode cX0_askWaits 58 = .ok (.invokevirtual 40, 3) := by decide +kernel
theorem dX0_askWaits_61 : decode cX0_askWaits 61 = .ok (.ifCond .ne 20, 3) := by decide +kernel
theorem dX0_askWaits_64 : decode cX0_askWaits 64 = .ok (.aload_n 0, 1) := by decide +kernel
theorem dX0_askWaits_65 : decode cX0_askWaits 65 = .ok (.aload 4, 2) := by decide +kernel
theorem dX0_askWaits_67 : decode cX0_askWaits 67 = .ok (.iload 5, 2) := by decide +kernel
theorem dX0_askWaits_69 : decode cX0_askWaits 69 = .ok (.invokevirtual 43, 3) := by decide +kernel
theorem dX0_askWaits_72 : decode cX0_askWaits 72 = .ok (.ldc2_w 47, 3) := by decide +kernel
theorem dX0_askWaits_75 : decode cX0_askWaits 75 = .ok (.lcmp, 1) := by decide +kernel
theorem dX0_askWaits_76 : decode cX0_askWaits 76 = .ok (.ifCond .eq 5, 3) := by decide +kernel
theorem dX0_askWaits_79 : decode cX0_askWaits 79 = .ok (.iconst 1, 1) := by decide +kernel
theorem dX0_askWaits_80 : decode cX0_askWaits 80 = .ok (.ireturn, 1) := by decide +kernel
theorem dX0_askWaits_81 : decode cX0_askWaits 81 = .ok (.iinc 5 1, 3) := by decide +kernel
theorem dX0_askWaits_84 : decode cX0_askWaits 84 = .ok (.goto (-41), 3) := by decide +kernel
theorem dX0_askWaits_87 : decode cX0_askWaits 87 = .ok (.iconst 0, 1) := by decide +kernel
theorem dX0_askWaits_88 : decode cX0_askWaits 88 = .ok (.ireturn, 1) := by decide +kernel
theorem dX0_meet_0 : decode cX0_meet 0 = .ok (.aload_n 0, 1) := by decide +kernel
theorem dX0_meet_1 : decode cX0_meet 1 = .ok (.getfield 13, 3) := by decide +kernel
theorem dX0_meet_4 : decode cX0_meet 4 = .ok (.iconst 0, 1) := by decide +kernel
theorem dX0_meet_5 : decode cX0_meet 5 = .ok (.iload_n 2, 1) := by decide +kernel
theorem dX0_meet_6 : decode cX0_meet 6 = .ok (.iastore, 1) := by decide +kernel
theorem dX0_meet_7 : decode cX0_meet 7 = .ok (.aload_n 0, 1) := by decide +kernel
theorem dX0_meet_8 : decode cX0_meet 8 = .ok (.getfield 13, 3) := by decide +kernel
theorem dX0_meet_11 : decode cX0_meet 11 = .ok (.iconst 1, 1) := by decide +kernel
theorem dX0_meet_12 : decode cX0_meet 12 = .ok (.aload_n 1, 1) := by decide +kernel
theorem dX0_meet_13 : decode cX0_meet 13 = .ok (.iconst 0, 1) := by decide +kernel
theorem dX0_meet_14 : decode cX0_meet 14 = .ok (.iload_n 2, 1) := by decide +kernel
theorem dX0_meet_15 : decode cX0_meet 15 = .ok (.invokevirtual 26, 3) := by decide +kernel
theorem dX0_meet_18 : decode cX0_meet 18 = .ok (.iastore, 1) := by decide +kernel
theorem dX0_meet_19 : decode cX0_meet 19 = .ok (.aload_n 0, 1) := by decide +kernel
theorem dX0_meet_20 : decode cX0_meet 20 = .ok (.getfield 13, 3) := by decide +kernel
theorem dX0_meet_23 : decode cX0_meet 23 = .ok (.iconst 2, 1) := by decide +kernel
theorem dX0_meet_24 : decode cX0_meet 24 = .ok (.aload_n 1, 1) := by decide +kernel
theorem dX0_meet_25 : decode cX0_meet 25 = .ok (.iconst 1, 1) := by decide +kernel
theorem dX0_meet_26 : decode cX0_meet 26 = .ok (.iload_n 2, 1) := by decide +kernel
theorem dX0_meet_27 : decode cX0_meet 27 = .ok (.invokevirtual 26, 3) := by decide +kernel
theorem dX0_meet_30 : decode cX0_meet 30 = .ok (.iastore, 1) := by decide +kernel
theorem dX0_meet_31 : decode cX0_meet 31 = .ok (.aload_n 0, 1) := by decide +kernel
theorem dX0_meet_32 : decode cX0_meet 32 = .ok (.getfield 13, 3) := by decide +kernel
theorem dX0_meet_35 : decode cX0_meet 35 = .ok (.iconst 3, 1) := by decide +kernel
theorem dX0_meet_36 : decode cX0_meet 36 = .ok (.aload_n 1, 1) := by decide +kernel
theorem dX0_meet_37 : decode cX0_meet 37 = .ok (.iconst 2, 1) := by decide +kernel
theorem dX0_meet_38 : decode cX0_meet 38 = .ok (.iload_n 2, 1) := by decide +kernel
theorem dX0_meet_39 : decode cX0_meet 39 = .ok (.invokevirtual 26, 3) := by decide +kernel
theorem dX0_meet_42 : decode cX0_meet 42 = .ok (.iastore, 1) := by decide +kernel
theorem dX0_meet_43 : decode cX0_meet 43 = .ok (.aload_n 0, 1) := by decide +kernel
theorem dX0_meet_44 : decode cX0_meet 44 = .ok (.getfield 13, 3) := by decide +kernel
theorem dX0_meet_47 : decode cX0_meet 47 = .ok (.iconst 4, 1) := by decide +kernel
theorem dX0_meet_48 : decode cX0_meet 48 = .ok (.aload_n 1, 1) := by decide +kernel
theorem dX0_meet_49 : decode cX0_meet 49 = .ok (.iconst 3, 1) := by decide +kernel
theorem dX0_meet_50 : decode cX0_meet 50 = .ok (.iload_n 2, 1) := by decide +kernel
theorem dX0_meet_51 : decode cX0_meet 51 = .ok (.invokevirtual 26, 3) := by decide +kernel
theorem dX0_meet_54 : decode cX0_meet 54 = .ok (.iastore, 1) := by decide +kernel
theorem dX0_meet_55 : decode cX0_meet 55 = .ok (.aload_n 0, 1) := by decide +kernel
theorem dX0_meet_56 : decode cX0_meet 56 = .ok (.getfield 13, 3) := by decide +kernel
theorem dX0_meet_59 : decode cX0_meet 59 = .ok (.iconst 5, 1) := by decide +kernel
theorem dX0_meet_60 : decode cX0_meet 60 = .ok (.aload_n 1, 1) := by decide +kernel
theorem dX0_meet_61 : decode cX0_meet 61 = .ok (.getfield 60, 3) := by decide +kernel
theorem dX0_meet_64 : decode cX0_meet 64 = .ok (.iconst 2, 1) := by decide +kernel
theorem dX0_meet_65 : decode cX0_meet 65 = .ok (.iaload, 1) := by decide +kernel
theorem dX0_meet_66 : decode cX0_meet 66 = .ok (.iastore, 1) := by decide +kernel
theorem dX0_meet_67 : decode cX0_meet 67 = .ok (.return_, 1) := by decide +kernel
theorem dX0_told_0 : decode cX0_told 0 = .ok (.aload_n 1, 1) := by decide +kernel
theorem dX0_told_1 : decode cX0_told 1 = .ok (.iload_n 2, 1) := by decide +kernel
theorem dX0_told_2 : decode cX0_told 2 = .ok (.iconst 1, 1) := by decide +kernel
theorem dX0_told_3 : decode cX0_told 3 = .ok (.invokevirtual 40, 3) := by decide +kernel
theorem dX0_told_6 : decode cX0_told 6 = .ok (.istore_n 3, 1) := by decide +kernel
theorem dX0_told_7 : decode cX0_told 7 = .ok (.aload_n 1, 1) := by decide +kernel
theorem dX0_told_8 : decode cX0_told 8 = .ok (.iload_n 2, 1) := by decide +kernel
theorem dX0_told_9 : decode cX0_told 9 = .ok (.iconst 2, 1) := by decide +kernel
theorem dX0_told_10 : decode cX0_told 10 = .ok (.invokevirtual 40, 3) := by decide +kernel
theorem dX0_told_13 : decode cX0_told 13 = .ok (.istore 4, 2) := by decide +kernel
theorem dX0_told_15 : decode cX0_told 15 = .ok (.aload_n 1, 1) := by decide +kernel
theorem dX0_told_16 : decode cX0_told 16 = .ok (.iload_n 2, 1) := by decide +kernel
theorem dX0_told_17 : decode cX0_told 17 = .ok (.iconst 3, 1) := by decide +kernel
theorem dX0_told_18 : decode cX0_told 18 = .ok (.invokevirtual 40, 3) := by decide +kernel
theorem dX0_told_21 : decode cX0_told 21 = .ok (.istore 5, 2) := by decide +kernel
theorem dX0_told_23 : decode cX0_told 23 = .ok (.iload 4, 2) := by decide +kernel
theorem dX0_told_25 : decode cX0_told 25 = .ok (.iload 5, 2) := by decide +kernel
theorem dX0_told_27 : decode cX0_told 27 = .ok (.if_icmp .ge 37, 3) := by decide +kernel
theorem dX0_told_30 : decode cX0_told 30 = .ok (.aload_n 0, 1) := by decide +kernel
theorem dX0_told_31 : decode cX0_told 31 = .ok (.aload_n 1, 1) := by decide +kernel
theorem dX0_told_32 : decode cX0_told 32 = .ok (.getfield 63, 3) := by decide +kernel
theorem dX0_told_35 : decode cX0_told 35 = .ok (.iload 4, 2) := by decide +kernel
theorem dX0_told_37 : decode cX0_told 37 = .ok (.iload 5, 2) := by decide +kernel
theorem dX0_told_39 : decode cX0_told 39 = .ok (.invokevirtual 66, 3) := by decide +kernel
theorem dX0_told_42 : decode cX0_told 42 = .ok (.lstore 6, 2) := by decide +kernel
theorem dX0_told_44 : decode cX0_told 44 = .ok (.lload 6, 2) := by decide +kernel
theorem dX0_told_46 : decode cX0_told 46 = .ok (.ldc2_w 47, 3) := by decide +kernel
theorem dX0_told_49 : decode cX0_told 49 = .ok (.lcmp, 1) := by decide +kernel
theorem dX0_told_50 : decode cX0_told 50 = .ok (.ifCond .eq 10, 3) := by decide +kernel
theorem dX0_told_53 : decode cX0_told 53 = .ok (.lload 6, 2) := by decide +kernel
theorem dX0_told_55 : decode cX0_told 55 = .ok (.lconst 0, 1) := by decide +kernel
theorem dX0_told_56 : decode cX0_told 56 = .ok (.lcmp, 1) := by decide +kernel
theorem dX0_told_57 : decode cX0_told 57 = .ok (.ifCond .ne 7, 3) := by decide +kernel
theorem dX0_told_60 : decode cX0_told 60 = .ok (.ldc2_w 47, 3) := by decide +kernel
theorem dX0_told_63 : decode cX0_told 63 = .ok (.lreturn, 1) := by decide +kernel
theorem dX0_told_64 : decode cX0_told 64 = .ok (.iload_n 3, 1) := by decide +kernel
theorem dX0_told_65 : decode cX0_told 65 = .ok (.iload 4, 2) := by decide +kernel
theorem dX0_told_67 : decode cX0_told 67 = .ok (.if_icmp .ge 17, 3) := by decide +kernel
theorem dX0_told_70 : decode cX0_told 70 = .ok (.aload_n 0, 1) := by decide +kernel
theorem dX0_told_71 : decode cX0_told 71 = .ok (.aload_n 1, 1) := by decide +kernel
theorem dX0_told_72 : decode cX0_told 72 = .ok (.getfield 63, 3) := by decide +kernel
theorem dX0_told_75 : decode cX0_told 75 = .ok (.iload_n 3, 1) := by decide +kernel
theorem dX0_told_76 : decode cX0_told 76 = .ok (.iload 4, 2) := by decide +kernel
theorem dX0_told_78 : decode cX0_told 78 = .ok (.invokevirtual 66, 3) := by decide +kernel
theorem dX0_told_81 : decode cX0_told 81 = .ok (.goto 4, 3) := by decide +kernel
theorem dX0_told_84 : decode cX0_told 84 = .ok (.lconst 0, 1) := by decide +kernel
theorem dX0_told_85 : decode cX0_told 85 = .ok (.lreturn, 1) := by decide +kernel
theorem dX0_work_0 : decode cX0_work 0 = .ok (.iconst 0, 1) := by decide +kernel
theorem dX0_work_1 : decode cX0_work 1 = .ok (.istore 4, 2) := by decide +kernel
theorem dX0_work_3 : decode cX0_work 3 = .ok (.iload_n 2, 1) := by decide +kernel
theorem dX0_work_4 : decode cX0_work 4 = .ok (.istore 5, 2) := by decide +kernel
theorem dX0_work_6 : decode cX0_work 6 = .ok (.iload 5, 2) := by decide +kernel
theorem dX0_work_8 : decode cX0_work 8 = .ok (.iload_n 3, 1) := by decide +kernel
theorem dX0_work_9 : decode cX0_work 9 = .ok (.if_icmp .ge 238, 3) := by decide +kernel
theorem dX0_work_12 : decode cX0_work 12 = .ok (.aload_n 1, 1) := by decide +kernel
theorem dX0_work_13 : decode cX0_work 13 = .ok (.iload 5, 2) := by decide +kernel
theorem dX0_work_15 : decode cX0_work 15 = .ok (.iaload, 1) := by decide +kernel
theorem dX0_work_16 : decode cX0_work 16 = .ok (.bipush 15, 2) := by decide +kernel
theorem dX0_work_18 : decode cX0_work 18 = .ok (.iand, 1) := by decide +kernel
theorem dX0_work_19 : decode cX0_work 19 = .ok (.istore 6, 2) := by decide +kernel
theorem dX0_work_21 : decode cX0_work 21 = .ok (.aload_n 1, 1) := by decide +kernel
theorem dX0_work_22 : decode cX0_work 22 = .ok (.iload 5, 2) := by decide +kernel
theorem dX0_work_24 : decode cX0_work 24 = .ok (.iaload, 1) := by decide +kernel
theorem dX0_work_25 : decode cX0_work 25 = .ok (.iconst 4, 1) := by decide +kernel
theorem dX0_work_26 : decode cX0_work 26 = .ok (.ishr, 1) := by decide +kernel
theorem dX0_work_27 : decode cX0_work 27 = .ok (.istore 7, 2) := by decide +kernel
theorem dX0_work_29 : decode cX0_work 29 = .ok (.iload 6, 2) := by decide +kernel
theorem dX0_work_31 : decode cX0_work 31 = .ok (.iconst 1, 1) := by decide +kernel
theorem dX0_work_32 : decode cX0_work 32 = .ok (.if_icmp .gt 47, 3) := by decide +kernel
theorem dX0_work_35 : decode cX0_work 35 = .ok (.iload 4, 2) := by decide +kernel
theorem dX0_work_37 : decode cX0_work 37 = .ok (.bipush 64, 2) := by decide +kernel
theorem dX0_work_39 : decode cX0_work 39 = .ok (.if_icmp .lt 7, 3) := by decide +kernel
theorem dX0_work_42 : decode cX0_work 42 = .ok (.ldc2_w 47, 3) := by decide +kernel
theorem dX0_work_45 : decode cX0_work 45 = .ok (.lreturn, 1) := by decide +kernel
theorem dX0_work_46 : decode cX0_work 46 = .ok (.aload_n 0, 1) := by decide +kernel
theorem dX0_work_47 : decode cX0_work 47 = .ok (.getfield 17, 3) := by decide +kernel
theorem dX0_work_50 : decode cX0_work 50 = .ok (.iload 4, 2) := by decide +kernel
theorem dX0_work_52 : decode cX0_work 52 = .ok (.iload 6, 2) := by decide +kernel
theorem dX0_work_54 : decode cX0_work 54 = .ok (.ifCond .ne 8, 3) := by decide +kernel
theorem dX0_work_57 : decode cX0_work 57 = .ok (.iload 7, 2) := by decide +kernel
theorem dX0_work_59 : decode cX0_work 59 = .ok (.goto 13, 3) := by decide +kernel
theorem dX0_work_62 : decode cX0_work 62 = .ok (.aload_n 0, 1) := by decide +kernel
theorem dX0_work_63 : decode cX0_work 63 = .ok (.getfield 13, 3) := by decide +kernel
theorem dX0_work_66 : decode cX0_work 66 = .ok (.iload 7, 2) := by decide +kernel
theorem dX0_work_68 : decode cX0_work 68 = .ok (.bipush 7, 2) := by decide +kernel
theorem dX0_work_70 : decode cX0_work 70 = .ok (.iand, 1) := by decide +kernel
theorem dX0_work_71 : decode cX0_work 71 = .ok (.iaload, 1) := by decide +kernel
theorem dX0_work_72 : decode cX0_work 72 = .ok (.iastore, 1) := by decide +kernel
theorem dX0_work_73 : decode cX0_work 73 = .ok (.iinc 4 1, 3) := by decide +kernel
theorem dX0_work_76 : decode cX0_work 76 = .ok (.goto 165, 3) := by decide +kernel
theorem dX0_work_79 : decode cX0_work 79 = .ok (.iload 6, 2) := by decide +kernel
theorem dX0_work_81 : decode cX0_work 81 = .ok (.bipush 9, 2) := by decide +kernel
theorem dX0_work_83 : decode cX0_work 83 = .ok (.if_icmp .ge 80, 3) := by decide +kernel
theorem dX0_work_86 : decode cX0_work 86 = .ok (.iload 4, 2) := by decide +kernel
theorem dX0_work_88 : decode cX0_work 88 = .ok (.iconst 2, 1) := by decide +kernel
theorem dX0_work_89 : decode cX0_work 89 = .ok (.if_icmp .ge 7, 3) := by decide +kernel
theorem dX0_work_92 : decode cX0_work 92 = .ok (.ldc2_w 47, 3) := by decide +kernel
theorem dX0_work_95 : decode cX0_work 95 = .ok (.lreturn, 1) := by decide +kernel
theorem dX0_work_96 : decode cX0_work 96 = .ok (.iload 6, 2) := by decide +kernel
theorem dX0_work_98 : decode cX0_work 98 = .ok (.aload_n 0, 1) := by decide +kernel
theorem dX0_work_99 : decode cX0_work 99 = .ok (.getfield 17, 3) := by decide +kernel
theorem dX0_work_102 : decode cX0_work 102 = .ok (.iload 4, 2) := by decide +kernel
theorem dX0_work_104 : decode cX0_work 104 = .ok (.iconst 2, 1) := by decide +kernel
theorem dX0_work_105 : decode cX0_work 105 = .ok (.isub, 1) := by decide +kernel
theorem dX0_work_106 : decode cX0_work 106 = .ok (.iaload, 1) := by decide +kernel
theorem dX0_work_107 : decode cX0_work 107 = .ok (.i2l, 1) := by decide +kernel
theorem dX0_work_108 : decode cX0_work 108 = .ok (.aload_n 0, 1) := by decide +kernel
theorem dX0_work_109 : decode cX0_work 109 = .ok (.getfield 17, 3) := by decide +kernel
theorem dX0_work_112 : decode cX0_work 112 = .ok (.iload 4, 2) := by decide +kernel
theorem dX0_work_114 : decode cX0_work 114 = .ok (.iconst 1, 1) := by decide +kernel
theorem dX0_work_115 : decode cX0_work 115 = .ok (.isub, 1) := by decide +kernel
theorem dX0_work_116 : decode cX0_work 116 = .ok (.iaload, 1) := by decide +kernel
theorem dX0_work_117 : decode cX0_work 117 = .ok (.i2l, 1) := by decide +kernel
theorem dX0_work_118 : decode cX0_work 118 = .ok (.invokestatic 70, 3) := by decide +kernel
theorem dX0_work_121 : decode cX0_work 121 = .ok (.lstore 8, 2) := by decide +kernel
theorem dX0_work_123 : decode cX0_work 123 = .ok (.lload 8, 2) := by decide +kernel
theorem dX0_work_125 : decode cX0_work 125 = .ok (.ldc2_w 74, 3) := by decide +kernel
theorem dX0_work_128 : decode cX0_work 128 = .ok (.lcmp, 1) := by decide +kernel
theorem dX0_work_129 : decode cX0_work 129 = .ok (.ifCond .gt 12, 3) := by decide +kernel
theorem dX0_work_132 : decode cX0_work 132 = .ok (.lload 8, 2) := by decide +kernel
theorem dX0_work_134 : decode cX0_work 134 = .ok (.ldc2_w 76, 3) := by decide +kernel
theorem dX0_work_137 : decode cX0_work 137 = .ok (.lcmp, 1) := by decide +kernel
theorem dX0_work_138 : decode cX0_work 138 = .ok (.ifCond .ge 7, 3) := by decide +kernel
theorem dX0_work_141 : decode cX0_work 141 = .ok (.ldc2_w 47, 3) := by decide +kernel
theorem dX0_work_144 : decode cX0_work 144 = .ok (.lreturn, 1) := by decide +kernel
theorem dX0_work_145 : decode cX0_work 145 = .ok (.iinc 4 (-1), 3) := by decide +kernel
theorem dX0_work_148 : decode cX0_work 148 = .ok (.aload_n 0, 1) := by decide +kernel
theorem dX0_work_149 : decode cX0_work 149 = .ok (.getfield 17, 3) := by decide +kernel
theorem dX0_work_152 : decode cX0_work 152 = .ok (.iload 4, 2) := by decide +kernel
theorem dX0_work_154 : decode cX0_work 154 = .ok (.iconst 1, 1) := by decide +kernel
theorem dX0_work_155 : decode cX0_work 155 = .ok (.isub, 1) := by decide +kernel
theorem dX0_work_156 : decode cX0_work 156 = .ok (.lload 8, 2) := by decide +kernel
theorem dX0_work_158 : decode cX0_work 158 = .ok (.l2i, 1) := by decide +kernel
theorem dX0_work_159 : decode cX0_work 159 = .ok (.iastore, 1) := by decide +kernel
theorem dX0_work_160 : decode cX0_work 160 = .ok (.goto 81, 3) := by decide +kernel
theorem dX0_work_163 : decode cX0_work 163 = .ok (.iload 4, 2) := by decide +kernel
theorem dX0_work_165 : decode cX0_work 165 = .ok (.iconst 1, 1) := by decide +kernel
theorem dX0_work_166 : decode cX0_work 166 = .ok (.if_icmp .ge 7, 3) := by decide +kernel
theorem dX0_work_169 : decode cX0_work 169 = .ok (.ldc2_w 47, 3) := by decide +kernel
theorem dX0_work_172 : decode cX0_work 172 = .ok (.lreturn, 1) := by decide +kernel
theorem dX0_work_173 : decode cX0_work 173 = .ok (.aload_n 0, 1) := by decide +kernel
theorem dX0_work_174 : decode cX0_work 174 = .ok (.getfield 17, 3) := by decide +kernel
theorem dX0_work_177 : decode cX0_work 177 = .ok (.iload 4, 2) := by decide +kernel
theorem dX0_work_179 : decode cX0_work 179 = .ok (.iconst 1, 1) := by decide +kernel
theorem dX0_work_180 : decode cX0_work 180 = .ok (.isub, 1) := by decide +kernel
theorem dX0_work_181 : decode cX0_work 181 = .ok (.iaload, 1) := by decide +kernel
theorem dX0_work_182 : decode cX0_work 182 = .ok (.istore 8, 2) := by decide +kernel
theorem dX0_work_184 : decode cX0_work 184 = .ok (.iload 6, 2) := by decide +kernel
theorem dX0_work_186 : decode cX0_work 186 = .ok (.bipush 9, 2) := by decide +kernel
theorem dX0_work_188 : decode cX0_work 188 = .ok (.if_icmp .ne 19, 3) := by decide +kernel
theorem dX0_work_191 : decode cX0_work 191 = .ok (.aload_n 0, 1) := by decide +kernel
theorem dX0_work_192 : decode cX0_work 192 = .ok (.getfield 17, 3) := by decide +kernel
theorem dX0_work_195 : decode cX0_work 195 = .ok (.iload 4, 2) := by decide +kernel
theorem dX0_work_197 : decode cX0_work 197 = .ok (.iconst 1, 1) := by decide +kernel
theorem dX0_work_198 : decode cX0_work 198 = .ok (.isub, 1) := by decide +kernel
theorem dX0_work_199 : decode cX0_work 199 = .ok (.iconst 1, 1) := by decide +kernel
theorem dX0_work_200 : decode cX0_work 200 = .ok (.iload 8, 2) := by decide +kernel
theorem dX0_work_202 : decode cX0_work 202 = .ok (.isub, 1) := by decide +kernel
theorem dX0_work_203 : decode cX0_work 203 = .ok (.iastore, 1) := by decide +kernel
theorem dX0_work_204 : decode cX0_work 204 = .ok (.goto 37, 3) := by decide +kernel
theorem dX0_work_207 : decode cX0_work 207 = .ok (.iload 8, 2) := by decide +kernel
theorem dX0_work_209 : decode cX0_work 209 = .ok (.iload 6, 2) := by decide +kernel
theorem dX0_work_211 : decode cX0_work 211 = .ok (.bipush 10, 2) := by decide +kernel
theorem dX0_work_213 : decode cX0_work 213 = .ok (.if_icmp .ne 7, 3) := by decide +kernel
theorem dX0_work_216 : decode cX0_work 216 = .ok (.iconst 1, 1) := by decide +kernel
theorem dX0_work_217 : decode cX0_work 217 = .ok (.goto 4, 3) := by decide +kernel
theorem dX0_work_220 : decode cX0_work 220 = .ok (.iconst 0, 1) := by decide +kernel
theorem dX0_work_221 : decode cX0_work 221 = .ok (.if_icmp .ne 17, 3) := by decide +kernel
theorem dX0_work_224 : decode cX0_work 224 = .ok (.iload 5, 2) := by decide +kernel
theorem dX0_work_226 : decode cX0_work 226 = .ok (.iload 7, 2) := by decide +kernel
theorem dX0_work_228 : decode cX0_work 228 = .ok (.iconst 1, 1) := by decide +kernel
theorem dX0_work_229 : decode cX0_work 229 = .ok (.isub, 1) := by decide +kernel
theorem dX0_work_230 : decode cX0_work 230 = .ok (.invokestatic 78, 3) := by decide +kernel
theorem dX0_work_233 : decode cX0_work 233 = .ok (.istore 5, 2) := by decide +kernel
theorem dX0_work_235 : decode cX0_work 235 = .ok (.goto 6, 3) := by decide +kernel
theorem dX0_work_238 : decode cX0_work 238 = .ok (.iinc 4 (-1), 3) := by decide +kernel
theorem dX0_work_241 : decode cX0_work 241 = .ok (.iinc 5 1, 3) := by decide +kernel
theorem dX0_work_244 : decode cX0_work 244 = .ok (.goto (-238), 3) := by decide +kernel
theorem dX0_work_247 : decode cX0_work 247 = .ok (.iload 4, 2) := by decide +kernel
theorem dX0_work_249 : decode cX0_work 249 = .ok (.ifCond .le 16, 3) := by decide +kernel
theorem dX0_work_252 : decode cX0_work 252 = .ok (.aload_n 0, 1) := by decide +kernel
theorem dX0_work_253 : decode cX0_work 253 = .ok (.getfield 17, 3) := by decide +kernel
theorem dX0_work_256 : decode cX0_work 256 = .ok (.iload 4, 2) := by decide +kernel
theorem dX0_work_258 : decode cX0_work 258 = .ok (.iconst 1, 1) := by decide +kernel
theorem dX0_work_259 : decode cX0_work 259 = .ok (.isub, 1) := by decide +kernel
theorem dX0_work_260 : decode cX0_work 260 = .ok (.iaload, 1) := by decide +kernel
theorem dX0_work_261 : decode cX0_work 261 = .ok (.i2l, 1) := by decide +kernel
theorem dX0_work_262 : decode cX0_work 262 = .ok (.goto 6, 3) := by decide +kernel
theorem dX0_work_265 : decode cX0_work 265 = .ok (.ldc2_w 47, 3) := by decide +kernel
theorem dX0_work_268 : decode cX0_work 268 = .ok (.lreturn, 1) := by decide +kernel
theorem dX0_joined_0 : decode cX0_joined 0 = .ok (.iload_n 0, 1) := by decide +kernel
theorem dX0_joined_1 : decode cX0_joined 1 = .ok (.tableswitch 107 2 8 #[43, 47, 51, 55, 71, 83, 95], 43) := by decide +kernel
theorem dX0_joined_44 : decode cX0_joined 44 = .ok (.lload_n 1, 1) := by decide +kernel
theorem dX0_joined_45 : decode cX0_joined 45 = .ok (.lload_n 3, 1) := by decide +kernel
theorem dX0_joined_46 : decode cX0_joined 46 = .ok (.ladd, 1) := by decide +kernel
theorem dX0_joined_47 : decode cX0_joined 47 = .ok (.lreturn, 1) := by decide +kernel
theorem dX0_joined_48 : decode cX0_joined 48 = .ok (.lload_n 1, 1) := by decide +kernel
theorem dX0_joined_49 : decode cX0_joined 49 = .ok (.lload_n 3, 1) := by decide +kernel
theorem dX0_joined_50 : decode cX0_joined 50 = .ok (.lsub, 1) := by decide +kernel
theorem dX0_joined_51 : decode cX0_joined 51 = .ok (.lreturn, 1) := by decide +kernel
theorem dX0_joined_52 : decode cX0_joined 52 = .ok (.lload_n 1, 1) := by decide +kernel
theorem dX0_joined_53 : decode cX0_joined 53 = .ok (.lload_n 3, 1) := by decide +kernel
theorem dX0_joined_54 : decode cX0_joined 54 = .ok (.lmul, 1) := by decide +kernel
theorem dX0_joined_55 : decode cX0_joined 55 = .ok (.lreturn, 1) := by decide +kernel
theorem dX0_joined_56 : decode cX0_joined 56 = .ok (.lload_n 3, 1) := by decide +kernel
theorem dX0_joined_57 : decode cX0_joined 57 = .ok (.lconst 0, 1) := by decide +kernel
theorem dX0_joined_58 : decode cX0_joined 58 = .ok (.lcmp, 1) := by decide +kernel
theorem dX0_joined_59 : decode cX0_joined 59 = .ok (.ifCond .ne 9, 3) := by decide +kernel
theorem dX0_joined_62 : decode cX0_joined 62 = .ok (.ldc2_w 47, 3) := by decide +kernel
theorem dX0_joined_65 : decode cX0_joined 65 = .ok (.goto 6, 3) := by decide +kernel
theorem dX0_joined_68 : decode cX0_joined 68 = .ok (.lload_n 1, 1) := by decide +kernel
theorem dX0_joined_69 : decode cX0_joined 69 = .ok (.lload_n 3, 1) := by decide +kernel
theorem dX0_joined_70 : decode cX0_joined 70 = .ok (.ldiv, 1) := by decide +kernel
theorem dX0_joined_71 : decode cX0_joined 71 = .ok (.lreturn, 1) := by decide +kernel
theorem dX0_joined_72 : decode cX0_joined 72 = .ok (.lload_n 1, 1) := by decide +kernel
theorem dX0_joined_73 : decode cX0_joined 73 = .ok (.lload_n 3, 1) := by decide +kernel
theorem dX0_joined_74 : decode cX0_joined 74 = .ok (.lcmp, 1) := by decide +kernel
theorem dX0_joined_75 : decode cX0_joined 75 = .ok (.ifCond .ge 7, 3) := by decide +kernel
theorem dX0_joined_78 : decode cX0_joined 78 = .ok (.lconst 1, 1) := by decide +kernel
theorem dX0_joined_79 : decode cX0_joined 79 = .ok (.goto 4, 3) := by decide +kernel
theorem dX0_joined_82 : decode cX0_joined 82 = .ok (.lconst 0, 1) := by decide +kernel
theorem dX0_joined_83 : decode cX0_joined 83 = .ok (.lreturn, 1) := by decide +kernel
theorem dX0_joined_84 : decode cX0_joined 84 = .ok (.lload_n 1, 1) := by decide +kernel
theorem dX0_joined_85 : decode cX0_joined 85 = .ok (.lload_n 3, 1) := by decide +kernel
theorem dX0_joined_86 : decode cX0_joined 86 = .ok (.lcmp, 1) := by decide +kernel
theorem dX0_joined_87 : decode cX0_joined 87 = .ok (.ifCond .le 7, 3) := by decide +kernel
theorem dX0_joined_90 : decode cX0_joined 90 = .ok (.lconst 1, 1) := by decide +kernel
theorem dX0_joined_91 : decode cX0_joined 91 = .ok (.goto 4, 3) := by decide +kernel
theorem dX0_joined_94 : decode cX0_joined 94 = .ok (.lconst 0, 1) := by decide +kernel
theorem dX0_joined_95 : decode cX0_joined 95 = .ok (.lreturn, 1) := by decide +kernel
theorem dX0_joined_96 : decode cX0_joined 96 = .ok (.lload_n 1, 1) := by decide +kernel
theorem dX0_joined_97 : decode cX0_joined 97 = .ok (.lload_n 3, 1) := by decide +kernel
theorem dX0_joined_98 : decode cX0_joined 98 = .ok (.lcmp, 1) := by decide +kernel
theorem dX0_joined_99 : decode cX0_joined 99 = .ok (.ifCond .ne 7, 3) := by decide +kernel
theorem dX0_joined_102 : decode cX0_joined 102 = .ok (.lconst 1, 1) := by decide +kernel
theorem dX0_joined_103 : decode cX0_joined 103 = .ok (.goto 4, 3) := by decide +kernel
theorem dX0_joined_106 : decode cX0_joined 106 = .ok (.lconst 0, 1) := by decide +kernel
theorem dX0_joined_107 : decode cX0_joined 107 = .ok (.lreturn, 1) := by decide +kernel
theorem dX0_joined_108 : decode cX0_joined 108 = .ok (.ldc2_w 47, 3) := by decide +kernel
theorem dX0_joined_111 : decode cX0_joined 111 = .ok (.lreturn, 1) := by decide +kernel
theorem dX1_init_0 : decode cX1_init 0 = .ok (.aload_n 0, 1) := by decide +kernel
theorem dX1_init_1 : decode cX1_init 1 = .ok (.invokespecial 3, 3) := by decide +kernel
theorem dX1_init_4 : decode cX1_init 4 = .ok (.aload_n 0, 1) := by decide +kernel
theorem dX1_init_5 : decode cX1_init 5 = .ok (.bipush 40, 2) := by decide +kernel
theorem dX1_init_7 : decode cX1_init 7 = .ok (.newarray .int, 2) := by decide +kernel
theorem dX1_init_9 : decode cX1_init 9 = .ok (.putfield 9, 3) := by decide +kernel
theorem dX1_init_12 : decode cX1_init 12 = .ok (.aload_n 0, 1) := by decide +kernel
theorem dX1_init_13 : decode cX1_init 13 = .ok (.iconst 5, 1) := by decide +kernel
theorem dX1_init_14 : decode cX1_init 14 = .ok (.newarray .int, 2) := by decide +kernel
theorem dX1_init_16 : decode cX1_init 16 = .ok (.dup, 1) := by decide +kernel
theorem dX1_init_17 : decode cX1_init 17 = .ok (.iconst 0, 1) := by decide +kernel
theorem dX1_init_18 : decode cX1_init 18 = .ok (.bipush 13, 2) := by decide +kernel
theorem dX1_init_20 : decode cX1_init 20 = .ok (.iastore, 1) := by decide +kernel
theorem dX1_init_21 : decode cX1_init 21 = .ok (.dup, 1) := by decide +kernel
theorem dX1_init_22 : decode cX1_init 22 = .ok (.iconst 1, 1) := by decide +kernel
theorem dX1_init_23 : decode cX1_init 23 = .ok (.iconst 0, 1) := by decide +kernel
theorem dX1_init_24 : decode cX1_init 24 = .ok (.iastore, 1) := by decide +kernel
theorem dX1_init_25 : decode cX1_init 25 = .ok (.dup, 1) := by decide +kernel
theorem dX1_init_26 : decode cX1_init 26 = .ok (.iconst 2, 1) := by decide +kernel
theorem dX1_init_27 : decode cX1_init 27 = .ok (.iconst 0, 1) := by decide +kernel
theorem dX1_init_28 : decode cX1_init 28 = .ok (.iastore, 1) := by decide +kernel
theorem dX1_init_29 : decode cX1_init 29 = .ok (.dup, 1) := by decide +kernel
theorem dX1_init_30 : decode cX1_init 30 = .ok (.iconst 3, 1) := by decide +kernel
theorem dX1_init_31 : decode cX1_init 31 = .ok (.iconst 0, 1) := by decide +kernel
theorem dX1_init_32 : decode cX1_init 32 = .ok (.iastore, 1) := by decide +kernel
theorem dX1_init_33 : decode cX1_init 33 = .ok (.dup, 1) := by decide +kernel
theorem dX1_init_34 : decode cX1_init 34 = .ok (.iconst 4, 1) := by decide +kernel
theorem dX1_init_35 : decode cX1_init 35 = .ok (.iconst 0, 1) := by decide +kernel
theorem dX1_init_36 : decode cX1_init 36 = .ok (.iastore, 1) := by decide +kernel
theorem dX1_init_37 : decode cX1_init 37 = .ok (.putfield 15, 3) := by decide +kernel
theorem dX1_init_40 : decode cX1_init 40 = .ok (.aload_n 0, 1) := by decide +kernel
theorem dX1_init_41 : decode cX1_init 41 = .ok (.bipush 6, 2) := by decide +kernel
theorem dX1_init_43 : decode cX1_init 43 = .ok (.anewarray 18, 3) := by decide +kernel
theorem dX1_init_46 : decode cX1_init 46 = .ok (.putfield 20, 3) := by decide +kernel
theorem dX1_init_49 : decode cX1_init 49 = .ok (.aload_n 0, 1) := by decide +kernel
theorem dX1_init_50 : decode cX1_init 50 = .ok (.new 24, 3) := by decide +kernel
theorem dX1_init_53 : decode cX1_init 53 = .ok (.dup, 1) := by decide +kernel
theorem dX1_init_54 : decode cX1_init 54 = .ok (.invokespecial 26, 3) := by decide +kernel
theorem dX1_init_57 : decode cX1_init 57 = .ok (.putfield 27, 3) := by decide +kernel
theorem dX1_init_60 : decode cX1_init 60 = .ok (.aload_n 0, 1) := by decide +kernel
theorem dX1_init_61 : decode cX1_init 61 = .ok (.new 24, 3) := by decide +kernel
theorem dX1_init_64 : decode cX1_init 64 = .ok (.dup, 1) := by decide +kernel
theorem dX1_init_65 : decode cX1_init 65 = .ok (.invokespecial 26, 3) := by decide +kernel
theorem dX1_init_68 : decode cX1_init 68 = .ok (.putfield 31, 3) := by decide +kernel
theorem dX1_init_71 : decode cX1_init 71 = .ok (.aload_n 0, 1) := by decide +kernel
theorem dX1_init_72 : decode cX1_init 72 = .ok (.iconst (-1), 1) := by decide +kernel
theorem dX1_init_73 : decode cX1_init 73 = .ok (.putfield 34, 3) := by decide +kernel
theorem dX1_init_76 : decode cX1_init 76 = .ok (.return_, 1) := by decide +kernel
theorem dX1_knows_0 : decode cX1_knows 0 = .ok (.iload_n 1, 1) := by decide +kernel
theorem dX1_knows_1 : decode cX1_knows 1 = .ok (.ifCond .lt 15, 3) := by decide +kernel
theorem dX1_knows_4 : decode cX1_knows 4 = .ok (.iload_n 1, 1) := by decide +kernel
theorem dX1_knows_5 : decode cX1_knows 5 = .ok (.aload_n 0, 1) := by decide +kernel
theorem dX1_knows_6 : decode cX1_knows 6 = .ok (.getfield 38, 3) := by decide +kernel
theorem dX1_knows_9 : decode cX1_knows 9 = .ok (.if_icmp .ge 7, 3) := by decide +kernel
theorem dX1_knows_12 : decode cX1_knows 12 = .ok (.iconst 1, 1) := by decide +kernel
theorem dX1_knows_13 : decode cX1_knows 13 = .ok (.goto 4, 3) := by decide +kernel
theorem dX1_knows_16 : decode cX1_knows 16 = .ok (.iconst 0, 1) := by decide +kernel
theorem dX1_knows_17 : decode cX1_knows 17 = .ok (.ireturn, 1) := by decide +kernel
theorem dX1_trait_0 : decode cX1_trait 0 = .ok (.aload_n 0, 1) := by decide +kernel
theorem dX1_trait_1 : decode cX1_trait 1 = .ok (.getfield 9, 3) := by decide +kernel
theorem dX1_trait_4 : decode cX1_trait 4 = .ok (.iload_n 1, 1) := by decide +kernel
theorem dX1_trait_5 : decode cX1_trait 5 = .ok (.bipush 8, 2) := by decide +kernel
theorem dX1_trait_7 : decode cX1_trait 7 = .ok (.imul, 1) := by decide +kernel
theorem dX1_trait_8 : decode cX1_trait 8 = .ok (.iload_n 2, 1) := by decide +kernel
theorem dX1_trait_9 : decode cX1_trait 9 = .ok (.iadd, 1) := by decide +kernel
theorem dX1_trait_10 : decode cX1_trait 10 = .ok (.iaload, 1) := by decide +kernel
theorem dX1_trait_11 : decode cX1_trait 11 = .ok (.ireturn, 1) := by decide +kernel
theorem dX1_setTrait_0 : decode cX1_setTrait 0 = .ok (.aload_n 0, 1) := by decide +kernel
theorem dX1_setTrait_1 : decode cX1_setTrait 1 = .ok (.getfield 9, 3) := by decide +kernel
theorem dX1_setTrait_4 : decode cX1_setTrait 4 = .ok (.iload_n 1, 1) := by decide +kernel
theorem dX1_setTrait_5 : decode cX1_setTrait 5 = .ok (.bipush 8, 2) := by decide +kernel
theorem dX1_setTrait_7 : decode cX1_setTrait 7 = .ok (.imul, 1) := by decide +kernel
theorem dX1_setTrait_8 : decode cX1_setTrait 8 = .ok (.iload_n 2, 1) := by decide +kernel
theorem dX1_setTrait_9 : decode cX1_setTrait 9 = .ok (.iadd, 1) := by decide +kernel
theorem dX1_setTrait_10 : decode cX1_setTrait 10 = .ok (.iload_n 3, 1) := by decide +kernel
theorem dX1_setTrait_11 : decode cX1_setTrait 11 = .ok (.iastore, 1) := by decide +kernel
theorem dX1_setTrait_12 : decode cX1_setTrait 12 = .ok (.return_, 1) := by decide +kernel
theorem dX1_ovenOf_0 : decode cX1_ovenOf 0 = .ok (.aload_n 0, 1) := by decide +kernel
theorem dX1_ovenOf_1 : decode cX1_ovenOf 1 = .ok (.iconst 2, 1) := by decide +kernel
theorem dX1_ovenOf_2 : decode cX1_ovenOf 2 = .ok (.iload_n 1, 1) := by decide +kernel
theorem dX1_ovenOf_3 : decode cX1_ovenOf 3 = .ok (.invokevirtual 41, 3) := by decide +kernel
theorem dX1_ovenOf_6 : decode cX1_ovenOf 6 = .ok (.ireturn, 1) := by decide +kernel
theorem dX1_welcome_0 : decode cX1_welcome 0 = .ok (.aload_n 0, 1) := by decide +kernel
theorem dX1_welcome_1 : decode cX1_welcome 1 = .ok (.getfield 38, 3) := by decide +kernel
theorem dX1_welcome_4 : decode cX1_welcome 4 = .ok (.istore 4, 2) := by decide +kernel
theorem dX1_welcome_6 : decode cX1_welcome 6 = .ok (.aload_n 0, 1) := by decide +kernel
theorem dX1_welcome_7 : decode cX1_welcome 7 = .ok (.iconst 0, 1) := by decide +kernel
theorem dX1_welcome_8 : decode cX1_welcome 8 = .ok (.iload 4, 2) := by decide +kernel
theorem dX1_welcome_10 : decode cX1_welcome 10 = .ok (.iload_n 1, 1) := by decide +kernel
theorem dX1_welcome_11 : decode cX1_welcome 11 = .ok (.invokevirtual 45, 3) := by decide +kernel
theorem dX1_welcome_14 : decode cX1_welcome 14 = .ok (.aload_n 0, 1) := by decide +kernel
theorem dX1_welcome_15 : decode cX1_welcome 15 = .ok (.iconst 1, 1) := by decide +kernel
theorem dX1_welcome_16 : decode cX1_welcome 16 = .ok (.iload 4, 2) := by decide +kernel
theorem dX1_welcome_18 : decode cX1_welcome 18 = .ok (.iload_n 2, 1) := by decide +kernel
theorem dX1_welcome_19 : decode cX1_welcome 19 = .ok (.invokevirtual 45, 3) := by decide +kernel
theorem dX1_welcome_22 : decode cX1_welcome 22 = .ok (.aload_n 0, 1) := by decide +kernel
theorem dX1_welcome_23 : decode cX1_welcome 23 = .ok (.iconst 2, 1) := by decide +kernel
theorem dX1_welcome_24 : decode cX1_welcome 24 = .ok (.iload 4, 2) := by decide +kernel
theorem dX1_welcome_26 : decode cX1_welcome 26 = .ok (.iload_n 3, 1) := by decide +kernel
theorem dX1_welcome_27 : decode cX1_welcome 27 = .ok (.invokevirtual 45, 3) := by decide +kernel
theorem dX1_welcome_30 : decode cX1_welcome 30 = .ok (.aload_n 0, 1) := by decide +kernel
theorem dX1_welcome_31 : decode cX1_welcome 31 = .ok (.iconst 3, 1) := by decide +kernel
theorem dX1_welcome_32 : decode cX1_welcome 32 = .ok (.iload 4, 2) := by decide +kernel
theorem dX1_welcome_34 : decode cX1_welcome 34 = .ok (.iconst 0, 1) := by decide +kernel
theorem dX1_welcome_35 : decode cX1_welcome 35 = .ok (.invokevirtual 45, 3) := by decide +kernel
theorem dX1_welcome_38 : decode cX1_welcome 38 = .ok (.aload_n 0, 1) := by decide +kernel
theorem dX1_welcome_39 : decode cX1_welcome 39 = .ok (.iconst 4, 1) := by decide +kernel
theorem dX1_welcome_40 : decode cX1_welcome 40 = .ok (.iload 4, 2) := by decide +kernel
theorem dX1_welcome_42 : decode cX1_welcome 42 = .ok (.iconst 0, 1) := by decide +kernel
theorem dX1_welcome_43 : decode cX1_welcome 43 = .ok (.invokevirtual 45, 3) := by decide +kernel
theorem dX1_welcome_46 : decode cX1_welcome 46 = .ok (.aload_n 0, 1) := by decide +kernel
theorem dX1_welcome_47 : decode cX1_welcome 47 = .ok (.dup, 1) := by decide +kernel
theorem dX1_welcome_48 : decode cX1_welcome 48 = .ok (.getfield 38, 3) := by decide +kernel
theorem dX1_welcome_51 : decode cX1_welcome 51 = .ok (.iconst 1, 1) := by decide +kernel
theorem dX1_welcome_52 : decode cX1_welcome 52 = .ok (.iadd, 1) := by decide +kernel
theorem dX1_welcome_53 : decode cX1_welcome 53 = .ok (.putfield 38, 3) := by decide +kernel
theorem dX1_welcome_56 : decode cX1_welcome 56 = .ok (.iload 4, 2) := by decide +kernel
theorem dX1_welcome_58 : decode cX1_welcome 58 = .ok (.ireturn, 1) := by decide +kernel
theorem dX1_lawInForce_0 : decode cX1_lawInForce 0 = .ok (.aload_n 0, 1) := by decide +kernel
theorem dX1_lawInForce_1 : decode cX1_lawInForce 1 = .ok (.getfield 34, 3) := by decide +kernel
theorem dX1_lawInForce_4 : decode cX1_lawInForce 4 = .ok (.ifCond .lt 26, 3) := by decide +kernel
theorem dX1_lawInForce_7 : decode cX1_lawInForce 7 = .ok (.aload_n 0, 1) := by decide +kernel
theorem dX1_lawInForce_8 : decode cX1_lawInForce 8 = .ok (.getfield 34, 3) := by decide +kernel
theorem dX1_lawInForce_11 : decode cX1_lawInForce 11 = .ok (.aload_n 0, 1) := by decide +kernel
theorem dX1_lawInForce_12 : decode cX1_lawInForce 12 = .ok (.getfield 49, 3) := by decide +kernel
theorem dX1_lawInForce_15 : decode cX1_lawInForce 15 = .ok (.if_icmp .ge 15, 3) := by decide +kernel
theorem dX1_lawInForce_18 : decode cX1_lawInForce 18 = .ok (.aload_n 0, 1) := by decide +kernel
theorem dX1_lawInForce_19 : decode cX1_lawInForce 19 = .ok (.getfield 20, 3) := by decide +kernel
theorem dX1_lawInForce_22 : decode cX1_lawInForce 22 = .ok (.aload_n 0, 1) := by decide +kernel
theorem dX1_lawInForce_23 : decode cX1_lawInForce 23 = .ok (.getfield 34, 3) := by decide +kernel
theorem dX1_lawInForce_26 : decode cX1_lawInForce 26 = .ok (.aaload, 1) := by decide +kernel
theorem dX1_lawInForce_27 : decode cX1_lawInForce 27 = .ok (.goto 4, 3) := by decide +kernel
theorem dX1_lawInForce_30 : decode cX1_lawInForce 30 = .ok (.aconst_null, 1) := by decide +kernel
theorem dX1_lawInForce_31 : decode cX1_lawInForce 31 = .ok (.areturn, 1) := by decide +kernel
theorem dX1_round_0 : decode cX1_round 0 = .ok (.aload_n 0, 1) := by decide +kernel
theorem dX1_round_1 : decode cX1_round 1 = .ok (.getfield 15, 3) := by decide +kernel
theorem dX1_round_4 : decode cX1_round 4 = .ok (.iconst 1, 1) := by decide +kernel
theorem dX1_round_5 : decode cX1_round 5 = .ok (.iaload, 1) := by decide +kernel
theorem dX1_round_6 : decode cX1_round 6 = .ok (.ifCond .ne 12, 3) := by decide +kernel
theorem dX1_round_9 : decode cX1_round 9 = .ok (.aload_n 0, 1) := by decide +kernel
theorem dX1_round_10 : decode cX1_round 10 = .ok (.getfield 15, 3) := by decide +kernel
theorem dX1_round_13 : decode cX1_round 13 = .ok (.iconst 0, 1) := by decide +kernel
theorem dX1_round_14 : decode cX1_round 14 = .ok (.iaload, 1) := by decide +kernel
theorem dX1_round_15 : decode cX1_round 15 = .ok (.goto 18, 3) := by decide +kernel
theorem dX1_round_18 : decode cX1_round 18 = .ok (.aload_n 0, 1) := by decide +kernel
theorem dX1_round_19 : decode cX1_round 19 = .ok (.getfield 15, 3) := by decide +kernel
theorem dX1_round_22 : decode cX1_round 22 = .ok (.iconst 1, 1) := by decide +kernel
theorem dX1_round_23 : decode cX1_round 23 = .ok (.iaload, 1) := by decide +kernel
theorem dX1_round_24 : decode cX1_round 24 = .ok (.aload_n 0, 1) := by decide +kernel
theorem dX1_round_25 : decode cX1_round 25 = .ok (.getfield 15, 3) := by decide +kernel
theorem dX1_round_28 : decode cX1_round 28 = .ok (.iconst 0, 1) := by decide +kernel
theorem dX1_round_29 : decode cX1_round 29 = .ok (.iaload, 1) := by decide +kernel
theorem dX1_round_30 : decode cX1_round 30 = .ok (.imul, 1) := by decide +kernel
theorem dX1_round_31 : decode cX1_round 31 = .ok (.iconst 1, 1) := by decide +kernel
theorem dX1_round_32 : decode cX1_round 32 = .ok (.iadd, 1) := by decide +kernel
theorem dX1_round_33 : decode cX1_round 33 = .ok (.ireturn, 1) := by decide +kernel
theorem dX1_blessedAmong_0 : decode cX1_blessedAmong 0 = .ok (.aload_n 0, 1) := by decide +kernel
theorem dX1_blessedAmong_1 : decode cX1_blessedAmong 1 = .ok (.getfield 15, 3) := by decide +kernel
theorem dX1_blessedAmong_4 : decode cX1_blessedAmong 4 = .ok (.iconst 0, 1) := by decide +kernel
theorem dX1_blessedAmong_5 : decode cX1_blessedAmong 5 = .ok (.iaload, 1) := by decide +kernel
theorem dX1_blessedAmong_6 : decode cX1_blessedAmong 6 = .ok (.istore_n 2, 1) := by decide +kernel
theorem dX1_blessedAmong_7 : decode cX1_blessedAmong 7 = .ok (.aload_n 0, 1) := by decide +kernel
theorem dX1_blessedAmong_8 : decode cX1_blessedAmong 8 = .ok (.getfield 15, 3) := by decide +kernel
theorem dX1_blessedAmong_11 : decode cX1_blessedAmong 11 = .ok (.iconst 1, 1) := by decide +kernel
theorem dX1_blessedAmong_12 : decode cX1_blessedAmong 12 = .ok (.iaload, 1) := by decide +kernel
theorem dX1_blessedAmong_13 : decode cX1_blessedAmong 13 = .ok (.istore_n 3, 1) := by decide +kernel
theorem dX1_blessedAmong_14 : decode cX1_blessedAmong 14 = .ok (.iload_n 1, 1) := by decide +kernel
theorem dX1_blessedAmong_15 : decode cX1_blessedAmong 15 = .ok (.iconst 1, 1) := by decide +kernel
theorem dX1_blessedAmong_16 : decode cX1_blessedAmong 16 = .ok (.if_icmp .lt 8, 3) := by decide +kernel
theorem dX1_blessedAmong_19 : decode cX1_blessedAmong 19 = .ok (.iload_n 2, 1) := by decide +kernel
theorem dX1_blessedAmong_20 : decode cX1_blessedAmong 20 = .ok (.iconst 1, 1) := by decide +kernel
theorem dX1_blessedAmong_21 : decode cX1_blessedAmong 21 = .ok (.if_icmp .ge 5, 3) := by decide +kernel
theorem dX1_blessedAmong_24 : decode cX1_blessedAmong 24 = .ok (.iconst 0, 1) := by decide +kernel
theorem dX1_blessedAmong_25 : decode cX1_blessedAmong 25 = .ok (.ireturn, 1) := by decide +kernel
theorem dX1_blessedAmong_26 : decode cX1_blessedAmong 26 = .ok (.iload_n 3, 1) := by decide +kernel
theorem dX1_blessedAmong_27 : decode cX1_blessedAmong 27 = .ok (.iconst 1, 1) := by decide +kernel
theorem dX1_blessedAmong_28 : decode cX1_blessedAmong 28 = .ok (.if_icmp .ge 7, 3) := by decide +kernel
theorem dX1_blessedAmong_31 : decode cX1_blessedAmong 31 = .ok (.iload_n 1, 1) := by decide +kernel
theorem dX1_blessedAmong_32 : decode cX1_blessedAmong 32 = .ok (.iload_n 2, 1) := by decide +kernel
theorem dX1_blessedAmong_33 : decode cX1_blessedAmong 33 = .ok (.idiv, 1) := by decide +kernel
theorem dX1_blessedAmong_34 : decode cX1_blessedAmong 34 = .ok (.ireturn, 1) := by decide +kernel
theorem dX1_blessedAmong_35 : decode cX1_blessedAmong 35 = .ok (.iload_n 3, 1) := by decide +kernel
theorem dX1_blessedAmong_36 : decode cX1_blessedAmong 36 = .ok (.iload_n 2, 1) := by decide +kernel
theorem dX1_blessedAmong_37 : decode cX1_blessedAmong 37 = .ok (.imul, 1) := by decide +kernel
theorem dX1_blessedAmong_38 : decode cX1_blessedAmong 38 = .ok (.iconst 1, 1) := by decide +kernel
theorem dX1_blessedAmong_39 : decode cX1_blessedAmong 39 = .ok (.iadd, 1) := by decide +kernel
theorem dX1_blessedAmong_40 : decode cX1_blessedAmong 40 = .ok (.istore 4, 2) := by decide +kernel
theorem dX1_blessedAmong_42 : decode cX1_blessedAmong 42 = .ok (.iload_n 1, 1) := by decide +kernel
theorem dX1_blessedAmong_43 : decode cX1_blessedAmong 43 = .ok (.iload 4, 2) := by decide +kernel
theorem dX1_blessedAmong_45 : decode cX1_blessedAmong 45 = .ok (.idiv, 1) := by decide +kernel
theorem dX1_blessedAmong_46 : decode cX1_blessedAmong 46 = .ok (.iload_n 3, 1) := by decide +kernel
theorem dX1_blessedAmong_47 : decode cX1_blessedAmong 47 = .ok (.imul, 1) := by decide +kernel
theorem dX1_blessedAmong_48 : decode cX1_blessedAmong 48 = .ok (.iload_n 1, 1) := by decide +kernel
theorem dX1_blessedAmong_49 : decode cX1_blessedAmong 49 = .ok (.iload 4, 2) := by decide +kernel
theorem dX1_blessedAmong_51 : decode cX1_blessedAmong 51 = .ok (.irem, 1) := by decide +kernel
theorem dX1_blessedAmong_52 : decode cX1_blessedAmong 52 = .ok (.iload_n 2, 1) := by decide +kernel
theorem dX1_blessedAmong_53 : decode cX1_blessedAmong 53 = .ok (.idiv, 1) := by decide +kernel
theorem dX1_blessedAmong_54 : decode cX1_blessedAmong 54 = .ok (.iload_n 3, 1) := by decide +kernel
theorem dX1_blessedAmong_55 : decode cX1_blessedAmong 55 = .ok (.iconst 1, 1) := by decide +kernel
theorem dX1_blessedAmong_56 : decode cX1_blessedAmong 56 = .ok (.isub, 1) := by decide +kernel
theorem dX1_blessedAmong_57 : decode cX1_blessedAmong 57 = .ok (.invokestatic 52, 3) := by decide +kernel
theorem dX1_blessedAmong_60 : decode cX1_blessedAmong 60 = .ok (.iadd, 1) := by decide +kernel
theorem dX1_blessedAmong_61 : decode cX1_blessedAmong 61 = .ok (.ireturn, 1) := by decide +kernel
theorem dX1_blessedBetween_0 : decode cX1_blessedBetween 0 = .ok (.aload_n 0, 1) := by decide +kernel
theorem dX1_blessedBetween_1 : decode cX1_blessedBetween 1 = .ok (.iload_n 1, 1) := by decide +kernel
theorem dX1_blessedBetween_2 : decode cX1_blessedBetween 2 = .ok (.iload_n 2, 1) := by decide +kernel
theorem dX1_blessedBetween_3 : decode cX1_blessedBetween 3 = .ok (.iadd, 1) := by decide +kernel
theorem dX1_blessedBetween_4 : decode cX1_blessedBetween 4 = .ok (.invokevirtual 57, 3) := by decide +kernel
theorem dX1_blessedBetween_7 : decode cX1_blessedBetween 7 = .ok (.aload_n 0, 1) := by decide +kernel
theorem dX1_blessedBetween_8 : decode cX1_blessedBetween 8 = .ok (.iload_n 1, 1) := by decide +kernel
theorem dX1_blessedBetween_9 : decode cX1_blessedBetween 9 = .ok (.invokevirtual 57, 3) := by decide +kernel
theorem dX1_blessedBetween_12 : decode cX1_blessedBetween 12 = .ok (.isub, 1) := by decide +kernel
theorem dX1_blessedBetween_13 : decode cX1_blessedBetween 13 = .ok (.ireturn, 1) := by decide +kernel
theorem dX1_goBy_0 : decode cX1_goBy 0 = .ok (.aload_n 0, 1) := by decide +kernel
theorem dX1_goBy_1 : decode cX1_goBy 1 = .ok (.getfield 15, 3) := by decide +kernel
theorem dX1_goBy_4 : decode cX1_goBy 4 = .ok (.iconst 3, 1) := by decide +kernel
theorem dX1_goBy_5 : decode cX1_goBy 5 = .ok (.iaload, 1) := by decide +kernel
theorem dX1_goBy_6 : decode cX1_goBy 6 = .ok (.istore 4, 2) := by decide +kernel
theorem dX1_goBy_8 : decode cX1_goBy 8 = .ok (.aload_n 0, 1) := by decide +kernel
theorem dX1_goBy_9 : decode cX1_goBy 9 = .ok (.getfield 15, 3) := by decide +kernel
theorem dX1_goBy_12 : decode cX1_goBy 12 = .ok (.iconst 4, 1) := by decide +kernel
theorem dX1_goBy_13 : decode cX1_goBy 13 = .ok (.iaload, 1) := by decide +kernel
theorem dX1_goBy_14 : decode cX1_goBy 14 = .ok (.istore 5, 2) := by decide +kernel
theorem dX1_goBy_16 : decode cX1_goBy 16 = .ok (.iconst 0, 1) := by decide +kernel
theorem dX1_goBy_17 : decode cX1_goBy 17 = .ok (.istore 6, 2) := by decide +kernel
theorem dX1_goBy_19 : decode cX1_goBy 19 = .ok (.aload_n 0, 1) := by decide +kernel
theorem dX1_goBy_20 : decode cX1_goBy 20 = .ok (.getfield 15, 3) := by decide +kernel
theorem dX1_goBy_23 : decode cX1_goBy 23 = .ok (.iconst 2, 1) := by decide +kernel
theorem dX1_goBy_24 : decode cX1_goBy 24 = .ok (.iaload, 1) := by decide +kernel
theorem dX1_goBy_25 : decode cX1_goBy 25 = .ok (.getstatic 61, 3) := by decide +kernel
theorem dX1_goBy_28 : decode cX1_goBy 28 = .ok (.iconst 2, 1) := by decide +kernel
theorem dX1_goBy_29 : decode cX1_goBy 29 = .ok (.iaload, 1) := by decide +kernel
theorem dX1_goBy_30 : decode cX1_goBy 30 = .ok (.if_icmp .ge 7, 3) := by decide +kernel
theorem dX1_goBy_33 : decode cX1_goBy 33 = .ok (.iconst 1, 1) := by decide +kernel
theorem dX1_goBy_34 : decode cX1_goBy 34 = .ok (.goto 4, 3) := by decide +kernel
theorem dX1_goBy_37 : decode cX1_goBy 37 = .ok (.iconst 0, 1) := by decide +kernel
theorem dX1_goBy_38 : decode cX1_goBy 38 = .ok (.istore 7, 2) := by decide +kernel
theorem dX1_goBy_40 : decode cX1_goBy 40 = .ok (.iconst 0, 1) := by decide +kernel
theorem dX1_goBy_41 : decode cX1_goBy 41 = .ok (.istore 8, 2) := by decide +kernel
theorem dX1_goBy_43 : decode cX1_goBy 43 = .ok (.iload 8, 2) := by decide +kernel
theorem dX1_goBy_45 : decode cX1_goBy 45 = .ok (.aload_n 0, 1) := by decide +kernel
theorem dX1_goBy_46 : decode cX1_goBy 46 = .ok (.getfield 38, 3) := by decide +kernel
theorem dX1_goBy_49 : decode cX1_goBy 49 = .ok (.if_icmp .ge 153, 3) := by decide +kernel
theorem dX1_goBy_52 : decode cX1_goBy 52 = .ok (.aload_n 2, 1) := by decide +kernel
theorem dX1_goBy_53 : decode cX1_goBy 53 = .ok (.iload 8, 2) := by decide +kernel
theorem dX1_goBy_55 : decode cX1_goBy 55 = .ok (.iaload, 1) := by decide +kernel
theorem dX1_goBy_56 : decode cX1_goBy 56 = .ok (.istore 9, 2) := by decide +kernel
theorem dX1_goBy_58 : decode cX1_goBy 58 = .ok (.aload_n 1, 1) := by decide +kernel
theorem dX1_goBy_59 : decode cX1_goBy 59 = .ok (.getfield 64, 3) := by decide +kernel
theorem dX1_goBy_62 : decode cX1_goBy 62 = .ok (.iload 9, 2) := by decide +kernel
theorem dX1_goBy_64 : decode cX1_goBy 64 = .ok (.iaload, 1) := by decide +kernel
theorem dX1_goBy_65 : decode cX1_goBy 65 = .ok (.istore 10, 2) := by decide +kernel
theorem dX1_goBy_67 : decode cX1_goBy 67 = .ok (.aload_n 0, 1) := by decide +kernel
theorem dX1_goBy_68 : decode cX1_goBy 68 = .ok (.iload 9, 2) := by decide +kernel
theorem dX1_goBy_70 : decode cX1_goBy 70 = .ok (.invokevirtual 69, 3) := by decide +kernel
theorem dX1_goBy_73 : decode cX1_goBy 73 = .ok (.ifCond .ne 7, 3) := by decide +kernel
theorem dX1_goBy_76 : decode cX1_goBy 76 = .ok (.iconst 1, 1) := by decide +kernel
theorem dX1_goBy_77 : decode cX1_goBy 77 = .ok (.goto 4, 3) := by decide +kernel
theorem dX1_goBy_80 : decode cX1_goBy 80 = .ok (.iconst 0, 1) := by decide +kernel
theorem dX1_goBy_81 : decode cX1_goBy 81 = .ok (.istore 11, 2) := by decide +kernel
theorem dX1_goBy_83 : decode cX1_goBy 83 = .ok (.aload_n 0, 1) := by decide +kernel
theorem dX1_goBy_84 : decode cX1_goBy 84 = .ok (.iload 11, 2) := by decide +kernel
theorem dX1_goBy_86 : decode cX1_goBy 86 = .ok (.ifCond .eq 8, 3) := by decide +kernel
theorem dX1_goBy_89 : decode cX1_goBy 89 = .ok (.iload 4, 2) := by decide +kernel
theorem dX1_goBy_91 : decode cX1_goBy 91 = .ok (.goto 5, 3) := by decide +kernel
theorem dX1_goBy_94 : decode cX1_goBy 94 = .ok (.iload 5, 2) := by decide +kernel
theorem dX1_goBy_96 : decode cX1_goBy 96 = .ok (.iload 10, 2) := by decide +kernel
theorem dX1_goBy_98 : decode cX1_goBy 98 = .ok (.invokevirtual 72, 3) := by decide +kernel
theorem dX1_goBy_101 : decode cX1_goBy 101 = .ok (.istore 12, 2) := by decide +kernel
theorem dX1_goBy_103 : decode cX1_goBy 103 = .ok (.iload 4, 2) := by decide +kernel
theorem dX1_goBy_105 : decode cX1_goBy 105 = .ok (.iload 11, 2) := by decide +kernel
theorem dX1_goBy_107 : decode cX1_goBy 107 = .ok (.ifCond .eq 8, 3) := by decide +kernel
theorem dX1_goBy_110 : decode cX1_goBy 110 = .ok (.iload 10, 2) := by decide +kernel
theorem dX1_goBy_112 : decode cX1_goBy 112 = .ok (.goto 4, 3) := by decide +kernel
theorem dX1_goBy_115 : decode cX1_goBy 115 = .ok (.iconst 0, 1) := by decide +kernel
theorem dX1_goBy_116 : decode cX1_goBy 116 = .ok (.iadd, 1) := by decide +kernel
theorem dX1_goBy_117 : decode cX1_goBy 117 = .ok (.istore 4, 2) := by decide +kernel
theorem dX1_goBy_119 : decode cX1_goBy 119 = .ok (.iload 5, 2) := by decide +kernel
theorem dX1_goBy_121 : decode cX1_goBy 121 = .ok (.iload 11, 2) := by decide +kernel
theorem dX1_goBy_123 : decode cX1_goBy 123 = .ok (.ifCond .eq 7, 3) := by decide +kernel
theorem dX1_goBy_126 : decode cX1_goBy 126 = .ok (.iconst 0, 1) := by decide +kernel
theorem dX1_goBy_127 : decode cX1_goBy 127 = .ok (.goto 5, 3) := by decide +kernel
theorem dX1_goBy_130 : decode cX1_goBy 130 = .ok (.iload 10, 2) := by decide +kernel
theorem dX1_goBy_132 : decode cX1_goBy 132 = .ok (.iadd, 1) := by decide +kernel
theorem dX1_goBy_133 : decode cX1_goBy 133 = .ok (.istore 5, 2) := by decide +kernel
theorem dX1_goBy_135 : decode cX1_goBy 135 = .ok (.aload_n 3, 1) := by decide +kernel
theorem dX1_goBy_136 : decode cX1_goBy 136 = .ok (.iload 9, 2) := by decide +kernel
theorem dX1_goBy_138 : decode cX1_goBy 138 = .ok (.iload 12, 2) := by decide +kernel
theorem dX1_goBy_140 : decode cX1_goBy 140 = .ok (.iastore, 1) := by decide +kernel
theorem dX1_goBy_141 : decode cX1_goBy 141 = .ok (.iload 6, 2) := by decide +kernel
theorem dX1_goBy_143 : decode cX1_goBy 143 = .ok (.iload 12, 2) := by decide +kernel
theorem dX1_goBy_145 : decode cX1_goBy 145 = .ok (.iadd, 1) := by decide +kernel
theorem dX1_goBy_146 : decode cX1_goBy 146 = .ok (.istore 6, 2) := by decide +kernel
theorem dX1_goBy_148 : decode cX1_goBy 148 = .ok (.iload 7, 2) := by decide +kernel
theorem dX1_goBy_150 : decode cX1_goBy 150 = .ok (.ifCond .eq 43, 3) := by decide +kernel
theorem dX1_goBy_153 : decode cX1_goBy 153 = .ok (.aload_n 0, 1) := by decide +kernel
theorem dX1_goBy_154 : decode cX1_goBy 154 = .ok (.iconst 3, 1) := by decide +kernel
theorem dX1_goBy_155 : decode cX1_goBy 155 = .ok (.iload 9, 2) := by decide +kernel
theorem dX1_goBy_157 : decode cX1_goBy 157 = .ok (.invokevirtual 41, 3) := by decide +kernel
theorem dX1_goBy_160 : decode cX1_goBy 160 = .ok (.iload 12, 2) := by decide +kernel
theorem dX1_goBy_162 : decode cX1_goBy 162 = .ok (.iadd, 1) := by decide +kernel
theorem dX1_goBy_163 : decode cX1_goBy 163 = .ok (.getstatic 75, 3) := by decide +kernel
theorem dX1_goBy_166 : decode cX1_goBy 166 = .ok (.iconst 3, 1) := by decide +kernel
theorem dX1_goBy_167 : decode cX1_goBy 167 = .ok (.iaload, 1) := by decide +kernel
theorem dX1_goBy_168 : decode cX1_goBy 168 = .ok (.if_icmp .gt 25, 3) := by decide +kernel
theorem dX1_goBy_171 : decode cX1_goBy 171 = .ok (.aload_n 0, 1) := by decide +kernel
theorem dX1_goBy_172 : decode cX1_goBy 172 = .ok (.iconst 4, 1) := by decide +kernel
theorem dX1_goBy_173 : decode cX1_goBy 173 = .ok (.iload 9, 2) := by decide +kernel
theorem dX1_goBy_175 : decode cX1_goBy 175 = .ok (.invokevirtual 41, 3) := by decide +kernel
theorem dX1_goBy_178 : decode cX1_goBy 178 = .ok (.iload 10, 2) := by decide +kernel
theorem dX1_goBy_180 : decode cX1_goBy 180 = .ok (.iadd, 1) := by decide +kernel
theorem dX1_goBy_181 : decode cX1_goBy 181 = .ok (.getstatic 75, 3) := by decide +kernel
theorem dX1_goBy_184 : decode cX1_goBy 184 = .ok (.iconst 4, 1) := by decide +kernel
theorem dX1_goBy_185 : decode cX1_goBy 185 = .ok (.iaload, 1) := by decide +kernel
theorem dX1_goBy_186 : decode cX1_goBy 186 = .ok (.if_icmp .gt 7, 3) := by decide +kernel
theorem dX1_goBy_189 : decode cX1_goBy 189 = .ok (.iconst 1, 1) := by decide +kernel
theorem dX1_goBy_190 : decode cX1_goBy 190 = .ok (.goto 4, 3) := by decide +kernel
theorem dX1_goBy_193 : decode cX1_goBy 193 = .ok (.iconst 0, 1) := by decide +kernel
theorem dX1_goBy_194 : decode cX1_goBy 194 = .ok (.istore 7, 2) := by decide +kernel
theorem dX1_goBy_196 : decode cX1_goBy 196 = .ok (.iinc 8 1, 3) := by decide +kernel
theorem dX1_goBy_199 : decode cX1_goBy 199 = .ok (.goto (-156), 3) := by decide +kernel
theorem dX1_goBy_202 : decode cX1_goBy 202 = .ok (.iload 7, 2) := by decide +kernel
theorem dX1_goBy_204 : decode cX1_goBy 204 = .ok (.ifCond .eq 23, 3) := by decide +kernel
theorem dX1_goBy_207 : decode cX1_goBy 207 = .ok (.iload 4, 2) := by decide +kernel
theorem dX1_goBy_209 : decode cX1_goBy 209 = .ok (.getstatic 61, 3) := by decide +kernel
theorem dX1_goBy_212 : decode cX1_goBy 212 = .ok (.iconst 3, 1) := by decide +kernel
theorem dX1_goBy_213 : decode cX1_goBy 213 = .ok (.iaload, 1) := by decide +kernel
theorem dX1_goBy_214 : decode cX1_goBy 214 = .ok (.if_icmp .gt 13, 3) := by decide +kernel
theorem dX1_goBy_217 : decode cX1_goBy 217 = .ok (.iload 5, 2) := by decide +kernel
theorem dX1_goBy_219 : decode cX1_goBy 219 = .ok (.getstatic 61, 3) := by decide +kernel
theorem dX1_goBy_222 : decode cX1_goBy 222 = .ok (.iconst 4, 1) := by decide +kernel
theorem dX1_goBy_223 : decode cX1_goBy 223 = .ok (.iaload, 1) := by decide +kernel
theorem dX1_goBy_224 : decode cX1_goBy 224 = .ok (.if_icmp .le 5, 3) := by decide +kernel
theorem dX1_goBy_227 : decode cX1_goBy 227 = .ok (.iconst (-1), 1) := by decide +kernel
theorem dX1_goBy_228 : decode cX1_goBy 228 = .ok (.ireturn, 1) := by decide +kernel
theorem dX1_goBy_229 : decode cX1_goBy 229 = .ok (.iconst 0, 1) := by decide +kernel
theorem dX1_goBy_230 : decode cX1_goBy 230 = .ok (.istore 8, 2) := by decide +kernel
theorem dX1_goBy_232 : decode cX1_goBy 232 = .ok (.iload 8, 2) := by decide +kernel
theorem dX1_goBy_234 : decode cX1_goBy 234 = .ok (.aload_n 0, 1) := by decide +kernel
theorem dX1_goBy_235 : decode cX1_goBy 235 = .ok (.getfield 38, 3) := by decide +kernel
theorem dX1_goBy_238 : decode cX1_goBy 238 = .ok (.if_icmp .ge 50, 3) := by decide +kernel
theorem dX1_goBy_241 : decode cX1_goBy 241 = .ok (.aload_n 0, 1) := by decide +kernel
theorem dX1_goBy_242 : decode cX1_goBy 242 = .ok (.iconst 3, 1) := by decide +kernel
theorem dX1_goBy_243 : decode cX1_goBy 243 = .ok (.iload 8, 2) := by decide +kernel
theorem dX1_goBy_245 : decode cX1_goBy 245 = .ok (.aload_n 0, 1) := by decide +kernel
theorem dX1_goBy_246 : decode cX1_goBy 246 = .ok (.iconst 3, 1) := by decide +kernel
theorem dX1_goBy_247 : decode cX1_goBy 247 = .ok (.iload 8, 2) := by decide +kernel
theorem dX1_goBy_249 : decode cX1_goBy 249 = .ok (.invokevirtual 41, 3) := by decide +kernel
theorem dX1_goBy_252 : decode cX1_goBy 252 = .ok (.aload_n 3, 1) := by decide +kernel
theorem dX1_goBy_253 : decode cX1_goBy 253 = .ok (.iload 8, 2) := by decide +kernel
theorem dX1_goBy_255 : decode cX1_goBy 255 = .ok (.iaload, 1) := by decide +kernel
theorem dX1_goBy_256 : decode cX1_goBy 256 = .ok (.iadd, 1) := by decide +kernel
theorem dX1_goBy_257 : decode cX1_goBy 257 = .ok (.invokevirtual 45, 3) := by decide +kernel
theorem dX1_goBy_260 : decode cX1_goBy 260 = .ok (.aload_n 0, 1) := by decide +kernel
theorem dX1_goBy_261 : decode cX1_goBy 261 = .ok (.iconst 4, 1) := by decide +kernel
theorem dX1_goBy_262 : decode cX1_goBy 262 = .ok (.iload 8, 2) := by decide +kernel
theorem dX1_goBy_264 : decode cX1_goBy 264 = .ok (.aload_n 0, 1) := by decide +kernel
theorem dX1_goBy_265 : decode cX1_goBy 265 = .ok (.iconst 4, 1) := by decide +kernel
theorem dX1_goBy_266 : decode cX1_goBy 266 = .ok (.iload 8, 2) := by decide +kernel
theorem dX1_goBy_268 : decode cX1_goBy 268 = .ok (.invokevirtual 41, 3) := by decide +kernel
theorem dX1_goBy_271 : decode cX1_goBy 271 = .ok (.aload_n 1, 1) := by decide +kernel
theorem dX1_goBy_272 : decode cX1_goBy 272 = .ok (.getfield 64, 3) := by decide +kernel
theorem dX1_goBy_275 : decode cX1_goBy 275 = .ok (.iload 8, 2) := by decide +kernel
theorem dX1_goBy_277 : decode cX1_goBy 277 = .ok (.iaload, 1) := by decide +kernel
theorem dX1_goBy_278 : decode cX1_goBy 278 = .ok (.iadd, 1) := by decide +kernel
theorem dX1_goBy_279 : decode cX1_goBy 279 = .ok (.invokevirtual 45, 3) := by decide +kernel
theorem dX1_goBy_282 : decode cX1_goBy 282 = .ok (.iinc 8 1, 3) := by decide +kernel
theorem dX1_goBy_285 : decode cX1_goBy 285 = .ok (.goto (-53), 3) := by decide +kernel
theorem dX1_goBy_288 : decode cX1_goBy 288 = .ok (.aload_n 0, 1) := by decide +kernel
theorem dX1_goBy_289 : decode cX1_goBy 289 = .ok (.getfield 15, 3) := by decide +kernel
theorem dX1_goBy_292 : decode cX1_goBy 292 = .ok (.iconst 3, 1) := by decide +kernel
theorem dX1_goBy_293 : decode cX1_goBy 293 = .ok (.iload 4, 2) := by decide +kernel
theorem dX1_goBy_295 : decode cX1_goBy 295 = .ok (.iastore, 1) := by decide +kernel
theorem dX1_goBy_296 : decode cX1_goBy 296 = .ok (.aload_n 0, 1) := by decide +kernel
theorem dX1_goBy_297 : decode cX1_goBy 297 = .ok (.getfield 15, 3) := by decide +kernel
theorem dX1_goBy_300 : decode cX1_goBy 300 = .ok (.iconst 4, 1) := by decide +kernel
theorem dX1_goBy_301 : decode cX1_goBy 301 = .ok (.iload 5, 2) := by decide +kernel
theorem dX1_goBy_303 : decode cX1_goBy 303 = .ok (.iastore, 1) := by decide +kernel
theorem dX1_goBy_304 : decode cX1_goBy 304 = .ok (.aload_n 0, 1) := by decide +kernel
theorem dX1_goBy_305 : decode cX1_goBy 305 = .ok (.getfield 15, 3) := by decide +kernel
theorem dX1_goBy_308 : decode cX1_goBy 308 = .ok (.iconst 2, 1) := by decide +kernel
theorem dX1_goBy_309 : decode cX1_goBy 309 = .ok (.dup2, 1) := by decide +kernel
theorem dX1_goBy_310 : decode cX1_goBy 310 = .ok (.iaload, 1) := by decide +kernel
theorem dX1_goBy_311 : decode cX1_goBy 311 = .ok (.iconst 1, 1) := by decide +kernel
theorem dX1_goBy_312 : decode cX1_goBy 312 = .ok (.iadd, 1) := by decide +kernel
theorem dX1_goBy_313 : decode cX1_goBy 313 = .ok (.iastore, 1) := by decide +kernel
theorem dX1_goBy_314 : decode cX1_goBy 314 = .ok (.iload 6, 2) := by decide +kernel
theorem dX1_goBy_316 : decode cX1_goBy 316 = .ok (.ireturn, 1) := by decide +kernel
theorem dX1_copyFrom_0 : decode cX1_copyFrom 0 = .ok (.aload_n 1, 1) := by decide +kernel
theorem dX1_copyFrom_1 : decode cX1_copyFrom 1 = .ok (.getfield 9, 3) := by decide +kernel
theorem dX1_copyFrom_4 : decode cX1_copyFrom 4 = .ok (.iconst 0, 1) := by decide +kernel
theorem dX1_copyFrom_5 : decode cX1_copyFrom 5 = .ok (.aload_n 0, 1) := by decide +kernel
theorem dX1_copyFrom_6 : decode cX1_copyFrom 6 = .ok (.getfield 9, 3) := by decide +kernel
theorem dX1_copyFrom_9 : decode cX1_copyFrom 9 = .ok (.iconst 0, 1) := by decide +kernel
theorem dX1_copyFrom_10 : decode cX1_copyFrom 10 = .ok (.aload_n 0, 1) := by decide +kernel
theorem dX1_copyFrom_11 : decode cX1_copyFrom 11 = .ok (.getfield 9, 3) := by decide +kernel
theorem dX1_copyFrom_14 : decode cX1_copyFrom 14 = .ok (.arraylength, 1) := by decide +kernel
theorem dX1_copyFrom_15 : decode cX1_copyFrom 15 = .ok (.invokestatic 78, 3) := by decide +kernel
theorem dX1_copyFrom_18 : decode cX1_copyFrom 18 = .ok (.aload_n 1, 1) := by decide +kernel
theorem dX1_copyFrom_19 : decode cX1_copyFrom 19 = .ok (.getfield 15, 3) := by decide +kernel
theorem dX1_copyFrom_22 : decode cX1_copyFrom 22 = .ok (.iconst 0, 1) := by decide +kernel
theorem dX1_copyFrom_23 : decode cX1_copyFrom 23 = .ok (.aload_n 0, 1) := by decide +kernel
theorem dX1_copyFrom_24 : decode cX1_copyFrom 24 = .ok (.getfield 15, 3) := by decide +kernel
theorem dX1_copyFrom_27 : decode cX1_copyFrom 27 = .ok (.iconst 0, 1) := by decide +kernel
theorem dX1_copyFrom_28 : decode cX1_copyFrom 28 = .ok (.iconst 5, 1) := by decide +kernel
theorem dX1_copyFrom_29 : decode cX1_copyFrom 29 = .ok (.invokestatic 78, 3) := by decide +kernel
theorem dX1_copyFrom_32 : decode cX1_copyFrom 32 = .ok (.iconst 0, 1) := by decide +kernel
theorem dX1_copyFrom_33 : decode cX1_copyFrom 33 = .ok (.istore_n 2, 1) := by decide +kernel
theorem dX1_copyFrom_34 : decode cX1_copyFrom 34 = .ok (.iload_n 2, 1) := by decide +kernel
theorem dX1_copyFrom_35 : decode cX1_copyFrom 35 = .ok (.bipush 6, 2) := by decide +kernel
theorem dX1_copyFrom_37 : decode cX1_copyFrom 37 = .ok (.if_icmp .ge 21, 3) := by decide +kernel
theorem dX1_copyFrom_40 : decode cX1_copyFrom 40 = .ok (.aload_n 0, 1) := by decide +kernel
theorem dX1_copyFrom_41 : decode cX1_copyFrom 41 = .ok (.getfield 20, 3) := by decide +kernel
theorem dX1_copyFrom_44 : decode cX1_copyFrom 44 = .ok (.iload_n 2, 1) := by decide +kernel
theorem dX1_copyFrom_45 : decode cX1_copyFrom 45 = .ok (.aload_n 1, 1) := by decide +kernel
theorem dX1_copyFrom_46 : decode cX1_copyFrom 46 = .ok (.getfield 20, 3) := by decide +kernel
theorem dX1_copyFrom_49 : decode cX1_copyFrom 49 = .ok (.iload_n 2, 1) := by decide +kernel
theorem dX1_copyFrom_50 : decode cX1_copyFrom 50 = .ok (.aaload, 1) := by decide +kernel
theorem dX1_copyFrom_51 : decode cX1_copyFrom 51 = .ok (.aastore, 1) := by decide +kernel
theorem dX1_copyFrom_52 : decode cX1_copyFrom 52 = .ok (.iinc 2 1, 3) := by decide +kernel
theorem dX1_copyFrom_55 : decode cX1_copyFrom 55 = .ok (.goto (-21), 3) := by decide +kernel
theorem dX1_copyFrom_58 : decode cX1_copyFrom 58 = .ok (.aload_n 0, 1) := by decide +kernel
theorem dX1_copyFrom_59 : decode cX1_copyFrom 59 = .ok (.getfield 27, 3) := by decide +kernel
theorem dX1_copyFrom_62 : decode cX1_copyFrom 62 = .ok (.aload_n 1, 1) := by decide +kernel
theorem dX1_copyFrom_63 : decode cX1_copyFrom 63 = .ok (.getfield 27, 3) := by decide +kernel
theorem dX1_copyFrom_66 : decode cX1_copyFrom 66 = .ok (.invokevirtual 84, 3) := by decide +kernel
theorem dX1_copyFrom_69 : decode cX1_copyFrom 69 = .ok (.aload_n 0, 1) := by decide +kernel
theorem dX1_copyFrom_70 : decode cX1_copyFrom 70 = .ok (.getfield 31, 3) := by decide +kernel
theorem dX1_copyFrom_73 : decode cX1_copyFrom 73 = .ok (.aload_n 1, 1) := by decide +kernel
theorem dX1_copyFrom_74 : decode cX1_copyFrom 74 = .ok (.getfield 31, 3) := by decide +kernel
theorem dX1_copyFrom_77 : decode cX1_copyFrom 77 = .ok (.invokevirtual 84, 3) := by decide +kernel
theorem dX1_copyFrom_80 : decode cX1_copyFrom 80 = .ok (.aload_n 0, 1) := by decide +kernel
theorem dX1_copyFrom_81 : decode cX1_copyFrom 81 = .ok (.aload_n 1, 1) := by decide +kernel
theorem dX1_copyFrom_82 : decode cX1_copyFrom 82 = .ok (.getfield 38, 3) := by decide +kernel
theorem dX1_copyFrom_85 : decode cX1_copyFrom 85 = .ok (.putfield 38, 3) := by decide +kernel
theorem dX1_copyFrom_88 : decode cX1_copyFrom 88 = .ok (.aload_n 0, 1) := by decide +kernel
theorem dX1_copyFrom_89 : decode cX1_copyFrom 89 = .ok (.aload_n 1, 1) := by decide +kernel
theorem dX1_copyFrom_90 : decode cX1_copyFrom 90 = .ok (.getfield 49, 3) := by decide +kernel
theorem dX1_copyFrom_93 : decode cX1_copyFrom 93 = .ok (.putfield 49, 3) := by decide +kernel
theorem dX1_copyFrom_96 : decode cX1_copyFrom 96 = .ok (.aload_n 0, 1) := by decide +kernel
theorem dX1_copyFrom_97 : decode cX1_copyFrom 97 = .ok (.aload_n 1, 1) := by decide +kernel
theorem dX1_copyFrom_98 : decode cX1_copyFrom 98 = .ok (.getfield 34, 3) := by decide +kernel
theorem dX1_copyFrom_101 : decode cX1_copyFrom 101 = .ok (.putfield 34, 3) := by decide +kernel
theorem dX1_copyFrom_104 : decode cX1_copyFrom 104 = .ok (.return_, 1) := by decide +kernel
theorem dX2_init_0 : decode cX2_init 0 = .ok (.aload_n 0, 1) := by decide +kernel
theorem dX2_init_1 : decode cX2_init 1 = .ok (.invokespecial 3, 3) := by decide +kernel
theorem dX2_init_4 : decode cX2_init 4 = .ok (.aload_n 0, 1) := by decide +kernel
theorem dX2_init_5 : decode cX2_init 5 = .ok (.new 9, 3) := by decide +kernel
theorem dX2_init_8 : decode cX2_init 8 = .ok (.dup, 1) := by decide +kernel
theorem dX2_init_9 : decode cX2_init 9 = .ok (.invokespecial 11, 3) := by decide +kernel
theorem dX2_init_12 : decode cX2_init 12 = .ok (.putfield 12, 3) := by decide +kernel
theorem dX2_init_15 : decode cX2_init 15 = .ok (.aload_n 0, 1) := by decide +kernel
theorem dX2_init_16 : decode cX2_init 16 = .ok (.bipush 8, 2) := by decide +kernel
theorem dX2_init_18 : decode cX2_init 18 = .ok (.newarray .int, 2) := by decide +kernel
theorem dX2_init_20 : decode cX2_init 20 = .ok (.putfield 18, 3) := by decide +kernel
theorem dX2_init_23 : decode cX2_init 23 = .ok (.aload_n 0, 1) := by decide +kernel
theorem dX2_init_24 : decode cX2_init 24 = .ok (.bipush 8, 2) := by decide +kernel
theorem dX2_init_26 : decode cX2_init 26 = .ok (.newarray .int, 2) := by decide +kernel
theorem dX2_init_28 : decode cX2_init 28 = .ok (.putfield 22, 3) := by decide +kernel
theorem dX2_init_31 : decode cX2_init 31 = .ok (.aload_n 0, 1) := by decide +kernel
theorem dX2_init_32 : decode cX2_init 32 = .ok (.bipush 8, 2) := by decide +kernel
theorem dX2_init_34 : decode cX2_init 34 = .ok (.newarray .int, 2) := by decide +kernel
theorem dX2_init_36 : decode cX2_init 36 = .ok (.putfield 25, 3) := by decide +kernel
theorem dX2_init_39 : decode cX2_init 39 = .ok (.aload_n 0, 1) := by decide +kernel
theorem dX2_init_40 : decode cX2_init 40 = .ok (.sipush 256, 3) := by decide +kernel
theorem dX2_init_43 : decode cX2_init 43 = .ok (.newarray .int, 2) := by decide +kernel
theorem dX2_init_45 : decode cX2_init 45 = .ok (.putfield 28, 3) := by decide +kernel
theorem dX2_init_48 : decode cX2_init 48 = .ok (.aload_n 0, 1) := by decide +kernel
theorem dX2_init_49 : decode cX2_init 49 = .ok (.sipush 256, 3) := by decide +kernel
theorem dX2_init_52 : decode cX2_init 52 = .ok (.newarray .int, 2) := by decide +kernel
theorem dX2_init_54 : decode cX2_init 54 = .ok (.putfield 31, 3) := by decide +kernel
theorem dX2_init_57 : decode cX2_init 57 = .ok (.aload_n 0, 1) := by decide +kernel
theorem dX2_init_58 : decode cX2_init 58 = .ok (.sipush 256, 3) := by decide +kernel
theorem dX2_init_61 : decode cX2_init 61 = .ok (.newarray .int, 2) := by decide +kernel
theorem dX2_init_63 : decode cX2_init 63 = .ok (.putfield 34, 3) := by decide +kernel
theorem dX2_init_66 : decode cX2_init 66 = .ok (.aload_n 0, 1) := by decide +kernel
theorem dX2_init_67 : decode cX2_init 67 = .ok (.sipush 256, 3) := by decide +kernel
theorem dX2_init_70 : decode cX2_init 70 = .ok (.newarray .int, 2) := by decide +kernel
theorem dX2_init_72 : decode cX2_init 72 = .ok (.putfield 37, 3) := by decide +kernel
theorem dX2_init_75 : decode cX2_init 75 = .ok (.aload_n 0, 1) := by decide +kernel
theorem dX2_init_76 : decode cX2_init 76 = .ok (.sipush 256, 3) := by decide +kernel
theorem dX2_init_79 : decode cX2_init 79 = .ok (.newarray .int, 2) := by decide +kernel
theorem dX2_init_81 : decode cX2_init 81 = .ok (.putfield 40, 3) := by decide +kernel
theorem dX2_init_84 : decode cX2_init 84 = .ok (.return_, 1) := by decide +kernel
theorem dX2_drop_0 : decode cX2_drop 0 = .ok (.aload_n 0, 1) := by decide +kernel
theorem dX2_drop_1 : decode cX2_drop 1 = .ok (.iconst 0, 1) := by decide +kernel
theorem dX2_drop_2 : decode cX2_drop 2 = .ok (.putfield 43, 3) := by decide +kernel
theorem dX2_drop_5 : decode cX2_drop 5 = .ok (.aload_n 0, 1) := by decide +kernel
theorem dX2_drop_6 : decode cX2_drop 6 = .ok (.iconst 0, 1) := by decide +kernel
theorem dX2_drop_7 : decode cX2_drop 7 = .ok (.putfield 47, 3) := by decide +kernel
theorem dX2_drop_10 : decode cX2_drop 10 = .ok (.return_, 1) := by decide +kernel
theorem dX2_learnWants_0 : decode cX2_learnWants 0 = .ok (.aload_n 0, 1) := by decide +kernel
theorem dX2_learnWants_1 : decode cX2_learnWants 1 = .ok (.getfield 43, 3) := by decide +kernel
theorem dX2_learnWants_4 : decode cX2_learnWants 4 = .ok (.ifCond .eq 4, 3) := by decide +kernel
theorem dX2_learnWants_7 : decode cX2_learnWants 7 = .ok (.return_, 1) := by decide +kernel
theorem dX2_learnWants_8 : decode cX2_learnWants 8 = .ok (.iconst 0, 1) := by decide +kernel
theorem dX2_learnWants_9 : decode cX2_learnWants 9 = .ok (.istore_n 2, 1) := by decide +kernel
theorem dX2_learnWants_10 : decode cX2_learnWants 10 = .ok (.iconst 0, 1) := by decide +kernel
theorem dX2_learnWants_11 : decode cX2_learnWants 11 = .ok (.istore_n 3, 1) := by decide +kernel
theorem dX2_learnWants_12 : decode cX2_learnWants 12 = .ok (.aload_n 0, 1) := by decide +kernel
theorem dX2_learnWants_13 : decode cX2_learnWants 13 = .ok (.aload_n 1, 1) := by decide +kernel
theorem dX2_learnWants_14 : decode cX2_learnWants 14 = .ok (.getfield 50, 3) := by decide +kernel
theorem dX2_learnWants_17 : decode cX2_learnWants 17 = .ok (.putfield 56, 3) := by decide +kernel
theorem dX2_learnWants_20 : decode cX2_learnWants 20 = .ok (.aload_n 0, 1) := by decide +kernel
theorem dX2_learnWants_21 : decode cX2_learnWants 21 = .ok (.iconst 0, 1) := by decide +kernel
theorem dX2_learnWants_22 : decode cX2_learnWants 22 = .ok (.putfield 57, 3) := by decide +kernel
theorem dX2_learnWants_25 : decode cX2_learnWants 25 = .ok (.iconst 0, 1) := by decide +kernel
theorem dX2_learnWants_26 : decode cX2_learnWants 26 = .ok (.istore 4, 2) := by decide +kernel
theorem dX2_learnWants_28 : decode cX2_learnWants 28 = .ok (.iload 4, 2) := by decide +kernel
theorem dX2_learnWants_30 : decode cX2_learnWants 30 = .ok (.aload_n 0, 1) := by decide +kernel
theorem dX2_learnWants_31 : decode cX2_learnWants 31 = .ok (.getfield 56, 3) := by decide +kernel
theorem dX2_learnWants_34 : decode cX2_learnWants 34 = .ok (.if_icmp .ge 87, 3) := by decide +kernel
theorem dX2_learnWants_37 : decode cX2_learnWants 37 = .ok (.aload_n 0, 1) := by decide +kernel
theorem dX2_learnWants_38 : decode cX2_learnWants 38 = .ok (.getfield 18, 3) := by decide +kernel
theorem dX2_learnWants_41 : decode cX2_learnWants 41 = .ok (.iload 4, 2) := by decide +kernel
theorem dX2_learnWants_43 : decode cX2_learnWants 43 = .ok (.aload_n 0, 1) := by decide +kernel
theorem dX2_learnWants_44 : decode cX2_learnWants 44 = .ok (.getfield 12, 3) := by decide +kernel
theorem dX2_learnWants_47 : decode cX2_learnWants 47 = .ok (.aload_n 1, 1) := by decide +kernel
theorem dX2_learnWants_48 : decode cX2_learnWants 48 = .ok (.iload 4, 2) := by decide +kernel
theorem dX2_learnWants_50 : decode cX2_learnWants 50 = .ok (.invokevirtual 60, 3) := by decide +kernel
theorem dX2_learnWants_53 : decode cX2_learnWants 53 = .ok (.iastore, 1) := by decide +kernel
theorem dX2_learnWants_54 : decode cX2_learnWants 54 = .ok (.aload_n 1, 1) := by decide +kernel
theorem dX2_learnWants_55 : decode cX2_learnWants 55 = .ok (.iload 4, 2) := by decide +kernel
theorem dX2_learnWants_57 : decode cX2_learnWants 57 = .ok (.invokevirtual 64, 3) := by decide +kernel
theorem dX2_learnWants_60 : decode cX2_learnWants 60 = .ok (.ifCond .ne 24, 3) := by decide +kernel
theorem dX2_learnWants_63 : decode cX2_learnWants 63 = .ok (.aload_n 0, 1) := by decide +kernel
theorem dX2_learnWants_64 : decode cX2_learnWants 64 = .ok (.getfield 22, 3) := by decide +kernel
theorem dX2_learnWants_67 : decode cX2_learnWants 67 = .ok (.iload 4, 2) := by decide +kernel
theorem dX2_learnWants_69 : decode cX2_learnWants 69 = .ok (.iload_n 2, 1) := by decide +kernel
theorem dX2_learnWants_70 : decode cX2_learnWants 70 = .ok (.iastore, 1) := by decide +kernel
theorem dX2_learnWants_71 : decode cX2_learnWants 71 = .ok (.iload_n 2, 1) := by decide +kernel
theorem dX2_learnWants_72 : decode cX2_learnWants 72 = .ok (.aload_n 0, 1) := by decide +kernel
theorem dX2_learnWants_73 : decode cX2_learnWants 73 = .ok (.getfield 18, 3) := by decide +kernel
theorem dX2_learnWants_76 : decode cX2_learnWants 76 = .ok (.iload 4, 2) := by decide +kernel
theorem dX2_learnWants_78 : decode cX2_learnWants 78 = .ok (.iaload, 1) := by decide +kernel
theorem dX2_learnWants_79 : decode cX2_learnWants 79 = .ok (.iadd, 1) := by decide +kernel
theorem dX2_learnWants_80 : decode cX2_learnWants 80 = .ok (.istore_n 2, 1) := by decide +kernel
theorem dX2_learnWants_81 : decode cX2_learnWants 81 = .ok (.goto 34, 3) := by decide +kernel
theorem dX2_learnWants_84 : decode cX2_learnWants 84 = .ok (.aload_n 0, 1) := by decide +kernel
theorem dX2_learnWants_85 : decode cX2_learnWants 85 = .ok (.getfield 22, 3) := by decide +kernel
theorem dX2_learnWants_88 : decode cX2_learnWants 88 = .ok (.iload 4, 2) := by decide +kernel
theorem dX2_learnWants_90 : decode cX2_learnWants 90 = .ok (.iload_n 3, 1) := by decide +kernel
theorem dX2_learnWants_91 : decode cX2_learnWants 91 = .ok (.iastore, 1) := by decide +kernel
theorem dX2_learnWants_92 : decode cX2_learnWants 92 = .ok (.iload_n 3, 1) := by decide +kernel
theorem dX2_learnWants_93 : decode cX2_learnWants 93 = .ok (.aload_n 0, 1) := by decide +kernel
theorem dX2_learnWants_94 : decode cX2_learnWants 94 = .ok (.getfield 18, 3) := by decide +kernel
theorem dX2_learnWants_97 : decode cX2_learnWants 97 = .ok (.iload 4, 2) := by decide +kernel
theorem dX2_learnWants_99 : decode cX2_learnWants 99 = .ok (.iaload, 1) := by decide +kernel
theorem dX2_learnWants_100 : decode cX2_learnWants 100 = .ok (.iadd, 1) := by decide +kernel
theorem dX2_learnWants_101 : decode cX2_learnWants 101 = .ok (.istore_n 3, 1) := by decide +kernel
theorem dX2_learnWants_102 : decode cX2_learnWants 102 = .ok (.aload_n 0, 1) := by decide +kernel
theorem dX2_learnWants_103 : decode cX2_learnWants 103 = .ok (.dup, 1) := by decide +kernel
theorem dX2_learnWants_104 : decode cX2_learnWants 104 = .ok (.getfield 57, 3) := by decide +kernel
theorem dX2_learnWants_107 : decode cX2_learnWants 107 = .ok (.iconst 1, 1) := by decide +kernel
theorem dX2_learnWants_108 : decode cX2_learnWants 108 = .ok (.iload 4, 2) := by decide +kernel
theorem dX2_learnWants_110 : decode cX2_learnWants 110 = .ok (.ishl, 1) := by decide +kernel
theorem dX2_learnWants_111 : decode cX2_learnWants 111 = .ok (.ior, 1) := by decide +kernel
theorem dX2_learnWants_112 : decode cX2_learnWants 112 = .ok (.putfield 57, 3) := by decide +kernel
theorem dX2_learnWants_115 : decode cX2_learnWants 115 = .ok (.iinc 4 1, 3) := by decide +kernel
theorem dX2_learnWants_118 : decode cX2_learnWants 118 = .ok (.goto (-90), 3) := by decide +kernel
theorem dX2_learnWants_121 : decode cX2_learnWants 121 = .ok (.aload_n 0, 1) := by decide +kernel
theorem dX2_learnWants_122 : decode cX2_learnWants 122 = .ok (.iconst 1, 1) := by decide +kernel
theorem dX2_learnWants_123 : decode cX2_learnWants 123 = .ok (.putfield 43, 3) := by decide +kernel
theorem dX2_learnWants_126 : decode cX2_learnWants 126 = .ok (.return_, 1) := by decide +kernel
theorem dX2_learnWaits_0 : decode cX2_learnWaits 0 = .ok (.iconst 0, 1) := by decide +kernel
theorem dX2_learnWaits_1 : decode cX2_learnWaits 1 = .ok (.istore_n 2, 1) := by decide +kernel
theorem dX2_learnWaits_2 : decode cX2_learnWaits 2 = .ok (.iload_n 2, 1) := by decide +kernel
theorem dX2_learnWaits_3 : decode cX2_learnWaits 3 = .ok (.aload_n 1, 1) := by decide +kernel
theorem dX2_learnWaits_4 : decode cX2_learnWaits 4 = .ok (.getfield 50, 3) := by decide +kernel
theorem dX2_learnWaits_7 : decode cX2_learnWaits 7 = .ok (.if_icmp .ge 63, 3) := by decide +kernel
theorem dX2_learnWaits_10 : decode cX2_learnWaits 10 = .ok (.iconst 0, 1) := by decide +kernel
theorem dX2_learnWaits_11 : decode cX2_learnWaits 11 = .ok (.istore_n 3, 1) := by decide +kernel
theorem dX2_learnWaits_12 : decode cX2_learnWaits 12 = .ok (.iconst 0, 1) := by decide +kernel
theorem dX2_learnWaits_13 : decode cX2_learnWaits 13 = .ok (.istore 4, 2) := by decide +kernel
theorem dX2_learnWaits_15 : decode cX2_learnWaits 15 = .ok (.iload 4, 2) := by decide +kernel
theorem dX2_learnWaits_17 : decode cX2_learnWaits 17 = .ok (.aload_n 1, 1) := by decide +kernel
theorem dX2_learnWaits_18 : decode cX2_learnWaits 18 = .ok (.getfield 50, 3) := by decide +kernel
theorem dX2_learnWaits_21 : decode cX2_learnWaits 21 = .ok (.if_icmp .ge 36, 3) := by decide +kernel
theorem dX2_learnWaits_24 : decode cX2_learnWaits 24 = .ok (.iload 4, 2) := by decide +kernel
theorem dX2_learnWaits_26 : decode cX2_learnWaits 26 = .ok (.iload_n 2, 1) := by decide +kernel
theorem dX2_learnWaits_27 : decode cX2_learnWaits 27 = .ok (.if_icmp .eq 24, 3) := by decide +kernel
theorem dX2_learnWaits_30 : decode cX2_learnWaits 30 = .ok (.aload_n 0, 1) := by decide +kernel
theorem dX2_learnWaits_31 : decode cX2_learnWaits 31 = .ok (.getfield 12, 3) := by decide +kernel
theorem dX2_learnWaits_34 : decode cX2_learnWaits 34 = .ok (.aload_n 1, 1) := by decide +kernel
theorem dX2_learnWaits_35 : decode cX2_learnWaits 35 = .ok (.iload_n 2, 1) := by decide +kernel
theorem dX2_learnWaits_36 : decode cX2_learnWaits 36 = .ok (.iload 4, 2) := by decide +kernel
theorem dX2_learnWaits_38 : decode cX2_learnWaits 38 = .ok (.invokevirtual 68, 3) := by decide +kernel
theorem dX2_learnWaits_41 : decode cX2_learnWaits 41 = .ok (.ifCond .eq 10, 3) := by decide +kernel
theorem dX2_learnWaits_44 : decode cX2_learnWaits 44 = .ok (.iload_n 3, 1) := by decide +kernel
theorem dX2_learnWaits_45 : decode cX2_learnWaits 45 = .ok (.iconst 1, 1) := by decide +kernel
theorem dX2_learnWaits_46 : decode cX2_learnWaits 46 = .ok (.iload 4, 2) := by decide +kernel
theorem dX2_learnWaits_48 : decode cX2_learnWaits 48 = .ok (.ishl, 1) := by decide +kernel
theorem dX2_learnWaits_49 : decode cX2_learnWaits 49 = .ok (.ior, 1) := by decide +kernel
theorem dX2_learnWaits_50 : decode cX2_learnWaits 50 = .ok (.istore_n 3, 1) := by decide +kernel
theorem dX2_learnWaits_51 : decode cX2_learnWaits 51 = .ok (.iinc 4 1, 3) := by decide +kernel
theorem dX2_learnWaits_54 : decode cX2_learnWaits 54 = .ok (.goto (-39), 3) := by decide +kernel
theorem dX2_learnWaits_57 : decode cX2_learnWaits 57 = .ok (.aload_n 0, 1) := by decide +kernel
theorem dX2_learnWaits_58 : decode cX2_learnWaits 58 = .ok (.getfield 25, 3) := by decide +kernel
theorem dX2_learnWaits_61 : decode cX2_learnWaits 61 = .ok (.iload_n 2, 1) := by decide +kernel
theorem dX2_learnWaits_62 : decode cX2_learnWaits 62 = .ok (.iload_n 3, 1) := by decide +kernel
theorem dX2_learnWaits_63 : decode cX2_learnWaits 63 = .ok (.iastore, 1) := by decide +kernel
theorem dX2_learnWaits_64 : decode cX2_learnWaits 64 = .ok (.iinc 2 1, 3) := by decide +kernel
theorem dX2_learnWaits_67 : decode cX2_learnWaits 67 = .ok (.goto (-65), 3) := by decide +kernel
theorem dX2_learnWaits_70 : decode cX2_learnWaits 70 = .ok (.return_, 1) := by decide +kernel
theorem dX2_layOut_0 : decode cX2_layOut 0 = .ok (.aload_n 0, 1) := by decide +kernel
theorem dX2_layOut_1 : decode cX2_layOut 1 = .ok (.getfield 47, 3) := by decide +kernel
theorem dX2_layOut_4 : decode cX2_layOut 4 = .ok (.ifCond .eq 4, 3) := by decide +kernel
theorem dX2_layOut_7 : decode cX2_layOut 7 = .ok (.return_, 1) := by decide +kernel
theorem dX2_layOut_8 : decode cX2_layOut 8 = .ok (.aload_n 0, 1) := by decide +kernel
theorem dX2_layOut_9 : decode cX2_layOut 9 = .ok (.aload_n 1, 1) := by decide +kernel
theorem dX2_layOut_10 : decode cX2_layOut 10 = .ok (.invokevirtual 72, 3) := by decide +kernel
theorem dX2_layOut_13 : decode cX2_layOut 13 = .ok (.aload_n 0, 1) := by decide +kernel
theorem dX2_layOut_14 : decode cX2_layOut 14 = .ok (.aload_n 1, 1) := by decide +kernel
theorem dX2_layOut_15 : decode cX2_layOut 15 = .ok (.invokevirtual 76, 3) := by decide +kernel
theorem dX2_layOut_18 : decode cX2_layOut 18 = .ok (.aload_n 0, 1) := by decide +kernel
theorem dX2_layOut_19 : decode cX2_layOut 19 = .ok (.invokevirtual 79, 3) := by decide +kernel
theorem dX2_layOut_22 : decode cX2_layOut 22 = .ok (.aload_n 0, 1) := by decide +kernel
theorem dX2_layOut_23 : decode cX2_layOut 23 = .ok (.aload_n 1, 1) := by decide +kernel
theorem dX2_layOut_24 : decode cX2_layOut 24 = .ok (.invokevirtual 82, 3) := by decide +kernel
theorem dX2_layOut_27 : decode cX2_layOut 27 = .ok (.aload_n 0, 1) := by decide +kernel
theorem dX2_layOut_28 : decode cX2_layOut 28 = .ok (.iconst 1, 1) := by decide +kernel
theorem dX2_layOut_29 : decode cX2_layOut 29 = .ok (.putfield 47, 3) := by decide +kernel
theorem dX2_layOut_32 : decode cX2_layOut 32 = .ok (.return_, 1) := by decide +kernel
theorem dX2_everyone_0 : decode cX2_everyone 0 = .ok (.iconst 1, 1) := by decide +kernel
theorem dX2_everyone_1 : decode cX2_everyone 1 = .ok (.aload_n 0, 1) := by decide +kernel
theorem dX2_everyone_2 : decode cX2_everyone 2 = .ok (.getfield 56, 3) := by decide +kernel
theorem dX2_everyone_5 : decode cX2_everyone 5 = .ok (.ishl, 1) := by decide +kernel
theorem dX2_everyone_6 : decode cX2_everyone 6 = .ok (.iconst 1, 1) := by decide +kernel
theorem dX2_everyone_7 : decode cX2_everyone 7 = .ok (.isub, 1) := by decide +kernel
theorem dX2_everyone_8 : decode cX2_everyone 8 = .ok (.ireturn, 1) := by decide +kernel
theorem dX2_layOutSets_0 : decode cX2_layOutSets 0 = .ok (.aload_n 0, 1) := by decide +kernel
theorem dX2_layOutSets_1 : decode cX2_layOutSets 1 = .ok (.invokevirtual 85, 3) := by decide +kernel
theorem dX2_layOutSets_4 : decode cX2_layOutSets 4 = .ok (.istore_n 1, 1) := by decide +kernel
theorem dX2_layOutSets_5 : decode cX2_layOutSets 5 = .ok (.iconst 0, 1) := by decide +kernel
theorem dX2_layOutSets_6 : decode cX2_layOutSets 6 = .ok (.istore_n 2, 1) := by decide +kernel
theorem dX2_layOutSets_7 : decode cX2_layOutSets 7 = .ok (.iload_n 2, 1) := by decide +kernel
theorem dX2_layOutSets_8 : decode cX2_layOutSets 8 = .ok (.iload_n 1, 1) := by decide +kernel
theorem dX2_layOutSets_9 : decode cX2_layOutSets 9 = .ok (.if_icmp .gt 92, 3) := by decide +kernel
theorem dX2_layOutSets_12 : decode cX2_layOutSets 12 = .ok (.iconst 0, 1) := by decide +kernel
theorem dX2_layOutSets_13 : decode cX2_layOutSets 13 = .ok (.istore_n 3, 1) := by decide +kernel
theorem dX2_layOutSets_14 : decode cX2_layOutSets 14 = .ok (.iconst 0, 1) := by decide +kernel
theorem dX2_layOutSets_15 : decode cX2_layOutSets 15 = .ok (.istore 4, 2) := by decide +kernel
theorem dX2_layOutSets_17 : decode cX2_layOutSets 17 = .ok (.iconst 0, 1) := by decide +kernel
theorem dX2_layOutSets_18 : decode cX2_layOutSets 18 = .ok (.istore 5, 2) := by decide +kernel
theorem dX2_layOutSets_20 : decode cX2_layOutSets 20 = .ok (.iload 5, 2) := by decide +kernel
theorem dX2_layOutSets_22 : decode cX2_layOutSets 22 = .ok (.aload_n 0, 1) := by decide +kernel
theorem dX2_layOutSets_23 : decode cX2_layOutSets 23 = .ok (.getfield 56, 3) := by decide +kernel
theorem dX2_layOutSets_26 : decode cX2_layOutSets 26 = .ok (.if_icmp .ge 54, 3) := by decide +kernel
theorem dX2_layOutSets_29 : decode cX2_layOutSets 29 = .ok (.iload_n 2, 1) := by decide +kernel
theorem dX2_layOutSets_30 : decode cX2_layOutSets 30 = .ok (.iload 5, 2) := by decide +kernel
theorem dX2_layOutSets_32 : decode cX2_layOutSets 32 = .ok (.ishr, 1) := by decide +kernel
theorem dX2_layOutSets_33 : decode cX2_layOutSets 33 = .ok (.iconst 1, 1) := by decide +kernel
theorem dX2_layOutSets_34 : decode cX2_layOutSets 34 = .ok (.iand, 1) := by decide +kernel
theorem dX2_layOutSets_35 : decode cX2_layOutSets 35 = .ok (.ifCond .eq 18, 3) := by decide +kernel
theorem dX2_layOutSets_38 : decode cX2_layOutSets 38 = .ok (.iload 4, 2) := by decide +kernel
theorem dX2_layOutSets_40 : decode cX2_layOutSets 40 = .ok (.aload_n 0, 1) := by decide +kernel
theorem dX2_layOutSets_41 : decode cX2_layOutSets 41 = .ok (.getfield 18, 3) := by decide +kernel
theorem dX2_layOutSets_44 : decode cX2_layOutSets 44 = .ok (.iload 5, 2) := by decide +kernel
theorem dX2_layOutSets_46 : decode cX2_layOutSets 46 = .ok (.iaload, 1) := by decide +kernel
theorem dX2_layOutSets_47 : decode cX2_layOutSets 47 = .ok (.iadd, 1) := by decide +kernel
theorem dX2_layOutSets_48 : decode cX2_layOutSets 48 = .ok (.istore 4, 2) := by decide +kernel
theorem dX2_layOutSets_50 : decode cX2_layOutSets 50 = .ok (.goto 24, 3) := by decide +kernel
theorem dX2_layOutSets_53 : decode cX2_layOutSets 53 = .ok (.aload_n 0, 1) := by decide +kernel
theorem dX2_layOutSets_54 : decode cX2_layOutSets 54 = .ok (.getfield 25, 3) := by decide +kernel
theorem dX2_layOutSets_57 : decode cX2_layOutSets 57 = .ok (.iload 5, 2) := by decide +kernel
theorem dX2_layOutSets_59 : decode cX2_layOutSets 59 = .ok (.iaload, 1) := by decide +kernel
theorem dX2_layOutSets_60 : decode cX2_layOutSets 60 = .ok (.iload_n 2, 1) := by decide +kernel
theorem dX2_layOutSets_61 : decode cX2_layOutSets 61 = .ok (.iconst (-1), 1) := by decide +kernel
theorem dX2_layOutSets_62 : decode cX2_layOutSets 62 = .ok (.ixor, 1) := by decide +kernel
theorem dX2_layOutSets_63 : decode cX2_layOutSets 63 = .ok (.iand, 1) := by decide +kernel
theorem dX2_layOutSets_64 : decode cX2_layOutSets 64 = .ok (.ifCond .ne 10, 3) := by decide +kernel
theorem dX2_layOutSets_67 : decode cX2_layOutSets 67 = .ok (.iload_n 3, 1) := by decide +kernel
theorem dX2_layOutSets_68 : decode cX2_layOutSets 68 = .ok (.iconst 1, 1) := by decide +kernel
theorem dX2_layOutSets_69 : decode cX2_layOutSets 69 = .ok (.iload 5, 2) := by decide +kernel
theorem dX2_layOutSets_71 : decode cX2_layOutSets 71 = .ok (.ishl, 1) := by decide +kernel
theorem dX2_layOutSets_72 : decode cX2_layOutSets 72 = .ok (.ior, 1) := by decide +kernel
theorem dX2_layOutSets_73 : decode cX2_layOutSets 73 = .ok (.istore_n 3, 1) := by decide +kernel
theorem dX2_layOutSets_74 : decode cX2_layOutSets 74 = .ok (.iinc 5 1, 3) := by decide +kernel
theorem dX2_layOutSets_77 : decode cX2_layOutSets 77 = .ok (.goto (-57), 3) := by decide +kernel
theorem dX2_layOutSets_80 : decode cX2_layOutSets 80 = .ok (.aload_n 0, 1) := by decide +kernel
theorem dX2_layOutSets_81 : decode cX2_layOutSets 81 = .ok (.getfield 28, 3) := by decide +kernel
theorem dX2_layOutSets_84 : decode cX2_layOutSets 84 = .ok (.iload_n 2, 1) := by decide +kernel
theorem dX2_layOutSets_85 : decode cX2_layOutSets 85 = .ok (.iload_n 3, 1) := by decide +kernel
theorem dX2_layOutSets_86 : decode cX2_layOutSets 86 = .ok (.iastore, 1) := by decide +kernel
theorem dX2_layOutSets_87 : decode cX2_layOutSets 87 = .ok (.aload_n 0, 1) := by decide +kernel
theorem dX2_layOutSets_88 : decode cX2_layOutSets 88 = .ok (.getfield 31, 3) := by decide +kernel
theorem dX2_layOutSets_91 : decode cX2_layOutSets 91 = .ok (.iload_n 2, 1) := by decide +kernel
theorem dX2_layOutSets_92 : decode cX2_layOutSets 92 = .ok (.iload 4, 2) := by decide +kernel
theorem dX2_layOutSets_94 : decode cX2_layOutSets 94 = .ok (.iastore, 1) := by decide +kernel
theorem dX2_layOutSets_95 : decode cX2_layOutSets 95 = .ok (.iinc 2 1, 3) := by decide +kernel
theorem dX2_layOutSets_98 : decode cX2_layOutSets 98 = .ok (.goto (-91), 3) := by decide +kernel
theorem dX2_layOutSets_101 : decode cX2_layOutSets 101 = .ok (.return_, 1) := by decide +kernel
theorem dX2_layOutLoaves_0 : decode cX2_layOutLoaves 0 = .ok (.aload_n 0, 1) := by decide +kernel
theorem dX2_layOutLoaves_1 : decode cX2_layOutLoaves 1 = .ok (.invokevirtual 85, 3) := by decide +kernel
theorem dX2_layOutLoaves_4 : decode cX2_layOutLoaves 4 = .ok (.istore_n 2, 1) := by decide +kernel
theorem dX2_layOutLoaves_5 : decode cX2_layOutLoaves 5 = .ok (.iload_n 2, 1) := by decide +kernel
theorem dX2_layOutLoaves_6 : decode cX2_layOutLoaves 6 = .ok (.aload_n 0, 1) := by decide +kernel
theorem dX2_layOutLoaves_7 : decode cX2_layOutLoaves 7 = .ok (.getfield 57, 3) := by decide +kernel
theorem dX2_layOutLoaves_10 : decode cX2_layOutLoaves 10 = .ok (.iconst (-1), 1) := by decide +kernel
theorem dX2_layOutLoaves_11 : decode cX2_layOutLoaves 11 = .ok (.ixor, 1) := by decide +kernel
theorem dX2_layOutLoaves_12 : decode cX2_layOutLoaves 12 = .ok (.iand, 1) := by decide +kernel
theorem dX2_layOutLoaves_13 : decode cX2_layOutLoaves 13 = .ok (.istore_n 3, 1) := by decide +kernel
theorem dX2_layOutLoaves_14 : decode cX2_layOutLoaves 14 = .ok (.iconst 0, 1) := by decide +kernel
theorem dX2_layOutLoaves_15 : decode cX2_layOutLoaves 15 = .ok (.istore 4, 2) := by decide +kernel
theorem dX2_layOutLoaves_17 : decode cX2_layOutLoaves 17 = .ok (.iload 4, 2) := by decide +kernel
theorem dX2_layOutLoaves_19 : decode cX2_layOutLoaves 19 = .ok (.iload_n 2, 1) := by decide +kernel
theorem dX2_layOutLoaves_20 : decode cX2_layOutLoaves 20 = .ok (.if_icmp .gt 103, 3) := by decide +kernel
theorem dX2_layOutLoaves_23 : decode cX2_layOutLoaves 23 = .ok (.aload_n 0, 1) := by decide +kernel
theorem dX2_layOutLoaves_24 : decode cX2_layOutLoaves 24 = .ok (.getfield 34, 3) := by decide +kernel
theorem dX2_layOutLoaves_27 : decode cX2_layOutLoaves 27 = .ok (.iload 4, 2) := by decide +kernel
theorem dX2_layOutLoaves_29 : decode cX2_layOutLoaves 29 = .ok (.iload 4, 2) := by decide +kernel
theorem dX2_layOutLoaves_31 : decode cX2_layOutLoaves 31 = .ok (.aload_n 0, 1) := by decide +kernel
theorem dX2_layOutLoaves_32 : decode cX2_layOutLoaves 32 = .ok (.getfield 57, 3) := by decide +kernel
theorem dX2_layOutLoaves_35 : decode cX2_layOutLoaves 35 = .ok (.iand, 1) := by decide +kernel
theorem dX2_layOutLoaves_36 : decode cX2_layOutLoaves 36 = .ok (.ifCond .eq 15, 3) := by decide +kernel
theorem dX2_layOutLoaves_39 : decode cX2_layOutLoaves 39 = .ok (.aload_n 0, 1) := by decide +kernel
theorem dX2_layOutLoaves_40 : decode cX2_layOutLoaves 40 = .ok (.getfield 34, 3) := by decide +kernel
theorem dX2_layOutLoaves_43 : decode cX2_layOutLoaves 43 = .ok (.iload 4, 2) := by decide +kernel
theorem dX2_layOutLoaves_45 : decode cX2_layOutLoaves 45 = .ok (.iload_n 3, 1) := by decide +kernel
theorem dX2_layOutLoaves_46 : decode cX2_layOutLoaves 46 = .ok (.iand, 1) := by decide +kernel
theorem dX2_layOutLoaves_47 : decode cX2_layOutLoaves 47 = .ok (.iaload, 1) := by decide +kernel
theorem dX2_layOutLoaves_48 : decode cX2_layOutLoaves 48 = .ok (.goto 21, 3) := by decide +kernel
theorem dX2_layOutLoaves_51 : decode cX2_layOutLoaves 51 = .ok (.aload_n 1, 1) := by decide +kernel
theorem dX2_layOutLoaves_52 : decode cX2_layOutLoaves 52 = .ok (.aload_n 1, 1) := by decide +kernel
theorem dX2_layOutLoaves_53 : decode cX2_layOutLoaves 53 = .ok (.getfield 89, 3) := by decide +kernel
theorem dX2_layOutLoaves_56 : decode cX2_layOutLoaves 56 = .ok (.iconst 3, 1) := by decide +kernel
theorem dX2_layOutLoaves_57 : decode cX2_layOutLoaves 57 = .ok (.iaload, 1) := by decide +kernel
theorem dX2_layOutLoaves_58 : decode cX2_layOutLoaves 58 = .ok (.aload_n 0, 1) := by decide +kernel
theorem dX2_layOutLoaves_59 : decode cX2_layOutLoaves 59 = .ok (.getfield 31, 3) := by decide +kernel
theorem dX2_layOutLoaves_62 : decode cX2_layOutLoaves 62 = .ok (.iload 4, 2) := by decide +kernel
theorem dX2_layOutLoaves_64 : decode cX2_layOutLoaves 64 = .ok (.iaload, 1) := by decide +kernel
theorem dX2_layOutLoaves_65 : decode cX2_layOutLoaves 65 = .ok (.iadd, 1) := by decide +kernel
theorem dX2_layOutLoaves_66 : decode cX2_layOutLoaves 66 = .ok (.invokevirtual 92, 3) := by decide +kernel
theorem dX2_layOutLoaves_69 : decode cX2_layOutLoaves 69 = .ok (.iastore, 1) := by decide +kernel
theorem dX2_layOutLoaves_70 : decode cX2_layOutLoaves 70 = .ok (.aload_n 0, 1) := by decide +kernel
theorem dX2_layOutLoaves_71 : decode cX2_layOutLoaves 71 = .ok (.getfield 37, 3) := by decide +kernel
theorem dX2_layOutLoaves_74 : decode cX2_layOutLoaves 74 = .ok (.iload 4, 2) := by decide +kernel
theorem dX2_layOutLoaves_76 : decode cX2_layOutLoaves 76 = .ok (.iload 4, 2) := by decide +kernel
theorem dX2_layOutLoaves_78 : decode cX2_layOutLoaves 78 = .ok (.iload_n 3, 1) := by decide +kernel
theorem dX2_layOutLoaves_79 : decode cX2_layOutLoaves 79 = .ok (.iand, 1) := by decide +kernel
theorem dX2_layOutLoaves_80 : decode cX2_layOutLoaves 80 = .ok (.ifCond .eq 18, 3) := by decide +kernel
theorem dX2_layOutLoaves_83 : decode cX2_layOutLoaves 83 = .ok (.aload_n 0, 1) := by decide +kernel
theorem dX2_layOutLoaves_84 : decode cX2_layOutLoaves 84 = .ok (.getfield 37, 3) := by decide +kernel
theorem dX2_layOutLoaves_87 : decode cX2_layOutLoaves 87 = .ok (.iload 4, 2) := by decide +kernel
theorem dX2_layOutLoaves_89 : decode cX2_layOutLoaves 89 = .ok (.aload_n 0, 1) := by decide +kernel
theorem dX2_layOutLoaves_90 : decode cX2_layOutLoaves 90 = .ok (.getfield 57, 3) := by decide +kernel
theorem dX2_layOutLoaves_93 : decode cX2_layOutLoaves 93 = .ok (.iand, 1) := by decide +kernel
theorem dX2_layOutLoaves_94 : decode cX2_layOutLoaves 94 = .ok (.iaload, 1) := by decide +kernel
theorem dX2_layOutLoaves_95 : decode cX2_layOutLoaves 95 = .ok (.goto 21, 3) := by decide +kernel
theorem dX2_layOutLoaves_98 : decode cX2_layOutLoaves 98 = .ok (.aload_n 1, 1) := by decide +kernel
theorem dX2_layOutLoaves_99 : decode cX2_layOutLoaves 99 = .ok (.aload_n 1, 1) := by decide +kernel
theorem dX2_layOutLoaves_100 : decode cX2_layOutLoaves 100 = .ok (.getfield 89, 3) := by decide +kernel
theorem dX2_layOutLoaves_103 : decode cX2_layOutLoaves 103 = .ok (.iconst 4, 1) := by decide +kernel
theorem dX2_layOutLoaves_104 : decode cX2_layOutLoaves 104 = .ok (.iaload, 1) := by decide +kernel
theorem dX2_layOutLoaves_105 : decode cX2_layOutLoaves 105 = .ok (.aload_n 0, 1) := by decide +kernel
theorem dX2_layOutLoaves_106 : decode cX2_layOutLoaves 106 = .ok (.getfield 31, 3) := by decide +kernel
theorem dX2_layOutLoaves_109 : decode cX2_layOutLoaves 109 = .ok (.iload 4, 2) := by decide +kernel
theorem dX2_layOutLoaves_111 : decode cX2_layOutLoaves 111 = .ok (.iaload, 1) := by decide +kernel
theorem dX2_layOutLoaves_112 : decode cX2_layOutLoaves 112 = .ok (.iadd, 1) := by decide +kernel
theorem dX2_layOutLoaves_113 : decode cX2_layOutLoaves 113 = .ok (.invokevirtual 92, 3) := by decide +kernel
theorem dX2_layOutLoaves_116 : decode cX2_layOutLoaves 116 = .ok (.iastore, 1) := by decide +kernel
theorem dX2_layOutLoaves_117 : decode cX2_layOutLoaves 117 = .ok (.iinc 4 1, 3) := by decide +kernel
theorem dX2_layOutLoaves_120 : decode cX2_layOutLoaves 120 = .ok (.goto (-103), 3) := by decide +kernel
theorem dX2_layOutLoaves_123 : decode cX2_layOutLoaves 123 = .ok (.return_, 1) := by decide +kernel
theorem dX2_gain_0 : decode cX2_gain 0 = .ok (.iload_n 2, 1) := by decide +kernel
theorem dX2_gain_1 : decode cX2_gain 1 = .ok (.iconst 1, 1) := by decide +kernel
theorem dX2_gain_2 : decode cX2_gain 2 = .ok (.iload_n 1, 1) := by decide +kernel
theorem dX2_gain_3 : decode cX2_gain 3 = .ok (.ishl, 1) := by decide +kernel
theorem dX2_gain_4 : decode cX2_gain 4 = .ok (.ior, 1) := by decide +kernel
theorem dX2_gain_5 : decode cX2_gain 5 = .ok (.istore_n 3, 1) := by decide +kernel
theorem dX2_gain_6 : decode cX2_gain 6 = .ok (.aload_n 0, 1) := by decide +kernel
theorem dX2_gain_7 : decode cX2_gain 7 = .ok (.getfield 57, 3) := by decide +kernel
theorem dX2_gain_10 : decode cX2_gain 10 = .ok (.iload_n 1, 1) := by decide +kernel
theorem dX2_gain_11 : decode cX2_gain 11 = .ok (.ishr, 1) := by decide +kernel
theorem dX2_gain_12 : decode cX2_gain 12 = .ok (.iconst 1, 1) := by decide +kernel
theorem dX2_gain_13 : decode cX2_gain 13 = .ok (.iand, 1) := by decide +kernel
theorem dX2_gain_14 : decode cX2_gain 14 = .ok (.ifCond .ne 19, 3) := by decide +kernel
theorem dX2_gain_17 : decode cX2_gain 17 = .ok (.aload_n 0, 1) := by decide +kernel
theorem dX2_gain_18 : decode cX2_gain 18 = .ok (.getfield 34, 3) := by decide +kernel
theorem dX2_gain_21 : decode cX2_gain 21 = .ok (.iload_n 3, 1) := by decide +kernel
theorem dX2_gain_22 : decode cX2_gain 22 = .ok (.iaload, 1) := by decide +kernel
theorem dX2_gain_23 : decode cX2_gain 23 = .ok (.aload_n 0, 1) := by decide +kernel
theorem dX2_gain_24 : decode cX2_gain 24 = .ok (.getfield 34, 3) := by decide +kernel
theorem dX2_gain_27 : decode cX2_gain 27 = .ok (.iload_n 2, 1) := by decide +kernel
theorem dX2_gain_28 : decode cX2_gain 28 = .ok (.iaload, 1) := by decide +kernel
theorem dX2_gain_29 : decode cX2_gain 29 = .ok (.isub, 1) := by decide +kernel
theorem dX2_gain_30 : decode cX2_gain 30 = .ok (.goto 16, 3) := by decide +kernel
theorem dX2_gain_33 : decode cX2_gain 33 = .ok (.aload_n 0, 1) := by decide +kernel
theorem dX2_gain_34 : decode cX2_gain 34 = .ok (.getfield 37, 3) := by decide +kernel
theorem dX2_gain_37 : decode cX2_gain 37 = .ok (.iload_n 3, 1) := by decide +kernel
theorem dX2_gain_38 : decode cX2_gain 38 = .ok (.iaload, 1) := by decide +kernel
theorem dX2_gain_39 : decode cX2_gain 39 = .ok (.aload_n 0, 1) := by decide +kernel
theorem dX2_gain_40 : decode cX2_gain 40 = .ok (.getfield 37, 3) := by decide +kernel
theorem dX2_gain_43 : decode cX2_gain 43 = .ok (.iload_n 2, 1) := by decide +kernel
theorem dX2_gain_44 : decode cX2_gain 44 = .ok (.iaload, 1) := by decide +kernel
theorem dX2_gain_45 : decode cX2_gain 45 = .ok (.isub, 1) := by decide +kernel
theorem dX2_gain_46 : decode cX2_gain 46 = .ok (.ireturn, 1) := by decide +kernel
theorem dX2_ordersWith_0 : decode cX2_ordersWith 0 = .ok (.aload_n 0, 1) := by decide +kernel
theorem dX2_ordersWith_1 : decode cX2_ordersWith 1 = .ok (.invokevirtual 85, 3) := by decide +kernel
theorem dX2_ordersWith_4 : decode cX2_ordersWith 4 = .ok (.istore_n 3, 1) := by decide +kernel
theorem dX2_ordersWith_5 : decode cX2_ordersWith 5 = .ok (.aload_n 0, 1) := by decide +kernel
theorem dX2_ordersWith_6 : decode cX2_ordersWith 6 = .ok (.getfield 40, 3) := by decide +kernel
theorem dX2_ordersWith_9 : decode cX2_ordersWith 9 = .ok (.iconst 0, 1) := by decide +kernel
theorem dX2_ordersWith_10 : decode cX2_ordersWith 10 = .ok (.invokestatic 95, 3) := by decide +kernel
theorem dX2_ordersWith_13 : decode cX2_ordersWith 13 = .ok (.aload_n 0, 1) := by decide +kernel
theorem dX2_ordersWith_14 : decode cX2_ordersWith 14 = .ok (.getfield 40, 3) := by decide +kernel
theorem dX2_ordersWith_17 : decode cX2_ordersWith 17 = .ok (.iconst 0, 1) := by decide +kernel
theorem dX2_ordersWith_18 : decode cX2_ordersWith 18 = .ok (.iconst 1, 1) := by decide +kernel
theorem dX2_ordersWith_19 : decode cX2_ordersWith 19 = .ok (.iastore, 1) := by decide +kernel
theorem dX2_ordersWith_20 : decode cX2_ordersWith 20 = .ok (.iconst 0, 1) := by decide +kernel
theorem dX2_ordersWith_21 : decode cX2_ordersWith 21 = .ok (.istore 4, 2) := by decide +kernel
theorem dX2_ordersWith_23 : decode cX2_ordersWith 23 = .ok (.iload 4, 2) := by decide +kernel
theorem dX2_ordersWith_25 : decode cX2_ordersWith 25 = .ok (.iload_n 3, 1) := by decide +kernel
theorem dX2_ordersWith_26 : decode cX2_ordersWith 26 = .ok (.if_icmp .ge 96, 3) := by decide +kernel
theorem dX2_ordersWith_29 : decode cX2_ordersWith 29 = .ok (.aload_n 0, 1) := by decide +kernel
theorem dX2_ordersWith_30 : decode cX2_ordersWith 30 = .ok (.getfield 40, 3) := by decide +kernel
theorem dX2_ordersWith_33 : decode cX2_ordersWith 33 = .ok (.iload 4, 2) := by decide +kernel
theorem dX2_ordersWith_35 : decode cX2_ordersWith 35 = .ok (.iaload, 1) := by decide +kernel
theorem dX2_ordersWith_36 : decode cX2_ordersWith 36 = .ok (.ifCond .le 80, 3) := by decide +kernel
theorem dX2_ordersWith_39 : decode cX2_ordersWith 39 = .ok (.aload_n 0, 1) := by decide +kernel
theorem dX2_ordersWith_40 : decode cX2_ordersWith 40 = .ok (.getfield 28, 3) := by decide +kernel
theorem dX2_ordersWith_43 : decode cX2_ordersWith 43 = .ok (.iload 4, 2) := by decide +kernel
theorem dX2_ordersWith_45 : decode cX2_ordersWith 45 = .ok (.iaload, 1) := by decide +kernel
theorem dX2_ordersWith_46 : decode cX2_ordersWith 46 = .ok (.istore 5, 2) := by decide +kernel
theorem dX2_ordersWith_48 : decode cX2_ordersWith 48 = .ok (.iconst 0, 1) := by decide +kernel
theorem dX2_ordersWith_49 : decode cX2_ordersWith 49 = .ok (.istore 6, 2) := by decide +kernel
theorem dX2_ordersWith_51 : decode cX2_ordersWith 51 = .ok (.iload 6, 2) := by decide +kernel
theorem dX2_ordersWith_53 : decode cX2_ordersWith 53 = .ok (.aload_n 0, 1) := by decide +kernel
theorem dX2_ordersWith_54 : decode cX2_ordersWith 54 = .ok (.getfield 56, 3) := by decide +kernel
theorem dX2_ordersWith_57 : decode cX2_ordersWith 57 = .ok (.if_icmp .ge 59, 3) := by decide +kernel
theorem dX2_ordersWith_60 : decode cX2_ordersWith 60 = .ok (.iload 5, 2) := by decide +kernel
theorem dX2_ordersWith_62 : decode cX2_ordersWith 62 = .ok (.iload 6, 2) := by decide +kernel
theorem dX2_ordersWith_64 : decode cX2_ordersWith 64 = .ok (.ishr, 1) := by decide +kernel
theorem dX2_ordersWith_65 : decode cX2_ordersWith 65 = .ok (.iconst 1, 1) := by decide +kernel
theorem dX2_ordersWith_66 : decode cX2_ordersWith 66 = .ok (.iand, 1) := by decide +kernel
theorem dX2_ordersWith_67 : decode cX2_ordersWith 67 = .ok (.ifCond .eq 43, 3) := by decide +kernel
theorem dX2_ordersWith_70 : decode cX2_ordersWith 70 = .ok (.iload 6, 2) := by decide +kernel
theorem dX2_ordersWith_72 : decode cX2_ordersWith 72 = .ok (.iload_n 1, 1) := by decide +kernel
theorem dX2_ordersWith_73 : decode cX2_ordersWith 73 = .ok (.if_icmp .ne 15, 3) := by decide +kernel
theorem dX2_ordersWith_76 : decode cX2_ordersWith 76 = .ok (.aload_n 0, 1) := by decide +kernel
theorem dX2_ordersWith_77 : decode cX2_ordersWith 77 = .ok (.iload 6, 2) := by decide +kernel
theorem dX2_ordersWith_79 : decode cX2_ordersWith 79 = .ok (.iload 4, 2) := by decide +kernel
theorem dX2_ordersWith_81 : decode cX2_ordersWith 81 = .ok (.invokevirtual 101, 3) := by decide +kernel
theorem dX2_ordersWith_84 : decode cX2_ordersWith 84 = .ok (.iload_n 2, 1) := by decide +kernel
theorem dX2_ordersWith_85 : decode cX2_ordersWith 85 = .ok (.if_icmp .ne 25, 3) := by decide +kernel
theorem dX2_ordersWith_88 : decode cX2_ordersWith 88 = .ok (.aload_n 0, 1) := by decide +kernel
theorem dX2_ordersWith_89 : decode cX2_ordersWith 89 = .ok (.getfield 40, 3) := by decide +kernel
theorem dX2_ordersWith_92 : decode cX2_ordersWith 92 = .ok (.iload 4, 2) := by decide +kernel
theorem dX2_ordersWith_94 : decode cX2_ordersWith 94 = .ok (.iconst 1, 1) := by decide +kernel
theorem dX2_ordersWith_95 : decode cX2_ordersWith 95 = .ok (.iload 6, 2) := by decide +kernel
theorem dX2_ordersWith_97 : decode cX2_ordersWith 97 = .ok (.ishl, 1) := by decide +kernel
theorem dX2_ordersWith_98 : decode cX2_ordersWith 98 = .ok (.ior, 1) := by decide +kernel
theorem dX2_ordersWith_99 : decode cX2_ordersWith 99 = .ok (.dup2, 1) := by decide +kernel
theorem dX2_ordersWith_100 : decode cX2_ordersWith 100 = .ok (.iaload, 1) := by decide +kernel
theorem dX2_ordersWith_101 : decode cX2_ordersWith 101 = .ok (.aload_n 0, 1) := by decide +kernel
theorem dX2_ordersWith_102 : decode cX2_ordersWith 102 = .ok (.getfield 40, 3) := by decide +kernel
theorem dX2_ordersWith_105 : decode cX2_ordersWith 105 = .ok (.iload 4, 2) := by decide +kernel
theorem dX2_ordersWith_107 : decode cX2_ordersWith 107 = .ok (.iaload, 1) := by decide +kernel
theorem dX2_ordersWith_108 : decode cX2_ordersWith 108 = .ok (.iadd, 1) := by decide +kernel
theorem dX2_ordersWith_109 : decode cX2_ordersWith 109 = .ok (.iastore, 1) := by decide +kernel
theorem dX2_ordersWith_110 : decode cX2_ordersWith 110 = .ok (.iinc 6 1, 3) := by decide +kernel
theorem dX2_ordersWith_113 : decode cX2_ordersWith 113 = .ok (.goto (-62), 3) := by decide +kernel
theorem dX2_ordersWith_116 : decode cX2_ordersWith 116 = .ok (.iinc 4 1, 3) := by decide +kernel
theorem dX2_ordersWith_119 : decode cX2_ordersWith 119 = .ok (.goto (-96), 3) := by decide +kernel
theorem dX2_ordersWith_122 : decode cX2_ordersWith 122 = .ok (.aload_n 0, 1) := by decide +kernel
theorem dX2_ordersWith_123 : decode cX2_ordersWith 123 = .ok (.getfield 40, 3) := by decide +kernel
theorem dX2_ordersWith_126 : decode cX2_ordersWith 126 = .ok (.iload_n 3, 1) := by decide +kernel
theorem dX2_ordersWith_127 : decode cX2_ordersWith 127 = .ok (.iaload, 1) := by decide +kernel
theorem dX2_ordersWith_128 : decode cX2_ordersWith 128 = .ok (.ireturn, 1) := by decide +kernel
theorem dX2_passOn_0 : decode cX2_passOn 0 = .ok (.aload_n 0, 1) := by decide +kernel
theorem dX2_passOn_1 : decode cX2_passOn 1 = .ok (.invokevirtual 85, 3) := by decide +kernel
theorem dX2_passOn_4 : decode cX2_passOn 4 = .ok (.istore_n 2, 1) := by decide +kernel
theorem dX2_passOn_5 : decode cX2_passOn 5 = .ok (.aload_n 1, 1) := by decide +kernel
theorem dX2_passOn_6 : decode cX2_passOn 6 = .ok (.getfield 89, 3) := by decide +kernel
theorem dX2_passOn_9 : decode cX2_passOn 9 = .ok (.iconst 3, 1) := by decide +kernel
theorem dX2_passOn_10 : decode cX2_passOn 10 = .ok (.dup2, 1) := by decide +kernel
theorem dX2_passOn_11 : decode cX2_passOn 11 = .ok (.iaload, 1) := by decide +kernel
theorem dX2_passOn_12 : decode cX2_passOn 12 = .ok (.aload_n 0, 1) := by decide +kernel
theorem dX2_passOn_13 : decode cX2_passOn 13 = .ok (.getfield 31, 3) := by decide +kernel
theorem dX2_passOn_16 : decode cX2_passOn 16 = .ok (.iload_n 2, 1) := by decide +kernel
theorem dX2_passOn_17 : decode cX2_passOn 17 = .ok (.aload_n 0, 1) := by decide +kernel
theorem dX2_passOn_18 : decode cX2_passOn 18 = .ok (.getfield 57, 3) := by decide +kernel
theorem dX2_passOn_21 : decode cX2_passOn 21 = .ok (.iconst (-1), 1) := by decide +kernel
theorem dX2_passOn_22 : decode cX2_passOn 22 = .ok (.ixor, 1) := by decide +kernel
theorem dX2_passOn_23 : decode cX2_passOn 23 = .ok (.iand, 1) := by decide +kernel
theorem dX2_passOn_24 : decode cX2_passOn 24 = .ok (.iaload, 1) := by decide +kernel
theorem dX2_passOn_25 : decode cX2_passOn 25 = .ok (.iadd, 1) := by decide +kernel
theorem dX2_passOn_26 : decode cX2_passOn 26 = .ok (.iastore, 1) := by decide +kernel
theorem dX2_passOn_27 : decode cX2_passOn 27 = .ok (.aload_n 1, 1) := by decide +kernel
theorem dX2_passOn_28 : decode cX2_passOn 28 = .ok (.getfield 89, 3) := by decide +kernel
theorem dX2_passOn_31 : decode cX2_passOn 31 = .ok (.iconst 4, 1) := by decide +kernel
theorem dX2_passOn_32 : decode cX2_passOn 32 = .ok (.dup2, 1) := by decide +kernel
theorem dX2_passOn_33 : decode cX2_passOn 33 = .ok (.iaload, 1) := by decide +kernel
theorem dX2_passOn_34 : decode cX2_passOn 34 = .ok (.aload_n 0, 1) := by decide +kernel
theorem dX2_passOn_35 : decode cX2_passOn 35 = .ok (.getfield 31, 3) := by decide +kernel
theorem dX2_passOn_38 : decode cX2_passOn 38 = .ok (.aload_n 0, 1) := by decide +kernel
theorem dX2_passOn_39 : decode cX2_passOn 39 = .ok (.getfield 57, 3) := by decide +kernel
theorem dX2_passOn_42 : decode cX2_passOn 42 = .ok (.iaload, 1) := by decide +kernel
theorem dX2_passOn_43 : decode cX2_passOn 43 = .ok (.iadd, 1) := by decide +kernel
theorem dX2_passOn_44 : decode cX2_passOn 44 = .ok (.iastore, 1) := by decide +kernel
theorem dX2_passOn_45 : decode cX2_passOn 45 = .ok (.aload_n 1, 1) := by decide +kernel
theorem dX2_passOn_46 : decode cX2_passOn 46 = .ok (.getfield 89, 3) := by decide +kernel
theorem dX2_passOn_49 : decode cX2_passOn 49 = .ok (.iconst 2, 1) := by decide +kernel
theorem dX2_passOn_50 : decode cX2_passOn 50 = .ok (.dup2, 1) := by decide +kernel
theorem dX2_passOn_51 : decode cX2_passOn 51 = .ok (.iaload, 1) := by decide +kernel
theorem dX2_passOn_52 : decode cX2_passOn 52 = .ok (.iconst 1, 1) := by decide +kernel
theorem dX2_passOn_53 : decode cX2_passOn 53 = .ok (.iadd, 1) := by decide +kernel
theorem dX2_passOn_54 : decode cX2_passOn 54 = .ok (.iastore, 1) := by decide +kernel
theorem dX2_passOn_55 : decode cX2_passOn 55 = .ok (.return_, 1) := by decide +kernel
theorem dX3_init_0 : decode cX3_init 0 = .ok (.aload_n 0, 1) := by decide +kernel
theorem dX3_init_1 : decode cX3_init 1 = .ok (.invokespecial 1, 3) := by decide +kernel
theorem dX3_init_4 : decode cX3_init 4 = .ok (.aload_n 0, 1) := by decide +kernel
theorem dX3_init_5 : decode cX3_init 5 = .ok (.aload_n 1, 1) := by decide +kernel
theorem dX3_init_6 : decode cX3_init 6 = .ok (.putfield 7, 3) := by decide +kernel
theorem dX3_init_9 : decode cX3_init 9 = .ok (.aload_n 0, 1) := by decide +kernel
theorem dX3_init_10 : decode cX3_init 10 = .ok (.aload_n 2, 1) := by decide +kernel
theorem dX3_init_11 : decode cX3_init 11 = .ok (.putfield 13, 3) := by decide +kernel
theorem dX3_init_14 : decode cX3_init 14 = .ok (.aload_n 0, 1) := by decide +kernel
theorem dX3_init_15 : decode cX3_init 15 = .ok (.iload_n 3, 1) := by decide +kernel
theorem dX3_init_16 : decode cX3_init 16 = .ok (.putfield 16, 3) := by decide +kernel
theorem dX3_init_19 : decode cX3_init 19 = .ok (.aload_n 0, 1) := by decide +kernel
theorem dX3_init_20 : decode cX3_init 20 = .ok (.iload 4, 2) := by decide +kernel
theorem dX3_init_22 : decode cX3_init 22 = .ok (.putfield 20, 3) := by decide +kernel
theorem dX3_init_25 : decode cX3_init 25 = .ok (.return_, 1) := by decide +kernel
theorem dX3_mark_0 : decode cX3_mark 0 = .ok (.aload_n 0, 1) := by decide +kernel
theorem dX3_mark_1 : decode cX3_mark 1 = .ok (.getfield 13, 3) := by decide +kernel
theorem dX3_mark_4 : decode cX3_mark 4 = .ok (.iload_n 1, 1) := by decide +kernel
theorem dX3_mark_5 : decode cX3_mark 5 = .ok (.iconst 4, 1) := by decide +kernel
theorem dX3_mark_6 : decode cX3_mark 6 = .ok (.imul, 1) := by decide +kernel
theorem dX3_mark_7 : decode cX3_mark 7 = .ok (.iload_n 2, 1) := by decide +kernel
theorem dX3_mark_8 : decode cX3_mark 8 = .ok (.iadd, 1) := by decide +kernel
theorem dX3_mark_9 : decode cX3_mark 9 = .ok (.iaload, 1) := by decide +kernel
theorem dX3_mark_10 : decode cX3_mark 10 = .ok (.ireturn, 1) := by decide +kernel
theorem dX4_init_0 : decode cX4_init 0 = .ok (.aload_n 0, 1) := by decide +kernel
theorem dX4_init_1 : decode cX4_init 1 = .ok (.invokespecial 3, 3) := by decide +kernel
theorem dX4_init_4 : decode cX4_init 4 = .ok (.aload_n 0, 1) := by decide +kernel
theorem dX4_init_5 : decode cX4_init 5 = .ok (.bipush 8, 2) := by decide +kernel
theorem dX4_init_7 : decode cX4_init 7 = .ok (.newarray .int, 2) := by decide +kernel
theorem dX4_init_9 : decode cX4_init 9 = .ok (.putfield 9, 3) := by decide +kernel
theorem dX4_init_12 : decode cX4_init 12 = .ok (.aload_n 0, 1) := by decide +kernel
theorem dX4_init_13 : decode cX4_init 13 = .ok (.bipush 8, 2) := by decide +kernel
theorem dX4_init_15 : decode cX4_init 15 = .ok (.newarray .int, 2) := by decide +kernel
theorem dX4_init_17 : decode cX4_init 17 = .ok (.putfield 15, 3) := by decide +kernel
theorem dX4_init_20 : decode cX4_init 20 = .ok (.aload_n 0, 1) := by decide +kernel
theorem dX4_init_21 : decode cX4_init 21 = .ok (.bipush 8, 2) := by decide +kernel
theorem dX4_init_23 : decode cX4_init 23 = .ok (.newarray .int, 2) := by decide +kernel
theorem dX4_init_25 : decode cX4_init 25 = .ok (.putfield 18, 3) := by decide +kernel
theorem dX4_init_28 : decode cX4_init 28 = .ok (.return_, 1) := by decide +kernel
theorem dX4_begin_0 : decode cX4_begin 0 = .ok (.aload_n 0, 1) := by decide +kernel
theorem dX4_begin_1 : decode cX4_begin 1 = .ok (.iload_n 1, 1) := by decide +kernel
theorem dX4_begin_2 : decode cX4_begin 2 = .ok (.putfield 21, 3) := by decide +kernel
theorem dX4_begin_5 : decode cX4_begin 5 = .ok (.aload_n 0, 1) := by decide +kernel
theorem dX4_begin_6 : decode cX4_begin 6 = .ok (.getfield 18, 3) := by decide +kernel
theorem dX4_begin_9 : decode cX4_begin 9 = .ok (.iconst 0, 1) := by decide +kernel
theorem dX4_begin_10 : decode cX4_begin 10 = .ok (.invokestatic 25, 3) := by decide +kernel
theorem dX4_begin_13 : decode cX4_begin 13 = .ok (.return_, 1) := by decide +kernel
theorem dX4_drawRow_0 : decode cX4_drawRow 0 = .ok (.aload_n 1, 1) := by decide +kernel
theorem dX4_drawRow_1 : decode cX4_drawRow 1 = .ok (.invokevirtual 31, 3) := by decide +kernel
theorem dX4_drawRow_4 : decode cX4_drawRow 4 = .ok (.istore_n 3, 1) := by decide +kernel
theorem dX4_drawRow_5 : decode cX4_drawRow 5 = .ok (.iconst 0, 1) := by decide +kernel
theorem dX4_drawRow_6 : decode cX4_drawRow 6 = .ok (.istore 4, 2) := by decide +kernel
theorem dX4_drawRow_8 : decode cX4_drawRow 8 = .ok (.iload 4, 2) := by decide +kernel
theorem dX4_drawRow_10 : decode cX4_drawRow 10 = .ok (.aload_n 1, 1) := by decide +kernel
theorem dX4_drawRow_11 : decode cX4_drawRow 11 = .ok (.getfield 37, 3) := by decide +kernel
theorem dX4_drawRow_14 : decode cX4_drawRow 14 = .ok (.if_icmp .ge 90, 3) := by decide +kernel
theorem dX4_drawRow_17 : decode cX4_drawRow 17 = .ok (.iconst 0, 1) := by decide +kernel
theorem dX4_drawRow_18 : decode cX4_drawRow 18 = .ok (.istore 5, 2) := by decide +kernel
theorem dX4_drawRow_20 : decode cX4_drawRow 20 = .ok (.iconst 0, 1) := by decide +kernel
theorem dX4_drawRow_21 : decode cX4_drawRow 21 = .ok (.istore 6, 2) := by decide +kernel
theorem dX4_drawRow_23 : decode cX4_drawRow 23 = .ok (.iload 6, 2) := by decide +kernel
theorem dX4_drawRow_25 : decode cX4_drawRow 25 = .ok (.aload_n 1, 1) := by decide +kernel
theorem dX4_drawRow_26 : decode cX4_drawRow 26 = .ok (.getfield 37, 3) := by decide +kernel
theorem dX4_drawRow_29 : decode cX4_drawRow 29 = .ok (.if_icmp .ge 39, 3) := by decide +kernel
theorem dX4_drawRow_32 : decode cX4_drawRow 32 = .ok (.iload_n 3, 1) := by decide +kernel
theorem dX4_drawRow_33 : decode cX4_drawRow 33 = .ok (.iload 6, 2) := by decide +kernel
theorem dX4_drawRow_35 : decode cX4_drawRow 35 = .ok (.ishr, 1) := by decide +kernel
theorem dX4_drawRow_36 : decode cX4_drawRow 36 = .ok (.iconst 1, 1) := by decide +kernel
theorem dX4_drawRow_37 : decode cX4_drawRow 37 = .ok (.iand, 1) := by decide +kernel
theorem dX4_drawRow_38 : decode cX4_drawRow 38 = .ok (.ifCond .eq 24, 3) := by decide +kernel
theorem dX4_drawRow_41 : decode cX4_drawRow 41 = .ok (.aload_n 1, 1) := by decide +kernel
theorem dX4_drawRow_42 : decode cX4_drawRow 42 = .ok (.getfield 40, 3) := by decide +kernel
theorem dX4_drawRow_45 : decode cX4_drawRow 45 = .ok (.iload 6, 2) := by decide +kernel
theorem dX4_drawRow_47 : decode cX4_drawRow 47 = .ok (.iaload, 1) := by decide +kernel
theorem dX4_drawRow_48 : decode cX4_drawRow 48 = .ok (.iload_n 3, 1) := by decide +kernel
theorem dX4_drawRow_49 : decode cX4_drawRow 49 = .ok (.iand, 1) := by decide +kernel
theorem dX4_drawRow_50 : decode cX4_drawRow 50 = .ok (.ifCond .ne 12, 3) := by decide +kernel
theorem dX4_drawRow_53 : decode cX4_drawRow 53 = .ok (.iload 5, 2) := by decide +kernel
theorem dX4_drawRow_55 : decode cX4_drawRow 55 = .ok (.iconst 1, 1) := by decide +kernel
theorem dX4_drawRow_56 : decode cX4_drawRow 56 = .ok (.iload 6, 2) := by decide +kernel
theorem dX4_drawRow_58 : decode cX4_drawRow 58 = .ok (.ishl, 1) := by decide +kernel
theorem dX4_drawRow_59 : decode cX4_drawRow 59 = .ok (.ior, 1) := by decide +kernel
theorem dX4_drawRow_60 : decode cX4_drawRow 60 = .ok (.istore 5, 2) := by decide +kernel
theorem dX4_drawRow_62 : decode cX4_drawRow 62 = .ok (.iinc 6 1, 3) := by decide +kernel
theorem dX4_drawRow_65 : decode cX4_drawRow 65 = .ok (.goto (-42), 3) := by decide +kernel
theorem dX4_drawRow_68 : decode cX4_drawRow 68 = .ok (.aload_n 2, 1) := by decide +kernel
theorem dX4_drawRow_69 : decode cX4_drawRow 69 = .ok (.iload 4, 2) := by decide +kernel
theorem dX4_drawRow_71 : decode cX4_drawRow 71 = .ok (.aload_n 0, 1) := by decide +kernel
theorem dX4_drawRow_72 : decode cX4_drawRow 72 = .ok (.iload 5, 2) := by decide +kernel
theorem dX4_drawRow_74 : decode cX4_drawRow 74 = .ok (.ifCond .ne 7, 3) := by decide +kernel
theorem dX4_drawRow_77 : decode cX4_drawRow 77 = .ok (.iload_n 3, 1) := by decide +kernel
theorem dX4_drawRow_78 : decode cX4_drawRow 78 = .ok (.goto 5, 3) := by decide +kernel
theorem dX4_drawRow_81 : decode cX4_drawRow 81 = .ok (.iload 5, 2) := by decide +kernel
theorem dX4_drawRow_83 : decode cX4_drawRow 83 = .ok (.invokevirtual 43, 3) := by decide +kernel
theorem dX4_drawRow_86 : decode cX4_drawRow 86 = .ok (.iastore, 1) := by decide +kernel
theorem dX4_drawRow_87 : decode cX4_drawRow 87 = .ok (.iload_n 3, 1) := by decide +kernel
theorem dX4_drawRow_88 : decode cX4_drawRow 88 = .ok (.iconst 1, 1) := by decide +kernel
theorem dX4_drawRow_89 : decode cX4_drawRow 89 = .ok (.aload_n 2, 1) := by decide +kernel
theorem dX4_drawRow_90 : decode cX4_drawRow 90 = .ok (.iload 4, 2) := by decide +kernel
theorem dX4_drawRow_92 : decode cX4_drawRow 92 = .ok (.iaload, 1) := by decide +kernel
theorem dX4_drawRow_93 : decode cX4_drawRow 93 = .ok (.ishl, 1) := by decide +kernel
theorem dX4_drawRow_94 : decode cX4_drawRow 94 = .ok (.iconst (-1), 1) := by decide +kernel
theorem dX4_drawRow_95 : decode cX4_drawRow 95 = .ok (.ixor, 1) := by decide +kernel
theorem dX4_drawRow_96 : decode cX4_drawRow 96 = .ok (.iand, 1) := by decide +kernel
theorem dX4_drawRow_97 : decode cX4_drawRow 97 = .ok (.istore_n 3, 1) := by decide +kernel
theorem dX4_drawRow_98 : decode cX4_drawRow 98 = .ok (.iinc 4 1, 3) := by decide +kernel
theorem dX4_drawRow_101 : decode cX4_drawRow 101 = .ok (.goto (-93), 3) := by decide +kernel
theorem dX4_drawRow_104 : decode cX4_drawRow 104 = .ok (.return_, 1) := by decide +kernel
theorem dX4_drawOne_0 : decode cX4_drawOne 0 = .ok (.iload_n 1, 1) := by decide +kernel
theorem dX4_drawOne_1 : decode cX4_drawOne 1 = .ok (.invokestatic 47, 3) := by decide +kernel
theorem dX4_drawOne_4 : decode cX4_drawOne 4 = .ok (.istore_n 2, 1) := by decide +kernel
theorem dX4_drawOne_5 : decode cX4_drawOne 5 = .ok (.iload_n 2, 1) := by decide +kernel
theorem dX4_drawOne_6 : decode cX4_drawOne 6 = .ok (.iconst 1, 1) := by decide +kernel
theorem dX4_drawOne_7 : decode cX4_drawOne 7 = .ok (.if_icmp .ge 5, 3) := by decide +kernel
theorem dX4_drawOne_10 : decode cX4_drawOne 10 = .ok (.iconst 0, 1) := by decide +kernel
theorem dX4_drawOne_11 : decode cX4_drawOne 11 = .ok (.ireturn, 1) := by decide +kernel
theorem dX4_drawOne_12 : decode cX4_drawOne 12 = .ok (.aload_n 0, 1) := by decide +kernel
theorem dX4_drawOne_13 : decode cX4_drawOne 13 = .ok (.aload_n 0, 1) := by decide +kernel
theorem dX4_drawOne_14 : decode cX4_drawOne 14 = .ok (.getfield 21, 3) := by decide +kernel
theorem dX4_drawOne_17 : decode cX4_drawOne 17 = .ok (.sipush 1103, 3) := by decide +kernel
theorem dX4_drawOne_20 : decode cX4_drawOne 20 = .ok (.imul, 1) := by decide +kernel
theorem dX4_drawOne_21 : decode cX4_drawOne 21 = .ok (.sipush 12345, 3) := by decide +kernel
theorem dX4_drawOne_24 : decode cX4_drawOne 24 = .ok (.iadd, 1) := by decide +kernel
theorem dX4_drawOne_25 : decode cX4_drawOne 25 = .ok (.ldc 52, 2) := by decide +kernel
theorem dX4_drawOne_27 : decode cX4_drawOne 27 = .ok (.irem, 1) := by decide +kernel
theorem dX4_drawOne_28 : decode cX4_drawOne 28 = .ok (.putfield 21, 3) := by decide +kernel
theorem dX4_drawOne_31 : decode cX4_drawOne 31 = .ok (.iconst 0, 1) := by decide +kernel
theorem dX4_drawOne_32 : decode cX4_drawOne 32 = .ok (.istore_n 3, 1) := by decide +kernel
theorem dX4_drawOne_33 : decode cX4_drawOne 33 = .ok (.iconst 0, 1) := by decide +kernel
theorem dX4_drawOne_34 : decode cX4_drawOne 34 = .ok (.istore 4, 2) := by decide +kernel
theorem dX4_drawOne_36 : decode cX4_drawOne 36 = .ok (.iload 4, 2) := by decide +kernel
theorem dX4_drawOne_38 : decode cX4_drawOne 38 = .ok (.bipush 8, 2) := by decide +kernel
theorem dX4_drawOne_40 : decode cX4_drawOne 40 = .ok (.if_icmp .ge 34, 3) := by decide +kernel
theorem dX4_drawOne_43 : decode cX4_drawOne 43 = .ok (.iload_n 1, 1) := by decide +kernel
theorem dX4_drawOne_44 : decode cX4_drawOne 44 = .ok (.iload 4, 2) := by decide +kernel
theorem dX4_drawOne_46 : decode cX4_drawOne 46 = .ok (.ishr, 1) := by decide +kernel
theorem dX4_drawOne_47 : decode cX4_drawOne 47 = .ok (.iconst 1, 1) := by decide +kernel
theorem dX4_drawOne_48 : decode cX4_drawOne 48 = .ok (.iand, 1) := by decide +kernel
theorem dX4_drawOne_49 : decode cX4_drawOne 49 = .ok (.ifCond .eq 19, 3) := by decide +kernel
theorem dX4_drawOne_52 : decode cX4_drawOne 52 = .ok (.iload_n 3, 1) := by decide +kernel
theorem dX4_drawOne_53 : decode cX4_drawOne 53 = .ok (.aload_n 0, 1) := by decide +kernel
theorem dX4_drawOne_54 : decode cX4_drawOne 54 = .ok (.getfield 21, 3) := by decide +kernel
theorem dX4_drawOne_57 : decode cX4_drawOne 57 = .ok (.iload_n 2, 1) := by decide +kernel
theorem dX4_drawOne_58 : decode cX4_drawOne 58 = .ok (.irem, 1) := by decide +kernel
theorem dX4_drawOne_59 : decode cX4_drawOne 59 = .ok (.if_icmp .ne 6, 3) := by decide +kernel
theorem dX4_drawOne_62 : decode cX4_drawOne 62 = .ok (.iload 4, 2) := by decide +kernel
theorem dX4_drawOne_64 : decode cX4_drawOne 64 = .ok (.ireturn, 1) := by decide +kernel
theorem dX4_drawOne_65 : decode cX4_drawOne 65 = .ok (.iinc 3 1, 3) := by decide +kernel
theorem dX4_drawOne_68 : decode cX4_drawOne 68 = .ok (.iinc 4 1, 3) := by decide +kernel
theorem dX4_drawOne_71 : decode cX4_drawOne 71 = .ok (.goto (-35), 3) := by decide +kernel
theorem dX4_drawOne_74 : decode cX4_drawOne 74 = .ok (.iconst 0, 1) := by decide +kernel
theorem dX4_drawOne_75 : decode cX4_drawOne 75 = .ok (.ireturn, 1) := by decide +kernel
theorem dX4_gather_0 : decode cX4_gather 0 = .ok (.iconst 0, 1) := by decide +kernel
theorem dX4_gather_1 : decode cX4_gather 1 = .ok (.istore_n 3, 1) := by decide +kernel
theorem dX4_gather_2 : decode cX4_gather 2 = .ok (.iload_n 3, 1) := by decide +kernel
theorem dX4_gather_3 : decode cX4_gather 3 = .ok (.iload_n 2, 1) := by decide +kernel
theorem dX4_gather_4 : decode cX4_gather 4 = .ok (.if_icmp .ge 21, 3) := by decide +kernel
theorem dX4_gather_7 : decode cX4_gather 7 = .ok (.aload_n 0, 1) := by decide +kernel
theorem dX4_gather_8 : decode cX4_gather 8 = .ok (.getfield 18, 3) := by decide +kernel
theorem dX4_gather_11 : decode cX4_gather 11 = .ok (.iload_n 3, 1) := by decide +kernel
theorem dX4_gather_12 : decode cX4_gather 12 = .ok (.dup2, 1) := by decide +kernel
theorem dX4_gather_13 : decode cX4_gather 13 = .ok (.iaload, 1) := by decide +kernel
theorem dX4_gather_14 : decode cX4_gather 14 = .ok (.aload_n 1, 1) := by decide +kernel
theorem dX4_gather_15 : decode cX4_gather 15 = .ok (.iload_n 3, 1) := by decide +kernel
theorem dX4_gather_16 : decode cX4_gather 16 = .ok (.iaload, 1) := by decide +kernel
theorem dX4_gather_17 : decode cX4_gather 17 = .ok (.iadd, 1) := by decide +kernel
theorem dX4_gather_18 : decode cX4_gather 18 = .ok (.iastore, 1) := by decide +kernel
theorem dX4_gather_19 : decode cX4_gather 19 = .ok (.iinc 3 1, 3) := by decide +kernel
theorem dX4_gather_22 : decode cX4_gather 22 = .ok (.goto (-20), 3) := by decide +kernel
theorem dX4_gather_25 : decode cX4_gather 25 = .ok (.return_, 1) := by decide +kernel
theorem dX4_keep_0 : decode cX4_keep 0 = .ok (.iconst 0, 1) := by decide +kernel
theorem dX4_keep_1 : decode cX4_keep 1 = .ok (.istore_n 3, 1) := by decide +kernel
theorem dX4_keep_2 : decode cX4_keep 2 = .ok (.iconst 0, 1) := by decide +kernel
theorem dX4_keep_3 : decode cX4_keep 3 = .ok (.istore 4, 2) := by decide +kernel
theorem dX4_keep_5 : decode cX4_keep 5 = .ok (.iload 4, 2) := by decide +kernel
theorem dX4_keep_7 : decode cX4_keep 7 = .ok (.iload_n 2, 1) := by decide +kernel
theorem dX4_keep_8 : decode cX4_keep 8 = .ok (.if_icmp .ge 44, 3) := by decide +kernel
theorem dX4_keep_11 : decode cX4_keep 11 = .ok (.aload_n 0, 1) := by decide +kernel
theorem dX4_keep_12 : decode cX4_keep 12 = .ok (.getfield 9, 3) := by decide +kernel
theorem dX4_keep_15 : decode cX4_keep 15 = .ok (.iload 4, 2) := by decide +kernel
theorem dX4_keep_17 : decode cX4_keep 17 = .ok (.aload_n 0, 1) := by decide +kernel
theorem dX4_keep_18 : decode cX4_keep 18 = .ok (.getfield 18, 3) := by decide +kernel
theorem dX4_keep_21 : decode cX4_keep 21 = .ok (.iload 4, 2) := by decide +kernel
theorem dX4_keep_23 : decode cX4_keep 23 = .ok (.iaload, 1) := by decide +kernel
theorem dX4_keep_24 : decode cX4_keep 24 = .ok (.iastore, 1) := by decide +kernel
theorem dX4_keep_25 : decode cX4_keep 25 = .ok (.aload_n 0, 1) := by decide +kernel
theorem dX4_keep_26 : decode cX4_keep 26 = .ok (.getfield 15, 3) := by decide +kernel
theorem dX4_keep_29 : decode cX4_keep 29 = .ok (.aload_n 1, 1) := by decide +kernel
theorem dX4_keep_30 : decode cX4_keep 30 = .ok (.iload 4, 2) := by decide +kernel
theorem dX4_keep_32 : decode cX4_keep 32 = .ok (.iaload, 1) := by decide +kernel
theorem dX4_keep_33 : decode cX4_keep 33 = .ok (.iload 4, 2) := by decide +kernel
theorem dX4_keep_35 : decode cX4_keep 35 = .ok (.iastore, 1) := by decide +kernel
theorem dX4_keep_36 : decode cX4_keep 36 = .ok (.iload_n 3, 1) := by decide +kernel
theorem dX4_keep_37 : decode cX4_keep 37 = .ok (.aload_n 0, 1) := by decide +kernel
theorem dX4_keep_38 : decode cX4_keep 38 = .ok (.getfield 18, 3) := by decide +kernel
theorem dX4_keep_41 : decode cX4_keep 41 = .ok (.iload 4, 2) := by decide +kernel
theorem dX4_keep_43 : decode cX4_keep 43 = .ok (.iaload, 1) := by decide +kernel
theorem dX4_keep_44 : decode cX4_keep 44 = .ok (.iadd, 1) := by decide +kernel
theorem dX4_keep_45 : decode cX4_keep 45 = .ok (.istore_n 3, 1) := by decide +kernel
theorem dX4_keep_46 : decode cX4_keep 46 = .ok (.iinc 4 1, 3) := by decide +kernel
theorem dX4_keep_49 : decode cX4_keep 49 = .ok (.goto (-44), 3) := by decide +kernel
theorem dX4_keep_52 : decode cX4_keep 52 = .ok (.aload_n 0, 1) := by decide +kernel
theorem dX4_keep_53 : decode cX4_keep 53 = .ok (.iload_n 2, 1) := by decide +kernel
theorem dX4_keep_54 : decode cX4_keep 54 = .ok (.putfield 53, 3) := by decide +kernel
theorem dX4_keep_57 : decode cX4_keep 57 = .ok (.iload_n 3, 1) := by decide +kernel
theorem dX4_keep_58 : decode cX4_keep 58 = .ok (.ireturn, 1) := by decide +kernel
theorem dX5_init_0 : decode cX5_init 0 = .ok (.aload_n 0, 1) := by decide +kernel
theorem dX5_init_1 : decode cX5_init 1 = .ok (.invokespecial 3, 3) := by decide +kernel
theorem dX5_init_4 : decode cX5_init 4 = .ok (.aload_n 0, 1) := by decide +kernel
theorem dX5_init_5 : decode cX5_init 5 = .ok (.bipush 8, 2) := by decide +kernel
theorem dX5_init_7 : decode cX5_init 7 = .ok (.newarray .int, 2) := by decide +kernel
theorem dX5_init_9 : decode cX5_init 9 = .ok (.putfield 9, 3) := by decide +kernel
theorem dX5_init_12 : decode cX5_init 12 = .ok (.aload_n 0, 1) := by decide +kernel
theorem dX5_init_13 : decode cX5_init 13 = .ok (.bipush 8, 2) := by decide +kernel
theorem dX5_init_15 : decode cX5_init 15 = .ok (.newarray .int, 2) := by decide +kernel
theorem dX5_init_17 : decode cX5_init 17 = .ok (.putfield 15, 3) := by decide +kernel
theorem dX5_init_20 : decode cX5_init 20 = .ok (.return_, 1) := by decide +kernel
theorem dX5_add_0 : decode cX5_add 0 = .ok (.aload_n 0, 1) := by decide +kernel
theorem dX5_add_1 : decode cX5_add 1 = .ok (.getfield 18, 3) := by decide +kernel
theorem dX5_add_4 : decode cX5_add 4 = .ok (.bipush 8, 2) := by decide +kernel
theorem dX5_add_6 : decode cX5_add 6 = .ok (.if_icmp .ge 33, 3) := by decide +kernel
theorem dX5_add_9 : decode cX5_add 9 = .ok (.aload_n 0, 1) := by decide +kernel
theorem dX5_add_10 : decode cX5_add 10 = .ok (.getfield 9, 3) := by decide +kernel
theorem dX5_add_13 : decode cX5_add 13 = .ok (.aload_n 0, 1) := by decide +kernel
theorem dX5_add_14 : decode cX5_add 14 = .ok (.getfield 18, 3) := by decide +kernel
theorem dX5_add_17 : decode cX5_add 17 = .ok (.iload_n 1, 1) := by decide +kernel
theorem dX5_add_18 : decode cX5_add 18 = .ok (.iastore, 1) := by decide +kernel
theorem dX5_add_19 : decode cX5_add 19 = .ok (.aload_n 0, 1) := by decide +kernel
theorem dX5_add_20 : decode cX5_add 20 = .ok (.getfield 15, 3) := by decide +kernel
theorem dX5_add_23 : decode cX5_add 23 = .ok (.aload_n 0, 1) := by decide +kernel
theorem dX5_add_24 : decode cX5_add 24 = .ok (.getfield 18, 3) := by decide +kernel
theorem dX5_add_27 : decode cX5_add 27 = .ok (.iload_n 2, 1) := by decide +kernel
theorem dX5_add_28 : decode cX5_add 28 = .ok (.iastore, 1) := by decide +kernel
theorem dX5_add_29 : decode cX5_add 29 = .ok (.aload_n 0, 1) := by decide +kernel
theorem dX5_add_30 : decode cX5_add 30 = .ok (.dup, 1) := by decide +kernel
theorem dX5_add_31 : decode cX5_add 31 = .ok (.getfield 18, 3) := by decide +kernel
theorem dX5_add_34 : decode cX5_add 34 = .ok (.iconst 1, 1) := by decide +kernel
theorem dX5_add_35 : decode cX5_add 35 = .ok (.iadd, 1) := by decide +kernel
theorem dX5_add_36 : decode cX5_add 36 = .ok (.putfield 18, 3) := by decide +kernel
theorem dX5_add_39 : decode cX5_add 39 = .ok (.aload_n 0, 1) := by decide +kernel
theorem dX5_add_40 : decode cX5_add 40 = .ok (.getfield 18, 3) := by decide +kernel
theorem dX5_add_43 : decode cX5_add 43 = .ok (.ireturn, 1) := by decide +kernel
theorem dX5_falseIf_0 : decode cX5_falseIf 0 = .ok (.iconst 0, 1) := by decide +kernel
theorem dX5_falseIf_1 : decode cX5_falseIf 1 = .ok (.istore_n 3, 1) := by decide +kernel
theorem dX5_falseIf_2 : decode cX5_falseIf 2 = .ok (.iconst 0, 1) := by decide +kernel
theorem dX5_falseIf_3 : decode cX5_falseIf 3 = .ok (.istore 4, 2) := by decide +kernel
theorem dX5_falseIf_5 : decode cX5_falseIf 5 = .ok (.iload 4, 2) := by decide +kernel
theorem dX5_falseIf_7 : decode cX5_falseIf 7 = .ok (.aload_n 0, 1) := by decide +kernel
theorem dX5_falseIf_8 : decode cX5_falseIf 8 = .ok (.getfield 18, 3) := by decide +kernel
theorem dX5_falseIf_11 : decode cX5_falseIf 11 = .ok (.if_icmp .ge 34, 3) := by decide +kernel
theorem dX5_falseIf_14 : decode cX5_falseIf 14 = .ok (.aload_n 0, 1) := by decide +kernel
theorem dX5_falseIf_15 : decode cX5_falseIf 15 = .ok (.getfield 9, 3) := by decide +kernel
theorem dX5_falseIf_18 : decode cX5_falseIf 18 = .ok (.iload 4, 2) := by decide +kernel
theorem dX5_falseIf_20 : decode cX5_falseIf 20 = .ok (.iaload, 1) := by decide +kernel
theorem dX5_falseIf_21 : decode cX5_falseIf 21 = .ok (.iload_n 1, 1) := by decide +kernel
theorem dX5_falseIf_22 : decode cX5_falseIf 22 = .ok (.if_icmp .ne 17, 3) := by decide +kernel
theorem dX5_falseIf_25 : decode cX5_falseIf 25 = .ok (.aload_n 0, 1) := by decide +kernel
theorem dX5_falseIf_26 : decode cX5_falseIf 26 = .ok (.getfield 15, 3) := by decide +kernel
theorem dX5_falseIf_29 : decode cX5_falseIf 29 = .ok (.iload 4, 2) := by decide +kernel
theorem dX5_falseIf_31 : decode cX5_falseIf 31 = .ok (.iaload, 1) := by decide +kernel
theorem dX5_falseIf_32 : decode cX5_falseIf 32 = .ok (.iload_n 2, 1) := by decide +kernel
theorem dX5_falseIf_33 : decode cX5_falseIf 33 = .ok (.if_icmp .eq 6, 3) := by decide +kernel
theorem dX5_falseIf_36 : decode cX5_falseIf 36 = .ok (.iinc 3 1, 3) := by decide +kernel
theorem dX5_falseIf_39 : decode cX5_falseIf 39 = .ok (.iinc 4 1, 3) := by decide +kernel
theorem dX5_falseIf_42 : decode cX5_falseIf 42 = .ok (.goto (-37), 3) := by decide +kernel
theorem dX5_falseIf_45 : decode cX5_falseIf 45 = .ok (.iload_n 3, 1) := by decide +kernel
theorem dX5_falseIf_46 : decode cX5_falseIf 46 = .ok (.ireturn, 1) := by decide +kernel
theorem dX5_copyFrom_0 : decode cX5_copyFrom 0 = .ok (.aload_n 1, 1) := by decide +kernel
theorem dX5_copyFrom_1 : decode cX5_copyFrom 1 = .ok (.getfield 9, 3) := by decide +kernel
theorem dX5_copyFrom_4 : decode cX5_copyFrom 4 = .ok (.iconst 0, 1) := by decide +kernel
theorem dX5_copyFrom_5 : decode cX5_copyFrom 5 = .ok (.aload_n 0, 1) := by decide +kernel
theorem dX5_copyFrom_6 : decode cX5_copyFrom 6 = .ok (.getfield 9, 3) := by decide +kernel
theorem dX5_copyFrom_9 : decode cX5_copyFrom 9 = .ok (.iconst 0, 1) := by decide +kernel
theorem dX5_copyFrom_10 : decode cX5_copyFrom 10 = .ok (.bipush 8, 2) := by decide +kernel
theorem dX5_copyFrom_12 : decode cX5_copyFrom 12 = .ok (.invokestatic 22, 3) := by decide +kernel
theorem dX5_copyFrom_15 : decode cX5_copyFrom 15 = .ok (.aload_n 1, 1) := by decide +kernel
theorem dX5_copyFrom_16 : decode cX5_copyFrom 16 = .ok (.getfield 15, 3) := by decide +kernel
theorem dX5_copyFrom_19 : decode cX5_copyFrom 19 = .ok (.iconst 0, 1) := by decide +kernel
theorem dX5_copyFrom_20 : decode cX5_copyFrom 20 = .ok (.aload_n 0, 1) := by decide +kernel
theorem dX5_copyFrom_21 : decode cX5_copyFrom 21 = .ok (.getfield 15, 3) := by decide +kernel
theorem dX5_copyFrom_24 : decode cX5_copyFrom 24 = .ok (.iconst 0, 1) := by decide +kernel
theorem dX5_copyFrom_25 : decode cX5_copyFrom 25 = .ok (.bipush 8, 2) := by decide +kernel
theorem dX5_copyFrom_27 : decode cX5_copyFrom 27 = .ok (.invokestatic 22, 3) := by decide +kernel
theorem dX5_copyFrom_30 : decode cX5_copyFrom 30 = .ok (.aload_n 0, 1) := by decide +kernel
theorem dX5_copyFrom_31 : decode cX5_copyFrom 31 = .ok (.aload_n 1, 1) := by decide +kernel
theorem dX5_copyFrom_32 : decode cX5_copyFrom 32 = .ok (.getfield 18, 3) := by decide +kernel
theorem dX5_copyFrom_35 : decode cX5_copyFrom 35 = .ok (.putfield 18, 3) := by decide +kernel
theorem dX5_copyFrom_38 : decode cX5_copyFrom 38 = .ok (.return_, 1) := by decide +kernel
theorem dX6_init_0 : decode cX6_init 0 = .ok (.aload_n 0, 1) := by decide +kernel
theorem dX6_init_1 : decode cX6_init 1 = .ok (.invokespecial 3, 3) := by decide +kernel
theorem dX6_init_4 : decode cX6_init 4 = .ok (.aload_n 0, 1) := by decide +kernel
theorem dX6_init_5 : decode cX6_init 5 = .ok (.sipush 168, 3) := by decide +kernel
theorem dX6_init_8 : decode cX6_init 8 = .ok (.newarray .int, 2) := by decide +kernel
theorem dX6_init_10 : decode cX6_init 10 = .ok (.putfield 9, 3) := by decide +kernel
theorem dX6_init_13 : decode cX6_init 13 = .ok (.aload_n 0, 1) := by decide +kernel
theorem dX6_init_14 : decode cX6_init 14 = .ok (.sipush 256, 3) := by decide +kernel
theorem dX6_init_17 : decode cX6_init 17 = .ok (.newarray .int, 2) := by decide +kernel
theorem dX6_init_19 : decode cX6_init 19 = .ok (.putfield 15, 3) := by decide +kernel
theorem dX6_init_22 : decode cX6_init 22 = .ok (.aload_n 0, 1) := by decide +kernel
theorem dX6_init_23 : decode cX6_init 23 = .ok (.sipush 256, 3) := by decide +kernel
theorem dX6_init_26 : decode cX6_init 26 = .ok (.newarray .int, 2) := by decide +kernel
theorem dX6_init_28 : decode cX6_init 28 = .ok (.putfield 18, 3) := by decide +kernel
theorem dX6_init_31 : decode cX6_init 31 = .ok (.aload_n 0, 1) := by decide +kernel
theorem dX6_init_32 : decode cX6_init 32 = .ok (.bipush 8, 2) := by decide +kernel
theorem dX6_init_34 : decode cX6_init 34 = .ok (.newarray .int, 2) := by decide +kernel
theorem dX6_init_36 : decode cX6_init 36 = .ok (.putfield 21, 3) := by decide +kernel
theorem dX6_init_39 : decode cX6_init 39 = .ok (.return_, 1) := by decide +kernel
theorem dX6_setCost_0 : decode cX6_setCost 0 = .ok (.aload_n 0, 1) := by decide +kernel
theorem dX6_setCost_1 : decode cX6_setCost 1 = .ok (.getfield 9, 3) := by decide +kernel
theorem dX6_setCost_4 : decode cX6_setCost 4 = .ok (.iload_n 1, 1) := by decide +kernel
theorem dX6_setCost_5 : decode cX6_setCost 5 = .ok (.bipush 21, 2) := by decide +kernel
theorem dX6_setCost_7 : decode cX6_setCost 7 = .ok (.imul, 1) := by decide +kernel
theorem dX6_setCost_8 : decode cX6_setCost 8 = .ok (.iload_n 2, 1) := by decide +kernel
theorem dX6_setCost_9 : decode cX6_setCost 9 = .ok (.iadd, 1) := by decide +kernel
theorem dX6_setCost_10 : decode cX6_setCost 10 = .ok (.iload_n 3, 1) := by decide +kernel
theorem dX6_setCost_11 : decode cX6_setCost 11 = .ok (.iastore, 1) := by decide +kernel
theorem dX6_setCost_12 : decode cX6_setCost 12 = .ok (.return_, 1) := by decide +kernel
theorem dX6_placed_0 : decode cX6_placed 0 = .ok (.aload_n 0, 1) := by decide +kernel
theorem dX6_placed_1 : decode cX6_placed 1 = .ok (.getfield 24, 3) := by decide +kernel
theorem dX6_placed_4 : decode cX6_placed 4 = .ok (.ifCond .le 21, 3) := by decide +kernel
theorem dX6_placed_7 : decode cX6_placed 7 = .ok (.iload_n 1, 1) := by decide +kernel
theorem dX6_placed_8 : decode cX6_placed 8 = .ok (.ifCond .lt 17, 3) := by decide +kernel
theorem dX6_placed_11 : decode cX6_placed 11 = .ok (.iload_n 1, 1) := by decide +kernel
theorem dX6_placed_12 : decode cX6_placed 12 = .ok (.iload_n 2, 1) := by decide +kernel
theorem dX6_placed_13 : decode cX6_placed 13 = .ok (.if_icmp .ge 12, 3) := by decide +kernel
theorem dX6_placed_16 : decode cX6_placed 16 = .ok (.aload_n 0, 1) := by decide +kernel
theorem dX6_placed_17 : decode cX6_placed 17 = .ok (.getfield 21, 3) := by decide +kernel
theorem dX6_placed_20 : decode cX6_placed 20 = .ok (.iload_n 1, 1) := by decide +kernel
theorem dX6_placed_21 : decode cX6_placed 21 = .ok (.iaload, 1) := by decide +kernel
theorem dX6_placed_22 : decode cX6_placed 22 = .ok (.goto 4, 3) := by decide +kernel
theorem dX6_placed_25 : decode cX6_placed 25 = .ok (.iconst (-1), 1) := by decide +kernel
theorem dX6_placed_26 : decode cX6_placed 26 = .ok (.ireturn, 1) := by decide +kernel
theorem dX6_run_0 : decode cX6_run 0 = .ok (.aload_n 1, 1) := by decide +kernel
theorem dX6_run_1 : decode cX6_run 1 = .ok (.invokevirtual 28, 3) := by decide +kernel
theorem dX6_run_4 : decode cX6_run 4 = .ok (.istore_n 3, 1) := by decide +kernel
theorem dX6_run_5 : decode cX6_run 5 = .ok (.aload_n 0, 1) := by decide +kernel
theorem dX6_run_6 : decode cX6_run 6 = .ok (.getfield 15, 3) := by decide +kernel
theorem dX6_run_9 : decode cX6_run 9 = .ok (.iload_n 3, 1) := by decide +kernel
theorem dX6_run_10 : decode cX6_run 10 = .ok (.iconst 0, 1) := by decide +kernel
theorem dX6_run_11 : decode cX6_run 11 = .ok (.iastore, 1) := by decide +kernel
theorem dX6_run_12 : decode cX6_run 12 = .ok (.aload_n 0, 1) := by decide +kernel
theorem dX6_run_13 : decode cX6_run 13 = .ok (.getfield 18, 3) := by decide +kernel
theorem dX6_run_16 : decode cX6_run 16 = .ok (.iload_n 3, 1) := by decide +kernel
theorem dX6_run_17 : decode cX6_run 17 = .ok (.iconst 1, 1) := by decide +kernel
theorem dX6_run_18 : decode cX6_run 18 = .ok (.iastore, 1) := by decide +kernel
theorem dX6_run_19 : decode cX6_run 19 = .ok (.iload_n 3, 1) := by decide +kernel
theorem dX6_run_20 : decode cX6_run 20 = .ok (.iconst 1, 1) := by decide +kernel
theorem dX6_run_21 : decode cX6_run 21 = .ok (.isub, 1) := by decide +kernel
theorem dX6_run_22 : decode cX6_run 22 = .ok (.istore 4, 2) := by decide +kernel
theorem dX6_run_24 : decode cX6_run 24 = .ok (.iload 4, 2) := by decide +kernel
theorem dX6_run_26 : decode cX6_run 26 = .ok (.ifCond .lt 17, 3) := by decide +kernel
theorem dX6_run_29 : decode cX6_run 29 = .ok (.aload_n 0, 1) := by decide +kernel
theorem dX6_run_30 : decode cX6_run 30 = .ok (.aload_n 1, 1) := by decide +kernel
theorem dX6_run_31 : decode cX6_run 31 = .ok (.iload 4, 2) := by decide +kernel
theorem dX6_run_33 : decode cX6_run 33 = .ok (.iload_n 2, 1) := by decide +kernel
theorem dX6_run_34 : decode cX6_run 34 = .ok (.invokevirtual 34, 3) := by decide +kernel
theorem dX6_run_37 : decode cX6_run 37 = .ok (.iinc 4 (-1), 3) := by decide +kernel
theorem dX6_run_40 : decode cX6_run 40 = .ok (.goto (-16), 3) := by decide +kernel
theorem dX6_run_43 : decode cX6_run 43 = .ok (.aload_n 0, 1) := by decide +kernel
theorem dX6_run_44 : decode cX6_run 44 = .ok (.aload_n 0, 1) := by decide +kernel
theorem dX6_run_45 : decode cX6_run 45 = .ok (.getfield 15, 3) := by decide +kernel
theorem dX6_run_48 : decode cX6_run 48 = .ok (.iconst 0, 1) := by decide +kernel
theorem dX6_run_49 : decode cX6_run 49 = .ok (.iaload, 1) := by decide +kernel
theorem dX6_run_50 : decode cX6_run 50 = .ok (.putfield 38, 3) := by decide +kernel
theorem dX6_run_53 : decode cX6_run 53 = .ok (.aload_n 0, 1) := by decide +kernel
theorem dX6_run_54 : decode cX6_run 54 = .ok (.aload_n 0, 1) := by decide +kernel
theorem dX6_run_55 : decode cX6_run 55 = .ok (.getfield 18, 3) := by decide +kernel
theorem dX6_run_58 : decode cX6_run 58 = .ok (.iconst 0, 1) := by decide +kernel
theorem dX6_run_59 : decode cX6_run 59 = .ok (.iaload, 1) := by decide +kernel
theorem dX6_run_60 : decode cX6_run 60 = .ok (.putfield 24, 3) := by decide +kernel
theorem dX6_run_63 : decode cX6_run 63 = .ok (.aload_n 0, 1) := by decide +kernel
theorem dX6_run_64 : decode cX6_run 64 = .ok (.getfield 24, 3) := by decide +kernel
theorem dX6_run_67 : decode cX6_run 67 = .ok (.ifCond .le 9, 3) := by decide +kernel
theorem dX6_run_70 : decode cX6_run 70 = .ok (.aload_n 0, 1) := by decide +kernel
theorem dX6_run_71 : decode cX6_run 71 = .ok (.aload_n 1, 1) := by decide +kernel
theorem dX6_run_72 : decode cX6_run 72 = .ok (.iload_n 2, 1) := by decide +kernel
theorem dX6_run_73 : decode cX6_run 73 = .ok (.invokevirtual 41, 3) := by decide +kernel
theorem dX6_run_76 : decode cX6_run 76 = .ok (.aload_n 0, 1) := by decide +kernel
theorem dX6_run_77 : decode cX6_run 77 = .ok (.iconst 1, 1) := by decide +kernel
theorem dX6_run_78 : decode cX6_run 78 = .ok (.putfield 45, 3) := by decide +kernel
theorem dX6_run_81 : decode cX6_run 81 = .ok (.return_, 1) := by decide +kernel
theorem dX6_lookFrom_0 : decode cX6_lookFrom 0 = .ok (.ldc 49, 2) := by decide +kernel
theorem dX6_lookFrom_2 : decode cX6_lookFrom 2 = .ok (.istore 4, 2) := by decide +kernel
theorem dX6_lookFrom_4 : decode cX6_lookFrom 4 = .ok (.iconst 0, 1) := by decide +kernel
theorem dX6_lookFrom_5 : decode cX6_lookFrom 5 = .ok (.istore 5, 2) := by decide +kernel
theorem dX6_lookFrom_7 : decode cX6_lookFrom 7 = .ok (.aload_n 1, 1) := by decide +kernel
