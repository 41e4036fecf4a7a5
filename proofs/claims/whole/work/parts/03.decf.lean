theorem dX11_year_266 : decode cX11_year 266 = .ok (.iinc 6 1, 3) := by decide +kernel
theorem dX11_year_269 : decode cX11_year 269 = .ok (.goto (-35), 3) := by decide +kernel
theorem dX11_year_272 : decode cX11_year 272 = .ok (.iload 6, 2) := by decide +kernel
theorem dX11_year_274 : decode cX11_year 274 = .ok (.istore 4, 2) := by decide +kernel
theorem dX11_year_276 : decode cX11_year 276 = .ok (.iinc 5 1, 3) := by decide +kernel
theorem dX11_year_279 : decode cX11_year 279 = .ok (.goto (-54), 3) := by decide +kernel
theorem dX11_year_282 : decode cX11_year 282 = .ok (.iload 4, 2) := by decide +kernel
theorem dX11_year_284 : decode cX11_year 284 = .ok (.ireturn, 1) := by decide +kernel
theorem dX11_leads_0 : decode cX11_leads 0 = .ok (.iconst 0, 1) := by decide +kernel
theorem dX11_leads_1 : decode cX11_leads 1 = .ok (.istore 4, 2) := by decide +kernel
theorem dX11_leads_3 : decode cX11_leads 3 = .ok (.iload 4, 2) := by decide +kernel
theorem dX11_leads_5 : decode cX11_leads 5 = .ok (.iload_n 3, 1) := by decide +kernel
theorem dX11_leads_6 : decode cX11_leads 6 = .ok (.if_icmp .gt 35, 3) := by decide +kernel
theorem dX11_leads_9 : decode cX11_leads 9 = .ok (.aload_n 0, 1) := by decide +kernel
theorem dX11_leads_10 : decode cX11_leads 10 = .ok (.getfield 79, 3) := by decide +kernel
theorem dX11_leads_13 : decode cX11_leads 13 = .ok (.sipush 256, 3) := by decide +kernel
theorem dX11_leads_16 : decode cX11_leads 16 = .ok (.iload_n 1, 1) := by decide +kernel
theorem dX11_leads_17 : decode cX11_leads 17 = .ok (.imul, 1) := by decide +kernel
theorem dX11_leads_18 : decode cX11_leads 18 = .ok (.iload 4, 2) := by decide +kernel
theorem dX11_leads_20 : decode cX11_leads 20 = .ok (.iadd, 1) := by decide +kernel
theorem dX11_leads_21 : decode cX11_leads 21 = .ok (.baload, 1) := by decide +kernel
theorem dX11_leads_22 : decode cX11_leads 22 = .ok (.ifCond .eq 13, 3) := by decide +kernel
theorem dX11_leads_25 : decode cX11_leads 25 = .ok (.iload_n 2, 1) := by decide +kernel
theorem dX11_leads_26 : decode cX11_leads 26 = .ok (.iload 4, 2) := by decide +kernel
theorem dX11_leads_28 : decode cX11_leads 28 = .ok (.ior, 1) := by decide +kernel
theorem dX11_leads_29 : decode cX11_leads 29 = .ok (.iload_n 3, 1) := by decide +kernel
theorem dX11_leads_30 : decode cX11_leads 30 = .ok (.if_icmp .ne 5, 3) := by decide +kernel
theorem dX11_leads_33 : decode cX11_leads 33 = .ok (.iconst 1, 1) := by decide +kernel
theorem dX11_leads_34 : decode cX11_leads 34 = .ok (.ireturn, 1) := by decide +kernel
theorem dX11_leads_35 : decode cX11_leads 35 = .ok (.iinc 4 1, 3) := by decide +kernel
theorem dX11_leads_38 : decode cX11_leads 38 = .ok (.goto (-35), 3) := by decide +kernel
theorem dX11_leads_41 : decode cX11_leads 41 = .ok (.iconst 0, 1) := by decide +kernel
theorem dX11_leads_42 : decode cX11_leads 42 = .ok (.ireturn, 1) := by decide +kernel
theorem dX11_chanceOf_0 : decode cX11_chanceOf 0 = .ok (.aload_n 0, 1) := by decide +kernel
theorem dX11_chanceOf_1 : decode cX11_chanceOf 1 = .ok (.invokevirtual 308, 3) := by decide +kernel
theorem dX11_chanceOf_4 : decode cX11_chanceOf 4 = .ok (.iconst 0, 1) := by decide +kernel
theorem dX11_chanceOf_5 : decode cX11_chanceOf 5 = .ok (.istore_n 3, 1) := by decide +kernel
theorem dX11_chanceOf_6 : decode cX11_chanceOf 6 = .ok (.iconst 0, 1) := by decide +kernel
theorem dX11_chanceOf_7 : decode cX11_chanceOf 7 = .ok (.istore 4, 2) := by decide +kernel
theorem dX11_chanceOf_9 : decode cX11_chanceOf 9 = .ok (.iload 4, 2) := by decide +kernel
theorem dX11_chanceOf_11 : decode cX11_chanceOf 11 = .ok (.aload_n 0, 1) := by decide +kernel
theorem dX11_chanceOf_12 : decode cX11_chanceOf 12 = .ok (.invokevirtual 302, 3) := by decide +kernel
theorem dX11_chanceOf_15 : decode cX11_chanceOf 15 = .ok (.if_icmp .gt 52, 3) := by decide +kernel
theorem dX11_chanceOf_18 : decode cX11_chanceOf 18 = .ok (.aload_n 0, 1) := by decide +kernel
theorem dX11_chanceOf_19 : decode cX11_chanceOf 19 = .ok (.iload 4, 2) := by decide +kernel
theorem dX11_chanceOf_21 : decode cX11_chanceOf 21 = .ok (.iload_n 1, 1) := by decide +kernel
theorem dX11_chanceOf_22 : decode cX11_chanceOf 22 = .ok (.invokevirtual 305, 3) := by decide +kernel
theorem dX11_chanceOf_25 : decode cX11_chanceOf 25 = .ok (.ifCond .eq 36, 3) := by decide +kernel
theorem dX11_chanceOf_28 : decode cX11_chanceOf 28 = .ok (.aload_n 0, 1) := by decide +kernel
theorem dX11_chanceOf_29 : decode cX11_chanceOf 29 = .ok (.iload 4, 2) := by decide +kernel
theorem dX11_chanceOf_31 : decode cX11_chanceOf 31 = .ok (.iload_n 1, 1) := by decide +kernel
theorem dX11_chanceOf_32 : decode cX11_chanceOf 32 = .ok (.invokevirtual 299, 3) := by decide +kernel
theorem dX11_chanceOf_35 : decode cX11_chanceOf 35 = .ok (.iload_n 2, 1) := by decide +kernel
theorem dX11_chanceOf_36 : decode cX11_chanceOf 36 = .ok (.if_icmp .ne 25, 3) := by decide +kernel
theorem dX11_chanceOf_39 : decode cX11_chanceOf 39 = .ok (.iload_n 3, 1) := by decide +kernel
theorem dX11_chanceOf_40 : decode cX11_chanceOf 40 = .ok (.aload_n 0, 1) := by decide +kernel
theorem dX11_chanceOf_41 : decode cX11_chanceOf 41 = .ok (.getfield 64, 3) := by decide +kernel
theorem dX11_chanceOf_44 : decode cX11_chanceOf 44 = .ok (.iload 4, 2) := by decide +kernel
theorem dX11_chanceOf_46 : decode cX11_chanceOf 46 = .ok (.iaload, 1) := by decide +kernel
theorem dX11_chanceOf_47 : decode cX11_chanceOf 47 = .ok (.aload_n 0, 1) := by decide +kernel
theorem dX11_chanceOf_48 : decode cX11_chanceOf 48 = .ok (.getfield 67, 3) := by decide +kernel
theorem dX11_chanceOf_51 : decode cX11_chanceOf 51 = .ok (.iload 4, 2) := by decide +kernel
theorem dX11_chanceOf_53 : decode cX11_chanceOf 53 = .ok (.iconst 1, 1) := by decide +kernel
theorem dX11_chanceOf_54 : decode cX11_chanceOf 54 = .ok (.iload_n 1, 1) := by decide +kernel
theorem dX11_chanceOf_55 : decode cX11_chanceOf 55 = .ok (.ishl, 1) := by decide +kernel
theorem dX11_chanceOf_56 : decode cX11_chanceOf 56 = .ok (.ior, 1) := by decide +kernel
theorem dX11_chanceOf_57 : decode cX11_chanceOf 57 = .ok (.iaload, 1) := by decide +kernel
theorem dX11_chanceOf_58 : decode cX11_chanceOf 58 = .ok (.imul, 1) := by decide +kernel
theorem dX11_chanceOf_59 : decode cX11_chanceOf 59 = .ok (.iadd, 1) := by decide +kernel
theorem dX11_chanceOf_60 : decode cX11_chanceOf 60 = .ok (.istore_n 3, 1) := by decide +kernel
theorem dX11_chanceOf_61 : decode cX11_chanceOf 61 = .ok (.iinc 4 1, 3) := by decide +kernel
theorem dX11_chanceOf_64 : decode cX11_chanceOf 64 = .ok (.goto (-55), 3) := by decide +kernel
theorem dX11_chanceOf_67 : decode cX11_chanceOf 67 = .ok (.iload_n 3, 1) := by decide +kernel
theorem dX11_chanceOf_68 : decode cX11_chanceOf 68 = .ok (.ireturn, 1) := by decide +kernel
theorem dX11_chances_0 : decode cX11_chances 0 = .ok (.aload_n 0, 1) := by decide +kernel
theorem dX11_chances_1 : decode cX11_chances 1 = .ok (.iload_n 1, 1) := by decide +kernel
theorem dX11_chances_2 : decode cX11_chances 2 = .ok (.invokevirtual 134, 3) := by decide +kernel
theorem dX11_chances_5 : decode cX11_chances 5 = .ok (.ifCond .eq 13, 3) := by decide +kernel
theorem dX11_chances_8 : decode cX11_chances 8 = .ok (.iload_n 2, 1) := by decide +kernel
theorem dX11_chances_9 : decode cX11_chances 9 = .ok (.iconst 0, 1) := by decide +kernel
theorem dX11_chances_10 : decode cX11_chances 10 = .ok (.bipush 20, 2) := by decide +kernel
theorem dX11_chances_12 : decode cX11_chances 12 = .ok (.invokestatic 110, 3) := by decide +kernel
theorem dX11_chances_15 : decode cX11_chances 15 = .ok (.ifCond .ne 5, 3) := by decide +kernel
theorem dX11_chances_18 : decode cX11_chances 18 = .ok (.iconst (-1), 1) := by decide +kernel
theorem dX11_chances_19 : decode cX11_chances 19 = .ok (.ireturn, 1) := by decide +kernel
theorem dX11_chances_20 : decode cX11_chances 20 = .ok (.aload_n 0, 1) := by decide +kernel
theorem dX11_chances_21 : decode cX11_chances 21 = .ok (.aload_n 0, 1) := by decide +kernel
theorem dX11_chances_22 : decode cX11_chances 22 = .ok (.getfield 17, 3) := by decide +kernel
theorem dX11_chances_25 : decode cX11_chances 25 = .ok (.bipush 42, 2) := by decide +kernel
theorem dX11_chances_27 : decode cX11_chances 27 = .ok (.iaload, 1) := by decide +kernel
theorem dX11_chances_28 : decode cX11_chances 28 = .ok (.invokevirtual 142, 3) := by decide +kernel
theorem dX11_chances_31 : decode cX11_chances 31 = .ok (.aload_n 0, 1) := by decide +kernel
theorem dX11_chances_32 : decode cX11_chances 32 = .ok (.iload_n 1, 1) := by decide +kernel
theorem dX11_chances_33 : decode cX11_chances 33 = .ok (.iload_n 2, 1) := by decide +kernel
theorem dX11_chances_34 : decode cX11_chances 34 = .ok (.invokevirtual 345, 3) := by decide +kernel
theorem dX11_chances_37 : decode cX11_chances 37 = .ok (.ireturn, 1) := by decide +kernel
theorem dX11_never_0 : decode cX11_never 0 = .ok (.aload_n 0, 1) := by decide +kernel
theorem dX11_never_1 : decode cX11_never 1 = .ok (.iload_n 1, 1) := by decide +kernel
theorem dX11_never_2 : decode cX11_never 2 = .ok (.invokevirtual 134, 3) := by decide +kernel
theorem dX11_never_5 : decode cX11_never 5 = .ok (.ifCond .eq 12, 3) := by decide +kernel
theorem dX11_never_8 : decode cX11_never 8 = .ok (.iload_n 2, 1) := by decide +kernel
theorem dX11_never_9 : decode cX11_never 9 = .ok (.iconst 1, 1) := by decide +kernel
theorem dX11_never_10 : decode cX11_never 10 = .ok (.iconst 4, 1) := by decide +kernel
theorem dX11_never_11 : decode cX11_never 11 = .ok (.invokestatic 110, 3) := by decide +kernel
theorem dX11_never_14 : decode cX11_never 14 = .ok (.ifCond .ne 7, 3) := by decide +kernel
theorem dX11_never_17 : decode cX11_never 17 = .ok (.ldc2_w 348, 3) := by decide +kernel
theorem dX11_never_20 : decode cX11_never 20 = .ok (.lreturn, 1) := by decide +kernel
theorem dX11_never_21 : decode cX11_never 21 = .ok (.lconst 1, 1) := by decide +kernel
theorem dX11_never_22 : decode cX11_never 22 = .ok (.lstore_n 3, 1) := by decide +kernel
theorem dX11_never_23 : decode cX11_never 23 = .ok (.aload_n 0, 1) := by decide +kernel
theorem dX11_never_24 : decode cX11_never 24 = .ok (.aload_n 0, 1) := by decide +kernel
theorem dX11_never_25 : decode cX11_never 25 = .ok (.getfield 17, 3) := by decide +kernel
theorem dX11_never_28 : decode cX11_never 28 = .ok (.bipush 42, 2) := by decide +kernel
theorem dX11_never_30 : decode cX11_never 30 = .ok (.iaload, 1) := by decide +kernel
theorem dX11_never_31 : decode cX11_never 31 = .ok (.invokevirtual 142, 3) := by decide +kernel
theorem dX11_never_34 : decode cX11_never 34 = .ok (.iconst 0, 1) := by decide +kernel
theorem dX11_never_35 : decode cX11_never 35 = .ok (.istore 5, 2) := by decide +kernel
theorem dX11_never_37 : decode cX11_never 37 = .ok (.iload 5, 2) := by decide +kernel
theorem dX11_never_39 : decode cX11_never 39 = .ok (.iload_n 2, 1) := by decide +kernel
theorem dX11_never_40 : decode cX11_never 40 = .ok (.if_icmp .ge 37, 3) := by decide +kernel
theorem dX11_never_43 : decode cX11_never 43 = .ok (.aload_n 0, 1) := by decide +kernel
theorem dX11_never_44 : decode cX11_never 44 = .ok (.aload_n 0, 1) := by decide +kernel
theorem dX11_never_45 : decode cX11_never 45 = .ok (.getfield 17, 3) := by decide +kernel
theorem dX11_never_48 : decode cX11_never 48 = .ok (.bipush 42, 2) := by decide +kernel
theorem dX11_never_50 : decode cX11_never 50 = .ok (.iaload, 1) := by decide +kernel
theorem dX11_never_51 : decode cX11_never 51 = .ok (.iload 5, 2) := by decide +kernel
theorem dX11_never_53 : decode cX11_never 53 = .ok (.iadd, 1) := by decide +kernel
theorem dX11_never_54 : decode cX11_never 54 = .ok (.invokevirtual 284, 3) := by decide +kernel
theorem dX11_never_57 : decode cX11_never 57 = .ok (.lload_n 3, 1) := by decide +kernel
theorem dX11_never_58 : decode cX11_never 58 = .ok (.aload_n 0, 1) := by decide +kernel
theorem dX11_never_59 : decode cX11_never 59 = .ok (.iload_n 1, 1) := by decide +kernel
theorem dX11_never_60 : decode cX11_never 60 = .ok (.iconst 0, 1) := by decide +kernel
theorem dX11_never_61 : decode cX11_never 61 = .ok (.invokevirtual 345, 3) := by decide +kernel
theorem dX11_never_64 : decode cX11_never 64 = .ok (.i2l, 1) := by decide +kernel
theorem dX11_never_65 : decode cX11_never 65 = .ok (.lmul, 1) := by decide +kernel
theorem dX11_never_66 : decode cX11_never 66 = .ok (.lstore_n 3, 1) := by decide +kernel
theorem dX11_never_67 : decode cX11_never 67 = .ok (.aload_n 0, 1) := by decide +kernel
theorem dX11_never_68 : decode cX11_never 68 = .ok (.invokevirtual 336, 3) := by decide +kernel
theorem dX11_never_71 : decode cX11_never 71 = .ok (.iinc 5 1, 3) := by decide +kernel
theorem dX11_never_74 : decode cX11_never 74 = .ok (.goto (-37), 3) := by decide +kernel
theorem dX11_never_77 : decode cX11_never 77 = .ok (.lload_n 3, 1) := by decide +kernel
theorem dX11_never_78 : decode cX11_never 78 = .ok (.lreturn, 1) := by decide +kernel
theorem dX11_tells_0 : decode cX11_tells 0 = .ok (.iload 5, 2) := by decide +kernel
theorem dX11_tells_2 : decode cX11_tells 2 = .ok (.iconst 0, 1) := by decide +kernel
theorem dX11_tells_3 : decode cX11_tells 3 = .ok (.bipush 20, 2) := by decide +kernel
theorem dX11_tells_5 : decode cX11_tells 5 = .ok (.invokestatic 110, 3) := by decide +kernel
theorem dX11_tells_8 : decode cX11_tells 8 = .ok (.ifCond .ne 9, 3) := by decide +kernel
theorem dX11_tells_11 : decode cX11_tells 11 = .ok (.aload_n 0, 1) := by decide +kernel
theorem dX11_tells_12 : decode cX11_tells 12 = .ok (.iconst (-1), 1) := by decide +kernel
theorem dX11_tells_13 : decode cX11_tells 13 = .ok (.invokevirtual 114, 3) := by decide +kernel
theorem dX11_tells_16 : decode cX11_tells 16 = .ok (.ireturn, 1) := by decide +kernel
theorem dX11_tells_17 : decode cX11_tells 17 = .ok (.aload_n 0, 1) := by decide +kernel
theorem dX11_tells_18 : decode cX11_tells 18 = .ok (.iload 4, 2) := by decide +kernel
theorem dX11_tells_20 : decode cX11_tells 20 = .ok (.invokevirtual 134, 3) := by decide +kernel
theorem dX11_tells_23 : decode cX11_tells 23 = .ok (.ifCond .ne 10, 3) := by decide +kernel
theorem dX11_tells_26 : decode cX11_tells 26 = .ok (.aload_n 0, 1) := by decide +kernel
theorem dX11_tells_27 : decode cX11_tells 27 = .ok (.bipush (-2), 2) := by decide +kernel
theorem dX11_tells_29 : decode cX11_tells 29 = .ok (.invokevirtual 114, 3) := by decide +kernel
theorem dX11_tells_32 : decode cX11_tells 32 = .ok (.ireturn, 1) := by decide +kernel
theorem dX11_tells_33 : decode cX11_tells 33 = .ok (.aload_n 0, 1) := by decide +kernel
theorem dX11_tells_34 : decode cX11_tells 34 = .ok (.getfield 17, 3) := by decide +kernel
theorem dX11_tells_37 : decode cX11_tells 37 = .ok (.iload_n 2, 1) := by decide +kernel
theorem dX11_tells_38 : decode cX11_tells 38 = .ok (.iaload, 1) := by decide +kernel
theorem dX11_tells_39 : decode cX11_tells 39 = .ok (.istore 6, 2) := by decide +kernel
theorem dX11_tells_41 : decode cX11_tells 41 = .ok (.iload 6, 2) := by decide +kernel
theorem dX11_tells_43 : decode cX11_tells 43 = .ok (.iload_n 3, 1) := by decide +kernel
theorem dX11_tells_44 : decode cX11_tells 44 = .ok (.if_icmp .ne 10, 3) := by decide +kernel
theorem dX11_tells_47 : decode cX11_tells 47 = .ok (.aload_n 0, 1) := by decide +kernel
theorem dX11_tells_48 : decode cX11_tells 48 = .ok (.bipush (-5), 2) := by decide +kernel
theorem dX11_tells_50 : decode cX11_tells 50 = .ok (.invokevirtual 114, 3) := by decide +kernel
theorem dX11_tells_53 : decode cX11_tells 53 = .ok (.ireturn, 1) := by decide +kernel
theorem dX11_tells_54 : decode cX11_tells 54 = .ok (.aload_n 0, 1) := by decide +kernel
theorem dX11_tells_55 : decode cX11_tells 55 = .ok (.getfield 17, 3) := by decide +kernel
theorem dX11_tells_58 : decode cX11_tells 58 = .ok (.iload_n 1, 1) := by decide +kernel
theorem dX11_tells_59 : decode cX11_tells 59 = .ok (.iconst 2, 1) := by decide +kernel
theorem dX11_tells_60 : decode cX11_tells 60 = .ok (.iload 6, 2) := by decide +kernel
theorem dX11_tells_62 : decode cX11_tells 62 = .ok (.imul, 1) := by decide +kernel
theorem dX11_tells_63 : decode cX11_tells 63 = .ok (.iadd, 1) := by decide +kernel
theorem dX11_tells_64 : decode cX11_tells 64 = .ok (.iload 4, 2) := by decide +kernel
theorem dX11_tells_66 : decode cX11_tells 66 = .ok (.iastore, 1) := by decide +kernel
theorem dX11_tells_67 : decode cX11_tells 67 = .ok (.aload_n 0, 1) := by decide +kernel
theorem dX11_tells_68 : decode cX11_tells 68 = .ok (.getfield 17, 3) := by decide +kernel
theorem dX11_tells_71 : decode cX11_tells 71 = .ok (.iload_n 1, 1) := by decide +kernel
theorem dX11_tells_72 : decode cX11_tells 72 = .ok (.iconst 2, 1) := by decide +kernel
theorem dX11_tells_73 : decode cX11_tells 73 = .ok (.iload 6, 2) := by decide +kernel
theorem dX11_tells_75 : decode cX11_tells 75 = .ok (.imul, 1) := by decide +kernel
theorem dX11_tells_76 : decode cX11_tells 76 = .ok (.iadd, 1) := by decide +kernel
theorem dX11_tells_77 : decode cX11_tells 77 = .ok (.iconst 1, 1) := by decide +kernel
theorem dX11_tells_78 : decode cX11_tells 78 = .ok (.iadd, 1) := by decide +kernel
theorem dX11_tells_79 : decode cX11_tells 79 = .ok (.iload 5, 2) := by decide +kernel
theorem dX11_tells_81 : decode cX11_tells 81 = .ok (.iastore, 1) := by decide +kernel
theorem dX11_tells_82 : decode cX11_tells 82 = .ok (.aload_n 0, 1) := by decide +kernel
theorem dX11_tells_83 : decode cX11_tells 83 = .ok (.getfield 17, 3) := by decide +kernel
theorem dX11_tells_86 : decode cX11_tells 86 = .ok (.iload_n 2, 1) := by decide +kernel
theorem dX11_tells_87 : decode cX11_tells 87 = .ok (.dup2, 1) := by decide +kernel
theorem dX11_tells_88 : decode cX11_tells 88 = .ok (.iaload, 1) := by decide +kernel
theorem dX11_tells_89 : decode cX11_tells 89 = .ok (.iconst 1, 1) := by decide +kernel
theorem dX11_tells_90 : decode cX11_tells 90 = .ok (.iadd, 1) := by decide +kernel
theorem dX11_tells_91 : decode cX11_tells 91 = .ok (.iastore, 1) := by decide +kernel
theorem dX11_tells_92 : decode cX11_tells 92 = .ok (.aload_n 0, 1) := by decide +kernel
theorem dX11_tells_93 : decode cX11_tells 93 = .ok (.iload 6, 2) := by decide +kernel
theorem dX11_tells_95 : decode cX11_tells 95 = .ok (.iconst 1, 1) := by decide +kernel
theorem dX11_tells_96 : decode cX11_tells 96 = .ok (.iadd, 1) := by decide +kernel
theorem dX11_tells_97 : decode cX11_tells 97 = .ok (.invokevirtual 118, 3) := by decide +kernel
theorem dX11_tells_100 : decode cX11_tells 100 = .ok (.ireturn, 1) := by decide +kernel
theorem dX11_sight_0 : decode cX11_sight 0 = .ok (.aload_n 0, 1) := by decide +kernel
theorem dX11_sight_1 : decode cX11_sight 1 = .ok (.bipush 45, 2) := by decide +kernel
theorem dX11_sight_3 : decode cX11_sight 3 = .ok (.bipush 78, 2) := by decide +kernel
theorem dX11_sight_5 : decode cX11_sight 5 = .ok (.bipush 8, 2) := by decide +kernel
theorem dX11_sight_7 : decode cX11_sight 7 = .ok (.iload_n 1, 1) := by decide +kernel
theorem dX11_sight_8 : decode cX11_sight 8 = .ok (.iload_n 2, 1) := by decide +kernel
theorem dX11_sight_9 : decode cX11_sight 9 = .ok (.invokevirtual 350, 3) := by decide +kernel
theorem dX11_sight_12 : decode cX11_sight 12 = .ok (.ireturn, 1) := by decide +kernel
theorem dX11_claim_0 : decode cX11_claim 0 = .ok (.aload_n 0, 1) := by decide +kernel
theorem dX11_claim_1 : decode cX11_claim 1 = .ok (.bipush 61, 2) := by decide +kernel
theorem dX11_claim_3 : decode cX11_claim 3 = .ok (.bipush 79, 2) := by decide +kernel
theorem dX11_claim_5 : decode cX11_claim 5 = .ok (.bipush 8, 2) := by decide +kernel
theorem dX11_claim_7 : decode cX11_claim 7 = .ok (.iload_n 1, 1) := by decide +kernel
theorem dX11_claim_8 : decode cX11_claim 8 = .ok (.iload_n 2, 1) := by decide +kernel
theorem dX11_claim_9 : decode cX11_claim 9 = .ok (.invokevirtual 350, 3) := by decide +kernel
theorem dX11_claim_12 : decode cX11_claim 12 = .ok (.ireturn, 1) := by decide +kernel
theorem dX11_counts_0 : decode cX11_counts 0 = .ok (.iload_n 1, 1) := by decide +kernel
theorem dX11_counts_1 : decode cX11_counts 1 = .ok (.iconst 0, 1) := by decide +kernel
theorem dX11_counts_2 : decode cX11_counts 2 = .ok (.iconst 1, 1) := by decide +kernel
theorem dX11_counts_3 : decode cX11_counts 3 = .ok (.invokestatic 110, 3) := by decide +kernel
theorem dX11_counts_6 : decode cX11_counts 6 = .ok (.ifCond .eq 8, 3) := by decide +kernel
theorem dX11_counts_9 : decode cX11_counts 9 = .ok (.iload_n 2, 1) := by decide +kernel
theorem dX11_counts_10 : decode cX11_counts 10 = .ok (.iconst (-1), 1) := by decide +kernel
theorem dX11_counts_11 : decode cX11_counts 11 = .ok (.if_icmp .ge 5, 3) := by decide +kernel
theorem dX11_counts_14 : decode cX11_counts 14 = .ok (.iconst (-1), 1) := by decide +kernel
theorem dX11_counts_15 : decode cX11_counts 15 = .ok (.ireturn, 1) := by decide +kernel
theorem dX11_counts_16 : decode cX11_counts 16 = .ok (.aload_n 0, 1) := by decide +kernel
theorem dX11_counts_17 : decode cX11_counts 17 = .ok (.aload_n 0, 1) := by decide +kernel
theorem dX11_counts_18 : decode cX11_counts 18 = .ok (.getfield 17, 3) := by decide +kernel
theorem dX11_counts_21 : decode cX11_counts 21 = .ok (.bipush 42, 2) := by decide +kernel
theorem dX11_counts_23 : decode cX11_counts 23 = .ok (.iaload, 1) := by decide +kernel
theorem dX11_counts_24 : decode cX11_counts 24 = .ok (.invokevirtual 142, 3) := by decide +kernel
theorem dX11_counts_27 : decode cX11_counts 27 = .ok (.aload_n 0, 1) := by decide +kernel
theorem dX11_counts_28 : decode cX11_counts 28 = .ok (.getfield 17, 3) := by decide +kernel
theorem dX11_counts_31 : decode cX11_counts 31 = .ok (.bipush 41, 2) := by decide +kernel
theorem dX11_counts_33 : decode cX11_counts 33 = .ok (.iaload, 1) := by decide +kernel
theorem dX11_counts_34 : decode cX11_counts 34 = .ok (.ifCond .ne 13, 3) := by decide +kernel
theorem dX11_counts_37 : decode cX11_counts 37 = .ok (.aload_n 0, 1) := by decide +kernel
theorem dX11_counts_38 : decode cX11_counts 38 = .ok (.getfield 17, 3) := by decide +kernel
theorem dX11_counts_41 : decode cX11_counts 41 = .ok (.bipush 40, 2) := by decide +kernel
theorem dX11_counts_43 : decode cX11_counts 43 = .ok (.iaload, 1) := by decide +kernel
theorem dX11_counts_44 : decode cX11_counts 44 = .ok (.goto 20, 3) := by decide +kernel
theorem dX11_counts_47 : decode cX11_counts 47 = .ok (.aload_n 0, 1) := by decide +kernel
theorem dX11_counts_48 : decode cX11_counts 48 = .ok (.getfield 17, 3) := by decide +kernel
theorem dX11_counts_51 : decode cX11_counts 51 = .ok (.bipush 41, 2) := by decide +kernel
theorem dX11_counts_53 : decode cX11_counts 53 = .ok (.iaload, 1) := by decide +kernel
theorem dX11_counts_54 : decode cX11_counts 54 = .ok (.aload_n 0, 1) := by decide +kernel
theorem dX11_counts_55 : decode cX11_counts 55 = .ok (.getfield 17, 3) := by decide +kernel
theorem dX11_counts_58 : decode cX11_counts 58 = .ok (.bipush 40, 2) := by decide +kernel
theorem dX11_counts_60 : decode cX11_counts 60 = .ok (.iaload, 1) := by decide +kernel
theorem dX11_counts_61 : decode cX11_counts 61 = .ok (.imul, 1) := by decide +kernel
theorem dX11_counts_62 : decode cX11_counts 62 = .ok (.iconst 1, 1) := by decide +kernel
theorem dX11_counts_63 : decode cX11_counts 63 = .ok (.iadd, 1) := by decide +kernel
theorem dX11_counts_64 : decode cX11_counts 64 = .ok (.istore_n 3, 1) := by decide +kernel
theorem dX11_counts_65 : decode cX11_counts 65 = .ok (.iconst 0, 1) := by decide +kernel
theorem dX11_counts_66 : decode cX11_counts 66 = .ok (.istore 4, 2) := by decide +kernel
theorem dX11_counts_68 : decode cX11_counts 68 = .ok (.iconst 0, 1) := by decide +kernel
theorem dX11_counts_69 : decode cX11_counts 69 = .ok (.istore 5, 2) := by decide +kernel
theorem dX11_counts_71 : decode cX11_counts 71 = .ok (.iload 5, 2) := by decide +kernel
theorem dX11_counts_73 : decode cX11_counts 73 = .ok (.iload_n 3, 1) := by decide +kernel
theorem dX11_counts_74 : decode cX11_counts 74 = .ok (.if_icmp .ge 127, 3) := by decide +kernel
theorem dX11_counts_77 : decode cX11_counts 77 = .ok (.aload_n 0, 1) := by decide +kernel
theorem dX11_counts_78 : decode cX11_counts 78 = .ok (.getfield 58, 3) := by decide +kernel
theorem dX11_counts_81 : decode cX11_counts 81 = .ok (.iload_n 1, 1) := by decide +kernel
theorem dX11_counts_82 : decode cX11_counts 82 = .ok (.iload 5, 2) := by decide +kernel
theorem dX11_counts_84 : decode cX11_counts 84 = .ok (.iastore, 1) := by decide +kernel
theorem dX11_counts_85 : decode cX11_counts 85 = .ok (.iconst 1, 1) := by decide +kernel
theorem dX11_counts_86 : decode cX11_counts 86 = .ok (.istore 6, 2) := by decide +kernel
theorem dX11_counts_88 : decode cX11_counts 88 = .ok (.iconst 0, 1) := by decide +kernel
theorem dX11_counts_89 : decode cX11_counts 89 = .ok (.istore 7, 2) := by decide +kernel
theorem dX11_counts_91 : decode cX11_counts 91 = .ok (.iload 7, 2) := by decide +kernel
theorem dX11_counts_93 : decode cX11_counts 93 = .ok (.aload_n 0, 1) := by decide +kernel
theorem dX11_counts_94 : decode cX11_counts 94 = .ok (.getfield 17, 3) := by decide +kernel
theorem dX11_counts_97 : decode cX11_counts 97 = .ok (.bipush 78, 2) := by decide +kernel
theorem dX11_counts_99 : decode cX11_counts 99 = .ok (.iaload, 1) := by decide +kernel
theorem dX11_counts_100 : decode cX11_counts 100 = .ok (.if_icmp .ge 75, 3) := by decide +kernel
theorem dX11_counts_103 : decode cX11_counts 103 = .ok (.iload 6, 2) := by decide +kernel
theorem dX11_counts_105 : decode cX11_counts 105 = .ok (.ifCond .eq 70, 3) := by decide +kernel
theorem dX11_counts_108 : decode cX11_counts 108 = .ok (.aload_n 0, 1) := by decide +kernel
theorem dX11_counts_109 : decode cX11_counts 109 = .ok (.getfield 17, 3) := by decide +kernel
theorem dX11_counts_112 : decode cX11_counts 112 = .ok (.bipush 45, 2) := by decide +kernel
theorem dX11_counts_114 : decode cX11_counts 114 = .ok (.iconst 2, 1) := by decide +kernel
theorem dX11_counts_115 : decode cX11_counts 115 = .ok (.iload 7, 2) := by decide +kernel
theorem dX11_counts_117 : decode cX11_counts 117 = .ok (.imul, 1) := by decide +kernel
theorem dX11_counts_118 : decode cX11_counts 118 = .ok (.iadd, 1) := by decide +kernel
theorem dX11_counts_119 : decode cX11_counts 119 = .ok (.iaload, 1) := by decide +kernel
theorem dX11_counts_120 : decode cX11_counts 120 = .ok (.istore 8, 2) := by decide +kernel
theorem dX11_counts_122 : decode cX11_counts 122 = .ok (.aload_n 0, 1) := by decide +kernel
theorem dX11_counts_123 : decode cX11_counts 123 = .ok (.iload 8, 2) := by decide +kernel
theorem dX11_counts_125 : decode cX11_counts 125 = .ok (.iconst 2, 1) := by decide +kernel
theorem dX11_counts_126 : decode cX11_counts 126 = .ok (.invokevirtual 138, 3) := by decide +kernel
theorem dX11_counts_129 : decode cX11_counts 129 = .ok (.iload_n 1, 1) := by decide +kernel
theorem dX11_counts_130 : decode cX11_counts 130 = .ok (.if_icmp .ne 32, 3) := by decide +kernel
theorem dX11_counts_133 : decode cX11_counts 133 = .ok (.aload_n 0, 1) := by decide +kernel
theorem dX11_counts_134 : decode cX11_counts 134 = .ok (.iconst 1, 1) := by decide +kernel
theorem dX11_counts_135 : decode cX11_counts 135 = .ok (.iload 8, 2) := by decide +kernel
theorem dX11_counts_137 : decode cX11_counts 137 = .ok (.ishl, 1) := by decide +kernel
theorem dX11_counts_138 : decode cX11_counts 138 = .ok (.iconst 1, 1) := by decide +kernel
theorem dX11_counts_139 : decode cX11_counts 139 = .ok (.isub, 1) := by decide +kernel
theorem dX11_counts_140 : decode cX11_counts 140 = .ok (.iload 8, 2) := by decide +kernel
theorem dX11_counts_142 : decode cX11_counts 142 = .ok (.invokevirtual 299, 3) := by decide +kernel
theorem dX11_counts_145 : decode cX11_counts 145 = .ok (.aload_n 0, 1) := by decide +kernel
theorem dX11_counts_146 : decode cX11_counts 146 = .ok (.getfield 17, 3) := by decide +kernel
theorem dX11_counts_149 : decode cX11_counts 149 = .ok (.bipush 45, 2) := by decide +kernel
theorem dX11_counts_151 : decode cX11_counts 151 = .ok (.iconst 2, 1) := by decide +kernel
theorem dX11_counts_152 : decode cX11_counts 152 = .ok (.iload 7, 2) := by decide +kernel
theorem dX11_counts_154 : decode cX11_counts 154 = .ok (.imul, 1) := by decide +kernel
theorem dX11_counts_155 : decode cX11_counts 155 = .ok (.iadd, 1) := by decide +kernel
theorem dX11_counts_156 : decode cX11_counts 156 = .ok (.iconst 1, 1) := by decide +kernel
theorem dX11_counts_157 : decode cX11_counts 157 = .ok (.iadd, 1) := by decide +kernel
theorem dX11_counts_158 : decode cX11_counts 158 = .ok (.iaload, 1) := by decide +kernel
theorem dX11_counts_159 : decode cX11_counts 159 = .ok (.if_icmp .ne 7, 3) := by decide +kernel
theorem dX11_counts_162 : decode cX11_counts 162 = .ok (.iconst 1, 1) := by decide +kernel
theorem dX11_counts_163 : decode cX11_counts 163 = .ok (.goto 4, 3) := by decide +kernel
theorem dX11_counts_166 : decode cX11_counts 166 = .ok (.iconst 0, 1) := by decide +kernel
theorem dX11_counts_167 : decode cX11_counts 167 = .ok (.istore 6, 2) := by decide +kernel
theorem dX11_counts_169 : decode cX11_counts 169 = .ok (.iinc 7 1, 3) := by decide +kernel
theorem dX11_counts_172 : decode cX11_counts 172 = .ok (.goto (-81), 3) := by decide +kernel
theorem dX11_counts_175 : decode cX11_counts 175 = .ok (.iload 6, 2) := by decide +kernel
theorem dX11_counts_177 : decode cX11_counts 177 = .ok (.ifCond .ne 6, 3) := by decide +kernel
theorem dX11_counts_180 : decode cX11_counts 180 = .ok (.goto 15, 3) := by decide +kernel
theorem dX11_counts_183 : decode cX11_counts 183 = .ok (.iload 4, 2) := by decide +kernel
theorem dX11_counts_185 : decode cX11_counts 185 = .ok (.iload_n 2, 1) := by decide +kernel
theorem dX11_counts_186 : decode cX11_counts 186 = .ok (.if_icmp .ne 6, 3) := by decide +kernel
theorem dX11_counts_189 : decode cX11_counts 189 = .ok (.iload 5, 2) := by decide +kernel
theorem dX11_counts_191 : decode cX11_counts 191 = .ok (.ireturn, 1) := by decide +kernel
theorem dX11_counts_192 : decode cX11_counts 192 = .ok (.iinc 4 1, 3) := by decide +kernel
theorem dX11_counts_195 : decode cX11_counts 195 = .ok (.iinc 5 1, 3) := by decide +kernel
theorem dX11_counts_198 : decode cX11_counts 198 = .ok (.goto (-127), 3) := by decide +kernel
theorem dX11_counts_201 : decode cX11_counts 201 = .ok (.iload_n 2, 1) := by decide +kernel
theorem dX11_counts_202 : decode cX11_counts 202 = .ok (.iconst (-1), 1) := by decide +kernel
theorem dX11_counts_203 : decode cX11_counts 203 = .ok (.if_icmp .ne 8, 3) := by decide +kernel
theorem dX11_counts_206 : decode cX11_counts 206 = .ok (.iload 4, 2) := by decide +kernel
theorem dX11_counts_208 : decode cX11_counts 208 = .ok (.goto 4, 3) := by decide +kernel
theorem dX11_counts_211 : decode cX11_counts 211 = .ok (.iconst (-1), 1) := by decide +kernel
theorem dX11_counts_212 : decode cX11_counts 212 = .ok (.ireturn, 1) := by decide +kernel
theorem dX11_forget_0 : decode cX11_forget 0 = .ok (.aload_n 0, 1) := by decide +kernel
theorem dX11_forget_1 : decode cX11_forget 1 = .ok (.getfield 17, 3) := by decide +kernel
theorem dX11_forget_4 : decode cX11_forget 4 = .ok (.bipush 78, 2) := by decide +kernel
theorem dX11_forget_6 : decode cX11_forget 6 = .ok (.iaload, 1) := by decide +kernel
theorem dX11_forget_7 : decode cX11_forget 7 = .ok (.aload_n 0, 1) := by decide +kernel
theorem dX11_forget_8 : decode cX11_forget 8 = .ok (.getfield 17, 3) := by decide +kernel
theorem dX11_forget_11 : decode cX11_forget 11 = .ok (.bipush 79, 2) := by decide +kernel
theorem dX11_forget_13 : decode cX11_forget 13 = .ok (.iaload, 1) := by decide +kernel
theorem dX11_forget_14 : decode cX11_forget 14 = .ok (.iadd, 1) := by decide +kernel
theorem dX11_forget_15 : decode cX11_forget 15 = .ok (.istore_n 1, 1) := by decide +kernel
theorem dX11_forget_16 : decode cX11_forget 16 = .ok (.aload_n 0, 1) := by decide +kernel
theorem dX11_forget_17 : decode cX11_forget 17 = .ok (.getfield 17, 3) := by decide +kernel
theorem dX11_forget_20 : decode cX11_forget 20 = .ok (.bipush 78, 2) := by decide +kernel
theorem dX11_forget_22 : decode cX11_forget 22 = .ok (.iconst 0, 1) := by decide +kernel
theorem dX11_forget_23 : decode cX11_forget 23 = .ok (.iastore, 1) := by decide +kernel
theorem dX11_forget_24 : decode cX11_forget 24 = .ok (.aload_n 0, 1) := by decide +kernel
theorem dX11_forget_25 : decode cX11_forget 25 = .ok (.getfield 17, 3) := by decide +kernel
theorem dX11_forget_28 : decode cX11_forget 28 = .ok (.bipush 79, 2) := by decide +kernel
theorem dX11_forget_30 : decode cX11_forget 30 = .ok (.iconst 0, 1) := by decide +kernel
theorem dX11_forget_31 : decode cX11_forget 31 = .ok (.iastore, 1) := by decide +kernel
theorem dX11_forget_32 : decode cX11_forget 32 = .ok (.iload_n 1, 1) := by decide +kernel
theorem dX11_forget_33 : decode cX11_forget 33 = .ok (.ireturn, 1) := by decide +kernel
theorem dX11_bake_0 : decode cX11_bake 0 = .ok (.iload_n 1, 1) := by decide +kernel
theorem dX11_bake_1 : decode cX11_bake 1 = .ok (.iconst 0, 1) := by decide +kernel
theorem dX11_bake_2 : decode cX11_bake 2 = .ok (.iconst 2, 1) := by decide +kernel
theorem dX11_bake_3 : decode cX11_bake 3 = .ok (.invokestatic 110, 3) := by decide +kernel
theorem dX11_bake_6 : decode cX11_bake 6 = .ok (.ifCond .ne 9, 3) := by decide +kernel
theorem dX11_bake_9 : decode cX11_bake 9 = .ok (.aload_n 0, 1) := by decide +kernel
theorem dX11_bake_10 : decode cX11_bake 10 = .ok (.iconst (-1), 1) := by decide +kernel
theorem dX11_bake_11 : decode cX11_bake 11 = .ok (.invokevirtual 114, 3) := by decide +kernel
theorem dX11_bake_14 : decode cX11_bake 14 = .ok (.ireturn, 1) := by decide +kernel
theorem dX11_bake_15 : decode cX11_bake 15 = .ok (.iload_n 1, 1) := by decide +kernel
theorem dX11_bake_16 : decode cX11_bake 16 = .ok (.ifCond .le 20, 3) := by decide +kernel
theorem dX11_bake_19 : decode cX11_bake 19 = .ok (.aload_n 0, 1) := by decide +kernel
theorem dX11_bake_20 : decode cX11_bake 20 = .ok (.iload_n 1, 1) := by decide +kernel
theorem dX11_bake_21 : decode cX11_bake 21 = .ok (.iconst 1, 1) := by decide +kernel
theorem dX11_bake_22 : decode cX11_bake 22 = .ok (.isub, 1) := by decide +kernel
theorem dX11_bake_23 : decode cX11_bake 23 = .ok (.invokevirtual 327, 3) := by decide +kernel
theorem dX11_bake_26 : decode cX11_bake 26 = .ok (.ifCond .ne 10, 3) := by decide +kernel
theorem dX11_bake_29 : decode cX11_bake 29 = .ok (.aload_n 0, 1) := by decide +kernel
theorem dX11_bake_30 : decode cX11_bake 30 = .ok (.bipush (-3), 2) := by decide +kernel
theorem dX11_bake_32 : decode cX11_bake 32 = .ok (.invokevirtual 114, 3) := by decide +kernel
theorem dX11_bake_35 : decode cX11_bake 35 = .ok (.ireturn, 1) := by decide +kernel
theorem dX11_bake_36 : decode cX11_bake 36 = .ok (.aload_n 0, 1) := by decide +kernel
theorem dX11_bake_37 : decode cX11_bake 37 = .ok (.aload_n 0, 1) := by decide +kernel
theorem dX11_bake_38 : decode cX11_bake 38 = .ok (.getfield 17, 3) := by decide +kernel
theorem dX11_bake_41 : decode cX11_bake 41 = .ok (.bipush 42, 2) := by decide +kernel
theorem dX11_bake_43 : decode cX11_bake 43 = .ok (.iaload, 1) := by decide +kernel
theorem dX11_bake_44 : decode cX11_bake 44 = .ok (.invokevirtual 142, 3) := by decide +kernel
theorem dX11_bake_47 : decode cX11_bake 47 = .ok (.iconst 0, 1) := by decide +kernel
theorem dX11_bake_48 : decode cX11_bake 48 = .ok (.istore_n 2, 1) := by decide +kernel
theorem dX11_bake_49 : decode cX11_bake 49 = .ok (.iload_n 2, 1) := by decide +kernel
theorem dX11_bake_50 : decode cX11_bake 50 = .ok (.aload_n 0, 1) := by decide +kernel
theorem dX11_bake_51 : decode cX11_bake 51 = .ok (.invokevirtual 121, 3) := by decide +kernel
theorem dX11_bake_54 : decode cX11_bake 54 = .ok (.if_icmp .ge 44, 3) := by decide +kernel
theorem dX11_bake_57 : decode cX11_bake 57 = .ok (.aload_n 0, 1) := by decide +kernel
theorem dX11_bake_58 : decode cX11_bake 58 = .ok (.getfield 95, 3) := by decide +kernel
theorem dX11_bake_61 : decode cX11_bake 61 = .ok (.iload_n 2, 1) := by decide +kernel
theorem dX11_bake_62 : decode cX11_bake 62 = .ok (.aload_n 0, 1) := by decide +kernel
theorem dX11_bake_63 : decode cX11_bake 63 = .ok (.iload_n 2, 1) := by decide +kernel
theorem dX11_bake_64 : decode cX11_bake 64 = .ok (.iconst 3, 1) := by decide +kernel
theorem dX11_bake_65 : decode cX11_bake 65 = .ok (.invokevirtual 138, 3) := by decide +kernel
theorem dX11_bake_68 : decode cX11_bake 68 = .ok (.iastore, 1) := by decide +kernel
theorem dX11_bake_69 : decode cX11_bake 69 = .ok (.aload_n 0, 1) := by decide +kernel
theorem dX11_bake_70 : decode cX11_bake 70 = .ok (.getfield 98, 3) := by decide +kernel
theorem dX11_bake_73 : decode cX11_bake 73 = .ok (.iload_n 2, 1) := by decide +kernel
theorem dX11_bake_74 : decode cX11_bake 74 = .ok (.aload_n 0, 1) := by decide +kernel
theorem dX11_bake_75 : decode cX11_bake 75 = .ok (.iload_n 2, 1) := by decide +kernel
theorem dX11_bake_76 : decode cX11_bake 76 = .ok (.iconst 4, 1) := by decide +kernel
theorem dX11_bake_77 : decode cX11_bake 77 = .ok (.invokevirtual 138, 3) := by decide +kernel
theorem dX11_bake_80 : decode cX11_bake 80 = .ok (.iastore, 1) := by decide +kernel
theorem dX11_bake_81 : decode cX11_bake 81 = .ok (.iload_n 1, 1) := by decide +kernel
theorem dX11_bake_82 : decode cX11_bake 82 = .ok (.ifCond .ne 10, 3) := by decide +kernel
theorem dX11_bake_85 : decode cX11_bake 85 = .ok (.aload_n 0, 1) := by decide +kernel
theorem dX11_bake_86 : decode cX11_bake 86 = .ok (.getfield 76, 3) := by decide +kernel
theorem dX11_bake_89 : decode cX11_bake 89 = .ok (.iload_n 2, 1) := by decide +kernel
theorem dX11_bake_90 : decode cX11_bake 90 = .ok (.iload_n 2, 1) := by decide +kernel
theorem dX11_bake_91 : decode cX11_bake 91 = .ok (.iastore, 1) := by decide +kernel
theorem dX11_bake_92 : decode cX11_bake 92 = .ok (.iinc 2 1, 3) := by decide +kernel
theorem dX11_bake_95 : decode cX11_bake 95 = .ok (.goto (-46), 3) := by decide +kernel
theorem dX11_bake_98 : decode cX11_bake 98 = .ok (.aload_n 0, 1) := by decide +kernel
theorem dX11_bake_99 : decode cX11_bake 99 = .ok (.invokevirtual 354, 3) := by decide +kernel
theorem dX11_bake_102 : decode cX11_bake 102 = .ok (.istore_n 2, 1) := by decide +kernel
theorem dX11_bake_103 : decode cX11_bake 103 = .ok (.aload_n 0, 1) := by decide +kernel
theorem dX11_bake_104 : decode cX11_bake 104 = .ok (.invokevirtual 357, 3) := by decide +kernel
theorem dX11_bake_107 : decode cX11_bake 107 = .ok (.ifCond .eq 16, 3) := by decide +kernel
theorem dX11_bake_110 : decode cX11_bake 110 = .ok (.aload_n 0, 1) := by decide +kernel
theorem dX11_bake_111 : decode cX11_bake 111 = .ok (.getfield 17, 3) := by decide +kernel
theorem dX11_bake_114 : decode cX11_bake 114 = .ok (.bipush 42, 2) := by decide +kernel
theorem dX11_bake_116 : decode cX11_bake 116 = .ok (.iaload, 1) := by decide +kernel
theorem dX11_bake_117 : decode cX11_bake 117 = .ok (.sipush 9999, 3) := by decide +kernel
theorem dX11_bake_120 : decode cX11_bake 120 = .ok (.if_icmp .ne 10, 3) := by decide +kernel
theorem dX11_bake_123 : decode cX11_bake 123 = .ok (.aload_n 0, 1) := by decide +kernel
theorem dX11_bake_124 : decode cX11_bake 124 = .ok (.bipush (-5), 2) := by decide +kernel
theorem dX11_bake_126 : decode cX11_bake 126 = .ok (.invokevirtual 114, 3) := by decide +kernel
theorem dX11_bake_129 : decode cX11_bake 129 = .ok (.ireturn, 1) := by decide +kernel
theorem dX11_bake_130 : decode cX11_bake 130 = .ok (.iconst 0, 1) := by decide +kernel
theorem dX11_bake_131 : decode cX11_bake 131 = .ok (.istore_n 3, 1) := by decide +kernel
theorem dX11_bake_132 : decode cX11_bake 132 = .ok (.iload_n 3, 1) := by decide +kernel
theorem dX11_bake_133 : decode cX11_bake 133 = .ok (.aload_n 0, 1) := by decide +kernel
theorem dX11_bake_134 : decode cX11_bake 134 = .ok (.invokevirtual 121, 3) := by decide +kernel
theorem dX11_bake_137 : decode cX11_bake 137 = .ok (.if_icmp .ge 41, 3) := by decide +kernel
theorem dX11_bake_140 : decode cX11_bake 140 = .ok (.aload_n 0, 1) := by decide +kernel
theorem dX11_bake_141 : decode cX11_bake 141 = .ok (.getfield 17, 3) := by decide +kernel
theorem dX11_bake_144 : decode cX11_bake 144 = .ok (.iconst 5, 1) := by decide +kernel
theorem dX11_bake_145 : decode cX11_bake 145 = .ok (.iload_n 3, 1) := by decide +kernel
theorem dX11_bake_146 : decode cX11_bake 146 = .ok (.imul, 1) := by decide +kernel
theorem dX11_bake_147 : decode cX11_bake 147 = .ok (.iconst 3, 1) := by decide +kernel
theorem dX11_bake_148 : decode cX11_bake 148 = .ok (.iadd, 1) := by decide +kernel
theorem dX11_bake_149 : decode cX11_bake 149 = .ok (.aload_n 0, 1) := by decide +kernel
theorem dX11_bake_150 : decode cX11_bake 150 = .ok (.getfield 95, 3) := by decide +kernel
theorem dX11_bake_153 : decode cX11_bake 153 = .ok (.iload_n 3, 1) := by decide +kernel
theorem dX11_bake_154 : decode cX11_bake 154 = .ok (.iaload, 1) := by decide +kernel
theorem dX11_bake_155 : decode cX11_bake 155 = .ok (.iastore, 1) := by decide +kernel
theorem dX11_bake_156 : decode cX11_bake 156 = .ok (.aload_n 0, 1) := by decide +kernel
theorem dX11_bake_157 : decode cX11_bake 157 = .ok (.getfield 17, 3) := by decide +kernel
theorem dX11_bake_160 : decode cX11_bake 160 = .ok (.iconst 5, 1) := by decide +kernel
theorem dX11_bake_161 : decode cX11_bake 161 = .ok (.iload_n 3, 1) := by decide +kernel
theorem dX11_bake_162 : decode cX11_bake 162 = .ok (.imul, 1) := by decide +kernel
theorem dX11_bake_163 : decode cX11_bake 163 = .ok (.iconst 4, 1) := by decide +kernel
theorem dX11_bake_164 : decode cX11_bake 164 = .ok (.iadd, 1) := by decide +kernel
theorem dX11_bake_165 : decode cX11_bake 165 = .ok (.aload_n 0, 1) := by decide +kernel
theorem dX11_bake_166 : decode cX11_bake 166 = .ok (.getfield 98, 3) := by decide +kernel
theorem dX11_bake_169 : decode cX11_bake 169 = .ok (.iload_n 3, 1) := by decide +kernel
theorem dX11_bake_170 : decode cX11_bake 170 = .ok (.iaload, 1) := by decide +kernel
theorem dX11_bake_171 : decode cX11_bake 171 = .ok (.iastore, 1) := by decide +kernel
theorem dX11_bake_172 : decode cX11_bake 172 = .ok (.iinc 3 1, 3) := by decide +kernel
theorem dX11_bake_175 : decode cX11_bake 175 = .ok (.goto (-43), 3) := by decide +kernel
theorem dX11_bake_178 : decode cX11_bake 178 = .ok (.aload_n 0, 1) := by decide +kernel
theorem dX11_bake_179 : decode cX11_bake 179 = .ok (.getfield 17, 3) := by decide +kernel
theorem dX11_bake_182 : decode cX11_bake 182 = .ok (.bipush 43, 2) := by decide +kernel
theorem dX11_bake_184 : decode cX11_bake 184 = .ok (.aload_n 0, 1) := by decide +kernel
theorem dX11_bake_185 : decode cX11_bake 185 = .ok (.getfield 58, 3) := by decide +kernel
theorem dX11_bake_188 : decode cX11_bake 188 = .ok (.iconst 0, 1) := by decide +kernel
theorem dX11_bake_189 : decode cX11_bake 189 = .ok (.iaload, 1) := by decide +kernel
theorem dX11_bake_190 : decode cX11_bake 190 = .ok (.iastore, 1) := by decide +kernel
theorem dX11_bake_191 : decode cX11_bake 191 = .ok (.aload_n 0, 1) := by decide +kernel
theorem dX11_bake_192 : decode cX11_bake 192 = .ok (.getfield 17, 3) := by decide +kernel
theorem dX11_bake_195 : decode cX11_bake 195 = .ok (.bipush 44, 2) := by decide +kernel
theorem dX11_bake_197 : decode cX11_bake 197 = .ok (.aload_n 0, 1) := by decide +kernel
theorem dX11_bake_198 : decode cX11_bake 198 = .ok (.getfield 58, 3) := by decide +kernel
theorem dX11_bake_201 : decode cX11_bake 201 = .ok (.iconst 1, 1) := by decide +kernel
theorem dX11_bake_202 : decode cX11_bake 202 = .ok (.iaload, 1) := by decide +kernel
theorem dX11_bake_203 : decode cX11_bake 203 = .ok (.iastore, 1) := by decide +kernel
theorem dX11_bake_204 : decode cX11_bake 204 = .ok (.aload_n 0, 1) := by decide +kernel
theorem dX11_bake_205 : decode cX11_bake 205 = .ok (.getfield 17, 3) := by decide +kernel
theorem dX11_bake_208 : decode cX11_bake 208 = .ok (.bipush 42, 2) := by decide +kernel
theorem dX11_bake_210 : decode cX11_bake 210 = .ok (.dup2, 1) := by decide +kernel
theorem dX11_bake_211 : decode cX11_bake 211 = .ok (.iaload, 1) := by decide +kernel
theorem dX11_bake_212 : decode cX11_bake 212 = .ok (.iconst 1, 1) := by decide +kernel
theorem dX11_bake_213 : decode cX11_bake 213 = .ok (.iadd, 1) := by decide +kernel
theorem dX11_bake_214 : decode cX11_bake 214 = .ok (.iastore, 1) := by decide +kernel
theorem dX11_bake_215 : decode cX11_bake 215 = .ok (.aload_n 0, 1) := by decide +kernel
theorem dX11_bake_216 : decode cX11_bake 216 = .ok (.iload_n 2, 1) := by decide +kernel
theorem dX11_bake_217 : decode cX11_bake 217 = .ok (.invokevirtual 118, 3) := by decide +kernel
theorem dX11_bake_220 : decode cX11_bake 220 = .ok (.ireturn, 1) := by decide +kernel
theorem dX11_goesBy_0 : decode cX11_goesBy 0 = .ok (.iconst 0, 1) := by decide +kernel
theorem dX11_goesBy_1 : decode cX11_goesBy 1 = .ok (.istore_n 1, 1) := by decide +kernel
theorem dX11_goesBy_2 : decode cX11_goesBy 2 = .ok (.iconst 0, 1) := by decide +kernel
theorem dX11_goesBy_3 : decode cX11_goesBy 3 = .ok (.istore_n 2, 1) := by decide +kernel
theorem dX11_goesBy_4 : decode cX11_goesBy 4 = .ok (.iconst 0, 1) := by decide +kernel
theorem dX11_goesBy_5 : decode cX11_goesBy 5 = .ok (.istore_n 3, 1) := by decide +kernel
theorem dX11_goesBy_6 : decode cX11_goesBy 6 = .ok (.iload_n 3, 1) := by decide +kernel
theorem dX11_goesBy_7 : decode cX11_goesBy 7 = .ok (.aload_n 0, 1) := by decide +kernel
theorem dX11_goesBy_8 : decode cX11_goesBy 8 = .ok (.invokevirtual 121, 3) := by decide +kernel
theorem dX11_goesBy_11 : decode cX11_goesBy 11 = .ok (.if_icmp .ge 82, 3) := by decide +kernel
theorem dX11_goesBy_14 : decode cX11_goesBy 14 = .ok (.aload_n 0, 1) := by decide +kernel
theorem dX11_goesBy_15 : decode cX11_goesBy 15 = .ok (.getfield 76, 3) := by decide +kernel
theorem dX11_goesBy_18 : decode cX11_goesBy 18 = .ok (.iload_n 3, 1) := by decide +kernel
theorem dX11_goesBy_19 : decode cX11_goesBy 19 = .ok (.iaload, 1) := by decide +kernel
theorem dX11_goesBy_20 : decode cX11_goesBy 20 = .ok (.istore 4, 2) := by decide +kernel
theorem dX11_goesBy_22 : decode cX11_goesBy 22 = .ok (.aload_n 0, 1) := by decide +kernel
theorem dX11_goesBy_23 : decode cX11_goesBy 23 = .ok (.getfield 92, 3) := by decide +kernel
theorem dX11_goesBy_26 : decode cX11_goesBy 26 = .ok (.iload 4, 2) := by decide +kernel
theorem dX11_goesBy_28 : decode cX11_goesBy 28 = .ok (.aload_n 0, 1) := by decide +kernel
theorem dX11_goesBy_29 : decode cX11_goesBy 29 = .ok (.iload_n 1, 1) := by decide +kernel
theorem dX11_goesBy_30 : decode cX11_goesBy 30 = .ok (.iload 4, 2) := by decide +kernel
theorem dX11_goesBy_32 : decode cX11_goesBy 32 = .ok (.invokevirtual 299, 3) := by decide +kernel
theorem dX11_goesBy_35 : decode cX11_goesBy 35 = .ok (.iastore, 1) := by decide +kernel
theorem dX11_goesBy_36 : decode cX11_goesBy 36 = .ok (.iload_n 1, 1) := by decide +kernel
theorem dX11_goesBy_37 : decode cX11_goesBy 37 = .ok (.iconst 1, 1) := by decide +kernel
theorem dX11_goesBy_38 : decode cX11_goesBy 38 = .ok (.iload 4, 2) := by decide +kernel
theorem dX11_goesBy_40 : decode cX11_goesBy 40 = .ok (.ishl, 1) := by decide +kernel
theorem dX11_goesBy_41 : decode cX11_goesBy 41 = .ok (.ior, 1) := by decide +kernel
theorem dX11_goesBy_42 : decode cX11_goesBy 42 = .ok (.istore_n 1, 1) := by decide +kernel
theorem dX11_goesBy_43 : decode cX11_goesBy 43 = .ok (.aload_n 0, 1) := by decide +kernel
theorem dX11_goesBy_44 : decode cX11_goesBy 44 = .ok (.getfield 95, 3) := by decide +kernel
theorem dX11_goesBy_47 : decode cX11_goesBy 47 = .ok (.iload 4, 2) := by decide +kernel
theorem dX11_goesBy_49 : decode cX11_goesBy 49 = .ok (.dup2, 1) := by decide +kernel
theorem dX11_goesBy_50 : decode cX11_goesBy 50 = .ok (.iaload, 1) := by decide +kernel
theorem dX11_goesBy_51 : decode cX11_goesBy 51 = .ok (.aload_n 0, 1) := by decide +kernel
theorem dX11_goesBy_52 : decode cX11_goesBy 52 = .ok (.getfield 92, 3) := by decide +kernel
theorem dX11_goesBy_55 : decode cX11_goesBy 55 = .ok (.iload 4, 2) := by decide +kernel
theorem dX11_goesBy_57 : decode cX11_goesBy 57 = .ok (.iaload, 1) := by decide +kernel
theorem dX11_goesBy_58 : decode cX11_goesBy 58 = .ok (.iadd, 1) := by decide +kernel
theorem dX11_goesBy_59 : decode cX11_goesBy 59 = .ok (.iastore, 1) := by decide +kernel
theorem dX11_goesBy_60 : decode cX11_goesBy 60 = .ok (.aload_n 0, 1) := by decide +kernel
theorem dX11_goesBy_61 : decode cX11_goesBy 61 = .ok (.getfield 98, 3) := by decide +kernel
theorem dX11_goesBy_64 : decode cX11_goesBy 64 = .ok (.iload 4, 2) := by decide +kernel
theorem dX11_goesBy_66 : decode cX11_goesBy 66 = .ok (.dup2, 1) := by decide +kernel
theorem dX11_goesBy_67 : decode cX11_goesBy 67 = .ok (.iaload, 1) := by decide +kernel
theorem dX11_goesBy_68 : decode cX11_goesBy 68 = .ok (.aload_n 0, 1) := by decide +kernel
theorem dX11_goesBy_69 : decode cX11_goesBy 69 = .ok (.getfield 52, 3) := by decide +kernel
theorem dX11_goesBy_72 : decode cX11_goesBy 72 = .ok (.iload 4, 2) := by decide +kernel
theorem dX11_goesBy_74 : decode cX11_goesBy 74 = .ok (.iaload, 1) := by decide +kernel
theorem dX11_goesBy_75 : decode cX11_goesBy 75 = .ok (.iadd, 1) := by decide +kernel
theorem dX11_goesBy_76 : decode cX11_goesBy 76 = .ok (.iastore, 1) := by decide +kernel
theorem dX11_goesBy_77 : decode cX11_goesBy 77 = .ok (.iload_n 2, 1) := by decide +kernel
theorem dX11_goesBy_78 : decode cX11_goesBy 78 = .ok (.aload_n 0, 1) := by decide +kernel
theorem dX11_goesBy_79 : decode cX11_goesBy 79 = .ok (.getfield 92, 3) := by decide +kernel
theorem dX11_goesBy_82 : decode cX11_goesBy 82 = .ok (.iload 4, 2) := by decide +kernel
theorem dX11_goesBy_84 : decode cX11_goesBy 84 = .ok (.iaload, 1) := by decide +kernel
theorem dX11_goesBy_85 : decode cX11_goesBy 85 = .ok (.iadd, 1) := by decide +kernel
theorem dX11_goesBy_86 : decode cX11_goesBy 86 = .ok (.istore_n 2, 1) := by decide +kernel
theorem dX11_goesBy_87 : decode cX11_goesBy 87 = .ok (.iinc 3 1, 3) := by decide +kernel
theorem dX11_goesBy_90 : decode cX11_goesBy 90 = .ok (.goto (-84), 3) := by decide +kernel
theorem dX11_goesBy_93 : decode cX11_goesBy 93 = .ok (.aload_n 0, 1) := by decide +kernel
theorem dX11_goesBy_94 : decode cX11_goesBy 94 = .ok (.invokevirtual 336, 3) := by decide +kernel
theorem dX11_goesBy_97 : decode cX11_goesBy 97 = .ok (.iload_n 2, 1) := by decide +kernel
theorem dX11_goesBy_98 : decode cX11_goesBy 98 = .ok (.ireturn, 1) := by decide +kernel
theorem dX11_canBe_0 : decode cX11_canBe 0 = .ok (.iconst 0, 1) := by decide +kernel
theorem dX11_canBe_1 : decode cX11_canBe 1 = .ok (.istore_n 1, 1) := by decide +kernel
theorem dX11_canBe_2 : decode cX11_canBe 2 = .ok (.iload_n 1, 1) := by decide +kernel
theorem dX11_canBe_3 : decode cX11_canBe 3 = .ok (.aload_n 0, 1) := by decide +kernel
theorem dX11_canBe_4 : decode cX11_canBe 4 = .ok (.invokevirtual 121, 3) := by decide +kernel
theorem dX11_canBe_7 : decode cX11_canBe 7 = .ok (.if_icmp .ge 34, 3) := by decide +kernel
theorem dX11_canBe_10 : decode cX11_canBe 10 = .ok (.aload_n 0, 1) := by decide +kernel
theorem dX11_canBe_11 : decode cX11_canBe 11 = .ok (.getfield 95, 3) := by decide +kernel
theorem dX11_canBe_14 : decode cX11_canBe 14 = .ok (.iload_n 1, 1) := by decide +kernel
theorem dX11_canBe_15 : decode cX11_canBe 15 = .ok (.iaload, 1) := by decide +kernel
theorem dX11_canBe_16 : decode cX11_canBe 16 = .ok (.sipush 9999, 3) := by decide +kernel
theorem dX11_canBe_19 : decode cX11_canBe 19 = .ok (.if_icmp .gt 14, 3) := by decide +kernel
theorem dX11_canBe_22 : decode cX11_canBe 22 = .ok (.aload_n 0, 1) := by decide +kernel
theorem dX11_canBe_23 : decode cX11_canBe 23 = .ok (.getfield 98, 3) := by decide +kernel
theorem dX11_canBe_26 : decode cX11_canBe 26 = .ok (.iload_n 1, 1) := by decide +kernel
theorem dX11_canBe_27 : decode cX11_canBe 27 = .ok (.iaload, 1) := by decide +kernel
theorem dX11_canBe_28 : decode cX11_canBe 28 = .ok (.ldc 125, 2) := by decide +kernel
theorem dX11_canBe_30 : decode cX11_canBe 30 = .ok (.if_icmp .le 5, 3) := by decide +kernel
theorem dX11_canBe_33 : decode cX11_canBe 33 = .ok (.iconst 0, 1) := by decide +kernel
theorem dX11_canBe_34 : decode cX11_canBe 34 = .ok (.ireturn, 1) := by decide +kernel
theorem dX11_canBe_35 : decode cX11_canBe 35 = .ok (.iinc 1 1, 3) := by decide +kernel
theorem dX11_canBe_38 : decode cX11_canBe 38 = .ok (.goto (-36), 3) := by decide +kernel
theorem dX11_canBe_41 : decode cX11_canBe 41 = .ok (.aload_n 0, 1) := by decide +kernel
theorem dX11_canBe_42 : decode cX11_canBe 42 = .ok (.getfield 58, 3) := by decide +kernel
theorem dX11_canBe_45 : decode cX11_canBe 45 = .ok (.iconst 0, 1) := by decide +kernel
theorem dX11_canBe_46 : decode cX11_canBe 46 = .ok (.iaload, 1) := by decide +kernel
theorem dX11_canBe_47 : decode cX11_canBe 47 = .ok (.ldc 125, 2) := by decide +kernel
theorem dX11_canBe_49 : decode cX11_canBe 49 = .ok (.if_icmp .gt 18, 3) := by decide +kernel
theorem dX11_canBe_52 : decode cX11_canBe 52 = .ok (.aload_n 0, 1) := by decide +kernel
theorem dX11_canBe_53 : decode cX11_canBe 53 = .ok (.getfield 58, 3) := by decide +kernel
theorem dX11_canBe_56 : decode cX11_canBe 56 = .ok (.iconst 1, 1) := by decide +kernel
theorem dX11_canBe_57 : decode cX11_canBe 57 = .ok (.iaload, 1) := by decide +kernel
theorem dX11_canBe_58 : decode cX11_canBe 58 = .ok (.ldc 125, 2) := by decide +kernel
theorem dX11_canBe_60 : decode cX11_canBe 60 = .ok (.if_icmp .gt 7, 3) := by decide +kernel
theorem dX11_canBe_63 : decode cX11_canBe 63 = .ok (.iconst 1, 1) := by decide +kernel
theorem dX11_canBe_64 : decode cX11_canBe 64 = .ok (.goto 4, 3) := by decide +kernel
theorem dX11_canBe_67 : decode cX11_canBe 67 = .ok (.iconst 0, 1) := by decide +kernel
theorem dX11_canBe_68 : decode cX11_canBe 68 = .ok (.ireturn, 1) := by decide +kernel
theorem dX11_draws_0 : decode cX11_draws 0 = .ok (.aload_n 0, 1) := by decide +kernel
theorem dX11_draws_1 : decode cX11_draws 1 = .ok (.ldc2_w 360, 3) := by decide +kernel
theorem dX11_draws_4 : decode cX11_draws 4 = .ok (.aload_n 0, 1) := by decide +kernel
theorem dX11_draws_5 : decode cX11_draws 5 = .ok (.getfield 362, 3) := by decide +kernel
theorem dX11_draws_8 : decode cX11_draws 8 = .ok (.i2l, 1) := by decide +kernel
theorem dX11_draws_9 : decode cX11_draws 9 = .ok (.lmul, 1) := by decide +kernel
theorem dX11_draws_10 : decode cX11_draws 10 = .ok (.ldc2_w 365, 3) := by decide +kernel
theorem dX11_draws_13 : decode cX11_draws 13 = .ok (.ladd, 1) := by decide +kernel
theorem dX11_draws_14 : decode cX11_draws 14 = .ok (.ldc2_w 367, 3) := by decide +kernel
theorem dX11_draws_17 : decode cX11_draws 17 = .ok (.lrem, 1) := by decide +kernel
theorem dX11_draws_18 : decode cX11_draws 18 = .ok (.l2i, 1) := by decide +kernel
theorem dX11_draws_19 : decode cX11_draws 19 = .ok (.putfield 362, 3) := by decide +kernel
theorem dX11_draws_22 : decode cX11_draws 22 = .ok (.aload_n 0, 1) := by decide +kernel
theorem dX11_draws_23 : decode cX11_draws 23 = .ok (.getfield 362, 3) := by decide +kernel
theorem dX11_draws_26 : decode cX11_draws 26 = .ok (.iload_n 1, 1) := by decide +kernel
theorem dX11_draws_27 : decode cX11_draws 27 = .ok (.irem, 1) := by decide +kernel
theorem dX11_draws_28 : decode cX11_draws 28 = .ok (.ireturn, 1) := by decide +kernel
theorem dX11_queues_0 : decode cX11_queues 0 = .ok (.iload_n 1, 1) := by decide +kernel
theorem dX11_queues_1 : decode cX11_queues 1 = .ok (.iconst 0, 1) := by decide +kernel
theorem dX11_queues_2 : decode cX11_queues 2 = .ok (.ldc 168, 2) := by decide +kernel
theorem dX11_queues_4 : decode cX11_queues 4 = .ok (.invokestatic 110, 3) := by decide +kernel
theorem dX11_queues_7 : decode cX11_queues 7 = .ok (.ifCond .eq 13, 3) := by decide +kernel
theorem dX11_queues_10 : decode cX11_queues 10 = .ok (.iload_n 2, 1) := by decide +kernel
theorem dX11_queues_11 : decode cX11_queues 11 = .ok (.iconst 1, 1) := by decide +kernel
theorem dX11_queues_12 : decode cX11_queues 12 = .ok (.bipush 20, 2) := by decide +kernel
theorem dX11_queues_14 : decode cX11_queues 14 = .ok (.invokestatic 110, 3) := by decide +kernel
theorem dX11_queues_17 : decode cX11_queues 17 = .ok (.ifCond .ne 9, 3) := by decide +kernel
theorem dX11_queues_20 : decode cX11_queues 20 = .ok (.aload_n 0, 1) := by decide +kernel
theorem dX11_queues_21 : decode cX11_queues 21 = .ok (.iconst (-1), 1) := by decide +kernel
theorem dX11_queues_22 : decode cX11_queues 22 = .ok (.invokevirtual 114, 3) := by decide +kernel
theorem dX11_queues_25 : decode cX11_queues 25 = .ok (.ireturn, 1) := by decide +kernel
theorem dX11_queues_26 : decode cX11_queues 26 = .ok (.aload_n 0, 1) := by decide +kernel
theorem dX11_queues_27 : decode cX11_queues 27 = .ok (.iload_n 1, 1) := by decide +kernel
theorem dX11_queues_28 : decode cX11_queues 28 = .ok (.putfield 362, 3) := by decide +kernel
theorem dX11_queues_31 : decode cX11_queues 31 = .ok (.aload_n 0, 1) := by decide +kernel
theorem dX11_queues_32 : decode cX11_queues 32 = .ok (.aload_n 0, 1) := by decide +kernel
theorem dX11_queues_33 : decode cX11_queues 33 = .ok (.getfield 17, 3) := by decide +kernel
theorem dX11_queues_36 : decode cX11_queues 36 = .ok (.bipush 42, 2) := by decide +kernel
theorem dX11_queues_38 : decode cX11_queues 38 = .ok (.iaload, 1) := by decide +kernel
theorem dX11_queues_39 : decode cX11_queues 39 = .ok (.invokevirtual 142, 3) := by decide +kernel
theorem dX11_queues_42 : decode cX11_queues 42 = .ok (.iconst 0, 1) := by decide +kernel
theorem dX11_queues_43 : decode cX11_queues 43 = .ok (.istore_n 3, 1) := by decide +kernel
theorem dX11_queues_44 : decode cX11_queues 44 = .ok (.iload_n 3, 1) := by decide +kernel
theorem dX11_queues_45 : decode cX11_queues 45 = .ok (.aload_n 0, 1) := by decide +kernel
theorem dX11_queues_46 : decode cX11_queues 46 = .ok (.invokevirtual 121, 3) := by decide +kernel
theorem dX11_queues_49 : decode cX11_queues 49 = .ok (.if_icmp .ge 40, 3) := by decide +kernel
theorem dX11_queues_52 : decode cX11_queues 52 = .ok (.aload_n 0, 1) := by decide +kernel
theorem dX11_queues_53 : decode cX11_queues 53 = .ok (.getfield 95, 3) := by decide +kernel
theorem dX11_queues_56 : decode cX11_queues 56 = .ok (.iload_n 3, 1) := by decide +kernel
theorem dX11_queues_57 : decode cX11_queues 57 = .ok (.aload_n 0, 1) := by decide +kernel
theorem dX11_queues_58 : decode cX11_queues 58 = .ok (.iload_n 3, 1) := by decide +kernel
theorem dX11_queues_59 : decode cX11_queues 59 = .ok (.iconst 3, 1) := by decide +kernel
theorem dX11_queues_60 : decode cX11_queues 60 = .ok (.invokevirtual 138, 3) := by decide +kernel
theorem dX11_queues_63 : decode cX11_queues 63 = .ok (.iastore, 1) := by decide +kernel
theorem dX11_queues_64 : decode cX11_queues 64 = .ok (.aload_n 0, 1) := by decide +kernel
theorem dX11_queues_65 : decode cX11_queues 65 = .ok (.getfield 98, 3) := by decide +kernel
theorem dX11_queues_68 : decode cX11_queues 68 = .ok (.iload_n 3, 1) := by decide +kernel
theorem dX11_queues_69 : decode cX11_queues 69 = .ok (.aload_n 0, 1) := by decide +kernel
theorem dX11_queues_70 : decode cX11_queues 70 = .ok (.iload_n 3, 1) := by decide +kernel
theorem dX11_queues_71 : decode cX11_queues 71 = .ok (.iconst 4, 1) := by decide +kernel
theorem dX11_queues_72 : decode cX11_queues 72 = .ok (.invokevirtual 138, 3) := by decide +kernel
theorem dX11_queues_75 : decode cX11_queues 75 = .ok (.iastore, 1) := by decide +kernel
theorem dX11_queues_76 : decode cX11_queues 76 = .ok (.aload_n 0, 1) := by decide +kernel
theorem dX11_queues_77 : decode cX11_queues 77 = .ok (.getfield 107, 3) := by decide +kernel
theorem dX11_queues_80 : decode cX11_queues 80 = .ok (.iload_n 3, 1) := by decide +kernel
theorem dX11_queues_81 : decode cX11_queues 81 = .ok (.iconst 0, 1) := by decide +kernel
theorem dX11_queues_82 : decode cX11_queues 82 = .ok (.iastore, 1) := by decide +kernel
theorem dX11_queues_83 : decode cX11_queues 83 = .ok (.iinc 3 1, 3) := by decide +kernel
theorem dX11_queues_86 : decode cX11_queues 86 = .ok (.goto (-42), 3) := by decide +kernel
theorem dX11_queues_89 : decode cX11_queues 89 = .ok (.iconst 0, 1) := by decide +kernel
theorem dX11_queues_90 : decode cX11_queues 90 = .ok (.istore_n 3, 1) := by decide +kernel
theorem dX11_queues_91 : decode cX11_queues 91 = .ok (.iconst 0, 1) := by decide +kernel
theorem dX11_queues_92 : decode cX11_queues 92 = .ok (.istore 4, 2) := by decide +kernel
theorem dX11_queues_94 : decode cX11_queues 94 = .ok (.iload 4, 2) := by decide +kernel
theorem dX11_queues_96 : decode cX11_queues 96 = .ok (.iload_n 2, 1) := by decide +kernel
theorem dX11_queues_97 : decode cX11_queues 97 = .ok (.if_icmp .ge 133, 3) := by decide +kernel
theorem dX11_queues_100 : decode cX11_queues 100 = .ok (.iconst 0, 1) := by decide +kernel
theorem dX11_queues_101 : decode cX11_queues 101 = .ok (.istore 5, 2) := by decide +kernel
theorem dX11_queues_103 : decode cX11_queues 103 = .ok (.iload 5, 2) := by decide +kernel
theorem dX11_queues_105 : decode cX11_queues 105 = .ok (.aload_n 0, 1) := by decide +kernel
theorem dX11_queues_106 : decode cX11_queues 106 = .ok (.invokevirtual 121, 3) := by decide +kernel
theorem dX11_queues_109 : decode cX11_queues 109 = .ok (.if_icmp .ge 23, 3) := by decide +kernel
theorem dX11_queues_112 : decode cX11_queues 112 = .ok (.aload_n 0, 1) := by decide +kernel
theorem dX11_queues_113 : decode cX11_queues 113 = .ok (.getfield 61, 3) := by decide +kernel
theorem dX11_queues_116 : decode cX11_queues 116 = .ok (.iload 5, 2) := by decide +kernel
theorem dX11_queues_118 : decode cX11_queues 118 = .ok (.aload_n 0, 1) := by decide +kernel
theorem dX11_queues_119 : decode cX11_queues 119 = .ok (.getfield 95, 3) := by decide +kernel
theorem dX11_queues_122 : decode cX11_queues 122 = .ok (.iload 5, 2) := by decide +kernel
theorem dX11_queues_124 : decode cX11_queues 124 = .ok (.iaload, 1) := by decide +kernel
theorem dX11_queues_125 : decode cX11_queues 125 = .ok (.iastore, 1) := by decide +kernel
theorem dX11_queues_126 : decode cX11_queues 126 = .ok (.iinc 5 1, 3) := by decide +kernel
theorem dX11_queues_129 : decode cX11_queues 129 = .ok (.goto (-26), 3) := by decide +kernel
theorem dX11_queues_132 : decode cX11_queues 132 = .ok (.aload_n 0, 1) := by decide +kernel
theorem dX11_queues_133 : decode cX11_queues 133 = .ok (.aload_n 0, 1) := by decide +kernel
theorem dX11_queues_134 : decode cX11_queues 134 = .ok (.getfield 17, 3) := by decide +kernel
theorem dX11_queues_137 : decode cX11_queues 137 = .ok (.bipush 42, 2) := by decide +kernel
theorem dX11_queues_139 : decode cX11_queues 139 = .ok (.iaload, 1) := by decide +kernel
theorem dX11_queues_140 : decode cX11_queues 140 = .ok (.iload 4, 2) := by decide +kernel
theorem dX11_queues_142 : decode cX11_queues 142 = .ok (.iadd, 1) := by decide +kernel
theorem dX11_queues_143 : decode cX11_queues 143 = .ok (.invokevirtual 284, 3) := by decide +kernel
theorem dX11_queues_146 : decode cX11_queues 146 = .ok (.aload_n 0, 1) := by decide +kernel
theorem dX11_queues_147 : decode cX11_queues 147 = .ok (.invokevirtual 369, 3) := by decide +kernel
theorem dX11_queues_150 : decode cX11_queues 150 = .ok (.iload_n 3, 1) := by decide +kernel
theorem dX11_queues_151 : decode cX11_queues 151 = .ok (.aload_n 0, 1) := by decide +kernel
theorem dX11_queues_152 : decode cX11_queues 152 = .ok (.invokevirtual 354, 3) := by decide +kernel
theorem dX11_queues_155 : decode cX11_queues 155 = .ok (.iadd, 1) := by decide +kernel
theorem dX11_queues_156 : decode cX11_queues 156 = .ok (.istore_n 3, 1) := by decide +kernel
theorem dX11_queues_157 : decode cX11_queues 157 = .ok (.aload_n 0, 1) := by decide +kernel
theorem dX11_queues_158 : decode cX11_queues 158 = .ok (.invokevirtual 357, 3) := by decide +kernel
theorem dX11_queues_161 : decode cX11_queues 161 = .ok (.ifCond .eq 21, 3) := by decide +kernel
theorem dX11_queues_164 : decode cX11_queues 164 = .ok (.aload_n 0, 1) := by decide +kernel
theorem dX11_queues_165 : decode cX11_queues 165 = .ok (.getfield 17, 3) := by decide +kernel
theorem dX11_queues_168 : decode cX11_queues 168 = .ok (.bipush 42, 2) := by decide +kernel
theorem dX11_queues_170 : decode cX11_queues 170 = .ok (.iaload, 1) := by decide +kernel
theorem dX11_queues_171 : decode cX11_queues 171 = .ok (.iload 4, 2) := by decide +kernel
theorem dX11_queues_173 : decode cX11_queues 173 = .ok (.iadd, 1) := by decide +kernel
theorem dX11_queues_174 : decode cX11_queues 174 = .ok (.iconst 1, 1) := by decide +kernel
theorem dX11_queues_175 : decode cX11_queues 175 = .ok (.iadd, 1) := by decide +kernel
theorem dX11_queues_176 : decode cX11_queues 176 = .ok (.sipush 9999, 3) := by decide +kernel
theorem dX11_queues_179 : decode cX11_queues 179 = .ok (.if_icmp .le 10, 3) := by decide +kernel
theorem dX11_queues_182 : decode cX11_queues 182 = .ok (.aload_n 0, 1) := by decide +kernel
theorem dX11_queues_183 : decode cX11_queues 183 = .ok (.bipush (-5), 2) := by decide +kernel
theorem dX11_queues_185 : decode cX11_queues 185 = .ok (.invokevirtual 114, 3) := by decide +kernel
theorem dX11_queues_188 : decode cX11_queues 188 = .ok (.ireturn, 1) := by decide +kernel
theorem dX11_queues_189 : decode cX11_queues 189 = .ok (.iconst 0, 1) := by decide +kernel
theorem dX11_queues_190 : decode cX11_queues 190 = .ok (.istore 5, 2) := by decide +kernel
theorem dX11_queues_192 : decode cX11_queues 192 = .ok (.iload 5, 2) := by decide +kernel
theorem dX11_queues_194 : decode cX11_queues 194 = .ok (.aload_n 0, 1) := by decide +kernel
theorem dX11_queues_195 : decode cX11_queues 195 = .ok (.invokevirtual 121, 3) := by decide +kernel
theorem dX11_queues_198 : decode cX11_queues 198 = .ok (.if_icmp .ge 26, 3) := by decide +kernel
theorem dX11_queues_201 : decode cX11_queues 201 = .ok (.aload_n 0, 1) := by decide +kernel
theorem dX11_queues_202 : decode cX11_queues 202 = .ok (.getfield 107, 3) := by decide +kernel
theorem dX11_queues_205 : decode cX11_queues 205 = .ok (.iload 5, 2) := by decide +kernel
theorem dX11_queues_207 : decode cX11_queues 207 = .ok (.dup2, 1) := by decide +kernel
theorem dX11_queues_208 : decode cX11_queues 208 = .ok (.iaload, 1) := by decide +kernel
theorem dX11_queues_209 : decode cX11_queues 209 = .ok (.aload_n 0, 1) := by decide +kernel
theorem dX11_queues_210 : decode cX11_queues 210 = .ok (.getfield 92, 3) := by decide +kernel
theorem dX11_queues_213 : decode cX11_queues 213 = .ok (.iload 5, 2) := by decide +kernel
theorem dX11_queues_215 : decode cX11_queues 215 = .ok (.iaload, 1) := by decide +kernel
theorem dX11_queues_216 : decode cX11_queues 216 = .ok (.iadd, 1) := by decide +kernel
theorem dX11_queues_217 : decode cX11_queues 217 = .ok (.iastore, 1) := by decide +kernel
theorem dX11_queues_218 : decode cX11_queues 218 = .ok (.iinc 5 1, 3) := by decide +kernel
theorem dX11_queues_221 : decode cX11_queues 221 = .ok (.goto (-29), 3) := by decide +kernel
theorem dX11_queues_224 : decode cX11_queues 224 = .ok (.iinc 4 1, 3) := by decide +kernel
theorem dX11_queues_227 : decode cX11_queues 227 = .ok (.goto (-133), 3) := by decide +kernel
theorem dX11_queues_230 : decode cX11_queues 230 = .ok (.aload_n 0, 1) := by decide +kernel
theorem dX11_queues_231 : decode cX11_queues 231 = .ok (.aload_n 0, 1) := by decide +kernel
theorem dX11_queues_232 : decode cX11_queues 232 = .ok (.invokevirtual 121, 3) := by decide +kernel
theorem dX11_queues_235 : decode cX11_queues 235 = .ok (.putfield 372, 3) := by decide +kernel
theorem dX11_queues_238 : decode cX11_queues 238 = .ok (.iconst 0, 1) := by decide +kernel
theorem dX11_queues_239 : decode cX11_queues 239 = .ok (.istore 4, 2) := by decide +kernel
theorem dX11_queues_241 : decode cX11_queues 241 = .ok (.iload 4, 2) := by decide +kernel
theorem dX11_queues_243 : decode cX11_queues 243 = .ok (.aload_n 0, 1) := by decide +kernel
theorem dX11_queues_244 : decode cX11_queues 244 = .ok (.invokevirtual 121, 3) := by decide +kernel
theorem dX11_queues_247 : decode cX11_queues 247 = .ok (.if_icmp .ge 37, 3) := by decide +kernel
theorem dX11_queues_250 : decode cX11_queues 250 = .ok (.aload_n 0, 1) := by decide +kernel
theorem dX11_queues_251 : decode cX11_queues 251 = .ok (.getfield 101, 3) := by decide +kernel
theorem dX11_queues_254 : decode cX11_queues 254 = .ok (.iload 4, 2) := by decide +kernel
theorem dX11_queues_256 : decode cX11_queues 256 = .ok (.aload_n 0, 1) := by decide +kernel
theorem dX11_queues_257 : decode cX11_queues 257 = .ok (.getfield 107, 3) := by decide +kernel
theorem dX11_queues_260 : decode cX11_queues 260 = .ok (.iload 4, 2) := by decide +kernel
theorem dX11_queues_262 : decode cX11_queues 262 = .ok (.iaload, 1) := by decide +kernel
theorem dX11_queues_263 : decode cX11_queues 263 = .ok (.iastore, 1) := by decide +kernel
theorem dX11_queues_264 : decode cX11_queues 264 = .ok (.aload_n 0, 1) := by decide +kernel
theorem dX11_queues_265 : decode cX11_queues 265 = .ok (.getfield 104, 3) := by decide +kernel
theorem dX11_queues_268 : decode cX11_queues 268 = .ok (.aload_n 0, 1) := by decide +kernel
theorem dX11_queues_269 : decode cX11_queues 269 = .ok (.getfield 76, 3) := by decide +kernel
theorem dX11_queues_272 : decode cX11_queues 272 = .ok (.iload 4, 2) := by decide +kernel
theorem dX11_queues_274 : decode cX11_queues 274 = .ok (.iaload, 1) := by decide +kernel
theorem dX11_queues_275 : decode cX11_queues 275 = .ok (.iload 4, 2) := by decide +kernel
theorem dX11_queues_277 : decode cX11_queues 277 = .ok (.iastore, 1) := by decide +kernel
theorem dX11_queues_278 : decode cX11_queues 278 = .ok (.iinc 4 1, 3) := by decide +kernel
theorem dX11_queues_281 : decode cX11_queues 281 = .ok (.goto (-40), 3) := by decide +kernel
theorem dX11_queues_284 : decode cX11_queues 284 = .ok (.aload_n 0, 1) := by decide +kernel
theorem dX11_queues_285 : decode cX11_queues 285 = .ok (.iload_n 3, 1) := by decide +kernel
theorem dX11_queues_286 : decode cX11_queues 286 = .ok (.invokevirtual 118, 3) := by decide +kernel
theorem dX11_queues_289 : decode cX11_queues 289 = .ok (.ireturn, 1) := by decide +kernel
theorem dX11_queuesUp_0 : decode cX11_queuesUp 0 = .ok (.iconst 0, 1) := by decide +kernel
theorem dX11_queuesUp_1 : decode cX11_queuesUp 1 = .ok (.istore_n 1, 1) := by decide +kernel
theorem dX11_queuesUp_2 : decode cX11_queuesUp 2 = .ok (.iconst 0, 1) := by decide +kernel
theorem dX11_queuesUp_3 : decode cX11_queuesUp 3 = .ok (.istore_n 2, 1) := by decide +kernel
theorem dX11_queuesUp_4 : decode cX11_queuesUp 4 = .ok (.iload_n 2, 1) := by decide +kernel
theorem dX11_queuesUp_5 : decode cX11_queuesUp 5 = .ok (.aload_n 0, 1) := by decide +kernel
theorem dX11_queuesUp_6 : decode cX11_queuesUp 6 = .ok (.invokevirtual 121, 3) := by decide +kernel
theorem dX11_queuesUp_9 : decode cX11_queuesUp 9 = .ok (.if_icmp .ge 177, 3) := by decide +kernel
theorem dX11_queuesUp_12 : decode cX11_queuesUp 12 = .ok (.iconst 0, 1) := by decide +kernel
theorem dX11_queuesUp_13 : decode cX11_queuesUp 13 = .ok (.istore_n 3, 1) := by decide +kernel
theorem dX11_queuesUp_14 : decode cX11_queuesUp 14 = .ok (.iconst 0, 1) := by decide +kernel
theorem dX11_queuesUp_15 : decode cX11_queuesUp 15 = .ok (.istore 4, 2) := by decide +kernel
theorem dX11_queuesUp_17 : decode cX11_queuesUp 17 = .ok (.iload 4, 2) := by decide +kernel
theorem dX11_queuesUp_19 : decode cX11_queuesUp 19 = .ok (.aload_n 0, 1) := by decide +kernel
theorem dX11_queuesUp_20 : decode cX11_queuesUp 20 = .ok (.invokevirtual 121, 3) := by decide +kernel
theorem dX11_queuesUp_23 : decode cX11_queuesUp 23 = .ok (.if_icmp .ge 27, 3) := by decide +kernel
theorem dX11_queuesUp_26 : decode cX11_queuesUp 26 = .ok (.iload_n 3, 1) := by decide +kernel
theorem dX11_queuesUp_27 : decode cX11_queuesUp 27 = .ok (.aload_n 0, 1) := by decide +kernel
theorem dX11_queuesUp_28 : decode cX11_queuesUp 28 = .ok (.iload_n 1, 1) := by decide +kernel
theorem dX11_queuesUp_29 : decode cX11_queuesUp 29 = .ok (.iload 4, 2) := by decide +kernel
theorem dX11_queuesUp_31 : decode cX11_queuesUp 31 = .ok (.invokevirtual 305, 3) := by decide +kernel
theorem dX11_queuesUp_34 : decode cX11_queuesUp 34 = .ok (.ifCond .eq 7, 3) := by decide +kernel
theorem dX11_queuesUp_37 : decode cX11_queuesUp 37 = .ok (.iconst 1, 1) := by decide +kernel
theorem dX11_queuesUp_38 : decode cX11_queuesUp 38 = .ok (.goto 4, 3) := by decide +kernel
theorem dX11_queuesUp_41 : decode cX11_queuesUp 41 = .ok (.iconst 0, 1) := by decide +kernel
theorem dX11_queuesUp_42 : decode cX11_queuesUp 42 = .ok (.iadd, 1) := by decide +kernel
theorem dX11_queuesUp_43 : decode cX11_queuesUp 43 = .ok (.istore_n 3, 1) := by decide +kernel
theorem dX11_queuesUp_44 : decode cX11_queuesUp 44 = .ok (.iinc 4 1, 3) := by decide +kernel
theorem dX11_queuesUp_47 : decode cX11_queuesUp 47 = .ok (.goto (-30), 3) := by decide +kernel
theorem dX11_queuesUp_50 : decode cX11_queuesUp 50 = .ok (.iload_n 3, 1) := by decide +kernel
theorem dX11_queuesUp_51 : decode cX11_queuesUp 51 = .ok (.ifCond .ne 7, 3) := by decide +kernel
theorem dX11_queuesUp_54 : decode cX11_queuesUp 54 = .ok (.iconst 1, 1) := by decide +kernel
theorem dX11_queuesUp_55 : decode cX11_queuesUp 55 = .ok (.goto 4, 3) := by decide +kernel
theorem dX11_queuesUp_58 : decode cX11_queuesUp 58 = .ok (.iconst 0, 1) := by decide +kernel
theorem dX11_queuesUp_59 : decode cX11_queuesUp 59 = .ok (.istore 4, 2) := by decide +kernel
theorem dX11_queuesUp_61 : decode cX11_queuesUp 61 = .ok (.aload_n 0, 1) := by decide +kernel
theorem dX11_queuesUp_62 : decode cX11_queuesUp 62 = .ok (.iload 4, 2) := by decide +kernel
theorem dX11_queuesUp_64 : decode cX11_queuesUp 64 = .ok (.ifCond .eq 12, 3) := by decide +kernel
theorem dX11_queuesUp_67 : decode cX11_queuesUp 67 = .ok (.aload_n 0, 1) := by decide +kernel
theorem dX11_queuesUp_68 : decode cX11_queuesUp 68 = .ok (.invokevirtual 121, 3) := by decide +kernel
theorem dX11_queuesUp_71 : decode cX11_queuesUp 71 = .ok (.iload_n 2, 1) := by decide +kernel
theorem dX11_queuesUp_72 : decode cX11_queuesUp 72 = .ok (.isub, 1) := by decide +kernel
theorem dX11_queuesUp_73 : decode cX11_queuesUp 73 = .ok (.goto 4, 3) := by decide +kernel
theorem dX11_queuesUp_76 : decode cX11_queuesUp 76 = .ok (.iload_n 3, 1) := by decide +kernel
theorem dX11_queuesUp_77 : decode cX11_queuesUp 77 = .ok (.invokevirtual 375, 3) := by decide +kernel
theorem dX11_queuesUp_80 : decode cX11_queuesUp 80 = .ok (.istore 5, 2) := by decide +kernel
theorem dX11_queuesUp_82 : decode cX11_queuesUp 82 = .ok (.iconst 0, 1) := by decide +kernel
theorem dX11_queuesUp_83 : decode cX11_queuesUp 83 = .ok (.istore 6, 2) := by decide +kernel
theorem dX11_queuesUp_85 : decode cX11_queuesUp 85 = .ok (.iload 4, 2) := by decide +kernel
theorem dX11_queuesUp_87 : decode cX11_queuesUp 87 = .ok (.ifCond .eq 20, 3) := by decide +kernel
theorem dX11_queuesUp_90 : decode cX11_queuesUp 90 = .ok (.iload_n 1, 1) := by decide +kernel
theorem dX11_queuesUp_91 : decode cX11_queuesUp 91 = .ok (.iload 6, 2) := by decide +kernel
theorem dX11_queuesUp_93 : decode cX11_queuesUp 93 = .ok (.invokestatic 287, 3) := by decide +kernel
theorem dX11_queuesUp_96 : decode cX11_queuesUp 96 = .ok (.ifCond .ne 26, 3) := by decide +kernel
theorem dX11_queuesUp_99 : decode cX11_queuesUp 99 = .ok (.iload 5, 2) := by decide +kernel
theorem dX11_queuesUp_101 : decode cX11_queuesUp 101 = .ok (.ifCond .le 64, 3) := by decide +kernel
theorem dX11_queuesUp_104 : decode cX11_queuesUp 104 = .ok (.goto 18, 3) := by decide +kernel
theorem dX11_queuesUp_107 : decode cX11_queuesUp 107 = .ok (.aload_n 0, 1) := by decide +kernel
theorem dX11_queuesUp_108 : decode cX11_queuesUp 108 = .ok (.iload_n 1, 1) := by decide +kernel
theorem dX11_queuesUp_109 : decode cX11_queuesUp 109 = .ok (.iload 6, 2) := by decide +kernel
theorem dX11_queuesUp_111 : decode cX11_queuesUp 111 = .ok (.invokevirtual 305, 3) := by decide +kernel
theorem dX11_queuesUp_114 : decode cX11_queuesUp 114 = .ok (.ifCond .eq 8, 3) := by decide +kernel
theorem dX11_queuesUp_117 : decode cX11_queuesUp 117 = .ok (.iload 5, 2) := by decide +kernel
theorem dX11_queuesUp_119 : decode cX11_queuesUp 119 = .ok (.ifCond .le 46, 3) := by decide +kernel
theorem dX11_queuesUp_122 : decode cX11_queuesUp 122 = .ok (.iload 5, 2) := by decide +kernel
theorem dX11_queuesUp_124 : decode cX11_queuesUp 124 = .ok (.iload 4, 2) := by decide +kernel
theorem dX11_queuesUp_126 : decode cX11_queuesUp 126 = .ok (.ifCond .eq 15, 3) := by decide +kernel
theorem dX11_queuesUp_129 : decode cX11_queuesUp 129 = .ok (.iload_n 1, 1) := by decide +kernel
theorem dX11_queuesUp_130 : decode cX11_queuesUp 130 = .ok (.iload 6, 2) := by decide +kernel
theorem dX11_queuesUp_132 : decode cX11_queuesUp 132 = .ok (.invokestatic 287, 3) := by decide +kernel
theorem dX11_queuesUp_135 : decode cX11_queuesUp 135 = .ok (.ifCond .ne 20, 3) := by decide +kernel
theorem dX11_queuesUp_138 : decode cX11_queuesUp 138 = .ok (.goto 13, 3) := by decide +kernel
theorem dX11_queuesUp_141 : decode cX11_queuesUp 141 = .ok (.aload_n 0, 1) := by decide +kernel
theorem dX11_queuesUp_142 : decode cX11_queuesUp 142 = .ok (.iload_n 1, 1) := by decide +kernel
theorem dX11_queuesUp_143 : decode cX11_queuesUp 143 = .ok (.iload 6, 2) := by decide +kernel
theorem dX11_queuesUp_145 : decode cX11_queuesUp 145 = .ok (.invokevirtual 305, 3) := by decide +kernel
theorem dX11_queuesUp_148 : decode cX11_queuesUp 148 = .ok (.ifCond .eq 7, 3) := by decide +kernel
theorem dX11_queuesUp_151 : decode cX11_queuesUp 151 = .ok (.iconst 1, 1) := by decide +kernel
theorem dX11_queuesUp_152 : decode cX11_queuesUp 152 = .ok (.goto 4, 3) := by decide +kernel
theorem dX11_queuesUp_155 : decode cX11_queuesUp 155 = .ok (.iconst 0, 1) := by decide +kernel
theorem dX11_queuesUp_156 : decode cX11_queuesUp 156 = .ok (.isub, 1) := by decide +kernel
theorem dX11_queuesUp_157 : decode cX11_queuesUp 157 = .ok (.istore 5, 2) := by decide +kernel
theorem dX11_queuesUp_159 : decode cX11_queuesUp 159 = .ok (.iinc 6 1, 3) := by decide +kernel
theorem dX11_queuesUp_162 : decode cX11_queuesUp 162 = .ok (.goto (-77), 3) := by decide +kernel
theorem dX11_queuesUp_165 : decode cX11_queuesUp 165 = .ok (.aload_n 0, 1) := by decide +kernel
theorem dX11_queuesUp_166 : decode cX11_queuesUp 166 = .ok (.getfield 76, 3) := by decide +kernel
theorem dX11_queuesUp_169 : decode cX11_queuesUp 169 = .ok (.iload_n 2, 1) := by decide +kernel
theorem dX11_queuesUp_170 : decode cX11_queuesUp 170 = .ok (.iload 6, 2) := by decide +kernel
theorem dX11_queuesUp_172 : decode cX11_queuesUp 172 = .ok (.iastore, 1) := by decide +kernel
theorem dX11_queuesUp_173 : decode cX11_queuesUp 173 = .ok (.iload_n 1, 1) := by decide +kernel
theorem dX11_queuesUp_174 : decode cX11_queuesUp 174 = .ok (.iconst 1, 1) := by decide +kernel
theorem dX11_queuesUp_175 : decode cX11_queuesUp 175 = .ok (.iload 6, 2) := by decide +kernel
theorem dX11_queuesUp_177 : decode cX11_queuesUp 177 = .ok (.ishl, 1) := by decide +kernel
theorem dX11_queuesUp_178 : decode cX11_queuesUp 178 = .ok (.ior, 1) := by decide +kernel
theorem dX11_queuesUp_179 : decode cX11_queuesUp 179 = .ok (.istore_n 1, 1) := by decide +kernel
theorem dX11_queuesUp_180 : decode cX11_queuesUp 180 = .ok (.iinc 2 1, 3) := by decide +kernel
theorem dX11_queuesUp_183 : decode cX11_queuesUp 183 = .ok (.goto (-179), 3) := by decide +kernel
theorem dX11_queuesUp_186 : decode cX11_queuesUp 186 = .ok (.return_, 1) := by decide +kernel
theorem dX11_drawn_0 : decode cX11_drawn 0 = .ok (.iload_n 1, 1) := by decide +kernel
theorem dX11_drawn_1 : decode cX11_drawn 1 = .ok (.iconst 0, 1) := by decide +kernel
theorem dX11_drawn_2 : decode cX11_drawn 2 = .ok (.aload_n 0, 1) := by decide +kernel
theorem dX11_drawn_3 : decode cX11_drawn 3 = .ok (.getfield 372, 3) := by decide +kernel
theorem dX11_drawn_6 : decode cX11_drawn 6 = .ok (.iconst 1, 1) := by decide +kernel
theorem dX11_drawn_7 : decode cX11_drawn 7 = .ok (.isub, 1) := by decide +kernel
theorem dX11_drawn_8 : decode cX11_drawn 8 = .ok (.invokestatic 110, 3) := by decide +kernel
theorem dX11_drawn_11 : decode cX11_drawn 11 = .ok (.ifCond .eq 12, 3) := by decide +kernel
theorem dX11_drawn_14 : decode cX11_drawn 14 = .ok (.iload_n 2, 1) := by decide +kernel
theorem dX11_drawn_15 : decode cX11_drawn 15 = .ok (.iconst 0, 1) := by decide +kernel
theorem dX11_drawn_16 : decode cX11_drawn 16 = .ok (.iconst 1, 1) := by decide +kernel
theorem dX11_drawn_17 : decode cX11_drawn 17 = .ok (.invokestatic 110, 3) := by decide +kernel
theorem dX11_drawn_20 : decode cX11_drawn 20 = .ok (.ifCond .ne 7, 3) := by decide +kernel
theorem dX11_drawn_23 : decode cX11_drawn 23 = .ok (.iconst (-1), 1) := by decide +kernel
theorem dX11_drawn_24 : decode cX11_drawn 24 = .ok (.goto 22, 3) := by decide +kernel
theorem dX11_drawn_27 : decode cX11_drawn 27 = .ok (.iload_n 2, 1) := by decide +kernel
theorem dX11_drawn_28 : decode cX11_drawn 28 = .ok (.ifCond .ne 12, 3) := by decide +kernel
theorem dX11_drawn_31 : decode cX11_drawn 31 = .ok (.aload_n 0, 1) := by decide +kernel
theorem dX11_drawn_32 : decode cX11_drawn 32 = .ok (.getfield 101, 3) := by decide +kernel
theorem dX11_drawn_35 : decode cX11_drawn 35 = .ok (.iload_n 1, 1) := by decide +kernel
theorem dX11_drawn_36 : decode cX11_drawn 36 = .ok (.iaload, 1) := by decide +kernel
theorem dX11_drawn_37 : decode cX11_drawn 37 = .ok (.goto 9, 3) := by decide +kernel
theorem dX11_drawn_40 : decode cX11_drawn 40 = .ok (.aload_n 0, 1) := by decide +kernel
theorem dX11_drawn_41 : decode cX11_drawn 41 = .ok (.getfield 104, 3) := by decide +kernel
theorem dX11_drawn_44 : decode cX11_drawn 44 = .ok (.iload_n 1, 1) := by decide +kernel
theorem dX11_drawn_45 : decode cX11_drawn 45 = .ok (.iaload, 1) := by decide +kernel
theorem dX11_drawn_46 : decode cX11_drawn 46 = .ok (.ireturn, 1) := by decide +kernel
theorem dX11_count_0 : decode cX11_count 0 = .ok (.iload_n 1, 1) := by decide +kernel
theorem dX11_count_1 : decode cX11_count 1 = .ok (.tableswitch 158 0 15 #[79, 84, 92, 100, 108, 113, 113, 113, 122, 129, 137, 145, 145, 145, 145, 145], 79) := by decide +kernel
theorem dX11_count_80 : decode cX11_count 80 = .ok (.aload_n 0, 1) := by decide +kernel
theorem dX11_count_81 : decode cX11_count 81 = .ok (.invokevirtual 121, 3) := by decide +kernel
theorem dX11_count_84 : decode cX11_count 84 = .ok (.ireturn, 1) := by decide +kernel
theorem dX11_count_85 : decode cX11_count 85 = .ok (.aload_n 0, 1) := by decide +kernel
theorem dX11_count_86 : decode cX11_count 86 = .ok (.getfield 17, 3) := by decide +kernel
theorem dX11_count_89 : decode cX11_count 89 = .ok (.bipush 80, 2) := by decide +kernel
theorem dX11_count_91 : decode cX11_count 91 = .ok (.iaload, 1) := by decide +kernel
theorem dX11_count_92 : decode cX11_count 92 = .ok (.ireturn, 1) := by decide +kernel
theorem dX11_count_93 : decode cX11_count 93 = .ok (.aload_n 0, 1) := by decide +kernel
theorem dX11_count_94 : decode cX11_count 94 = .ok (.getfield 17, 3) := by decide +kernel
theorem dX11_count_97 : decode cX11_count 97 = .ok (.bipush 78, 2) := by decide +kernel
theorem dX11_count_99 : decode cX11_count 99 = .ok (.iaload, 1) := by decide +kernel
theorem dX11_count_100 : decode cX11_count 100 = .ok (.ireturn, 1) := by decide +kernel
theorem dX11_count_101 : decode cX11_count 101 = .ok (.aload_n 0, 1) := by decide +kernel
theorem dX11_count_102 : decode cX11_count 102 = .ok (.getfield 17, 3) := by decide +kernel
theorem dX11_count_105 : decode cX11_count 105 = .ok (.bipush 79, 2) := by decide +kernel
theorem dX11_count_107 : decode cX11_count 107 = .ok (.iaload, 1) := by decide +kernel
theorem dX11_count_108 : decode cX11_count 108 = .ok (.ireturn, 1) := by decide +kernel
theorem dX11_count_109 : decode cX11_count 109 = .ok (.aload_n 0, 1) := by decide +kernel
theorem dX11_count_110 : decode cX11_count 110 = .ok (.getfield 150, 3) := by decide +kernel
theorem dX11_count_113 : decode cX11_count 113 = .ok (.ireturn, 1) := by decide +kernel
theorem dX11_count_114 : decode cX11_count 114 = .ok (.aload_n 0, 1) := by decide +kernel
theorem dX11_count_115 : decode cX11_count 115 = .ok (.getfield 7, 3) := by decide +kernel
theorem dX11_count_118 : decode cX11_count 118 = .ok (.iload_n 1, 1) := by decide +kernel
theorem dX11_count_119 : decode cX11_count 119 = .ok (.iconst 4, 1) := by decide +kernel
theorem dX11_count_120 : decode cX11_count 120 = .ok (.isub, 1) := by decide +kernel
theorem dX11_count_121 : decode cX11_count 121 = .ok (.iaload, 1) := by decide +kernel
theorem dX11_count_122 : decode cX11_count 122 = .ok (.ireturn, 1) := by decide +kernel
theorem dX11_count_123 : decode cX11_count 123 = .ok (.aload_n 0, 1) := by decide +kernel
theorem dX11_count_124 : decode cX11_count 124 = .ok (.getfield 7, 3) := by decide +kernel
theorem dX11_count_127 : decode cX11_count 127 = .ok (.iconst 5, 1) := by decide +kernel
theorem dX11_count_128 : decode cX11_count 128 = .ok (.iaload, 1) := by decide +kernel
theorem dX11_count_129 : decode cX11_count 129 = .ok (.ireturn, 1) := by decide +kernel
theorem dX11_count_130 : decode cX11_count 130 = .ok (.aload_n 0, 1) := by decide +kernel
theorem dX11_count_131 : decode cX11_count 131 = .ok (.getfield 7, 3) := by decide +kernel
theorem dX11_count_134 : decode cX11_count 134 = .ok (.bipush 6, 2) := by decide +kernel
theorem dX11_count_136 : decode cX11_count 136 = .ok (.iaload, 1) := by decide +kernel
theorem dX11_count_137 : decode cX11_count 137 = .ok (.ireturn, 1) := by decide +kernel
theorem dX11_count_138 : decode cX11_count 138 = .ok (.aload_n 0, 1) := by decide +kernel
theorem dX11_count_139 : decode cX11_count 139 = .ok (.getfield 17, 3) := by decide +kernel
theorem dX11_count_142 : decode cX11_count 142 = .ok (.bipush 81, 2) := by decide +kernel
theorem dX11_count_144 : decode cX11_count 144 = .ok (.iaload, 1) := by decide +kernel
theorem dX11_count_145 : decode cX11_count 145 = .ok (.ireturn, 1) := by decide +kernel
theorem dX11_count_146 : decode cX11_count 146 = .ok (.aload_n 0, 1) := by decide +kernel
theorem dX11_count_147 : decode cX11_count 147 = .ok (.getfield 17, 3) := by decide +kernel
theorem dX11_count_150 : decode cX11_count 150 = .ok (.bipush 40, 2) := by decide +kernel
theorem dX11_count_152 : decode cX11_count 152 = .ok (.iload_n 1, 1) := by decide +kernel
theorem dX11_count_153 : decode cX11_count 153 = .ok (.iadd, 1) := by decide +kernel
theorem dX11_count_154 : decode cX11_count 154 = .ok (.bipush 11, 2) := by decide +kernel
theorem dX11_count_156 : decode cX11_count 156 = .ok (.isub, 1) := by decide +kernel
theorem dX11_count_157 : decode cX11_count 157 = .ok (.iaload, 1) := by decide +kernel
theorem dX11_count_158 : decode cX11_count 158 = .ok (.ireturn, 1) := by decide +kernel
theorem dX11_count_159 : decode cX11_count 159 = .ok (.iconst (-1), 1) := by decide +kernel
theorem dX11_count_160 : decode cX11_count 160 = .ok (.ireturn, 1) := by decide +kernel
theorem dX11_status_0 : decode cX11_status 0 = .ok (.aload_n 0, 1) := by decide +kernel
theorem dX11_status_1 : decode cX11_status 1 = .ok (.getfield 3, 3) := by decide +kernel
theorem dX11_status_4 : decode cX11_status 4 = .ok (.ireturn, 1) := by decide +kernel
theorem dJ6_bitCount_0f7a4_0 : decode cJ6_bitCount_0f7a4 0 = .ok (.iload_n 0, 1) := by decide +kernel
theorem dJ6_bitCount_0f7a4_1 : decode cJ6_bitCount_0f7a4 1 = .ok (.iload_n 0, 1) := by decide +kernel
theorem dJ6_bitCount_0f7a4_2 : decode cJ6_bitCount_0f7a4 2 = .ok (.iconst 1, 1) := by decide +kernel
theorem dJ6_bitCount_0f7a4_3 : decode cJ6_bitCount_0f7a4 3 = .ok (.iushr, 1) := by decide +kernel
theorem dJ6_bitCount_0f7a4_4 : decode cJ6_bitCount_0f7a4 4 = .ok (.ldc_w 265, 3) := by decide +kernel
theorem dJ6_bitCount_0f7a4_7 : decode cJ6_bitCount_0f7a4 7 = .ok (.iand, 1) := by decide +kernel
theorem dJ6_bitCount_0f7a4_8 : decode cJ6_bitCount_0f7a4 8 = .ok (.isub, 1) := by decide +kernel
theorem dJ6_bitCount_0f7a4_9 : decode cJ6_bitCount_0f7a4 9 = .ok (.istore_n 0, 1) := by decide +kernel
theorem dJ6_bitCount_0f7a4_10 : decode cJ6_bitCount_0f7a4 10 = .ok (.iload_n 0, 1) := by decide +kernel
theorem dJ6_bitCount_0f7a4_11 : decode cJ6_bitCount_0f7a4 11 = .ok (.ldc_w 266, 3) := by decide +kernel
theorem dJ6_bitCount_0f7a4_14 : decode cJ6_bitCount_0f7a4 14 = .ok (.iand, 1) := by decide +kernel
theorem dJ6_bitCount_0f7a4_15 : decode cJ6_bitCount_0f7a4 15 = .ok (.iload_n 0, 1) := by decide +kernel
theorem dJ6_bitCount_0f7a4_16 : decode cJ6_bitCount_0f7a4 16 = .ok (.iconst 2, 1) := by decide +kernel
theorem dJ6_bitCount_0f7a4_17 : decode cJ6_bitCount_0f7a4 17 = .ok (.iushr, 1) := by decide +kernel
theorem dJ6_bitCount_0f7a4_18 : decode cJ6_bitCount_0f7a4 18 = .ok (.ldc_w 266, 3) := by decide +kernel
theorem dJ6_bitCount_0f7a4_21 : decode cJ6_bitCount_0f7a4 21 = .ok (.iand, 1) := by decide +kernel
theorem dJ6_bitCount_0f7a4_22 : decode cJ6_bitCount_0f7a4 22 = .ok (.iadd, 1) := by decide +kernel
theorem dJ6_bitCount_0f7a4_23 : decode cJ6_bitCount_0f7a4 23 = .ok (.istore_n 0, 1) := by decide +kernel
theorem dJ6_bitCount_0f7a4_24 : decode cJ6_bitCount_0f7a4 24 = .ok (.iload_n 0, 1) := by decide +kernel
theorem dJ6_bitCount_0f7a4_25 : decode cJ6_bitCount_0f7a4 25 = .ok (.iload_n 0, 1) := by decide +kernel
theorem dJ6_bitCount_0f7a4_26 : decode cJ6_bitCount_0f7a4 26 = .ok (.iconst 4, 1) := by decide +kernel
theorem dJ6_bitCount_0f7a4_27 : decode cJ6_bitCount_0f7a4 27 = .ok (.iushr, 1) := by decide +kernel
theorem dJ6_bitCount_0f7a4_28 : decode cJ6_bitCount_0f7a4 28 = .ok (.iadd, 1) := by decide +kernel
theorem dJ6_bitCount_0f7a4_29 : decode cJ6_bitCount_0f7a4 29 = .ok (.ldc_w 267, 3) := by decide +kernel
theorem dJ6_bitCount_0f7a4_32 : decode cJ6_bitCount_0f7a4 32 = .ok (.iand, 1) := by decide +kernel
theorem dJ6_bitCount_0f7a4_33 : decode cJ6_bitCount_0f7a4 33 = .ok (.istore_n 0, 1) := by decide +kernel
theorem dJ6_bitCount_0f7a4_34 : decode cJ6_bitCount_0f7a4 34 = .ok (.iload_n 0, 1) := by decide +kernel
theorem dJ6_bitCount_0f7a4_35 : decode cJ6_bitCount_0f7a4 35 = .ok (.iload_n 0, 1) := by decide +kernel
theorem dJ6_bitCount_0f7a4_36 : decode cJ6_bitCount_0f7a4 36 = .ok (.bipush 8, 2) := by decide +kernel
theorem dJ6_bitCount_0f7a4_38 : decode cJ6_bitCount_0f7a4 38 = .ok (.iushr, 1) := by decide +kernel
theorem dJ6_bitCount_0f7a4_39 : decode cJ6_bitCount_0f7a4 39 = .ok (.iadd, 1) := by decide +kernel
theorem dJ6_bitCount_0f7a4_40 : decode cJ6_bitCount_0f7a4 40 = .ok (.istore_n 0, 1) := by decide +kernel
theorem dJ6_bitCount_0f7a4_41 : decode cJ6_bitCount_0f7a4 41 = .ok (.iload_n 0, 1) := by decide +kernel
theorem dJ6_bitCount_0f7a4_42 : decode cJ6_bitCount_0f7a4 42 = .ok (.iload_n 0, 1) := by decide +kernel
theorem dJ6_bitCount_0f7a4_43 : decode cJ6_bitCount_0f7a4 43 = .ok (.bipush 16, 2) := by decide +kernel
theorem dJ6_bitCount_0f7a4_45 : decode cJ6_bitCount_0f7a4 45 = .ok (.iushr, 1) := by decide +kernel
theorem dJ6_bitCount_0f7a4_46 : decode cJ6_bitCount_0f7a4 46 = .ok (.iadd, 1) := by decide +kernel
theorem dJ6_bitCount_0f7a4_47 : decode cJ6_bitCount_0f7a4 47 = .ok (.istore_n 0, 1) := by decide +kernel
theorem dJ6_bitCount_0f7a4_48 : decode cJ6_bitCount_0f7a4 48 = .ok (.iload_n 0, 1) := by decide +kernel
theorem dJ6_bitCount_0f7a4_49 : decode cJ6_bitCount_0f7a4 49 = .ok (.bipush 63, 2) := by decide +kernel
theorem dJ6_bitCount_0f7a4_51 : decode cJ6_bitCount_0f7a4 51 = .ok (.iand, 1) := by decide +kernel
theorem dJ6_bitCount_0f7a4_52 : decode cJ6_bitCount_0f7a4 52 = .ok (.ireturn, 1) := by decide +kernel
theorem dJ9_abs_0f7a4_0 : decode cJ9_abs_0f7a4 0 = .ok (.iload_n 0, 1) := by decide +kernel
theorem dJ9_abs_0f7a4_1 : decode cJ9_abs_0f7a4 1 = .ok (.ifCond .ge 8, 3) := by decide +kernel
theorem dJ9_abs_0f7a4_4 : decode cJ9_abs_0f7a4 4 = .ok (.iload_n 0, 1) := by decide +kernel
theorem dJ9_abs_0f7a4_5 : decode cJ9_abs_0f7a4 5 = .ok (.ineg, 1) := by decide +kernel
theorem dJ9_abs_0f7a4_6 : decode cJ9_abs_0f7a4 6 = .ok (.goto 4, 3) := by decide +kernel
theorem dJ9_abs_0f7a4_9 : decode cJ9_abs_0f7a4 9 = .ok (.iload_n 0, 1) := by decide +kernel
theorem dJ9_abs_0f7a4_10 : decode cJ9_abs_0f7a4 10 = .ok (.ireturn, 1) := by decide +kernel
theorem dJ9_max_7cf53_0 : decode cJ9_max_7cf53 0 = .ok (.iload_n 0, 1) := by decide +kernel
theorem dJ9_max_7cf53_1 : decode cJ9_max_7cf53 1 = .ok (.iload_n 1, 1) := by decide +kernel
theorem dJ9_max_7cf53_2 : decode cJ9_max_7cf53 2 = .ok (.if_icmp .lt 7, 3) := by decide +kernel
theorem dJ9_max_7cf53_5 : decode cJ9_max_7cf53 5 = .ok (.iload_n 0, 1) := by decide +kernel
theorem dJ9_max_7cf53_6 : decode cJ9_max_7cf53 6 = .ok (.goto 4, 3) := by decide +kernel
theorem dJ9_max_7cf53_9 : decode cJ9_max_7cf53 9 = .ok (.iload_n 1, 1) := by decide +kernel
theorem dJ9_max_7cf53_10 : decode cJ9_max_7cf53 10 = .ok (.ireturn, 1) := by decide +kernel
theorem dJ9_max_f86c9_0 : decode cJ9_max_f86c9 0 = .ok (.lload_n 0, 1) := by decide +kernel
theorem dJ9_max_f86c9_1 : decode cJ9_max_f86c9 1 = .ok (.lload_n 2, 1) := by decide +kernel
theorem dJ9_max_f86c9_2 : decode cJ9_max_f86c9 2 = .ok (.lcmp, 1) := by decide +kernel
theorem dJ9_max_f86c9_3 : decode cJ9_max_f86c9 3 = .ok (.ifCond .lt 7, 3) := by decide +kernel
theorem dJ9_max_f86c9_6 : decode cJ9_max_f86c9 6 = .ok (.lload_n 0, 1) := by decide +kernel
theorem dJ9_max_f86c9_7 : decode cJ9_max_f86c9 7 = .ok (.goto 4, 3) := by decide +kernel
theorem dJ9_max_f86c9_10 : decode cJ9_max_f86c9 10 = .ok (.lload_n 2, 1) := by decide +kernel
theorem dJ9_max_f86c9_11 : decode cJ9_max_f86c9 11 = .ok (.lreturn, 1) := by decide +kernel
theorem dJ9_min_7cf53_0 : decode cJ9_min_7cf53 0 = .ok (.iload_n 0, 1) := by decide +kernel
theorem dJ9_min_7cf53_1 : decode cJ9_min_7cf53 1 = .ok (.iload_n 1, 1) := by decide +kernel
theorem dJ9_min_7cf53_2 : decode cJ9_min_7cf53 2 = .ok (.if_icmp .gt 7, 3) := by decide +kernel
theorem dJ9_min_7cf53_5 : decode cJ9_min_7cf53 5 = .ok (.iload_n 0, 1) := by decide +kernel
theorem dJ9_min_7cf53_6 : decode cJ9_min_7cf53 6 = .ok (.goto 4, 3) := by decide +kernel
theorem dJ9_min_7cf53_9 : decode cJ9_min_7cf53 9 = .ok (.iload_n 1, 1) := by decide +kernel
theorem dJ9_min_7cf53_10 : decode cJ9_min_7cf53 10 = .ok (.ireturn, 1) := by decide +kernel
theorem dJ9_min_f86c9_0 : decode cJ9_min_f86c9 0 = .ok (.lload_n 0, 1) := by decide +kernel
theorem dJ9_min_f86c9_1 : decode cJ9_min_f86c9 1 = .ok (.lload_n 2, 1) := by decide +kernel
theorem dJ9_min_f86c9_2 : decode cJ9_min_f86c9 2 = .ok (.lcmp, 1) := by decide +kernel
theorem dJ9_min_f86c9_3 : decode cJ9_min_f86c9 3 = .ok (.ifCond .gt 7, 3) := by decide +kernel
theorem dJ9_min_f86c9_6 : decode cJ9_min_f86c9 6 = .ok (.lload_n 0, 1) := by decide +kernel
theorem dJ9_min_f86c9_7 : decode cJ9_min_f86c9 7 = .ok (.goto 4, 3) := by decide +kernel
theorem dJ9_min_f86c9_10 : decode cJ9_min_f86c9 10 = .ok (.lload_n 2, 1) := by decide +kernel
theorem dJ9_min_f86c9_11 : decode cJ9_min_f86c9 11 = .ok (.lreturn, 1) := by decide +kernel
theorem dJ0_length_8abf5_0 : decode cJ0_length_8abf5 0 = .ok (.aload_n 0, 1) := by decide +kernel
theorem dJ0_length_8abf5_1 : decode cJ0_length_8abf5 1 = .ok (.getfield 9, 3) := by decide +kernel
theorem dJ0_length_8abf5_4 : decode cJ0_length_8abf5 4 = .ok (.arraylength, 1) := by decide +kernel
theorem dJ0_length_8abf5_5 : decode cJ0_length_8abf5 5 = .ok (.aload_n 0, 1) := by decide +kernel
theorem dJ0_length_8abf5_6 : decode cJ0_length_8abf5 6 = .ok (.invokevirtual 335, 3) := by decide +kernel
theorem dJ0_length_8abf5_9 : decode cJ0_length_8abf5 9 = .ok (.ishr, 1) := by decide +kernel
theorem dJ0_length_8abf5_10 : decode cJ0_length_8abf5 10 = .ok (.ireturn, 1) := by decide +kernel
theorem dJ0_charAt_5068e_0 : decode cJ0_charAt_5068e 0 = .ok (.aload_n 0, 1) := by decide +kernel
theorem dJ0_charAt_5068e_1 : decode cJ0_charAt_5068e 1 = .ok (.invokevirtual 492, 3) := by decide +kernel
theorem dJ0_charAt_5068e_4 : decode cJ0_charAt_5068e 4 = .ok (.ifCond .eq 12, 3) := by decide +kernel
theorem dJ0_charAt_5068e_7 : decode cJ0_charAt_5068e 7 = .ok (.aload_n 0, 1) := by decide +kernel
theorem dJ0_charAt_5068e_8 : decode cJ0_charAt_5068e 8 = .ok (.getfield 9, 3) := by decide +kernel
theorem dJ0_charAt_5068e_11 : decode cJ0_charAt_5068e 11 = .ok (.iload_n 1, 1) := by decide +kernel
theorem dJ0_charAt_5068e_12 : decode cJ0_charAt_5068e 12 = .ok (.invokestatic 495, 3) := by decide +kernel
theorem dJ0_charAt_5068e_15 : decode cJ0_charAt_5068e 15 = .ok (.ireturn, 1) := by decide +kernel
theorem dJ0_charAt_5068e_16 : decode cJ0_charAt_5068e 16 = .ok (.aload_n 0, 1) := by decide +kernel
theorem dJ0_charAt_5068e_17 : decode cJ0_charAt_5068e 17 = .ok (.getfield 9, 3) := by decide +kernel
theorem dJ0_charAt_5068e_20 : decode cJ0_charAt_5068e 20 = .ok (.iload_n 1, 1) := by decide +kernel
theorem dJ0_charAt_5068e_21 : decode cJ0_charAt_5068e 21 = .ok (.invokestatic 498, 3) := by decide +kernel
theorem dJ0_charAt_5068e_24 : decode cJ0_charAt_5068e 24 = .ok (.ireturn, 1) := by decide +kernel
theorem dJ0_coder_7d493_0 : decode cJ0_coder_7d493 0 = .ok (.getstatic 38, 3) := by decide +kernel
theorem dJ0_coder_7d493_3 : decode cJ0_coder_7d493 3 = .ok (.ifCond .eq 10, 3) := by decide +kernel
theorem dJ0_coder_7d493_6 : decode cJ0_coder_7d493 6 = .ok (.aload_n 0, 1) := by decide +kernel
theorem dJ0_coder_7d493_7 : decode cJ0_coder_7d493 7 = .ok (.getfield 15, 3) := by decide +kernel
theorem dJ0_coder_7d493_10 : decode cJ0_coder_7d493 10 = .ok (.goto 4, 3) := by decide +kernel
theorem dJ0_coder_7d493_13 : decode cJ0_coder_7d493 13 = .ok (.iconst 1, 1) := by decide +kernel
theorem dJ0_coder_7d493_14 : decode cJ0_coder_7d493 14 = .ok (.ireturn, 1) := by decide +kernel
theorem dJ0_isLatin1_aae02_0 : decode cJ0_isLatin1_aae02 0 = .ok (.getstatic 38, 3) := by decide +kernel
theorem dJ0_isLatin1_aae02_3 : decode cJ0_isLatin1_aae02 3 = .ok (.ifCond .eq 14, 3) := by decide +kernel
theorem dJ0_isLatin1_aae02_6 : decode cJ0_isLatin1_aae02 6 = .ok (.aload_n 0, 1) := by decide +kernel
theorem dJ0_isLatin1_aae02_7 : decode cJ0_isLatin1_aae02 7 = .ok (.getfield 15, 3) := by decide +kernel
theorem dJ0_isLatin1_aae02_10 : decode cJ0_isLatin1_aae02 10 = .ok (.ifCond .ne 7, 3) := by decide +kernel
theorem dJ0_isLatin1_aae02_13 : decode cJ0_isLatin1_aae02 13 = .ok (.iconst 1, 1) := by decide +kernel
theorem dJ0_isLatin1_aae02_14 : decode cJ0_isLatin1_aae02 14 = .ok (.goto 4, 3) := by decide +kernel
theorem dJ0_isLatin1_aae02_17 : decode cJ0_isLatin1_aae02 17 = .ok (.iconst 0, 1) := by decide +kernel
theorem dJ0_isLatin1_aae02_18 : decode cJ0_isLatin1_aae02 18 = .ok (.ireturn, 1) := by decide +kernel
theorem dJ0_checkIndex_df160_0 : decode cJ0_checkIndex_df160 0 = .ok (.iload_n 0, 1) := by decide +kernel
theorem dJ0_checkIndex_df160_1 : decode cJ0_checkIndex_df160 1 = .ok (.iload_n 1, 1) := by decide +kernel
theorem dJ0_checkIndex_df160_2 : decode cJ0_checkIndex_df160 2 = .ok (.getstatic 1053, 3) := by decide +kernel
theorem dJ0_checkIndex_df160_5 : decode cJ0_checkIndex_df160 5 = .ok (.invokestatic 1059, 3) := by decide +kernel
theorem dJ0_checkIndex_df160_8 : decode cJ0_checkIndex_df160 8 = .ok (.pop, 1) := by decide +kernel
theorem dJ0_checkIndex_df160_9 : decode cJ0_checkIndex_df160 9 = .ok (.return_, 1) := by decide +kernel
theorem dJ1_charAt_3b067_0 : decode cJ1_charAt_3b067 0 = .ok (.iload_n 1, 1) := by decide +kernel
theorem dJ1_charAt_3b067_1 : decode cJ1_charAt_3b067 1 = .ok (.aload_n 0, 1) := by decide +kernel
theorem dJ1_charAt_3b067_2 : decode cJ1_charAt_3b067 2 = .ok (.arraylength, 1) := by decide +kernel
theorem dJ1_charAt_3b067_3 : decode cJ1_charAt_3b067 3 = .ok (.invokestatic 9, 3) := by decide +kernel
theorem dJ1_charAt_3b067_6 : decode cJ1_charAt_3b067 6 = .ok (.aload_n 0, 1) := by decide +kernel
theorem dJ1_charAt_3b067_7 : decode cJ1_charAt_3b067 7 = .ok (.iload_n 1, 1) := by decide +kernel
theorem dJ1_charAt_3b067_8 : decode cJ1_charAt_3b067 8 = .ok (.baload, 1) := by decide +kernel
theorem dJ1_charAt_3b067_9 : decode cJ1_charAt_3b067 9 = .ok (.sipush 255, 3) := by decide +kernel
theorem dJ1_charAt_3b067_12 : decode cJ1_charAt_3b067 12 = .ok (.iand, 1) := by decide +kernel
theorem dJ1_charAt_3b067_13 : decode cJ1_charAt_3b067 13 = .ok (.i2c, 1) := by decide +kernel
theorem dJ1_charAt_3b067_14 : decode cJ1_charAt_3b067 14 = .ok (.ireturn, 1) := by decide +kernel
theorem dJ2_getChar_3b067_0 : decode cJ2_getChar_3b067 0 = .ok (.getstatic 44, 3) := by decide +kernel
theorem dJ2_getChar_3b067_3 : decode cJ2_getChar_3b067 3 = .ok (.ifCond .ne 25, 3) := by decide +kernel
theorem dJ2_getChar_3b067_6 : decode cJ2_getChar_3b067 6 = .ok (.iload_n 1, 1) := by decide +kernel
theorem dJ2_getChar_3b067_7 : decode cJ2_getChar_3b067 7 = .ok (.ifCond .lt 11, 3) := by decide +kernel
theorem dJ2_getChar_3b067_10 : decode cJ2_getChar_3b067 10 = .ok (.iload_n 1, 1) := by decide +kernel
theorem dJ2_getChar_3b067_11 : decode cJ2_getChar_3b067 11 = .ok (.aload_n 0, 1) := by decide +kernel
theorem dJ2_getChar_3b067_12 : decode cJ2_getChar_3b067 12 = .ok (.invokestatic 48, 3) := by decide +kernel
theorem dJ2_getChar_3b067_15 : decode cJ2_getChar_3b067 15 = .ok (.if_icmp .lt 13, 3) := by decide +kernel
theorem dJ2_getChar_3b067_18 : decode cJ2_getChar_3b067 18 = .ok (.new 52, 3) := by decide +kernel
theorem dJ2_getChar_3b067_21 : decode cJ2_getChar_3b067 21 = .ok (.dup, 1) := by decide +kernel
theorem dJ2_getChar_3b067_22 : decode cJ2_getChar_3b067 22 = .ok (.ldc 54, 2) := by decide +kernel
theorem dJ2_getChar_3b067_24 : decode cJ2_getChar_3b067 24 = .ok (.invokespecial 56, 3) := by decide +kernel
theorem dJ2_getChar_3b067_27 : decode cJ2_getChar_3b067 27 = .ok (.athrow, 1) := by decide +kernel
theorem dJ2_getChar_3b067_28 : decode cJ2_getChar_3b067 28 = .ok (.iload_n 1, 1) := by decide +kernel
theorem dJ2_getChar_3b067_29 : decode cJ2_getChar_3b067 29 = .ok (.iconst 1, 1) := by decide +kernel
theorem dJ2_getChar_3b067_30 : decode cJ2_getChar_3b067 30 = .ok (.ishl, 1) := by decide +kernel
theorem dJ2_getChar_3b067_31 : decode cJ2_getChar_3b067 31 = .ok (.istore_n 1, 1) := by decide +kernel
theorem dJ2_getChar_3b067_32 : decode cJ2_getChar_3b067 32 = .ok (.aload_n 0, 1) := by decide +kernel
theorem dJ2_getChar_3b067_33 : decode cJ2_getChar_3b067 33 = .ok (.iload_n 1, 1) := by decide +kernel
theorem dJ2_getChar_3b067_34 : decode cJ2_getChar_3b067 34 = .ok (.iinc 1 1, 3) := by decide +kernel
theorem dJ2_getChar_3b067_37 : decode cJ2_getChar_3b067 37 = .ok (.baload, 1) := by decide +kernel
theorem dJ2_getChar_3b067_38 : decode cJ2_getChar_3b067 38 = .ok (.sipush 255, 3) := by decide +kernel
theorem dJ2_getChar_3b067_41 : decode cJ2_getChar_3b067 41 = .ok (.iand, 1) := by decide +kernel
theorem dJ2_getChar_3b067_42 : decode cJ2_getChar_3b067 42 = .ok (.getstatic 59, 3) := by decide +kernel
theorem dJ2_getChar_3b067_45 : decode cJ2_getChar_3b067 45 = .ok (.ishl, 1) := by decide +kernel
theorem dJ2_getChar_3b067_46 : decode cJ2_getChar_3b067 46 = .ok (.aload_n 0, 1) := by decide +kernel
theorem dJ2_getChar_3b067_47 : decode cJ2_getChar_3b067 47 = .ok (.iload_n 1, 1) := by decide +kernel
theorem dJ2_getChar_3b067_48 : decode cJ2_getChar_3b067 48 = .ok (.baload, 1) := by decide +kernel
theorem dJ2_getChar_3b067_49 : decode cJ2_getChar_3b067 49 = .ok (.sipush 255, 3) := by decide +kernel
theorem dJ2_getChar_3b067_52 : decode cJ2_getChar_3b067 52 = .ok (.iand, 1) := by decide +kernel
theorem dJ2_getChar_3b067_53 : decode cJ2_getChar_3b067 53 = .ok (.getstatic 63, 3) := by decide +kernel
theorem dJ2_getChar_3b067_56 : decode cJ2_getChar_3b067 56 = .ok (.ishl, 1) := by decide +kernel
theorem dJ2_getChar_3b067_57 : decode cJ2_getChar_3b067 57 = .ok (.ior, 1) := by decide +kernel
theorem dJ2_getChar_3b067_58 : decode cJ2_getChar_3b067 58 = .ok (.i2c, 1) := by decide +kernel
theorem dJ2_getChar_3b067_59 : decode cJ2_getChar_3b067 59 = .ok (.ireturn, 1) := by decide +kernel
theorem dJ2_length_9d52b_0 : decode cJ2_length_9d52b 0 = .ok (.aload_n 0, 1) := by decide +kernel
theorem dJ2_length_9d52b_1 : decode cJ2_length_9d52b 1 = .ok (.arraylength, 1) := by decide +kernel
theorem dJ2_length_9d52b_2 : decode cJ2_length_9d52b 2 = .ok (.iconst 1, 1) := by decide +kernel
theorem dJ2_length_9d52b_3 : decode cJ2_length_9d52b 3 = .ok (.ishr, 1) := by decide +kernel
theorem dJ2_length_9d52b_4 : decode cJ2_length_9d52b 4 = .ok (.ireturn, 1) := by decide +kernel
theorem dJ2_charAt_3b067_0 : decode cJ2_charAt_3b067 0 = .ok (.iload_n 1, 1) := by decide +kernel
theorem dJ2_charAt_3b067_1 : decode cJ2_charAt_3b067 1 = .ok (.aload_n 0, 1) := by decide +kernel
theorem dJ2_charAt_3b067_2 : decode cJ2_charAt_3b067 2 = .ok (.invokestatic 67, 3) := by decide +kernel
theorem dJ2_charAt_3b067_5 : decode cJ2_charAt_3b067 5 = .ok (.aload_n 0, 1) := by decide +kernel
theorem dJ2_charAt_3b067_6 : decode cJ2_charAt_3b067 6 = .ok (.iload_n 1, 1) := by decide +kernel
theorem dJ2_charAt_3b067_7 : decode cJ2_charAt_3b067 7 = .ok (.invokestatic 71, 3) := by decide +kernel
theorem dJ2_charAt_3b067_10 : decode cJ2_charAt_3b067 10 = .ok (.ireturn, 1) := by decide +kernel
theorem dJ2_checkIndex_2214a_0 : decode cJ2_checkIndex_2214a 0 = .ok (.iload_n 0, 1) := by decide +kernel
theorem dJ2_checkIndex_2214a_1 : decode cJ2_checkIndex_2214a 1 = .ok (.aload_n 1, 1) := by decide +kernel
theorem dJ2_checkIndex_2214a_2 : decode cJ2_checkIndex_2214a 2 = .ok (.invokestatic 48, 3) := by decide +kernel
theorem dJ2_checkIndex_2214a_5 : decode cJ2_checkIndex_2214a 5 = .ok (.invokestatic 414, 3) := by decide +kernel
theorem dJ2_checkIndex_2214a_8 : decode cJ2_checkIndex_2214a 8 = .ok (.return_, 1) := by decide +kernel
theorem dJ7_fill_d0a16_0 : decode cJ7_fill_d0a16 0 = .ok (.iconst 0, 1) := by decide +kernel
theorem dJ7_fill_d0a16_1 : decode cJ7_fill_d0a16 1 = .ok (.istore_n 3, 1) := by decide +kernel
theorem dJ7_fill_d0a16_2 : decode cJ7_fill_d0a16 2 = .ok (.aload_n 0, 1) := by decide +kernel
theorem dJ7_fill_d0a16_3 : decode cJ7_fill_d0a16 3 = .ok (.arraylength, 1) := by decide +kernel
theorem dJ7_fill_d0a16_4 : decode cJ7_fill_d0a16 4 = .ok (.istore 4, 2) := by decide +kernel
theorem dJ7_fill_d0a16_6 : decode cJ7_fill_d0a16 6 = .ok (.iload_n 3, 1) := by decide +kernel
theorem dJ7_fill_d0a16_7 : decode cJ7_fill_d0a16 7 = .ok (.iload 4, 2) := by decide +kernel
theorem dJ7_fill_d0a16_9 : decode cJ7_fill_d0a16 9 = .ok (.if_icmp .ge 13, 3) := by decide +kernel
theorem dJ7_fill_d0a16_12 : decode cJ7_fill_d0a16 12 = .ok (.aload_n 0, 1) := by decide +kernel
theorem dJ7_fill_d0a16_13 : decode cJ7_fill_d0a16 13 = .ok (.iload_n 3, 1) := by decide +kernel
theorem dJ7_fill_d0a16_14 : decode cJ7_fill_d0a16 14 = .ok (.lload_n 1, 1) := by decide +kernel
theorem dJ7_fill_d0a16_15 : decode cJ7_fill_d0a16 15 = .ok (.lastore, 1) := by decide +kernel
theorem dJ7_fill_d0a16_16 : decode cJ7_fill_d0a16 16 = .ok (.iinc 3 1, 3) := by decide +kernel
theorem dJ7_fill_d0a16_19 : decode cJ7_fill_d0a16 19 = .ok (.goto (-13), 3) := by decide +kernel
theorem dJ7_fill_d0a16_22 : decode cJ7_fill_d0a16 22 = .ok (.return_, 1) := by decide +kernel
theorem dJ7_fill_53178_0 : decode cJ7_fill_53178 0 = .ok (.iconst 0, 1) := by decide +kernel
theorem dJ7_fill_53178_1 : decode cJ7_fill_53178 1 = .ok (.istore_n 2, 1) := by decide +kernel
theorem dJ7_fill_53178_2 : decode cJ7_fill_53178 2 = .ok (.aload_n 0, 1) := by decide +kernel
theorem dJ7_fill_53178_3 : decode cJ7_fill_53178 3 = .ok (.arraylength, 1) := by decide +kernel
theorem dJ7_fill_53178_4 : decode cJ7_fill_53178 4 = .ok (.istore_n 3, 1) := by decide +kernel
theorem dJ7_fill_53178_5 : decode cJ7_fill_53178 5 = .ok (.iload_n 2, 1) := by decide +kernel
theorem dJ7_fill_53178_6 : decode cJ7_fill_53178 6 = .ok (.iload_n 3, 1) := by decide +kernel
theorem dJ7_fill_53178_7 : decode cJ7_fill_53178 7 = .ok (.if_icmp .ge 13, 3) := by decide +kernel
theorem dJ7_fill_53178_10 : decode cJ7_fill_53178 10 = .ok (.aload_n 0, 1) := by decide +kernel
theorem dJ7_fill_53178_11 : decode cJ7_fill_53178 11 = .ok (.iload_n 2, 1) := by decide +kernel
theorem dJ7_fill_53178_12 : decode cJ7_fill_53178 12 = .ok (.iload_n 1, 1) := by decide +kernel
theorem dJ7_fill_53178_13 : decode cJ7_fill_53178 13 = .ok (.iastore, 1) := by decide +kernel
theorem dJ7_fill_53178_14 : decode cJ7_fill_53178 14 = .ok (.iinc 2 1, 3) := by decide +kernel
theorem dJ7_fill_53178_17 : decode cJ7_fill_53178 17 = .ok (.goto (-12), 3) := by decide +kernel
theorem dJ7_fill_53178_20 : decode cJ7_fill_53178 20 = .ok (.return_, 1) := by decide +kernel
theorem dJ7_copyOf_59c91_0 : decode cJ7_copyOf_59c91 0 = .ok (.iload_n 1, 1) := by decide +kernel
theorem dJ7_copyOf_59c91_1 : decode cJ7_copyOf_59c91 1 = .ok (.aload_n 0, 1) := by decide +kernel
theorem dJ7_copyOf_59c91_2 : decode cJ7_copyOf_59c91 2 = .ok (.arraylength, 1) := by decide +kernel
theorem dJ7_copyOf_59c91_3 : decode cJ7_copyOf_59c91 3 = .ok (.if_icmp .ne 11, 3) := by decide +kernel
theorem dJ7_copyOf_59c91_6 : decode cJ7_copyOf_59c91 6 = .ok (.aload_n 0, 1) := by decide +kernel
theorem dJ7_copyOf_59c91_7 : decode cJ7_copyOf_59c91 7 = .ok (.invokevirtual 316, 3) := by decide +kernel
theorem dJ7_copyOf_59c91_10 : decode cJ7_copyOf_59c91 10 = .ok (.checkcast 317, 3) := by decide +kernel
theorem dJ7_copyOf_59c91_13 : decode cJ7_copyOf_59c91 13 = .ok (.areturn, 1) := by decide +kernel
theorem dJ7_copyOf_59c91_14 : decode cJ7_copyOf_59c91 14 = .ok (.iload_n 1, 1) := by decide +kernel
theorem dJ7_copyOf_59c91_15 : decode cJ7_copyOf_59c91 15 = .ok (.newarray .int, 2) := by decide +kernel
theorem dJ7_copyOf_59c91_17 : decode cJ7_copyOf_59c91 17 = .ok (.astore_n 2, 1) := by decide +kernel
theorem dJ7_copyOf_59c91_18 : decode cJ7_copyOf_59c91 18 = .ok (.aload_n 0, 1) := by decide +kernel
theorem dJ7_copyOf_59c91_19 : decode cJ7_copyOf_59c91 19 = .ok (.iconst 0, 1) := by decide +kernel
theorem dJ7_copyOf_59c91_20 : decode cJ7_copyOf_59c91 20 = .ok (.aload_n 2, 1) := by decide +kernel
theorem dJ7_copyOf_59c91_21 : decode cJ7_copyOf_59c91 21 = .ok (.iconst 0, 1) := by decide +kernel
theorem dJ7_copyOf_59c91_22 : decode cJ7_copyOf_59c91 22 = .ok (.aload_n 0, 1) := by decide +kernel
theorem dJ7_copyOf_59c91_23 : decode cJ7_copyOf_59c91 23 = .ok (.arraylength, 1) := by decide +kernel
theorem dJ7_copyOf_59c91_24 : decode cJ7_copyOf_59c91 24 = .ok (.iload_n 1, 1) := by decide +kernel
theorem dJ7_copyOf_59c91_25 : decode cJ7_copyOf_59c91 25 = .ok (.invokestatic 304, 3) := by decide +kernel
theorem dJ7_copyOf_59c91_28 : decode cJ7_copyOf_59c91 28 = .ok (.invokestatic 150, 3) := by decide +kernel
theorem dJ7_copyOf_59c91_31 : decode cJ7_copyOf_59c91 31 = .ok (.aload_n 2, 1) := by decide +kernel
theorem dJ7_copyOf_59c91_32 : decode cJ7_copyOf_59c91 32 = .ok (.areturn, 1) := by decide +kernel
theorem dJ3_checkIndex_8e157_0 : decode cJ3_checkIndex_8e157 0 = .ok (.iload_n 0, 1) := by decide +kernel
theorem dJ3_checkIndex_8e157_1 : decode cJ3_checkIndex_8e157 1 = .ok (.ifCond .lt 8, 3) := by decide +kernel
theorem dJ3_checkIndex_8e157_4 : decode cJ3_checkIndex_8e157 4 = .ok (.iload_n 0, 1) := by decide +kernel
theorem dJ3_checkIndex_8e157_5 : decode cJ3_checkIndex_8e157 5 = .ok (.iload_n 1, 1) := by decide +kernel
theorem dJ3_checkIndex_8e157_6 : decode cJ3_checkIndex_8e157 6 = .ok (.if_icmp .lt 10, 3) := by decide +kernel
theorem dJ3_checkIndex_8e157_9 : decode cJ3_checkIndex_8e157 9 = .ok (.aload_n 2, 1) := by decide +kernel
theorem dJ3_checkIndex_8e157_10 : decode cJ3_checkIndex_8e157 10 = .ok (.iload_n 0, 1) := by decide +kernel
theorem dJ3_checkIndex_8e157_11 : decode cJ3_checkIndex_8e157 11 = .ok (.iload_n 1, 1) := by decide +kernel
theorem dJ3_checkIndex_8e157_12 : decode cJ3_checkIndex_8e157 12 = .ok (.invokestatic 95, 3) := by decide +kernel
theorem dJ3_checkIndex_8e157_15 : decode cJ3_checkIndex_8e157 15 = .ok (.athrow, 1) := by decide +kernel
theorem dJ3_checkIndex_8e157_16 : decode cJ3_checkIndex_8e157 16 = .ok (.iload_n 0, 1) := by decide +kernel
theorem dJ3_checkIndex_8e157_17 : decode cJ3_checkIndex_8e157 17 = .ok (.ireturn, 1) := by decide +kernel
theorem dL_law_0 : decode cL_law 0 = .ok (.new 7, 3) := by decide +kernel
theorem dL_law_3 : decode cL_law 3 = .ok (.dup, 1) := by decide +kernel
theorem dL_law_4 : decode cL_law 4 = .ok (.invokespecial 9, 3) := by decide +kernel
theorem dL_law_7 : decode cL_law 7 = .ok (.astore_n 1, 1) := by decide +kernel
theorem dL_law_8 : decode cL_law 8 = .ok (.new 10, 3) := by decide +kernel
theorem dL_law_11 : decode cL_law 11 = .ok (.dup, 1) := by decide +kernel
theorem dL_law_12 : decode cL_law 12 = .ok (.invokespecial 12, 3) := by decide +kernel
theorem dL_law_15 : decode cL_law 15 = .ok (.astore_n 2, 1) := by decide +kernel
theorem dL_law_16 : decode cL_law 16 = .ok (.iconst 0, 1) := by decide +kernel
theorem dL_law_17 : decode cL_law 17 = .ok (.istore_n 3, 1) := by decide +kernel
theorem dL_law_18 : decode cL_law 18 = .ok (.iload_n 3, 1) := by decide +kernel
theorem dL_law_19 : decode cL_law 19 = .ok (.aload_n 0, 1) := by decide +kernel
theorem dL_law_20 : decode cL_law 20 = .ok (.arraylength, 1) := by decide +kernel
theorem dL_law_21 : decode cL_law 21 = .ok (.bipush 6, 2) := by decide +kernel
theorem dL_law_23 : decode cL_law 23 = .ok (.isub, 1) := by decide +kernel
theorem dL_law_24 : decode cL_law 24 = .ok (.if_icmp .gt 1052, 3) := by decide +kernel
theorem dL_law_27 : decode cL_law 27 = .ok (.aload_n 0, 1) := by decide +kernel
theorem dL_law_28 : decode cL_law 28 = .ok (.iload_n 3, 1) := by decide +kernel
theorem dL_law_29 : decode cL_law 29 = .ok (.iaload, 1) := by decide +kernel
theorem dL_law_30 : decode cL_law 30 = .ok (.bipush 63, 2) := by decide +kernel
theorem dL_law_32 : decode cL_law 32 = .ok (.iand, 1) := by decide +kernel
theorem dL_law_33 : decode cL_law 33 = .ok (.tableswitch 1037 0 32 #[147, 190, 233, 266, 289, 322, 385, 408, 421, 434, 447, 460, 483, 516, 549, 582, 595, 618, 641, 664, 697, 731, 764, 797, 830, 853, 866, 889, 922, 955, 978, 1001, 1024], 147) := by decide +kernel
theorem dL_law_180 : decode cL_law 180 = .ok (.aload_n 1, 1) := by decide +kernel
theorem dL_law_181 : decode cL_law 181 = .ok (.aload_n 0, 1) := by decide +kernel
theorem dL_law_182 : decode cL_law 182 = .ok (.iload_n 3, 1) := by decide +kernel
theorem dL_law_183 : decode cL_law 183 = .ok (.iconst 1, 1) := by decide +kernel
theorem dL_law_184 : decode cL_law 184 = .ok (.iadd, 1) := by decide +kernel
theorem dL_law_185 : decode cL_law 185 = .ok (.iaload, 1) := by decide +kernel
theorem dL_law_186 : decode cL_law 186 = .ok (.aload_n 0, 1) := by decide +kernel
theorem dL_law_187 : decode cL_law 187 = .ok (.iload_n 3, 1) := by decide +kernel
theorem dL_law_188 : decode cL_law 188 = .ok (.iconst 2, 1) := by decide +kernel
theorem dL_law_189 : decode cL_law 189 = .ok (.iadd, 1) := by decide +kernel
theorem dL_law_190 : decode cL_law 190 = .ok (.iaload, 1) := by decide +kernel
theorem dL_law_191 : decode cL_law 191 = .ok (.aload_n 0, 1) := by decide +kernel
theorem dL_law_192 : decode cL_law 192 = .ok (.iload_n 3, 1) := by decide +kernel
theorem dL_law_193 : decode cL_law 193 = .ok (.iconst 3, 1) := by decide +kernel
theorem dL_law_194 : decode cL_law 194 = .ok (.iadd, 1) := by decide +kernel
theorem dL_law_195 : decode cL_law 195 = .ok (.iaload, 1) := by decide +kernel
theorem dL_law_196 : decode cL_law 196 = .ok (.invokevirtual 13, 3) := by decide +kernel
theorem dL_law_199 : decode cL_law 199 = .ok (.aload_n 2, 1) := by decide +kernel
theorem dL_law_200 : decode cL_law 200 = .ok (.aload_n 0, 1) := by decide +kernel
theorem dL_law_201 : decode cL_law 201 = .ok (.iload_n 3, 1) := by decide +kernel
theorem dL_law_202 : decode cL_law 202 = .ok (.iconst 1, 1) := by decide +kernel
theorem dL_law_203 : decode cL_law 203 = .ok (.iadd, 1) := by decide +kernel
theorem dL_law_204 : decode cL_law 204 = .ok (.iaload, 1) := by decide +kernel
theorem dL_law_205 : decode cL_law 205 = .ok (.aload_n 0, 1) := by decide +kernel
theorem dL_law_206 : decode cL_law 206 = .ok (.iload_n 3, 1) := by decide +kernel
theorem dL_law_207 : decode cL_law 207 = .ok (.iconst 2, 1) := by decide +kernel
theorem dL_law_208 : decode cL_law 208 = .ok (.iadd, 1) := by decide +kernel
theorem dL_law_209 : decode cL_law 209 = .ok (.iaload, 1) := by decide +kernel
theorem dL_law_210 : decode cL_law 210 = .ok (.aload_n 0, 1) := by decide +kernel
theorem dL_law_211 : decode cL_law 211 = .ok (.iload_n 3, 1) := by decide +kernel
theorem dL_law_212 : decode cL_law 212 = .ok (.iconst 3, 1) := by decide +kernel
theorem dL_law_213 : decode cL_law 213 = .ok (.iadd, 1) := by decide +kernel
theorem dL_law_214 : decode cL_law 214 = .ok (.iaload, 1) := by decide +kernel
theorem dL_law_215 : decode cL_law 215 = .ok (.invokevirtual 17, 3) := by decide +kernel
theorem dL_law_218 : decode cL_law 218 = .ok (.if_icmp .eq 852, 3) := by decide +kernel
theorem dL_law_221 : decode cL_law 221 = .ok (.iconst 0, 1) := by decide +kernel
theorem dL_law_222 : decode cL_law 222 = .ok (.ireturn, 1) := by decide +kernel
theorem dL_law_223 : decode cL_law 223 = .ok (.aload_n 1, 1) := by decide +kernel
theorem dL_law_224 : decode cL_law 224 = .ok (.aload_n 0, 1) := by decide +kernel
theorem dL_law_225 : decode cL_law 225 = .ok (.iload_n 3, 1) := by decide +kernel
theorem dL_law_226 : decode cL_law 226 = .ok (.iconst 1, 1) := by decide +kernel
theorem dL_law_227 : decode cL_law 227 = .ok (.iadd, 1) := by decide +kernel
theorem dL_law_228 : decode cL_law 228 = .ok (.iaload, 1) := by decide +kernel
theorem dL_law_229 : decode cL_law 229 = .ok (.aload_n 0, 1) := by decide +kernel
theorem dL_law_230 : decode cL_law 230 = .ok (.iload_n 3, 1) := by decide +kernel
theorem dL_law_231 : decode cL_law 231 = .ok (.iconst 2, 1) := by decide +kernel
theorem dL_law_232 : decode cL_law 232 = .ok (.iadd, 1) := by decide +kernel
theorem dL_law_233 : decode cL_law 233 = .ok (.iaload, 1) := by decide +kernel
theorem dL_law_234 : decode cL_law 234 = .ok (.aload_n 0, 1) := by decide +kernel
theorem dL_law_235 : decode cL_law 235 = .ok (.iload_n 3, 1) := by decide +kernel
theorem dL_law_236 : decode cL_law 236 = .ok (.iconst 3, 1) := by decide +kernel
theorem dL_law_237 : decode cL_law 237 = .ok (.iadd, 1) := by decide +kernel
theorem dL_law_238 : decode cL_law 238 = .ok (.iaload, 1) := by decide +kernel
theorem dL_law_239 : decode cL_law 239 = .ok (.invokevirtual 18, 3) := by decide +kernel
theorem dL_law_242 : decode cL_law 242 = .ok (.aload_n 2, 1) := by decide +kernel
theorem dL_law_243 : decode cL_law 243 = .ok (.aload_n 0, 1) := by decide +kernel
theorem dL_law_244 : decode cL_law 244 = .ok (.iload_n 3, 1) := by decide +kernel
theorem dL_law_245 : decode cL_law 245 = .ok (.iconst 1, 1) := by decide +kernel
theorem dL_law_246 : decode cL_law 246 = .ok (.iadd, 1) := by decide +kernel
theorem dL_law_247 : decode cL_law 247 = .ok (.iaload, 1) := by decide +kernel
theorem dL_law_248 : decode cL_law 248 = .ok (.aload_n 0, 1) := by decide +kernel
theorem dL_law_249 : decode cL_law 249 = .ok (.iload_n 3, 1) := by decide +kernel
theorem dL_law_250 : decode cL_law 250 = .ok (.iconst 2, 1) := by decide +kernel
theorem dL_law_251 : decode cL_law 251 = .ok (.iadd, 1) := by decide +kernel
theorem dL_law_252 : decode cL_law 252 = .ok (.iaload, 1) := by decide +kernel
theorem dL_law_253 : decode cL_law 253 = .ok (.aload_n 0, 1) := by decide +kernel
theorem dL_law_254 : decode cL_law 254 = .ok (.iload_n 3, 1) := by decide +kernel
theorem dL_law_255 : decode cL_law 255 = .ok (.iconst 3, 1) := by decide +kernel
theorem dL_law_256 : decode cL_law 256 = .ok (.iadd, 1) := by decide +kernel
theorem dL_law_257 : decode cL_law 257 = .ok (.iaload, 1) := by decide +kernel
theorem dL_law_258 : decode cL_law 258 = .ok (.invokevirtual 21, 3) := by decide +kernel
theorem dL_law_261 : decode cL_law 261 = .ok (.if_icmp .eq 809, 3) := by decide +kernel
theorem dL_law_264 : decode cL_law 264 = .ok (.iconst 0, 1) := by decide +kernel
theorem dL_law_265 : decode cL_law 265 = .ok (.ireturn, 1) := by decide +kernel
theorem dL_law_266 : decode cL_law 266 = .ok (.aload_n 1, 1) := by decide +kernel
theorem dL_law_267 : decode cL_law 267 = .ok (.aload_n 0, 1) := by decide +kernel
theorem dL_law_268 : decode cL_law 268 = .ok (.iload_n 3, 1) := by decide +kernel
theorem dL_law_269 : decode cL_law 269 = .ok (.iconst 1, 1) := by decide +kernel
theorem dL_law_270 : decode cL_law 270 = .ok (.iadd, 1) := by decide +kernel
theorem dL_law_271 : decode cL_law 271 = .ok (.iaload, 1) := by decide +kernel
theorem dL_law_272 : decode cL_law 272 = .ok (.aload_n 0, 1) := by decide +kernel
theorem dL_law_273 : decode cL_law 273 = .ok (.iload_n 3, 1) := by decide +kernel
theorem dL_law_274 : decode cL_law 274 = .ok (.iconst 2, 1) := by decide +kernel
theorem dL_law_275 : decode cL_law 275 = .ok (.iadd, 1) := by decide +kernel
theorem dL_law_276 : decode cL_law 276 = .ok (.iaload, 1) := by decide +kernel
theorem dL_law_277 : decode cL_law 277 = .ok (.invokevirtual 22, 3) := by decide +kernel
theorem dL_law_280 : decode cL_law 280 = .ok (.aload_n 2, 1) := by decide +kernel
theorem dL_law_281 : decode cL_law 281 = .ok (.aload_n 0, 1) := by decide +kernel
theorem dL_law_282 : decode cL_law 282 = .ok (.iload_n 3, 1) := by decide +kernel
theorem dL_law_283 : decode cL_law 283 = .ok (.iconst 1, 1) := by decide +kernel
theorem dL_law_284 : decode cL_law 284 = .ok (.iadd, 1) := by decide +kernel
theorem dL_law_285 : decode cL_law 285 = .ok (.iaload, 1) := by decide +kernel
theorem dL_law_286 : decode cL_law 286 = .ok (.aload_n 0, 1) := by decide +kernel
theorem dL_law_287 : decode cL_law 287 = .ok (.iload_n 3, 1) := by decide +kernel
theorem dL_law_288 : decode cL_law 288 = .ok (.iconst 2, 1) := by decide +kernel
theorem dL_law_289 : decode cL_law 289 = .ok (.iadd, 1) := by decide +kernel
theorem dL_law_290 : decode cL_law 290 = .ok (.iaload, 1) := by decide +kernel
theorem dL_law_291 : decode cL_law 291 = .ok (.invokevirtual 26, 3) := by decide +kernel
theorem dL_law_294 : decode cL_law 294 = .ok (.if_icmp .eq 776, 3) := by decide +kernel
theorem dL_law_297 : decode cL_law 297 = .ok (.iconst 0, 1) := by decide +kernel
theorem dL_law_298 : decode cL_law 298 = .ok (.ireturn, 1) := by decide +kernel
theorem dL_law_299 : decode cL_law 299 = .ok (.aload_n 1, 1) := by decide +kernel
theorem dL_law_300 : decode cL_law 300 = .ok (.aload_n 0, 1) := by decide +kernel
theorem dL_law_301 : decode cL_law 301 = .ok (.iload_n 3, 1) := by decide +kernel
theorem dL_law_302 : decode cL_law 302 = .ok (.iconst 1, 1) := by decide +kernel
theorem dL_law_303 : decode cL_law 303 = .ok (.iadd, 1) := by decide +kernel
theorem dL_law_304 : decode cL_law 304 = .ok (.iaload, 1) := by decide +kernel
theorem dL_law_305 : decode cL_law 305 = .ok (.invokevirtual 27, 3) := by decide +kernel
theorem dL_law_308 : decode cL_law 308 = .ok (.aload_n 2, 1) := by decide +kernel
theorem dL_law_309 : decode cL_law 309 = .ok (.aload_n 0, 1) := by decide +kernel
theorem dL_law_310 : decode cL_law 310 = .ok (.iload_n 3, 1) := by decide +kernel
theorem dL_law_311 : decode cL_law 311 = .ok (.iconst 1, 1) := by decide +kernel
theorem dL_law_312 : decode cL_law 312 = .ok (.iadd, 1) := by decide +kernel
theorem dL_law_313 : decode cL_law 313 = .ok (.iaload, 1) := by decide +kernel
theorem dL_law_314 : decode cL_law 314 = .ok (.invokevirtual 31, 3) := by decide +kernel
theorem dL_law_317 : decode cL_law 317 = .ok (.if_icmp .eq 753, 3) := by decide +kernel
theorem dL_law_320 : decode cL_law 320 = .ok (.iconst 0, 1) := by decide +kernel
theorem dL_law_321 : decode cL_law 321 = .ok (.ireturn, 1) := by decide +kernel
theorem dL_law_322 : decode cL_law 322 = .ok (.aload_n 1, 1) := by decide +kernel
theorem dL_law_323 : decode cL_law 323 = .ok (.aload_n 0, 1) := by decide +kernel
theorem dL_law_324 : decode cL_law 324 = .ok (.iload_n 3, 1) := by decide +kernel
theorem dL_law_325 : decode cL_law 325 = .ok (.iconst 1, 1) := by decide +kernel
theorem dL_law_326 : decode cL_law 326 = .ok (.iadd, 1) := by decide +kernel
theorem dL_law_327 : decode cL_law 327 = .ok (.iaload, 1) := by decide +kernel
theorem dL_law_328 : decode cL_law 328 = .ok (.aload_n 0, 1) := by decide +kernel
theorem dL_law_329 : decode cL_law 329 = .ok (.iload_n 3, 1) := by decide +kernel
theorem dL_law_330 : decode cL_law 330 = .ok (.iconst 2, 1) := by decide +kernel
theorem dL_law_331 : decode cL_law 331 = .ok (.iadd, 1) := by decide +kernel
theorem dL_law_332 : decode cL_law 332 = .ok (.iaload, 1) := by decide +kernel
theorem dL_law_333 : decode cL_law 333 = .ok (.invokevirtual 32, 3) := by decide +kernel
theorem dL_law_336 : decode cL_law 336 = .ok (.aload_n 2, 1) := by decide +kernel
theorem dL_law_337 : decode cL_law 337 = .ok (.aload_n 0, 1) := by decide +kernel
theorem dL_law_338 : decode cL_law 338 = .ok (.iload_n 3, 1) := by decide +kernel
theorem dL_law_339 : decode cL_law 339 = .ok (.iconst 1, 1) := by decide +kernel
theorem dL_law_340 : decode cL_law 340 = .ok (.iadd, 1) := by decide +kernel
theorem dL_law_341 : decode cL_law 341 = .ok (.iaload, 1) := by decide +kernel
theorem dL_law_342 : decode cL_law 342 = .ok (.aload_n 0, 1) := by decide +kernel
theorem dL_law_343 : decode cL_law 343 = .ok (.iload_n 3, 1) := by decide +kernel
theorem dL_law_344 : decode cL_law 344 = .ok (.iconst 2, 1) := by decide +kernel
theorem dL_law_345 : decode cL_law 345 = .ok (.iadd, 1) := by decide +kernel
theorem dL_law_346 : decode cL_law 346 = .ok (.iaload, 1) := by decide +kernel
theorem dL_law_347 : decode cL_law 347 = .ok (.invokevirtual 35, 3) := by decide +kernel
theorem dL_law_350 : decode cL_law 350 = .ok (.if_icmp .eq 720, 3) := by decide +kernel
theorem dL_law_353 : decode cL_law 353 = .ok (.iconst 0, 1) := by decide +kernel
theorem dL_law_354 : decode cL_law 354 = .ok (.ireturn, 1) := by decide +kernel
theorem dL_law_355 : decode cL_law 355 = .ok (.aload_n 1, 1) := by decide +kernel
theorem dL_law_356 : decode cL_law 356 = .ok (.aload_n 0, 1) := by decide +kernel
theorem dL_law_357 : decode cL_law 357 = .ok (.iload_n 3, 1) := by decide +kernel
theorem dL_law_358 : decode cL_law 358 = .ok (.iconst 1, 1) := by decide +kernel
theorem dL_law_359 : decode cL_law 359 = .ok (.iadd, 1) := by decide +kernel
theorem dL_law_360 : decode cL_law 360 = .ok (.iaload, 1) := by decide +kernel
theorem dL_law_361 : decode cL_law 361 = .ok (.aload_n 0, 1) := by decide +kernel
theorem dL_law_362 : decode cL_law 362 = .ok (.iload_n 3, 1) := by decide +kernel
theorem dL_law_363 : decode cL_law 363 = .ok (.iconst 2, 1) := by decide +kernel
theorem dL_law_364 : decode cL_law 364 = .ok (.iadd, 1) := by decide +kernel
theorem dL_law_365 : decode cL_law 365 = .ok (.iaload, 1) := by decide +kernel
theorem dL_law_366 : decode cL_law 366 = .ok (.aload_n 0, 1) := by decide +kernel
theorem dL_law_367 : decode cL_law 367 = .ok (.iload_n 3, 1) := by decide +kernel
theorem dL_law_368 : decode cL_law 368 = .ok (.iconst 3, 1) := by decide +kernel
theorem dL_law_369 : decode cL_law 369 = .ok (.iadd, 1) := by decide +kernel
theorem dL_law_370 : decode cL_law 370 = .ok (.iaload, 1) := by decide +kernel
theorem dL_law_371 : decode cL_law 371 = .ok (.aload_n 0, 1) := by decide +kernel
theorem dL_law_372 : decode cL_law 372 = .ok (.iload_n 3, 1) := by decide +kernel
theorem dL_law_373 : decode cL_law 373 = .ok (.iconst 4, 1) := by decide +kernel
theorem dL_law_374 : decode cL_law 374 = .ok (.iadd, 1) := by decide +kernel
theorem dL_law_375 : decode cL_law 375 = .ok (.iaload, 1) := by decide +kernel
theorem dL_law_376 : decode cL_law 376 = .ok (.aload_n 0, 1) := by decide +kernel
theorem dL_law_377 : decode cL_law 377 = .ok (.iload_n 3, 1) := by decide +kernel
theorem dL_law_378 : decode cL_law 378 = .ok (.iconst 5, 1) := by decide +kernel
theorem dL_law_379 : decode cL_law 379 = .ok (.iadd, 1) := by decide +kernel
theorem dL_law_380 : decode cL_law 380 = .ok (.iaload, 1) := by decide +kernel
theorem dL_law_381 : decode cL_law 381 = .ok (.invokevirtual 36, 3) := by decide +kernel
theorem dL_law_384 : decode cL_law 384 = .ok (.aload_n 2, 1) := by decide +kernel
theorem dL_law_385 : decode cL_law 385 = .ok (.aload_n 0, 1) := by decide +kernel
theorem dL_law_386 : decode cL_law 386 = .ok (.iload_n 3, 1) := by decide +kernel
theorem dL_law_387 : decode cL_law 387 = .ok (.iconst 1, 1) := by decide +kernel
theorem dL_law_388 : decode cL_law 388 = .ok (.iadd, 1) := by decide +kernel
theorem dL_law_389 : decode cL_law 389 = .ok (.iaload, 1) := by decide +kernel
theorem dL_law_390 : decode cL_law 390 = .ok (.aload_n 0, 1) := by decide +kernel
theorem dL_law_391 : decode cL_law 391 = .ok (.iload_n 3, 1) := by decide +kernel
theorem dL_law_392 : decode cL_law 392 = .ok (.iconst 2, 1) := by decide +kernel
theorem dL_law_393 : decode cL_law 393 = .ok (.iadd, 1) := by decide +kernel
theorem dL_law_394 : decode cL_law 394 = .ok (.iaload, 1) := by decide +kernel
theorem dL_law_395 : decode cL_law 395 = .ok (.aload_n 0, 1) := by decide +kernel
theorem dL_law_396 : decode cL_law 396 = .ok (.iload_n 3, 1) := by decide +kernel
theorem dL_law_397 : decode cL_law 397 = .ok (.iconst 3, 1) := by decide +kernel
theorem dL_law_398 : decode cL_law 398 = .ok (.iadd, 1) := by decide +kernel
theorem dL_law_399 : decode cL_law 399 = .ok (.iaload, 1) := by decide +kernel
theorem dL_law_400 : decode cL_law 400 = .ok (.aload_n 0, 1) := by decide +kernel
theorem dL_law_401 : decode cL_law 401 = .ok (.iload_n 3, 1) := by decide +kernel
theorem dL_law_402 : decode cL_law 402 = .ok (.iconst 4, 1) := by decide +kernel
theorem dL_law_403 : decode cL_law 403 = .ok (.iadd, 1) := by decide +kernel
theorem dL_law_404 : decode cL_law 404 = .ok (.iaload, 1) := by decide +kernel
theorem dL_law_405 : decode cL_law 405 = .ok (.aload_n 0, 1) := by decide +kernel
theorem dL_law_406 : decode cL_law 406 = .ok (.iload_n 3, 1) := by decide +kernel
theorem dL_law_407 : decode cL_law 407 = .ok (.iconst 5, 1) := by decide +kernel
theorem dL_law_408 : decode cL_law 408 = .ok (.iadd, 1) := by decide +kernel
theorem dL_law_409 : decode cL_law 409 = .ok (.iaload, 1) := by decide +kernel
theorem dL_law_410 : decode cL_law 410 = .ok (.invokevirtual 40, 3) := by decide +kernel
theorem dL_law_413 : decode cL_law 413 = .ok (.if_icmp .eq 657, 3) := by decide +kernel
theorem dL_law_416 : decode cL_law 416 = .ok (.iconst 0, 1) := by decide +kernel
theorem dL_law_417 : decode cL_law 417 = .ok (.ireturn, 1) := by decide +kernel
theorem dL_law_418 : decode cL_law 418 = .ok (.aload_n 1, 1) := by decide +kernel
theorem dL_law_419 : decode cL_law 419 = .ok (.aload_n 0, 1) := by decide +kernel
theorem dL_law_420 : decode cL_law 420 = .ok (.iload_n 3, 1) := by decide +kernel
theorem dL_law_421 : decode cL_law 421 = .ok (.iconst 1, 1) := by decide +kernel
theorem dL_law_422 : decode cL_law 422 = .ok (.iadd, 1) := by decide +kernel
theorem dL_law_423 : decode cL_law 423 = .ok (.iaload, 1) := by decide +kernel
theorem dL_law_424 : decode cL_law 424 = .ok (.invokevirtual 41, 3) := by decide +kernel
theorem dL_law_427 : decode cL_law 427 = .ok (.aload_n 2, 1) := by decide +kernel
theorem dL_law_428 : decode cL_law 428 = .ok (.aload_n 0, 1) := by decide +kernel
theorem dL_law_429 : decode cL_law 429 = .ok (.iload_n 3, 1) := by decide +kernel
theorem dL_law_430 : decode cL_law 430 = .ok (.iconst 1, 1) := by decide +kernel
theorem dL_law_431 : decode cL_law 431 = .ok (.iadd, 1) := by decide +kernel
theorem dL_law_432 : decode cL_law 432 = .ok (.iaload, 1) := by decide +kernel
theorem dL_law_433 : decode cL_law 433 = .ok (.invokevirtual 44, 3) := by decide +kernel
theorem dL_law_436 : decode cL_law 436 = .ok (.if_icmp .eq 634, 3) := by decide +kernel
theorem dL_law_439 : decode cL_law 439 = .ok (.iconst 0, 1) := by decide +kernel
theorem dL_law_440 : decode cL_law 440 = .ok (.ireturn, 1) := by decide +kernel
theorem dL_law_441 : decode cL_law 441 = .ok (.aload_n 1, 1) := by decide +kernel
theorem dL_law_442 : decode cL_law 442 = .ok (.invokevirtual 45, 3) := by decide +kernel
theorem dL_law_445 : decode cL_law 445 = .ok (.aload_n 2, 1) := by decide +kernel
theorem dL_law_446 : decode cL_law 446 = .ok (.invokevirtual 49, 3) := by decide +kernel
theorem dL_law_449 : decode cL_law 449 = .ok (.if_icmp .eq 621, 3) := by decide +kernel
theorem dL_law_452 : decode cL_law 452 = .ok (.iconst 0, 1) := by decide +kernel
theorem dL_law_453 : decode cL_law 453 = .ok (.ireturn, 1) := by decide +kernel
theorem dL_law_454 : decode cL_law 454 = .ok (.aload_n 1, 1) := by decide +kernel
theorem dL_law_455 : decode cL_law 455 = .ok (.invokevirtual 50, 3) := by decide +kernel
theorem dL_law_458 : decode cL_law 458 = .ok (.aload_n 2, 1) := by decide +kernel
theorem dL_law_459 : decode cL_law 459 = .ok (.invokevirtual 53, 3) := by decide +kernel
theorem dL_law_462 : decode cL_law 462 = .ok (.if_icmp .eq 608, 3) := by decide +kernel
theorem dL_law_465 : decode cL_law 465 = .ok (.iconst 0, 1) := by decide +kernel
theorem dL_law_466 : decode cL_law 466 = .ok (.ireturn, 1) := by decide +kernel
theorem dL_law_467 : decode cL_law 467 = .ok (.aload_n 1, 1) := by decide +kernel
theorem dL_law_468 : decode cL_law 468 = .ok (.invokevirtual 54, 3) := by decide +kernel
theorem dL_law_471 : decode cL_law 471 = .ok (.aload_n 2, 1) := by decide +kernel
theorem dL_law_472 : decode cL_law 472 = .ok (.invokevirtual 57, 3) := by decide +kernel
theorem dL_law_475 : decode cL_law 475 = .ok (.if_icmp .eq 595, 3) := by decide +kernel
theorem dL_law_478 : decode cL_law 478 = .ok (.iconst 0, 1) := by decide +kernel
theorem dL_law_479 : decode cL_law 479 = .ok (.ireturn, 1) := by decide +kernel
theorem dL_law_480 : decode cL_law 480 = .ok (.aload_n 1, 1) := by decide +kernel
theorem dL_law_481 : decode cL_law 481 = .ok (.invokevirtual 58, 3) := by decide +kernel
theorem dL_law_484 : decode cL_law 484 = .ok (.aload_n 2, 1) := by decide +kernel
theorem dL_law_485 : decode cL_law 485 = .ok (.invokevirtual 61, 3) := by decide +kernel
theorem dL_law_488 : decode cL_law 488 = .ok (.if_icmp .eq 582, 3) := by decide +kernel
theorem dL_law_491 : decode cL_law 491 = .ok (.iconst 0, 1) := by decide +kernel
theorem dL_law_492 : decode cL_law 492 = .ok (.ireturn, 1) := by decide +kernel
theorem dL_law_493 : decode cL_law 493 = .ok (.aload_n 1, 1) := by decide +kernel
theorem dL_law_494 : decode cL_law 494 = .ok (.aload_n 0, 1) := by decide +kernel
theorem dL_law_495 : decode cL_law 495 = .ok (.iload_n 3, 1) := by decide +kernel
theorem dL_law_496 : decode cL_law 496 = .ok (.iconst 1, 1) := by decide +kernel
theorem dL_law_497 : decode cL_law 497 = .ok (.iadd, 1) := by decide +kernel
theorem dL_law_498 : decode cL_law 498 = .ok (.iaload, 1) := by decide +kernel
theorem dL_law_499 : decode cL_law 499 = .ok (.invokevirtual 62, 3) := by decide +kernel
theorem dL_law_502 : decode cL_law 502 = .ok (.aload_n 2, 1) := by decide +kernel
theorem dL_law_503 : decode cL_law 503 = .ok (.aload_n 0, 1) := by decide +kernel
theorem dL_law_504 : decode cL_law 504 = .ok (.iload_n 3, 1) := by decide +kernel
theorem dL_law_505 : decode cL_law 505 = .ok (.iconst 1, 1) := by decide +kernel
theorem dL_law_506 : decode cL_law 506 = .ok (.iadd, 1) := by decide +kernel
theorem dL_law_507 : decode cL_law 507 = .ok (.iaload, 1) := by decide +kernel
theorem dL_law_508 : decode cL_law 508 = .ok (.invokevirtual 65, 3) := by decide +kernel
theorem dL_law_511 : decode cL_law 511 = .ok (.if_icmp .eq 559, 3) := by decide +kernel
theorem dL_law_514 : decode cL_law 514 = .ok (.iconst 0, 1) := by decide +kernel
theorem dL_law_515 : decode cL_law 515 = .ok (.ireturn, 1) := by decide +kernel
theorem dL_law_516 : decode cL_law 516 = .ok (.aload_n 1, 1) := by decide +kernel
theorem dL_law_517 : decode cL_law 517 = .ok (.aload_n 0, 1) := by decide +kernel
theorem dL_law_518 : decode cL_law 518 = .ok (.iload_n 3, 1) := by decide +kernel
theorem dL_law_519 : decode cL_law 519 = .ok (.iconst 1, 1) := by decide +kernel
theorem dL_law_520 : decode cL_law 520 = .ok (.iadd, 1) := by decide +kernel
theorem dL_law_521 : decode cL_law 521 = .ok (.iaload, 1) := by decide +kernel
theorem dL_law_522 : decode cL_law 522 = .ok (.aload_n 0, 1) := by decide +kernel
theorem dL_law_523 : decode cL_law 523 = .ok (.iload_n 3, 1) := by decide +kernel
theorem dL_law_524 : decode cL_law 524 = .ok (.iconst 2, 1) := by decide +kernel
theorem dL_law_525 : decode cL_law 525 = .ok (.iadd, 1) := by decide +kernel
theorem dL_law_526 : decode cL_law 526 = .ok (.iaload, 1) := by decide +kernel
theorem dL_law_527 : decode cL_law 527 = .ok (.invokevirtual 66, 3) := by decide +kernel
theorem dL_law_530 : decode cL_law 530 = .ok (.aload_n 2, 1) := by decide +kernel
theorem dL_law_531 : decode cL_law 531 = .ok (.aload_n 0, 1) := by decide +kernel
theorem dL_law_532 : decode cL_law 532 = .ok (.iload_n 3, 1) := by decide +kernel
theorem dL_law_533 : decode cL_law 533 = .ok (.iconst 1, 1) := by decide +kernel
theorem dL_law_534 : decode cL_law 534 = .ok (.iadd, 1) := by decide +kernel
theorem dL_law_535 : decode cL_law 535 = .ok (.iaload, 1) := by decide +kernel
theorem dL_law_536 : decode cL_law 536 = .ok (.aload_n 0, 1) := by decide +kernel
theorem dL_law_537 : decode cL_law 537 = .ok (.iload_n 3, 1) := by decide +kernel
theorem dL_law_538 : decode cL_law 538 = .ok (.iconst 2, 1) := by decide +kernel
theorem dL_law_539 : decode cL_law 539 = .ok (.iadd, 1) := by decide +kernel
theorem dL_law_540 : decode cL_law 540 = .ok (.iaload, 1) := by decide +kernel
theorem dL_law_541 : decode cL_law 541 = .ok (.invokevirtual 69, 3) := by decide +kernel
theorem dL_law_544 : decode cL_law 544 = .ok (.if_icmp .eq 526, 3) := by decide +kernel
theorem dL_law_547 : decode cL_law 547 = .ok (.iconst 0, 1) := by decide +kernel
theorem dL_law_548 : decode cL_law 548 = .ok (.ireturn, 1) := by decide +kernel
theorem dL_law_549 : decode cL_law 549 = .ok (.aload_n 1, 1) := by decide +kernel
theorem dL_law_550 : decode cL_law 550 = .ok (.aload_n 0, 1) := by decide +kernel
theorem dL_law_551 : decode cL_law 551 = .ok (.iload_n 3, 1) := by decide +kernel
theorem dL_law_552 : decode cL_law 552 = .ok (.iconst 1, 1) := by decide +kernel
theorem dL_law_553 : decode cL_law 553 = .ok (.iadd, 1) := by decide +kernel
theorem dL_law_554 : decode cL_law 554 = .ok (.iaload, 1) := by decide +kernel
theorem dL_law_555 : decode cL_law 555 = .ok (.aload_n 0, 1) := by decide +kernel
theorem dL_law_556 : decode cL_law 556 = .ok (.iload_n 3, 1) := by decide +kernel
theorem dL_law_557 : decode cL_law 557 = .ok (.iconst 2, 1) := by decide +kernel
theorem dL_law_558 : decode cL_law 558 = .ok (.iadd, 1) := by decide +kernel
theorem dL_law_559 : decode cL_law 559 = .ok (.iaload, 1) := by decide +kernel
theorem dL_law_560 : decode cL_law 560 = .ok (.invokevirtual 70, 3) := by decide +kernel
theorem dL_law_563 : decode cL_law 563 = .ok (.aload_n 2, 1) := by decide +kernel
theorem dL_law_564 : decode cL_law 564 = .ok (.aload_n 0, 1) := by decide +kernel
theorem dL_law_565 : decode cL_law 565 = .ok (.iload_n 3, 1) := by decide +kernel
theorem dL_law_566 : decode cL_law 566 = .ok (.iconst 1, 1) := by decide +kernel
theorem dL_law_567 : decode cL_law 567 = .ok (.iadd, 1) := by decide +kernel
theorem dL_law_568 : decode cL_law 568 = .ok (.iaload, 1) := by decide +kernel
theorem dL_law_569 : decode cL_law 569 = .ok (.aload_n 0, 1) := by decide +kernel
theorem dL_law_570 : decode cL_law 570 = .ok (.iload_n 3, 1) := by decide +kernel
theorem dL_law_571 : decode cL_law 571 = .ok (.iconst 2, 1) := by decide +kernel
theorem dL_law_572 : decode cL_law 572 = .ok (.iadd, 1) := by decide +kernel
theorem dL_law_573 : decode cL_law 573 = .ok (.iaload, 1) := by decide +kernel
theorem dL_law_574 : decode cL_law 574 = .ok (.invokevirtual 73, 3) := by decide +kernel
theorem dL_law_577 : decode cL_law 577 = .ok (.if_icmp .eq 493, 3) := by decide +kernel
theorem dL_law_580 : decode cL_law 580 = .ok (.iconst 0, 1) := by decide +kernel
theorem dL_law_581 : decode cL_law 581 = .ok (.ireturn, 1) := by decide +kernel
theorem dL_law_582 : decode cL_law 582 = .ok (.aload_n 1, 1) := by decide +kernel
theorem dL_law_583 : decode cL_law 583 = .ok (.aload_n 0, 1) := by decide +kernel
theorem dL_law_584 : decode cL_law 584 = .ok (.iload_n 3, 1) := by decide +kernel
theorem dL_law_585 : decode cL_law 585 = .ok (.iconst 1, 1) := by decide +kernel
theorem dL_law_586 : decode cL_law 586 = .ok (.iadd, 1) := by decide +kernel
theorem dL_law_587 : decode cL_law 587 = .ok (.iaload, 1) := by decide +kernel
theorem dL_law_588 : decode cL_law 588 = .ok (.aload_n 0, 1) := by decide +kernel
theorem dL_law_589 : decode cL_law 589 = .ok (.iload_n 3, 1) := by decide +kernel
theorem dL_law_590 : decode cL_law 590 = .ok (.iconst 2, 1) := by decide +kernel
theorem dL_law_591 : decode cL_law 591 = .ok (.iadd, 1) := by decide +kernel
theorem dL_law_592 : decode cL_law 592 = .ok (.iaload, 1) := by decide +kernel
theorem dL_law_593 : decode cL_law 593 = .ok (.invokevirtual 74, 3) := by decide +kernel
theorem dL_law_596 : decode cL_law 596 = .ok (.aload_n 2, 1) := by decide +kernel
theorem dL_law_597 : decode cL_law 597 = .ok (.aload_n 0, 1) := by decide +kernel
theorem dL_law_598 : decode cL_law 598 = .ok (.iload_n 3, 1) := by decide +kernel
theorem dL_law_599 : decode cL_law 599 = .ok (.iconst 1, 1) := by decide +kernel
theorem dL_law_600 : decode cL_law 600 = .ok (.iadd, 1) := by decide +kernel
theorem dL_law_601 : decode cL_law 601 = .ok (.iaload, 1) := by decide +kernel
theorem dL_law_602 : decode cL_law 602 = .ok (.aload_n 0, 1) := by decide +kernel
theorem dL_law_603 : decode cL_law 603 = .ok (.iload_n 3, 1) := by decide +kernel
theorem dL_law_604 : decode cL_law 604 = .ok (.iconst 2, 1) := by decide +kernel
theorem dL_law_605 : decode cL_law 605 = .ok (.iadd, 1) := by decide +kernel
theorem dL_law_606 : decode cL_law 606 = .ok (.iaload, 1) := by decide +kernel
theorem dL_law_607 : decode cL_law 607 = .ok (.invokevirtual 77, 3) := by decide +kernel
theorem dL_law_610 : decode cL_law 610 = .ok (.if_icmp .eq 460, 3) := by decide +kernel
theorem dL_law_613 : decode cL_law 613 = .ok (.iconst 0, 1) := by decide +kernel
theorem dL_law_614 : decode cL_law 614 = .ok (.ireturn, 1) := by decide +kernel
theorem dL_law_615 : decode cL_law 615 = .ok (.aload_n 1, 1) := by decide +kernel
theorem dL_law_616 : decode cL_law 616 = .ok (.invokevirtual 78, 3) := by decide +kernel
theorem dL_law_619 : decode cL_law 619 = .ok (.aload_n 2, 1) := by decide +kernel
theorem dL_law_620 : decode cL_law 620 = .ok (.invokevirtual 81, 3) := by decide +kernel
theorem dL_law_623 : decode cL_law 623 = .ok (.if_icmp .eq 447, 3) := by decide +kernel
theorem dL_law_626 : decode cL_law 626 = .ok (.iconst 0, 1) := by decide +kernel
theorem dL_law_627 : decode cL_law 627 = .ok (.ireturn, 1) := by decide +kernel
theorem dL_law_628 : decode cL_law 628 = .ok (.aload_n 1, 1) := by decide +kernel
theorem dL_law_629 : decode cL_law 629 = .ok (.aload_n 0, 1) := by decide +kernel
theorem dL_law_630 : decode cL_law 630 = .ok (.iload_n 3, 1) := by decide +kernel
theorem dL_law_631 : decode cL_law 631 = .ok (.iconst 1, 1) := by decide +kernel
theorem dL_law_632 : decode cL_law 632 = .ok (.iadd, 1) := by decide +kernel
theorem dL_law_633 : decode cL_law 633 = .ok (.iaload, 1) := by decide +kernel
theorem dL_law_634 : decode cL_law 634 = .ok (.invokevirtual 82, 3) := by decide +kernel
theorem dL_law_637 : decode cL_law 637 = .ok (.aload_n 2, 1) := by decide +kernel
theorem dL_law_638 : decode cL_law 638 = .ok (.aload_n 0, 1) := by decide +kernel
theorem dL_law_639 : decode cL_law 639 = .ok (.iload_n 3, 1) := by decide +kernel
theorem dL_law_640 : decode cL_law 640 = .ok (.iconst 1, 1) := by decide +kernel
theorem dL_law_641 : decode cL_law 641 = .ok (.iadd, 1) := by decide +kernel
theorem dL_law_642 : decode cL_law 642 = .ok (.iaload, 1) := by decide +kernel
theorem dL_law_643 : decode cL_law 643 = .ok (.invokevirtual 85, 3) := by decide +kernel
theorem dL_law_646 : decode cL_law 646 = .ok (.if_icmp .eq 424, 3) := by decide +kernel
theorem dL_law_649 : decode cL_law 649 = .ok (.iconst 0, 1) := by decide +kernel
theorem dL_law_650 : decode cL_law 650 = .ok (.ireturn, 1) := by decide +kernel
theorem dL_law_651 : decode cL_law 651 = .ok (.aload_n 1, 1) := by decide +kernel
theorem dL_law_652 : decode cL_law 652 = .ok (.aload_n 0, 1) := by decide +kernel
theorem dL_law_653 : decode cL_law 653 = .ok (.iload_n 3, 1) := by decide +kernel
theorem dL_law_654 : decode cL_law 654 = .ok (.iconst 1, 1) := by decide +kernel
theorem dL_law_655 : decode cL_law 655 = .ok (.iadd, 1) := by decide +kernel
theorem dL_law_656 : decode cL_law 656 = .ok (.iaload, 1) := by decide +kernel
theorem dL_law_657 : decode cL_law 657 = .ok (.invokevirtual 86, 3) := by decide +kernel
theorem dL_law_660 : decode cL_law 660 = .ok (.aload_n 2, 1) := by decide +kernel
theorem dL_law_661 : decode cL_law 661 = .ok (.aload_n 0, 1) := by decide +kernel
theorem dL_law_662 : decode cL_law 662 = .ok (.iload_n 3, 1) := by decide +kernel
theorem dL_law_663 : decode cL_law 663 = .ok (.iconst 1, 1) := by decide +kernel
theorem dL_law_664 : decode cL_law 664 = .ok (.iadd, 1) := by decide +kernel
theorem dL_law_665 : decode cL_law 665 = .ok (.iaload, 1) := by decide +kernel
theorem dL_law_666 : decode cL_law 666 = .ok (.invokevirtual 89, 3) := by decide +kernel
theorem dL_law_669 : decode cL_law 669 = .ok (.if_icmp .eq 401, 3) := by decide +kernel
theorem dL_law_672 : decode cL_law 672 = .ok (.iconst 0, 1) := by decide +kernel
theorem dL_law_673 : decode cL_law 673 = .ok (.ireturn, 1) := by decide +kernel
theorem dL_law_674 : decode cL_law 674 = .ok (.aload_n 1, 1) := by decide +kernel
theorem dL_law_675 : decode cL_law 675 = .ok (.aload_n 0, 1) := by decide +kernel
theorem dL_law_676 : decode cL_law 676 = .ok (.iload_n 3, 1) := by decide +kernel
theorem dL_law_677 : decode cL_law 677 = .ok (.iconst 1, 1) := by decide +kernel
theorem dL_law_678 : decode cL_law 678 = .ok (.iadd, 1) := by decide +kernel
theorem dL_law_679 : decode cL_law 679 = .ok (.iaload, 1) := by decide +kernel
theorem dL_law_680 : decode cL_law 680 = .ok (.invokevirtual 90, 3) := by decide +kernel
theorem dL_law_683 : decode cL_law 683 = .ok (.aload_n 2, 1) := by decide +kernel
theorem dL_law_684 : decode cL_law 684 = .ok (.aload_n 0, 1) := by decide +kernel
theorem dL_law_685 : decode cL_law 685 = .ok (.iload_n 3, 1) := by decide +kernel
theorem dL_law_686 : decode cL_law 686 = .ok (.iconst 1, 1) := by decide +kernel
theorem dL_law_687 : decode cL_law 687 = .ok (.iadd, 1) := by decide +kernel
theorem dL_law_688 : decode cL_law 688 = .ok (.iaload, 1) := by decide +kernel
theorem dL_law_689 : decode cL_law 689 = .ok (.invokevirtual 93, 3) := by decide +kernel
theorem dL_law_692 : decode cL_law 692 = .ok (.if_icmp .eq 378, 3) := by decide +kernel
theorem dL_law_695 : decode cL_law 695 = .ok (.iconst 0, 1) := by decide +kernel
theorem dL_law_696 : decode cL_law 696 = .ok (.ireturn, 1) := by decide +kernel
theorem dL_law_697 : decode cL_law 697 = .ok (.aload_n 1, 1) := by decide +kernel
theorem dL_law_698 : decode cL_law 698 = .ok (.aload_n 0, 1) := by decide +kernel
theorem dL_law_699 : decode cL_law 699 = .ok (.iload_n 3, 1) := by decide +kernel
theorem dL_law_700 : decode cL_law 700 = .ok (.iconst 1, 1) := by decide +kernel
theorem dL_law_701 : decode cL_law 701 = .ok (.iadd, 1) := by decide +kernel
theorem dL_law_702 : decode cL_law 702 = .ok (.iaload, 1) := by decide +kernel
theorem dL_law_703 : decode cL_law 703 = .ok (.aload_n 0, 1) := by decide +kernel
theorem dL_law_704 : decode cL_law 704 = .ok (.iload_n 3, 1) := by decide +kernel
theorem dL_law_705 : decode cL_law 705 = .ok (.iconst 2, 1) := by decide +kernel
theorem dL_law_706 : decode cL_law 706 = .ok (.iadd, 1) := by decide +kernel
theorem dL_law_707 : decode cL_law 707 = .ok (.iaload, 1) := by decide +kernel
theorem dL_law_708 : decode cL_law 708 = .ok (.invokevirtual 94, 3) := by decide +kernel
theorem dL_law_711 : decode cL_law 711 = .ok (.aload_n 2, 1) := by decide +kernel
theorem dL_law_712 : decode cL_law 712 = .ok (.aload_n 0, 1) := by decide +kernel
theorem dL_law_713 : decode cL_law 713 = .ok (.iload_n 3, 1) := by decide +kernel
theorem dL_law_714 : decode cL_law 714 = .ok (.iconst 1, 1) := by decide +kernel
theorem dL_law_715 : decode cL_law 715 = .ok (.iadd, 1) := by decide +kernel
theorem dL_law_716 : decode cL_law 716 = .ok (.iaload, 1) := by decide +kernel
theorem dL_law_717 : decode cL_law 717 = .ok (.aload_n 0, 1) := by decide +kernel
theorem dL_law_718 : decode cL_law 718 = .ok (.iload_n 3, 1) := by decide +kernel
theorem dL_law_719 : decode cL_law 719 = .ok (.iconst 2, 1) := by decide +kernel
theorem dL_law_720 : decode cL_law 720 = .ok (.iadd, 1) := by decide +kernel
theorem dL_law_721 : decode cL_law 721 = .ok (.iaload, 1) := by decide +kernel
theorem dL_law_722 : decode cL_law 722 = .ok (.invokevirtual 97, 3) := by decide +kernel
theorem dL_law_725 : decode cL_law 725 = .ok (.if_icmp .eq 345, 3) := by decide +kernel
theorem dL_law_728 : decode cL_law 728 = .ok (.iconst 0, 1) := by decide +kernel
theorem dL_law_729 : decode cL_law 729 = .ok (.ireturn, 1) := by decide +kernel
theorem dL_law_730 : decode cL_law 730 = .ok (.aload_n 1, 1) := by decide +kernel
theorem dL_law_731 : decode cL_law 731 = .ok (.aload_n 0, 1) := by decide +kernel
theorem dL_law_732 : decode cL_law 732 = .ok (.iload_n 3, 1) := by decide +kernel
theorem dL_law_733 : decode cL_law 733 = .ok (.iconst 1, 1) := by decide +kernel
theorem dL_law_734 : decode cL_law 734 = .ok (.iadd, 1) := by decide +kernel
theorem dL_law_735 : decode cL_law 735 = .ok (.iaload, 1) := by decide +kernel
theorem dL_law_736 : decode cL_law 736 = .ok (.aload_n 0, 1) := by decide +kernel
theorem dL_law_737 : decode cL_law 737 = .ok (.iload_n 3, 1) := by decide +kernel
theorem dL_law_738 : decode cL_law 738 = .ok (.iconst 2, 1) := by decide +kernel
theorem dL_law_739 : decode cL_law 739 = .ok (.iadd, 1) := by decide +kernel
theorem dL_law_740 : decode cL_law 740 = .ok (.iaload, 1) := by decide +kernel
theorem dL_law_741 : decode cL_law 741 = .ok (.invokevirtual 98, 3) := by decide +kernel
theorem dL_law_744 : decode cL_law 744 = .ok (.aload_n 2, 1) := by decide +kernel
theorem dL_law_745 : decode cL_law 745 = .ok (.aload_n 0, 1) := by decide +kernel
theorem dL_law_746 : decode cL_law 746 = .ok (.iload_n 3, 1) := by decide +kernel
theorem dL_law_747 : decode cL_law 747 = .ok (.iconst 1, 1) := by decide +kernel
theorem dL_law_748 : decode cL_law 748 = .ok (.iadd, 1) := by decide +kernel
theorem dL_law_749 : decode cL_law 749 = .ok (.iaload, 1) := by decide +kernel
theorem dL_law_750 : decode cL_law 750 = .ok (.aload_n 0, 1) := by decide +kernel
theorem dL_law_751 : decode cL_law 751 = .ok (.iload_n 3, 1) := by decide +kernel
theorem dL_law_752 : decode cL_law 752 = .ok (.iconst 2, 1) := by decide +kernel
theorem dL_law_753 : decode cL_law 753 = .ok (.iadd, 1) := by decide +kernel
theorem dL_law_754 : decode cL_law 754 = .ok (.iaload, 1) := by decide +kernel
theorem dL_law_755 : decode cL_law 755 = .ok (.invokevirtual 102, 3) := by decide +kernel
theorem dL_law_758 : decode cL_law 758 = .ok (.lcmp, 1) := by decide +kernel
theorem dL_law_759 : decode cL_law 759 = .ok (.ifCond .eq 311, 3) := by decide +kernel
theorem dL_law_762 : decode cL_law 762 = .ok (.iconst 0, 1) := by decide +kernel
theorem dL_law_763 : decode cL_law 763 = .ok (.ireturn, 1) := by decide +kernel
theorem dL_law_764 : decode cL_law 764 = .ok (.aload_n 1, 1) := by decide +kernel
theorem dL_law_765 : decode cL_law 765 = .ok (.aload_n 0, 1) := by decide +kernel
theorem dL_law_766 : decode cL_law 766 = .ok (.iload_n 3, 1) := by decide +kernel
theorem dL_law_767 : decode cL_law 767 = .ok (.iconst 1, 1) := by decide +kernel
theorem dL_law_768 : decode cL_law 768 = .ok (.iadd, 1) := by decide +kernel
theorem dL_law_769 : decode cL_law 769 = .ok (.iaload, 1) := by decide +kernel
theorem dL_law_770 : decode cL_law 770 = .ok (.aload_n 0, 1) := by decide +kernel
theorem dL_law_771 : decode cL_law 771 = .ok (.iload_n 3, 1) := by decide +kernel
theorem dL_law_772 : decode cL_law 772 = .ok (.iconst 2, 1) := by decide +kernel
theorem dL_law_773 : decode cL_law 773 = .ok (.iadd, 1) := by decide +kernel
theorem dL_law_774 : decode cL_law 774 = .ok (.iaload, 1) := by decide +kernel
theorem dL_law_775 : decode cL_law 775 = .ok (.invokevirtual 103, 3) := by decide +kernel
