theorem dX6_lookFrom_8 : decode cX6_lookFrom 8 = .ok (.getfield 50, 3) := by decide +kernel
theorem dX6_lookFrom_11 : decode cX6_lookFrom 11 = .ok (.iload_n 2, 1) := by decide +kernel
theorem dX6_lookFrom_12 : decode cX6_lookFrom 12 = .ok (.iaload, 1) := by decide +kernel
theorem dX6_lookFrom_13 : decode cX6_lookFrom 13 = .ok (.istore 6, 2) := by decide +kernel
theorem dX6_lookFrom_15 : decode cX6_lookFrom 15 = .ok (.iconst 0, 1) := by decide +kernel
theorem dX6_lookFrom_16 : decode cX6_lookFrom 16 = .ok (.istore 7, 2) := by decide +kernel
theorem dX6_lookFrom_18 : decode cX6_lookFrom 18 = .ok (.iload 7, 2) := by decide +kernel
theorem dX6_lookFrom_20 : decode cX6_lookFrom 20 = .ok (.aload_n 1, 1) := by decide +kernel
theorem dX6_lookFrom_21 : decode cX6_lookFrom 21 = .ok (.getfield 53, 3) := by decide +kernel
theorem dX6_lookFrom_24 : decode cX6_lookFrom 24 = .ok (.if_icmp .ge 100, 3) := by decide +kernel
theorem dX6_lookFrom_27 : decode cX6_lookFrom 27 = .ok (.iload_n 2, 1) := by decide +kernel
theorem dX6_lookFrom_28 : decode cX6_lookFrom 28 = .ok (.iconst 1, 1) := by decide +kernel
theorem dX6_lookFrom_29 : decode cX6_lookFrom 29 = .ok (.iload 7, 2) := by decide +kernel
theorem dX6_lookFrom_31 : decode cX6_lookFrom 31 = .ok (.ishl, 1) := by decide +kernel
theorem dX6_lookFrom_32 : decode cX6_lookFrom 32 = .ok (.ior, 1) := by decide +kernel
theorem dX6_lookFrom_33 : decode cX6_lookFrom 33 = .ok (.istore 8, 2) := by decide +kernel
theorem dX6_lookFrom_35 : decode cX6_lookFrom 35 = .ok (.iload 6, 2) := by decide +kernel
theorem dX6_lookFrom_37 : decode cX6_lookFrom 37 = .ok (.iload 7, 2) := by decide +kernel
theorem dX6_lookFrom_39 : decode cX6_lookFrom 39 = .ok (.ishr, 1) := by decide +kernel
theorem dX6_lookFrom_40 : decode cX6_lookFrom 40 = .ok (.iconst 1, 1) := by decide +kernel
theorem dX6_lookFrom_41 : decode cX6_lookFrom 41 = .ok (.iand, 1) := by decide +kernel
theorem dX6_lookFrom_42 : decode cX6_lookFrom 42 = .ok (.ifCond .eq 76, 3) := by decide +kernel
theorem dX6_lookFrom_45 : decode cX6_lookFrom 45 = .ok (.aload_n 0, 1) := by decide +kernel
theorem dX6_lookFrom_46 : decode cX6_lookFrom 46 = .ok (.getfield 18, 3) := by decide +kernel
theorem dX6_lookFrom_49 : decode cX6_lookFrom 49 = .ok (.iload 8, 2) := by decide +kernel
theorem dX6_lookFrom_51 : decode cX6_lookFrom 51 = .ok (.iaload, 1) := by decide +kernel
theorem dX6_lookFrom_52 : decode cX6_lookFrom 52 = .ok (.ifCond .le 66, 3) := by decide +kernel
theorem dX6_lookFrom_55 : decode cX6_lookFrom 55 = .ok (.aload_n 0, 1) := by decide +kernel
theorem dX6_lookFrom_56 : decode cX6_lookFrom 56 = .ok (.aload_n 1, 1) := by decide +kernel
theorem dX6_lookFrom_57 : decode cX6_lookFrom 57 = .ok (.iload 7, 2) := by decide +kernel
theorem dX6_lookFrom_59 : decode cX6_lookFrom 59 = .ok (.iload_n 2, 1) := by decide +kernel
theorem dX6_lookFrom_60 : decode cX6_lookFrom 60 = .ok (.invokevirtual 56, 3) := by decide +kernel
theorem dX6_lookFrom_63 : decode cX6_lookFrom 63 = .ok (.aload_n 0, 1) := by decide +kernel
theorem dX6_lookFrom_64 : decode cX6_lookFrom 64 = .ok (.getfield 15, 3) := by decide +kernel
theorem dX6_lookFrom_67 : decode cX6_lookFrom 67 = .ok (.iload 8, 2) := by decide +kernel
theorem dX6_lookFrom_69 : decode cX6_lookFrom 69 = .ok (.iaload, 1) := by decide +kernel
theorem dX6_lookFrom_70 : decode cX6_lookFrom 70 = .ok (.iload_n 3, 1) := by decide +kernel
theorem dX6_lookFrom_71 : decode cX6_lookFrom 71 = .ok (.invokestatic 60, 3) := by decide +kernel
theorem dX6_lookFrom_74 : decode cX6_lookFrom 74 = .ok (.istore 9, 2) := by decide +kernel
theorem dX6_lookFrom_76 : decode cX6_lookFrom 76 = .ok (.iload 9, 2) := by decide +kernel
theorem dX6_lookFrom_78 : decode cX6_lookFrom 78 = .ok (.iload 4, 2) := by decide +kernel
theorem dX6_lookFrom_80 : decode cX6_lookFrom 80 = .ok (.if_icmp .ge 19, 3) := by decide +kernel
theorem dX6_lookFrom_83 : decode cX6_lookFrom 83 = .ok (.iload 9, 2) := by decide +kernel
theorem dX6_lookFrom_85 : decode cX6_lookFrom 85 = .ok (.istore 4, 2) := by decide +kernel
theorem dX6_lookFrom_87 : decode cX6_lookFrom 87 = .ok (.aload_n 0, 1) := by decide +kernel
theorem dX6_lookFrom_88 : decode cX6_lookFrom 88 = .ok (.getfield 18, 3) := by decide +kernel
theorem dX6_lookFrom_91 : decode cX6_lookFrom 91 = .ok (.iload 8, 2) := by decide +kernel
theorem dX6_lookFrom_93 : decode cX6_lookFrom 93 = .ok (.iaload, 1) := by decide +kernel
theorem dX6_lookFrom_94 : decode cX6_lookFrom 94 = .ok (.istore 5, 2) := by decide +kernel
theorem dX6_lookFrom_96 : decode cX6_lookFrom 96 = .ok (.goto 22, 3) := by decide +kernel
theorem dX6_lookFrom_99 : decode cX6_lookFrom 99 = .ok (.iload 9, 2) := by decide +kernel
theorem dX6_lookFrom_101 : decode cX6_lookFrom 101 = .ok (.iload 4, 2) := by decide +kernel
theorem dX6_lookFrom_103 : decode cX6_lookFrom 103 = .ok (.if_icmp .ne 15, 3) := by decide +kernel
theorem dX6_lookFrom_106 : decode cX6_lookFrom 106 = .ok (.iload 5, 2) := by decide +kernel
theorem dX6_lookFrom_108 : decode cX6_lookFrom 108 = .ok (.aload_n 0, 1) := by decide +kernel
theorem dX6_lookFrom_109 : decode cX6_lookFrom 109 = .ok (.getfield 18, 3) := by decide +kernel
theorem dX6_lookFrom_112 : decode cX6_lookFrom 112 = .ok (.iload 8, 2) := by decide +kernel
theorem dX6_lookFrom_114 : decode cX6_lookFrom 114 = .ok (.iaload, 1) := by decide +kernel
theorem dX6_lookFrom_115 : decode cX6_lookFrom 115 = .ok (.iadd, 1) := by decide +kernel
theorem dX6_lookFrom_116 : decode cX6_lookFrom 116 = .ok (.istore 5, 2) := by decide +kernel
theorem dX6_lookFrom_118 : decode cX6_lookFrom 118 = .ok (.iinc 7 1, 3) := by decide +kernel
theorem dX6_lookFrom_121 : decode cX6_lookFrom 121 = .ok (.goto (-103), 3) := by decide +kernel
theorem dX6_lookFrom_124 : decode cX6_lookFrom 124 = .ok (.aload_n 0, 1) := by decide +kernel
theorem dX6_lookFrom_125 : decode cX6_lookFrom 125 = .ok (.getfield 15, 3) := by decide +kernel
theorem dX6_lookFrom_128 : decode cX6_lookFrom 128 = .ok (.iload_n 2, 1) := by decide +kernel
theorem dX6_lookFrom_129 : decode cX6_lookFrom 129 = .ok (.iload 4, 2) := by decide +kernel
theorem dX6_lookFrom_131 : decode cX6_lookFrom 131 = .ok (.iastore, 1) := by decide +kernel
theorem dX6_lookFrom_132 : decode cX6_lookFrom 132 = .ok (.aload_n 0, 1) := by decide +kernel
theorem dX6_lookFrom_133 : decode cX6_lookFrom 133 = .ok (.getfield 18, 3) := by decide +kernel
theorem dX6_lookFrom_136 : decode cX6_lookFrom 136 = .ok (.iload_n 2, 1) := by decide +kernel
theorem dX6_lookFrom_137 : decode cX6_lookFrom 137 = .ok (.iload 5, 2) := by decide +kernel
theorem dX6_lookFrom_139 : decode cX6_lookFrom 139 = .ok (.iastore, 1) := by decide +kernel
theorem dX6_lookFrom_140 : decode cX6_lookFrom 140 = .ok (.return_, 1) := by decide +kernel
theorem dX6_walk_0 : decode cX6_walk 0 = .ok (.iconst 0, 1) := by decide +kernel
theorem dX6_walk_1 : decode cX6_walk 1 = .ok (.istore_n 3, 1) := by decide +kernel
theorem dX6_walk_2 : decode cX6_walk 2 = .ok (.aload_n 0, 1) := by decide +kernel
theorem dX6_walk_3 : decode cX6_walk 3 = .ok (.getfield 38, 3) := by decide +kernel
theorem dX6_walk_6 : decode cX6_walk 6 = .ok (.istore 4, 2) := by decide +kernel
theorem dX6_walk_8 : decode cX6_walk 8 = .ok (.iconst 0, 1) := by decide +kernel
theorem dX6_walk_9 : decode cX6_walk 9 = .ok (.istore 5, 2) := by decide +kernel
theorem dX6_walk_11 : decode cX6_walk 11 = .ok (.iload 5, 2) := by decide +kernel
theorem dX6_walk_13 : decode cX6_walk 13 = .ok (.aload_n 1, 1) := by decide +kernel
theorem dX6_walk_14 : decode cX6_walk 14 = .ok (.getfield 53, 3) := by decide +kernel
theorem dX6_walk_17 : decode cX6_walk 17 = .ok (.if_icmp .ge 60, 3) := by decide +kernel
theorem dX6_walk_20 : decode cX6_walk 20 = .ok (.aload_n 0, 1) := by decide +kernel
theorem dX6_walk_21 : decode cX6_walk 21 = .ok (.aload_n 1, 1) := by decide +kernel
theorem dX6_walk_22 : decode cX6_walk 22 = .ok (.iload_n 3, 1) := by decide +kernel
theorem dX6_walk_23 : decode cX6_walk 23 = .ok (.iload 4, 2) := by decide +kernel
theorem dX6_walk_25 : decode cX6_walk 25 = .ok (.iload_n 2, 1) := by decide +kernel
theorem dX6_walk_26 : decode cX6_walk 26 = .ok (.invokevirtual 64, 3) := by decide +kernel
theorem dX6_walk_29 : decode cX6_walk 29 = .ok (.istore 6, 2) := by decide +kernel
theorem dX6_walk_31 : decode cX6_walk 31 = .ok (.iload 6, 2) := by decide +kernel
theorem dX6_walk_33 : decode cX6_walk 33 = .ok (.iconst (-1), 1) := by decide +kernel
theorem dX6_walk_34 : decode cX6_walk 34 = .ok (.if_icmp .ne 4, 3) := by decide +kernel
theorem dX6_walk_37 : decode cX6_walk 37 = .ok (.return_, 1) := by decide +kernel
theorem dX6_walk_38 : decode cX6_walk 38 = .ok (.aload_n 0, 1) := by decide +kernel
theorem dX6_walk_39 : decode cX6_walk 39 = .ok (.getfield 21, 3) := by decide +kernel
theorem dX6_walk_42 : decode cX6_walk 42 = .ok (.iload 5, 2) := by decide +kernel
theorem dX6_walk_44 : decode cX6_walk 44 = .ok (.iload 6, 2) := by decide +kernel
theorem dX6_walk_46 : decode cX6_walk 46 = .ok (.iastore, 1) := by decide +kernel
theorem dX6_walk_47 : decode cX6_walk 47 = .ok (.iload_n 2, 1) := by decide +kernel
theorem dX6_walk_48 : decode cX6_walk 48 = .ok (.ifCond .ne 16, 3) := by decide +kernel
theorem dX6_walk_51 : decode cX6_walk 51 = .ok (.iload 4, 2) := by decide +kernel
theorem dX6_walk_53 : decode cX6_walk 53 = .ok (.aload_n 0, 1) := by decide +kernel
theorem dX6_walk_54 : decode cX6_walk 54 = .ok (.aload_n 1, 1) := by decide +kernel
theorem dX6_walk_55 : decode cX6_walk 55 = .ok (.iload 6, 2) := by decide +kernel
theorem dX6_walk_57 : decode cX6_walk 57 = .ok (.iload_n 3, 1) := by decide +kernel
theorem dX6_walk_58 : decode cX6_walk 58 = .ok (.invokevirtual 56, 3) := by decide +kernel
theorem dX6_walk_61 : decode cX6_walk 61 = .ok (.isub, 1) := by decide +kernel
theorem dX6_walk_62 : decode cX6_walk 62 = .ok (.istore 4, 2) := by decide +kernel
theorem dX6_walk_64 : decode cX6_walk 64 = .ok (.iload_n 3, 1) := by decide +kernel
theorem dX6_walk_65 : decode cX6_walk 65 = .ok (.iconst 1, 1) := by decide +kernel
theorem dX6_walk_66 : decode cX6_walk 66 = .ok (.iload 6, 2) := by decide +kernel
theorem dX6_walk_68 : decode cX6_walk 68 = .ok (.ishl, 1) := by decide +kernel
theorem dX6_walk_69 : decode cX6_walk 69 = .ok (.ior, 1) := by decide +kernel
theorem dX6_walk_70 : decode cX6_walk 70 = .ok (.istore_n 3, 1) := by decide +kernel
theorem dX6_walk_71 : decode cX6_walk 71 = .ok (.iinc 5 1, 3) := by decide +kernel
theorem dX6_walk_74 : decode cX6_walk 74 = .ok (.goto (-63), 3) := by decide +kernel
theorem dX6_walk_77 : decode cX6_walk 77 = .ok (.return_, 1) := by decide +kernel
theorem dX6_firstWithin_0 : decode cX6_firstWithin 0 = .ok (.iconst 0, 1) := by decide +kernel
theorem dX6_firstWithin_1 : decode cX6_firstWithin 1 = .ok (.istore 5, 2) := by decide +kernel
theorem dX6_firstWithin_3 : decode cX6_firstWithin 3 = .ok (.iload 5, 2) := by decide +kernel
theorem dX6_firstWithin_5 : decode cX6_firstWithin 5 = .ok (.aload_n 1, 1) := by decide +kernel
theorem dX6_firstWithin_6 : decode cX6_firstWithin 6 = .ok (.getfield 53, 3) := by decide +kernel
theorem dX6_firstWithin_9 : decode cX6_firstWithin 9 = .ok (.if_icmp .ge 68, 3) := by decide +kernel
theorem dX6_firstWithin_12 : decode cX6_firstWithin 12 = .ok (.iload_n 2, 1) := by decide +kernel
theorem dX6_firstWithin_13 : decode cX6_firstWithin 13 = .ok (.iconst 1, 1) := by decide +kernel
theorem dX6_firstWithin_14 : decode cX6_firstWithin 14 = .ok (.iload 5, 2) := by decide +kernel
theorem dX6_firstWithin_16 : decode cX6_firstWithin 16 = .ok (.ishl, 1) := by decide +kernel
theorem dX6_firstWithin_17 : decode cX6_firstWithin 17 = .ok (.ior, 1) := by decide +kernel
theorem dX6_firstWithin_18 : decode cX6_firstWithin 18 = .ok (.istore 6, 2) := by decide +kernel
theorem dX6_firstWithin_20 : decode cX6_firstWithin 20 = .ok (.aload_n 1, 1) := by decide +kernel
theorem dX6_firstWithin_21 : decode cX6_firstWithin 21 = .ok (.getfield 50, 3) := by decide +kernel
theorem dX6_firstWithin_24 : decode cX6_firstWithin 24 = .ok (.iload_n 2, 1) := by decide +kernel
theorem dX6_firstWithin_25 : decode cX6_firstWithin 25 = .ok (.iaload, 1) := by decide +kernel
theorem dX6_firstWithin_26 : decode cX6_firstWithin 26 = .ok (.iload 5, 2) := by decide +kernel
theorem dX6_firstWithin_28 : decode cX6_firstWithin 28 = .ok (.ishr, 1) := by decide +kernel
theorem dX6_firstWithin_29 : decode cX6_firstWithin 29 = .ok (.iconst 1, 1) := by decide +kernel
theorem dX6_firstWithin_30 : decode cX6_firstWithin 30 = .ok (.iand, 1) := by decide +kernel
theorem dX6_firstWithin_31 : decode cX6_firstWithin 31 = .ok (.ifCond .eq 40, 3) := by decide +kernel
theorem dX6_firstWithin_34 : decode cX6_firstWithin 34 = .ok (.aload_n 0, 1) := by decide +kernel
theorem dX6_firstWithin_35 : decode cX6_firstWithin 35 = .ok (.getfield 18, 3) := by decide +kernel
theorem dX6_firstWithin_38 : decode cX6_firstWithin 38 = .ok (.iload 6, 2) := by decide +kernel
theorem dX6_firstWithin_40 : decode cX6_firstWithin 40 = .ok (.iaload, 1) := by decide +kernel
theorem dX6_firstWithin_41 : decode cX6_firstWithin 41 = .ok (.ifCond .le 30, 3) := by decide +kernel
theorem dX6_firstWithin_44 : decode cX6_firstWithin 44 = .ok (.aload_n 0, 1) := by decide +kernel
theorem dX6_firstWithin_45 : decode cX6_firstWithin 45 = .ok (.aload_n 1, 1) := by decide +kernel
theorem dX6_firstWithin_46 : decode cX6_firstWithin 46 = .ok (.iload 5, 2) := by decide +kernel
theorem dX6_firstWithin_48 : decode cX6_firstWithin 48 = .ok (.iload_n 2, 1) := by decide +kernel
theorem dX6_firstWithin_49 : decode cX6_firstWithin 49 = .ok (.invokevirtual 56, 3) := by decide +kernel
theorem dX6_firstWithin_52 : decode cX6_firstWithin 52 = .ok (.aload_n 0, 1) := by decide +kernel
theorem dX6_firstWithin_53 : decode cX6_firstWithin 53 = .ok (.getfield 15, 3) := by decide +kernel
theorem dX6_firstWithin_56 : decode cX6_firstWithin 56 = .ok (.iload 6, 2) := by decide +kernel
theorem dX6_firstWithin_58 : decode cX6_firstWithin 58 = .ok (.iaload, 1) := by decide +kernel
theorem dX6_firstWithin_59 : decode cX6_firstWithin 59 = .ok (.iload 4, 2) := by decide +kernel
theorem dX6_firstWithin_61 : decode cX6_firstWithin 61 = .ok (.invokestatic 60, 3) := by decide +kernel
theorem dX6_firstWithin_64 : decode cX6_firstWithin 64 = .ok (.iload_n 3, 1) := by decide +kernel
theorem dX6_firstWithin_65 : decode cX6_firstWithin 65 = .ok (.if_icmp .gt 6, 3) := by decide +kernel
theorem dX6_firstWithin_68 : decode cX6_firstWithin 68 = .ok (.iload 5, 2) := by decide +kernel
theorem dX6_firstWithin_70 : decode cX6_firstWithin 70 = .ok (.ireturn, 1) := by decide +kernel
theorem dX6_firstWithin_71 : decode cX6_firstWithin 71 = .ok (.iinc 5 1, 3) := by decide +kernel
theorem dX6_firstWithin_74 : decode cX6_firstWithin 74 = .ok (.goto (-71), 3) := by decide +kernel
theorem dX6_firstWithin_77 : decode cX6_firstWithin 77 = .ok (.iconst (-1), 1) := by decide +kernel
theorem dX6_firstWithin_78 : decode cX6_firstWithin 78 = .ok (.ireturn, 1) := by decide +kernel
theorem dX6_costOf_0 : decode cX6_costOf 0 = .ok (.iconst 0, 1) := by decide +kernel
theorem dX6_costOf_1 : decode cX6_costOf 1 = .ok (.aload_n 1, 1) := by decide +kernel
theorem dX6_costOf_2 : decode cX6_costOf 2 = .ok (.iload_n 2, 1) := by decide +kernel
theorem dX6_costOf_3 : decode cX6_costOf 3 = .ok (.iload_n 3, 1) := by decide +kernel
theorem dX6_costOf_4 : decode cX6_costOf 4 = .ok (.invokevirtual 68, 3) := by decide +kernel
theorem dX6_costOf_7 : decode cX6_costOf 7 = .ok (.bipush 20, 2) := by decide +kernel
theorem dX6_costOf_9 : decode cX6_costOf 9 = .ok (.invokestatic 72, 3) := by decide +kernel
theorem dX6_costOf_12 : decode cX6_costOf 12 = .ok (.invokestatic 77, 3) := by decide +kernel
theorem dX6_costOf_15 : decode cX6_costOf 15 = .ok (.istore 4, 2) := by decide +kernel
theorem dX6_costOf_17 : decode cX6_costOf 17 = .ok (.aload_n 0, 1) := by decide +kernel
theorem dX6_costOf_18 : decode cX6_costOf 18 = .ok (.getfield 9, 3) := by decide +kernel
theorem dX6_costOf_21 : decode cX6_costOf 21 = .ok (.iload_n 2, 1) := by decide +kernel
theorem dX6_costOf_22 : decode cX6_costOf 22 = .ok (.bipush 21, 2) := by decide +kernel
theorem dX6_costOf_24 : decode cX6_costOf 24 = .ok (.imul, 1) := by decide +kernel
theorem dX6_costOf_25 : decode cX6_costOf 25 = .ok (.iload 4, 2) := by decide +kernel
theorem dX6_costOf_27 : decode cX6_costOf 27 = .ok (.iadd, 1) := by decide +kernel
theorem dX6_costOf_28 : decode cX6_costOf 28 = .ok (.iaload, 1) := by decide +kernel
theorem dX6_costOf_29 : decode cX6_costOf 29 = .ok (.ireturn, 1) := by decide +kernel
theorem dX6_together_0 : decode cX6_together 0 = .ok (.iload_n 2, 1) := by decide +kernel
theorem dX6_together_1 : decode cX6_together 1 = .ok (.ifCond .eq 11, 3) := by decide +kernel
theorem dX6_together_4 : decode cX6_together 4 = .ok (.iload_n 0, 1) := by decide +kernel
theorem dX6_together_5 : decode cX6_together 5 = .ok (.iload_n 1, 1) := by decide +kernel
theorem dX6_together_6 : decode cX6_together 6 = .ok (.invokestatic 77, 3) := by decide +kernel
theorem dX6_together_9 : decode cX6_together 9 = .ok (.goto 6, 3) := by decide +kernel
theorem dX6_together_12 : decode cX6_together 12 = .ok (.iload_n 0, 1) := by decide +kernel
theorem dX6_together_13 : decode cX6_together 13 = .ok (.iload_n 1, 1) := by decide +kernel
theorem dX6_together_14 : decode cX6_together 14 = .ok (.iadd, 1) := by decide +kernel
theorem dX6_together_15 : decode cX6_together 15 = .ok (.ireturn, 1) := by decide +kernel
theorem dX8_init_0 : decode cX8_init 0 = .ok (.aload_n 0, 1) := by decide +kernel
theorem dX8_init_1 : decode cX8_init 1 = .ok (.invokespecial 3, 3) := by decide +kernel
theorem dX8_init_4 : decode cX8_init 4 = .ok (.aload_n 0, 1) := by decide +kernel
theorem dX8_init_5 : decode cX8_init 5 = .ok (.sipush 400, 3) := by decide +kernel
theorem dX8_init_8 : decode cX8_init 8 = .ok (.newarray .int, 2) := by decide +kernel
theorem dX8_init_10 : decode cX8_init 10 = .ok (.putfield 9, 3) := by decide +kernel
theorem dX8_init_13 : decode cX8_init 13 = .ok (.aload_n 0, 1) := by decide +kernel
theorem dX8_init_14 : decode cX8_init 14 = .ok (.sipush 512, 3) := by decide +kernel
theorem dX8_init_17 : decode cX8_init 17 = .ok (.newarray .int, 2) := by decide +kernel
theorem dX8_init_19 : decode cX8_init 19 = .ok (.putfield 15, 3) := by decide +kernel
theorem dX8_init_22 : decode cX8_init 22 = .ok (.aload_n 0, 1) := by decide +kernel
theorem dX8_init_23 : decode cX8_init 23 = .ok (.bipush 48, 2) := by decide +kernel
theorem dX8_init_25 : decode cX8_init 25 = .ok (.newarray .int, 2) := by decide +kernel
theorem dX8_init_27 : decode cX8_init 27 = .ok (.putfield 20, 3) := by decide +kernel
theorem dX8_init_30 : decode cX8_init 30 = .ok (.aload_n 0, 1) := by decide +kernel
theorem dX8_init_31 : decode cX8_init 31 = .ok (.iconst (-1), 1) := by decide +kernel
theorem dX8_init_32 : decode cX8_init 32 = .ok (.putfield 23, 3) := by decide +kernel
theorem dX8_init_35 : decode cX8_init 35 = .ok (.return_, 1) := by decide +kernel
theorem dX8_add_0 : decode cX8_add 0 = .ok (.bipush 24, 2) := by decide +kernel
theorem dX8_add_2 : decode cX8_add 2 = .ok (.istore_n 2, 1) := by decide +kernel
theorem dX8_add_3 : decode cX8_add 3 = .ok (.iload_n 2, 1) := by decide +kernel
theorem dX8_add_4 : decode cX8_add 4 = .ok (.ifCond .lt 45, 3) := by decide +kernel
theorem dX8_add_7 : decode cX8_add 7 = .ok (.aload_n 0, 1) := by decide +kernel
theorem dX8_add_8 : decode cX8_add 8 = .ok (.getfield 27, 3) := by decide +kernel
theorem dX8_add_11 : decode cX8_add 11 = .ok (.sipush 400, 3) := by decide +kernel
theorem dX8_add_14 : decode cX8_add 14 = .ok (.if_icmp .ge 35, 3) := by decide +kernel
theorem dX8_add_17 : decode cX8_add 17 = .ok (.aload_n 0, 1) := by decide +kernel
theorem dX8_add_18 : decode cX8_add 18 = .ok (.getfield 9, 3) := by decide +kernel
theorem dX8_add_21 : decode cX8_add 21 = .ok (.aload_n 0, 1) := by decide +kernel
theorem dX8_add_22 : decode cX8_add 22 = .ok (.getfield 27, 3) := by decide +kernel
theorem dX8_add_25 : decode cX8_add 25 = .ok (.iload_n 1, 1) := by decide +kernel
theorem dX8_add_26 : decode cX8_add 26 = .ok (.iload_n 2, 1) := by decide +kernel
theorem dX8_add_27 : decode cX8_add 27 = .ok (.iushr, 1) := by decide +kernel
theorem dX8_add_28 : decode cX8_add 28 = .ok (.sipush 255, 3) := by decide +kernel
theorem dX8_add_31 : decode cX8_add 31 = .ok (.iand, 1) := by decide +kernel
theorem dX8_add_32 : decode cX8_add 32 = .ok (.iastore, 1) := by decide +kernel
theorem dX8_add_33 : decode cX8_add 33 = .ok (.aload_n 0, 1) := by decide +kernel
theorem dX8_add_34 : decode cX8_add 34 = .ok (.dup, 1) := by decide +kernel
theorem dX8_add_35 : decode cX8_add 35 = .ok (.getfield 27, 3) := by decide +kernel
theorem dX8_add_38 : decode cX8_add 38 = .ok (.iconst 1, 1) := by decide +kernel
theorem dX8_add_39 : decode cX8_add 39 = .ok (.iadd, 1) := by decide +kernel
theorem dX8_add_40 : decode cX8_add 40 = .ok (.putfield 27, 3) := by decide +kernel
theorem dX8_add_43 : decode cX8_add 43 = .ok (.iinc 2 (-8), 3) := by decide +kernel
theorem dX8_add_46 : decode cX8_add 46 = .ok (.goto (-43), 3) := by decide +kernel
theorem dX8_add_49 : decode cX8_add 49 = .ok (.return_, 1) := by decide +kernel
theorem dX8_readLaw_0 : decode cX8_readLaw 0 = .ok (.aload_n 0, 1) := by decide +kernel
theorem dX8_readLaw_1 : decode cX8_readLaw 1 = .ok (.iconst (-1), 1) := by decide +kernel
theorem dX8_readLaw_2 : decode cX8_readLaw 2 = .ok (.putfield 23, 3) := by decide +kernel
theorem dX8_readLaw_5 : decode cX8_readLaw 5 = .ok (.aload_n 0, 1) := by decide +kernel
theorem dX8_readLaw_6 : decode cX8_readLaw 6 = .ok (.iconst 0, 1) := by decide +kernel
theorem dX8_readLaw_7 : decode cX8_readLaw 7 = .ok (.putfield 30, 3) := by decide +kernel
theorem dX8_readLaw_10 : decode cX8_readLaw 10 = .ok (.aload_n 0, 1) := by decide +kernel
theorem dX8_readLaw_11 : decode cX8_readLaw 11 = .ok (.iconst 0, 1) := by decide +kernel
theorem dX8_readLaw_12 : decode cX8_readLaw 12 = .ok (.putfield 33, 3) := by decide +kernel
theorem dX8_readLaw_15 : decode cX8_readLaw 15 = .ok (.aload_n 0, 1) := by decide +kernel
theorem dX8_readLaw_16 : decode cX8_readLaw 16 = .ok (.iconst 0, 1) := by decide +kernel
theorem dX8_readLaw_17 : decode cX8_readLaw 17 = .ok (.putfield 36, 3) := by decide +kernel
theorem dX8_readLaw_20 : decode cX8_readLaw 20 = .ok (.aload_n 0, 1) := by decide +kernel
theorem dX8_readLaw_21 : decode cX8_readLaw 21 = .ok (.iconst 0, 1) := by decide +kernel
theorem dX8_readLaw_22 : decode cX8_readLaw 22 = .ok (.putfield 40, 3) := by decide +kernel
theorem dX8_readLaw_25 : decode cX8_readLaw 25 = .ok (.aload_n 0, 1) := by decide +kernel
theorem dX8_readLaw_26 : decode cX8_readLaw 26 = .ok (.invokevirtual 43, 3) := by decide +kernel
theorem dX8_readLaw_29 : decode cX8_readLaw 29 = .ok (.aload_n 0, 1) := by decide +kernel
theorem dX8_readLaw_30 : decode cX8_readLaw 30 = .ok (.invokevirtual 46, 3) := by decide +kernel
theorem dX8_readLaw_33 : decode cX8_readLaw 33 = .ok (.istore_n 1, 1) := by decide +kernel
theorem dX8_readLaw_34 : decode cX8_readLaw 34 = .ok (.iload_n 1, 1) := by decide +kernel
theorem dX8_readLaw_35 : decode cX8_readLaw 35 = .ok (.ifCond .ne 5, 3) := by decide +kernel
theorem dX8_readLaw_38 : decode cX8_readLaw 38 = .ok (.aconst_null, 1) := by decide +kernel
theorem dX8_readLaw_39 : decode cX8_readLaw 39 = .ok (.areturn, 1) := by decide +kernel
theorem dX8_readLaw_40 : decode cX8_readLaw 40 = .ok (.aload_n 0, 1) := by decide +kernel
theorem dX8_readLaw_41 : decode cX8_readLaw 41 = .ok (.getfield 15, 3) := by decide +kernel
theorem dX8_readLaw_44 : decode cX8_readLaw 44 = .ok (.aload_n 0, 1) := by decide +kernel
theorem dX8_readLaw_45 : decode cX8_readLaw 45 = .ok (.getfield 30, 3) := by decide +kernel
theorem dX8_readLaw_48 : decode cX8_readLaw 48 = .ok (.invokestatic 50, 3) := by decide +kernel
theorem dX8_readLaw_51 : decode cX8_readLaw 51 = .ok (.astore_n 2, 1) := by decide +kernel
theorem dX8_readLaw_52 : decode cX8_readLaw 52 = .ok (.aload_n 0, 1) := by decide +kernel
theorem dX8_readLaw_53 : decode cX8_readLaw 53 = .ok (.getfield 20, 3) := by decide +kernel
theorem dX8_readLaw_56 : decode cX8_readLaw 56 = .ok (.iload_n 1, 1) := by decide +kernel
theorem dX8_readLaw_57 : decode cX8_readLaw 57 = .ok (.iconst 4, 1) := by decide +kernel
theorem dX8_readLaw_58 : decode cX8_readLaw 58 = .ok (.imul, 1) := by decide +kernel
theorem dX8_readLaw_59 : decode cX8_readLaw 59 = .ok (.invokestatic 50, 3) := by decide +kernel
theorem dX8_readLaw_62 : decode cX8_readLaw 62 = .ok (.astore_n 3, 1) := by decide +kernel
theorem dX8_readLaw_63 : decode cX8_readLaw 63 = .ok (.new 18, 3) := by decide +kernel
theorem dX8_readLaw_66 : decode cX8_readLaw 66 = .ok (.dup, 1) := by decide +kernel
theorem dX8_readLaw_67 : decode cX8_readLaw 67 = .ok (.aload_n 2, 1) := by decide +kernel
theorem dX8_readLaw_68 : decode cX8_readLaw 68 = .ok (.aload_n 3, 1) := by decide +kernel
theorem dX8_readLaw_69 : decode cX8_readLaw 69 = .ok (.iload_n 1, 1) := by decide +kernel
theorem dX8_readLaw_70 : decode cX8_readLaw 70 = .ok (.aload_n 0, 1) := by decide +kernel
theorem dX8_readLaw_71 : decode cX8_readLaw 71 = .ok (.getfield 36, 3) := by decide +kernel
theorem dX8_readLaw_74 : decode cX8_readLaw 74 = .ok (.invokespecial 56, 3) := by decide +kernel
theorem dX8_readLaw_77 : decode cX8_readLaw 77 = .ok (.areturn, 1) := by decide +kernel
theorem dX8_readClauses_0 : decode cX8_readClauses 0 = .ok (.iconst 0, 1) := by decide +kernel
theorem dX8_readClauses_1 : decode cX8_readClauses 1 = .ok (.istore_n 1, 1) := by decide +kernel
theorem dX8_readClauses_2 : decode cX8_readClauses 2 = .ok (.iload_n 1, 1) := by decide +kernel
theorem dX8_readClauses_3 : decode cX8_readClauses 3 = .ok (.bipush 12, 2) := by decide +kernel
theorem dX8_readClauses_5 : decode cX8_readClauses 5 = .ok (.if_icmp .ge 55, 3) := by decide +kernel
theorem dX8_readClauses_8 : decode cX8_readClauses 8 = .ok (.aload_n 0, 1) := by decide +kernel
theorem dX8_readClauses_9 : decode cX8_readClauses 9 = .ok (.iload_n 1, 1) := by decide +kernel
theorem dX8_readClauses_10 : decode cX8_readClauses 10 = .ok (.iconst 4, 1) := by decide +kernel
theorem dX8_readClauses_11 : decode cX8_readClauses 11 = .ok (.imul, 1) := by decide +kernel
theorem dX8_readClauses_12 : decode cX8_readClauses 12 = .ok (.invokevirtual 59, 3) := by decide +kernel
theorem dX8_readClauses_15 : decode cX8_readClauses 15 = .ok (.ifCond .ne 5, 3) := by decide +kernel
theorem dX8_readClauses_18 : decode cX8_readClauses 18 = .ok (.iconst 0, 1) := by decide +kernel
theorem dX8_readClauses_19 : decode cX8_readClauses 19 = .ok (.ireturn, 1) := by decide +kernel
theorem dX8_readClauses_20 : decode cX8_readClauses 20 = .ok (.aload_n 0, 1) := by decide +kernel
theorem dX8_readClauses_21 : decode cX8_readClauses 21 = .ok (.getfield 63, 3) := by decide +kernel
theorem dX8_readClauses_24 : decode cX8_readClauses 24 = .ok (.sipush 256, 3) := by decide +kernel
theorem dX8_readClauses_27 : decode cX8_readClauses 27 = .ok (.if_icmp .ne 7, 3) := by decide +kernel
theorem dX8_readClauses_30 : decode cX8_readClauses 30 = .ok (.iload_n 1, 1) := by decide +kernel
theorem dX8_readClauses_31 : decode cX8_readClauses 31 = .ok (.iconst 1, 1) := by decide +kernel
theorem dX8_readClauses_32 : decode cX8_readClauses 32 = .ok (.iadd, 1) := by decide +kernel
theorem dX8_readClauses_33 : decode cX8_readClauses 33 = .ok (.ireturn, 1) := by decide +kernel
theorem dX8_readClauses_34 : decode cX8_readClauses 34 = .ok (.aload_n 0, 1) := by decide +kernel
theorem dX8_readClauses_35 : decode cX8_readClauses 35 = .ok (.getfield 63, 3) := by decide +kernel
theorem dX8_readClauses_38 : decode cX8_readClauses 38 = .ok (.bipush 59, 2) := by decide +kernel
theorem dX8_readClauses_40 : decode cX8_readClauses 40 = .ok (.if_icmp .eq 10, 3) := by decide +kernel
theorem dX8_readClauses_43 : decode cX8_readClauses 43 = .ok (.aload_n 0, 1) := by decide +kernel
theorem dX8_readClauses_44 : decode cX8_readClauses 44 = .ok (.invokevirtual 66, 3) := by decide +kernel
theorem dX8_readClauses_47 : decode cX8_readClauses 47 = .ok (.pop, 1) := by decide +kernel
theorem dX8_readClauses_48 : decode cX8_readClauses 48 = .ok (.iconst 0, 1) := by decide +kernel
theorem dX8_readClauses_49 : decode cX8_readClauses 49 = .ok (.ireturn, 1) := by decide +kernel
theorem dX8_readClauses_50 : decode cX8_readClauses 50 = .ok (.aload_n 0, 1) := by decide +kernel
theorem dX8_readClauses_51 : decode cX8_readClauses 51 = .ok (.invokevirtual 43, 3) := by decide +kernel
theorem dX8_readClauses_54 : decode cX8_readClauses 54 = .ok (.iinc 1 1, 3) := by decide +kernel
theorem dX8_readClauses_57 : decode cX8_readClauses 57 = .ok (.goto (-55), 3) := by decide +kernel
theorem dX8_readClauses_60 : decode cX8_readClauses 60 = .ok (.aload_n 0, 1) := by decide +kernel
theorem dX8_readClauses_61 : decode cX8_readClauses 61 = .ok (.invokevirtual 66, 3) := by decide +kernel
theorem dX8_readClauses_64 : decode cX8_readClauses 64 = .ok (.pop, 1) := by decide +kernel
theorem dX8_readClauses_65 : decode cX8_readClauses 65 = .ok (.iconst 0, 1) := by decide +kernel
theorem dX8_readClauses_66 : decode cX8_readClauses 66 = .ok (.ireturn, 1) := by decide +kernel
theorem dX8_readClause_0 : decode cX8_readClause 0 = .ok (.aload_n 0, 1) := by decide +kernel
theorem dX8_readClause_1 : decode cX8_readClause 1 = .ok (.getfield 63, 3) := by decide +kernel
theorem dX8_readClause_4 : decode cX8_readClause 4 = .ok (.sipush 259, 3) := by decide +kernel
theorem dX8_readClause_7 : decode cX8_readClause 7 = .ok (.if_icmp .ne 7, 3) := by decide +kernel
theorem dX8_readClause_10 : decode cX8_readClause 10 = .ok (.iconst 1, 1) := by decide +kernel
theorem dX8_readClause_11 : decode cX8_readClause 11 = .ok (.goto 4, 3) := by decide +kernel
theorem dX8_readClause_14 : decode cX8_readClause 14 = .ok (.iconst 0, 1) := by decide +kernel
theorem dX8_readClause_15 : decode cX8_readClause 15 = .ok (.istore_n 2, 1) := by decide +kernel
theorem dX8_readClause_16 : decode cX8_readClause 16 = .ok (.iload_n 2, 1) := by decide +kernel
theorem dX8_readClause_17 : decode cX8_readClause 17 = .ok (.ifCond .ne 18, 3) := by decide +kernel
theorem dX8_readClause_20 : decode cX8_readClause 20 = .ok (.aload_n 0, 1) := by decide +kernel
theorem dX8_readClause_21 : decode cX8_readClause 21 = .ok (.getfield 63, 3) := by decide +kernel
theorem dX8_readClause_24 : decode cX8_readClause 24 = .ok (.sipush 260, 3) := by decide +kernel
theorem dX8_readClause_27 : decode cX8_readClause 27 = .ok (.if_icmp .eq 8, 3) := by decide +kernel
theorem dX8_readClause_30 : decode cX8_readClause 30 = .ok (.aload_n 0, 1) := by decide +kernel
theorem dX8_readClause_31 : decode cX8_readClause 31 = .ok (.invokevirtual 66, 3) := by decide +kernel
theorem dX8_readClause_34 : decode cX8_readClause 34 = .ok (.ireturn, 1) := by decide +kernel
theorem dX8_readClause_35 : decode cX8_readClause 35 = .ok (.aload_n 0, 1) := by decide +kernel
theorem dX8_readClause_36 : decode cX8_readClause 36 = .ok (.invokevirtual 43, 3) := by decide +kernel
theorem dX8_readClause_39 : decode cX8_readClause 39 = .ok (.aload_n 0, 1) := by decide +kernel
theorem dX8_readClause_40 : decode cX8_readClause 40 = .ok (.getfield 20, 3) := by decide +kernel
theorem dX8_readClause_43 : decode cX8_readClause 43 = .ok (.iload_n 1, 1) := by decide +kernel
theorem dX8_readClause_44 : decode cX8_readClause 44 = .ok (.iconst 0, 1) := by decide +kernel
theorem dX8_readClause_45 : decode cX8_readClause 45 = .ok (.iadd, 1) := by decide +kernel
theorem dX8_readClause_46 : decode cX8_readClause 46 = .ok (.iload_n 2, 1) := by decide +kernel
theorem dX8_readClause_47 : decode cX8_readClause 47 = .ok (.ifCond .eq 7, 3) := by decide +kernel
theorem dX8_readClause_50 : decode cX8_readClause 50 = .ok (.iconst 1, 1) := by decide +kernel
theorem dX8_readClause_51 : decode cX8_readClause 51 = .ok (.goto 4, 3) := by decide +kernel
theorem dX8_readClause_54 : decode cX8_readClause 54 = .ok (.iconst 0, 1) := by decide +kernel
theorem dX8_readClause_55 : decode cX8_readClause 55 = .ok (.iastore, 1) := by decide +kernel
theorem dX8_readClause_56 : decode cX8_readClause 56 = .ok (.aload_n 0, 1) := by decide +kernel
theorem dX8_readClause_57 : decode cX8_readClause 57 = .ok (.getfield 20, 3) := by decide +kernel
theorem dX8_readClause_60 : decode cX8_readClause 60 = .ok (.iload_n 1, 1) := by decide +kernel
theorem dX8_readClause_61 : decode cX8_readClause 61 = .ok (.iconst 1, 1) := by decide +kernel
theorem dX8_readClause_62 : decode cX8_readClause 62 = .ok (.iadd, 1) := by decide +kernel
theorem dX8_readClause_63 : decode cX8_readClause 63 = .ok (.aload_n 0, 1) := by decide +kernel
theorem dX8_readClause_64 : decode cX8_readClause 64 = .ok (.getfield 30, 3) := by decide +kernel
theorem dX8_readClause_67 : decode cX8_readClause 67 = .ok (.iastore, 1) := by decide +kernel
theorem dX8_readClause_68 : decode cX8_readClause 68 = .ok (.iload_n 2, 1) := by decide +kernel
theorem dX8_readClause_69 : decode cX8_readClause 69 = .ok (.ifCond .eq 13, 3) := by decide +kernel
theorem dX8_readClause_72 : decode cX8_readClause 72 = .ok (.aload_n 0, 1) := by decide +kernel
theorem dX8_readClause_73 : decode cX8_readClause 73 = .ok (.iconst 0, 1) := by decide +kernel
theorem dX8_readClause_74 : decode cX8_readClause 74 = .ok (.invokevirtual 70, 3) := by decide +kernel
theorem dX8_readClause_77 : decode cX8_readClause 77 = .ok (.ifCond .ne 5, 3) := by decide +kernel
theorem dX8_readClause_80 : decode cX8_readClause 80 = .ok (.iconst 0, 1) := by decide +kernel
theorem dX8_readClause_81 : decode cX8_readClause 81 = .ok (.ireturn, 1) := by decide +kernel
theorem dX8_readClause_82 : decode cX8_readClause 82 = .ok (.aload_n 0, 1) := by decide +kernel
theorem dX8_readClause_83 : decode cX8_readClause 83 = .ok (.getfield 20, 3) := by decide +kernel
theorem dX8_readClause_86 : decode cX8_readClause 86 = .ok (.iload_n 1, 1) := by decide +kernel
theorem dX8_readClause_87 : decode cX8_readClause 87 = .ok (.iconst 2, 1) := by decide +kernel
theorem dX8_readClause_88 : decode cX8_readClause 88 = .ok (.iadd, 1) := by decide +kernel
theorem dX8_readClause_89 : decode cX8_readClause 89 = .ok (.aload_n 0, 1) := by decide +kernel
theorem dX8_readClause_90 : decode cX8_readClause 90 = .ok (.getfield 30, 3) := by decide +kernel
theorem dX8_readClause_93 : decode cX8_readClause 93 = .ok (.iastore, 1) := by decide +kernel
theorem dX8_readClause_94 : decode cX8_readClause 94 = .ok (.aload_n 0, 1) := by decide +kernel
theorem dX8_readClause_95 : decode cX8_readClause 95 = .ok (.getfield 63, 3) := by decide +kernel
theorem dX8_readClause_98 : decode cX8_readClause 98 = .ok (.sipush 261, 3) := by decide +kernel
theorem dX8_readClause_101 : decode cX8_readClause 101 = .ok (.if_icmp .ne 17, 3) := by decide +kernel
theorem dX8_readClause_104 : decode cX8_readClause 104 = .ok (.aload_n 0, 1) := by decide +kernel
theorem dX8_readClause_105 : decode cX8_readClause 105 = .ok (.invokevirtual 43, 3) := by decide +kernel
theorem dX8_readClause_108 : decode cX8_readClause 108 = .ok (.aload_n 0, 1) := by decide +kernel
theorem dX8_readClause_109 : decode cX8_readClause 109 = .ok (.iconst 0, 1) := by decide +kernel
theorem dX8_readClause_110 : decode cX8_readClause 110 = .ok (.invokevirtual 73, 3) := by decide +kernel
theorem dX8_readClause_113 : decode cX8_readClause 113 = .ok (.ifCond .ne 5, 3) := by decide +kernel
theorem dX8_readClause_116 : decode cX8_readClause 116 = .ok (.iconst 0, 1) := by decide +kernel
theorem dX8_readClause_117 : decode cX8_readClause 117 = .ok (.ireturn, 1) := by decide +kernel
theorem dX8_readClause_118 : decode cX8_readClause 118 = .ok (.aload_n 0, 1) := by decide +kernel
theorem dX8_readClause_119 : decode cX8_readClause 119 = .ok (.getfield 20, 3) := by decide +kernel
theorem dX8_readClause_122 : decode cX8_readClause 122 = .ok (.iload_n 1, 1) := by decide +kernel
theorem dX8_readClause_123 : decode cX8_readClause 123 = .ok (.iconst 3, 1) := by decide +kernel
theorem dX8_readClause_124 : decode cX8_readClause 124 = .ok (.iadd, 1) := by decide +kernel
theorem dX8_readClause_125 : decode cX8_readClause 125 = .ok (.aload_n 0, 1) := by decide +kernel
theorem dX8_readClause_126 : decode cX8_readClause 126 = .ok (.getfield 30, 3) := by decide +kernel
theorem dX8_readClause_129 : decode cX8_readClause 129 = .ok (.iastore, 1) := by decide +kernel
theorem dX8_readClause_130 : decode cX8_readClause 130 = .ok (.iconst 1, 1) := by decide +kernel
theorem dX8_readClause_131 : decode cX8_readClause 131 = .ok (.ireturn, 1) := by decide +kernel
theorem dX8_readTest_0 : decode cX8_readTest 0 = .ok (.aload_n 0, 1) := by decide +kernel
theorem dX8_readTest_1 : decode cX8_readTest 1 = .ok (.iload_n 1, 1) := by decide +kernel
theorem dX8_readTest_2 : decode cX8_readTest 2 = .ok (.invokevirtual 76, 3) := by decide +kernel
theorem dX8_readTest_5 : decode cX8_readTest 5 = .ok (.ifCond .ne 5, 3) := by decide +kernel
theorem dX8_readTest_8 : decode cX8_readTest 8 = .ok (.iconst 0, 1) := by decide +kernel
theorem dX8_readTest_9 : decode cX8_readTest 9 = .ok (.ireturn, 1) := by decide +kernel
theorem dX8_readTest_10 : decode cX8_readTest 10 = .ok (.iconst 0, 1) := by decide +kernel
theorem dX8_readTest_11 : decode cX8_readTest 11 = .ok (.istore_n 2, 1) := by decide +kernel
theorem dX8_readTest_12 : decode cX8_readTest 12 = .ok (.iload_n 2, 1) := by decide +kernel
theorem dX8_readTest_13 : decode cX8_readTest 13 = .ok (.sipush 400, 3) := by decide +kernel
theorem dX8_readTest_16 : decode cX8_readTest 16 = .ok (.if_icmp .ge 46, 3) := by decide +kernel
theorem dX8_readTest_19 : decode cX8_readTest 19 = .ok (.aload_n 0, 1) := by decide +kernel
theorem dX8_readTest_20 : decode cX8_readTest 20 = .ok (.getfield 63, 3) := by decide +kernel
theorem dX8_readTest_23 : decode cX8_readTest 23 = .ok (.sipush 262, 3) := by decide +kernel
theorem dX8_readTest_26 : decode cX8_readTest 26 = .ok (.if_icmp .ne 36, 3) := by decide +kernel
theorem dX8_readTest_29 : decode cX8_readTest 29 = .ok (.aload_n 0, 1) := by decide +kernel
theorem dX8_readTest_30 : decode cX8_readTest 30 = .ok (.invokevirtual 43, 3) := by decide +kernel
theorem dX8_readTest_33 : decode cX8_readTest 33 = .ok (.aload_n 0, 1) := by decide +kernel
theorem dX8_readTest_34 : decode cX8_readTest 34 = .ok (.bipush 10, 2) := by decide +kernel
theorem dX8_readTest_36 : decode cX8_readTest 36 = .ok (.iconst 0, 1) := by decide +kernel
theorem dX8_readTest_37 : decode cX8_readTest 37 = .ok (.invokevirtual 81, 3) := by decide +kernel
theorem dX8_readTest_40 : decode cX8_readTest 40 = .ok (.istore_n 3, 1) := by decide +kernel
theorem dX8_readTest_41 : decode cX8_readTest 41 = .ok (.aload_n 0, 1) := by decide +kernel
theorem dX8_readTest_42 : decode cX8_readTest 42 = .ok (.iload_n 1, 1) := by decide +kernel
theorem dX8_readTest_43 : decode cX8_readTest 43 = .ok (.invokevirtual 76, 3) := by decide +kernel
theorem dX8_readTest_46 : decode cX8_readTest 46 = .ok (.ifCond .ne 5, 3) := by decide +kernel
theorem dX8_readTest_49 : decode cX8_readTest 49 = .ok (.iconst 0, 1) := by decide +kernel
theorem dX8_readTest_50 : decode cX8_readTest 50 = .ok (.ireturn, 1) := by decide +kernel
theorem dX8_readTest_51 : decode cX8_readTest 51 = .ok (.aload_n 0, 1) := by decide +kernel
theorem dX8_readTest_52 : decode cX8_readTest 52 = .ok (.iload_n 3, 1) := by decide +kernel
theorem dX8_readTest_53 : decode cX8_readTest 53 = .ok (.invokevirtual 85, 3) := by decide +kernel
theorem dX8_readTest_56 : decode cX8_readTest 56 = .ok (.iinc 2 1, 3) := by decide +kernel
theorem dX8_readTest_59 : decode cX8_readTest 59 = .ok (.goto (-47), 3) := by decide +kernel
theorem dX8_readTest_62 : decode cX8_readTest 62 = .ok (.iconst 1, 1) := by decide +kernel
theorem dX8_readTest_63 : decode cX8_readTest 63 = .ok (.ireturn, 1) := by decide +kernel
theorem dX8_readBoth_0 : decode cX8_readBoth 0 = .ok (.aload_n 0, 1) := by decide +kernel
theorem dX8_readBoth_1 : decode cX8_readBoth 1 = .ok (.iload_n 1, 1) := by decide +kernel
theorem dX8_readBoth_2 : decode cX8_readBoth 2 = .ok (.invokevirtual 89, 3) := by decide +kernel
theorem dX8_readBoth_5 : decode cX8_readBoth 5 = .ok (.ifCond .ne 5, 3) := by decide +kernel
theorem dX8_readBoth_8 : decode cX8_readBoth 8 = .ok (.iconst 0, 1) := by decide +kernel
theorem dX8_readBoth_9 : decode cX8_readBoth 9 = .ok (.ireturn, 1) := by decide +kernel
theorem dX8_readBoth_10 : decode cX8_readBoth 10 = .ok (.iconst 0, 1) := by decide +kernel
theorem dX8_readBoth_11 : decode cX8_readBoth 11 = .ok (.istore_n 2, 1) := by decide +kernel
theorem dX8_readBoth_12 : decode cX8_readBoth 12 = .ok (.iload_n 2, 1) := by decide +kernel
theorem dX8_readBoth_13 : decode cX8_readBoth 13 = .ok (.sipush 400, 3) := by decide +kernel
theorem dX8_readBoth_16 : decode cX8_readBoth 16 = .ok (.if_icmp .ge 46, 3) := by decide +kernel
theorem dX8_readBoth_19 : decode cX8_readBoth 19 = .ok (.aload_n 0, 1) := by decide +kernel
theorem dX8_readBoth_20 : decode cX8_readBoth 20 = .ok (.getfield 63, 3) := by decide +kernel
theorem dX8_readBoth_23 : decode cX8_readBoth 23 = .ok (.sipush 263, 3) := by decide +kernel
theorem dX8_readBoth_26 : decode cX8_readBoth 26 = .ok (.if_icmp .ne 36, 3) := by decide +kernel
theorem dX8_readBoth_29 : decode cX8_readBoth 29 = .ok (.aload_n 0, 1) := by decide +kernel
theorem dX8_readBoth_30 : decode cX8_readBoth 30 = .ok (.invokevirtual 43, 3) := by decide +kernel
theorem dX8_readBoth_33 : decode cX8_readBoth 33 = .ok (.aload_n 0, 1) := by decide +kernel
theorem dX8_readBoth_34 : decode cX8_readBoth 34 = .ok (.bipush 11, 2) := by decide +kernel
theorem dX8_readBoth_36 : decode cX8_readBoth 36 = .ok (.iconst 0, 1) := by decide +kernel
theorem dX8_readBoth_37 : decode cX8_readBoth 37 = .ok (.invokevirtual 81, 3) := by decide +kernel
theorem dX8_readBoth_40 : decode cX8_readBoth 40 = .ok (.istore_n 3, 1) := by decide +kernel
theorem dX8_readBoth_41 : decode cX8_readBoth 41 = .ok (.aload_n 0, 1) := by decide +kernel
theorem dX8_readBoth_42 : decode cX8_readBoth 42 = .ok (.iload_n 1, 1) := by decide +kernel
theorem dX8_readBoth_43 : decode cX8_readBoth 43 = .ok (.invokevirtual 89, 3) := by decide +kernel
theorem dX8_readBoth_46 : decode cX8_readBoth 46 = .ok (.ifCond .ne 5, 3) := by decide +kernel
theorem dX8_readBoth_49 : decode cX8_readBoth 49 = .ok (.iconst 0, 1) := by decide +kernel
theorem dX8_readBoth_50 : decode cX8_readBoth 50 = .ok (.ireturn, 1) := by decide +kernel
theorem dX8_readBoth_51 : decode cX8_readBoth 51 = .ok (.aload_n 0, 1) := by decide +kernel
theorem dX8_readBoth_52 : decode cX8_readBoth 52 = .ok (.iload_n 3, 1) := by decide +kernel
theorem dX8_readBoth_53 : decode cX8_readBoth 53 = .ok (.invokevirtual 85, 3) := by decide +kernel
theorem dX8_readBoth_56 : decode cX8_readBoth 56 = .ok (.iinc 2 1, 3) := by decide +kernel
theorem dX8_readBoth_59 : decode cX8_readBoth 59 = .ok (.goto (-47), 3) := by decide +kernel
theorem dX8_readBoth_62 : decode cX8_readBoth 62 = .ok (.iconst 1, 1) := by decide +kernel
theorem dX8_readBoth_63 : decode cX8_readBoth 63 = .ok (.ireturn, 1) := by decide +kernel
theorem dX8_readPlain_0 : decode cX8_readPlain 0 = .ok (.iconst 0, 1) := by decide +kernel
theorem dX8_readPlain_1 : decode cX8_readPlain 1 = .ok (.istore_n 2, 1) := by decide +kernel
theorem dX8_readPlain_2 : decode cX8_readPlain 2 = .ok (.iconst 0, 1) := by decide +kernel
theorem dX8_readPlain_3 : decode cX8_readPlain 3 = .ok (.istore_n 3, 1) := by decide +kernel
theorem dX8_readPlain_4 : decode cX8_readPlain 4 = .ok (.iload_n 3, 1) := by decide +kernel
theorem dX8_readPlain_5 : decode cX8_readPlain 5 = .ok (.sipush 400, 3) := by decide +kernel
theorem dX8_readPlain_8 : decode cX8_readPlain 8 = .ok (.if_icmp .ge 33, 3) := by decide +kernel
theorem dX8_readPlain_11 : decode cX8_readPlain 11 = .ok (.aload_n 0, 1) := by decide +kernel
theorem dX8_readPlain_12 : decode cX8_readPlain 12 = .ok (.getfield 63, 3) := by decide +kernel
theorem dX8_readPlain_15 : decode cX8_readPlain 15 = .ok (.sipush 264, 3) := by decide +kernel
theorem dX8_readPlain_18 : decode cX8_readPlain 18 = .ok (.if_icmp .ne 23, 3) := by decide +kernel
theorem dX8_readPlain_21 : decode cX8_readPlain 21 = .ok (.iload_n 2, 1) := by decide +kernel
theorem dX8_readPlain_22 : decode cX8_readPlain 22 = .ok (.ifCond .ne 7, 3) := by decide +kernel
theorem dX8_readPlain_25 : decode cX8_readPlain 25 = .ok (.iconst 1, 1) := by decide +kernel
theorem dX8_readPlain_26 : decode cX8_readPlain 26 = .ok (.goto 4, 3) := by decide +kernel
theorem dX8_readPlain_29 : decode cX8_readPlain 29 = .ok (.iconst 0, 1) := by decide +kernel
theorem dX8_readPlain_30 : decode cX8_readPlain 30 = .ok (.istore_n 2, 1) := by decide +kernel
theorem dX8_readPlain_31 : decode cX8_readPlain 31 = .ok (.aload_n 0, 1) := by decide +kernel
theorem dX8_readPlain_32 : decode cX8_readPlain 32 = .ok (.invokevirtual 43, 3) := by decide +kernel
theorem dX8_readPlain_35 : decode cX8_readPlain 35 = .ok (.iinc 3 1, 3) := by decide +kernel
theorem dX8_readPlain_38 : decode cX8_readPlain 38 = .ok (.goto (-34), 3) := by decide +kernel
theorem dX8_readPlain_41 : decode cX8_readPlain 41 = .ok (.aload_n 0, 1) := by decide +kernel
theorem dX8_readPlain_42 : decode cX8_readPlain 42 = .ok (.getfield 63, 3) := by decide +kernel
theorem dX8_readPlain_45 : decode cX8_readPlain 45 = .ok (.bipush 40, 2) := by decide +kernel
theorem dX8_readPlain_47 : decode cX8_readPlain 47 = .ok (.if_icmp .ne 13, 3) := by decide +kernel
theorem dX8_readPlain_50 : decode cX8_readPlain 50 = .ok (.aload_n 0, 1) := by decide +kernel
theorem dX8_readPlain_51 : decode cX8_readPlain 51 = .ok (.iload_n 1, 1) := by decide +kernel
theorem dX8_readPlain_52 : decode cX8_readPlain 52 = .ok (.bipush 41, 2) := by decide +kernel
theorem dX8_readPlain_54 : decode cX8_readPlain 54 = .ok (.invokevirtual 92, 3) := by decide +kernel
theorem dX8_readPlain_57 : decode cX8_readPlain 57 = .ok (.goto 8, 3) := by decide +kernel
theorem dX8_readPlain_60 : decode cX8_readPlain 60 = .ok (.aload_n 0, 1) := by decide +kernel
theorem dX8_readPlain_61 : decode cX8_readPlain 61 = .ok (.iload_n 1, 1) := by decide +kernel
theorem dX8_readPlain_62 : decode cX8_readPlain 62 = .ok (.invokevirtual 96, 3) := by decide +kernel
theorem dX8_readPlain_65 : decode cX8_readPlain 65 = .ok (.istore_n 3, 1) := by decide +kernel
theorem dX8_readPlain_66 : decode cX8_readPlain 66 = .ok (.iload_n 3, 1) := by decide +kernel
theorem dX8_readPlain_67 : decode cX8_readPlain 67 = .ok (.ifCond .eq 15, 3) := by decide +kernel
theorem dX8_readPlain_70 : decode cX8_readPlain 70 = .ok (.iload_n 2, 1) := by decide +kernel
theorem dX8_readPlain_71 : decode cX8_readPlain 71 = .ok (.ifCond .eq 11, 3) := by decide +kernel
theorem dX8_readPlain_74 : decode cX8_readPlain 74 = .ok (.aload_n 0, 1) := by decide +kernel
theorem dX8_readPlain_75 : decode cX8_readPlain 75 = .ok (.bipush 9, 2) := by decide +kernel
theorem dX8_readPlain_77 : decode cX8_readPlain 77 = .ok (.iconst 0, 1) := by decide +kernel
theorem dX8_readPlain_78 : decode cX8_readPlain 78 = .ok (.invokevirtual 81, 3) := by decide +kernel
theorem dX8_readPlain_81 : decode cX8_readPlain 81 = .ok (.pop, 1) := by decide +kernel
theorem dX8_readPlain_82 : decode cX8_readPlain 82 = .ok (.iload_n 3, 1) := by decide +kernel
theorem dX8_readPlain_83 : decode cX8_readPlain 83 = .ok (.ireturn, 1) := by decide +kernel
theorem dX8_readComparison_0 : decode cX8_readComparison 0 = .ok (.aload_n 0, 1) := by decide +kernel
theorem dX8_readComparison_1 : decode cX8_readComparison 1 = .ok (.iload_n 1, 1) := by decide +kernel
theorem dX8_readComparison_2 : decode cX8_readComparison 2 = .ok (.invokevirtual 70, 3) := by decide +kernel
theorem dX8_readComparison_5 : decode cX8_readComparison 5 = .ok (.ifCond .ne 5, 3) := by decide +kernel
theorem dX8_readComparison_8 : decode cX8_readComparison 8 = .ok (.iconst 0, 1) := by decide +kernel
theorem dX8_readComparison_9 : decode cX8_readComparison 9 = .ok (.ireturn, 1) := by decide +kernel
theorem dX8_readComparison_10 : decode cX8_readComparison 10 = .ok (.aload_n 0, 1) := by decide +kernel
theorem dX8_readComparison_11 : decode cX8_readComparison 11 = .ok (.getfield 63, 3) := by decide +kernel
theorem dX8_readComparison_14 : decode cX8_readComparison 14 = .ok (.bipush 60, 2) := by decide +kernel
theorem dX8_readComparison_16 : decode cX8_readComparison 16 = .ok (.if_icmp .ne 8, 3) := by decide +kernel
theorem dX8_readComparison_19 : decode cX8_readComparison 19 = .ok (.bipush 6, 2) := by decide +kernel
theorem dX8_readComparison_21 : decode cX8_readComparison 21 = .ok (.goto 19, 3) := by decide +kernel
theorem dX8_readComparison_24 : decode cX8_readComparison 24 = .ok (.aload_n 0, 1) := by decide +kernel
theorem dX8_readComparison_25 : decode cX8_readComparison 25 = .ok (.getfield 63, 3) := by decide +kernel
theorem dX8_readComparison_28 : decode cX8_readComparison 28 = .ok (.bipush 62, 2) := by decide +kernel
theorem dX8_readComparison_30 : decode cX8_readComparison 30 = .ok (.if_icmp .ne 8, 3) := by decide +kernel
theorem dX8_readComparison_33 : decode cX8_readComparison 33 = .ok (.bipush 7, 2) := by decide +kernel
theorem dX8_readComparison_35 : decode cX8_readComparison 35 = .ok (.goto 5, 3) := by decide +kernel
theorem dX8_readComparison_38 : decode cX8_readComparison 38 = .ok (.bipush 8, 2) := by decide +kernel
theorem dX8_readComparison_40 : decode cX8_readComparison 40 = .ok (.istore_n 2, 1) := by decide +kernel
theorem dX8_readComparison_41 : decode cX8_readComparison 41 = .ok (.iload_n 2, 1) := by decide +kernel
theorem dX8_readComparison_42 : decode cX8_readComparison 42 = .ok (.bipush 8, 2) := by decide +kernel
theorem dX8_readComparison_44 : decode cX8_readComparison 44 = .ok (.if_icmp .ne 17, 3) := by decide +kernel
theorem dX8_readComparison_47 : decode cX8_readComparison 47 = .ok (.aload_n 0, 1) := by decide +kernel
theorem dX8_readComparison_48 : decode cX8_readComparison 48 = .ok (.getfield 63, 3) := by decide +kernel
theorem dX8_readComparison_51 : decode cX8_readComparison 51 = .ok (.bipush 61, 2) := by decide +kernel
theorem dX8_readComparison_53 : decode cX8_readComparison 53 = .ok (.if_icmp .eq 8, 3) := by decide +kernel
theorem dX8_readComparison_56 : decode cX8_readComparison 56 = .ok (.aload_n 0, 1) := by decide +kernel
theorem dX8_readComparison_57 : decode cX8_readComparison 57 = .ok (.invokevirtual 66, 3) := by decide +kernel
theorem dX8_readComparison_60 : decode cX8_readComparison 60 = .ok (.ireturn, 1) := by decide +kernel
theorem dX8_readComparison_61 : decode cX8_readComparison 61 = .ok (.aload_n 0, 1) := by decide +kernel
theorem dX8_readComparison_62 : decode cX8_readComparison 62 = .ok (.invokevirtual 43, 3) := by decide +kernel
theorem dX8_readComparison_65 : decode cX8_readComparison 65 = .ok (.aload_n 0, 1) := by decide +kernel
theorem dX8_readComparison_66 : decode cX8_readComparison 66 = .ok (.iload_n 1, 1) := by decide +kernel
theorem dX8_readComparison_67 : decode cX8_readComparison 67 = .ok (.invokevirtual 70, 3) := by decide +kernel
theorem dX8_readComparison_70 : decode cX8_readComparison 70 = .ok (.ifCond .ne 5, 3) := by decide +kernel
theorem dX8_readComparison_73 : decode cX8_readComparison 73 = .ok (.iconst 0, 1) := by decide +kernel
theorem dX8_readComparison_74 : decode cX8_readComparison 74 = .ok (.ireturn, 1) := by decide +kernel
theorem dX8_readComparison_75 : decode cX8_readComparison 75 = .ok (.aload_n 0, 1) := by decide +kernel
theorem dX8_readComparison_76 : decode cX8_readComparison 76 = .ok (.iload_n 2, 1) := by decide +kernel
theorem dX8_readComparison_77 : decode cX8_readComparison 77 = .ok (.iconst 0, 1) := by decide +kernel
theorem dX8_readComparison_78 : decode cX8_readComparison 78 = .ok (.invokevirtual 81, 3) := by decide +kernel
theorem dX8_readComparison_81 : decode cX8_readComparison 81 = .ok (.pop, 1) := by decide +kernel
theorem dX8_readComparison_82 : decode cX8_readComparison 82 = .ok (.iconst 1, 1) := by decide +kernel
theorem dX8_readComparison_83 : decode cX8_readComparison 83 = .ok (.ireturn, 1) := by decide +kernel
theorem dX8_readSum_0 : decode cX8_readSum 0 = .ok (.aload_n 0, 1) := by decide +kernel
theorem dX8_readSum_1 : decode cX8_readSum 1 = .ok (.iload_n 1, 1) := by decide +kernel
theorem dX8_readSum_2 : decode cX8_readSum 2 = .ok (.invokevirtual 99, 3) := by decide +kernel
theorem dX8_readSum_5 : decode cX8_readSum 5 = .ok (.ifCond .ne 5, 3) := by decide +kernel
theorem dX8_readSum_8 : decode cX8_readSum 8 = .ok (.iconst 0, 1) := by decide +kernel
theorem dX8_readSum_9 : decode cX8_readSum 9 = .ok (.ireturn, 1) := by decide +kernel
theorem dX8_readSum_10 : decode cX8_readSum 10 = .ok (.iconst 0, 1) := by decide +kernel
theorem dX8_readSum_11 : decode cX8_readSum 11 = .ok (.istore_n 2, 1) := by decide +kernel
theorem dX8_readSum_12 : decode cX8_readSum 12 = .ok (.iload_n 2, 1) := by decide +kernel
theorem dX8_readSum_13 : decode cX8_readSum 13 = .ok (.sipush 400, 3) := by decide +kernel
theorem dX8_readSum_16 : decode cX8_readSum 16 = .ok (.if_icmp .ge 63, 3) := by decide +kernel
theorem dX8_readSum_19 : decode cX8_readSum 19 = .ok (.aload_n 0, 1) := by decide +kernel
theorem dX8_readSum_20 : decode cX8_readSum 20 = .ok (.getfield 63, 3) := by decide +kernel
theorem dX8_readSum_23 : decode cX8_readSum 23 = .ok (.bipush 43, 2) := by decide +kernel
theorem dX8_readSum_25 : decode cX8_readSum 25 = .ok (.if_icmp .eq 12, 3) := by decide +kernel
theorem dX8_readSum_28 : decode cX8_readSum 28 = .ok (.aload_n 0, 1) := by decide +kernel
theorem dX8_readSum_29 : decode cX8_readSum 29 = .ok (.getfield 63, 3) := by decide +kernel
theorem dX8_readSum_32 : decode cX8_readSum 32 = .ok (.bipush 45, 2) := by decide +kernel
theorem dX8_readSum_34 : decode cX8_readSum 34 = .ok (.if_icmp .ne 45, 3) := by decide +kernel
theorem dX8_readSum_37 : decode cX8_readSum 37 = .ok (.aload_n 0, 1) := by decide +kernel
theorem dX8_readSum_38 : decode cX8_readSum 38 = .ok (.getfield 63, 3) := by decide +kernel
theorem dX8_readSum_41 : decode cX8_readSum 41 = .ok (.bipush 43, 2) := by decide +kernel
theorem dX8_readSum_43 : decode cX8_readSum 43 = .ok (.if_icmp .ne 7, 3) := by decide +kernel
theorem dX8_readSum_46 : decode cX8_readSum 46 = .ok (.iconst 2, 1) := by decide +kernel
theorem dX8_readSum_47 : decode cX8_readSum 47 = .ok (.goto 4, 3) := by decide +kernel
theorem dX8_readSum_50 : decode cX8_readSum 50 = .ok (.iconst 3, 1) := by decide +kernel
theorem dX8_readSum_51 : decode cX8_readSum 51 = .ok (.istore_n 3, 1) := by decide +kernel
theorem dX8_readSum_52 : decode cX8_readSum 52 = .ok (.aload_n 0, 1) := by decide +kernel
theorem dX8_readSum_53 : decode cX8_readSum 53 = .ok (.invokevirtual 43, 3) := by decide +kernel
theorem dX8_readSum_56 : decode cX8_readSum 56 = .ok (.aload_n 0, 1) := by decide +kernel
theorem dX8_readSum_57 : decode cX8_readSum 57 = .ok (.iload_n 1, 1) := by decide +kernel
theorem dX8_readSum_58 : decode cX8_readSum 58 = .ok (.invokevirtual 99, 3) := by decide +kernel
theorem dX8_readSum_61 : decode cX8_readSum 61 = .ok (.ifCond .ne 5, 3) := by decide +kernel
theorem dX8_readSum_64 : decode cX8_readSum 64 = .ok (.iconst 0, 1) := by decide +kernel
theorem dX8_readSum_65 : decode cX8_readSum 65 = .ok (.ireturn, 1) := by decide +kernel
theorem dX8_readSum_66 : decode cX8_readSum 66 = .ok (.aload_n 0, 1) := by decide +kernel
theorem dX8_readSum_67 : decode cX8_readSum 67 = .ok (.iload_n 3, 1) := by decide +kernel
theorem dX8_readSum_68 : decode cX8_readSum 68 = .ok (.iconst 0, 1) := by decide +kernel
theorem dX8_readSum_69 : decode cX8_readSum 69 = .ok (.invokevirtual 81, 3) := by decide +kernel
theorem dX8_readSum_72 : decode cX8_readSum 72 = .ok (.pop, 1) := by decide +kernel
theorem dX8_readSum_73 : decode cX8_readSum 73 = .ok (.iinc 2 1, 3) := by decide +kernel
theorem dX8_readSum_76 : decode cX8_readSum 76 = .ok (.goto (-64), 3) := by decide +kernel
theorem dX8_readSum_79 : decode cX8_readSum 79 = .ok (.iconst 1, 1) := by decide +kernel
theorem dX8_readSum_80 : decode cX8_readSum 80 = .ok (.ireturn, 1) := by decide +kernel
theorem dX8_readTerm_0 : decode cX8_readTerm 0 = .ok (.aload_n 0, 1) := by decide +kernel
theorem dX8_readTerm_1 : decode cX8_readTerm 1 = .ok (.iload_n 1, 1) := by decide +kernel
theorem dX8_readTerm_2 : decode cX8_readTerm 2 = .ok (.invokevirtual 102, 3) := by decide +kernel
theorem dX8_readTerm_5 : decode cX8_readTerm 5 = .ok (.ifCond .ne 5, 3) := by decide +kernel
theorem dX8_readTerm_8 : decode cX8_readTerm 8 = .ok (.iconst 0, 1) := by decide +kernel
theorem dX8_readTerm_9 : decode cX8_readTerm 9 = .ok (.ireturn, 1) := by decide +kernel
theorem dX8_readTerm_10 : decode cX8_readTerm 10 = .ok (.iconst 0, 1) := by decide +kernel
theorem dX8_readTerm_11 : decode cX8_readTerm 11 = .ok (.istore_n 2, 1) := by decide +kernel
theorem dX8_readTerm_12 : decode cX8_readTerm 12 = .ok (.iload_n 2, 1) := by decide +kernel
theorem dX8_readTerm_13 : decode cX8_readTerm 13 = .ok (.sipush 400, 3) := by decide +kernel
theorem dX8_readTerm_16 : decode cX8_readTerm 16 = .ok (.if_icmp .ge 63, 3) := by decide +kernel
theorem dX8_readTerm_19 : decode cX8_readTerm 19 = .ok (.aload_n 0, 1) := by decide +kernel
theorem dX8_readTerm_20 : decode cX8_readTerm 20 = .ok (.getfield 63, 3) := by decide +kernel
theorem dX8_readTerm_23 : decode cX8_readTerm 23 = .ok (.bipush 42, 2) := by decide +kernel
theorem dX8_readTerm_25 : decode cX8_readTerm 25 = .ok (.if_icmp .eq 12, 3) := by decide +kernel
theorem dX8_readTerm_28 : decode cX8_readTerm 28 = .ok (.aload_n 0, 1) := by decide +kernel
theorem dX8_readTerm_29 : decode cX8_readTerm 29 = .ok (.getfield 63, 3) := by decide +kernel
theorem dX8_readTerm_32 : decode cX8_readTerm 32 = .ok (.bipush 47, 2) := by decide +kernel
theorem dX8_readTerm_34 : decode cX8_readTerm 34 = .ok (.if_icmp .ne 45, 3) := by decide +kernel
theorem dX8_readTerm_37 : decode cX8_readTerm 37 = .ok (.aload_n 0, 1) := by decide +kernel
theorem dX8_readTerm_38 : decode cX8_readTerm 38 = .ok (.getfield 63, 3) := by decide +kernel
theorem dX8_readTerm_41 : decode cX8_readTerm 41 = .ok (.bipush 42, 2) := by decide +kernel
theorem dX8_readTerm_43 : decode cX8_readTerm 43 = .ok (.if_icmp .ne 7, 3) := by decide +kernel
theorem dX8_readTerm_46 : decode cX8_readTerm 46 = .ok (.iconst 4, 1) := by decide +kernel
theorem dX8_readTerm_47 : decode cX8_readTerm 47 = .ok (.goto 4, 3) := by decide +kernel
theorem dX8_readTerm_50 : decode cX8_readTerm 50 = .ok (.iconst 5, 1) := by decide +kernel
theorem dX8_readTerm_51 : decode cX8_readTerm 51 = .ok (.istore_n 3, 1) := by decide +kernel
theorem dX8_readTerm_52 : decode cX8_readTerm 52 = .ok (.aload_n 0, 1) := by decide +kernel
theorem dX8_readTerm_53 : decode cX8_readTerm 53 = .ok (.invokevirtual 43, 3) := by decide +kernel
theorem dX8_readTerm_56 : decode cX8_readTerm 56 = .ok (.aload_n 0, 1) := by decide +kernel
theorem dX8_readTerm_57 : decode cX8_readTerm 57 = .ok (.iload_n 1, 1) := by decide +kernel
theorem dX8_readTerm_58 : decode cX8_readTerm 58 = .ok (.invokevirtual 102, 3) := by decide +kernel
theorem dX8_readTerm_61 : decode cX8_readTerm 61 = .ok (.ifCond .ne 5, 3) := by decide +kernel
theorem dX8_readTerm_64 : decode cX8_readTerm 64 = .ok (.iconst 0, 1) := by decide +kernel
theorem dX8_readTerm_65 : decode cX8_readTerm 65 = .ok (.ireturn, 1) := by decide +kernel
theorem dX8_readTerm_66 : decode cX8_readTerm 66 = .ok (.aload_n 0, 1) := by decide +kernel
theorem dX8_readTerm_67 : decode cX8_readTerm 67 = .ok (.iload_n 3, 1) := by decide +kernel
theorem dX8_readTerm_68 : decode cX8_readTerm 68 = .ok (.iconst 0, 1) := by decide +kernel
theorem dX8_readTerm_69 : decode cX8_readTerm 69 = .ok (.invokevirtual 81, 3) := by decide +kernel
theorem dX8_readTerm_72 : decode cX8_readTerm 72 = .ok (.pop, 1) := by decide +kernel
theorem dX8_readTerm_73 : decode cX8_readTerm 73 = .ok (.iinc 2 1, 3) := by decide +kernel
theorem dX8_readTerm_76 : decode cX8_readTerm 76 = .ok (.goto (-64), 3) := by decide +kernel
theorem dX8_readTerm_79 : decode cX8_readTerm 79 = .ok (.iconst 1, 1) := by decide +kernel
theorem dX8_readTerm_80 : decode cX8_readTerm 80 = .ok (.ireturn, 1) := by decide +kernel
theorem dX8_readPart_0 : decode cX8_readPart 0 = .ok (.aload_n 0, 1) := by decide +kernel
theorem dX8_readPart_1 : decode cX8_readPart 1 = .ok (.getfield 63, 3) := by decide +kernel
theorem dX8_readPart_4 : decode cX8_readPart 4 = .ok (.bipush 91, 2) := by decide +kernel
theorem dX8_readPart_6 : decode cX8_readPart 6 = .ok (.if_icmp .ne 11, 3) := by decide +kernel
theorem dX8_readPart_9 : decode cX8_readPart 9 = .ok (.aload_n 0, 1) := by decide +kernel
theorem dX8_readPart_10 : decode cX8_readPart 10 = .ok (.iload_n 1, 1) := by decide +kernel
theorem dX8_readPart_11 : decode cX8_readPart 11 = .ok (.bipush 93, 2) := by decide +kernel
theorem dX8_readPart_13 : decode cX8_readPart 13 = .ok (.invokevirtual 92, 3) := by decide +kernel
theorem dX8_readPart_16 : decode cX8_readPart 16 = .ok (.ireturn, 1) := by decide +kernel
theorem dX8_readPart_17 : decode cX8_readPart 17 = .ok (.aload_n 0, 1) := by decide +kernel
theorem dX8_readPart_18 : decode cX8_readPart 18 = .ok (.getfield 63, 3) := by decide +kernel
theorem dX8_readPart_21 : decode cX8_readPart 21 = .ok (.sipush 257, 3) := by decide +kernel
theorem dX8_readPart_24 : decode cX8_readPart 24 = .ok (.if_icmp .ne 17, 3) := by decide +kernel
theorem dX8_readPart_27 : decode cX8_readPart 27 = .ok (.aload_n 0, 1) := by decide +kernel
theorem dX8_readPart_28 : decode cX8_readPart 28 = .ok (.getfield 105, 3) := by decide +kernel
theorem dX8_readPart_31 : decode cX8_readPart 31 = .ok (.sipush 1000, 3) := by decide +kernel
theorem dX8_readPart_34 : decode cX8_readPart 34 = .ok (.if_icmp .gt 7, 3) := by decide +kernel
theorem dX8_readPart_37 : decode cX8_readPart 37 = .ok (.iconst 1, 1) := by decide +kernel
theorem dX8_readPart_38 : decode cX8_readPart 38 = .ok (.goto 4, 3) := by decide +kernel
theorem dX8_readPart_41 : decode cX8_readPart 41 = .ok (.iconst 0, 1) := by decide +kernel
theorem dX8_readPart_42 : decode cX8_readPart 42 = .ok (.istore_n 2, 1) := by decide +kernel
theorem dX8_readPart_43 : decode cX8_readPart 43 = .ok (.aload_n 0, 1) := by decide +kernel
theorem dX8_readPart_44 : decode cX8_readPart 44 = .ok (.getfield 63, 3) := by decide +kernel
theorem dX8_readPart_47 : decode cX8_readPart 47 = .ok (.sipush 265, 3) := by decide +kernel
theorem dX8_readPart_50 : decode cX8_readPart 50 = .ok (.if_icmp .lt 17, 3) := by decide +kernel
theorem dX8_readPart_53 : decode cX8_readPart 53 = .ok (.aload_n 0, 1) := by decide +kernel
theorem dX8_readPart_54 : decode cX8_readPart 54 = .ok (.getfield 63, 3) := by decide +kernel
theorem dX8_readPart_57 : decode cX8_readPart 57 = .ok (.sipush 273, 3) := by decide +kernel
theorem dX8_readPart_60 : decode cX8_readPart 60 = .ok (.if_icmp .ge 7, 3) := by decide +kernel
theorem dX8_readPart_63 : decode cX8_readPart 63 = .ok (.iconst 1, 1) := by decide +kernel
theorem dX8_readPart_64 : decode cX8_readPart 64 = .ok (.goto 4, 3) := by decide +kernel
theorem dX8_readPart_67 : decode cX8_readPart 67 = .ok (.iconst 0, 1) := by decide +kernel
theorem dX8_readPart_68 : decode cX8_readPart 68 = .ok (.istore_n 3, 1) := by decide +kernel
theorem dX8_readPart_69 : decode cX8_readPart 69 = .ok (.iload_n 2, 1) := by decide +kernel
theorem dX8_readPart_70 : decode cX8_readPart 70 = .ok (.ifCond .ne 7, 3) := by decide +kernel
theorem dX8_readPart_73 : decode cX8_readPart 73 = .ok (.iload_n 3, 1) := by decide +kernel
theorem dX8_readPart_74 : decode cX8_readPart 74 = .ok (.ifCond .eq 12, 3) := by decide +kernel
theorem dX8_readPart_77 : decode cX8_readPart 77 = .ok (.aload_n 0, 1) := by decide +kernel
theorem dX8_readPart_78 : decode cX8_readPart 78 = .ok (.getfield 33, 3) := by decide +kernel
theorem dX8_readPart_81 : decode cX8_readPart 81 = .ok (.bipush 50, 2) := by decide +kernel
theorem dX8_readPart_83 : decode cX8_readPart 83 = .ok (.if_icmp .lt 8, 3) := by decide +kernel
theorem dX8_readPart_86 : decode cX8_readPart 86 = .ok (.aload_n 0, 1) := by decide +kernel
theorem dX8_readPart_87 : decode cX8_readPart 87 = .ok (.invokevirtual 66, 3) := by decide +kernel
theorem dX8_readPart_90 : decode cX8_readPart 90 = .ok (.ireturn, 1) := by decide +kernel
theorem dX8_readPart_91 : decode cX8_readPart 91 = .ok (.aload_n 0, 1) := by decide +kernel
theorem dX8_readPart_92 : decode cX8_readPart 92 = .ok (.dup, 1) := by decide +kernel
theorem dX8_readPart_93 : decode cX8_readPart 93 = .ok (.getfield 33, 3) := by decide +kernel
theorem dX8_readPart_96 : decode cX8_readPart 96 = .ok (.iconst 1, 1) := by decide +kernel
theorem dX8_readPart_97 : decode cX8_readPart 97 = .ok (.iadd, 1) := by decide +kernel
theorem dX8_readPart_98 : decode cX8_readPart 98 = .ok (.putfield 33, 3) := by decide +kernel
theorem dX8_readPart_101 : decode cX8_readPart 101 = .ok (.iload_n 2, 1) := by decide +kernel
theorem dX8_readPart_102 : decode cX8_readPart 102 = .ok (.ifCond .eq 16, 3) := by decide +kernel
theorem dX8_readPart_105 : decode cX8_readPart 105 = .ok (.aload_n 0, 1) := by decide +kernel
theorem dX8_readPart_106 : decode cX8_readPart 106 = .ok (.iconst 0, 1) := by decide +kernel
theorem dX8_readPart_107 : decode cX8_readPart 107 = .ok (.aload_n 0, 1) := by decide +kernel
theorem dX8_readPart_108 : decode cX8_readPart 108 = .ok (.getfield 105, 3) := by decide +kernel
theorem dX8_readPart_111 : decode cX8_readPart 111 = .ok (.invokevirtual 81, 3) := by decide +kernel
theorem dX8_readPart_114 : decode cX8_readPart 114 = .ok (.pop, 1) := by decide +kernel
theorem dX8_readPart_115 : decode cX8_readPart 115 = .ok (.goto 43, 3) := by decide +kernel
theorem dX8_readPart_118 : decode cX8_readPart 118 = .ok (.aload_n 0, 1) := by decide +kernel
theorem dX8_readPart_119 : decode cX8_readPart 119 = .ok (.iconst 1, 1) := by decide +kernel
theorem dX8_readPart_120 : decode cX8_readPart 120 = .ok (.aload_n 0, 1) := by decide +kernel
theorem dX8_readPart_121 : decode cX8_readPart 121 = .ok (.getfield 63, 3) := by decide +kernel
theorem dX8_readPart_124 : decode cX8_readPart 124 = .ok (.sipush 265, 3) := by decide +kernel
theorem dX8_readPart_127 : decode cX8_readPart 127 = .ok (.isub, 1) := by decide +kernel
theorem dX8_readPart_128 : decode cX8_readPart 128 = .ok (.invokevirtual 81, 3) := by decide +kernel
theorem dX8_readPart_131 : decode cX8_readPart 131 = .ok (.pop, 1) := by decide +kernel
theorem dX8_readPart_132 : decode cX8_readPart 132 = .ok (.aload_n 0, 1) := by decide +kernel
theorem dX8_readPart_133 : decode cX8_readPart 133 = .ok (.aload_n 0, 1) := by decide +kernel
theorem dX8_readPart_134 : decode cX8_readPart 134 = .ok (.getfield 36, 3) := by decide +kernel
theorem dX8_readPart_137 : decode cX8_readPart 137 = .ok (.ifCond .ne 13, 3) := by decide +kernel
theorem dX8_readPart_140 : decode cX8_readPart 140 = .ok (.aload_n 0, 1) := by decide +kernel
theorem dX8_readPart_141 : decode cX8_readPart 141 = .ok (.getfield 63, 3) := by decide +kernel
theorem dX8_readPart_144 : decode cX8_readPart 144 = .ok (.sipush 270, 3) := by decide +kernel
theorem dX8_readPart_147 : decode cX8_readPart 147 = .ok (.if_icmp .ne 7, 3) := by decide +kernel
theorem dX8_readPart_150 : decode cX8_readPart 150 = .ok (.iconst 1, 1) := by decide +kernel
theorem dX8_readPart_151 : decode cX8_readPart 151 = .ok (.goto 4, 3) := by decide +kernel
theorem dX8_readPart_154 : decode cX8_readPart 154 = .ok (.iconst 0, 1) := by decide +kernel
theorem dX8_readPart_155 : decode cX8_readPart 155 = .ok (.putfield 36, 3) := by decide +kernel
theorem dX8_readPart_158 : decode cX8_readPart 158 = .ok (.aload_n 0, 1) := by decide +kernel
theorem dX8_readPart_159 : decode cX8_readPart 159 = .ok (.invokevirtual 43, 3) := by decide +kernel
theorem dX8_readPart_162 : decode cX8_readPart 162 = .ok (.iconst 1, 1) := by decide +kernel
theorem dX8_readPart_163 : decode cX8_readPart 163 = .ok (.ireturn, 1) := by decide +kernel
theorem dX8_readBracket_0 : decode cX8_readBracket 0 = .ok (.iload_n 1, 1) := by decide +kernel
theorem dX8_readBracket_1 : decode cX8_readBracket 1 = .ok (.bipush 8, 2) := by decide +kernel
theorem dX8_readBracket_3 : decode cX8_readBracket 3 = .ok (.if_icmp .lt 8, 3) := by decide +kernel
theorem dX8_readBracket_6 : decode cX8_readBracket 6 = .ok (.aload_n 0, 1) := by decide +kernel
theorem dX8_readBracket_7 : decode cX8_readBracket 7 = .ok (.invokevirtual 66, 3) := by decide +kernel
theorem dX8_readBracket_10 : decode cX8_readBracket 10 = .ok (.ireturn, 1) := by decide +kernel
theorem dX8_readBracket_11 : decode cX8_readBracket 11 = .ok (.aload_n 0, 1) := by decide +kernel
theorem dX8_readBracket_12 : decode cX8_readBracket 12 = .ok (.invokevirtual 43, 3) := by decide +kernel
theorem dX8_readBracket_15 : decode cX8_readBracket 15 = .ok (.iload_n 2, 1) := by decide +kernel
theorem dX8_readBracket_16 : decode cX8_readBracket 16 = .ok (.bipush 41, 2) := by decide +kernel
theorem dX8_readBracket_18 : decode cX8_readBracket 18 = .ok (.if_icmp .ne 13, 3) := by decide +kernel
theorem dX8_readBracket_21 : decode cX8_readBracket 21 = .ok (.aload_n 0, 1) := by decide +kernel
theorem dX8_readBracket_22 : decode cX8_readBracket 22 = .ok (.iload_n 1, 1) := by decide +kernel
theorem dX8_readBracket_23 : decode cX8_readBracket 23 = .ok (.iconst 1, 1) := by decide +kernel
theorem dX8_readBracket_24 : decode cX8_readBracket 24 = .ok (.iadd, 1) := by decide +kernel
theorem dX8_readBracket_25 : decode cX8_readBracket 25 = .ok (.invokevirtual 73, 3) := by decide +kernel
theorem dX8_readBracket_28 : decode cX8_readBracket 28 = .ok (.goto 10, 3) := by decide +kernel
theorem dX8_readBracket_31 : decode cX8_readBracket 31 = .ok (.aload_n 0, 1) := by decide +kernel
theorem dX8_readBracket_32 : decode cX8_readBracket 32 = .ok (.iload_n 1, 1) := by decide +kernel
theorem dX8_readBracket_33 : decode cX8_readBracket 33 = .ok (.iconst 1, 1) := by decide +kernel
theorem dX8_readBracket_34 : decode cX8_readBracket 34 = .ok (.iadd, 1) := by decide +kernel
theorem dX8_readBracket_35 : decode cX8_readBracket 35 = .ok (.invokevirtual 70, 3) := by decide +kernel
theorem dX8_readBracket_38 : decode cX8_readBracket 38 = .ok (.istore_n 3, 1) := by decide +kernel
theorem dX8_readBracket_39 : decode cX8_readBracket 39 = .ok (.iload_n 3, 1) := by decide +kernel
theorem dX8_readBracket_40 : decode cX8_readBracket 40 = .ok (.ifCond .ne 5, 3) := by decide +kernel
theorem dX8_readBracket_43 : decode cX8_readBracket 43 = .ok (.iconst 0, 1) := by decide +kernel
theorem dX8_readBracket_44 : decode cX8_readBracket 44 = .ok (.ireturn, 1) := by decide +kernel
theorem dX8_readBracket_45 : decode cX8_readBracket 45 = .ok (.aload_n 0, 1) := by decide +kernel
theorem dX8_readBracket_46 : decode cX8_readBracket 46 = .ok (.getfield 63, 3) := by decide +kernel
theorem dX8_readBracket_49 : decode cX8_readBracket 49 = .ok (.iload_n 2, 1) := by decide +kernel
theorem dX8_readBracket_50 : decode cX8_readBracket 50 = .ok (.if_icmp .eq 8, 3) := by decide +kernel
theorem dX8_readBracket_53 : decode cX8_readBracket 53 = .ok (.aload_n 0, 1) := by decide +kernel
theorem dX8_readBracket_54 : decode cX8_readBracket 54 = .ok (.invokevirtual 66, 3) := by decide +kernel
theorem dX8_readBracket_57 : decode cX8_readBracket 57 = .ok (.ireturn, 1) := by decide +kernel
theorem dX8_readBracket_58 : decode cX8_readBracket 58 = .ok (.aload_n 0, 1) := by decide +kernel
theorem dX8_readBracket_59 : decode cX8_readBracket 59 = .ok (.invokevirtual 43, 3) := by decide +kernel
theorem dX8_readBracket_62 : decode cX8_readBracket 62 = .ok (.iconst 1, 1) := by decide +kernel
theorem dX8_readBracket_63 : decode cX8_readBracket 63 = .ok (.ireturn, 1) := by decide +kernel
theorem dX8_fail_0 : decode cX8_fail 0 = .ok (.aload_n 0, 1) := by decide +kernel
theorem dX8_fail_1 : decode cX8_fail 1 = .ok (.aload_n 0, 1) := by decide +kernel
theorem dX8_fail_2 : decode cX8_fail 2 = .ok (.getfield 108, 3) := by decide +kernel
theorem dX8_fail_5 : decode cX8_fail 5 = .ok (.putfield 23, 3) := by decide +kernel
theorem dX8_fail_8 : decode cX8_fail 8 = .ok (.iconst 0, 1) := by decide +kernel
theorem dX8_fail_9 : decode cX8_fail 9 = .ok (.ireturn, 1) := by decide +kernel
theorem dX8_write_0 : decode cX8_write 0 = .ok (.aload_n 0, 1) := by decide +kernel
theorem dX8_write_1 : decode cX8_write 1 = .ok (.getfield 30, 3) := by decide +kernel
theorem dX8_write_4 : decode cX8_write 4 = .ok (.sipush 512, 3) := by decide +kernel
theorem dX8_write_7 : decode cX8_write 7 = .ok (.if_icmp .lt 5, 3) := by decide +kernel
theorem dX8_write_10 : decode cX8_write 10 = .ok (.iconst (-1), 1) := by decide +kernel
theorem dX8_write_11 : decode cX8_write 11 = .ok (.ireturn, 1) := by decide +kernel
theorem dX8_write_12 : decode cX8_write 12 = .ok (.aload_n 0, 1) := by decide +kernel
theorem dX8_write_13 : decode cX8_write 13 = .ok (.getfield 15, 3) := by decide +kernel
theorem dX8_write_16 : decode cX8_write 16 = .ok (.aload_n 0, 1) := by decide +kernel
theorem dX8_write_17 : decode cX8_write 17 = .ok (.getfield 30, 3) := by decide +kernel
theorem dX8_write_20 : decode cX8_write 20 = .ok (.iload_n 1, 1) := by decide +kernel
theorem dX8_write_21 : decode cX8_write 21 = .ok (.iload_n 2, 1) := by decide +kernel
theorem dX8_write_22 : decode cX8_write 22 = .ok (.iconst 4, 1) := by decide +kernel
theorem dX8_write_23 : decode cX8_write 23 = .ok (.ishl, 1) := by decide +kernel
theorem dX8_write_24 : decode cX8_write 24 = .ok (.ior, 1) := by decide +kernel
theorem dX8_write_25 : decode cX8_write 25 = .ok (.iastore, 1) := by decide +kernel
theorem dX8_write_26 : decode cX8_write 26 = .ok (.aload_n 0, 1) := by decide +kernel
theorem dX8_write_27 : decode cX8_write 27 = .ok (.dup, 1) := by decide +kernel
theorem dX8_write_28 : decode cX8_write 28 = .ok (.getfield 30, 3) := by decide +kernel
theorem dX8_write_31 : decode cX8_write 31 = .ok (.iconst 1, 1) := by decide +kernel
theorem dX8_write_32 : decode cX8_write 32 = .ok (.iadd, 1) := by decide +kernel
theorem dX8_write_33 : decode cX8_write 33 = .ok (.putfield 30, 3) := by decide +kernel
theorem dX8_write_36 : decode cX8_write 36 = .ok (.aload_n 0, 1) := by decide +kernel
theorem dX8_write_37 : decode cX8_write 37 = .ok (.getfield 30, 3) := by decide +kernel
theorem dX8_write_40 : decode cX8_write 40 = .ok (.iconst 1, 1) := by decide +kernel
theorem dX8_write_41 : decode cX8_write 41 = .ok (.isub, 1) := by decide +kernel
theorem dX8_write_42 : decode cX8_write 42 = .ok (.ireturn, 1) := by decide +kernel
theorem dX8_aimHere_0 : decode cX8_aimHere 0 = .ok (.iload_n 1, 1) := by decide +kernel
theorem dX8_aimHere_1 : decode cX8_aimHere 1 = .ok (.ifCond .lt 26, 3) := by decide +kernel
theorem dX8_aimHere_4 : decode cX8_aimHere 4 = .ok (.iload_n 1, 1) := by decide +kernel
theorem dX8_aimHere_5 : decode cX8_aimHere 5 = .ok (.aload_n 0, 1) := by decide +kernel
theorem dX8_aimHere_6 : decode cX8_aimHere 6 = .ok (.getfield 30, 3) := by decide +kernel
theorem dX8_aimHere_9 : decode cX8_aimHere 9 = .ok (.if_icmp .ge 18, 3) := by decide +kernel
theorem dX8_aimHere_12 : decode cX8_aimHere 12 = .ok (.aload_n 0, 1) := by decide +kernel
theorem dX8_aimHere_13 : decode cX8_aimHere 13 = .ok (.getfield 15, 3) := by decide +kernel
theorem dX8_aimHere_16 : decode cX8_aimHere 16 = .ok (.iload_n 1, 1) := by decide +kernel
theorem dX8_aimHere_17 : decode cX8_aimHere 17 = .ok (.dup2, 1) := by decide +kernel
theorem dX8_aimHere_18 : decode cX8_aimHere 18 = .ok (.iaload, 1) := by decide +kernel
theorem dX8_aimHere_19 : decode cX8_aimHere 19 = .ok (.aload_n 0, 1) := by decide +kernel
theorem dX8_aimHere_20 : decode cX8_aimHere 20 = .ok (.getfield 30, 3) := by decide +kernel
theorem dX8_aimHere_23 : decode cX8_aimHere 23 = .ok (.iconst 4, 1) := by decide +kernel
theorem dX8_aimHere_24 : decode cX8_aimHere 24 = .ok (.ishl, 1) := by decide +kernel
theorem dX8_aimHere_25 : decode cX8_aimHere 25 = .ok (.ior, 1) := by decide +kernel
theorem dX8_aimHere_26 : decode cX8_aimHere 26 = .ok (.iastore, 1) := by decide +kernel
theorem dX8_aimHere_27 : decode cX8_aimHere 27 = .ok (.return_, 1) := by decide +kernel
theorem dX8_advance_0 : decode cX8_advance 0 = .ok (.aload_n 0, 1) := by decide +kernel
theorem dX8_advance_1 : decode cX8_advance 1 = .ok (.aload_n 0, 1) := by decide +kernel
theorem dX8_advance_2 : decode cX8_advance 2 = .ok (.getfield 40, 3) := by decide +kernel
theorem dX8_advance_5 : decode cX8_advance 5 = .ok (.putfield 108, 3) := by decide +kernel
theorem dX8_advance_8 : decode cX8_advance 8 = .ok (.aload_n 0, 1) := by decide +kernel
theorem dX8_advance_9 : decode cX8_advance 9 = .ok (.getfield 108, 3) := by decide +kernel
theorem dX8_advance_12 : decode cX8_advance 12 = .ok (.aload_n 0, 1) := by decide +kernel
theorem dX8_advance_13 : decode cX8_advance 13 = .ok (.getfield 27, 3) := by decide +kernel
theorem dX8_advance_16 : decode cX8_advance 16 = .ok (.if_icmp .ge 30, 3) := by decide +kernel
theorem dX8_advance_19 : decode cX8_advance 19 = .ok (.aload_n 0, 1) := by decide +kernel
theorem dX8_advance_20 : decode cX8_advance 20 = .ok (.getfield 9, 3) := by decide +kernel
theorem dX8_advance_23 : decode cX8_advance 23 = .ok (.aload_n 0, 1) := by decide +kernel
theorem dX8_advance_24 : decode cX8_advance 24 = .ok (.getfield 108, 3) := by decide +kernel
theorem dX8_advance_27 : decode cX8_advance 27 = .ok (.iaload, 1) := by decide +kernel
theorem dX8_advance_28 : decode cX8_advance 28 = .ok (.bipush 32, 2) := by decide +kernel
theorem dX8_advance_30 : decode cX8_advance 30 = .ok (.if_icmp .ne 16, 3) := by decide +kernel
theorem dX8_advance_33 : decode cX8_advance 33 = .ok (.aload_n 0, 1) := by decide +kernel
theorem dX8_advance_34 : decode cX8_advance 34 = .ok (.dup, 1) := by decide +kernel
theorem dX8_advance_35 : decode cX8_advance 35 = .ok (.getfield 108, 3) := by decide +kernel
theorem dX8_advance_38 : decode cX8_advance 38 = .ok (.iconst 1, 1) := by decide +kernel
theorem dX8_advance_39 : decode cX8_advance 39 = .ok (.iadd, 1) := by decide +kernel
theorem dX8_advance_40 : decode cX8_advance 40 = .ok (.putfield 108, 3) := by decide +kernel
theorem dX8_advance_43 : decode cX8_advance 43 = .ok (.goto (-35), 3) := by decide +kernel
theorem dX8_advance_46 : decode cX8_advance 46 = .ok (.aload_n 0, 1) := by decide +kernel
theorem dX8_advance_47 : decode cX8_advance 47 = .ok (.aload_n 0, 1) := by decide +kernel
theorem dX8_advance_48 : decode cX8_advance 48 = .ok (.getfield 108, 3) := by decide +kernel
theorem dX8_advance_51 : decode cX8_advance 51 = .ok (.putfield 40, 3) := by decide +kernel
theorem dX8_advance_54 : decode cX8_advance 54 = .ok (.aload_n 0, 1) := by decide +kernel
theorem dX8_advance_55 : decode cX8_advance 55 = .ok (.getfield 108, 3) := by decide +kernel
theorem dX8_advance_58 : decode cX8_advance 58 = .ok (.aload_n 0, 1) := by decide +kernel
theorem dX8_advance_59 : decode cX8_advance 59 = .ok (.getfield 27, 3) := by decide +kernel
theorem dX8_advance_62 : decode cX8_advance 62 = .ok (.if_icmp .lt 13, 3) := by decide +kernel
theorem dX8_advance_65 : decode cX8_advance 65 = .ok (.aload_n 0, 1) := by decide +kernel
theorem dX8_advance_66 : decode cX8_advance 66 = .ok (.sipush 256, 3) := by decide +kernel
theorem dX8_advance_69 : decode cX8_advance 69 = .ok (.putfield 63, 3) := by decide +kernel
theorem dX8_advance_72 : decode cX8_advance 72 = .ok (.goto 113, 3) := by decide +kernel
theorem dX8_advance_75 : decode cX8_advance 75 = .ok (.aload_n 0, 1) := by decide +kernel
theorem dX8_advance_76 : decode cX8_advance 76 = .ok (.getfield 9, 3) := by decide +kernel
theorem dX8_advance_79 : decode cX8_advance 79 = .ok (.aload_n 0, 1) := by decide +kernel
theorem dX8_advance_80 : decode cX8_advance 80 = .ok (.getfield 108, 3) := by decide +kernel
theorem dX8_advance_83 : decode cX8_advance 83 = .ok (.iaload, 1) := by decide +kernel
theorem dX8_advance_84 : decode cX8_advance 84 = .ok (.invokestatic 111, 3) := by decide +kernel
theorem dX8_advance_87 : decode cX8_advance 87 = .ok (.ifCond .eq 53, 3) := by decide +kernel
theorem dX8_advance_90 : decode cX8_advance 90 = .ok (.aload_n 0, 1) := by decide +kernel
theorem dX8_advance_91 : decode cX8_advance 91 = .ok (.getfield 40, 3) := by decide +kernel
theorem dX8_advance_94 : decode cX8_advance 94 = .ok (.aload_n 0, 1) := by decide +kernel
theorem dX8_advance_95 : decode cX8_advance 95 = .ok (.getfield 27, 3) := by decide +kernel
theorem dX8_advance_98 : decode cX8_advance 98 = .ok (.if_icmp .ge 31, 3) := by decide +kernel
theorem dX8_advance_101 : decode cX8_advance 101 = .ok (.aload_n 0, 1) := by decide +kernel
theorem dX8_advance_102 : decode cX8_advance 102 = .ok (.getfield 9, 3) := by decide +kernel
theorem dX8_advance_105 : decode cX8_advance 105 = .ok (.aload_n 0, 1) := by decide +kernel
theorem dX8_advance_106 : decode cX8_advance 106 = .ok (.getfield 40, 3) := by decide +kernel
theorem dX8_advance_109 : decode cX8_advance 109 = .ok (.iaload, 1) := by decide +kernel
theorem dX8_advance_110 : decode cX8_advance 110 = .ok (.invokestatic 111, 3) := by decide +kernel
theorem dX8_advance_113 : decode cX8_advance 113 = .ok (.ifCond .eq 16, 3) := by decide +kernel
theorem dX8_advance_116 : decode cX8_advance 116 = .ok (.aload_n 0, 1) := by decide +kernel
theorem dX8_advance_117 : decode cX8_advance 117 = .ok (.dup, 1) := by decide +kernel
theorem dX8_advance_118 : decode cX8_advance 118 = .ok (.getfield 40, 3) := by decide +kernel
theorem dX8_advance_121 : decode cX8_advance 121 = .ok (.iconst 1, 1) := by decide +kernel
theorem dX8_advance_122 : decode cX8_advance 122 = .ok (.iadd, 1) := by decide +kernel
theorem dX8_advance_123 : decode cX8_advance 123 = .ok (.putfield 40, 3) := by decide +kernel
theorem dX8_advance_126 : decode cX8_advance 126 = .ok (.goto (-36), 3) := by decide +kernel
theorem dX8_advance_129 : decode cX8_advance 129 = .ok (.aload_n 0, 1) := by decide +kernel
theorem dX8_advance_130 : decode cX8_advance 130 = .ok (.aload_n 0, 1) := by decide +kernel
theorem dX8_advance_131 : decode cX8_advance 131 = .ok (.invokevirtual 114, 3) := by decide +kernel
theorem dX8_advance_134 : decode cX8_advance 134 = .ok (.putfield 63, 3) := by decide +kernel
theorem dX8_advance_137 : decode cX8_advance 137 = .ok (.goto 48, 3) := by decide +kernel
theorem dX8_advance_140 : decode cX8_advance 140 = .ok (.aload_n 0, 1) := by decide +kernel
theorem dX8_advance_141 : decode cX8_advance 141 = .ok (.getfield 9, 3) := by decide +kernel
theorem dX8_advance_144 : decode cX8_advance 144 = .ok (.aload_n 0, 1) := by decide +kernel
theorem dX8_advance_145 : decode cX8_advance 145 = .ok (.getfield 108, 3) := by decide +kernel
theorem dX8_advance_148 : decode cX8_advance 148 = .ok (.iaload, 1) := by decide +kernel
theorem dX8_advance_149 : decode cX8_advance 149 = .ok (.invokestatic 117, 3) := by decide +kernel
theorem dX8_advance_152 : decode cX8_advance 152 = .ok (.ifCond .eq 10, 3) := by decide +kernel
theorem dX8_advance_155 : decode cX8_advance 155 = .ok (.aload_n 0, 1) := by decide +kernel
theorem dX8_advance_156 : decode cX8_advance 156 = .ok (.invokevirtual 120, 3) := by decide +kernel
theorem dX8_advance_159 : decode cX8_advance 159 = .ok (.goto 26, 3) := by decide +kernel
theorem dX8_advance_162 : decode cX8_advance 162 = .ok (.aload_n 0, 1) := by decide +kernel
theorem dX8_advance_163 : decode cX8_advance 163 = .ok (.aload_n 0, 1) := by decide +kernel
theorem dX8_advance_164 : decode cX8_advance 164 = .ok (.getfield 9, 3) := by decide +kernel
theorem dX8_advance_167 : decode cX8_advance 167 = .ok (.aload_n 0, 1) := by decide +kernel
theorem dX8_advance_168 : decode cX8_advance 168 = .ok (.getfield 108, 3) := by decide +kernel
theorem dX8_advance_171 : decode cX8_advance 171 = .ok (.iaload, 1) := by decide +kernel
theorem dX8_advance_172 : decode cX8_advance 172 = .ok (.putfield 63, 3) := by decide +kernel
theorem dX8_advance_175 : decode cX8_advance 175 = .ok (.aload_n 0, 1) := by decide +kernel
theorem dX8_advance_176 : decode cX8_advance 176 = .ok (.dup, 1) := by decide +kernel
theorem dX8_advance_177 : decode cX8_advance 177 = .ok (.getfield 40, 3) := by decide +kernel
theorem dX8_advance_180 : decode cX8_advance 180 = .ok (.iconst 1, 1) := by decide +kernel
theorem dX8_advance_181 : decode cX8_advance 181 = .ok (.iadd, 1) := by decide +kernel
theorem dX8_advance_182 : decode cX8_advance 182 = .ok (.putfield 40, 3) := by decide +kernel
theorem dX8_advance_185 : decode cX8_advance 185 = .ok (.return_, 1) := by decide +kernel
theorem dX8_takeNumber_0 : decode cX8_takeNumber 0 = .ok (.aload_n 0, 1) := by decide +kernel
theorem dX8_takeNumber_1 : decode cX8_takeNumber 1 = .ok (.iconst 0, 1) := by decide +kernel
theorem dX8_takeNumber_2 : decode cX8_takeNumber 2 = .ok (.putfield 105, 3) := by decide +kernel
theorem dX8_takeNumber_5 : decode cX8_takeNumber 5 = .ok (.aload_n 0, 1) := by decide +kernel
theorem dX8_takeNumber_6 : decode cX8_takeNumber 6 = .ok (.getfield 40, 3) := by decide +kernel
theorem dX8_takeNumber_9 : decode cX8_takeNumber 9 = .ok (.aload_n 0, 1) := by decide +kernel
theorem dX8_takeNumber_10 : decode cX8_takeNumber 10 = .ok (.getfield 27, 3) := by decide +kernel
theorem dX8_takeNumber_13 : decode cX8_takeNumber 13 = .ok (.if_icmp .ge 61, 3) := by decide +kernel
theorem dX8_takeNumber_16 : decode cX8_takeNumber 16 = .ok (.aload_n 0, 1) := by decide +kernel
theorem dX8_takeNumber_17 : decode cX8_takeNumber 17 = .ok (.getfield 9, 3) := by decide +kernel
theorem dX8_takeNumber_20 : decode cX8_takeNumber 20 = .ok (.aload_n 0, 1) := by decide +kernel
theorem dX8_takeNumber_21 : decode cX8_takeNumber 21 = .ok (.getfield 40, 3) := by decide +kernel
theorem dX8_takeNumber_24 : decode cX8_takeNumber 24 = .ok (.iaload, 1) := by decide +kernel
theorem dX8_takeNumber_25 : decode cX8_takeNumber 25 = .ok (.invokestatic 117, 3) := by decide +kernel
theorem dX8_takeNumber_28 : decode cX8_takeNumber 28 = .ok (.ifCond .eq 46, 3) := by decide +kernel
theorem dX8_takeNumber_31 : decode cX8_takeNumber 31 = .ok (.aload_n 0, 1) := by decide +kernel
theorem dX8_takeNumber_32 : decode cX8_takeNumber 32 = .ok (.aload_n 0, 1) := by decide +kernel
theorem dX8_takeNumber_33 : decode cX8_takeNumber 33 = .ok (.getfield 105, 3) := by decide +kernel
theorem dX8_takeNumber_36 : decode cX8_takeNumber 36 = .ok (.bipush 10, 2) := by decide +kernel
theorem dX8_takeNumber_38 : decode cX8_takeNumber 38 = .ok (.imul, 1) := by decide +kernel
theorem dX8_takeNumber_39 : decode cX8_takeNumber 39 = .ok (.aload_n 0, 1) := by decide +kernel
theorem dX8_takeNumber_40 : decode cX8_takeNumber 40 = .ok (.getfield 9, 3) := by decide +kernel
theorem dX8_takeNumber_43 : decode cX8_takeNumber 43 = .ok (.aload_n 0, 1) := by decide +kernel
theorem dX8_takeNumber_44 : decode cX8_takeNumber 44 = .ok (.getfield 40, 3) := by decide +kernel
theorem dX8_takeNumber_47 : decode cX8_takeNumber 47 = .ok (.iaload, 1) := by decide +kernel
theorem dX8_takeNumber_48 : decode cX8_takeNumber 48 = .ok (.iadd, 1) := by decide +kernel
theorem dX8_takeNumber_49 : decode cX8_takeNumber 49 = .ok (.bipush 48, 2) := by decide +kernel
theorem dX8_takeNumber_51 : decode cX8_takeNumber 51 = .ok (.isub, 1) := by decide +kernel
theorem dX8_takeNumber_52 : decode cX8_takeNumber 52 = .ok (.sipush 1001, 3) := by decide +kernel
theorem dX8_takeNumber_55 : decode cX8_takeNumber 55 = .ok (.invokestatic 123, 3) := by decide +kernel
theorem dX8_takeNumber_58 : decode cX8_takeNumber 58 = .ok (.putfield 105, 3) := by decide +kernel
theorem dX8_takeNumber_61 : decode cX8_takeNumber 61 = .ok (.aload_n 0, 1) := by decide +kernel
theorem dX8_takeNumber_62 : decode cX8_takeNumber 62 = .ok (.dup, 1) := by decide +kernel
theorem dX8_takeNumber_63 : decode cX8_takeNumber 63 = .ok (.getfield 40, 3) := by decide +kernel
theorem dX8_takeNumber_66 : decode cX8_takeNumber 66 = .ok (.iconst 1, 1) := by decide +kernel
theorem dX8_takeNumber_67 : decode cX8_takeNumber 67 = .ok (.iadd, 1) := by decide +kernel
theorem dX8_takeNumber_68 : decode cX8_takeNumber 68 = .ok (.putfield 40, 3) := by decide +kernel
theorem dX8_takeNumber_71 : decode cX8_takeNumber 71 = .ok (.goto (-66), 3) := by decide +kernel
theorem dX8_takeNumber_74 : decode cX8_takeNumber 74 = .ok (.aload_n 0, 1) := by decide +kernel
theorem dX8_takeNumber_75 : decode cX8_takeNumber 75 = .ok (.sipush 257, 3) := by decide +kernel
theorem dX8_takeNumber_78 : decode cX8_takeNumber 78 = .ok (.putfield 63, 3) := by decide +kernel
theorem dX8_takeNumber_81 : decode cX8_takeNumber 81 = .ok (.return_, 1) := by decide +kernel
theorem dX8_wordNumber_0 : decode cX8_wordNumber 0 = .ok (.aload_n 0, 1) := by decide +kernel
theorem dX8_wordNumber_1 : decode cX8_wordNumber 1 = .ok (.ldc 128, 2) := by decide +kernel
theorem dX8_wordNumber_3 : decode cX8_wordNumber 3 = .ok (.invokevirtual 130, 3) := by decide +kernel
theorem dX8_wordNumber_6 : decode cX8_wordNumber 6 = .ok (.ifCond .eq 9, 3) := by decide +kernel
theorem dX8_wordNumber_9 : decode cX8_wordNumber 9 = .ok (.sipush 259, 3) := by decide +kernel
theorem dX8_wordNumber_12 : decode cX8_wordNumber 12 = .ok (.goto 201, 3) := by decide +kernel
theorem dX8_wordNumber_15 : decode cX8_wordNumber 15 = .ok (.aload_n 0, 1) := by decide +kernel
theorem dX8_wordNumber_16 : decode cX8_wordNumber 16 = .ok (.ldc 134, 2) := by decide +kernel
theorem dX8_wordNumber_18 : decode cX8_wordNumber 18 = .ok (.invokevirtual 130, 3) := by decide +kernel
theorem dX8_wordNumber_21 : decode cX8_wordNumber 21 = .ok (.ifCond .eq 9, 3) := by decide +kernel
theorem dX8_wordNumber_24 : decode cX8_wordNumber 24 = .ok (.sipush 260, 3) := by decide +kernel
theorem dX8_wordNumber_27 : decode cX8_wordNumber 27 = .ok (.goto 186, 3) := by decide +kernel
theorem dX8_wordNumber_30 : decode cX8_wordNumber 30 = .ok (.aload_n 0, 1) := by decide +kernel
theorem dX8_wordNumber_31 : decode cX8_wordNumber 31 = .ok (.ldc 136, 2) := by decide +kernel
theorem dX8_wordNumber_33 : decode cX8_wordNumber 33 = .ok (.invokevirtual 130, 3) := by decide +kernel
theorem dX8_wordNumber_36 : decode cX8_wordNumber 36 = .ok (.ifCond .eq 9, 3) := by decide +kernel
theorem dX8_wordNumber_39 : decode cX8_wordNumber 39 = .ok (.sipush 261, 3) := by decide +kernel
theorem dX8_wordNumber_42 : decode cX8_wordNumber 42 = .ok (.goto 171, 3) := by decide +kernel
theorem dX8_wordNumber_45 : decode cX8_wordNumber 45 = .ok (.aload_n 0, 1) := by decide +kernel
theorem dX8_wordNumber_46 : decode cX8_wordNumber 46 = .ok (.ldc 138, 2) := by decide +kernel
theorem dX8_wordNumber_48 : decode cX8_wordNumber 48 = .ok (.invokevirtual 130, 3) := by decide +kernel
theorem dX8_wordNumber_51 : decode cX8_wordNumber 51 = .ok (.ifCond .eq 9, 3) := by decide +kernel
theorem dX8_wordNumber_54 : decode cX8_wordNumber 54 = .ok (.sipush 262, 3) := by decide +kernel
theorem dX8_wordNumber_57 : decode cX8_wordNumber 57 = .ok (.goto 156, 3) := by decide +kernel
theorem dX8_wordNumber_60 : decode cX8_wordNumber 60 = .ok (.aload_n 0, 1) := by decide +kernel
theorem dX8_wordNumber_61 : decode cX8_wordNumber 61 = .ok (.ldc 140, 2) := by decide +kernel
theorem dX8_wordNumber_63 : decode cX8_wordNumber 63 = .ok (.invokevirtual 130, 3) := by decide +kernel
theorem dX8_wordNumber_66 : decode cX8_wordNumber 66 = .ok (.ifCond .eq 9, 3) := by decide +kernel
theorem dX8_wordNumber_69 : decode cX8_wordNumber 69 = .ok (.sipush 263, 3) := by decide +kernel
theorem dX8_wordNumber_72 : decode cX8_wordNumber 72 = .ok (.goto 141, 3) := by decide +kernel
theorem dX8_wordNumber_75 : decode cX8_wordNumber 75 = .ok (.aload_n 0, 1) := by decide +kernel
theorem dX8_wordNumber_76 : decode cX8_wordNumber 76 = .ok (.ldc 142, 2) := by decide +kernel
theorem dX8_wordNumber_78 : decode cX8_wordNumber 78 = .ok (.invokevirtual 130, 3) := by decide +kernel
theorem dX8_wordNumber_81 : decode cX8_wordNumber 81 = .ok (.ifCond .eq 9, 3) := by decide +kernel
theorem dX8_wordNumber_84 : decode cX8_wordNumber 84 = .ok (.sipush 264, 3) := by decide +kernel
theorem dX8_wordNumber_87 : decode cX8_wordNumber 87 = .ok (.goto 126, 3) := by decide +kernel
theorem dX8_wordNumber_90 : decode cX8_wordNumber 90 = .ok (.aload_n 0, 1) := by decide +kernel
theorem dX8_wordNumber_91 : decode cX8_wordNumber 91 = .ok (.ldc 144, 2) := by decide +kernel
theorem dX8_wordNumber_93 : decode cX8_wordNumber 93 = .ok (.invokevirtual 130, 3) := by decide +kernel
theorem dX8_wordNumber_96 : decode cX8_wordNumber 96 = .ok (.ifCond .eq 9, 3) := by decide +kernel
theorem dX8_wordNumber_99 : decode cX8_wordNumber 99 = .ok (.sipush 265, 3) := by decide +kernel
theorem dX8_wordNumber_102 : decode cX8_wordNumber 102 = .ok (.goto 111, 3) := by decide +kernel
theorem dX8_wordNumber_105 : decode cX8_wordNumber 105 = .ok (.aload_n 0, 1) := by decide +kernel
theorem dX8_wordNumber_106 : decode cX8_wordNumber 106 = .ok (.ldc 146, 2) := by decide +kernel
theorem dX8_wordNumber_108 : decode cX8_wordNumber 108 = .ok (.invokevirtual 130, 3) := by decide +kernel
theorem dX8_wordNumber_111 : decode cX8_wordNumber 111 = .ok (.ifCond .eq 9, 3) := by decide +kernel
theorem dX8_wordNumber_114 : decode cX8_wordNumber 114 = .ok (.sipush 266, 3) := by decide +kernel
theorem dX8_wordNumber_117 : decode cX8_wordNumber 117 = .ok (.goto 96, 3) := by decide +kernel
theorem dX8_wordNumber_120 : decode cX8_wordNumber 120 = .ok (.aload_n 0, 1) := by decide +kernel
theorem dX8_wordNumber_121 : decode cX8_wordNumber 121 = .ok (.ldc 148, 2) := by decide +kernel
theorem dX8_wordNumber_123 : decode cX8_wordNumber 123 = .ok (.invokevirtual 130, 3) := by decide +kernel
theorem dX8_wordNumber_126 : decode cX8_wordNumber 126 = .ok (.ifCond .eq 9, 3) := by decide +kernel
theorem dX8_wordNumber_129 : decode cX8_wordNumber 129 = .ok (.sipush 267, 3) := by decide +kernel
theorem dX8_wordNumber_132 : decode cX8_wordNumber 132 = .ok (.goto 81, 3) := by decide +kernel
theorem dX8_wordNumber_135 : decode cX8_wordNumber 135 = .ok (.aload_n 0, 1) := by decide +kernel
theorem dX8_wordNumber_136 : decode cX8_wordNumber 136 = .ok (.ldc 150, 2) := by decide +kernel
theorem dX8_wordNumber_138 : decode cX8_wordNumber 138 = .ok (.invokevirtual 130, 3) := by decide +kernel
theorem dX8_wordNumber_141 : decode cX8_wordNumber 141 = .ok (.ifCond .eq 9, 3) := by decide +kernel
theorem dX8_wordNumber_144 : decode cX8_wordNumber 144 = .ok (.sipush 268, 3) := by decide +kernel
theorem dX8_wordNumber_147 : decode cX8_wordNumber 147 = .ok (.goto 66, 3) := by decide +kernel
theorem dX8_wordNumber_150 : decode cX8_wordNumber 150 = .ok (.aload_n 0, 1) := by decide +kernel
theorem dX8_wordNumber_151 : decode cX8_wordNumber 151 = .ok (.ldc 152, 2) := by decide +kernel
theorem dX8_wordNumber_153 : decode cX8_wordNumber 153 = .ok (.invokevirtual 130, 3) := by decide +kernel
theorem dX8_wordNumber_156 : decode cX8_wordNumber 156 = .ok (.ifCond .eq 9, 3) := by decide +kernel
theorem dX8_wordNumber_159 : decode cX8_wordNumber 159 = .ok (.sipush 269, 3) := by decide +kernel
theorem dX8_wordNumber_162 : decode cX8_wordNumber 162 = .ok (.goto 51, 3) := by decide +kernel
theorem dX8_wordNumber_165 : decode cX8_wordNumber 165 = .ok (.aload_n 0, 1) := by decide +kernel
theorem dX8_wordNumber_166 : decode cX8_wordNumber 166 = .ok (.ldc 154, 2) := by decide +kernel
theorem dX8_wordNumber_168 : decode cX8_wordNumber 168 = .ok (.invokevirtual 130, 3) := by decide +kernel
theorem dX8_wordNumber_171 : decode cX8_wordNumber 171 = .ok (.ifCond .eq 9, 3) := by decide +kernel
theorem dX8_wordNumber_174 : decode cX8_wordNumber 174 = .ok (.sipush 270, 3) := by decide +kernel
theorem dX8_wordNumber_177 : decode cX8_wordNumber 177 = .ok (.goto 36, 3) := by decide +kernel
theorem dX8_wordNumber_180 : decode cX8_wordNumber 180 = .ok (.aload_n 0, 1) := by decide +kernel
theorem dX8_wordNumber_181 : decode cX8_wordNumber 181 = .ok (.ldc 156, 2) := by decide +kernel
theorem dX8_wordNumber_183 : decode cX8_wordNumber 183 = .ok (.invokevirtual 130, 3) := by decide +kernel
theorem dX8_wordNumber_186 : decode cX8_wordNumber 186 = .ok (.ifCond .eq 9, 3) := by decide +kernel
theorem dX8_wordNumber_189 : decode cX8_wordNumber 189 = .ok (.sipush 271, 3) := by decide +kernel
theorem dX8_wordNumber_192 : decode cX8_wordNumber 192 = .ok (.goto 21, 3) := by decide +kernel
theorem dX8_wordNumber_195 : decode cX8_wordNumber 195 = .ok (.aload_n 0, 1) := by decide +kernel
theorem dX8_wordNumber_196 : decode cX8_wordNumber 196 = .ok (.ldc 158, 2) := by decide +kernel
theorem dX8_wordNumber_198 : decode cX8_wordNumber 198 = .ok (.invokevirtual 130, 3) := by decide +kernel
theorem dX8_wordNumber_201 : decode cX8_wordNumber 201 = .ok (.ifCond .eq 9, 3) := by decide +kernel
theorem dX8_wordNumber_204 : decode cX8_wordNumber 204 = .ok (.sipush 272, 3) := by decide +kernel
theorem dX8_wordNumber_207 : decode cX8_wordNumber 207 = .ok (.goto 6, 3) := by decide +kernel
theorem dX8_wordNumber_210 : decode cX8_wordNumber 210 = .ok (.sipush 258, 3) := by decide +kernel
theorem dX8_wordNumber_213 : decode cX8_wordNumber 213 = .ok (.ireturn, 1) := by decide +kernel
theorem dX8_spells_0 : decode cX8_spells 0 = .ok (.aload_n 0, 1) := by decide +kernel
theorem dX8_spells_1 : decode cX8_spells 1 = .ok (.getfield 40, 3) := by decide +kernel
theorem dX8_spells_4 : decode cX8_spells 4 = .ok (.aload_n 0, 1) := by decide +kernel
theorem dX8_spells_5 : decode cX8_spells 5 = .ok (.getfield 108, 3) := by decide +kernel
theorem dX8_spells_8 : decode cX8_spells 8 = .ok (.isub, 1) := by decide +kernel
theorem dX8_spells_9 : decode cX8_spells 9 = .ok (.aload_n 1, 1) := by decide +kernel
theorem dX8_spells_10 : decode cX8_spells 10 = .ok (.invokevirtual 160, 3) := by decide +kernel
theorem dX8_spells_13 : decode cX8_spells 13 = .ok (.if_icmp .eq 5, 3) := by decide +kernel
theorem dX8_spells_16 : decode cX8_spells 16 = .ok (.iconst 0, 1) := by decide +kernel
theorem dX8_spells_17 : decode cX8_spells 17 = .ok (.ireturn, 1) := by decide +kernel
theorem dX8_spells_18 : decode cX8_spells 18 = .ok (.iconst 0, 1) := by decide +kernel
theorem dX8_spells_19 : decode cX8_spells 19 = .ok (.istore_n 2, 1) := by decide +kernel
theorem dX8_spells_20 : decode cX8_spells 20 = .ok (.iload_n 2, 1) := by decide +kernel
theorem dX8_spells_21 : decode cX8_spells 21 = .ok (.aload_n 1, 1) := by decide +kernel
theorem dX8_spells_22 : decode cX8_spells 22 = .ok (.invokevirtual 160, 3) := by decide +kernel
theorem dX8_spells_25 : decode cX8_spells 25 = .ok (.if_icmp .ge 30, 3) := by decide +kernel
theorem dX8_spells_28 : decode cX8_spells 28 = .ok (.aload_n 0, 1) := by decide +kernel
theorem dX8_spells_29 : decode cX8_spells 29 = .ok (.getfield 9, 3) := by decide +kernel
theorem dX8_spells_32 : decode cX8_spells 32 = .ok (.aload_n 0, 1) := by decide +kernel
theorem dX8_spells_33 : decode cX8_spells 33 = .ok (.getfield 108, 3) := by decide +kernel
theorem dX8_spells_36 : decode cX8_spells 36 = .ok (.iload_n 2, 1) := by decide +kernel
theorem dX8_spells_37 : decode cX8_spells 37 = .ok (.iadd, 1) := by decide +kernel
theorem dX8_spells_38 : decode cX8_spells 38 = .ok (.iaload, 1) := by decide +kernel
theorem dX8_spells_39 : decode cX8_spells 39 = .ok (.aload_n 1, 1) := by decide +kernel
theorem dX8_spells_40 : decode cX8_spells 40 = .ok (.iload_n 2, 1) := by decide +kernel
theorem dX8_spells_41 : decode cX8_spells 41 = .ok (.invokevirtual 164, 3) := by decide +kernel
theorem dX8_spells_44 : decode cX8_spells 44 = .ok (.if_icmp .eq 5, 3) := by decide +kernel
theorem dX8_spells_47 : decode cX8_spells 47 = .ok (.iconst 0, 1) := by decide +kernel
theorem dX8_spells_48 : decode cX8_spells 48 = .ok (.ireturn, 1) := by decide +kernel
theorem dX8_spells_49 : decode cX8_spells 49 = .ok (.iinc 2 1, 3) := by decide +kernel
theorem dX8_spells_52 : decode cX8_spells 52 = .ok (.goto (-32), 3) := by decide +kernel
theorem dX8_spells_55 : decode cX8_spells 55 = .ok (.iconst 1, 1) := by decide +kernel
theorem dX8_spells_56 : decode cX8_spells 56 = .ok (.ireturn, 1) := by decide +kernel
theorem dX8_isLetter_0 : decode cX8_isLetter 0 = .ok (.iload_n 0, 1) := by decide +kernel
theorem dX8_isLetter_1 : decode cX8_isLetter 1 = .ok (.bipush 97, 2) := by decide +kernel
theorem dX8_isLetter_3 : decode cX8_isLetter 3 = .ok (.if_icmp .lt 13, 3) := by decide +kernel
theorem dX8_isLetter_6 : decode cX8_isLetter 6 = .ok (.iload_n 0, 1) := by decide +kernel
theorem dX8_isLetter_7 : decode cX8_isLetter 7 = .ok (.bipush 122, 2) := by decide +kernel
theorem dX8_isLetter_9 : decode cX8_isLetter 9 = .ok (.if_icmp .gt 7, 3) := by decide +kernel
theorem dX8_isLetter_12 : decode cX8_isLetter 12 = .ok (.iconst 1, 1) := by decide +kernel
theorem dX8_isLetter_13 : decode cX8_isLetter 13 = .ok (.goto 4, 3) := by decide +kernel
theorem dX8_isLetter_16 : decode cX8_isLetter 16 = .ok (.iconst 0, 1) := by decide +kernel
theorem dX8_isLetter_17 : decode cX8_isLetter 17 = .ok (.ireturn, 1) := by decide +kernel
theorem dX8_isDigit_0 : decode cX8_isDigit 0 = .ok (.iload_n 0, 1) := by decide +kernel
theorem dX8_isDigit_1 : decode cX8_isDigit 1 = .ok (.bipush 48, 2) := by decide +kernel
theorem dX8_isDigit_3 : decode cX8_isDigit 3 = .ok (.if_icmp .lt 13, 3) := by decide +kernel
theorem dX8_isDigit_6 : decode cX8_isDigit 6 = .ok (.iload_n 0, 1) := by decide +kernel
theorem dX8_isDigit_7 : decode cX8_isDigit 7 = .ok (.bipush 57, 2) := by decide +kernel
theorem dX8_isDigit_9 : decode cX8_isDigit 9 = .ok (.if_icmp .gt 7, 3) := by decide +kernel
theorem dX8_isDigit_12 : decode cX8_isDigit 12 = .ok (.iconst 1, 1) := by decide +kernel
theorem dX8_isDigit_13 : decode cX8_isDigit 13 = .ok (.goto 4, 3) := by decide +kernel
theorem dX8_isDigit_16 : decode cX8_isDigit 16 = .ok (.iconst 0, 1) := by decide +kernel
theorem dX8_isDigit_17 : decode cX8_isDigit 17 = .ok (.ireturn, 1) := by decide +kernel
theorem dX9_init_0 : decode cX9_init 0 = .ok (.aload_n 0, 1) := by decide +kernel
theorem dX9_init_1 : decode cX9_init 1 = .ok (.invokespecial 3, 3) := by decide +kernel
theorem dX9_init_4 : decode cX9_init 4 = .ok (.aload_n 0, 1) := by decide +kernel
theorem dX9_init_5 : decode cX9_init 5 = .ok (.bipush 30, 2) := by decide +kernel
theorem dX9_init_7 : decode cX9_init 7 = .ok (.newarray .int, 2) := by decide +kernel
theorem dX9_init_9 : decode cX9_init 9 = .ok (.putfield 9, 3) := by decide +kernel
theorem dX9_init_12 : decode cX9_init 12 = .ok (.aload_n 0, 1) := by decide +kernel
theorem dX9_init_13 : decode cX9_init 13 = .ok (.bipush 120, 2) := by decide +kernel
theorem dX9_init_15 : decode cX9_init 15 = .ok (.newarray .long, 2) := by decide +kernel
theorem dX9_init_17 : decode cX9_init 17 = .ok (.putfield 15, 3) := by decide +kernel
theorem dX9_init_20 : decode cX9_init 20 = .ok (.aload_n 0, 1) := by decide +kernel
theorem dX9_init_21 : decode cX9_init 21 = .ok (.bipush 124, 2) := by decide +kernel
theorem dX9_init_23 : decode cX9_init 23 = .ok (.newarray .long, 2) := by decide +kernel
theorem dX9_init_25 : decode cX9_init 25 = .ok (.putfield 19, 3) := by decide +kernel
theorem dX9_init_28 : decode cX9_init 28 = .ok (.aload_n 0, 1) := by decide +kernel
theorem dX9_init_29 : decode cX9_init 29 = .ok (.sipush 1024, 3) := by decide +kernel
theorem dX9_init_32 : decode cX9_init 32 = .ok (.newarray .long, 2) := by decide +kernel
theorem dX9_init_34 : decode cX9_init 34 = .ok (.putfield 22, 3) := by decide +kernel
theorem dX9_init_37 : decode cX9_init 37 = .ok (.aload_n 0, 1) := by decide +kernel
theorem dX9_init_38 : decode cX9_init 38 = .ok (.sipush 256, 3) := by decide +kernel
theorem dX9_init_41 : decode cX9_init 41 = .ok (.newarray .int, 2) := by decide +kernel
theorem dX9_init_43 : decode cX9_init 43 = .ok (.putfield 25, 3) := by decide +kernel
theorem dX9_init_46 : decode cX9_init 46 = .ok (.aload_n 0, 1) := by decide +kernel
theorem dX9_init_47 : decode cX9_init 47 = .ok (.sipush 256, 3) := by decide +kernel
theorem dX9_init_50 : decode cX9_init 50 = .ok (.newarray .int, 2) := by decide +kernel
theorem dX9_init_52 : decode cX9_init 52 = .ok (.putfield 28, 3) := by decide +kernel
theorem dX9_init_55 : decode cX9_init 55 = .ok (.return_, 1) := by decide +kernel
theorem dX9_begin_0 : decode cX9_begin 0 = .ok (.aload_n 0, 1) := by decide +kernel
theorem dX9_begin_1 : decode cX9_begin 1 = .ok (.iload_n 1, 1) := by decide +kernel
theorem dX9_begin_2 : decode cX9_begin 2 = .ok (.putfield 31, 3) := by decide +kernel
theorem dX9_begin_5 : decode cX9_begin 5 = .ok (.aload_n 0, 1) := by decide +kernel
theorem dX9_begin_6 : decode cX9_begin 6 = .ok (.iconst 1, 1) := by decide +kernel
theorem dX9_begin_7 : decode cX9_begin 7 = .ok (.iload_n 1, 1) := by decide +kernel
theorem dX9_begin_8 : decode cX9_begin 8 = .ok (.ishl, 1) := by decide +kernel
theorem dX9_begin_9 : decode cX9_begin 9 = .ok (.iconst 1, 1) := by decide +kernel
theorem dX9_begin_10 : decode cX9_begin 10 = .ok (.isub, 1) := by decide +kernel
theorem dX9_begin_11 : decode cX9_begin 11 = .ok (.putfield 35, 3) := by decide +kernel
theorem dX9_begin_14 : decode cX9_begin 14 = .ok (.aload_n 0, 1) := by decide +kernel
theorem dX9_begin_15 : decode cX9_begin 15 = .ok (.iconst 0, 1) := by decide +kernel
theorem dX9_begin_16 : decode cX9_begin 16 = .ok (.putfield 38, 3) := by decide +kernel
theorem dX9_begin_19 : decode cX9_begin 19 = .ok (.aload_n 0, 1) := by decide +kernel
theorem dX9_begin_20 : decode cX9_begin 20 = .ok (.iconst 0, 1) := by decide +kernel
theorem dX9_begin_21 : decode cX9_begin 21 = .ok (.putfield 41, 3) := by decide +kernel
theorem dX9_begin_24 : decode cX9_begin 24 = .ok (.aload_n 0, 1) := by decide +kernel
theorem dX9_begin_25 : decode cX9_begin 25 = .ok (.iload_n 1, 1) := by decide +kernel
theorem dX9_begin_26 : decode cX9_begin 26 = .ok (.ifCond .le 7, 3) := by decide +kernel
theorem dX9_begin_29 : decode cX9_begin 29 = .ok (.iconst 1, 1) := by decide +kernel
theorem dX9_begin_30 : decode cX9_begin 30 = .ok (.goto 4, 3) := by decide +kernel
theorem dX9_begin_33 : decode cX9_begin 33 = .ok (.iconst 0, 1) := by decide +kernel
theorem dX9_begin_34 : decode cX9_begin 34 = .ok (.putfield 44, 3) := by decide +kernel
theorem dX9_begin_37 : decode cX9_begin 37 = .ok (.aload_n 0, 1) := by decide +kernel
theorem dX9_begin_38 : decode cX9_begin 38 = .ok (.invokevirtual 48, 3) := by decide +kernel
theorem dX9_begin_41 : decode cX9_begin 41 = .ok (.return_, 1) := by decide +kernel
theorem dX9_takeDay_0 : decode cX9_takeDay 0 = .ok (.aload_n 0, 1) := by decide +kernel
theorem dX9_takeDay_1 : decode cX9_takeDay 1 = .ok (.getfield 41, 3) := by decide +kernel
theorem dX9_takeDay_4 : decode cX9_takeDay 4 = .ok (.bipush 30, 2) := by decide +kernel
theorem dX9_takeDay_6 : decode cX9_takeDay 6 = .ok (.if_icmp .lt 9, 3) := by decide +kernel
theorem dX9_takeDay_9 : decode cX9_takeDay 9 = .ok (.aload_n 0, 1) := by decide +kernel
theorem dX9_takeDay_10 : decode cX9_takeDay 10 = .ok (.iconst 0, 1) := by decide +kernel
theorem dX9_takeDay_11 : decode cX9_takeDay 11 = .ok (.putfield 44, 3) := by decide +kernel
theorem dX9_takeDay_14 : decode cX9_takeDay 14 = .ok (.return_, 1) := by decide +kernel
theorem dX9_takeDay_15 : decode cX9_takeDay 15 = .ok (.aload_n 0, 1) := by decide +kernel
theorem dX9_takeDay_16 : decode cX9_takeDay 16 = .ok (.aload_n 1, 1) := by decide +kernel
theorem dX9_takeDay_17 : decode cX9_takeDay 17 = .ok (.invokevirtual 51, 3) := by decide +kernel
theorem dX9_takeDay_20 : decode cX9_takeDay 20 = .ok (.aload_n 0, 1) := by decide +kernel
theorem dX9_takeDay_21 : decode cX9_takeDay 21 = .ok (.getfield 22, 3) := by decide +kernel
theorem dX9_takeDay_24 : decode cX9_takeDay 24 = .ok (.aload_n 0, 1) := by decide +kernel
theorem dX9_takeDay_25 : decode cX9_takeDay 25 = .ok (.getfield 35, 3) := by decide +kernel
theorem dX9_takeDay_28 : decode cX9_takeDay 28 = .ok (.iconst 4, 1) := by decide +kernel
theorem dX9_takeDay_29 : decode cX9_takeDay 29 = .ok (.imul, 1) := by decide +kernel
theorem dX9_takeDay_30 : decode cX9_takeDay 30 = .ok (.aload_n 0, 1) := by decide +kernel
theorem dX9_takeDay_31 : decode cX9_takeDay 31 = .ok (.getfield 15, 3) := by decide +kernel
theorem dX9_takeDay_34 : decode cX9_takeDay 34 = .ok (.aload_n 0, 1) := by decide +kernel
theorem dX9_takeDay_35 : decode cX9_takeDay 35 = .ok (.getfield 41, 3) := by decide +kernel
theorem dX9_takeDay_38 : decode cX9_takeDay 38 = .ok (.iconst 4, 1) := by decide +kernel
theorem dX9_takeDay_39 : decode cX9_takeDay 39 = .ok (.imul, 1) := by decide +kernel
theorem dX9_takeDay_40 : decode cX9_takeDay 40 = .ok (.iconst 4, 1) := by decide +kernel
theorem dX9_takeDay_41 : decode cX9_takeDay 41 = .ok (.invokestatic 55, 3) := by decide +kernel
theorem dX9_takeDay_44 : decode cX9_takeDay 44 = .ok (.aload_n 0, 1) := by decide +kernel
theorem dX9_takeDay_45 : decode cX9_takeDay 45 = .ok (.dup, 1) := by decide +kernel
theorem dX9_takeDay_46 : decode cX9_takeDay 46 = .ok (.getfield 41, 3) := by decide +kernel
theorem dX9_takeDay_49 : decode cX9_takeDay 49 = .ok (.iconst 1, 1) := by decide +kernel
theorem dX9_takeDay_50 : decode cX9_takeDay 50 = .ok (.iadd, 1) := by decide +kernel
theorem dX9_takeDay_51 : decode cX9_takeDay 51 = .ok (.putfield 41, 3) := by decide +kernel
theorem dX9_takeDay_54 : decode cX9_takeDay 54 = .ok (.aload_n 0, 1) := by decide +kernel
theorem dX9_takeDay_55 : decode cX9_takeDay 55 = .ok (.aload_n 0, 1) := by decide +kernel
theorem dX9_takeDay_56 : decode cX9_takeDay 56 = .ok (.getfield 41, 3) := by decide +kernel
theorem dX9_takeDay_59 : decode cX9_takeDay 59 = .ok (.iconst 1, 1) := by decide +kernel
theorem dX9_takeDay_60 : decode cX9_takeDay 60 = .ok (.isub, 1) := by decide +kernel
theorem dX9_takeDay_61 : decode cX9_takeDay 61 = .ok (.invokevirtual 61, 3) := by decide +kernel
theorem dX9_takeDay_64 : decode cX9_takeDay 64 = .ok (.aload_n 0, 1) := by decide +kernel
theorem dX9_takeDay_65 : decode cX9_takeDay 65 = .ok (.getfield 25, 3) := by decide +kernel
theorem dX9_takeDay_68 : decode cX9_takeDay 68 = .ok (.aload_n 0, 1) := by decide +kernel
theorem dX9_takeDay_69 : decode cX9_takeDay 69 = .ok (.getfield 35, 3) := by decide +kernel
theorem dX9_takeDay_72 : decode cX9_takeDay 72 = .ok (.iaload, 1) := by decide +kernel
theorem dX9_takeDay_73 : decode cX9_takeDay 73 = .ok (.ifCond .eq 11, 3) := by decide +kernel
theorem dX9_takeDay_76 : decode cX9_takeDay 76 = .ok (.aload_n 0, 1) := by decide +kernel
theorem dX9_takeDay_77 : decode cX9_takeDay 77 = .ok (.aload_n 0, 1) := by decide +kernel
theorem dX9_takeDay_78 : decode cX9_takeDay 78 = .ok (.getfield 41, 3) := by decide +kernel
theorem dX9_takeDay_81 : decode cX9_takeDay 81 = .ok (.putfield 38, 3) := by decide +kernel
theorem dX9_takeDay_84 : decode cX9_takeDay 84 = .ok (.aload_n 0, 1) := by decide +kernel
theorem dX9_takeDay_85 : decode cX9_takeDay 85 = .ok (.aload_n 0, 1) := by decide +kernel
theorem dX9_takeDay_86 : decode cX9_takeDay 86 = .ok (.getfield 38, 3) := by decide +kernel
theorem dX9_takeDay_89 : decode cX9_takeDay 89 = .ok (.ifCond .ne 20, 3) := by decide +kernel
theorem dX9_takeDay_92 : decode cX9_takeDay 92 = .ok (.aload_n 0, 1) := by decide +kernel
theorem dX9_takeDay_93 : decode cX9_takeDay 93 = .ok (.aload_n 0, 1) := by decide +kernel
theorem dX9_takeDay_94 : decode cX9_takeDay 94 = .ok (.getfield 41, 3) := by decide +kernel
theorem dX9_takeDay_97 : decode cX9_takeDay 97 = .ok (.iconst 1, 1) := by decide +kernel
theorem dX9_takeDay_98 : decode cX9_takeDay 98 = .ok (.isub, 1) := by decide +kernel
theorem dX9_takeDay_99 : decode cX9_takeDay 99 = .ok (.invokevirtual 65, 3) := by decide +kernel
theorem dX9_takeDay_102 : decode cX9_takeDay 102 = .ok (.ifCond .ne 7, 3) := by decide +kernel
theorem dX9_takeDay_105 : decode cX9_takeDay 105 = .ok (.iconst 1, 1) := by decide +kernel
theorem dX9_takeDay_106 : decode cX9_takeDay 106 = .ok (.goto 4, 3) := by decide +kernel
theorem dX9_takeDay_109 : decode cX9_takeDay 109 = .ok (.iconst 0, 1) := by decide +kernel
theorem dX9_takeDay_110 : decode cX9_takeDay 110 = .ok (.putfield 44, 3) := by decide +kernel
theorem dX9_takeDay_113 : decode cX9_takeDay 113 = .ok (.return_, 1) := by decide +kernel
theorem dX9_findWay_0 : decode cX9_findWay 0 = .ok (.aload_n 0, 1) := by decide +kernel
theorem dX9_findWay_1 : decode cX9_findWay 1 = .ok (.iconst 1, 1) := by decide +kernel
theorem dX9_findWay_2 : decode cX9_findWay 2 = .ok (.putfield 69, 3) := by decide +kernel
theorem dX9_findWay_5 : decode cX9_findWay 5 = .ok (.aload_n 0, 1) := by decide +kernel
theorem dX9_findWay_6 : decode cX9_findWay 6 = .ok (.getfield 38, 3) := by decide +kernel
theorem dX9_findWay_9 : decode cX9_findWay 9 = .ok (.ifCond .ne 4, 3) := by decide +kernel
theorem dX9_findWay_12 : decode cX9_findWay 12 = .ok (.return_, 1) := by decide +kernel
theorem dX9_findWay_13 : decode cX9_findWay 13 = .ok (.aload_n 0, 1) := by decide +kernel
theorem dX9_findWay_14 : decode cX9_findWay 14 = .ok (.invokevirtual 72, 3) := by decide +kernel
theorem dX9_findWay_17 : decode cX9_findWay 17 = .ok (.iconst 0, 1) := by decide +kernel
theorem dX9_findWay_18 : decode cX9_findWay 18 = .ok (.istore_n 1, 1) := by decide +kernel
theorem dX9_findWay_19 : decode cX9_findWay 19 = .ok (.iconst 0, 1) := by decide +kernel
theorem dX9_findWay_20 : decode cX9_findWay 20 = .ok (.istore_n 2, 1) := by decide +kernel
theorem dX9_findWay_21 : decode cX9_findWay 21 = .ok (.iload_n 2, 1) := by decide +kernel
theorem dX9_findWay_22 : decode cX9_findWay 22 = .ok (.aload_n 0, 1) := by decide +kernel
theorem dX9_findWay_23 : decode cX9_findWay 23 = .ok (.getfield 38, 3) := by decide +kernel
theorem dX9_findWay_26 : decode cX9_findWay 26 = .ok (.if_icmp .ge 23, 3) := by decide +kernel
theorem dX9_findWay_29 : decode cX9_findWay 29 = .ok (.aload_n 0, 1) := by decide +kernel
theorem dX9_findWay_30 : decode cX9_findWay 30 = .ok (.iload_n 1, 1) := by decide +kernel
theorem dX9_findWay_31 : decode cX9_findWay 31 = .ok (.iload_n 2, 1) := by decide +kernel
theorem dX9_findWay_32 : decode cX9_findWay 32 = .ok (.invokevirtual 75, 3) := by decide +kernel
theorem dX9_findWay_35 : decode cX9_findWay 35 = .ok (.istore_n 1, 1) := by decide +kernel
theorem dX9_findWay_36 : decode cX9_findWay 36 = .ok (.aload_n 0, 1) := by decide +kernel
theorem dX9_findWay_37 : decode cX9_findWay 37 = .ok (.getfield 9, 3) := by decide +kernel
theorem dX9_findWay_40 : decode cX9_findWay 40 = .ok (.iload_n 2, 1) := by decide +kernel
theorem dX9_findWay_41 : decode cX9_findWay 41 = .ok (.iload_n 1, 1) := by decide +kernel
theorem dX9_findWay_42 : decode cX9_findWay 42 = .ok (.iastore, 1) := by decide +kernel
theorem dX9_findWay_43 : decode cX9_findWay 43 = .ok (.iinc 2 1, 3) := by decide +kernel
theorem dX9_findWay_46 : decode cX9_findWay 46 = .ok (.goto (-25), 3) := by decide +kernel
theorem dX9_findWay_49 : decode cX9_findWay 49 = .ok (.return_, 1) := by decide +kernel
theorem dX9_lowestBehind_0 : decode cX9_lowestBehind 0 = .ok (.aload_n 0, 1) := by decide +kernel
theorem dX9_lowestBehind_1 : decode cX9_lowestBehind 1 = .ok (.getfield 35, 3) := by decide +kernel
theorem dX9_lowestBehind_4 : decode cX9_lowestBehind 4 = .ok (.istore_n 3, 1) := by decide +kernel
theorem dX9_lowestBehind_5 : decode cX9_lowestBehind 5 = .ok (.iconst 0, 1) := by decide +kernel
theorem dX9_lowestBehind_6 : decode cX9_lowestBehind 6 = .ok (.istore 4, 2) := by decide +kernel
theorem dX9_lowestBehind_8 : decode cX9_lowestBehind 8 = .ok (.iload 4, 2) := by decide +kernel
theorem dX9_lowestBehind_10 : decode cX9_lowestBehind 10 = .ok (.aload_n 0, 1) := by decide +kernel
theorem dX9_lowestBehind_11 : decode cX9_lowestBehind 11 = .ok (.getfield 35, 3) := by decide +kernel
theorem dX9_lowestBehind_14 : decode cX9_lowestBehind 14 = .ok (.if_icmp .gt 59, 3) := by decide +kernel
theorem dX9_lowestBehind_17 : decode cX9_lowestBehind 17 = .ok (.iload_n 1, 1) := by decide +kernel
theorem dX9_lowestBehind_18 : decode cX9_lowestBehind 18 = .ok (.iload 4, 2) := by decide +kernel
theorem dX9_lowestBehind_20 : decode cX9_lowestBehind 20 = .ok (.ior, 1) := by decide +kernel
theorem dX9_lowestBehind_21 : decode cX9_lowestBehind 21 = .ok (.istore 5, 2) := by decide +kernel
theorem dX9_lowestBehind_23 : decode cX9_lowestBehind 23 = .ok (.iload 5, 2) := by decide +kernel
theorem dX9_lowestBehind_25 : decode cX9_lowestBehind 25 = .ok (.iload_n 3, 1) := by decide +kernel
theorem dX9_lowestBehind_26 : decode cX9_lowestBehind 26 = .ok (.if_icmp .ge 41, 3) := by decide +kernel
theorem dX9_lowestBehind_29 : decode cX9_lowestBehind 29 = .ok (.aload_n 0, 1) := by decide +kernel
theorem dX9_lowestBehind_30 : decode cX9_lowestBehind 30 = .ok (.getfield 15, 3) := by decide +kernel
theorem dX9_lowestBehind_33 : decode cX9_lowestBehind 33 = .ok (.iload_n 2, 1) := by decide +kernel
theorem dX9_lowestBehind_34 : decode cX9_lowestBehind 34 = .ok (.iload 4, 2) := by decide +kernel
theorem dX9_lowestBehind_36 : decode cX9_lowestBehind 36 = .ok (.invokestatic 79, 3) := by decide +kernel
theorem dX9_lowestBehind_39 : decode cX9_lowestBehind 39 = .ok (.ifCond .eq 28, 3) := by decide +kernel
theorem dX9_lowestBehind_42 : decode cX9_lowestBehind 42 = .ok (.aload_n 0, 1) := by decide +kernel
theorem dX9_lowestBehind_43 : decode cX9_lowestBehind 43 = .ok (.getfield 19, 3) := by decide +kernel
theorem dX9_lowestBehind_46 : decode cX9_lowestBehind 46 = .ok (.iload_n 2, 1) := by decide +kernel
theorem dX9_lowestBehind_47 : decode cX9_lowestBehind 47 = .ok (.iconst 1, 1) := by decide +kernel
theorem dX9_lowestBehind_48 : decode cX9_lowestBehind 48 = .ok (.iadd, 1) := by decide +kernel
theorem dX9_lowestBehind_49 : decode cX9_lowestBehind 49 = .ok (.aload_n 0, 1) := by decide +kernel
theorem dX9_lowestBehind_50 : decode cX9_lowestBehind 50 = .ok (.getfield 35, 3) := by decide +kernel
theorem dX9_lowestBehind_53 : decode cX9_lowestBehind 53 = .ok (.iload 5, 2) := by decide +kernel
theorem dX9_lowestBehind_55 : decode cX9_lowestBehind 55 = .ok (.iconst (-1), 1) := by decide +kernel
theorem dX9_lowestBehind_56 : decode cX9_lowestBehind 56 = .ok (.ixor, 1) := by decide +kernel
theorem dX9_lowestBehind_57 : decode cX9_lowestBehind 57 = .ok (.iand, 1) := by decide +kernel
theorem dX9_lowestBehind_58 : decode cX9_lowestBehind 58 = .ok (.invokestatic 79, 3) := by decide +kernel
theorem dX9_lowestBehind_61 : decode cX9_lowestBehind 61 = .ok (.ifCond .eq 6, 3) := by decide +kernel
theorem dX9_lowestBehind_64 : decode cX9_lowestBehind 64 = .ok (.iload 5, 2) := by decide +kernel
theorem dX9_lowestBehind_66 : decode cX9_lowestBehind 66 = .ok (.istore_n 3, 1) := by decide +kernel
theorem dX9_lowestBehind_67 : decode cX9_lowestBehind 67 = .ok (.iinc 4 1, 3) := by decide +kernel
theorem dX9_lowestBehind_70 : decode cX9_lowestBehind 70 = .ok (.goto (-62), 3) := by decide +kernel
theorem dX9_lowestBehind_73 : decode cX9_lowestBehind 73 = .ok (.iload_n 3, 1) := by decide +kernel
theorem dX9_lowestBehind_74 : decode cX9_lowestBehind 74 = .ok (.ireturn, 1) := by decide +kernel
theorem dX9_goThroughOrders_0 : decode cX9_goThroughOrders 0 = .ok (.aload_n 0, 1) := by decide +kernel
theorem dX9_goThroughOrders_1 : decode cX9_goThroughOrders 1 = .ok (.getfield 22, 3) := by decide +kernel
theorem dX9_goThroughOrders_4 : decode cX9_goThroughOrders 4 = .ok (.lconst 0, 1) := by decide +kernel
theorem dX9_goThroughOrders_5 : decode cX9_goThroughOrders 5 = .ok (.invokestatic 83, 3) := by decide +kernel
theorem dX9_goThroughOrders_8 : decode cX9_goThroughOrders 8 = .ok (.aload_n 0, 1) := by decide +kernel
theorem dX9_goThroughOrders_9 : decode cX9_goThroughOrders 9 = .ok (.getfield 22, 3) := by decide +kernel
theorem dX9_goThroughOrders_12 : decode cX9_goThroughOrders 12 = .ok (.iconst 0, 1) := by decide +kernel
theorem dX9_goThroughOrders_13 : decode cX9_goThroughOrders 13 = .ok (.lconst 1, 1) := by decide +kernel
theorem dX9_goThroughOrders_14 : decode cX9_goThroughOrders 14 = .ok (.lastore, 1) := by decide +kernel
theorem dX9_goThroughOrders_15 : decode cX9_goThroughOrders 15 = .ok (.iconst 0, 1) := by decide +kernel
theorem dX9_goThroughOrders_16 : decode cX9_goThroughOrders 16 = .ok (.istore_n 2, 1) := by decide +kernel
theorem dX9_goThroughOrders_17 : decode cX9_goThroughOrders 17 = .ok (.iload_n 2, 1) := by decide +kernel
theorem dX9_goThroughOrders_18 : decode cX9_goThroughOrders 18 = .ok (.aload_n 0, 1) := by decide +kernel
theorem dX9_goThroughOrders_19 : decode cX9_goThroughOrders 19 = .ok (.getfield 35, 3) := by decide +kernel
theorem dX9_goThroughOrders_22 : decode cX9_goThroughOrders 22 = .ok (.if_icmp .ge 65, 3) := by decide +kernel
theorem dX9_goThroughOrders_25 : decode cX9_goThroughOrders 25 = .ok (.aload_n 1, 1) := by decide +kernel
theorem dX9_goThroughOrders_26 : decode cX9_goThroughOrders 26 = .ok (.getfield 89, 3) := by decide +kernel
theorem dX9_goThroughOrders_29 : decode cX9_goThroughOrders 29 = .ok (.iload_n 2, 1) := by decide +kernel
theorem dX9_goThroughOrders_30 : decode cX9_goThroughOrders 30 = .ok (.iaload, 1) := by decide +kernel
theorem dX9_goThroughOrders_31 : decode cX9_goThroughOrders 31 = .ok (.istore_n 3, 1) := by decide +kernel
theorem dX9_goThroughOrders_32 : decode cX9_goThroughOrders 32 = .ok (.iconst 0, 1) := by decide +kernel
theorem dX9_goThroughOrders_33 : decode cX9_goThroughOrders 33 = .ok (.istore 4, 2) := by decide +kernel
theorem dX9_goThroughOrders_35 : decode cX9_goThroughOrders 35 = .ok (.iload 4, 2) := by decide +kernel
theorem dX9_goThroughOrders_37 : decode cX9_goThroughOrders 37 = .ok (.aload_n 0, 1) := by decide +kernel
theorem dX9_goThroughOrders_38 : decode cX9_goThroughOrders 38 = .ok (.getfield 31, 3) := by decide +kernel
theorem dX9_goThroughOrders_41 : decode cX9_goThroughOrders 41 = .ok (.if_icmp .ge 40, 3) := by decide +kernel
theorem dX9_goThroughOrders_44 : decode cX9_goThroughOrders 44 = .ok (.iload_n 3, 1) := by decide +kernel
theorem dX9_goThroughOrders_45 : decode cX9_goThroughOrders 45 = .ok (.iload 4, 2) := by decide +kernel
theorem dX9_goThroughOrders_47 : decode cX9_goThroughOrders 47 = .ok (.ishr, 1) := by decide +kernel
theorem dX9_goThroughOrders_48 : decode cX9_goThroughOrders 48 = .ok (.iconst 1, 1) := by decide +kernel
theorem dX9_goThroughOrders_49 : decode cX9_goThroughOrders 49 = .ok (.iand, 1) := by decide +kernel
theorem dX9_goThroughOrders_50 : decode cX9_goThroughOrders 50 = .ok (.ifCond .eq 25, 3) := by decide +kernel
theorem dX9_goThroughOrders_53 : decode cX9_goThroughOrders 53 = .ok (.aload_n 0, 1) := by decide +kernel
theorem dX9_goThroughOrders_54 : decode cX9_goThroughOrders 54 = .ok (.iload_n 2, 1) := by decide +kernel
theorem dX9_goThroughOrders_55 : decode cX9_goThroughOrders 55 = .ok (.iload 4, 2) := by decide +kernel
theorem dX9_goThroughOrders_57 : decode cX9_goThroughOrders 57 = .ok (.aload_n 1, 1) := by decide +kernel
theorem dX9_goThroughOrders_58 : decode cX9_goThroughOrders 58 = .ok (.iload 4, 2) := by decide +kernel
theorem dX9_goThroughOrders_60 : decode cX9_goThroughOrders 60 = .ok (.iload_n 2, 1) := by decide +kernel
theorem dX9_goThroughOrders_61 : decode cX9_goThroughOrders 61 = .ok (.invokevirtual 94, 3) := by decide +kernel
theorem dX9_goThroughOrders_64 : decode cX9_goThroughOrders 64 = .ok (.ifCond .le 7, 3) := by decide +kernel
theorem dX9_goThroughOrders_67 : decode cX9_goThroughOrders 67 = .ok (.iconst 1, 1) := by decide +kernel
theorem dX9_goThroughOrders_68 : decode cX9_goThroughOrders 68 = .ok (.goto 4, 3) := by decide +kernel
theorem dX9_goThroughOrders_71 : decode cX9_goThroughOrders 71 = .ok (.iconst 0, 1) := by decide +kernel
theorem dX9_goThroughOrders_72 : decode cX9_goThroughOrders 72 = .ok (.invokevirtual 97, 3) := by decide +kernel
theorem dX9_goThroughOrders_75 : decode cX9_goThroughOrders 75 = .ok (.iinc 4 1, 3) := by decide +kernel
theorem dX9_goThroughOrders_78 : decode cX9_goThroughOrders 78 = .ok (.goto (-43), 3) := by decide +kernel
theorem dX9_goThroughOrders_81 : decode cX9_goThroughOrders 81 = .ok (.iinc 2 1, 3) := by decide +kernel
theorem dX9_goThroughOrders_84 : decode cX9_goThroughOrders 84 = .ok (.goto (-67), 3) := by decide +kernel
theorem dX9_goThroughOrders_87 : decode cX9_goThroughOrders 87 = .ok (.return_, 1) := by decide +kernel
theorem dX9_serve_0 : decode cX9_serve 0 = .ok (.iload_n 1, 1) := by decide +kernel
theorem dX9_serve_1 : decode cX9_serve 1 = .ok (.iconst 4, 1) := by decide +kernel
theorem dX9_serve_2 : decode cX9_serve 2 = .ok (.imul, 1) := by decide +kernel
theorem dX9_serve_3 : decode cX9_serve 3 = .ok (.istore 4, 2) := by decide +kernel
theorem dX9_serve_5 : decode cX9_serve 5 = .ok (.iload_n 1, 1) := by decide +kernel
theorem dX9_serve_6 : decode cX9_serve 6 = .ok (.iconst 1, 1) := by decide +kernel
theorem dX9_serve_7 : decode cX9_serve 7 = .ok (.iload_n 2, 1) := by decide +kernel
theorem dX9_serve_8 : decode cX9_serve 8 = .ok (.ishl, 1) := by decide +kernel
theorem dX9_serve_9 : decode cX9_serve 9 = .ok (.ior, 1) := by decide +kernel
theorem dX9_serve_10 : decode cX9_serve 10 = .ok (.iconst 4, 1) := by decide +kernel
theorem dX9_serve_11 : decode cX9_serve 11 = .ok (.imul, 1) := by decide +kernel
theorem dX9_serve_12 : decode cX9_serve 12 = .ok (.istore 5, 2) := by decide +kernel
theorem dX9_serve_14 : decode cX9_serve 14 = .ok (.aload_n 0, 1) := by decide +kernel
theorem dX9_serve_15 : decode cX9_serve 15 = .ok (.getfield 35, 3) := by decide +kernel
theorem dX9_serve_18 : decode cX9_serve 18 = .ok (.bipush 6, 2) := by decide +kernel
theorem dX9_serve_20 : decode cX9_serve 20 = .ok (.ishr, 1) := by decide +kernel
theorem dX9_serve_21 : decode cX9_serve 21 = .ok (.iconst 1, 1) := by decide +kernel
theorem dX9_serve_22 : decode cX9_serve 22 = .ok (.iadd, 1) := by decide +kernel
theorem dX9_serve_23 : decode cX9_serve 23 = .ok (.istore 6, 2) := by decide +kernel
theorem dX9_serve_25 : decode cX9_serve 25 = .ok (.iload_n 3, 1) := by decide +kernel
theorem dX9_serve_26 : decode cX9_serve 26 = .ok (.ifCond .eq 18, 3) := by decide +kernel
theorem dX9_serve_29 : decode cX9_serve 29 = .ok (.iload_n 2, 1) := by decide +kernel
theorem dX9_serve_30 : decode cX9_serve 30 = .ok (.bipush 6, 2) := by decide +kernel
theorem dX9_serve_32 : decode cX9_serve 32 = .ok (.if_icmp .lt 12, 3) := by decide +kernel
theorem dX9_serve_35 : decode cX9_serve 35 = .ok (.iconst 1, 1) := by decide +kernel
theorem dX9_serve_36 : decode cX9_serve 36 = .ok (.iload_n 2, 1) := by decide +kernel
theorem dX9_serve_37 : decode cX9_serve 37 = .ok (.bipush 6, 2) := by decide +kernel
theorem dX9_serve_39 : decode cX9_serve 39 = .ok (.isub, 1) := by decide +kernel
theorem dX9_serve_40 : decode cX9_serve 40 = .ok (.ishl, 1) := by decide +kernel
theorem dX9_serve_41 : decode cX9_serve 41 = .ok (.goto 4, 3) := by decide +kernel
theorem dX9_serve_44 : decode cX9_serve 44 = .ok (.iconst 0, 1) := by decide +kernel
theorem dX9_serve_45 : decode cX9_serve 45 = .ok (.istore 7, 2) := by decide +kernel
theorem dX9_serve_47 : decode cX9_serve 47 = .ok (.iload_n 3, 1) := by decide +kernel
theorem dX9_serve_48 : decode cX9_serve 48 = .ok (.ifCond .eq 15, 3) := by decide +kernel
theorem dX9_serve_51 : decode cX9_serve 51 = .ok (.iload_n 2, 1) := by decide +kernel
theorem dX9_serve_52 : decode cX9_serve 52 = .ok (.bipush 6, 2) := by decide +kernel
theorem dX9_serve_54 : decode cX9_serve 54 = .ok (.if_icmp .ge 9, 3) := by decide +kernel
theorem dX9_serve_57 : decode cX9_serve 57 = .ok (.iconst 1, 1) := by decide +kernel
theorem dX9_serve_58 : decode cX9_serve 58 = .ok (.iload_n 2, 1) := by decide +kernel
theorem dX9_serve_59 : decode cX9_serve 59 = .ok (.ishl, 1) := by decide +kernel
theorem dX9_serve_60 : decode cX9_serve 60 = .ok (.goto 4, 3) := by decide +kernel
theorem dX9_serve_63 : decode cX9_serve 63 = .ok (.iconst 0, 1) := by decide +kernel
theorem dX9_serve_64 : decode cX9_serve 64 = .ok (.istore 8, 2) := by decide +kernel
theorem dX9_serve_66 : decode cX9_serve 66 = .ok (.iconst 0, 1) := by decide +kernel
theorem dX9_serve_67 : decode cX9_serve 67 = .ok (.istore 9, 2) := by decide +kernel
theorem dX9_serve_69 : decode cX9_serve 69 = .ok (.iload 9, 2) := by decide +kernel
theorem dX9_serve_71 : decode cX9_serve 71 = .ok (.iload 7, 2) := by decide +kernel
theorem dX9_serve_73 : decode cX9_serve 73 = .ok (.iadd, 1) := by decide +kernel
theorem dX9_serve_74 : decode cX9_serve 74 = .ok (.iload 6, 2) := by decide +kernel
theorem dX9_serve_76 : decode cX9_serve 76 = .ok (.if_icmp .ge 38, 3) := by decide +kernel
theorem dX9_serve_79 : decode cX9_serve 79 = .ok (.aload_n 0, 1) := by decide +kernel
theorem dX9_serve_80 : decode cX9_serve 80 = .ok (.getfield 22, 3) := by decide +kernel
theorem dX9_serve_83 : decode cX9_serve 83 = .ok (.iload 5, 2) := by decide +kernel
theorem dX9_serve_85 : decode cX9_serve 85 = .ok (.iload 9, 2) := by decide +kernel
theorem dX9_serve_87 : decode cX9_serve 87 = .ok (.iadd, 1) := by decide +kernel
theorem dX9_serve_88 : decode cX9_serve 88 = .ok (.iload 7, 2) := by decide +kernel
theorem dX9_serve_90 : decode cX9_serve 90 = .ok (.iadd, 1) := by decide +kernel
theorem dX9_serve_91 : decode cX9_serve 91 = .ok (.dup2, 1) := by decide +kernel
theorem dX9_serve_92 : decode cX9_serve 92 = .ok (.laload, 1) := by decide +kernel
theorem dX9_serve_93 : decode cX9_serve 93 = .ok (.aload_n 0, 1) := by decide +kernel
theorem dX9_serve_94 : decode cX9_serve 94 = .ok (.getfield 22, 3) := by decide +kernel
theorem dX9_serve_97 : decode cX9_serve 97 = .ok (.iload 4, 2) := by decide +kernel
theorem dX9_serve_99 : decode cX9_serve 99 = .ok (.iload 9, 2) := by decide +kernel
theorem dX9_serve_101 : decode cX9_serve 101 = .ok (.iadd, 1) := by decide +kernel
theorem dX9_serve_102 : decode cX9_serve 102 = .ok (.laload, 1) := by decide +kernel
theorem dX9_serve_103 : decode cX9_serve 103 = .ok (.iload 8, 2) := by decide +kernel
theorem dX9_serve_105 : decode cX9_serve 105 = .ok (.lshl, 1) := by decide +kernel
theorem dX9_serve_106 : decode cX9_serve 106 = .ok (.lor, 1) := by decide +kernel
theorem dX9_serve_107 : decode cX9_serve 107 = .ok (.lastore, 1) := by decide +kernel
theorem dX9_serve_108 : decode cX9_serve 108 = .ok (.iinc 9 1, 3) := by decide +kernel
theorem dX9_serve_111 : decode cX9_serve 111 = .ok (.goto (-42), 3) := by decide +kernel
theorem dX9_serve_114 : decode cX9_serve 114 = .ok (.return_, 1) := by decide +kernel
theorem dX9_lookBack_0 : decode cX9_lookBack 0 = .ok (.aload_n 0, 1) := by decide +kernel
theorem dX9_lookBack_1 : decode cX9_lookBack 1 = .ok (.invokevirtual 48, 3) := by decide +kernel
theorem dX9_lookBack_4 : decode cX9_lookBack 4 = .ok (.aload_n 0, 1) := by decide +kernel
theorem dX9_lookBack_5 : decode cX9_lookBack 5 = .ok (.aload_n 0, 1) := by decide +kernel
theorem dX9_lookBack_6 : decode cX9_lookBack 6 = .ok (.getfield 38, 3) := by decide +kernel
theorem dX9_lookBack_9 : decode cX9_lookBack 9 = .ok (.invokevirtual 101, 3) := by decide +kernel
theorem dX9_lookBack_12 : decode cX9_lookBack 12 = .ok (.aload_n 0, 1) := by decide +kernel
theorem dX9_lookBack_13 : decode cX9_lookBack 13 = .ok (.getfield 38, 3) := by decide +kernel
theorem dX9_lookBack_16 : decode cX9_lookBack 16 = .ok (.iconst 1, 1) := by decide +kernel
theorem dX9_lookBack_17 : decode cX9_lookBack 17 = .ok (.isub, 1) := by decide +kernel
theorem dX9_lookBack_18 : decode cX9_lookBack 18 = .ok (.istore_n 1, 1) := by decide +kernel
theorem dX9_lookBack_19 : decode cX9_lookBack 19 = .ok (.iload_n 1, 1) := by decide +kernel
theorem dX9_lookBack_20 : decode cX9_lookBack 20 = .ok (.ifCond .le 23, 3) := by decide +kernel
theorem dX9_lookBack_23 : decode cX9_lookBack 23 = .ok (.aload_n 0, 1) := by decide +kernel
theorem dX9_lookBack_24 : decode cX9_lookBack 24 = .ok (.iload_n 1, 1) := by decide +kernel
theorem dX9_lookBack_25 : decode cX9_lookBack 25 = .ok (.invokevirtual 61, 3) := by decide +kernel
theorem dX9_lookBack_28 : decode cX9_lookBack 28 = .ok (.aload_n 0, 1) := by decide +kernel
theorem dX9_lookBack_29 : decode cX9_lookBack 29 = .ok (.invokevirtual 104, 3) := by decide +kernel
theorem dX9_lookBack_32 : decode cX9_lookBack 32 = .ok (.aload_n 0, 1) := by decide +kernel
theorem dX9_lookBack_33 : decode cX9_lookBack 33 = .ok (.iload_n 1, 1) := by decide +kernel
theorem dX9_lookBack_34 : decode cX9_lookBack 34 = .ok (.invokevirtual 101, 3) := by decide +kernel
theorem dX9_lookBack_37 : decode cX9_lookBack 37 = .ok (.iinc 1 (-1), 3) := by decide +kernel
theorem dX9_lookBack_40 : decode cX9_lookBack 40 = .ok (.goto (-21), 3) := by decide +kernel
theorem dX9_lookBack_43 : decode cX9_lookBack 43 = .ok (.return_, 1) := by decide +kernel
theorem dX9_startUnions_0 : decode cX9_startUnions 0 = .ok (.aload_n 0, 1) := by decide +kernel
theorem dX9_startUnions_1 : decode cX9_startUnions 1 = .ok (.getfield 25, 3) := by decide +kernel
theorem dX9_startUnions_4 : decode cX9_startUnions 4 = .ok (.iconst 0, 1) := by decide +kernel
theorem dX9_startUnions_5 : decode cX9_startUnions 5 = .ok (.invokestatic 107, 3) := by decide +kernel
theorem dX9_startUnions_8 : decode cX9_startUnions 8 = .ok (.aload_n 0, 1) := by decide +kernel
theorem dX9_startUnions_9 : decode cX9_startUnions 9 = .ok (.getfield 25, 3) := by decide +kernel
theorem dX9_startUnions_12 : decode cX9_startUnions 12 = .ok (.iconst 0, 1) := by decide +kernel
theorem dX9_startUnions_13 : decode cX9_startUnions 13 = .ok (.iconst 1, 1) := by decide +kernel
theorem dX9_startUnions_14 : decode cX9_startUnions 14 = .ok (.iastore, 1) := by decide +kernel
theorem dX9_startUnions_15 : decode cX9_startUnions 15 = .ok (.return_, 1) := by decide +kernel
theorem dX9_keepUnions_0 : decode cX9_keepUnions 0 = .ok (.iconst 0, 1) := by decide +kernel
theorem dX9_keepUnions_1 : decode cX9_keepUnions 1 = .ok (.istore_n 2, 1) := by decide +kernel
theorem dX9_keepUnions_2 : decode cX9_keepUnions 2 = .ok (.iload_n 2, 1) := by decide +kernel
theorem dX9_keepUnions_3 : decode cX9_keepUnions 3 = .ok (.iconst 4, 1) := by decide +kernel
theorem dX9_keepUnions_4 : decode cX9_keepUnions 4 = .ok (.if_icmp .ge 20, 3) := by decide +kernel
theorem dX9_keepUnions_7 : decode cX9_keepUnions 7 = .ok (.aload_n 0, 1) := by decide +kernel
theorem dX9_keepUnions_8 : decode cX9_keepUnions 8 = .ok (.getfield 19, 3) := by decide +kernel
theorem dX9_keepUnions_11 : decode cX9_keepUnions 11 = .ok (.iload_n 1, 1) := by decide +kernel
theorem dX9_keepUnions_12 : decode cX9_keepUnions 12 = .ok (.iconst 4, 1) := by decide +kernel
theorem dX9_keepUnions_13 : decode cX9_keepUnions 13 = .ok (.imul, 1) := by decide +kernel
theorem dX9_keepUnions_14 : decode cX9_keepUnions 14 = .ok (.iload_n 2, 1) := by decide +kernel
theorem dX9_keepUnions_15 : decode cX9_keepUnions 15 = .ok (.iadd, 1) := by decide +kernel
theorem dX9_keepUnions_16 : decode cX9_keepUnions 16 = .ok (.lconst 0, 1) := by decide +kernel
theorem dX9_keepUnions_17 : decode cX9_keepUnions 17 = .ok (.lastore, 1) := by decide +kernel
theorem dX9_keepUnions_18 : decode cX9_keepUnions 18 = .ok (.iinc 2 1, 3) := by decide +kernel
theorem dX9_keepUnions_21 : decode cX9_keepUnions 21 = .ok (.goto (-19), 3) := by decide +kernel
theorem dX9_keepUnions_24 : decode cX9_keepUnions 24 = .ok (.iconst 0, 1) := by decide +kernel
theorem dX9_keepUnions_25 : decode cX9_keepUnions 25 = .ok (.istore_n 2, 1) := by decide +kernel
theorem dX9_keepUnions_26 : decode cX9_keepUnions 26 = .ok (.iload_n 2, 1) := by decide +kernel
theorem dX9_keepUnions_27 : decode cX9_keepUnions 27 = .ok (.aload_n 0, 1) := by decide +kernel
theorem dX9_keepUnions_28 : decode cX9_keepUnions 28 = .ok (.getfield 35, 3) := by decide +kernel
theorem dX9_keepUnions_31 : decode cX9_keepUnions 31 = .ok (.if_icmp .gt 40, 3) := by decide +kernel
theorem dX9_keepUnions_34 : decode cX9_keepUnions 34 = .ok (.aload_n 0, 1) := by decide +kernel
theorem dX9_keepUnions_35 : decode cX9_keepUnions 35 = .ok (.getfield 25, 3) := by decide +kernel
theorem dX9_keepUnions_38 : decode cX9_keepUnions 38 = .ok (.iload_n 2, 1) := by decide +kernel
theorem dX9_keepUnions_39 : decode cX9_keepUnions 39 = .ok (.iaload, 1) := by decide +kernel
theorem dX9_keepUnions_40 : decode cX9_keepUnions 40 = .ok (.ifCond .eq 25, 3) := by decide +kernel
theorem dX9_keepUnions_43 : decode cX9_keepUnions 43 = .ok (.aload_n 0, 1) := by decide +kernel
theorem dX9_keepUnions_44 : decode cX9_keepUnions 44 = .ok (.getfield 19, 3) := by decide +kernel
theorem dX9_keepUnions_47 : decode cX9_keepUnions 47 = .ok (.iload_n 1, 1) := by decide +kernel
theorem dX9_keepUnions_48 : decode cX9_keepUnions 48 = .ok (.iconst 4, 1) := by decide +kernel
theorem dX9_keepUnions_49 : decode cX9_keepUnions 49 = .ok (.imul, 1) := by decide +kernel
theorem dX9_keepUnions_50 : decode cX9_keepUnions 50 = .ok (.iload_n 2, 1) := by decide +kernel
theorem dX9_keepUnions_51 : decode cX9_keepUnions 51 = .ok (.bipush 6, 2) := by decide +kernel
theorem dX9_keepUnions_53 : decode cX9_keepUnions 53 = .ok (.ishr, 1) := by decide +kernel
theorem dX9_keepUnions_54 : decode cX9_keepUnions 54 = .ok (.iadd, 1) := by decide +kernel
theorem dX9_keepUnions_55 : decode cX9_keepUnions 55 = .ok (.dup2, 1) := by decide +kernel
theorem dX9_keepUnions_56 : decode cX9_keepUnions 56 = .ok (.laload, 1) := by decide +kernel
theorem dX9_keepUnions_57 : decode cX9_keepUnions 57 = .ok (.lconst 1, 1) := by decide +kernel
theorem dX9_keepUnions_58 : decode cX9_keepUnions 58 = .ok (.iload_n 2, 1) := by decide +kernel
theorem dX9_keepUnions_59 : decode cX9_keepUnions 59 = .ok (.bipush 63, 2) := by decide +kernel
theorem dX9_keepUnions_61 : decode cX9_keepUnions 61 = .ok (.iand, 1) := by decide +kernel
theorem dX9_keepUnions_62 : decode cX9_keepUnions 62 = .ok (.lshl, 1) := by decide +kernel
theorem dX9_keepUnions_63 : decode cX9_keepUnions 63 = .ok (.lor, 1) := by decide +kernel
theorem dX9_keepUnions_64 : decode cX9_keepUnions 64 = .ok (.lastore, 1) := by decide +kernel
theorem dX9_keepUnions_65 : decode cX9_keepUnions 65 = .ok (.iinc 2 1, 3) := by decide +kernel
theorem dX9_keepUnions_68 : decode cX9_keepUnions 68 = .ok (.goto (-42), 3) := by decide +kernel
theorem dX9_keepUnions_71 : decode cX9_keepUnions 71 = .ok (.return_, 1) := by decide +kernel
theorem dX9_unite_0 : decode cX9_unite 0 = .ok (.iconst 0, 1) := by decide +kernel
theorem dX9_unite_1 : decode cX9_unite 1 = .ok (.istore_n 2, 1) := by decide +kernel
theorem dX9_unite_2 : decode cX9_unite 2 = .ok (.iload_n 2, 1) := by decide +kernel
theorem dX9_unite_3 : decode cX9_unite 3 = .ok (.aload_n 0, 1) := by decide +kernel
theorem dX9_unite_4 : decode cX9_unite 4 = .ok (.getfield 35, 3) := by decide +kernel
theorem dX9_unite_7 : decode cX9_unite 7 = .ok (.if_icmp .gt 32, 3) := by decide +kernel
theorem dX9_unite_10 : decode cX9_unite 10 = .ok (.aload_n 0, 1) := by decide +kernel
theorem dX9_unite_11 : decode cX9_unite 11 = .ok (.getfield 28, 3) := by decide +kernel
theorem dX9_unite_14 : decode cX9_unite 14 = .ok (.iload_n 2, 1) := by decide +kernel
theorem dX9_unite_15 : decode cX9_unite 15 = .ok (.aload_n 0, 1) := by decide +kernel
theorem dX9_unite_16 : decode cX9_unite 16 = .ok (.getfield 15, 3) := by decide +kernel
theorem dX9_unite_19 : decode cX9_unite 19 = .ok (.iload_n 1, 1) := by decide +kernel
theorem dX9_unite_20 : decode cX9_unite 20 = .ok (.iload_n 2, 1) := by decide +kernel
theorem dX9_unite_21 : decode cX9_unite 21 = .ok (.invokestatic 79, 3) := by decide +kernel
theorem dX9_unite_24 : decode cX9_unite 24 = .ok (.ifCond .eq 7, 3) := by decide +kernel
theorem dX9_unite_27 : decode cX9_unite 27 = .ok (.iconst 1, 1) := by decide +kernel
theorem dX9_unite_28 : decode cX9_unite 28 = .ok (.goto 4, 3) := by decide +kernel
theorem dX9_unite_31 : decode cX9_unite 31 = .ok (.iconst 0, 1) := by decide +kernel
theorem dX9_unite_32 : decode cX9_unite 32 = .ok (.iastore, 1) := by decide +kernel
theorem dX9_unite_33 : decode cX9_unite 33 = .ok (.iinc 2 1, 3) := by decide +kernel
theorem dX9_unite_36 : decode cX9_unite 36 = .ok (.goto (-34), 3) := by decide +kernel
theorem dX9_unite_39 : decode cX9_unite 39 = .ok (.aload_n 0, 1) := by decide +kernel
theorem dX9_unite_40 : decode cX9_unite 40 = .ok (.aload_n 0, 1) := by decide +kernel
theorem dX9_unite_41 : decode cX9_unite 41 = .ok (.getfield 25, 3) := by decide +kernel
theorem dX9_unite_44 : decode cX9_unite 44 = .ok (.iconst 1, 1) := by decide +kernel
theorem dX9_unite_45 : decode cX9_unite 45 = .ok (.invokevirtual 110, 3) := by decide +kernel
theorem dX9_unite_48 : decode cX9_unite 48 = .ok (.aload_n 0, 1) := by decide +kernel
theorem dX9_unite_49 : decode cX9_unite 49 = .ok (.aload_n 0, 1) := by decide +kernel
theorem dX9_unite_50 : decode cX9_unite 50 = .ok (.getfield 28, 3) := by decide +kernel
theorem dX9_unite_53 : decode cX9_unite 53 = .ok (.iconst 1, 1) := by decide +kernel
theorem dX9_unite_54 : decode cX9_unite 54 = .ok (.invokevirtual 110, 3) := by decide +kernel
theorem dX9_unite_57 : decode cX9_unite 57 = .ok (.iconst 0, 1) := by decide +kernel
theorem dX9_unite_58 : decode cX9_unite 58 = .ok (.istore_n 2, 1) := by decide +kernel
theorem dX9_unite_59 : decode cX9_unite 59 = .ok (.iload_n 2, 1) := by decide +kernel
theorem dX9_unite_60 : decode cX9_unite 60 = .ok (.aload_n 0, 1) := by decide +kernel
theorem dX9_unite_61 : decode cX9_unite 61 = .ok (.getfield 35, 3) := by decide +kernel
theorem dX9_unite_64 : decode cX9_unite 64 = .ok (.if_icmp .gt 24, 3) := by decide +kernel
theorem dX9_unite_67 : decode cX9_unite 67 = .ok (.aload_n 0, 1) := by decide +kernel
theorem dX9_unite_68 : decode cX9_unite 68 = .ok (.getfield 25, 3) := by decide +kernel
theorem dX9_unite_71 : decode cX9_unite 71 = .ok (.iload_n 2, 1) := by decide +kernel
theorem dX9_unite_72 : decode cX9_unite 72 = .ok (.dup2, 1) := by decide +kernel
theorem dX9_unite_73 : decode cX9_unite 73 = .ok (.iaload, 1) := by decide +kernel
theorem dX9_unite_74 : decode cX9_unite 74 = .ok (.aload_n 0, 1) := by decide +kernel
theorem dX9_unite_75 : decode cX9_unite 75 = .ok (.getfield 28, 3) := by decide +kernel
theorem dX9_unite_78 : decode cX9_unite 78 = .ok (.iload_n 2, 1) := by decide +kernel
theorem dX9_unite_79 : decode cX9_unite 79 = .ok (.iaload, 1) := by decide +kernel
theorem dX9_unite_80 : decode cX9_unite 80 = .ok (.imul, 1) := by decide +kernel
theorem dX9_unite_81 : decode cX9_unite 81 = .ok (.iastore, 1) := by decide +kernel
theorem dX9_unite_82 : decode cX9_unite 82 = .ok (.iinc 2 1, 3) := by decide +kernel
theorem dX9_unite_85 : decode cX9_unite 85 = .ok (.goto (-26), 3) := by decide +kernel
theorem dX9_unite_88 : decode cX9_unite 88 = .ok (.aload_n 0, 1) := by decide +kernel
theorem dX9_unite_89 : decode cX9_unite 89 = .ok (.aload_n 0, 1) := by decide +kernel
theorem dX9_unite_90 : decode cX9_unite 90 = .ok (.getfield 25, 3) := by decide +kernel
theorem dX9_unite_93 : decode cX9_unite 93 = .ok (.iconst (-1), 1) := by decide +kernel
theorem dX9_unite_94 : decode cX9_unite 94 = .ok (.invokevirtual 110, 3) := by decide +kernel
theorem dX9_unite_97 : decode cX9_unite 97 = .ok (.iconst 0, 1) := by decide +kernel
theorem dX9_unite_98 : decode cX9_unite 98 = .ok (.istore_n 2, 1) := by decide +kernel
theorem dX9_unite_99 : decode cX9_unite 99 = .ok (.iload_n 2, 1) := by decide +kernel
theorem dX9_unite_100 : decode cX9_unite 100 = .ok (.aload_n 0, 1) := by decide +kernel
theorem dX9_unite_101 : decode cX9_unite 101 = .ok (.getfield 35, 3) := by decide +kernel
theorem dX9_unite_104 : decode cX9_unite 104 = .ok (.if_icmp .gt 29, 3) := by decide +kernel
theorem dX9_unite_107 : decode cX9_unite 107 = .ok (.aload_n 0, 1) := by decide +kernel
theorem dX9_unite_108 : decode cX9_unite 108 = .ok (.getfield 25, 3) := by decide +kernel
theorem dX9_unite_111 : decode cX9_unite 111 = .ok (.iload_n 2, 1) := by decide +kernel
theorem dX9_unite_112 : decode cX9_unite 112 = .ok (.aload_n 0, 1) := by decide +kernel
theorem dX9_unite_113 : decode cX9_unite 113 = .ok (.getfield 25, 3) := by decide +kernel
theorem dX9_unite_116 : decode cX9_unite 116 = .ok (.iload_n 2, 1) := by decide +kernel
theorem dX9_unite_117 : decode cX9_unite 117 = .ok (.iaload, 1) := by decide +kernel
theorem dX9_unite_118 : decode cX9_unite 118 = .ok (.ifCond .eq 7, 3) := by decide +kernel
theorem dX9_unite_121 : decode cX9_unite 121 = .ok (.iconst 1, 1) := by decide +kernel
theorem dX9_unite_122 : decode cX9_unite 122 = .ok (.goto 4, 3) := by decide +kernel
theorem dX9_unite_125 : decode cX9_unite 125 = .ok (.iconst 0, 1) := by decide +kernel
theorem dX9_unite_126 : decode cX9_unite 126 = .ok (.iastore, 1) := by decide +kernel
theorem dX9_unite_127 : decode cX9_unite 127 = .ok (.iinc 2 1, 3) := by decide +kernel
theorem dX9_unite_130 : decode cX9_unite 130 = .ok (.goto (-31), 3) := by decide +kernel
theorem dX9_unite_133 : decode cX9_unite 133 = .ok (.return_, 1) := by decide +kernel
theorem dX9_sumOverParts_0 : decode cX9_sumOverParts 0 = .ok (.iconst 0, 1) := by decide +kernel
theorem dX9_sumOverParts_1 : decode cX9_sumOverParts 1 = .ok (.istore_n 3, 1) := by decide +kernel
theorem dX9_sumOverParts_2 : decode cX9_sumOverParts 2 = .ok (.iload_n 3, 1) := by decide +kernel
theorem dX9_sumOverParts_3 : decode cX9_sumOverParts 3 = .ok (.aload_n 0, 1) := by decide +kernel
theorem dX9_sumOverParts_4 : decode cX9_sumOverParts 4 = .ok (.getfield 31, 3) := by decide +kernel
theorem dX9_sumOverParts_7 : decode cX9_sumOverParts 7 = .ok (.if_icmp .ge 56, 3) := by decide +kernel
theorem dX9_sumOverParts_10 : decode cX9_sumOverParts 10 = .ok (.iconst 1, 1) := by decide +kernel
theorem dX9_sumOverParts_11 : decode cX9_sumOverParts 11 = .ok (.iload_n 3, 1) := by decide +kernel
theorem dX9_sumOverParts_12 : decode cX9_sumOverParts 12 = .ok (.ishl, 1) := by decide +kernel
theorem dX9_sumOverParts_13 : decode cX9_sumOverParts 13 = .ok (.istore 4, 2) := by decide +kernel
theorem dX9_sumOverParts_15 : decode cX9_sumOverParts 15 = .ok (.iconst 0, 1) := by decide +kernel
theorem dX9_sumOverParts_16 : decode cX9_sumOverParts 16 = .ok (.istore 5, 2) := by decide +kernel
theorem dX9_sumOverParts_18 : decode cX9_sumOverParts 18 = .ok (.iload 5, 2) := by decide +kernel
theorem dX9_sumOverParts_20 : decode cX9_sumOverParts 20 = .ok (.aload_n 0, 1) := by decide +kernel
theorem dX9_sumOverParts_21 : decode cX9_sumOverParts 21 = .ok (.getfield 35, 3) := by decide +kernel
theorem dX9_sumOverParts_24 : decode cX9_sumOverParts 24 = .ok (.if_icmp .gt 33, 3) := by decide +kernel
theorem dX9_sumOverParts_27 : decode cX9_sumOverParts 27 = .ok (.iload 5, 2) := by decide +kernel
theorem dX9_sumOverParts_29 : decode cX9_sumOverParts 29 = .ok (.iload 4, 2) := by decide +kernel
theorem dX9_sumOverParts_31 : decode cX9_sumOverParts 31 = .ok (.iand, 1) := by decide +kernel
theorem dX9_sumOverParts_32 : decode cX9_sumOverParts 32 = .ok (.ifCond .eq 19, 3) := by decide +kernel
theorem dX9_sumOverParts_35 : decode cX9_sumOverParts 35 = .ok (.aload_n 1, 1) := by decide +kernel
theorem dX9_sumOverParts_36 : decode cX9_sumOverParts 36 = .ok (.iload 5, 2) := by decide +kernel
theorem dX9_sumOverParts_38 : decode cX9_sumOverParts 38 = .ok (.dup2, 1) := by decide +kernel
theorem dX9_sumOverParts_39 : decode cX9_sumOverParts 39 = .ok (.iaload, 1) := by decide +kernel
theorem dX9_sumOverParts_40 : decode cX9_sumOverParts 40 = .ok (.iload_n 2, 1) := by decide +kernel
theorem dX9_sumOverParts_41 : decode cX9_sumOverParts 41 = .ok (.aload_n 1, 1) := by decide +kernel
theorem dX9_sumOverParts_42 : decode cX9_sumOverParts 42 = .ok (.iload 5, 2) := by decide +kernel
theorem dX9_sumOverParts_44 : decode cX9_sumOverParts 44 = .ok (.iload 4, 2) := by decide +kernel
theorem dX9_sumOverParts_46 : decode cX9_sumOverParts 46 = .ok (.ixor, 1) := by decide +kernel
theorem dX9_sumOverParts_47 : decode cX9_sumOverParts 47 = .ok (.iaload, 1) := by decide +kernel
theorem dX9_sumOverParts_48 : decode cX9_sumOverParts 48 = .ok (.imul, 1) := by decide +kernel
theorem dX9_sumOverParts_49 : decode cX9_sumOverParts 49 = .ok (.iadd, 1) := by decide +kernel
theorem dX9_sumOverParts_50 : decode cX9_sumOverParts 50 = .ok (.iastore, 1) := by decide +kernel
theorem dX9_sumOverParts_51 : decode cX9_sumOverParts 51 = .ok (.iinc 5 1, 3) := by decide +kernel
theorem dX9_sumOverParts_54 : decode cX9_sumOverParts 54 = .ok (.goto (-36), 3) := by decide +kernel
theorem dX9_sumOverParts_57 : decode cX9_sumOverParts 57 = .ok (.iinc 3 1, 3) := by decide +kernel
theorem dX9_sumOverParts_60 : decode cX9_sumOverParts 60 = .ok (.goto (-58), 3) := by decide +kernel
theorem dX9_sumOverParts_63 : decode cX9_sumOverParts 63 = .ok (.return_, 1) := by decide +kernel
theorem dX9_addParts_0 : decode cX9_addParts 0 = .ok (.iconst 0, 1) := by decide +kernel
theorem dX9_addParts_1 : decode cX9_addParts 1 = .ok (.istore_n 1, 1) := by decide +kernel
theorem dX9_addParts_2 : decode cX9_addParts 2 = .ok (.iload_n 1, 1) := by decide +kernel
theorem dX9_addParts_3 : decode cX9_addParts 3 = .ok (.aload_n 0, 1) := by decide +kernel
theorem dX9_addParts_4 : decode cX9_addParts 4 = .ok (.getfield 31, 3) := by decide +kernel
theorem dX9_addParts_7 : decode cX9_addParts 7 = .ok (.if_icmp .ge 52, 3) := by decide +kernel
theorem dX9_addParts_10 : decode cX9_addParts 10 = .ok (.iconst 1, 1) := by decide +kernel
theorem dX9_addParts_11 : decode cX9_addParts 11 = .ok (.iload_n 1, 1) := by decide +kernel
theorem dX9_addParts_12 : decode cX9_addParts 12 = .ok (.ishl, 1) := by decide +kernel
theorem dX9_addParts_13 : decode cX9_addParts 13 = .ok (.istore_n 2, 1) := by decide +kernel
theorem dX9_addParts_14 : decode cX9_addParts 14 = .ok (.iconst 0, 1) := by decide +kernel
theorem dX9_addParts_15 : decode cX9_addParts 15 = .ok (.istore_n 3, 1) := by decide +kernel
theorem dX9_addParts_16 : decode cX9_addParts 16 = .ok (.iload_n 3, 1) := by decide +kernel
theorem dX9_addParts_17 : decode cX9_addParts 17 = .ok (.aload_n 0, 1) := by decide +kernel
theorem dX9_addParts_18 : decode cX9_addParts 18 = .ok (.getfield 35, 3) := by decide +kernel
theorem dX9_addParts_21 : decode cX9_addParts 21 = .ok (.if_icmp .gt 32, 3) := by decide +kernel
theorem dX9_addParts_24 : decode cX9_addParts 24 = .ok (.iload_n 3, 1) := by decide +kernel
theorem dX9_addParts_25 : decode cX9_addParts 25 = .ok (.iload_n 2, 1) := by decide +kernel
theorem dX9_addParts_26 : decode cX9_addParts 26 = .ok (.iand, 1) := by decide +kernel
theorem dX9_addParts_27 : decode cX9_addParts 27 = .ok (.ifCond .ne 20, 3) := by decide +kernel
theorem dX9_addParts_30 : decode cX9_addParts 30 = .ok (.aload_n 0, 1) := by decide +kernel
theorem dX9_addParts_31 : decode cX9_addParts 31 = .ok (.getfield 25, 3) := by decide +kernel
theorem dX9_addParts_34 : decode cX9_addParts 34 = .ok (.iload_n 3, 1) := by decide +kernel
theorem dX9_addParts_35 : decode cX9_addParts 35 = .ok (.dup2, 1) := by decide +kernel
theorem dX9_addParts_36 : decode cX9_addParts 36 = .ok (.iaload, 1) := by decide +kernel
theorem dX9_addParts_37 : decode cX9_addParts 37 = .ok (.aload_n 0, 1) := by decide +kernel
theorem dX9_addParts_38 : decode cX9_addParts 38 = .ok (.getfield 25, 3) := by decide +kernel
theorem dX9_addParts_41 : decode cX9_addParts 41 = .ok (.iload_n 3, 1) := by decide +kernel
theorem dX9_addParts_42 : decode cX9_addParts 42 = .ok (.iload_n 2, 1) := by decide +kernel
theorem dX9_addParts_43 : decode cX9_addParts 43 = .ok (.ior, 1) := by decide +kernel
theorem dX9_addParts_44 : decode cX9_addParts 44 = .ok (.iaload, 1) := by decide +kernel
theorem dX9_addParts_45 : decode cX9_addParts 45 = .ok (.ior, 1) := by decide +kernel
theorem dX9_addParts_46 : decode cX9_addParts 46 = .ok (.iastore, 1) := by decide +kernel
theorem dX9_addParts_47 : decode cX9_addParts 47 = .ok (.iinc 3 1, 3) := by decide +kernel
theorem dX9_addParts_50 : decode cX9_addParts 50 = .ok (.goto (-34), 3) := by decide +kernel
theorem dX9_addParts_53 : decode cX9_addParts 53 = .ok (.iinc 1 1, 3) := by decide +kernel
theorem dX9_addParts_56 : decode cX9_addParts 56 = .ok (.goto (-54), 3) := by decide +kernel
theorem dX9_addParts_59 : decode cX9_addParts 59 = .ok (.return_, 1) := by decide +kernel
theorem dX9_isEmpty_0 : decode cX9_isEmpty 0 = .ok (.lconst 0, 1) := by decide +kernel
theorem dX9_isEmpty_1 : decode cX9_isEmpty 1 = .ok (.lstore_n 2, 1) := by decide +kernel
theorem dX9_isEmpty_2 : decode cX9_isEmpty 2 = .ok (.iconst 0, 1) := by decide +kernel
theorem dX9_isEmpty_3 : decode cX9_isEmpty 3 = .ok (.istore 4, 2) := by decide +kernel
theorem dX9_isEmpty_5 : decode cX9_isEmpty 5 = .ok (.iload 4, 2) := by decide +kernel
theorem dX9_isEmpty_7 : decode cX9_isEmpty 7 = .ok (.iconst 4, 1) := by decide +kernel
theorem dX9_isEmpty_8 : decode cX9_isEmpty 8 = .ok (.if_icmp .ge 23, 3) := by decide +kernel
theorem dX9_isEmpty_11 : decode cX9_isEmpty 11 = .ok (.lload_n 2, 1) := by decide +kernel
theorem dX9_isEmpty_12 : decode cX9_isEmpty 12 = .ok (.aload_n 0, 1) := by decide +kernel
theorem dX9_isEmpty_13 : decode cX9_isEmpty 13 = .ok (.getfield 15, 3) := by decide +kernel
theorem dX9_isEmpty_16 : decode cX9_isEmpty 16 = .ok (.iload_n 1, 1) := by decide +kernel
theorem dX9_isEmpty_17 : decode cX9_isEmpty 17 = .ok (.iconst 4, 1) := by decide +kernel
theorem dX9_isEmpty_18 : decode cX9_isEmpty 18 = .ok (.imul, 1) := by decide +kernel
theorem dX9_isEmpty_19 : decode cX9_isEmpty 19 = .ok (.iload 4, 2) := by decide +kernel
theorem dX9_isEmpty_21 : decode cX9_isEmpty 21 = .ok (.iadd, 1) := by decide +kernel
theorem dX9_isEmpty_22 : decode cX9_isEmpty 22 = .ok (.laload, 1) := by decide +kernel
theorem dX9_isEmpty_23 : decode cX9_isEmpty 23 = .ok (.lor, 1) := by decide +kernel
theorem dX9_isEmpty_24 : decode cX9_isEmpty 24 = .ok (.lstore_n 2, 1) := by decide +kernel
theorem dX9_isEmpty_25 : decode cX9_isEmpty 25 = .ok (.iinc 4 1, 3) := by decide +kernel
theorem dX9_isEmpty_28 : decode cX9_isEmpty 28 = .ok (.goto (-23), 3) := by decide +kernel
theorem dX9_isEmpty_31 : decode cX9_isEmpty 31 = .ok (.lload_n 2, 1) := by decide +kernel
theorem dX9_isEmpty_32 : decode cX9_isEmpty 32 = .ok (.lconst 0, 1) := by decide +kernel
theorem dX9_isEmpty_33 : decode cX9_isEmpty 33 = .ok (.lcmp, 1) := by decide +kernel
theorem dX9_isEmpty_34 : decode cX9_isEmpty 34 = .ok (.ifCond .ne 7, 3) := by decide +kernel
theorem dX9_isEmpty_37 : decode cX9_isEmpty 37 = .ok (.iconst 1, 1) := by decide +kernel
theorem dX9_isEmpty_38 : decode cX9_isEmpty 38 = .ok (.goto 4, 3) := by decide +kernel
theorem dX9_isEmpty_41 : decode cX9_isEmpty 41 = .ok (.iconst 0, 1) := by decide +kernel
theorem dX9_isEmpty_42 : decode cX9_isEmpty 42 = .ok (.ireturn, 1) := by decide +kernel
theorem dX9_holds_0 : decode cX9_holds 0 = .ok (.aload_n 0, 1) := by decide +kernel
theorem dX9_holds_1 : decode cX9_holds 1 = .ok (.iload_n 1, 1) := by decide +kernel
theorem dX9_holds_2 : decode cX9_holds 2 = .ok (.iconst 4, 1) := by decide +kernel
theorem dX9_holds_3 : decode cX9_holds 3 = .ok (.imul, 1) := by decide +kernel
theorem dX9_holds_4 : decode cX9_holds 4 = .ok (.iload_n 2, 1) := by decide +kernel
theorem dX9_holds_5 : decode cX9_holds 5 = .ok (.bipush 6, 2) := by decide +kernel
theorem dX9_holds_7 : decode cX9_holds 7 = .ok (.ishr, 1) := by decide +kernel
theorem dX9_holds_8 : decode cX9_holds 8 = .ok (.iadd, 1) := by decide +kernel
theorem dX9_holds_9 : decode cX9_holds 9 = .ok (.laload, 1) := by decide +kernel
theorem dX9_holds_10 : decode cX9_holds 10 = .ok (.iload_n 2, 1) := by decide +kernel
theorem dX9_holds_11 : decode cX9_holds 11 = .ok (.bipush 63, 2) := by decide +kernel
theorem dX9_holds_13 : decode cX9_holds 13 = .ok (.iand, 1) := by decide +kernel
theorem dX9_holds_14 : decode cX9_holds 14 = .ok (.lshr, 1) := by decide +kernel
theorem dX9_holds_15 : decode cX9_holds 15 = .ok (.lconst 1, 1) := by decide +kernel
theorem dX9_holds_16 : decode cX9_holds 16 = .ok (.land, 1) := by decide +kernel
theorem dX9_holds_17 : decode cX9_holds 17 = .ok (.lconst 0, 1) := by decide +kernel
theorem dX9_holds_18 : decode cX9_holds 18 = .ok (.lcmp, 1) := by decide +kernel
theorem dX9_holds_19 : decode cX9_holds 19 = .ok (.ifCond .eq 7, 3) := by decide +kernel
theorem dX9_holds_22 : decode cX9_holds 22 = .ok (.iconst 1, 1) := by decide +kernel
theorem dX9_holds_23 : decode cX9_holds 23 = .ok (.goto 4, 3) := by decide +kernel
theorem dX9_holds_26 : decode cX9_holds 26 = .ok (.iconst 0, 1) := by decide +kernel
theorem dX9_holds_27 : decode cX9_holds 27 = .ok (.ireturn, 1) := by decide +kernel
theorem dX10_init_0 : decode cX10_init 0 = .ok (.aload_n 0, 1) := by decide +kernel
theorem dX10_init_1 : decode cX10_init 1 = .ok (.invokespecial 1, 3) := by decide +kernel
theorem dX10_init_4 : decode cX10_init 4 = .ok (.aload_n 0, 1) := by decide +kernel
theorem dX10_init_5 : decode cX10_init 5 = .ok (.new 7, 3) := by decide +kernel
theorem dX10_init_8 : decode cX10_init 8 = .ok (.dup, 1) := by decide +kernel
theorem dX10_init_9 : decode cX10_init 9 = .ok (.invokespecial 9, 3) := by decide +kernel
theorem dX10_init_12 : decode cX10_init 12 = .ok (.putfield 10, 3) := by decide +kernel
theorem dX10_init_15 : decode cX10_init 15 = .ok (.aload_n 0, 1) := by decide +kernel
theorem dX10_init_16 : decode cX10_init 16 = .ok (.new 7, 3) := by decide +kernel
theorem dX10_init_19 : decode cX10_init 19 = .ok (.dup, 1) := by decide +kernel
theorem dX10_init_20 : decode cX10_init 20 = .ok (.invokespecial 9, 3) := by decide +kernel
theorem dX10_init_23 : decode cX10_init 23 = .ok (.putfield 16, 3) := by decide +kernel
theorem dX10_init_26 : decode cX10_init 26 = .ok (.aload_n 0, 1) := by decide +kernel
theorem dX10_init_27 : decode cX10_init 27 = .ok (.iconst 2, 1) := by decide +kernel
theorem dX10_init_28 : decode cX10_init 28 = .ok (.anewarray 7, 3) := by decide +kernel
theorem dX10_init_31 : decode cX10_init 31 = .ok (.dup, 1) := by decide +kernel
theorem dX10_init_32 : decode cX10_init 32 = .ok (.iconst 0, 1) := by decide +kernel
theorem dX10_init_33 : decode cX10_init 33 = .ok (.new 7, 3) := by decide +kernel
