theorem dX10_init_36 : decode cX10_init 36 = .ok (.dup, 1) := by decide +kernel
theorem dX10_init_37 : decode cX10_init 37 = .ok (.invokespecial 9, 3) := by decide +kernel
theorem dX10_init_40 : decode cX10_init 40 = .ok (.aastore, 1) := by decide +kernel
theorem dX10_init_41 : decode cX10_init 41 = .ok (.dup, 1) := by decide +kernel
theorem dX10_init_42 : decode cX10_init 42 = .ok (.iconst 1, 1) := by decide +kernel
theorem dX10_init_43 : decode cX10_init 43 = .ok (.new 7, 3) := by decide +kernel
theorem dX10_init_46 : decode cX10_init 46 = .ok (.dup, 1) := by decide +kernel
theorem dX10_init_47 : decode cX10_init 47 = .ok (.invokespecial 9, 3) := by decide +kernel
theorem dX10_init_50 : decode cX10_init 50 = .ok (.aastore, 1) := by decide +kernel
theorem dX10_init_51 : decode cX10_init 51 = .ok (.putfield 19, 3) := by decide +kernel
theorem dX10_init_54 : decode cX10_init 54 = .ok (.aload_n 0, 1) := by decide +kernel
theorem dX10_init_55 : decode cX10_init 55 = .ok (.iconst 2, 1) := by decide +kernel
theorem dX10_init_56 : decode cX10_init 56 = .ok (.newarray .boolean, 2) := by decide +kernel
theorem dX10_init_58 : decode cX10_init 58 = .ok (.putfield 23, 3) := by decide +kernel
theorem dX10_init_61 : decode cX10_init 61 = .ok (.aload_n 0, 1) := by decide +kernel
theorem dX10_init_62 : decode cX10_init 62 = .ok (.new 27, 3) := by decide +kernel
theorem dX10_init_65 : decode cX10_init 65 = .ok (.dup, 1) := by decide +kernel
theorem dX10_init_66 : decode cX10_init 66 = .ok (.invokespecial 29, 3) := by decide +kernel
theorem dX10_init_69 : decode cX10_init 69 = .ok (.putfield 30, 3) := by decide +kernel
theorem dX10_init_72 : decode cX10_init 72 = .ok (.aload_n 0, 1) := by decide +kernel
theorem dX10_init_73 : decode cX10_init 73 = .ok (.new 34, 3) := by decide +kernel
theorem dX10_init_76 : decode cX10_init 76 = .ok (.dup, 1) := by decide +kernel
theorem dX10_init_77 : decode cX10_init 77 = .ok (.invokespecial 36, 3) := by decide +kernel
theorem dX10_init_80 : decode cX10_init 80 = .ok (.putfield 37, 3) := by decide +kernel
theorem dX10_init_83 : decode cX10_init 83 = .ok (.aload_n 0, 1) := by decide +kernel
theorem dX10_init_84 : decode cX10_init 84 = .ok (.new 34, 3) := by decide +kernel
theorem dX10_init_87 : decode cX10_init 87 = .ok (.dup, 1) := by decide +kernel
theorem dX10_init_88 : decode cX10_init 88 = .ok (.invokespecial 36, 3) := by decide +kernel
theorem dX10_init_91 : decode cX10_init 91 = .ok (.putfield 41, 3) := by decide +kernel
theorem dX10_init_94 : decode cX10_init 94 = .ok (.aload_n 0, 1) := by decide +kernel
theorem dX10_init_95 : decode cX10_init 95 = .ok (.new 44, 3) := by decide +kernel
theorem dX10_init_98 : decode cX10_init 98 = .ok (.dup, 1) := by decide +kernel
theorem dX10_init_99 : decode cX10_init 99 = .ok (.invokespecial 46, 3) := by decide +kernel
theorem dX10_init_102 : decode cX10_init 102 = .ok (.putfield 47, 3) := by decide +kernel
theorem dX10_init_105 : decode cX10_init 105 = .ok (.aload_n 0, 1) := by decide +kernel
theorem dX10_init_106 : decode cX10_init 106 = .ok (.new 44, 3) := by decide +kernel
theorem dX10_init_109 : decode cX10_init 109 = .ok (.dup, 1) := by decide +kernel
theorem dX10_init_110 : decode cX10_init 110 = .ok (.invokespecial 46, 3) := by decide +kernel
theorem dX10_init_113 : decode cX10_init 113 = .ok (.putfield 51, 3) := by decide +kernel
theorem dX10_init_116 : decode cX10_init 116 = .ok (.aload_n 0, 1) := by decide +kernel
theorem dX10_init_117 : decode cX10_init 117 = .ok (.new 44, 3) := by decide +kernel
theorem dX10_init_120 : decode cX10_init 120 = .ok (.dup, 1) := by decide +kernel
theorem dX10_init_121 : decode cX10_init 121 = .ok (.invokespecial 46, 3) := by decide +kernel
theorem dX10_init_124 : decode cX10_init 124 = .ok (.putfield 54, 3) := by decide +kernel
theorem dX10_init_127 : decode cX10_init 127 = .ok (.aload_n 0, 1) := by decide +kernel
theorem dX10_init_128 : decode cX10_init 128 = .ok (.new 57, 3) := by decide +kernel
theorem dX10_init_131 : decode cX10_init 131 = .ok (.dup, 1) := by decide +kernel
theorem dX10_init_132 : decode cX10_init 132 = .ok (.invokespecial 59, 3) := by decide +kernel
theorem dX10_init_135 : decode cX10_init 135 = .ok (.putfield 60, 3) := by decide +kernel
theorem dX10_init_138 : decode cX10_init 138 = .ok (.aload_n 0, 1) := by decide +kernel
theorem dX10_init_139 : decode cX10_init 139 = .ok (.new 64, 3) := by decide +kernel
theorem dX10_init_142 : decode cX10_init 142 = .ok (.dup, 1) := by decide +kernel
theorem dX10_init_143 : decode cX10_init 143 = .ok (.invokespecial 66, 3) := by decide +kernel
theorem dX10_init_146 : decode cX10_init 146 = .ok (.putfield 67, 3) := by decide +kernel
theorem dX10_init_149 : decode cX10_init 149 = .ok (.aload_n 0, 1) := by decide +kernel
theorem dX10_init_150 : decode cX10_init 150 = .ok (.iconst 5, 1) := by decide +kernel
theorem dX10_init_151 : decode cX10_init 151 = .ok (.newarray .int, 2) := by decide +kernel
theorem dX10_init_153 : decode cX10_init 153 = .ok (.putfield 71, 3) := by decide +kernel
theorem dX10_init_156 : decode cX10_init 156 = .ok (.aload_n 0, 1) := by decide +kernel
theorem dX10_init_157 : decode cX10_init 157 = .ok (.bipush 8, 2) := by decide +kernel
theorem dX10_init_159 : decode cX10_init 159 = .ok (.newarray .int, 2) := by decide +kernel
theorem dX10_init_161 : decode cX10_init 161 = .ok (.putfield 75, 3) := by decide +kernel
theorem dX10_init_164 : decode cX10_init 164 = .ok (.aload_n 0, 1) := by decide +kernel
theorem dX10_init_165 : decode cX10_init 165 = .ok (.bipush 8, 2) := by decide +kernel
theorem dX10_init_167 : decode cX10_init 167 = .ok (.newarray .int, 2) := by decide +kernel
theorem dX10_init_169 : decode cX10_init 169 = .ok (.putfield 78, 3) := by decide +kernel
theorem dX10_init_172 : decode cX10_init 172 = .ok (.return_, 1) := by decide +kernel
theorem dX10_customer_0 : decode cX10_customer 0 = .ok (.iconst 0, 1) := by decide +kernel
theorem dX10_customer_1 : decode cX10_customer 1 = .ok (.iload_n 1, 1) := by decide +kernel
theorem dX10_customer_2 : decode cX10_customer 2 = .ok (.invokestatic 81, 3) := by decide +kernel
theorem dX10_customer_5 : decode cX10_customer 5 = .ok (.ifCond .eq 19, 3) := by decide +kernel
theorem dX10_customer_8 : decode cX10_customer 8 = .ok (.iconst 1, 1) := by decide +kernel
theorem dX10_customer_9 : decode cX10_customer 9 = .ok (.iload_n 2, 1) := by decide +kernel
theorem dX10_customer_10 : decode cX10_customer 10 = .ok (.invokestatic 81, 3) := by decide +kernel
theorem dX10_customer_13 : decode cX10_customer 13 = .ok (.ifCond .eq 11, 3) := by decide +kernel
theorem dX10_customer_16 : decode cX10_customer 16 = .ok (.iconst 2, 1) := by decide +kernel
theorem dX10_customer_17 : decode cX10_customer 17 = .ok (.iload_n 3, 1) := by decide +kernel
theorem dX10_customer_18 : decode cX10_customer 18 = .ok (.invokestatic 81, 3) := by decide +kernel
theorem dX10_customer_21 : decode cX10_customer 21 = .ok (.ifCond .ne 9, 3) := by decide +kernel
theorem dX10_customer_24 : decode cX10_customer 24 = .ok (.aload_n 0, 1) := by decide +kernel
theorem dX10_customer_25 : decode cX10_customer 25 = .ok (.iconst (-1), 1) := by decide +kernel
theorem dX10_customer_26 : decode cX10_customer 26 = .ok (.invokevirtual 85, 3) := by decide +kernel
theorem dX10_customer_29 : decode cX10_customer 29 = .ok (.ireturn, 1) := by decide +kernel
theorem dX10_customer_30 : decode cX10_customer 30 = .ok (.aload_n 0, 1) := by decide +kernel
theorem dX10_customer_31 : decode cX10_customer 31 = .ok (.getfield 10, 3) := by decide +kernel
theorem dX10_customer_34 : decode cX10_customer 34 = .ok (.getfield 89, 3) := by decide +kernel
theorem dX10_customer_37 : decode cX10_customer 37 = .ok (.bipush 8, 2) := by decide +kernel
theorem dX10_customer_39 : decode cX10_customer 39 = .ok (.if_icmp .lt 10, 3) := by decide +kernel
theorem dX10_customer_42 : decode cX10_customer 42 = .ok (.aload_n 0, 1) := by decide +kernel
theorem dX10_customer_43 : decode cX10_customer 43 = .ok (.bipush (-5), 2) := by decide +kernel
theorem dX10_customer_45 : decode cX10_customer 45 = .ok (.invokevirtual 85, 3) := by decide +kernel
theorem dX10_customer_48 : decode cX10_customer 48 = .ok (.ireturn, 1) := by decide +kernel
theorem dX10_customer_49 : decode cX10_customer 49 = .ok (.aload_n 0, 1) := by decide +kernel
theorem dX10_customer_50 : decode cX10_customer 50 = .ok (.invokevirtual 93, 3) := by decide +kernel
theorem dX10_customer_53 : decode cX10_customer 53 = .ok (.aload_n 0, 1) := by decide +kernel
theorem dX10_customer_54 : decode cX10_customer 54 = .ok (.aload_n 0, 1) := by decide +kernel
theorem dX10_customer_55 : decode cX10_customer 55 = .ok (.getfield 10, 3) := by decide +kernel
theorem dX10_customer_58 : decode cX10_customer 58 = .ok (.iload_n 1, 1) := by decide +kernel
theorem dX10_customer_59 : decode cX10_customer 59 = .ok (.iload_n 2, 1) := by decide +kernel
theorem dX10_customer_60 : decode cX10_customer 60 = .ok (.iload_n 3, 1) := by decide +kernel
theorem dX10_customer_61 : decode cX10_customer 61 = .ok (.invokevirtual 96, 3) := by decide +kernel
theorem dX10_customer_64 : decode cX10_customer 64 = .ok (.invokevirtual 100, 3) := by decide +kernel
theorem dX10_customer_67 : decode cX10_customer 67 = .ok (.ireturn, 1) := by decide +kernel
theorem dX10_put_0 : decode cX10_put 0 = .ok (.iload_n 2, 1) := by decide +kernel
theorem dX10_put_1 : decode cX10_put 1 = .ok (.iload_n 3, 1) := by decide +kernel
theorem dX10_put_2 : decode cX10_put 2 = .ok (.invokestatic 81, 3) := by decide +kernel
theorem dX10_put_5 : decode cX10_put 5 = .ok (.ifCond .ne 9, 3) := by decide +kernel
theorem dX10_put_8 : decode cX10_put 8 = .ok (.aload_n 0, 1) := by decide +kernel
theorem dX10_put_9 : decode cX10_put 9 = .ok (.iconst (-1), 1) := by decide +kernel
theorem dX10_put_10 : decode cX10_put 10 = .ok (.invokevirtual 85, 3) := by decide +kernel
theorem dX10_put_13 : decode cX10_put 13 = .ok (.ireturn, 1) := by decide +kernel
theorem dX10_put_14 : decode cX10_put 14 = .ok (.aload_n 0, 1) := by decide +kernel
theorem dX10_put_15 : decode cX10_put 15 = .ok (.getfield 10, 3) := by decide +kernel
theorem dX10_put_18 : decode cX10_put 18 = .ok (.iload_n 1, 1) := by decide +kernel
theorem dX10_put_19 : decode cX10_put 19 = .ok (.invokevirtual 103, 3) := by decide +kernel
theorem dX10_put_22 : decode cX10_put 22 = .ok (.ifCond .ne 10, 3) := by decide +kernel
theorem dX10_put_25 : decode cX10_put 25 = .ok (.aload_n 0, 1) := by decide +kernel
theorem dX10_put_26 : decode cX10_put 26 = .ok (.bipush (-2), 2) := by decide +kernel
theorem dX10_put_28 : decode cX10_put 28 = .ok (.invokevirtual 85, 3) := by decide +kernel
theorem dX10_put_31 : decode cX10_put 31 = .ok (.ireturn, 1) := by decide +kernel
theorem dX10_put_32 : decode cX10_put 32 = .ok (.aload_n 0, 1) := by decide +kernel
theorem dX10_put_33 : decode cX10_put 33 = .ok (.getfield 10, 3) := by decide +kernel
theorem dX10_put_36 : decode cX10_put 36 = .ok (.iload_n 2, 1) := by decide +kernel
theorem dX10_put_37 : decode cX10_put 37 = .ok (.iload_n 1, 1) := by decide +kernel
theorem dX10_put_38 : decode cX10_put 38 = .ok (.invokevirtual 107, 3) := by decide +kernel
theorem dX10_put_41 : decode cX10_put 41 = .ok (.istore 4, 2) := by decide +kernel
theorem dX10_put_43 : decode cX10_put 43 = .ok (.aload_n 0, 1) := by decide +kernel
theorem dX10_put_44 : decode cX10_put 44 = .ok (.getfield 10, 3) := by decide +kernel
theorem dX10_put_47 : decode cX10_put 47 = .ok (.iload_n 2, 1) := by decide +kernel
theorem dX10_put_48 : decode cX10_put 48 = .ok (.iload_n 1, 1) := by decide +kernel
theorem dX10_put_49 : decode cX10_put 49 = .ok (.iload_n 3, 1) := by decide +kernel
theorem dX10_put_50 : decode cX10_put 50 = .ok (.invokevirtual 111, 3) := by decide +kernel
theorem dX10_put_53 : decode cX10_put 53 = .ok (.aload_n 0, 1) := by decide +kernel
theorem dX10_put_54 : decode cX10_put 54 = .ok (.invokevirtual 93, 3) := by decide +kernel
theorem dX10_put_57 : decode cX10_put 57 = .ok (.aload_n 0, 1) := by decide +kernel
theorem dX10_put_58 : decode cX10_put 58 = .ok (.iload 4, 2) := by decide +kernel
theorem dX10_put_60 : decode cX10_put 60 = .ok (.invokevirtual 100, 3) := by decide +kernel
theorem dX10_put_63 : decode cX10_put 63 = .ok (.ireturn, 1) := by decide +kernel
theorem dX10_of_0 : decode cX10_of 0 = .ok (.aload_n 0, 1) := by decide +kernel
theorem dX10_of_1 : decode cX10_of 1 = .ok (.getfield 10, 3) := by decide +kernel
theorem dX10_of_4 : decode cX10_of 4 = .ok (.iload_n 1, 1) := by decide +kernel
theorem dX10_of_5 : decode cX10_of 5 = .ok (.invokevirtual 103, 3) := by decide +kernel
theorem dX10_of_8 : decode cX10_of 8 = .ok (.ifCond .eq 12, 3) := by decide +kernel
theorem dX10_of_11 : decode cX10_of 11 = .ok (.iload_n 2, 1) := by decide +kernel
theorem dX10_of_12 : decode cX10_of 12 = .ok (.ifCond .lt 8, 3) := by decide +kernel
theorem dX10_of_15 : decode cX10_of 15 = .ok (.iload_n 2, 1) := by decide +kernel
theorem dX10_of_16 : decode cX10_of 16 = .ok (.iconst 5, 1) := by decide +kernel
theorem dX10_of_17 : decode cX10_of 17 = .ok (.if_icmp .le 5, 3) := by decide +kernel
theorem dX10_of_20 : decode cX10_of 20 = .ok (.iconst (-1), 1) := by decide +kernel
theorem dX10_of_21 : decode cX10_of 21 = .ok (.ireturn, 1) := by decide +kernel
theorem dX10_of_22 : decode cX10_of 22 = .ok (.iload_n 2, 1) := by decide +kernel
theorem dX10_of_23 : decode cX10_of 23 = .ok (.iconst 5, 1) := by decide +kernel
theorem dX10_of_24 : decode cX10_of 24 = .ok (.if_icmp .ge 13, 3) := by decide +kernel
theorem dX10_of_27 : decode cX10_of 27 = .ok (.aload_n 0, 1) := by decide +kernel
theorem dX10_of_28 : decode cX10_of 28 = .ok (.getfield 10, 3) := by decide +kernel
theorem dX10_of_31 : decode cX10_of 31 = .ok (.iload_n 2, 1) := by decide +kernel
theorem dX10_of_32 : decode cX10_of 32 = .ok (.iload_n 1, 1) := by decide +kernel
theorem dX10_of_33 : decode cX10_of 33 = .ok (.invokevirtual 107, 3) := by decide +kernel
theorem dX10_of_36 : decode cX10_of 36 = .ok (.ireturn, 1) := by decide +kernel
theorem dX10_of_37 : decode cX10_of 37 = .ok (.aload_n 0, 1) := by decide +kernel
theorem dX10_of_38 : decode cX10_of 38 = .ok (.getfield 37, 3) := by decide +kernel
theorem dX10_of_41 : decode cX10_of 41 = .ok (.aload_n 0, 1) := by decide +kernel
theorem dX10_of_42 : decode cX10_of 42 = .ok (.getfield 10, 3) := by decide +kernel
theorem dX10_of_45 : decode cX10_of 45 = .ok (.invokevirtual 115, 3) := by decide +kernel
theorem dX10_of_48 : decode cX10_of 48 = .ok (.aload_n 0, 1) := by decide +kernel
theorem dX10_of_49 : decode cX10_of 49 = .ok (.getfield 37, 3) := by decide +kernel
theorem dX10_of_52 : decode cX10_of 52 = .ok (.getfield 119, 3) := by decide +kernel
theorem dX10_of_55 : decode cX10_of 55 = .ok (.iload_n 1, 1) := by decide +kernel
theorem dX10_of_56 : decode cX10_of 56 = .ok (.iaload, 1) := by decide +kernel
theorem dX10_of_57 : decode cX10_of 57 = .ok (.ireturn, 1) := by decide +kernel
theorem dX10_owed_0 : decode cX10_owed 0 = .ok (.aload_n 0, 1) := by decide +kernel
theorem dX10_owed_1 : decode cX10_owed 1 = .ok (.getfield 10, 3) := by decide +kernel
theorem dX10_owed_4 : decode cX10_owed 4 = .ok (.iload_n 1, 1) := by decide +kernel
theorem dX10_owed_5 : decode cX10_owed 5 = .ok (.invokevirtual 103, 3) := by decide +kernel
theorem dX10_owed_8 : decode cX10_owed 8 = .ok (.ifCond .ne 6, 3) := by decide +kernel
theorem dX10_owed_11 : decode cX10_owed 11 = .ok (.ldc 122, 2) := by decide +kernel
theorem dX10_owed_13 : decode cX10_owed 13 = .ok (.ireturn, 1) := by decide +kernel
theorem dX10_owed_14 : decode cX10_owed 14 = .ok (.aload_n 0, 1) := by decide +kernel
theorem dX10_owed_15 : decode cX10_owed 15 = .ok (.getfield 10, 3) := by decide +kernel
theorem dX10_owed_18 : decode cX10_owed 18 = .ok (.iconst 4, 1) := by decide +kernel
theorem dX10_owed_19 : decode cX10_owed 19 = .ok (.iload_n 1, 1) := by decide +kernel
theorem dX10_owed_20 : decode cX10_owed 20 = .ok (.invokevirtual 107, 3) := by decide +kernel
theorem dX10_owed_23 : decode cX10_owed 23 = .ok (.aload_n 0, 1) := by decide +kernel
theorem dX10_owed_24 : decode cX10_owed 24 = .ok (.getfield 10, 3) := by decide +kernel
theorem dX10_owed_27 : decode cX10_owed 27 = .ok (.getfield 123, 3) := by decide +kernel
theorem dX10_owed_30 : decode cX10_owed 30 = .ok (.iconst 0, 1) := by decide +kernel
theorem dX10_owed_31 : decode cX10_owed 31 = .ok (.iaload, 1) := by decide +kernel
theorem dX10_owed_32 : decode cX10_owed 32 = .ok (.aload_n 0, 1) := by decide +kernel
theorem dX10_owed_33 : decode cX10_owed 33 = .ok (.getfield 10, 3) := by decide +kernel
theorem dX10_owed_36 : decode cX10_owed 36 = .ok (.iconst 3, 1) := by decide +kernel
theorem dX10_owed_37 : decode cX10_owed 37 = .ok (.iload_n 1, 1) := by decide +kernel
theorem dX10_owed_38 : decode cX10_owed 38 = .ok (.invokevirtual 107, 3) := by decide +kernel
theorem dX10_owed_41 : decode cX10_owed 41 = .ok (.imul, 1) := by decide +kernel
theorem dX10_owed_42 : decode cX10_owed 42 = .ok (.isub, 1) := by decide +kernel
theorem dX10_owed_43 : decode cX10_owed 43 = .ok (.ireturn, 1) := by decide +kernel
theorem dX10_terms_0 : decode cX10_terms 0 = .ok (.iload_n 1, 1) := by decide +kernel
theorem dX10_terms_1 : decode cX10_terms 1 = .ok (.ifCond .lt 26, 3) := by decide +kernel
theorem dX10_terms_4 : decode cX10_terms 4 = .ok (.iload_n 1, 1) := by decide +kernel
theorem dX10_terms_5 : decode cX10_terms 5 = .ok (.iconst 5, 1) := by decide +kernel
theorem dX10_terms_6 : decode cX10_terms 6 = .ok (.if_icmp .ge 21, 3) := by decide +kernel
theorem dX10_terms_9 : decode cX10_terms 9 = .ok (.iload_n 2, 1) := by decide +kernel
theorem dX10_terms_10 : decode cX10_terms 10 = .ok (.getstatic 126, 3) := by decide +kernel
theorem dX10_terms_13 : decode cX10_terms 13 = .ok (.iload_n 1, 1) := by decide +kernel
theorem dX10_terms_14 : decode cX10_terms 14 = .ok (.iaload, 1) := by decide +kernel
theorem dX10_terms_15 : decode cX10_terms 15 = .ok (.if_icmp .lt 12, 3) := by decide +kernel
theorem dX10_terms_18 : decode cX10_terms 18 = .ok (.iload_n 2, 1) := by decide +kernel
theorem dX10_terms_19 : decode cX10_terms 19 = .ok (.getstatic 129, 3) := by decide +kernel
theorem dX10_terms_22 : decode cX10_terms 22 = .ok (.iload_n 1, 1) := by decide +kernel
theorem dX10_terms_23 : decode cX10_terms 23 = .ok (.iaload, 1) := by decide +kernel
theorem dX10_terms_24 : decode cX10_terms 24 = .ok (.if_icmp .le 9, 3) := by decide +kernel
theorem dX10_terms_27 : decode cX10_terms 27 = .ok (.aload_n 0, 1) := by decide +kernel
theorem dX10_terms_28 : decode cX10_terms 28 = .ok (.iconst (-1), 1) := by decide +kernel
theorem dX10_terms_29 : decode cX10_terms 29 = .ok (.invokevirtual 85, 3) := by decide +kernel
theorem dX10_terms_32 : decode cX10_terms 32 = .ok (.ireturn, 1) := by decide +kernel
theorem dX10_terms_33 : decode cX10_terms 33 = .ok (.aload_n 0, 1) := by decide +kernel
theorem dX10_terms_34 : decode cX10_terms 34 = .ok (.getfield 10, 3) := by decide +kernel
theorem dX10_terms_37 : decode cX10_terms 37 = .ok (.getfield 123, 3) := by decide +kernel
theorem dX10_terms_40 : decode cX10_terms 40 = .ok (.iload_n 1, 1) := by decide +kernel
theorem dX10_terms_41 : decode cX10_terms 41 = .ok (.iaload, 1) := by decide +kernel
theorem dX10_terms_42 : decode cX10_terms 42 = .ok (.istore_n 3, 1) := by decide +kernel
theorem dX10_terms_43 : decode cX10_terms 43 = .ok (.aload_n 0, 1) := by decide +kernel
theorem dX10_terms_44 : decode cX10_terms 44 = .ok (.getfield 10, 3) := by decide +kernel
theorem dX10_terms_47 : decode cX10_terms 47 = .ok (.getfield 123, 3) := by decide +kernel
theorem dX10_terms_50 : decode cX10_terms 50 = .ok (.iload_n 1, 1) := by decide +kernel
theorem dX10_terms_51 : decode cX10_terms 51 = .ok (.iload_n 2, 1) := by decide +kernel
theorem dX10_terms_52 : decode cX10_terms 52 = .ok (.iastore, 1) := by decide +kernel
theorem dX10_terms_53 : decode cX10_terms 53 = .ok (.aload_n 0, 1) := by decide +kernel
theorem dX10_terms_54 : decode cX10_terms 54 = .ok (.invokevirtual 93, 3) := by decide +kernel
theorem dX10_terms_57 : decode cX10_terms 57 = .ok (.aload_n 0, 1) := by decide +kernel
theorem dX10_terms_58 : decode cX10_terms 58 = .ok (.iload_n 3, 1) := by decide +kernel
theorem dX10_terms_59 : decode cX10_terms 59 = .ok (.invokevirtual 100, 3) := by decide +kernel
theorem dX10_terms_62 : decode cX10_terms 62 = .ok (.ireturn, 1) := by decide +kernel
theorem dX10_feed_0 : decode cX10_feed 0 = .ok (.aload_n 0, 1) := by decide +kernel
theorem dX10_feed_1 : decode cX10_feed 1 = .ok (.getfield 30, 3) := by decide +kernel
theorem dX10_feed_4 : decode cX10_feed 4 = .ok (.getfield 132, 3) := by decide +kernel
theorem dX10_feed_7 : decode cX10_feed 7 = .ok (.bipush 20, 2) := by decide +kernel
theorem dX10_feed_9 : decode cX10_feed 9 = .ok (.iadd, 1) := by decide +kernel
theorem dX10_feed_10 : decode cX10_feed 10 = .ok (.sipush 400, 3) := by decide +kernel
theorem dX10_feed_13 : decode cX10_feed 13 = .ok (.if_icmp .le 5, 3) := by decide +kernel
theorem dX10_feed_16 : decode cX10_feed 16 = .ok (.iconst (-1), 1) := by decide +kernel
theorem dX10_feed_17 : decode cX10_feed 17 = .ok (.ireturn, 1) := by decide +kernel
theorem dX10_feed_18 : decode cX10_feed 18 = .ok (.aload_n 0, 1) := by decide +kernel
theorem dX10_feed_19 : decode cX10_feed 19 = .ok (.getfield 30, 3) := by decide +kernel
theorem dX10_feed_22 : decode cX10_feed 22 = .ok (.iload_n 1, 1) := by decide +kernel
theorem dX10_feed_23 : decode cX10_feed 23 = .ok (.invokevirtual 135, 3) := by decide +kernel
theorem dX10_feed_26 : decode cX10_feed 26 = .ok (.aload_n 0, 1) := by decide +kernel
theorem dX10_feed_27 : decode cX10_feed 27 = .ok (.getfield 30, 3) := by decide +kernel
theorem dX10_feed_30 : decode cX10_feed 30 = .ok (.iload_n 2, 1) := by decide +kernel
theorem dX10_feed_31 : decode cX10_feed 31 = .ok (.invokevirtual 135, 3) := by decide +kernel
theorem dX10_feed_34 : decode cX10_feed 34 = .ok (.aload_n 0, 1) := by decide +kernel
theorem dX10_feed_35 : decode cX10_feed 35 = .ok (.getfield 30, 3) := by decide +kernel
theorem dX10_feed_38 : decode cX10_feed 38 = .ok (.iload_n 3, 1) := by decide +kernel
theorem dX10_feed_39 : decode cX10_feed 39 = .ok (.invokevirtual 135, 3) := by decide +kernel
theorem dX10_feed_42 : decode cX10_feed 42 = .ok (.aload_n 0, 1) := by decide +kernel
theorem dX10_feed_43 : decode cX10_feed 43 = .ok (.getfield 30, 3) := by decide +kernel
theorem dX10_feed_46 : decode cX10_feed 46 = .ok (.iload 4, 2) := by decide +kernel
theorem dX10_feed_48 : decode cX10_feed 48 = .ok (.invokevirtual 135, 3) := by decide +kernel
theorem dX10_feed_51 : decode cX10_feed 51 = .ok (.aload_n 0, 1) := by decide +kernel
theorem dX10_feed_52 : decode cX10_feed 52 = .ok (.getfield 30, 3) := by decide +kernel
theorem dX10_feed_55 : decode cX10_feed 55 = .ok (.iload 5, 2) := by decide +kernel
theorem dX10_feed_57 : decode cX10_feed 57 = .ok (.invokevirtual 135, 3) := by decide +kernel
theorem dX10_feed_60 : decode cX10_feed 60 = .ok (.aload_n 0, 1) := by decide +kernel
theorem dX10_feed_61 : decode cX10_feed 61 = .ok (.getfield 30, 3) := by decide +kernel
theorem dX10_feed_64 : decode cX10_feed 64 = .ok (.getfield 132, 3) := by decide +kernel
theorem dX10_feed_67 : decode cX10_feed 67 = .ok (.ireturn, 1) := by decide +kernel
theorem dX10_end_0 : decode cX10_end 0 = .ok (.iload_n 1, 1) := by decide +kernel
theorem dX10_end_1 : decode cX10_end 1 = .ok (.ifCond .lt 14, 3) := by decide +kernel
theorem dX10_end_4 : decode cX10_end 4 = .ok (.iload_n 1, 1) := by decide +kernel
theorem dX10_end_5 : decode cX10_end 5 = .ok (.aload_n 0, 1) := by decide +kernel
theorem dX10_end_6 : decode cX10_end 6 = .ok (.getfield 30, 3) := by decide +kernel
theorem dX10_end_9 : decode cX10_end 9 = .ok (.getfield 132, 3) := by decide +kernel
theorem dX10_end_12 : decode cX10_end 12 = .ok (.if_icmp .le 5, 3) := by decide +kernel
theorem dX10_end_15 : decode cX10_end 15 = .ok (.iconst (-1), 1) := by decide +kernel
theorem dX10_end_16 : decode cX10_end 16 = .ok (.ireturn, 1) := by decide +kernel
theorem dX10_end_17 : decode cX10_end 17 = .ok (.aload_n 0, 1) := by decide +kernel
theorem dX10_end_18 : decode cX10_end 18 = .ok (.getfield 30, 3) := by decide +kernel
theorem dX10_end_21 : decode cX10_end 21 = .ok (.iload_n 1, 1) := by decide +kernel
theorem dX10_end_22 : decode cX10_end 22 = .ok (.putfield 132, 3) := by decide +kernel
theorem dX10_end_25 : decode cX10_end 25 = .ok (.iload_n 1, 1) := by decide +kernel
theorem dX10_end_26 : decode cX10_end 26 = .ok (.ireturn, 1) := by decide +kernel
theorem dX10_row_0 : decode cX10_row 0 = .ok (.aload_n 0, 1) := by decide +kernel
theorem dX10_row_1 : decode cX10_row 1 = .ok (.getfield 30, 3) := by decide +kernel
theorem dX10_row_4 : decode cX10_row 4 = .ok (.getfield 132, 3) := by decide +kernel
theorem dX10_row_7 : decode cX10_row 7 = .ok (.ifCond .ne 10, 3) := by decide +kernel
theorem dX10_row_10 : decode cX10_row 10 = .ok (.aload_n 0, 1) := by decide +kernel
theorem dX10_row_11 : decode cX10_row 11 = .ok (.bipush (-6), 2) := by decide +kernel
theorem dX10_row_13 : decode cX10_row 13 = .ok (.invokevirtual 85, 3) := by decide +kernel
theorem dX10_row_16 : decode cX10_row 16 = .ok (.ireturn, 1) := by decide +kernel
theorem dX10_row_17 : decode cX10_row 17 = .ok (.iconst 0, 1) := by decide +kernel
theorem dX10_row_18 : decode cX10_row 18 = .ok (.istore_n 1, 1) := by decide +kernel
theorem dX10_row_19 : decode cX10_row 19 = .ok (.aload_n 0, 1) := by decide +kernel
theorem dX10_row_20 : decode cX10_row 20 = .ok (.iconst 0, 1) := by decide +kernel
theorem dX10_row_21 : decode cX10_row 21 = .ok (.putfield 139, 3) := by decide +kernel
theorem dX10_row_24 : decode cX10_row 24 = .ok (.iconst 0, 1) := by decide +kernel
theorem dX10_row_25 : decode cX10_row 25 = .ok (.istore_n 2, 1) := by decide +kernel
theorem dX10_row_26 : decode cX10_row 26 = .ok (.iload_n 2, 1) := by decide +kernel
theorem dX10_row_27 : decode cX10_row 27 = .ok (.aload_n 0, 1) := by decide +kernel
theorem dX10_row_28 : decode cX10_row 28 = .ok (.getfield 30, 3) := by decide +kernel
theorem dX10_row_31 : decode cX10_row 31 = .ok (.getfield 132, 3) := by decide +kernel
theorem dX10_row_34 : decode cX10_row 34 = .ok (.if_icmp .ge 33, 3) := by decide +kernel
theorem dX10_row_37 : decode cX10_row 37 = .ok (.aload_n 0, 1) := by decide +kernel
theorem dX10_row_38 : decode cX10_row 38 = .ok (.iload_n 2, 1) := by decide +kernel
theorem dX10_row_39 : decode cX10_row 39 = .ok (.invokevirtual 142, 3) := by decide +kernel
theorem dX10_row_42 : decode cX10_row 42 = .ok (.ifCond .eq 9, 3) := by decide +kernel
theorem dX10_row_45 : decode cX10_row 45 = .ok (.iinc 1 1, 3) := by decide +kernel
theorem dX10_row_48 : decode cX10_row 48 = .ok (.goto 13, 3) := by decide +kernel
theorem dX10_row_51 : decode cX10_row 51 = .ok (.aload_n 0, 1) := by decide +kernel
theorem dX10_row_52 : decode cX10_row 52 = .ok (.dup, 1) := by decide +kernel
theorem dX10_row_53 : decode cX10_row 53 = .ok (.getfield 139, 3) := by decide +kernel
theorem dX10_row_56 : decode cX10_row 56 = .ok (.iconst 1, 1) := by decide +kernel
theorem dX10_row_57 : decode cX10_row 57 = .ok (.iadd, 1) := by decide +kernel
theorem dX10_row_58 : decode cX10_row 58 = .ok (.putfield 139, 3) := by decide +kernel
theorem dX10_row_61 : decode cX10_row 61 = .ok (.iinc 2 3, 3) := by decide +kernel
theorem dX10_row_64 : decode cX10_row 64 = .ok (.goto (-38), 3) := by decide +kernel
theorem dX10_row_67 : decode cX10_row 67 = .ok (.aload_n 0, 1) := by decide +kernel
theorem dX10_row_68 : decode cX10_row 68 = .ok (.getfield 30, 3) := by decide +kernel
theorem dX10_row_71 : decode cX10_row 71 = .ok (.iconst 0, 1) := by decide +kernel
theorem dX10_row_72 : decode cX10_row 72 = .ok (.putfield 132, 3) := by decide +kernel
theorem dX10_row_75 : decode cX10_row 75 = .ok (.aload_n 0, 1) := by decide +kernel
theorem dX10_row_76 : decode cX10_row 76 = .ok (.invokevirtual 93, 3) := by decide +kernel
theorem dX10_row_79 : decode cX10_row 79 = .ok (.aload_n 0, 1) := by decide +kernel
theorem dX10_row_80 : decode cX10_row 80 = .ok (.iload_n 1, 1) := by decide +kernel
theorem dX10_row_81 : decode cX10_row 81 = .ok (.invokevirtual 100, 3) := by decide +kernel
theorem dX10_row_84 : decode cX10_row 84 = .ok (.ireturn, 1) := by decide +kernel
theorem dX10_crumbs_0 : decode cX10_crumbs 0 = .ok (.aload_n 0, 1) := by decide +kernel
theorem dX10_crumbs_1 : decode cX10_crumbs 1 = .ok (.getfield 139, 3) := by decide +kernel
theorem dX10_crumbs_4 : decode cX10_crumbs 4 = .ok (.ireturn, 1) := by decide +kernel
theorem dX10_law_0 : decode cX10_law 0 = .ok (.aload_n 0, 1) := by decide +kernel
theorem dX10_law_1 : decode cX10_law 1 = .ok (.getfield 10, 3) := by decide +kernel
theorem dX10_law_4 : decode cX10_law 4 = .ok (.getfield 145, 3) := by decide +kernel
theorem dX10_law_7 : decode cX10_law 7 = .ok (.bipush 6, 2) := by decide +kernel
theorem dX10_law_9 : decode cX10_law 9 = .ok (.if_icmp .lt 18, 3) := by decide +kernel
theorem dX10_law_12 : decode cX10_law 12 = .ok (.aload_n 0, 1) := by decide +kernel
theorem dX10_law_13 : decode cX10_law 13 = .ok (.getfield 30, 3) := by decide +kernel
theorem dX10_law_16 : decode cX10_law 16 = .ok (.iconst 0, 1) := by decide +kernel
theorem dX10_law_17 : decode cX10_law 17 = .ok (.putfield 132, 3) := by decide +kernel
theorem dX10_law_20 : decode cX10_law 20 = .ok (.aload_n 0, 1) := by decide +kernel
theorem dX10_law_21 : decode cX10_law 21 = .ok (.bipush (-5), 2) := by decide +kernel
theorem dX10_law_23 : decode cX10_law 23 = .ok (.invokevirtual 85, 3) := by decide +kernel
theorem dX10_law_26 : decode cX10_law 26 = .ok (.ireturn, 1) := by decide +kernel
theorem dX10_law_27 : decode cX10_law 27 = .ok (.aload_n 0, 1) := by decide +kernel
theorem dX10_law_28 : decode cX10_law 28 = .ok (.getfield 30, 3) := by decide +kernel
theorem dX10_law_31 : decode cX10_law 31 = .ok (.invokevirtual 148, 3) := by decide +kernel
theorem dX10_law_34 : decode cX10_law 34 = .ok (.astore_n 1, 1) := by decide +kernel
theorem dX10_law_35 : decode cX10_law 35 = .ok (.aload_n 0, 1) := by decide +kernel
theorem dX10_law_36 : decode cX10_law 36 = .ok (.getfield 30, 3) := by decide +kernel
theorem dX10_law_39 : decode cX10_law 39 = .ok (.iconst 0, 1) := by decide +kernel
theorem dX10_law_40 : decode cX10_law 40 = .ok (.putfield 132, 3) := by decide +kernel
theorem dX10_law_43 : decode cX10_law 43 = .ok (.aload_n 1, 1) := by decide +kernel
theorem dX10_law_44 : decode cX10_law 44 = .ok (.ifnonnull 10, 3) := by decide +kernel
theorem dX10_law_47 : decode cX10_law 47 = .ok (.aload_n 0, 1) := by decide +kernel
theorem dX10_law_48 : decode cX10_law 48 = .ok (.bipush (-6), 2) := by decide +kernel
theorem dX10_law_50 : decode cX10_law 50 = .ok (.invokevirtual 85, 3) := by decide +kernel
theorem dX10_law_53 : decode cX10_law 53 = .ok (.ireturn, 1) := by decide +kernel
theorem dX10_law_54 : decode cX10_law 54 = .ok (.aload_n 0, 1) := by decide +kernel
theorem dX10_law_55 : decode cX10_law 55 = .ok (.getfield 10, 3) := by decide +kernel
theorem dX10_law_58 : decode cX10_law 58 = .ok (.getfield 152, 3) := by decide +kernel
theorem dX10_law_61 : decode cX10_law 61 = .ok (.aload_n 0, 1) := by decide +kernel
theorem dX10_law_62 : decode cX10_law 62 = .ok (.getfield 10, 3) := by decide +kernel
theorem dX10_law_65 : decode cX10_law 65 = .ok (.getfield 145, 3) := by decide +kernel
theorem dX10_law_68 : decode cX10_law 68 = .ok (.aload_n 1, 1) := by decide +kernel
theorem dX10_law_69 : decode cX10_law 69 = .ok (.aastore, 1) := by decide +kernel
theorem dX10_law_70 : decode cX10_law 70 = .ok (.aload_n 0, 1) := by decide +kernel
theorem dX10_law_71 : decode cX10_law 71 = .ok (.getfield 10, 3) := by decide +kernel
theorem dX10_law_74 : decode cX10_law 74 = .ok (.dup, 1) := by decide +kernel
theorem dX10_law_75 : decode cX10_law 75 = .ok (.getfield 145, 3) := by decide +kernel
theorem dX10_law_78 : decode cX10_law 78 = .ok (.iconst 1, 1) := by decide +kernel
theorem dX10_law_79 : decode cX10_law 79 = .ok (.iadd, 1) := by decide +kernel
theorem dX10_law_80 : decode cX10_law 80 = .ok (.putfield 145, 3) := by decide +kernel
theorem dX10_law_83 : decode cX10_law 83 = .ok (.aload_n 0, 1) := by decide +kernel
theorem dX10_law_84 : decode cX10_law 84 = .ok (.aload_n 0, 1) := by decide +kernel
theorem dX10_law_85 : decode cX10_law 85 = .ok (.getfield 10, 3) := by decide +kernel
theorem dX10_law_88 : decode cX10_law 88 = .ok (.getfield 145, 3) := by decide +kernel
theorem dX10_law_91 : decode cX10_law 91 = .ok (.iconst 1, 1) := by decide +kernel
theorem dX10_law_92 : decode cX10_law 92 = .ok (.isub, 1) := by decide +kernel
theorem dX10_law_93 : decode cX10_law 93 = .ok (.invokevirtual 100, 3) := by decide +kernel
theorem dX10_law_96 : decode cX10_law 96 = .ok (.ireturn, 1) := by decide +kernel
theorem dX10_fault_0 : decode cX10_fault 0 = .ok (.aload_n 0, 1) := by decide +kernel
theorem dX10_fault_1 : decode cX10_fault 1 = .ok (.getfield 30, 3) := by decide +kernel
theorem dX10_fault_4 : decode cX10_fault 4 = .ok (.getfield 156, 3) := by decide +kernel
theorem dX10_fault_7 : decode cX10_fault 7 = .ok (.ireturn, 1) := by decide +kernel
theorem dX10_force_0 : decode cX10_force 0 = .ok (.iload_n 1, 1) := by decide +kernel
theorem dX10_force_1 : decode cX10_force 1 = .ok (.iconst (-1), 1) := by decide +kernel
theorem dX10_force_2 : decode cX10_force 2 = .ok (.if_icmp .lt 14, 3) := by decide +kernel
theorem dX10_force_5 : decode cX10_force 5 = .ok (.iload_n 1, 1) := by decide +kernel
theorem dX10_force_6 : decode cX10_force 6 = .ok (.aload_n 0, 1) := by decide +kernel
theorem dX10_force_7 : decode cX10_force 7 = .ok (.getfield 10, 3) := by decide +kernel
theorem dX10_force_10 : decode cX10_force 10 = .ok (.getfield 145, 3) := by decide +kernel
theorem dX10_force_13 : decode cX10_force 13 = .ok (.if_icmp .lt 10, 3) := by decide +kernel
theorem dX10_force_16 : decode cX10_force 16 = .ok (.aload_n 0, 1) := by decide +kernel
theorem dX10_force_17 : decode cX10_force 17 = .ok (.bipush (-2), 2) := by decide +kernel
theorem dX10_force_19 : decode cX10_force 19 = .ok (.invokevirtual 85, 3) := by decide +kernel
theorem dX10_force_22 : decode cX10_force 22 = .ok (.ireturn, 1) := by decide +kernel
theorem dX10_force_23 : decode cX10_force 23 = .ok (.aload_n 0, 1) := by decide +kernel
theorem dX10_force_24 : decode cX10_force 24 = .ok (.getfield 10, 3) := by decide +kernel
theorem dX10_force_27 : decode cX10_force 27 = .ok (.getfield 159, 3) := by decide +kernel
theorem dX10_force_30 : decode cX10_force 30 = .ok (.istore_n 2, 1) := by decide +kernel
theorem dX10_force_31 : decode cX10_force 31 = .ok (.aload_n 0, 1) := by decide +kernel
theorem dX10_force_32 : decode cX10_force 32 = .ok (.getfield 10, 3) := by decide +kernel
theorem dX10_force_35 : decode cX10_force 35 = .ok (.iload_n 1, 1) := by decide +kernel
theorem dX10_force_36 : decode cX10_force 36 = .ok (.putfield 159, 3) := by decide +kernel
theorem dX10_force_39 : decode cX10_force 39 = .ok (.aload_n 0, 1) := by decide +kernel
theorem dX10_force_40 : decode cX10_force 40 = .ok (.invokevirtual 93, 3) := by decide +kernel
theorem dX10_force_43 : decode cX10_force 43 = .ok (.aload_n 0, 1) := by decide +kernel
theorem dX10_force_44 : decode cX10_force 44 = .ok (.iload_n 2, 1) := by decide +kernel
theorem dX10_force_45 : decode cX10_force 45 = .ok (.invokevirtual 100, 3) := by decide +kernel
theorem dX10_force_48 : decode cX10_force 48 = .ok (.ireturn, 1) := by decide +kernel
theorem dX10_waits_0 : decode cX10_waits 0 = .ok (.aload_n 0, 1) := by decide +kernel
theorem dX10_waits_1 : decode cX10_waits 1 = .ok (.getfield 10, 3) := by decide +kernel
theorem dX10_waits_4 : decode cX10_waits 4 = .ok (.iload_n 1, 1) := by decide +kernel
theorem dX10_waits_5 : decode cX10_waits 5 = .ok (.invokevirtual 103, 3) := by decide +kernel
theorem dX10_waits_8 : decode cX10_waits 8 = .ok (.ifCond .eq 19, 3) := by decide +kernel
theorem dX10_waits_11 : decode cX10_waits 11 = .ok (.aload_n 0, 1) := by decide +kernel
theorem dX10_waits_12 : decode cX10_waits 12 = .ok (.getfield 10, 3) := by decide +kernel
theorem dX10_waits_15 : decode cX10_waits 15 = .ok (.iload_n 2, 1) := by decide +kernel
theorem dX10_waits_16 : decode cX10_waits 16 = .ok (.invokevirtual 103, 3) := by decide +kernel
theorem dX10_waits_19 : decode cX10_waits 19 = .ok (.ifCond .eq 8, 3) := by decide +kernel
theorem dX10_waits_22 : decode cX10_waits 22 = .ok (.iload_n 1, 1) := by decide +kernel
theorem dX10_waits_23 : decode cX10_waits 23 = .ok (.iload_n 2, 1) := by decide +kernel
theorem dX10_waits_24 : decode cX10_waits 24 = .ok (.if_icmp .ne 5, 3) := by decide +kernel
theorem dX10_waits_27 : decode cX10_waits 27 = .ok (.iconst (-1), 1) := by decide +kernel
theorem dX10_waits_28 : decode cX10_waits 28 = .ok (.ireturn, 1) := by decide +kernel
theorem dX10_waits_29 : decode cX10_waits 29 = .ok (.aload_n 0, 1) := by decide +kernel
theorem dX10_waits_30 : decode cX10_waits 30 = .ok (.getfield 37, 3) := by decide +kernel
theorem dX10_waits_33 : decode cX10_waits 33 = .ok (.getfield 162, 3) := by decide +kernel
theorem dX10_waits_36 : decode cX10_waits 36 = .ok (.aload_n 0, 1) := by decide +kernel
theorem dX10_waits_37 : decode cX10_waits 37 = .ok (.getfield 10, 3) := by decide +kernel
theorem dX10_waits_40 : decode cX10_waits 40 = .ok (.iload_n 1, 1) := by decide +kernel
theorem dX10_waits_41 : decode cX10_waits 41 = .ok (.iload_n 2, 1) := by decide +kernel
theorem dX10_waits_42 : decode cX10_waits 42 = .ok (.invokevirtual 166, 3) := by decide +kernel
theorem dX10_waits_45 : decode cX10_waits 45 = .ok (.ifCond .eq 7, 3) := by decide +kernel
theorem dX10_waits_48 : decode cX10_waits 48 = .ok (.iconst 1, 1) := by decide +kernel
theorem dX10_waits_49 : decode cX10_waits 49 = .ok (.goto 4, 3) := by decide +kernel
theorem dX10_waits_52 : decode cX10_waits 52 = .ok (.iconst 0, 1) := by decide +kernel
theorem dX10_waits_53 : decode cX10_waits 53 = .ok (.ireturn, 1) := by decide +kernel
theorem dX10_blessed_0 : decode cX10_blessed 0 = .ok (.iload_n 1, 1) := by decide +kernel
theorem dX10_blessed_1 : decode cX10_blessed 1 = .ok (.iconst 1, 1) := by decide +kernel
theorem dX10_blessed_2 : decode cX10_blessed 2 = .ok (.if_icmp .lt 18, 3) := by decide +kernel
theorem dX10_blessed_5 : decode cX10_blessed 5 = .ok (.iload_n 1, 1) := by decide +kernel
theorem dX10_blessed_6 : decode cX10_blessed 6 = .ok (.ldc 172, 2) := by decide +kernel
theorem dX10_blessed_8 : decode cX10_blessed 8 = .ok (.if_icmp .gt 12, 3) := by decide +kernel
theorem dX10_blessed_11 : decode cX10_blessed 11 = .ok (.iload_n 2, 1) := by decide +kernel
theorem dX10_blessed_12 : decode cX10_blessed 12 = .ok (.ifCond .lt 8, 3) := by decide +kernel
theorem dX10_blessed_15 : decode cX10_blessed 15 = .ok (.iload_n 2, 1) := by decide +kernel
theorem dX10_blessed_16 : decode cX10_blessed 16 = .ok (.iconst 1, 1) := by decide +kernel
theorem dX10_blessed_17 : decode cX10_blessed 17 = .ok (.if_icmp .le 5, 3) := by decide +kernel
theorem dX10_blessed_20 : decode cX10_blessed 20 = .ok (.iconst (-1), 1) := by decide +kernel
theorem dX10_blessed_21 : decode cX10_blessed 21 = .ok (.ireturn, 1) := by decide +kernel
theorem dX10_blessed_22 : decode cX10_blessed 22 = .ok (.iload_n 2, 1) := by decide +kernel
theorem dX10_blessed_23 : decode cX10_blessed 23 = .ok (.iconst 1, 1) := by decide +kernel
theorem dX10_blessed_24 : decode cX10_blessed 24 = .ok (.if_icmp .ne 14, 3) := by decide +kernel
theorem dX10_blessed_27 : decode cX10_blessed 27 = .ok (.aload_n 0, 1) := by decide +kernel
theorem dX10_blessed_28 : decode cX10_blessed 28 = .ok (.getfield 10, 3) := by decide +kernel
theorem dX10_blessed_31 : decode cX10_blessed 31 = .ok (.iload_n 1, 1) := by decide +kernel
theorem dX10_blessed_32 : decode cX10_blessed 32 = .ok (.invokevirtual 173, 3) := by decide +kernel
theorem dX10_blessed_35 : decode cX10_blessed 35 = .ok (.goto 22, 3) := by decide +kernel
theorem dX10_blessed_38 : decode cX10_blessed 38 = .ok (.aload_n 0, 1) := by decide +kernel
theorem dX10_blessed_39 : decode cX10_blessed 39 = .ok (.getfield 10, 3) := by decide +kernel
theorem dX10_blessed_42 : decode cX10_blessed 42 = .ok (.iload_n 1, 1) := by decide +kernel
theorem dX10_blessed_43 : decode cX10_blessed 43 = .ok (.invokevirtual 173, 3) := by decide +kernel
theorem dX10_blessed_46 : decode cX10_blessed 46 = .ok (.aload_n 0, 1) := by decide +kernel
theorem dX10_blessed_47 : decode cX10_blessed 47 = .ok (.getfield 10, 3) := by decide +kernel
theorem dX10_blessed_50 : decode cX10_blessed 50 = .ok (.iload_n 1, 1) := by decide +kernel
theorem dX10_blessed_51 : decode cX10_blessed 51 = .ok (.iconst 1, 1) := by decide +kernel
theorem dX10_blessed_52 : decode cX10_blessed 52 = .ok (.isub, 1) := by decide +kernel
theorem dX10_blessed_53 : decode cX10_blessed 53 = .ok (.invokevirtual 173, 3) := by decide +kernel
theorem dX10_blessed_56 : decode cX10_blessed 56 = .ok (.isub, 1) := by decide +kernel
theorem dX10_blessed_57 : decode cX10_blessed 57 = .ok (.ireturn, 1) := by decide +kernel
theorem dX10_served_0 : decode cX10_served 0 = .ok (.aload_n 0, 1) := by decide +kernel
theorem dX10_served_1 : decode cX10_served 1 = .ok (.getfield 10, 3) := by decide +kernel
theorem dX10_served_4 : decode cX10_served 4 = .ok (.iload_n 1, 1) := by decide +kernel
theorem dX10_served_5 : decode cX10_served 5 = .ok (.invokevirtual 103, 3) := by decide +kernel
theorem dX10_served_8 : decode cX10_served 8 = .ok (.ifCond .eq 12, 3) := by decide +kernel
theorem dX10_served_11 : decode cX10_served 11 = .ok (.iload_n 2, 1) := by decide +kernel
theorem dX10_served_12 : decode cX10_served 12 = .ok (.ifCond .lt 8, 3) := by decide +kernel
theorem dX10_served_15 : decode cX10_served 15 = .ok (.iload_n 2, 1) := by decide +kernel
theorem dX10_served_16 : decode cX10_served 16 = .ok (.iconst 1, 1) := by decide +kernel
theorem dX10_served_17 : decode cX10_served 17 = .ok (.if_icmp .le 5, 3) := by decide +kernel
theorem dX10_served_20 : decode cX10_served 20 = .ok (.iconst (-1), 1) := by decide +kernel
theorem dX10_served_21 : decode cX10_served 21 = .ok (.ireturn, 1) := by decide +kernel
theorem dX10_served_22 : decode cX10_served 22 = .ok (.aload_n 0, 1) := by decide +kernel
theorem dX10_served_23 : decode cX10_served 23 = .ok (.getfield 37, 3) := by decide +kernel
theorem dX10_served_26 : decode cX10_served 26 = .ok (.aload_n 0, 1) := by decide +kernel
theorem dX10_served_27 : decode cX10_served 27 = .ok (.getfield 10, 3) := by decide +kernel
theorem dX10_served_30 : decode cX10_served 30 = .ok (.invokevirtual 115, 3) := by decide +kernel
theorem dX10_served_33 : decode cX10_served 33 = .ok (.aload_n 0, 1) := by decide +kernel
theorem dX10_served_34 : decode cX10_served 34 = .ok (.getfield 10, 3) := by decide +kernel
theorem dX10_served_37 : decode cX10_served 37 = .ok (.getfield 123, 3) := by decide +kernel
theorem dX10_served_40 : decode cX10_served 40 = .ok (.iconst 3, 1) := by decide +kernel
theorem dX10_served_41 : decode cX10_served 41 = .ok (.aload_n 0, 1) := by decide +kernel
theorem dX10_served_42 : decode cX10_served 42 = .ok (.getfield 10, 3) := by decide +kernel
theorem dX10_served_45 : decode cX10_served 45 = .ok (.iload_n 1, 1) := by decide +kernel
theorem dX10_served_46 : decode cX10_served 46 = .ok (.invokevirtual 176, 3) := by decide +kernel
theorem dX10_served_49 : decode cX10_served 49 = .ok (.iadd, 1) := by decide +kernel
theorem dX10_served_50 : decode cX10_served 50 = .ok (.iaload, 1) := by decide +kernel
theorem dX10_served_51 : decode cX10_served 51 = .ok (.aload_n 0, 1) := by decide +kernel
theorem dX10_served_52 : decode cX10_served 52 = .ok (.getfield 37, 3) := by decide +kernel
theorem dX10_served_55 : decode cX10_served 55 = .ok (.getfield 179, 3) := by decide +kernel
theorem dX10_served_58 : decode cX10_served 58 = .ok (.iload_n 1, 1) := by decide +kernel
theorem dX10_served_59 : decode cX10_served 59 = .ok (.iaload, 1) := by decide +kernel
theorem dX10_served_60 : decode cX10_served 60 = .ok (.iadd, 1) := by decide +kernel
theorem dX10_served_61 : decode cX10_served 61 = .ok (.istore_n 3, 1) := by decide +kernel
theorem dX10_served_62 : decode cX10_served 62 = .ok (.iload_n 2, 1) := by decide +kernel
theorem dX10_served_63 : decode cX10_served 63 = .ok (.ifCond .ne 21, 3) := by decide +kernel
theorem dX10_served_66 : decode cX10_served 66 = .ok (.aload_n 0, 1) := by decide +kernel
theorem dX10_served_67 : decode cX10_served 67 = .ok (.getfield 10, 3) := by decide +kernel
theorem dX10_served_70 : decode cX10_served 70 = .ok (.iload_n 3, 1) := by decide +kernel
theorem dX10_served_71 : decode cX10_served 71 = .ok (.aload_n 0, 1) := by decide +kernel
theorem dX10_served_72 : decode cX10_served 72 = .ok (.getfield 37, 3) := by decide +kernel
theorem dX10_served_75 : decode cX10_served 75 = .ok (.getfield 119, 3) := by decide +kernel
theorem dX10_served_78 : decode cX10_served 78 = .ok (.iload_n 1, 1) := by decide +kernel
theorem dX10_served_79 : decode cX10_served 79 = .ok (.iaload, 1) := by decide +kernel
theorem dX10_served_80 : decode cX10_served 80 = .ok (.invokevirtual 182, 3) := by decide +kernel
theorem dX10_served_83 : decode cX10_served 83 = .ok (.ireturn, 1) := by decide +kernel
theorem dX10_served_84 : decode cX10_served 84 = .ok (.aload_n 0, 1) := by decide +kernel
theorem dX10_served_85 : decode cX10_served 85 = .ok (.getfield 37, 3) := by decide +kernel
theorem dX10_served_88 : decode cX10_served 88 = .ok (.getfield 119, 3) := by decide +kernel
theorem dX10_served_91 : decode cX10_served 91 = .ok (.iload_n 1, 1) := by decide +kernel
theorem dX10_served_92 : decode cX10_served 92 = .ok (.iaload, 1) := by decide +kernel
theorem dX10_served_93 : decode cX10_served 93 = .ok (.ifCond .le 9, 3) := by decide +kernel
theorem dX10_served_96 : decode cX10_served 96 = .ok (.iload_n 3, 1) := by decide +kernel
theorem dX10_served_97 : decode cX10_served 97 = .ok (.iconst 1, 1) := by decide +kernel
theorem dX10_served_98 : decode cX10_served 98 = .ok (.iadd, 1) := by decide +kernel
theorem dX10_served_99 : decode cX10_served 99 = .ok (.goto 4, 3) := by decide +kernel
theorem dX10_served_102 : decode cX10_served 102 = .ok (.iconst (-1), 1) := by decide +kernel
theorem dX10_served_103 : decode cX10_served 103 = .ok (.ireturn, 1) := by decide +kernel
theorem dX10_orders_0 : decode cX10_orders 0 = .ok (.aload_n 0, 1) := by decide +kernel
theorem dX10_orders_1 : decode cX10_orders 1 = .ok (.getfield 37, 3) := by decide +kernel
theorem dX10_orders_4 : decode cX10_orders 4 = .ok (.aload_n 0, 1) := by decide +kernel
theorem dX10_orders_5 : decode cX10_orders 5 = .ok (.getfield 10, 3) := by decide +kernel
theorem dX10_orders_8 : decode cX10_orders 8 = .ok (.invokevirtual 185, 3) := by decide +kernel
theorem dX10_orders_11 : decode cX10_orders 11 = .ok (.aload_n 0, 1) := by decide +kernel
theorem dX10_orders_12 : decode cX10_orders 12 = .ok (.getfield 37, 3) := by decide +kernel
theorem dX10_orders_15 : decode cX10_orders 15 = .ok (.iconst (-1), 1) := by decide +kernel
theorem dX10_orders_16 : decode cX10_orders 16 = .ok (.iconst 0, 1) := by decide +kernel
theorem dX10_orders_17 : decode cX10_orders 17 = .ok (.invokevirtual 188, 3) := by decide +kernel
theorem dX10_orders_20 : decode cX10_orders 20 = .ok (.ireturn, 1) := by decide +kernel
theorem dX10_best_0 : decode cX10_best 0 = .ok (.aload_n 0, 1) := by decide +kernel
theorem dX10_best_1 : decode cX10_best 1 = .ok (.getfield 37, 3) := by decide +kernel
theorem dX10_best_4 : decode cX10_best 4 = .ok (.aload_n 0, 1) := by decide +kernel
theorem dX10_best_5 : decode cX10_best 5 = .ok (.getfield 10, 3) := by decide +kernel
theorem dX10_best_8 : decode cX10_best 8 = .ok (.invokevirtual 185, 3) := by decide +kernel
theorem dX10_best_11 : decode cX10_best 11 = .ok (.aload_n 0, 1) := by decide +kernel
theorem dX10_best_12 : decode cX10_best 12 = .ok (.invokevirtual 191, 3) := by decide +kernel
theorem dX10_best_15 : decode cX10_best 15 = .ok (.astore_n 2, 1) := by decide +kernel
theorem dX10_best_16 : decode cX10_best 16 = .ok (.iload_n 1, 1) := by decide +kernel
theorem dX10_best_17 : decode cX10_best 17 = .ok (.ifCond .ne 20, 3) := by decide +kernel
theorem dX10_best_20 : decode cX10_best 20 = .ok (.aload_n 2, 1) := by decide +kernel
theorem dX10_best_21 : decode cX10_best 21 = .ok (.getfield 195, 3) := by decide +kernel
theorem dX10_best_24 : decode cX10_best 24 = .ok (.ifCond .le 11, 3) := by decide +kernel
theorem dX10_best_27 : decode cX10_best 27 = .ok (.aload_n 2, 1) := by decide +kernel
theorem dX10_best_28 : decode cX10_best 28 = .ok (.getfield 198, 3) := by decide +kernel
theorem dX10_best_31 : decode cX10_best 31 = .ok (.ineg, 1) := by decide +kernel
theorem dX10_best_32 : decode cX10_best 32 = .ok (.goto 4, 3) := by decide +kernel
theorem dX10_best_35 : decode cX10_best 35 = .ok (.iconst (-1), 1) := by decide +kernel
theorem dX10_best_36 : decode cX10_best 36 = .ok (.ireturn, 1) := by decide +kernel
theorem dX10_best_37 : decode cX10_best 37 = .ok (.iload_n 1, 1) := by decide +kernel
theorem dX10_best_38 : decode cX10_best 38 = .ok (.iconst 1, 1) := by decide +kernel
theorem dX10_best_39 : decode cX10_best 39 = .ok (.if_icmp .ne 10, 3) := by decide +kernel
theorem dX10_best_42 : decode cX10_best 42 = .ok (.aload_n 2, 1) := by decide +kernel
theorem dX10_best_43 : decode cX10_best 43 = .ok (.getfield 195, 3) := by decide +kernel
theorem dX10_best_46 : decode cX10_best 46 = .ok (.goto 17, 3) := by decide +kernel
theorem dX10_best_49 : decode cX10_best 49 = .ok (.aload_n 2, 1) := by decide +kernel
theorem dX10_best_50 : decode cX10_best 50 = .ok (.iload_n 1, 1) := by decide +kernel
theorem dX10_best_51 : decode cX10_best 51 = .ok (.iconst 2, 1) := by decide +kernel
theorem dX10_best_52 : decode cX10_best 52 = .ok (.isub, 1) := by decide +kernel
theorem dX10_best_53 : decode cX10_best 53 = .ok (.aload_n 0, 1) := by decide +kernel
theorem dX10_best_54 : decode cX10_best 54 = .ok (.getfield 10, 3) := by decide +kernel
theorem dX10_best_57 : decode cX10_best 57 = .ok (.getfield 89, 3) := by decide +kernel
theorem dX10_best_60 : decode cX10_best 60 = .ok (.invokevirtual 201, 3) := by decide +kernel
theorem dX10_best_63 : decode cX10_best 63 = .ok (.ireturn, 1) := by decide +kernel
theorem dX10_fairest_0 : decode cX10_fairest 0 = .ok (.aload_n 0, 1) := by decide +kernel
theorem dX10_fairest_1 : decode cX10_fairest 1 = .ok (.getfield 37, 3) := by decide +kernel
theorem dX10_fairest_4 : decode cX10_fairest 4 = .ok (.aload_n 0, 1) := by decide +kernel
theorem dX10_fairest_5 : decode cX10_fairest 5 = .ok (.getfield 10, 3) := by decide +kernel
theorem dX10_fairest_8 : decode cX10_fairest 8 = .ok (.invokevirtual 185, 3) := by decide +kernel
theorem dX10_fairest_11 : decode cX10_fairest 11 = .ok (.aload_n 0, 1) := by decide +kernel
theorem dX10_fairest_12 : decode cX10_fairest 12 = .ok (.invokevirtual 204, 3) := by decide +kernel
theorem dX10_fairest_15 : decode cX10_fairest 15 = .ok (.astore_n 2, 1) := by decide +kernel
theorem dX10_fairest_16 : decode cX10_fairest 16 = .ok (.iload_n 1, 1) := by decide +kernel
theorem dX10_fairest_17 : decode cX10_fairest 17 = .ok (.ifCond .ne 19, 3) := by decide +kernel
theorem dX10_fairest_20 : decode cX10_fairest 20 = .ok (.aload_n 2, 1) := by decide +kernel
theorem dX10_fairest_21 : decode cX10_fairest 21 = .ok (.getfield 195, 3) := by decide +kernel
theorem dX10_fairest_24 : decode cX10_fairest 24 = .ok (.ifCond .le 10, 3) := by decide +kernel
theorem dX10_fairest_27 : decode cX10_fairest 27 = .ok (.aload_n 2, 1) := by decide +kernel
theorem dX10_fairest_28 : decode cX10_fairest 28 = .ok (.getfield 198, 3) := by decide +kernel
theorem dX10_fairest_31 : decode cX10_fairest 31 = .ok (.goto 4, 3) := by decide +kernel
theorem dX10_fairest_34 : decode cX10_fairest 34 = .ok (.iconst (-1), 1) := by decide +kernel
theorem dX10_fairest_35 : decode cX10_fairest 35 = .ok (.ireturn, 1) := by decide +kernel
theorem dX10_fairest_36 : decode cX10_fairest 36 = .ok (.aload_n 2, 1) := by decide +kernel
theorem dX10_fairest_37 : decode cX10_fairest 37 = .ok (.iload_n 1, 1) := by decide +kernel
theorem dX10_fairest_38 : decode cX10_fairest 38 = .ok (.iconst 1, 1) := by decide +kernel
theorem dX10_fairest_39 : decode cX10_fairest 39 = .ok (.isub, 1) := by decide +kernel
theorem dX10_fairest_40 : decode cX10_fairest 40 = .ok (.aload_n 0, 1) := by decide +kernel
theorem dX10_fairest_41 : decode cX10_fairest 41 = .ok (.getfield 10, 3) := by decide +kernel
theorem dX10_fairest_44 : decode cX10_fairest 44 = .ok (.getfield 89, 3) := by decide +kernel
theorem dX10_fairest_47 : decode cX10_fairest 47 = .ok (.invokevirtual 201, 3) := by decide +kernel
theorem dX10_fairest_50 : decode cX10_fairest 50 = .ok (.ireturn, 1) := by decide +kernel
theorem dX10_year_0 : decode cX10_year 0 = .ok (.aload_n 0, 1) := by decide +kernel
theorem dX10_year_1 : decode cX10_year 1 = .ok (.getfield 60, 3) := by decide +kernel
theorem dX10_year_4 : decode cX10_year 4 = .ok (.getfield 207, 3) := by decide +kernel
theorem dX10_year_7 : decode cX10_year 7 = .ok (.ifCond .ne 86, 3) := by decide +kernel
theorem dX10_year_10 : decode cX10_year 10 = .ok (.aload_n 0, 1) := by decide +kernel
theorem dX10_year_11 : decode cX10_year 11 = .ok (.getfield 60, 3) := by decide +kernel
theorem dX10_year_14 : decode cX10_year 14 = .ok (.aload_n 0, 1) := by decide +kernel
theorem dX10_year_15 : decode cX10_year 15 = .ok (.getfield 10, 3) := by decide +kernel
theorem dX10_year_18 : decode cX10_year 18 = .ok (.getfield 89, 3) := by decide +kernel
theorem dX10_year_21 : decode cX10_year 21 = .ok (.invokevirtual 211, 3) := by decide +kernel
theorem dX10_year_24 : decode cX10_year 24 = .ok (.aload_n 0, 1) := by decide +kernel
theorem dX10_year_25 : decode cX10_year 25 = .ok (.getfield 16, 3) := by decide +kernel
theorem dX10_year_28 : decode cX10_year 28 = .ok (.aload_n 0, 1) := by decide +kernel
theorem dX10_year_29 : decode cX10_year 29 = .ok (.getfield 10, 3) := by decide +kernel
theorem dX10_year_32 : decode cX10_year 32 = .ok (.invokevirtual 214, 3) := by decide +kernel
theorem dX10_year_35 : decode cX10_year 35 = .ok (.iconst 0, 1) := by decide +kernel
theorem dX10_year_36 : decode cX10_year 36 = .ok (.istore_n 2, 1) := by decide +kernel
theorem dX10_year_37 : decode cX10_year 37 = .ok (.iload_n 2, 1) := by decide +kernel
theorem dX10_year_38 : decode cX10_year 38 = .ok (.bipush 30, 2) := by decide +kernel
theorem dX10_year_40 : decode cX10_year 40 = .ok (.if_icmp .ge 46, 3) := by decide +kernel
theorem dX10_year_43 : decode cX10_year 43 = .ok (.aload_n 0, 1) := by decide +kernel
theorem dX10_year_44 : decode cX10_year 44 = .ok (.getfield 60, 3) := by decide +kernel
theorem dX10_year_47 : decode cX10_year 47 = .ok (.getfield 217, 3) := by decide +kernel
theorem dX10_year_50 : decode cX10_year 50 = .ok (.ifCond .eq 36, 3) := by decide +kernel
theorem dX10_year_53 : decode cX10_year 53 = .ok (.aload_n 0, 1) := by decide +kernel
theorem dX10_year_54 : decode cX10_year 54 = .ok (.iload_n 2, 1) := by decide +kernel
theorem dX10_year_55 : decode cX10_year 55 = .ok (.invokevirtual 220, 3) := by decide +kernel
theorem dX10_year_58 : decode cX10_year 58 = .ok (.aload_n 0, 1) := by decide +kernel
theorem dX10_year_59 : decode cX10_year 59 = .ok (.getfield 60, 3) := by decide +kernel
theorem dX10_year_62 : decode cX10_year 62 = .ok (.aload_n 0, 1) := by decide +kernel
theorem dX10_year_63 : decode cX10_year 63 = .ok (.getfield 41, 3) := by decide +kernel
theorem dX10_year_66 : decode cX10_year 66 = .ok (.invokevirtual 223, 3) := by decide +kernel
theorem dX10_year_69 : decode cX10_year 69 = .ok (.aload_n 0, 1) := by decide +kernel
theorem dX10_year_70 : decode cX10_year 70 = .ok (.getfield 41, 3) := by decide +kernel
theorem dX10_year_73 : decode cX10_year 73 = .ok (.aload_n 0, 1) := by decide +kernel
theorem dX10_year_74 : decode cX10_year 74 = .ok (.getfield 16, 3) := by decide +kernel
theorem dX10_year_77 : decode cX10_year 77 = .ok (.invokevirtual 227, 3) := by decide +kernel
theorem dX10_year_80 : decode cX10_year 80 = .ok (.iinc 2 1, 3) := by decide +kernel
theorem dX10_year_83 : decode cX10_year 83 = .ok (.goto (-46), 3) := by decide +kernel
theorem dX10_year_86 : decode cX10_year 86 = .ok (.aload_n 0, 1) := by decide +kernel
theorem dX10_year_87 : decode cX10_year 87 = .ok (.getfield 60, 3) := by decide +kernel
theorem dX10_year_90 : decode cX10_year 90 = .ok (.invokevirtual 230, 3) := by decide +kernel
theorem dX10_year_93 : decode cX10_year 93 = .ok (.iload_n 1, 1) := by decide +kernel
theorem dX10_year_94 : decode cX10_year 94 = .ok (.iconst (-1), 1) := by decide +kernel
theorem dX10_year_95 : decode cX10_year 95 = .ok (.if_icmp .ne 25, 3) := by decide +kernel
theorem dX10_year_98 : decode cX10_year 98 = .ok (.aload_n 0, 1) := by decide +kernel
theorem dX10_year_99 : decode cX10_year 99 = .ok (.getfield 60, 3) := by decide +kernel
theorem dX10_year_102 : decode cX10_year 102 = .ok (.getfield 233, 3) := by decide +kernel
theorem dX10_year_105 : decode cX10_year 105 = .ok (.ifCond .le 13, 3) := by decide +kernel
theorem dX10_year_108 : decode cX10_year 108 = .ok (.aload_n 0, 1) := by decide +kernel
theorem dX10_year_109 : decode cX10_year 109 = .ok (.getfield 60, 3) := by decide +kernel
theorem dX10_year_112 : decode cX10_year 112 = .ok (.getfield 233, 3) := by decide +kernel
theorem dX10_year_115 : decode cX10_year 115 = .ok (.goto 4, 3) := by decide +kernel
theorem dX10_year_118 : decode cX10_year 118 = .ok (.iconst (-1), 1) := by decide +kernel
theorem dX10_year_119 : decode cX10_year 119 = .ok (.ireturn, 1) := by decide +kernel
theorem dX10_year_120 : decode cX10_year 120 = .ok (.iload_n 1, 1) := by decide +kernel
theorem dX10_year_121 : decode cX10_year 121 = .ok (.ifCond .lt 26, 3) := by decide +kernel
theorem dX10_year_124 : decode cX10_year 124 = .ok (.iload_n 1, 1) := by decide +kernel
theorem dX10_year_125 : decode cX10_year 125 = .ok (.aload_n 0, 1) := by decide +kernel
theorem dX10_year_126 : decode cX10_year 126 = .ok (.getfield 60, 3) := by decide +kernel
theorem dX10_year_129 : decode cX10_year 129 = .ok (.getfield 233, 3) := by decide +kernel
theorem dX10_year_132 : decode cX10_year 132 = .ok (.if_icmp .ge 15, 3) := by decide +kernel
theorem dX10_year_135 : decode cX10_year 135 = .ok (.aload_n 0, 1) := by decide +kernel
theorem dX10_year_136 : decode cX10_year 136 = .ok (.getfield 60, 3) := by decide +kernel
theorem dX10_year_139 : decode cX10_year 139 = .ok (.getfield 236, 3) := by decide +kernel
theorem dX10_year_142 : decode cX10_year 142 = .ok (.iload_n 1, 1) := by decide +kernel
theorem dX10_year_143 : decode cX10_year 143 = .ok (.iaload, 1) := by decide +kernel
theorem dX10_year_144 : decode cX10_year 144 = .ok (.goto 4, 3) := by decide +kernel
theorem dX10_year_147 : decode cX10_year 147 = .ok (.iconst (-1), 1) := by decide +kernel
theorem dX10_year_148 : decode cX10_year 148 = .ok (.ireturn, 1) := by decide +kernel
theorem dX10_chances_0 : decode cX10_chances 0 = .ok (.aload_n 0, 1) := by decide +kernel
theorem dX10_chances_1 : decode cX10_chances 1 = .ok (.getfield 10, 3) := by decide +kernel
theorem dX10_chances_4 : decode cX10_chances 4 = .ok (.iload_n 1, 1) := by decide +kernel
theorem dX10_chances_5 : decode cX10_chances 5 = .ok (.invokevirtual 103, 3) := by decide +kernel
theorem dX10_chances_8 : decode cX10_chances 8 = .ok (.ifCond .eq 13, 3) := by decide +kernel
theorem dX10_chances_11 : decode cX10_chances 11 = .ok (.iload_n 2, 1) := by decide +kernel
theorem dX10_chances_12 : decode cX10_chances 12 = .ok (.ifCond .lt 9, 3) := by decide +kernel
theorem dX10_chances_15 : decode cX10_chances 15 = .ok (.iload_n 2, 1) := by decide +kernel
theorem dX10_chances_16 : decode cX10_chances 16 = .ok (.bipush 20, 2) := by decide +kernel
theorem dX10_chances_18 : decode cX10_chances 18 = .ok (.if_icmp .le 5, 3) := by decide +kernel
theorem dX10_chances_21 : decode cX10_chances 21 = .ok (.iconst (-1), 1) := by decide +kernel
theorem dX10_chances_22 : decode cX10_chances 22 = .ok (.ireturn, 1) := by decide +kernel
theorem dX10_chances_23 : decode cX10_chances 23 = .ok (.aload_n 0, 1) := by decide +kernel
theorem dX10_chances_24 : decode cX10_chances 24 = .ok (.getfield 37, 3) := by decide +kernel
theorem dX10_chances_27 : decode cX10_chances 27 = .ok (.aload_n 0, 1) := by decide +kernel
theorem dX10_chances_28 : decode cX10_chances 28 = .ok (.getfield 10, 3) := by decide +kernel
theorem dX10_chances_31 : decode cX10_chances 31 = .ok (.invokevirtual 185, 3) := by decide +kernel
theorem dX10_chances_34 : decode cX10_chances 34 = .ok (.aload_n 0, 1) := by decide +kernel
theorem dX10_chances_35 : decode cX10_chances 35 = .ok (.getfield 37, 3) := by decide +kernel
theorem dX10_chances_38 : decode cX10_chances 38 = .ok (.iload_n 1, 1) := by decide +kernel
theorem dX10_chances_39 : decode cX10_chances 39 = .ok (.iload_n 2, 1) := by decide +kernel
theorem dX10_chances_40 : decode cX10_chances 40 = .ok (.invokevirtual 188, 3) := by decide +kernel
theorem dX10_chances_43 : decode cX10_chances 43 = .ok (.ireturn, 1) := by decide +kernel
theorem dX10_never_0 : decode cX10_never 0 = .ok (.aload_n 0, 1) := by decide +kernel
theorem dX10_never_1 : decode cX10_never 1 = .ok (.getfield 10, 3) := by decide +kernel
theorem dX10_never_4 : decode cX10_never 4 = .ok (.iload_n 1, 1) := by decide +kernel
theorem dX10_never_5 : decode cX10_never 5 = .ok (.invokevirtual 103, 3) := by decide +kernel
theorem dX10_never_8 : decode cX10_never 8 = .ok (.ifCond .eq 13, 3) := by decide +kernel
theorem dX10_never_11 : decode cX10_never 11 = .ok (.iload_n 2, 1) := by decide +kernel
theorem dX10_never_12 : decode cX10_never 12 = .ok (.iconst 1, 1) := by decide +kernel
theorem dX10_never_13 : decode cX10_never 13 = .ok (.if_icmp .lt 8, 3) := by decide +kernel
theorem dX10_never_16 : decode cX10_never 16 = .ok (.iload_n 2, 1) := by decide +kernel
theorem dX10_never_17 : decode cX10_never 17 = .ok (.iconst 4, 1) := by decide +kernel
theorem dX10_never_18 : decode cX10_never 18 = .ok (.if_icmp .le 7, 3) := by decide +kernel
theorem dX10_never_21 : decode cX10_never 21 = .ok (.ldc2_w 239, 3) := by decide +kernel
theorem dX10_never_24 : decode cX10_never 24 = .ok (.lreturn, 1) := by decide +kernel
theorem dX10_never_25 : decode cX10_never 25 = .ok (.lconst 1, 1) := by decide +kernel
theorem dX10_never_26 : decode cX10_never 26 = .ok (.lstore_n 3, 1) := by decide +kernel
theorem dX10_never_27 : decode cX10_never 27 = .ok (.aload_n 0, 1) := by decide +kernel
theorem dX10_never_28 : decode cX10_never 28 = .ok (.getfield 16, 3) := by decide +kernel
theorem dX10_never_31 : decode cX10_never 31 = .ok (.aload_n 0, 1) := by decide +kernel
theorem dX10_never_32 : decode cX10_never 32 = .ok (.getfield 10, 3) := by decide +kernel
theorem dX10_never_35 : decode cX10_never 35 = .ok (.invokevirtual 214, 3) := by decide +kernel
theorem dX10_never_38 : decode cX10_never 38 = .ok (.iconst 0, 1) := by decide +kernel
theorem dX10_never_39 : decode cX10_never 39 = .ok (.istore 5, 2) := by decide +kernel
theorem dX10_never_41 : decode cX10_never 41 = .ok (.iload 5, 2) := by decide +kernel
theorem dX10_never_43 : decode cX10_never 43 = .ok (.iload_n 2, 1) := by decide +kernel
theorem dX10_never_44 : decode cX10_never 44 = .ok (.if_icmp .ge 39, 3) := by decide +kernel
theorem dX10_never_47 : decode cX10_never 47 = .ok (.aload_n 0, 1) := by decide +kernel
theorem dX10_never_48 : decode cX10_never 48 = .ok (.iload 5, 2) := by decide +kernel
theorem dX10_never_50 : decode cX10_never 50 = .ok (.invokevirtual 220, 3) := by decide +kernel
theorem dX10_never_53 : decode cX10_never 53 = .ok (.lload_n 3, 1) := by decide +kernel
theorem dX10_never_54 : decode cX10_never 54 = .ok (.aload_n 0, 1) := by decide +kernel
theorem dX10_never_55 : decode cX10_never 55 = .ok (.getfield 41, 3) := by decide +kernel
theorem dX10_never_58 : decode cX10_never 58 = .ok (.iload_n 1, 1) := by decide +kernel
theorem dX10_never_59 : decode cX10_never 59 = .ok (.iconst 0, 1) := by decide +kernel
theorem dX10_never_60 : decode cX10_never 60 = .ok (.invokevirtual 188, 3) := by decide +kernel
theorem dX10_never_63 : decode cX10_never 63 = .ok (.i2l, 1) := by decide +kernel
theorem dX10_never_64 : decode cX10_never 64 = .ok (.lmul, 1) := by decide +kernel
theorem dX10_never_65 : decode cX10_never 65 = .ok (.lstore_n 3, 1) := by decide +kernel
theorem dX10_never_66 : decode cX10_never 66 = .ok (.aload_n 0, 1) := by decide +kernel
theorem dX10_never_67 : decode cX10_never 67 = .ok (.getfield 41, 3) := by decide +kernel
theorem dX10_never_70 : decode cX10_never 70 = .ok (.aload_n 0, 1) := by decide +kernel
theorem dX10_never_71 : decode cX10_never 71 = .ok (.getfield 16, 3) := by decide +kernel
theorem dX10_never_74 : decode cX10_never 74 = .ok (.invokevirtual 227, 3) := by decide +kernel
theorem dX10_never_77 : decode cX10_never 77 = .ok (.iinc 5 1, 3) := by decide +kernel
theorem dX10_never_80 : decode cX10_never 80 = .ok (.goto (-39), 3) := by decide +kernel
theorem dX10_never_83 : decode cX10_never 83 = .ok (.lload_n 3, 1) := by decide +kernel
theorem dX10_never_84 : decode cX10_never 84 = .ok (.lreturn, 1) := by decide +kernel
theorem dX10_sight_0 : decode cX10_sight 0 = .ok (.aload_n 0, 1) := by decide +kernel
theorem dX10_sight_1 : decode cX10_sight 1 = .ok (.aload_n 0, 1) := by decide +kernel
theorem dX10_sight_2 : decode cX10_sight 2 = .ok (.getfield 10, 3) := by decide +kernel
theorem dX10_sight_5 : decode cX10_sight 5 = .ok (.getfield 241, 3) := by decide +kernel
theorem dX10_sight_8 : decode cX10_sight 8 = .ok (.iload_n 1, 1) := by decide +kernel
theorem dX10_sight_9 : decode cX10_sight 9 = .ok (.iload_n 2, 1) := by decide +kernel
theorem dX10_sight_10 : decode cX10_sight 10 = .ok (.invokevirtual 245, 3) := by decide +kernel
theorem dX10_sight_13 : decode cX10_sight 13 = .ok (.ireturn, 1) := by decide +kernel
theorem dX10_counts_0 : decode cX10_counts 0 = .ok (.iload_n 1, 1) := by decide +kernel
theorem dX10_counts_1 : decode cX10_counts 1 = .ok (.ifCond .lt 13, 3) := by decide +kernel
theorem dX10_counts_4 : decode cX10_counts 4 = .ok (.iload_n 1, 1) := by decide +kernel
theorem dX10_counts_5 : decode cX10_counts 5 = .ok (.iconst 2, 1) := by decide +kernel
theorem dX10_counts_6 : decode cX10_counts 6 = .ok (.if_icmp .ge 8, 3) := by decide +kernel
theorem dX10_counts_9 : decode cX10_counts 9 = .ok (.iload_n 2, 1) := by decide +kernel
theorem dX10_counts_10 : decode cX10_counts 10 = .ok (.iconst (-1), 1) := by decide +kernel
theorem dX10_counts_11 : decode cX10_counts 11 = .ok (.if_icmp .ge 5, 3) := by decide +kernel
theorem dX10_counts_14 : decode cX10_counts 14 = .ok (.iconst (-1), 1) := by decide +kernel
theorem dX10_counts_15 : decode cX10_counts 15 = .ok (.ireturn, 1) := by decide +kernel
theorem dX10_counts_16 : decode cX10_counts 16 = .ok (.aload_n 0, 1) := by decide +kernel
theorem dX10_counts_17 : decode cX10_counts 17 = .ok (.getfield 37, 3) := by decide +kernel
theorem dX10_counts_20 : decode cX10_counts 20 = .ok (.aload_n 0, 1) := by decide +kernel
theorem dX10_counts_21 : decode cX10_counts 21 = .ok (.getfield 10, 3) := by decide +kernel
theorem dX10_counts_24 : decode cX10_counts 24 = .ok (.invokevirtual 115, 3) := by decide +kernel
theorem dX10_counts_27 : decode cX10_counts 27 = .ok (.iconst 0, 1) := by decide +kernel
theorem dX10_counts_28 : decode cX10_counts 28 = .ok (.istore_n 3, 1) := by decide +kernel
theorem dX10_counts_29 : decode cX10_counts 29 = .ok (.aload_n 0, 1) := by decide +kernel
theorem dX10_counts_30 : decode cX10_counts 30 = .ok (.getfield 10, 3) := by decide +kernel
theorem dX10_counts_33 : decode cX10_counts 33 = .ok (.invokevirtual 249, 3) := by decide +kernel
theorem dX10_counts_36 : decode cX10_counts 36 = .ok (.istore 4, 2) := by decide +kernel
theorem dX10_counts_38 : decode cX10_counts 38 = .ok (.iconst 0, 1) := by decide +kernel
theorem dX10_counts_39 : decode cX10_counts 39 = .ok (.istore 5, 2) := by decide +kernel
theorem dX10_counts_41 : decode cX10_counts 41 = .ok (.iload 5, 2) := by decide +kernel
theorem dX10_counts_43 : decode cX10_counts 43 = .ok (.iload 4, 2) := by decide +kernel
theorem dX10_counts_45 : decode cX10_counts 45 = .ok (.if_icmp .ge 30, 3) := by decide +kernel
theorem dX10_counts_48 : decode cX10_counts 48 = .ok (.aload_n 0, 1) := by decide +kernel
theorem dX10_counts_49 : decode cX10_counts 49 = .ok (.iload_n 1, 1) := by decide +kernel
theorem dX10_counts_50 : decode cX10_counts 50 = .ok (.iload 5, 2) := by decide +kernel
theorem dX10_counts_52 : decode cX10_counts 52 = .ok (.invokevirtual 253, 3) := by decide +kernel
theorem dX10_counts_55 : decode cX10_counts 55 = .ok (.ifCond .eq 14, 3) := by decide +kernel
theorem dX10_counts_58 : decode cX10_counts 58 = .ok (.iload_n 3, 1) := by decide +kernel
theorem dX10_counts_59 : decode cX10_counts 59 = .ok (.iload_n 2, 1) := by decide +kernel
theorem dX10_counts_60 : decode cX10_counts 60 = .ok (.if_icmp .ne 6, 3) := by decide +kernel
theorem dX10_counts_63 : decode cX10_counts 63 = .ok (.iload 5, 2) := by decide +kernel
theorem dX10_counts_65 : decode cX10_counts 65 = .ok (.ireturn, 1) := by decide +kernel
theorem dX10_counts_66 : decode cX10_counts 66 = .ok (.iinc 3 1, 3) := by decide +kernel
theorem dX10_counts_69 : decode cX10_counts 69 = .ok (.iinc 5 1, 3) := by decide +kernel
theorem dX10_counts_72 : decode cX10_counts 72 = .ok (.goto (-31), 3) := by decide +kernel
theorem dX10_counts_75 : decode cX10_counts 75 = .ok (.iload_n 2, 1) := by decide +kernel
theorem dX10_counts_76 : decode cX10_counts 76 = .ok (.iconst (-1), 1) := by decide +kernel
theorem dX10_counts_77 : decode cX10_counts 77 = .ok (.if_icmp .ne 7, 3) := by decide +kernel
theorem dX10_counts_80 : decode cX10_counts 80 = .ok (.iload_n 3, 1) := by decide +kernel
theorem dX10_counts_81 : decode cX10_counts 81 = .ok (.goto 4, 3) := by decide +kernel
theorem dX10_counts_84 : decode cX10_counts 84 = .ok (.iconst (-1), 1) := by decide +kernel
theorem dX10_counts_85 : decode cX10_counts 85 = .ok (.ireturn, 1) := by decide +kernel
theorem dX10_claim_0 : decode cX10_claim 0 = .ok (.aload_n 0, 1) := by decide +kernel
theorem dX10_claim_1 : decode cX10_claim 1 = .ok (.getfield 54, 3) := by decide +kernel
theorem dX10_claim_4 : decode cX10_claim 4 = .ok (.iconst 0, 1) := by decide +kernel
theorem dX10_claim_5 : decode cX10_claim 5 = .ok (.putfield 256, 3) := by decide +kernel
theorem dX10_claim_8 : decode cX10_claim 8 = .ok (.aload_n 0, 1) := by decide +kernel
theorem dX10_claim_9 : decode cX10_claim 9 = .ok (.aload_n 0, 1) := by decide +kernel
theorem dX10_claim_10 : decode cX10_claim 10 = .ok (.getfield 10, 3) := by decide +kernel
theorem dX10_claim_13 : decode cX10_claim 13 = .ok (.getfield 257, 3) := by decide +kernel
theorem dX10_claim_16 : decode cX10_claim 16 = .ok (.iload_n 1, 1) := by decide +kernel
theorem dX10_claim_17 : decode cX10_claim 17 = .ok (.iload_n 2, 1) := by decide +kernel
theorem dX10_claim_18 : decode cX10_claim 18 = .ok (.invokevirtual 245, 3) := by decide +kernel
theorem dX10_claim_21 : decode cX10_claim 21 = .ok (.ireturn, 1) := by decide +kernel
theorem dX10_wrong_0 : decode cX10_wrong 0 = .ok (.aload_n 0, 1) := by decide +kernel
theorem dX10_wrong_1 : decode cX10_wrong 1 = .ok (.getfield 37, 3) := by decide +kernel
theorem dX10_wrong_4 : decode cX10_wrong 4 = .ok (.aload_n 0, 1) := by decide +kernel
theorem dX10_wrong_5 : decode cX10_wrong 5 = .ok (.getfield 10, 3) := by decide +kernel
theorem dX10_wrong_8 : decode cX10_wrong 8 = .ok (.invokevirtual 185, 3) := by decide +kernel
theorem dX10_wrong_11 : decode cX10_wrong 11 = .ok (.aload_n 0, 1) := by decide +kernel
theorem dX10_wrong_12 : decode cX10_wrong 12 = .ok (.invokevirtual 260, 3) := by decide +kernel
theorem dX10_wrong_15 : decode cX10_wrong 15 = .ok (.astore_n 2, 1) := by decide +kernel
theorem dX10_wrong_16 : decode cX10_wrong 16 = .ok (.iload_n 1, 1) := by decide +kernel
theorem dX10_wrong_17 : decode cX10_wrong 17 = .ok (.ifCond .ne 19, 3) := by decide +kernel
theorem dX10_wrong_20 : decode cX10_wrong 20 = .ok (.aload_n 2, 1) := by decide +kernel
theorem dX10_wrong_21 : decode cX10_wrong 21 = .ok (.getfield 195, 3) := by decide +kernel
theorem dX10_wrong_24 : decode cX10_wrong 24 = .ok (.ifCond .le 10, 3) := by decide +kernel
theorem dX10_wrong_27 : decode cX10_wrong 27 = .ok (.aload_n 2, 1) := by decide +kernel
theorem dX10_wrong_28 : decode cX10_wrong 28 = .ok (.getfield 198, 3) := by decide +kernel
theorem dX10_wrong_31 : decode cX10_wrong 31 = .ok (.goto 4, 3) := by decide +kernel
theorem dX10_wrong_34 : decode cX10_wrong 34 = .ok (.iconst (-1), 1) := by decide +kernel
theorem dX10_wrong_35 : decode cX10_wrong 35 = .ok (.ireturn, 1) := by decide +kernel
theorem dX10_wrong_36 : decode cX10_wrong 36 = .ok (.iload_n 1, 1) := by decide +kernel
theorem dX10_wrong_37 : decode cX10_wrong 37 = .ok (.iconst 1, 1) := by decide +kernel
theorem dX10_wrong_38 : decode cX10_wrong 38 = .ok (.if_icmp .ne 10, 3) := by decide +kernel
theorem dX10_wrong_41 : decode cX10_wrong 41 = .ok (.aload_n 2, 1) := by decide +kernel
theorem dX10_wrong_42 : decode cX10_wrong 42 = .ok (.getfield 195, 3) := by decide +kernel
theorem dX10_wrong_45 : decode cX10_wrong 45 = .ok (.goto 17, 3) := by decide +kernel
theorem dX10_wrong_48 : decode cX10_wrong 48 = .ok (.aload_n 2, 1) := by decide +kernel
theorem dX10_wrong_49 : decode cX10_wrong 49 = .ok (.iload_n 1, 1) := by decide +kernel
theorem dX10_wrong_50 : decode cX10_wrong 50 = .ok (.iconst 2, 1) := by decide +kernel
theorem dX10_wrong_51 : decode cX10_wrong 51 = .ok (.isub, 1) := by decide +kernel
theorem dX10_wrong_52 : decode cX10_wrong 52 = .ok (.aload_n 0, 1) := by decide +kernel
theorem dX10_wrong_53 : decode cX10_wrong 53 = .ok (.getfield 10, 3) := by decide +kernel
theorem dX10_wrong_56 : decode cX10_wrong 56 = .ok (.getfield 89, 3) := by decide +kernel
theorem dX10_wrong_59 : decode cX10_wrong 59 = .ok (.invokevirtual 201, 3) := by decide +kernel
theorem dX10_wrong_62 : decode cX10_wrong 62 = .ok (.ireturn, 1) := by decide +kernel
theorem dX10_forget_0 : decode cX10_forget 0 = .ok (.aload_n 0, 1) := by decide +kernel
theorem dX10_forget_1 : decode cX10_forget 1 = .ok (.getfield 10, 3) := by decide +kernel
theorem dX10_forget_4 : decode cX10_forget 4 = .ok (.getfield 241, 3) := by decide +kernel
theorem dX10_forget_7 : decode cX10_forget 7 = .ok (.getfield 263, 3) := by decide +kernel
theorem dX10_forget_10 : decode cX10_forget 10 = .ok (.aload_n 0, 1) := by decide +kernel
theorem dX10_forget_11 : decode cX10_forget 11 = .ok (.getfield 10, 3) := by decide +kernel
theorem dX10_forget_14 : decode cX10_forget 14 = .ok (.getfield 257, 3) := by decide +kernel
theorem dX10_forget_17 : decode cX10_forget 17 = .ok (.getfield 263, 3) := by decide +kernel
theorem dX10_forget_20 : decode cX10_forget 20 = .ok (.iadd, 1) := by decide +kernel
theorem dX10_forget_21 : decode cX10_forget 21 = .ok (.istore_n 1, 1) := by decide +kernel
theorem dX10_forget_22 : decode cX10_forget 22 = .ok (.aload_n 0, 1) := by decide +kernel
theorem dX10_forget_23 : decode cX10_forget 23 = .ok (.getfield 10, 3) := by decide +kernel
theorem dX10_forget_26 : decode cX10_forget 26 = .ok (.getfield 241, 3) := by decide +kernel
theorem dX10_forget_29 : decode cX10_forget 29 = .ok (.iconst 0, 1) := by decide +kernel
theorem dX10_forget_30 : decode cX10_forget 30 = .ok (.putfield 263, 3) := by decide +kernel
theorem dX10_forget_33 : decode cX10_forget 33 = .ok (.aload_n 0, 1) := by decide +kernel
theorem dX10_forget_34 : decode cX10_forget 34 = .ok (.getfield 10, 3) := by decide +kernel
theorem dX10_forget_37 : decode cX10_forget 37 = .ok (.getfield 257, 3) := by decide +kernel
theorem dX10_forget_40 : decode cX10_forget 40 = .ok (.iconst 0, 1) := by decide +kernel
theorem dX10_forget_41 : decode cX10_forget 41 = .ok (.putfield 263, 3) := by decide +kernel
theorem dX10_forget_44 : decode cX10_forget 44 = .ok (.aload_n 0, 1) := by decide +kernel
theorem dX10_forget_45 : decode cX10_forget 45 = .ok (.getfield 54, 3) := by decide +kernel
theorem dX10_forget_48 : decode cX10_forget 48 = .ok (.iconst 0, 1) := by decide +kernel
theorem dX10_forget_49 : decode cX10_forget 49 = .ok (.putfield 256, 3) := by decide +kernel
theorem dX10_forget_52 : decode cX10_forget 52 = .ok (.iload_n 1, 1) := by decide +kernel
theorem dX10_forget_53 : decode cX10_forget 53 = .ok (.ireturn, 1) := by decide +kernel
theorem dX10_bake_0 : decode cX10_bake 0 = .ok (.iload_n 1, 1) := by decide +kernel
theorem dX10_bake_1 : decode cX10_bake 1 = .ok (.ifCond .lt 8, 3) := by decide +kernel
theorem dX10_bake_4 : decode cX10_bake 4 = .ok (.iload_n 1, 1) := by decide +kernel
theorem dX10_bake_5 : decode cX10_bake 5 = .ok (.iconst 2, 1) := by decide +kernel
theorem dX10_bake_6 : decode cX10_bake 6 = .ok (.if_icmp .le 9, 3) := by decide +kernel
theorem dX10_bake_9 : decode cX10_bake 9 = .ok (.aload_n 0, 1) := by decide +kernel
theorem dX10_bake_10 : decode cX10_bake 10 = .ok (.iconst (-1), 1) := by decide +kernel
theorem dX10_bake_11 : decode cX10_bake 11 = .ok (.invokevirtual 85, 3) := by decide +kernel
theorem dX10_bake_14 : decode cX10_bake 14 = .ok (.ireturn, 1) := by decide +kernel
theorem dX10_bake_15 : decode cX10_bake 15 = .ok (.aload_n 0, 1) := by decide +kernel
theorem dX10_bake_16 : decode cX10_bake 16 = .ok (.getfield 37, 3) := by decide +kernel
theorem dX10_bake_19 : decode cX10_bake 19 = .ok (.aload_n 0, 1) := by decide +kernel
theorem dX10_bake_20 : decode cX10_bake 20 = .ok (.getfield 10, 3) := by decide +kernel
theorem dX10_bake_23 : decode cX10_bake 23 = .ok (.invokevirtual 115, 3) := by decide +kernel
theorem dX10_bake_26 : decode cX10_bake 26 = .ok (.getstatic 268, 3) := by decide +kernel
theorem dX10_bake_29 : decode cX10_bake 29 = .ok (.astore_n 2, 1) := by decide +kernel
theorem dX10_bake_30 : decode cX10_bake 30 = .ok (.iload_n 1, 1) := by decide +kernel
theorem dX10_bake_31 : decode cX10_bake 31 = .ok (.ifCond .eq 50, 3) := by decide +kernel
theorem dX10_bake_34 : decode cX10_bake 34 = .ok (.aload_n 0, 1) := by decide +kernel
theorem dX10_bake_35 : decode cX10_bake 35 = .ok (.getfield 37, 3) := by decide +kernel
theorem dX10_bake_38 : decode cX10_bake 38 = .ok (.aload_n 0, 1) := by decide +kernel
theorem dX10_bake_39 : decode cX10_bake 39 = .ok (.getfield 10, 3) := by decide +kernel
theorem dX10_bake_42 : decode cX10_bake 42 = .ok (.invokevirtual 185, 3) := by decide +kernel
theorem dX10_bake_45 : decode cX10_bake 45 = .ok (.iload_n 1, 1) := by decide +kernel
theorem dX10_bake_46 : decode cX10_bake 46 = .ok (.iconst 1, 1) := by decide +kernel
theorem dX10_bake_47 : decode cX10_bake 47 = .ok (.if_icmp .ne 10, 3) := by decide +kernel
theorem dX10_bake_50 : decode cX10_bake 50 = .ok (.aload_n 0, 1) := by decide +kernel
theorem dX10_bake_51 : decode cX10_bake 51 = .ok (.invokevirtual 191, 3) := by decide +kernel
theorem dX10_bake_54 : decode cX10_bake 54 = .ok (.goto 7, 3) := by decide +kernel
theorem dX10_bake_57 : decode cX10_bake 57 = .ok (.aload_n 0, 1) := by decide +kernel
theorem dX10_bake_58 : decode cX10_bake 58 = .ok (.invokevirtual 204, 3) := by decide +kernel
theorem dX10_bake_61 : decode cX10_bake 61 = .ok (.astore_n 3, 1) := by decide +kernel
theorem dX10_bake_62 : decode cX10_bake 62 = .ok (.aload_n 3, 1) := by decide +kernel
theorem dX10_bake_63 : decode cX10_bake 63 = .ok (.getfield 195, 3) := by decide +kernel
theorem dX10_bake_66 : decode cX10_bake 66 = .ok (.ifCond .ne 10, 3) := by decide +kernel
theorem dX10_bake_69 : decode cX10_bake 69 = .ok (.aload_n 0, 1) := by decide +kernel
theorem dX10_bake_70 : decode cX10_bake 70 = .ok (.bipush (-3), 2) := by decide +kernel
theorem dX10_bake_72 : decode cX10_bake 72 = .ok (.invokevirtual 85, 3) := by decide +kernel
theorem dX10_bake_75 : decode cX10_bake 75 = .ok (.ireturn, 1) := by decide +kernel
theorem dX10_bake_76 : decode cX10_bake 76 = .ok (.aload_n 3, 1) := by decide +kernel
theorem dX10_bake_77 : decode cX10_bake 77 = .ok (.getfield 271, 3) := by decide +kernel
theorem dX10_bake_80 : decode cX10_bake 80 = .ok (.astore_n 2, 1) := by decide +kernel
theorem dX10_bake_81 : decode cX10_bake 81 = .ok (.aload_n 0, 1) := by decide +kernel
theorem dX10_bake_82 : decode cX10_bake 82 = .ok (.getfield 10, 3) := by decide +kernel
theorem dX10_bake_85 : decode cX10_bake 85 = .ok (.aload_n 0, 1) := by decide +kernel
theorem dX10_bake_86 : decode cX10_bake 86 = .ok (.getfield 37, 3) := by decide +kernel
theorem dX10_bake_89 : decode cX10_bake 89 = .ok (.aload_n 2, 1) := by decide +kernel
theorem dX10_bake_90 : decode cX10_bake 90 = .ok (.aload_n 0, 1) := by decide +kernel
theorem dX10_bake_91 : decode cX10_bake 91 = .ok (.getfield 78, 3) := by decide +kernel
theorem dX10_bake_94 : decode cX10_bake 94 = .ok (.invokevirtual 274, 3) := by decide +kernel
theorem dX10_bake_97 : decode cX10_bake 97 = .ok (.istore_n 3, 1) := by decide +kernel
theorem dX10_bake_98 : decode cX10_bake 98 = .ok (.iload_n 3, 1) := by decide +kernel
theorem dX10_bake_99 : decode cX10_bake 99 = .ok (.ifCond .ge 10, 3) := by decide +kernel
theorem dX10_bake_102 : decode cX10_bake 102 = .ok (.aload_n 0, 1) := by decide +kernel
theorem dX10_bake_103 : decode cX10_bake 103 = .ok (.bipush (-5), 2) := by decide +kernel
theorem dX10_bake_105 : decode cX10_bake 105 = .ok (.invokevirtual 85, 3) := by decide +kernel
theorem dX10_bake_108 : decode cX10_bake 108 = .ok (.ireturn, 1) := by decide +kernel
theorem dX10_bake_109 : decode cX10_bake 109 = .ok (.aload_n 0, 1) := by decide +kernel
theorem dX10_bake_110 : decode cX10_bake 110 = .ok (.invokevirtual 93, 3) := by decide +kernel
theorem dX10_bake_113 : decode cX10_bake 113 = .ok (.aload_n 0, 1) := by decide +kernel
theorem dX10_bake_114 : decode cX10_bake 114 = .ok (.iload_n 3, 1) := by decide +kernel
theorem dX10_bake_115 : decode cX10_bake 115 = .ok (.invokevirtual 100, 3) := by decide +kernel
theorem dX10_bake_118 : decode cX10_bake 118 = .ok (.ireturn, 1) := by decide +kernel
theorem dX10_queues_0 : decode cX10_queues 0 = .ok (.iload_n 1, 1) := by decide +kernel
theorem dX10_queues_1 : decode cX10_queues 1 = .ok (.ifCond .lt 20, 3) := by decide +kernel
theorem dX10_queues_4 : decode cX10_queues 4 = .ok (.iload_n 1, 1) := by decide +kernel
theorem dX10_queues_5 : decode cX10_queues 5 = .ok (.ldc 172, 2) := by decide +kernel
theorem dX10_queues_7 : decode cX10_queues 7 = .ok (.if_icmp .gt 14, 3) := by decide +kernel
theorem dX10_queues_10 : decode cX10_queues 10 = .ok (.iload_n 2, 1) := by decide +kernel
theorem dX10_queues_11 : decode cX10_queues 11 = .ok (.iconst 1, 1) := by decide +kernel
theorem dX10_queues_12 : decode cX10_queues 12 = .ok (.if_icmp .lt 9, 3) := by decide +kernel
theorem dX10_queues_15 : decode cX10_queues 15 = .ok (.iload_n 2, 1) := by decide +kernel
theorem dX10_queues_16 : decode cX10_queues 16 = .ok (.bipush 20, 2) := by decide +kernel
theorem dX10_queues_18 : decode cX10_queues 18 = .ok (.if_icmp .le 9, 3) := by decide +kernel
theorem dX10_queues_21 : decode cX10_queues 21 = .ok (.aload_n 0, 1) := by decide +kernel
theorem dX10_queues_22 : decode cX10_queues 22 = .ok (.iconst (-1), 1) := by decide +kernel
theorem dX10_queues_23 : decode cX10_queues 23 = .ok (.invokevirtual 85, 3) := by decide +kernel
theorem dX10_queues_26 : decode cX10_queues 26 = .ok (.ireturn, 1) := by decide +kernel
theorem dX10_queues_27 : decode cX10_queues 27 = .ok (.aload_n 0, 1) := by decide +kernel
theorem dX10_queues_28 : decode cX10_queues 28 = .ok (.getfield 16, 3) := by decide +kernel
theorem dX10_queues_31 : decode cX10_queues 31 = .ok (.aload_n 0, 1) := by decide +kernel
theorem dX10_queues_32 : decode cX10_queues 32 = .ok (.getfield 10, 3) := by decide +kernel
theorem dX10_queues_35 : decode cX10_queues 35 = .ok (.invokevirtual 214, 3) := by decide +kernel
theorem dX10_queues_38 : decode cX10_queues 38 = .ok (.aload_n 0, 1) := by decide +kernel
theorem dX10_queues_39 : decode cX10_queues 39 = .ok (.getfield 67, 3) := by decide +kernel
theorem dX10_queues_42 : decode cX10_queues 42 = .ok (.iload_n 1, 1) := by decide +kernel
theorem dX10_queues_43 : decode cX10_queues 43 = .ok (.invokevirtual 278, 3) := by decide +kernel
theorem dX10_queues_46 : decode cX10_queues 46 = .ok (.iconst 0, 1) := by decide +kernel
theorem dX10_queues_47 : decode cX10_queues 47 = .ok (.istore_n 3, 1) := by decide +kernel
theorem dX10_queues_48 : decode cX10_queues 48 = .ok (.iload_n 3, 1) := by decide +kernel
theorem dX10_queues_49 : decode cX10_queues 49 = .ok (.iload_n 2, 1) := by decide +kernel
theorem dX10_queues_50 : decode cX10_queues 50 = .ok (.if_icmp .ge 100, 3) := by decide +kernel
theorem dX10_queues_53 : decode cX10_queues 53 = .ok (.aload_n 0, 1) := by decide +kernel
theorem dX10_queues_54 : decode cX10_queues 54 = .ok (.getfield 41, 3) := by decide +kernel
theorem dX10_queues_57 : decode cX10_queues 57 = .ok (.invokevirtual 279, 3) := by decide +kernel
theorem dX10_queues_60 : decode cX10_queues 60 = .ok (.aload_n 0, 1) := by decide +kernel
theorem dX10_queues_61 : decode cX10_queues 61 = .ok (.getfield 41, 3) := by decide +kernel
theorem dX10_queues_64 : decode cX10_queues 64 = .ok (.aload_n 0, 1) := by decide +kernel
theorem dX10_queues_65 : decode cX10_queues 65 = .ok (.getfield 16, 3) := by decide +kernel
theorem dX10_queues_68 : decode cX10_queues 68 = .ok (.invokevirtual 115, 3) := by decide +kernel
theorem dX10_queues_71 : decode cX10_queues 71 = .ok (.aload_n 0, 1) := by decide +kernel
theorem dX10_queues_72 : decode cX10_queues 72 = .ok (.getfield 41, 3) := by decide +kernel
theorem dX10_queues_75 : decode cX10_queues 75 = .ok (.aload_n 0, 1) := by decide +kernel
theorem dX10_queues_76 : decode cX10_queues 76 = .ok (.getfield 16, 3) := by decide +kernel
theorem dX10_queues_79 : decode cX10_queues 79 = .ok (.invokevirtual 282, 3) := by decide +kernel
theorem dX10_queues_82 : decode cX10_queues 82 = .ok (.aload_n 0, 1) := by decide +kernel
theorem dX10_queues_83 : decode cX10_queues 83 = .ok (.getfield 67, 3) := by decide +kernel
theorem dX10_queues_86 : decode cX10_queues 86 = .ok (.aload_n 0, 1) := by decide +kernel
theorem dX10_queues_87 : decode cX10_queues 87 = .ok (.getfield 41, 3) := by decide +kernel
theorem dX10_queues_90 : decode cX10_queues 90 = .ok (.aload_n 0, 1) := by decide +kernel
theorem dX10_queues_91 : decode cX10_queues 91 = .ok (.getfield 75, 3) := by decide +kernel
theorem dX10_queues_94 : decode cX10_queues 94 = .ok (.invokevirtual 285, 3) := by decide +kernel
theorem dX10_queues_97 : decode cX10_queues 97 = .ok (.aload_n 0, 1) := by decide +kernel
theorem dX10_queues_98 : decode cX10_queues 98 = .ok (.getfield 16, 3) := by decide +kernel
theorem dX10_queues_101 : decode cX10_queues 101 = .ok (.aload_n 0, 1) := by decide +kernel
theorem dX10_queues_102 : decode cX10_queues 102 = .ok (.getfield 41, 3) := by decide +kernel
theorem dX10_queues_105 : decode cX10_queues 105 = .ok (.aload_n 0, 1) := by decide +kernel
theorem dX10_queues_106 : decode cX10_queues 106 = .ok (.getfield 75, 3) := by decide +kernel
theorem dX10_queues_109 : decode cX10_queues 109 = .ok (.aload_n 0, 1) := by decide +kernel
theorem dX10_queues_110 : decode cX10_queues 110 = .ok (.getfield 78, 3) := by decide +kernel
theorem dX10_queues_113 : decode cX10_queues 113 = .ok (.invokevirtual 274, 3) := by decide +kernel
theorem dX10_queues_116 : decode cX10_queues 116 = .ok (.ifCond .ge 10, 3) := by decide +kernel
theorem dX10_queues_119 : decode cX10_queues 119 = .ok (.aload_n 0, 1) := by decide +kernel
theorem dX10_queues_120 : decode cX10_queues 120 = .ok (.bipush (-5), 2) := by decide +kernel
theorem dX10_queues_122 : decode cX10_queues 122 = .ok (.invokevirtual 85, 3) := by decide +kernel
theorem dX10_queues_125 : decode cX10_queues 125 = .ok (.ireturn, 1) := by decide +kernel
theorem dX10_queues_126 : decode cX10_queues 126 = .ok (.aload_n 0, 1) := by decide +kernel
theorem dX10_queues_127 : decode cX10_queues 127 = .ok (.getfield 67, 3) := by decide +kernel
theorem dX10_queues_130 : decode cX10_queues 130 = .ok (.aload_n 0, 1) := by decide +kernel
theorem dX10_queues_131 : decode cX10_queues 131 = .ok (.getfield 78, 3) := by decide +kernel
theorem dX10_queues_134 : decode cX10_queues 134 = .ok (.aload_n 0, 1) := by decide +kernel
theorem dX10_queues_135 : decode cX10_queues 135 = .ok (.getfield 16, 3) := by decide +kernel
theorem dX10_queues_138 : decode cX10_queues 138 = .ok (.getfield 89, 3) := by decide +kernel
theorem dX10_queues_141 : decode cX10_queues 141 = .ok (.invokevirtual 289, 3) := by decide +kernel
theorem dX10_queues_144 : decode cX10_queues 144 = .ok (.iinc 3 1, 3) := by decide +kernel
theorem dX10_queues_147 : decode cX10_queues 147 = .ok (.goto (-99), 3) := by decide +kernel
theorem dX10_queues_150 : decode cX10_queues 150 = .ok (.aload_n 0, 1) := by decide +kernel
theorem dX10_queues_151 : decode cX10_queues 151 = .ok (.aload_n 0, 1) := by decide +kernel
theorem dX10_queues_152 : decode cX10_queues 152 = .ok (.getfield 67, 3) := by decide +kernel
theorem dX10_queues_155 : decode cX10_queues 155 = .ok (.aload_n 0, 1) := by decide +kernel
theorem dX10_queues_156 : decode cX10_queues 156 = .ok (.getfield 75, 3) := by decide +kernel
theorem dX10_queues_159 : decode cX10_queues 159 = .ok (.aload_n 0, 1) := by decide +kernel
theorem dX10_queues_160 : decode cX10_queues 160 = .ok (.getfield 16, 3) := by decide +kernel
theorem dX10_queues_163 : decode cX10_queues 163 = .ok (.getfield 89, 3) := by decide +kernel
theorem dX10_queues_166 : decode cX10_queues 166 = .ok (.invokevirtual 293, 3) := by decide +kernel
theorem dX10_queues_169 : decode cX10_queues 169 = .ok (.invokevirtual 100, 3) := by decide +kernel
theorem dX10_queues_172 : decode cX10_queues 172 = .ok (.ireturn, 1) := by decide +kernel
theorem dX10_drawn_0 : decode cX10_drawn 0 = .ok (.iload_n 1, 1) := by decide +kernel
theorem dX10_drawn_1 : decode cX10_drawn 1 = .ok (.ifCond .lt 23, 3) := by decide +kernel
theorem dX10_drawn_4 : decode cX10_drawn 4 = .ok (.iload_n 1, 1) := by decide +kernel
theorem dX10_drawn_5 : decode cX10_drawn 5 = .ok (.aload_n 0, 1) := by decide +kernel
theorem dX10_drawn_6 : decode cX10_drawn 6 = .ok (.getfield 67, 3) := by decide +kernel
theorem dX10_drawn_9 : decode cX10_drawn 9 = .ok (.getfield 297, 3) := by decide +kernel
theorem dX10_drawn_12 : decode cX10_drawn 12 = .ok (.if_icmp .ge 12, 3) := by decide +kernel
theorem dX10_drawn_15 : decode cX10_drawn 15 = .ok (.iload_n 2, 1) := by decide +kernel
theorem dX10_drawn_16 : decode cX10_drawn 16 = .ok (.ifCond .lt 8, 3) := by decide +kernel
theorem dX10_drawn_19 : decode cX10_drawn 19 = .ok (.iload_n 2, 1) := by decide +kernel
theorem dX10_drawn_20 : decode cX10_drawn 20 = .ok (.iconst 1, 1) := by decide +kernel
theorem dX10_drawn_21 : decode cX10_drawn 21 = .ok (.if_icmp .le 5, 3) := by decide +kernel
theorem dX10_drawn_24 : decode cX10_drawn 24 = .ok (.iconst (-1), 1) := by decide +kernel
theorem dX10_drawn_25 : decode cX10_drawn 25 = .ok (.ireturn, 1) := by decide +kernel
theorem dX10_drawn_26 : decode cX10_drawn 26 = .ok (.iload_n 2, 1) := by decide +kernel
theorem dX10_drawn_27 : decode cX10_drawn 27 = .ok (.ifCond .ne 15, 3) := by decide +kernel
theorem dX10_drawn_30 : decode cX10_drawn 30 = .ok (.aload_n 0, 1) := by decide +kernel
theorem dX10_drawn_31 : decode cX10_drawn 31 = .ok (.getfield 67, 3) := by decide +kernel
theorem dX10_drawn_34 : decode cX10_drawn 34 = .ok (.getfield 298, 3) := by decide +kernel
theorem dX10_drawn_37 : decode cX10_drawn 37 = .ok (.iload_n 1, 1) := by decide +kernel
theorem dX10_drawn_38 : decode cX10_drawn 38 = .ok (.iaload, 1) := by decide +kernel
theorem dX10_drawn_39 : decode cX10_drawn 39 = .ok (.goto 12, 3) := by decide +kernel
theorem dX10_drawn_42 : decode cX10_drawn 42 = .ok (.aload_n 0, 1) := by decide +kernel
theorem dX10_drawn_43 : decode cX10_drawn 43 = .ok (.getfield 67, 3) := by decide +kernel
theorem dX10_drawn_46 : decode cX10_drawn 46 = .ok (.getfield 301, 3) := by decide +kernel
theorem dX10_drawn_49 : decode cX10_drawn 49 = .ok (.iload_n 1, 1) := by decide +kernel
theorem dX10_drawn_50 : decode cX10_drawn 50 = .ok (.iaload, 1) := by decide +kernel
theorem dX10_drawn_51 : decode cX10_drawn 51 = .ok (.ireturn, 1) := by decide +kernel
theorem dX10_image_0 : decode cX10_image 0 = .ok (.iload_n 1, 1) := by decide +kernel
theorem dX10_image_1 : decode cX10_image 1 = .ok (.ifCond .lt 8, 3) := by decide +kernel
theorem dX10_image_4 : decode cX10_image 4 = .ok (.iload_n 1, 1) := by decide +kernel
theorem dX10_image_5 : decode cX10_image 5 = .ok (.iconst 2, 1) := by decide +kernel
theorem dX10_image_6 : decode cX10_image 6 = .ok (.if_icmp .lt 9, 3) := by decide +kernel
theorem dX10_image_9 : decode cX10_image 9 = .ok (.aload_n 0, 1) := by decide +kernel
theorem dX10_image_10 : decode cX10_image 10 = .ok (.iconst (-1), 1) := by decide +kernel
theorem dX10_image_11 : decode cX10_image 11 = .ok (.invokevirtual 85, 3) := by decide +kernel
theorem dX10_image_14 : decode cX10_image 14 = .ok (.ireturn, 1) := by decide +kernel
theorem dX10_image_15 : decode cX10_image 15 = .ok (.aload_n 0, 1) := by decide +kernel
theorem dX10_image_16 : decode cX10_image 16 = .ok (.getfield 19, 3) := by decide +kernel
theorem dX10_image_19 : decode cX10_image 19 = .ok (.iload_n 1, 1) := by decide +kernel
theorem dX10_image_20 : decode cX10_image 20 = .ok (.aaload, 1) := by decide +kernel
theorem dX10_image_21 : decode cX10_image 21 = .ok (.aload_n 0, 1) := by decide +kernel
theorem dX10_image_22 : decode cX10_image 22 = .ok (.getfield 10, 3) := by decide +kernel
theorem dX10_image_25 : decode cX10_image 25 = .ok (.invokevirtual 214, 3) := by decide +kernel
theorem dX10_image_28 : decode cX10_image 28 = .ok (.aload_n 0, 1) := by decide +kernel
theorem dX10_image_29 : decode cX10_image 29 = .ok (.getfield 23, 3) := by decide +kernel
theorem dX10_image_32 : decode cX10_image 32 = .ok (.iload_n 1, 1) := by decide +kernel
theorem dX10_image_33 : decode cX10_image 33 = .ok (.iconst 1, 1) := by decide +kernel
theorem dX10_image_34 : decode cX10_image 34 = .ok (.bastore, 1) := by decide +kernel
theorem dX10_image_35 : decode cX10_image 35 = .ok (.aload_n 0, 1) := by decide +kernel
theorem dX10_image_36 : decode cX10_image 36 = .ok (.iconst 0, 1) := by decide +kernel
theorem dX10_image_37 : decode cX10_image 37 = .ok (.invokevirtual 100, 3) := by decide +kernel
theorem dX10_image_40 : decode cX10_image 40 = .ok (.ireturn, 1) := by decide +kernel
theorem dX10_back_0 : decode cX10_back 0 = .ok (.iload_n 1, 1) := by decide +kernel
theorem dX10_back_1 : decode cX10_back 1 = .ok (.ifCond .lt 8, 3) := by decide +kernel
theorem dX10_back_4 : decode cX10_back 4 = .ok (.iload_n 1, 1) := by decide +kernel
theorem dX10_back_5 : decode cX10_back 5 = .ok (.iconst 2, 1) := by decide +kernel
theorem dX10_back_6 : decode cX10_back 6 = .ok (.if_icmp .lt 9, 3) := by decide +kernel
theorem dX10_back_9 : decode cX10_back 9 = .ok (.aload_n 0, 1) := by decide +kernel
theorem dX10_back_10 : decode cX10_back 10 = .ok (.iconst (-1), 1) := by decide +kernel
theorem dX10_back_11 : decode cX10_back 11 = .ok (.invokevirtual 85, 3) := by decide +kernel
theorem dX10_back_14 : decode cX10_back 14 = .ok (.ireturn, 1) := by decide +kernel
theorem dX10_back_15 : decode cX10_back 15 = .ok (.aload_n 0, 1) := by decide +kernel
theorem dX10_back_16 : decode cX10_back 16 = .ok (.getfield 23, 3) := by decide +kernel
theorem dX10_back_19 : decode cX10_back 19 = .ok (.iload_n 1, 1) := by decide +kernel
theorem dX10_back_20 : decode cX10_back 20 = .ok (.baload, 1) := by decide +kernel
theorem dX10_back_21 : decode cX10_back 21 = .ok (.ifCond .ne 10, 3) := by decide +kernel
theorem dX10_back_24 : decode cX10_back 24 = .ok (.aload_n 0, 1) := by decide +kernel
theorem dX10_back_25 : decode cX10_back 25 = .ok (.bipush (-2), 2) := by decide +kernel
theorem dX10_back_27 : decode cX10_back 27 = .ok (.invokevirtual 85, 3) := by decide +kernel
theorem dX10_back_30 : decode cX10_back 30 = .ok (.ireturn, 1) := by decide +kernel
theorem dX10_back_31 : decode cX10_back 31 = .ok (.aload_n 0, 1) := by decide +kernel
theorem dX10_back_32 : decode cX10_back 32 = .ok (.getfield 10, 3) := by decide +kernel
theorem dX10_back_35 : decode cX10_back 35 = .ok (.aload_n 0, 1) := by decide +kernel
theorem dX10_back_36 : decode cX10_back 36 = .ok (.getfield 19, 3) := by decide +kernel
theorem dX10_back_39 : decode cX10_back 39 = .ok (.iload_n 1, 1) := by decide +kernel
theorem dX10_back_40 : decode cX10_back 40 = .ok (.aaload, 1) := by decide +kernel
theorem dX10_back_41 : decode cX10_back 41 = .ok (.invokevirtual 214, 3) := by decide +kernel
theorem dX10_back_44 : decode cX10_back 44 = .ok (.aload_n 0, 1) := by decide +kernel
theorem dX10_back_45 : decode cX10_back 45 = .ok (.invokevirtual 93, 3) := by decide +kernel
theorem dX10_back_48 : decode cX10_back 48 = .ok (.aload_n 0, 1) := by decide +kernel
theorem dX10_back_49 : decode cX10_back 49 = .ok (.iconst 0, 1) := by decide +kernel
theorem dX10_back_50 : decode cX10_back 50 = .ok (.invokevirtual 100, 3) := by decide +kernel
theorem dX10_back_53 : decode cX10_back 53 = .ok (.ireturn, 1) := by decide +kernel
theorem dX10_count_0 : decode cX10_count 0 = .ok (.iload_n 1, 1) := by decide +kernel
theorem dX10_count_1 : decode cX10_count 1 = .ok (.iconst 5, 1) := by decide +kernel
theorem dX10_count_2 : decode cX10_count 2 = .ok (.if_icmp .lt 18, 3) := by decide +kernel
theorem dX10_count_5 : decode cX10_count 5 = .ok (.iload_n 1, 1) := by decide +kernel
theorem dX10_count_6 : decode cX10_count 6 = .ok (.bipush 9, 2) := by decide +kernel
theorem dX10_count_8 : decode cX10_count 8 = .ok (.if_icmp .gt 12, 3) := by decide +kernel
theorem dX10_count_11 : decode cX10_count 11 = .ok (.aload_n 0, 1) := by decide +kernel
theorem dX10_count_12 : decode cX10_count 12 = .ok (.getfield 71, 3) := by decide +kernel
theorem dX10_count_15 : decode cX10_count 15 = .ok (.iload_n 1, 1) := by decide +kernel
theorem dX10_count_16 : decode cX10_count 16 = .ok (.iconst 5, 1) := by decide +kernel
theorem dX10_count_17 : decode cX10_count 17 = .ok (.isub, 1) := by decide +kernel
theorem dX10_count_18 : decode cX10_count 18 = .ok (.iaload, 1) := by decide +kernel
theorem dX10_count_19 : decode cX10_count 19 = .ok (.ireturn, 1) := by decide +kernel
theorem dX10_count_20 : decode cX10_count 20 = .ok (.iload_n 1, 1) := by decide +kernel
theorem dX10_count_21 : decode cX10_count 21 = .ok (.bipush 11, 2) := by decide +kernel
theorem dX10_count_23 : decode cX10_count 23 = .ok (.if_icmp .lt 22, 3) := by decide +kernel
theorem dX10_count_26 : decode cX10_count 26 = .ok (.iload_n 1, 1) := by decide +kernel
theorem dX10_count_27 : decode cX10_count 27 = .ok (.bipush 15, 2) := by decide +kernel
theorem dX10_count_29 : decode cX10_count 29 = .ok (.if_icmp .gt 16, 3) := by decide +kernel
theorem dX10_count_32 : decode cX10_count 32 = .ok (.aload_n 0, 1) := by decide +kernel
theorem dX10_count_33 : decode cX10_count 33 = .ok (.getfield 10, 3) := by decide +kernel
theorem dX10_count_36 : decode cX10_count 36 = .ok (.getfield 123, 3) := by decide +kernel
theorem dX10_count_39 : decode cX10_count 39 = .ok (.iload_n 1, 1) := by decide +kernel
theorem dX10_count_40 : decode cX10_count 40 = .ok (.bipush 11, 2) := by decide +kernel
theorem dX10_count_42 : decode cX10_count 42 = .ok (.isub, 1) := by decide +kernel
theorem dX10_count_43 : decode cX10_count 43 = .ok (.iaload, 1) := by decide +kernel
theorem dX10_count_44 : decode cX10_count 44 = .ok (.ireturn, 1) := by decide +kernel
theorem dX10_count_45 : decode cX10_count 45 = .ok (.iload_n 1, 1) := by decide +kernel
theorem dX10_count_46 : decode cX10_count 46 = .ok (.tableswitch 112 0 10 #[58, 66, 74, 85, 96, 112, 112, 112, 112, 112, 104], 58) := by decide +kernel
theorem dX10_count_104 : decode cX10_count 104 = .ok (.aload_n 0, 1) := by decide +kernel
theorem dX10_count_105 : decode cX10_count 105 = .ok (.getfield 10, 3) := by decide +kernel
theorem dX10_count_108 : decode cX10_count 108 = .ok (.getfield 89, 3) := by decide +kernel
theorem dX10_count_111 : decode cX10_count 111 = .ok (.ireturn, 1) := by decide +kernel
theorem dX10_count_112 : decode cX10_count 112 = .ok (.aload_n 0, 1) := by decide +kernel
theorem dX10_count_113 : decode cX10_count 113 = .ok (.getfield 10, 3) := by decide +kernel
theorem dX10_count_116 : decode cX10_count 116 = .ok (.getfield 145, 3) := by decide +kernel
theorem dX10_count_119 : decode cX10_count 119 = .ok (.ireturn, 1) := by decide +kernel
theorem dX10_count_120 : decode cX10_count 120 = .ok (.aload_n 0, 1) := by decide +kernel
theorem dX10_count_121 : decode cX10_count 121 = .ok (.getfield 10, 3) := by decide +kernel
theorem dX10_count_124 : decode cX10_count 124 = .ok (.getfield 241, 3) := by decide +kernel
theorem dX10_count_127 : decode cX10_count 127 = .ok (.getfield 263, 3) := by decide +kernel
theorem dX10_count_130 : decode cX10_count 130 = .ok (.ireturn, 1) := by decide +kernel
theorem dX10_count_131 : decode cX10_count 131 = .ok (.aload_n 0, 1) := by decide +kernel
theorem dX10_count_132 : decode cX10_count 132 = .ok (.getfield 10, 3) := by decide +kernel
theorem dX10_count_135 : decode cX10_count 135 = .ok (.getfield 257, 3) := by decide +kernel
theorem dX10_count_138 : decode cX10_count 138 = .ok (.getfield 263, 3) := by decide +kernel
theorem dX10_count_141 : decode cX10_count 141 = .ok (.ireturn, 1) := by decide +kernel
theorem dX10_count_142 : decode cX10_count 142 = .ok (.aload_n 0, 1) := by decide +kernel
theorem dX10_count_143 : decode cX10_count 143 = .ok (.getfield 30, 3) := by decide +kernel
theorem dX10_count_146 : decode cX10_count 146 = .ok (.getfield 132, 3) := by decide +kernel
theorem dX10_count_149 : decode cX10_count 149 = .ok (.ireturn, 1) := by decide +kernel
theorem dX10_count_150 : decode cX10_count 150 = .ok (.aload_n 0, 1) := by decide +kernel
theorem dX10_count_151 : decode cX10_count 151 = .ok (.getfield 10, 3) := by decide +kernel
theorem dX10_count_154 : decode cX10_count 154 = .ok (.getfield 159, 3) := by decide +kernel
theorem dX10_count_157 : decode cX10_count 157 = .ok (.ireturn, 1) := by decide +kernel
theorem dX10_count_158 : decode cX10_count 158 = .ok (.iconst (-1), 1) := by decide +kernel
theorem dX10_count_159 : decode cX10_count 159 = .ok (.ireturn, 1) := by decide +kernel
theorem dX10_status_0 : decode cX10_status 0 = .ok (.aload_n 0, 1) := by decide +kernel
theorem dX10_status_1 : decode cX10_status 1 = .ok (.getfield 304, 3) := by decide +kernel
theorem dX10_status_4 : decode cX10_status 4 = .ok (.ireturn, 1) := by decide +kernel
theorem dX10_accept_0 : decode cX10_accept 0 = .ok (.aload_n 0, 1) := by decide +kernel
theorem dX10_accept_1 : decode cX10_accept 1 = .ok (.iconst 0, 1) := by decide +kernel
theorem dX10_accept_2 : decode cX10_accept 2 = .ok (.putfield 304, 3) := by decide +kernel
theorem dX10_accept_5 : decode cX10_accept 5 = .ok (.iload_n 1, 1) := by decide +kernel
theorem dX10_accept_6 : decode cX10_accept 6 = .ok (.ireturn, 1) := by decide +kernel
theorem dX10_refuse_0 : decode cX10_refuse 0 = .ok (.iload_n 1, 1) := by decide +kernel
theorem dX10_refuse_1 : decode cX10_refuse 1 = .ok (.bipush (-4), 2) := by decide +kernel
theorem dX10_refuse_3 : decode cX10_refuse 3 = .ok (.if_icmp .le 10, 3) := by decide +kernel
theorem dX10_refuse_6 : decode cX10_refuse 6 = .ok (.iload_n 1, 1) := by decide +kernel
theorem dX10_refuse_7 : decode cX10_refuse 7 = .ok (.ineg, 1) := by decide +kernel
theorem dX10_refuse_8 : decode cX10_refuse 8 = .ok (.iconst 1, 1) := by decide +kernel
theorem dX10_refuse_9 : decode cX10_refuse 9 = .ok (.isub, 1) := by decide +kernel
theorem dX10_refuse_10 : decode cX10_refuse 10 = .ok (.goto 7, 3) := by decide +kernel
theorem dX10_refuse_13 : decode cX10_refuse 13 = .ok (.iload_n 1, 1) := by decide +kernel
theorem dX10_refuse_14 : decode cX10_refuse 14 = .ok (.ineg, 1) := by decide +kernel
theorem dX10_refuse_15 : decode cX10_refuse 15 = .ok (.iconst 2, 1) := by decide +kernel
theorem dX10_refuse_16 : decode cX10_refuse 16 = .ok (.isub, 1) := by decide +kernel
theorem dX10_refuse_17 : decode cX10_refuse 17 = .ok (.istore_n 2, 1) := by decide +kernel
theorem dX10_refuse_18 : decode cX10_refuse 18 = .ok (.iload_n 2, 1) := by decide +kernel
theorem dX10_refuse_19 : decode cX10_refuse 19 = .ok (.ifCond .lt 18, 3) := by decide +kernel
theorem dX10_refuse_22 : decode cX10_refuse 22 = .ok (.iload_n 2, 1) := by decide +kernel
theorem dX10_refuse_23 : decode cX10_refuse 23 = .ok (.iconst 5, 1) := by decide +kernel
theorem dX10_refuse_24 : decode cX10_refuse 24 = .ok (.if_icmp .ge 13, 3) := by decide +kernel
theorem dX10_refuse_27 : decode cX10_refuse 27 = .ok (.aload_n 0, 1) := by decide +kernel
theorem dX10_refuse_28 : decode cX10_refuse 28 = .ok (.getfield 71, 3) := by decide +kernel
theorem dX10_refuse_31 : decode cX10_refuse 31 = .ok (.iload_n 2, 1) := by decide +kernel
theorem dX10_refuse_32 : decode cX10_refuse 32 = .ok (.dup2, 1) := by decide +kernel
theorem dX10_refuse_33 : decode cX10_refuse 33 = .ok (.iaload, 1) := by decide +kernel
theorem dX10_refuse_34 : decode cX10_refuse 34 = .ok (.iconst 1, 1) := by decide +kernel
theorem dX10_refuse_35 : decode cX10_refuse 35 = .ok (.iadd, 1) := by decide +kernel
theorem dX10_refuse_36 : decode cX10_refuse 36 = .ok (.iastore, 1) := by decide +kernel
theorem dX10_refuse_37 : decode cX10_refuse 37 = .ok (.aload_n 0, 1) := by decide +kernel
theorem dX10_refuse_38 : decode cX10_refuse 38 = .ok (.iload_n 1, 1) := by decide +kernel
theorem dX10_refuse_39 : decode cX10_refuse 39 = .ok (.putfield 304, 3) := by decide +kernel
theorem dX10_refuse_42 : decode cX10_refuse 42 = .ok (.iload_n 1, 1) := by decide +kernel
theorem dX10_refuse_43 : decode cX10_refuse 43 = .ok (.ireturn, 1) := by decide +kernel
theorem dX10_dropAnswers_0 : decode cX10_dropAnswers 0 = .ok (.aload_n 0, 1) := by decide +kernel
theorem dX10_dropAnswers_1 : decode cX10_dropAnswers 1 = .ok (.getfield 37, 3) := by decide +kernel
theorem dX10_dropAnswers_4 : decode cX10_dropAnswers 4 = .ok (.invokevirtual 279, 3) := by decide +kernel
theorem dX10_dropAnswers_7 : decode cX10_dropAnswers 7 = .ok (.aload_n 0, 1) := by decide +kernel
theorem dX10_dropAnswers_8 : decode cX10_dropAnswers 8 = .ok (.getfield 47, 3) := by decide +kernel
theorem dX10_dropAnswers_11 : decode cX10_dropAnswers 11 = .ok (.iconst 0, 1) := by decide +kernel
theorem dX10_dropAnswers_12 : decode cX10_dropAnswers 12 = .ok (.putfield 256, 3) := by decide +kernel
theorem dX10_dropAnswers_15 : decode cX10_dropAnswers 15 = .ok (.aload_n 0, 1) := by decide +kernel
theorem dX10_dropAnswers_16 : decode cX10_dropAnswers 16 = .ok (.getfield 51, 3) := by decide +kernel
theorem dX10_dropAnswers_19 : decode cX10_dropAnswers 19 = .ok (.iconst 0, 1) := by decide +kernel
theorem dX10_dropAnswers_20 : decode cX10_dropAnswers 20 = .ok (.putfield 256, 3) := by decide +kernel
theorem dX10_dropAnswers_23 : decode cX10_dropAnswers 23 = .ok (.aload_n 0, 1) := by decide +kernel
theorem dX10_dropAnswers_24 : decode cX10_dropAnswers 24 = .ok (.getfield 54, 3) := by decide +kernel
theorem dX10_dropAnswers_27 : decode cX10_dropAnswers 27 = .ok (.iconst 0, 1) := by decide +kernel
theorem dX10_dropAnswers_28 : decode cX10_dropAnswers 28 = .ok (.putfield 256, 3) := by decide +kernel
theorem dX10_dropAnswers_31 : decode cX10_dropAnswers 31 = .ok (.aload_n 0, 1) := by decide +kernel
theorem dX10_dropAnswers_32 : decode cX10_dropAnswers 32 = .ok (.getfield 60, 3) := by decide +kernel
theorem dX10_dropAnswers_35 : decode cX10_dropAnswers 35 = .ok (.iconst 0, 1) := by decide +kernel
theorem dX10_dropAnswers_36 : decode cX10_dropAnswers 36 = .ok (.putfield 207, 3) := by decide +kernel
theorem dX10_dropAnswers_39 : decode cX10_dropAnswers 39 = .ok (.return_, 1) := by decide +kernel
theorem dX10_traitCanBe_0 : decode cX10_traitCanBe 0 = .ok (.iload_n 0, 1) := by decide +kernel
theorem dX10_traitCanBe_1 : decode cX10_traitCanBe 1 = .ok (.ifCond .lt 25, 3) := by decide +kernel
theorem dX10_traitCanBe_4 : decode cX10_traitCanBe 4 = .ok (.iload_n 0, 1) := by decide +kernel
theorem dX10_traitCanBe_5 : decode cX10_traitCanBe 5 = .ok (.iconst 5, 1) := by decide +kernel
theorem dX10_traitCanBe_6 : decode cX10_traitCanBe 6 = .ok (.if_icmp .ge 20, 3) := by decide +kernel
theorem dX10_traitCanBe_9 : decode cX10_traitCanBe 9 = .ok (.iload_n 1, 1) := by decide +kernel
theorem dX10_traitCanBe_10 : decode cX10_traitCanBe 10 = .ok (.ifCond .lt 16, 3) := by decide +kernel
theorem dX10_traitCanBe_13 : decode cX10_traitCanBe 13 = .ok (.iload_n 1, 1) := by decide +kernel
theorem dX10_traitCanBe_14 : decode cX10_traitCanBe 14 = .ok (.getstatic 307, 3) := by decide +kernel
theorem dX10_traitCanBe_17 : decode cX10_traitCanBe 17 = .ok (.iload_n 0, 1) := by decide +kernel
theorem dX10_traitCanBe_18 : decode cX10_traitCanBe 18 = .ok (.iaload, 1) := by decide +kernel
theorem dX10_traitCanBe_19 : decode cX10_traitCanBe 19 = .ok (.if_icmp .gt 7, 3) := by decide +kernel
theorem dX10_traitCanBe_22 : decode cX10_traitCanBe 22 = .ok (.iconst 1, 1) := by decide +kernel
theorem dX10_traitCanBe_23 : decode cX10_traitCanBe 23 = .ok (.goto 4, 3) := by decide +kernel
theorem dX10_traitCanBe_26 : decode cX10_traitCanBe 26 = .ok (.iconst 0, 1) := by decide +kernel
theorem dX10_traitCanBe_27 : decode cX10_traitCanBe 27 = .ok (.ireturn, 1) := by decide +kernel
theorem dX10_welcomeFromTape_0 : decode cX10_welcomeFromTape 0 = .ok (.iload_n 1, 1) := by decide +kernel
theorem dX10_welcomeFromTape_1 : decode cX10_welcomeFromTape 1 = .ok (.ifCond .lt 28, 3) := by decide +kernel
theorem dX10_welcomeFromTape_4 : decode cX10_welcomeFromTape 4 = .ok (.iload_n 1, 1) := by decide +kernel
theorem dX10_welcomeFromTape_5 : decode cX10_welcomeFromTape 5 = .ok (.iconst 3, 1) := by decide +kernel
theorem dX10_welcomeFromTape_6 : decode cX10_welcomeFromTape 6 = .ok (.iadd, 1) := by decide +kernel
theorem dX10_welcomeFromTape_7 : decode cX10_welcomeFromTape 7 = .ok (.aload_n 0, 1) := by decide +kernel
theorem dX10_welcomeFromTape_8 : decode cX10_welcomeFromTape 8 = .ok (.getfield 30, 3) := by decide +kernel
theorem dX10_welcomeFromTape_11 : decode cX10_welcomeFromTape 11 = .ok (.getfield 132, 3) := by decide +kernel
theorem dX10_welcomeFromTape_14 : decode cX10_welcomeFromTape 14 = .ok (.if_icmp .gt 15, 3) := by decide +kernel
theorem dX10_welcomeFromTape_17 : decode cX10_welcomeFromTape 17 = .ok (.aload_n 0, 1) := by decide +kernel
theorem dX10_welcomeFromTape_18 : decode cX10_welcomeFromTape 18 = .ok (.getfield 10, 3) := by decide +kernel
theorem dX10_welcomeFromTape_21 : decode cX10_welcomeFromTape 21 = .ok (.getfield 89, 3) := by decide +kernel
theorem dX10_welcomeFromTape_24 : decode cX10_welcomeFromTape 24 = .ok (.bipush 8, 2) := by decide +kernel
theorem dX10_welcomeFromTape_26 : decode cX10_welcomeFromTape 26 = .ok (.if_icmp .lt 5, 3) := by decide +kernel
theorem dX10_welcomeFromTape_29 : decode cX10_welcomeFromTape 29 = .ok (.iconst 0, 1) := by decide +kernel
theorem dX10_welcomeFromTape_30 : decode cX10_welcomeFromTape 30 = .ok (.ireturn, 1) := by decide +kernel
theorem dX10_welcomeFromTape_31 : decode cX10_welcomeFromTape 31 = .ok (.aload_n 0, 1) := by decide +kernel
theorem dX10_welcomeFromTape_32 : decode cX10_welcomeFromTape 32 = .ok (.getfield 30, 3) := by decide +kernel
theorem dX10_welcomeFromTape_35 : decode cX10_welcomeFromTape 35 = .ok (.getfield 310, 3) := by decide +kernel
theorem dX10_welcomeFromTape_38 : decode cX10_welcomeFromTape 38 = .ok (.iload_n 1, 1) := by decide +kernel
theorem dX10_welcomeFromTape_39 : decode cX10_welcomeFromTape 39 = .ok (.iaload, 1) := by decide +kernel
theorem dX10_welcomeFromTape_40 : decode cX10_welcomeFromTape 40 = .ok (.istore_n 2, 1) := by decide +kernel
theorem dX10_welcomeFromTape_41 : decode cX10_welcomeFromTape 41 = .ok (.aload_n 0, 1) := by decide +kernel
theorem dX10_welcomeFromTape_42 : decode cX10_welcomeFromTape 42 = .ok (.getfield 30, 3) := by decide +kernel
theorem dX10_welcomeFromTape_45 : decode cX10_welcomeFromTape 45 = .ok (.getfield 310, 3) := by decide +kernel
theorem dX10_welcomeFromTape_48 : decode cX10_welcomeFromTape 48 = .ok (.iload_n 1, 1) := by decide +kernel
theorem dX10_welcomeFromTape_49 : decode cX10_welcomeFromTape 49 = .ok (.iconst 1, 1) := by decide +kernel
theorem dX10_welcomeFromTape_50 : decode cX10_welcomeFromTape 50 = .ok (.iadd, 1) := by decide +kernel
theorem dX10_welcomeFromTape_51 : decode cX10_welcomeFromTape 51 = .ok (.iaload, 1) := by decide +kernel
theorem dX10_welcomeFromTape_52 : decode cX10_welcomeFromTape 52 = .ok (.istore_n 3, 1) := by decide +kernel
theorem dX10_welcomeFromTape_53 : decode cX10_welcomeFromTape 53 = .ok (.aload_n 0, 1) := by decide +kernel
theorem dX10_welcomeFromTape_54 : decode cX10_welcomeFromTape 54 = .ok (.getfield 30, 3) := by decide +kernel
theorem dX10_welcomeFromTape_57 : decode cX10_welcomeFromTape 57 = .ok (.getfield 310, 3) := by decide +kernel
theorem dX10_welcomeFromTape_60 : decode cX10_welcomeFromTape 60 = .ok (.iload_n 1, 1) := by decide +kernel
theorem dX10_welcomeFromTape_61 : decode cX10_welcomeFromTape 61 = .ok (.iconst 2, 1) := by decide +kernel
theorem dX10_welcomeFromTape_62 : decode cX10_welcomeFromTape 62 = .ok (.iadd, 1) := by decide +kernel
theorem dX10_welcomeFromTape_63 : decode cX10_welcomeFromTape 63 = .ok (.iaload, 1) := by decide +kernel
theorem dX10_welcomeFromTape_64 : decode cX10_welcomeFromTape 64 = .ok (.istore 4, 2) := by decide +kernel
theorem dX10_welcomeFromTape_66 : decode cX10_welcomeFromTape 66 = .ok (.iconst 0, 1) := by decide +kernel
theorem dX10_welcomeFromTape_67 : decode cX10_welcomeFromTape 67 = .ok (.iload_n 2, 1) := by decide +kernel
theorem dX10_welcomeFromTape_68 : decode cX10_welcomeFromTape 68 = .ok (.invokestatic 81, 3) := by decide +kernel
theorem dX10_welcomeFromTape_71 : decode cX10_welcomeFromTape 71 = .ok (.ifCond .eq 20, 3) := by decide +kernel
theorem dX10_welcomeFromTape_74 : decode cX10_welcomeFromTape 74 = .ok (.iconst 1, 1) := by decide +kernel
theorem dX10_welcomeFromTape_75 : decode cX10_welcomeFromTape 75 = .ok (.iload_n 3, 1) := by decide +kernel
theorem dX10_welcomeFromTape_76 : decode cX10_welcomeFromTape 76 = .ok (.invokestatic 81, 3) := by decide +kernel
theorem dX10_welcomeFromTape_79 : decode cX10_welcomeFromTape 79 = .ok (.ifCond .eq 12, 3) := by decide +kernel
theorem dX10_welcomeFromTape_82 : decode cX10_welcomeFromTape 82 = .ok (.iconst 2, 1) := by decide +kernel
theorem dX10_welcomeFromTape_83 : decode cX10_welcomeFromTape 83 = .ok (.iload 4, 2) := by decide +kernel
theorem dX10_welcomeFromTape_85 : decode cX10_welcomeFromTape 85 = .ok (.invokestatic 81, 3) := by decide +kernel
theorem dX10_welcomeFromTape_88 : decode cX10_welcomeFromTape 88 = .ok (.ifCond .ne 5, 3) := by decide +kernel
theorem dX10_welcomeFromTape_91 : decode cX10_welcomeFromTape 91 = .ok (.iconst 0, 1) := by decide +kernel
theorem dX10_welcomeFromTape_92 : decode cX10_welcomeFromTape 92 = .ok (.ireturn, 1) := by decide +kernel
theorem dX10_welcomeFromTape_93 : decode cX10_welcomeFromTape 93 = .ok (.aload_n 0, 1) := by decide +kernel
theorem dX10_welcomeFromTape_94 : decode cX10_welcomeFromTape 94 = .ok (.getfield 10, 3) := by decide +kernel
theorem dX10_welcomeFromTape_97 : decode cX10_welcomeFromTape 97 = .ok (.iload_n 2, 1) := by decide +kernel
theorem dX10_welcomeFromTape_98 : decode cX10_welcomeFromTape 98 = .ok (.iload_n 3, 1) := by decide +kernel
theorem dX10_welcomeFromTape_99 : decode cX10_welcomeFromTape 99 = .ok (.iload 4, 2) := by decide +kernel
theorem dX10_welcomeFromTape_101 : decode cX10_welcomeFromTape 101 = .ok (.invokevirtual 96, 3) := by decide +kernel
theorem dX10_welcomeFromTape_104 : decode cX10_welcomeFromTape 104 = .ok (.pop, 1) := by decide +kernel
theorem dX10_welcomeFromTape_105 : decode cX10_welcomeFromTape 105 = .ok (.iconst 1, 1) := by decide +kernel
theorem dX10_welcomeFromTape_106 : decode cX10_welcomeFromTape 106 = .ok (.ireturn, 1) := by decide +kernel
theorem dX10_say_0 : decode cX10_say 0 = .ok (.iload_n 3, 1) := by decide +kernel
theorem dX10_say_1 : decode cX10_say 1 = .ok (.ifCond .lt 9, 3) := by decide +kernel
theorem dX10_say_4 : decode cX10_say 4 = .ok (.iload_n 3, 1) := by decide +kernel
theorem dX10_say_5 : decode cX10_say 5 = .ok (.bipush 20, 2) := by decide +kernel
theorem dX10_say_7 : decode cX10_say 7 = .ok (.if_icmp .le 9, 3) := by decide +kernel
theorem dX10_say_10 : decode cX10_say 10 = .ok (.aload_n 0, 1) := by decide +kernel
theorem dX10_say_11 : decode cX10_say 11 = .ok (.iconst (-1), 1) := by decide +kernel
theorem dX10_say_12 : decode cX10_say 12 = .ok (.invokevirtual 85, 3) := by decide +kernel
theorem dX10_say_15 : decode cX10_say 15 = .ok (.ireturn, 1) := by decide +kernel
theorem dX10_say_16 : decode cX10_say 16 = .ok (.aload_n 0, 1) := by decide +kernel
theorem dX10_say_17 : decode cX10_say 17 = .ok (.getfield 10, 3) := by decide +kernel
theorem dX10_say_20 : decode cX10_say 20 = .ok (.iload_n 2, 1) := by decide +kernel
theorem dX10_say_21 : decode cX10_say 21 = .ok (.invokevirtual 103, 3) := by decide +kernel
theorem dX10_say_24 : decode cX10_say 24 = .ok (.ifCond .ne 10, 3) := by decide +kernel
theorem dX10_say_27 : decode cX10_say 27 = .ok (.aload_n 0, 1) := by decide +kernel
theorem dX10_say_28 : decode cX10_say 28 = .ok (.bipush (-2), 2) := by decide +kernel
theorem dX10_say_30 : decode cX10_say 30 = .ok (.invokevirtual 85, 3) := by decide +kernel
theorem dX10_say_33 : decode cX10_say 33 = .ok (.ireturn, 1) := by decide +kernel
theorem dX10_say_34 : decode cX10_say 34 = .ok (.aload_n 1, 1) := by decide +kernel
theorem dX10_say_35 : decode cX10_say 35 = .ok (.getfield 263, 3) := by decide +kernel
theorem dX10_say_38 : decode cX10_say 38 = .ok (.bipush 8, 2) := by decide +kernel
theorem dX10_say_40 : decode cX10_say 40 = .ok (.if_icmp .lt 10, 3) := by decide +kernel
theorem dX10_say_43 : decode cX10_say 43 = .ok (.aload_n 0, 1) := by decide +kernel
theorem dX10_say_44 : decode cX10_say 44 = .ok (.bipush (-5), 2) := by decide +kernel
theorem dX10_say_46 : decode cX10_say 46 = .ok (.invokevirtual 85, 3) := by decide +kernel
theorem dX10_say_49 : decode cX10_say 49 = .ok (.ireturn, 1) := by decide +kernel
theorem dX10_say_50 : decode cX10_say 50 = .ok (.aload_n 0, 1) := by decide +kernel
theorem dX10_say_51 : decode cX10_say 51 = .ok (.aload_n 1, 1) := by decide +kernel
theorem dX10_say_52 : decode cX10_say 52 = .ok (.iload_n 2, 1) := by decide +kernel
theorem dX10_say_53 : decode cX10_say 53 = .ok (.iload_n 3, 1) := by decide +kernel
theorem dX10_say_54 : decode cX10_say 54 = .ok (.invokevirtual 313, 3) := by decide +kernel
theorem dX10_say_57 : decode cX10_say 57 = .ok (.invokevirtual 100, 3) := by decide +kernel
theorem dX10_say_60 : decode cX10_say 60 = .ok (.ireturn, 1) := by decide +kernel
theorem dX10_sightsAreSo_0 : decode cX10_sightsAreSo 0 = .ok (.iconst 0, 1) := by decide +kernel
theorem dX10_sightsAreSo_1 : decode cX10_sightsAreSo 1 = .ok (.istore_n 3, 1) := by decide +kernel
theorem dX10_sightsAreSo_2 : decode cX10_sightsAreSo 2 = .ok (.iload_n 3, 1) := by decide +kernel
theorem dX10_sightsAreSo_3 : decode cX10_sightsAreSo 3 = .ok (.aload_n 0, 1) := by decide +kernel
theorem dX10_sightsAreSo_4 : decode cX10_sightsAreSo 4 = .ok (.getfield 10, 3) := by decide +kernel
theorem dX10_sightsAreSo_7 : decode cX10_sightsAreSo 7 = .ok (.getfield 241, 3) := by decide +kernel
theorem dX10_sightsAreSo_10 : decode cX10_sightsAreSo 10 = .ok (.getfield 263, 3) := by decide +kernel
theorem dX10_sightsAreSo_13 : decode cX10_sightsAreSo 13 = .ok (.if_icmp .ge 86, 3) := by decide +kernel
theorem dX10_sightsAreSo_16 : decode cX10_sightsAreSo 16 = .ok (.aload_n 0, 1) := by decide +kernel
theorem dX10_sightsAreSo_17 : decode cX10_sightsAreSo 17 = .ok (.getfield 10, 3) := by decide +kernel
theorem dX10_sightsAreSo_20 : decode cX10_sightsAreSo 20 = .ok (.getfield 241, 3) := by decide +kernel
theorem dX10_sightsAreSo_23 : decode cX10_sightsAreSo 23 = .ok (.getfield 315, 3) := by decide +kernel
theorem dX10_sightsAreSo_26 : decode cX10_sightsAreSo 26 = .ok (.iload_n 3, 1) := by decide +kernel
theorem dX10_sightsAreSo_27 : decode cX10_sightsAreSo 27 = .ok (.iaload, 1) := by decide +kernel
theorem dX10_sightsAreSo_28 : decode cX10_sightsAreSo 28 = .ok (.istore 4, 2) := by decide +kernel
theorem dX10_sightsAreSo_30 : decode cX10_sightsAreSo 30 = .ok (.aload_n 0, 1) := by decide +kernel
theorem dX10_sightsAreSo_31 : decode cX10_sightsAreSo 31 = .ok (.getfield 10, 3) := by decide +kernel
theorem dX10_sightsAreSo_34 : decode cX10_sightsAreSo 34 = .ok (.iload 4, 2) := by decide +kernel
theorem dX10_sightsAreSo_36 : decode cX10_sightsAreSo 36 = .ok (.invokevirtual 176, 3) := by decide +kernel
theorem dX10_sightsAreSo_39 : decode cX10_sightsAreSo 39 = .ok (.iload_n 1, 1) := by decide +kernel
theorem dX10_sightsAreSo_40 : decode cX10_sightsAreSo 40 = .ok (.if_icmp .ne 53, 3) := by decide +kernel
theorem dX10_sightsAreSo_43 : decode cX10_sightsAreSo 43 = .ok (.iload_n 2, 1) := by decide +kernel
theorem dX10_sightsAreSo_44 : decode cX10_sightsAreSo 44 = .ok (.aload_n 0, 1) := by decide +kernel
theorem dX10_sightsAreSo_45 : decode cX10_sightsAreSo 45 = .ok (.getfield 37, 3) := by decide +kernel
theorem dX10_sightsAreSo_48 : decode cX10_sightsAreSo 48 = .ok (.getfield 179, 3) := by decide +kernel
theorem dX10_sightsAreSo_51 : decode cX10_sightsAreSo 51 = .ok (.iload 4, 2) := by decide +kernel
theorem dX10_sightsAreSo_53 : decode cX10_sightsAreSo 53 = .ok (.iaload, 1) := by decide +kernel
theorem dX10_sightsAreSo_54 : decode cX10_sightsAreSo 54 = .ok (.iadd, 1) := by decide +kernel
theorem dX10_sightsAreSo_55 : decode cX10_sightsAreSo 55 = .ok (.istore 5, 2) := by decide +kernel
theorem dX10_sightsAreSo_57 : decode cX10_sightsAreSo 57 = .ok (.aload_n 0, 1) := by decide +kernel
theorem dX10_sightsAreSo_58 : decode cX10_sightsAreSo 58 = .ok (.getfield 10, 3) := by decide +kernel
theorem dX10_sightsAreSo_61 : decode cX10_sightsAreSo 61 = .ok (.iload 5, 2) := by decide +kernel
theorem dX10_sightsAreSo_63 : decode cX10_sightsAreSo 63 = .ok (.aload_n 0, 1) := by decide +kernel
theorem dX10_sightsAreSo_64 : decode cX10_sightsAreSo 64 = .ok (.getfield 37, 3) := by decide +kernel
theorem dX10_sightsAreSo_67 : decode cX10_sightsAreSo 67 = .ok (.getfield 119, 3) := by decide +kernel
theorem dX10_sightsAreSo_70 : decode cX10_sightsAreSo 70 = .ok (.iload 4, 2) := by decide +kernel
theorem dX10_sightsAreSo_72 : decode cX10_sightsAreSo 72 = .ok (.iaload, 1) := by decide +kernel
theorem dX10_sightsAreSo_73 : decode cX10_sightsAreSo 73 = .ok (.invokevirtual 182, 3) := by decide +kernel
theorem dX10_sightsAreSo_76 : decode cX10_sightsAreSo 76 = .ok (.aload_n 0, 1) := by decide +kernel
theorem dX10_sightsAreSo_77 : decode cX10_sightsAreSo 77 = .ok (.getfield 10, 3) := by decide +kernel
theorem dX10_sightsAreSo_80 : decode cX10_sightsAreSo 80 = .ok (.getfield 241, 3) := by decide +kernel
theorem dX10_sightsAreSo_83 : decode cX10_sightsAreSo 83 = .ok (.getfield 318, 3) := by decide +kernel
theorem dX10_sightsAreSo_86 : decode cX10_sightsAreSo 86 = .ok (.iload_n 3, 1) := by decide +kernel
theorem dX10_sightsAreSo_87 : decode cX10_sightsAreSo 87 = .ok (.iaload, 1) := by decide +kernel
theorem dX10_sightsAreSo_88 : decode cX10_sightsAreSo 88 = .ok (.if_icmp .eq 5, 3) := by decide +kernel
theorem dX10_sightsAreSo_91 : decode cX10_sightsAreSo 91 = .ok (.iconst 0, 1) := by decide +kernel
theorem dX10_sightsAreSo_92 : decode cX10_sightsAreSo 92 = .ok (.ireturn, 1) := by decide +kernel
theorem dX10_sightsAreSo_93 : decode cX10_sightsAreSo 93 = .ok (.iinc 3 1, 3) := by decide +kernel
theorem dX10_sightsAreSo_96 : decode cX10_sightsAreSo 96 = .ok (.goto (-94), 3) := by decide +kernel
theorem dX10_sightsAreSo_99 : decode cX10_sightsAreSo 99 = .ok (.iconst 1, 1) := by decide +kernel
theorem dX10_sightsAreSo_100 : decode cX10_sightsAreSo 100 = .ok (.ireturn, 1) := by decide +kernel
theorem dX10_layOutPaperDay_0 : decode cX10_layOutPaperDay 0 = .ok (.aload_n 0, 1) := by decide +kernel
theorem dX10_layOutPaperDay_1 : decode cX10_layOutPaperDay 1 = .ok (.getfield 16, 3) := by decide +kernel
theorem dX10_layOutPaperDay_4 : decode cX10_layOutPaperDay 4 = .ok (.invokevirtual 321, 3) := by decide +kernel
theorem dX10_layOutPaperDay_7 : decode cX10_layOutPaperDay 7 = .ok (.astore_n 2, 1) := by decide +kernel
theorem dX10_layOutPaperDay_8 : decode cX10_layOutPaperDay 8 = .ok (.iload_n 1, 1) := by decide +kernel
theorem dX10_layOutPaperDay_9 : decode cX10_layOutPaperDay 9 = .ok (.ifCond .eq 14, 3) := by decide +kernel
theorem dX10_layOutPaperDay_12 : decode cX10_layOutPaperDay 12 = .ok (.aload_n 2, 1) := by decide +kernel
theorem dX10_layOutPaperDay_13 : decode cX10_layOutPaperDay 13 = .ok (.ifnull 46, 3) := by decide +kernel
theorem dX10_layOutPaperDay_16 : decode cX10_layOutPaperDay 16 = .ok (.aload_n 2, 1) := by decide +kernel
theorem dX10_layOutPaperDay_17 : decode cX10_layOutPaperDay 17 = .ok (.getfield 324, 3) := by decide +kernel
theorem dX10_layOutPaperDay_20 : decode cX10_layOutPaperDay 20 = .ok (.ifCond .eq 39, 3) := by decide +kernel
theorem dX10_layOutPaperDay_23 : decode cX10_layOutPaperDay 23 = .ok (.aload_n 0, 1) := by decide +kernel
theorem dX10_layOutPaperDay_24 : decode cX10_layOutPaperDay 24 = .ok (.getfield 41, 3) := by decide +kernel
theorem dX10_layOutPaperDay_27 : decode cX10_layOutPaperDay 27 = .ok (.invokevirtual 279, 3) := by decide +kernel
theorem dX10_layOutPaperDay_30 : decode cX10_layOutPaperDay 30 = .ok (.aload_n 0, 1) := by decide +kernel
theorem dX10_layOutPaperDay_31 : decode cX10_layOutPaperDay 31 = .ok (.getfield 41, 3) := by decide +kernel
theorem dX10_layOutPaperDay_34 : decode cX10_layOutPaperDay 34 = .ok (.aload_n 0, 1) := by decide +kernel
theorem dX10_layOutPaperDay_35 : decode cX10_layOutPaperDay 35 = .ok (.getfield 16, 3) := by decide +kernel
theorem dX10_layOutPaperDay_38 : decode cX10_layOutPaperDay 38 = .ok (.invokevirtual 115, 3) := by decide +kernel
theorem dX10_layOutPaperDay_41 : decode cX10_layOutPaperDay 41 = .ok (.aload_n 0, 1) := by decide +kernel
theorem dX10_layOutPaperDay_42 : decode cX10_layOutPaperDay 42 = .ok (.getfield 41, 3) := by decide +kernel
theorem dX10_layOutPaperDay_45 : decode cX10_layOutPaperDay 45 = .ok (.aload_n 0, 1) := by decide +kernel
theorem dX10_layOutPaperDay_46 : decode cX10_layOutPaperDay 46 = .ok (.getfield 16, 3) := by decide +kernel
theorem dX10_layOutPaperDay_49 : decode cX10_layOutPaperDay 49 = .ok (.invokevirtual 282, 3) := by decide +kernel
theorem dX10_layOutPaperDay_52 : decode cX10_layOutPaperDay 52 = .ok (.aload_n 0, 1) := by decide +kernel
theorem dX10_layOutPaperDay_53 : decode cX10_layOutPaperDay 53 = .ok (.getfield 41, 3) := by decide +kernel
theorem dX10_layOutPaperDay_56 : decode cX10_layOutPaperDay 56 = .ok (.invokevirtual 329, 3) := by decide +kernel
theorem dX10_layOutPaperDay_59 : decode cX10_layOutPaperDay 59 = .ok (.aload_n 0, 1) := by decide +kernel
theorem dX10_layOutPaperDay_60 : decode cX10_layOutPaperDay 60 = .ok (.getfield 41, 3) := by decide +kernel
theorem dX10_layOutPaperDay_63 : decode cX10_layOutPaperDay 63 = .ok (.aload_n 0, 1) := by decide +kernel
theorem dX10_layOutPaperDay_64 : decode cX10_layOutPaperDay 64 = .ok (.getfield 16, 3) := by decide +kernel
theorem dX10_layOutPaperDay_67 : decode cX10_layOutPaperDay 67 = .ok (.invokevirtual 332, 3) := by decide +kernel
theorem dX10_layOutPaperDay_70 : decode cX10_layOutPaperDay 70 = .ok (.return_, 1) := by decide +kernel
theorem dX10_searchBest_0 : decode cX10_searchBest 0 = .ok (.aload_n 0, 1) := by decide +kernel
theorem dX10_searchBest_1 : decode cX10_searchBest 1 = .ok (.getfield 47, 3) := by decide +kernel
theorem dX10_searchBest_4 : decode cX10_searchBest 4 = .ok (.getfield 256, 3) := by decide +kernel
theorem dX10_searchBest_7 : decode cX10_searchBest 7 = .ok (.ifCond .ne 66, 3) := by decide +kernel
theorem dX10_searchBest_10 : decode cX10_searchBest 10 = .ok (.iconst 0, 1) := by decide +kernel
theorem dX10_searchBest_11 : decode cX10_searchBest 11 = .ok (.istore_n 1, 1) := by decide +kernel
theorem dX10_searchBest_12 : decode cX10_searchBest 12 = .ok (.iload_n 1, 1) := by decide +kernel
theorem dX10_searchBest_13 : decode cX10_searchBest 13 = .ok (.aload_n 0, 1) := by decide +kernel
theorem dX10_searchBest_14 : decode cX10_searchBest 14 = .ok (.getfield 10, 3) := by decide +kernel
theorem dX10_searchBest_17 : decode cX10_searchBest 17 = .ok (.getfield 89, 3) := by decide +kernel
theorem dX10_searchBest_20 : decode cX10_searchBest 20 = .ok (.if_icmp .ge 41, 3) := by decide +kernel
theorem dX10_searchBest_23 : decode cX10_searchBest 23 = .ok (.iconst 0, 1) := by decide +kernel
theorem dX10_searchBest_24 : decode cX10_searchBest 24 = .ok (.istore_n 2, 1) := by decide +kernel
theorem dX10_searchBest_25 : decode cX10_searchBest 25 = .ok (.iload_n 2, 1) := by decide +kernel
theorem dX10_searchBest_26 : decode cX10_searchBest 26 = .ok (.bipush 20, 2) := by decide +kernel
theorem dX10_searchBest_28 : decode cX10_searchBest 28 = .ok (.if_icmp .gt 27, 3) := by decide +kernel
theorem dX10_searchBest_31 : decode cX10_searchBest 31 = .ok (.aload_n 0, 1) := by decide +kernel
theorem dX10_searchBest_32 : decode cX10_searchBest 32 = .ok (.getfield 47, 3) := by decide +kernel
theorem dX10_searchBest_35 : decode cX10_searchBest 35 = .ok (.iload_n 1, 1) := by decide +kernel
theorem dX10_searchBest_36 : decode cX10_searchBest 36 = .ok (.iload_n 2, 1) := by decide +kernel
theorem dX10_searchBest_37 : decode cX10_searchBest 37 = .ok (.iload_n 2, 1) := by decide +kernel
theorem dX10_searchBest_38 : decode cX10_searchBest 38 = .ok (.ifCond .le 7, 3) := by decide +kernel
theorem dX10_searchBest_41 : decode cX10_searchBest 41 = .ok (.iconst (-1), 1) := by decide +kernel
theorem dX10_searchBest_42 : decode cX10_searchBest 42 = .ok (.goto 4, 3) := by decide +kernel
theorem dX10_searchBest_45 : decode cX10_searchBest 45 = .ok (.iconst 0, 1) := by decide +kernel
theorem dX10_searchBest_46 : decode cX10_searchBest 46 = .ok (.invokevirtual 335, 3) := by decide +kernel
theorem dX10_searchBest_49 : decode cX10_searchBest 49 = .ok (.iinc 2 1, 3) := by decide +kernel
theorem dX10_searchBest_52 : decode cX10_searchBest 52 = .ok (.goto (-27), 3) := by decide +kernel
theorem dX10_searchBest_55 : decode cX10_searchBest 55 = .ok (.iinc 1 1, 3) := by decide +kernel
theorem dX10_searchBest_58 : decode cX10_searchBest 58 = .ok (.goto (-46), 3) := by decide +kernel
theorem dX10_searchBest_61 : decode cX10_searchBest 61 = .ok (.aload_n 0, 1) := by decide +kernel
theorem dX10_searchBest_62 : decode cX10_searchBest 62 = .ok (.getfield 47, 3) := by decide +kernel
theorem dX10_searchBest_65 : decode cX10_searchBest 65 = .ok (.aload_n 0, 1) := by decide +kernel
theorem dX10_searchBest_66 : decode cX10_searchBest 66 = .ok (.getfield 37, 3) := by decide +kernel
theorem dX10_searchBest_69 : decode cX10_searchBest 69 = .ok (.iconst 0, 1) := by decide +kernel
theorem dX10_searchBest_70 : decode cX10_searchBest 70 = .ok (.invokevirtual 338, 3) := by decide +kernel
theorem dX10_searchBest_73 : decode cX10_searchBest 73 = .ok (.aload_n 0, 1) := by decide +kernel
theorem dX10_searchBest_74 : decode cX10_searchBest 74 = .ok (.getfield 47, 3) := by decide +kernel
theorem dX10_searchBest_77 : decode cX10_searchBest 77 = .ok (.areturn, 1) := by decide +kernel
theorem dX10_searchFairest_0 : decode cX10_searchFairest 0 = .ok (.aload_n 0, 1) := by decide +kernel
theorem dX10_searchFairest_1 : decode cX10_searchFairest 1 = .ok (.getfield 51, 3) := by decide +kernel
theorem dX10_searchFairest_4 : decode cX10_searchFairest 4 = .ok (.getfield 256, 3) := by decide +kernel
theorem dX10_searchFairest_7 : decode cX10_searchFairest 7 = .ok (.ifCond .ne 89, 3) := by decide +kernel
theorem dX10_searchFairest_10 : decode cX10_searchFairest 10 = .ok (.iconst 0, 1) := by decide +kernel
theorem dX10_searchFairest_11 : decode cX10_searchFairest 11 = .ok (.istore_n 1, 1) := by decide +kernel
theorem dX10_searchFairest_12 : decode cX10_searchFairest 12 = .ok (.iload_n 1, 1) := by decide +kernel
theorem dX10_searchFairest_13 : decode cX10_searchFairest 13 = .ok (.aload_n 0, 1) := by decide +kernel
theorem dX10_searchFairest_14 : decode cX10_searchFairest 14 = .ok (.getfield 10, 3) := by decide +kernel
theorem dX10_searchFairest_17 : decode cX10_searchFairest 17 = .ok (.getfield 89, 3) := by decide +kernel
theorem dX10_searchFairest_20 : decode cX10_searchFairest 20 = .ok (.if_icmp .ge 64, 3) := by decide +kernel
theorem dX10_searchFairest_23 : decode cX10_searchFairest 23 = .ok (.aload_n 0, 1) := by decide +kernel
theorem dX10_searchFairest_24 : decode cX10_searchFairest 24 = .ok (.iload_n 1, 1) := by decide +kernel
theorem dX10_searchFairest_25 : decode cX10_searchFairest 25 = .ok (.invokevirtual 342, 3) := by decide +kernel
theorem dX10_searchFairest_28 : decode cX10_searchFairest 28 = .ok (.aload_n 0, 1) := by decide +kernel
theorem dX10_searchFairest_29 : decode cX10_searchFairest 29 = .ok (.getfield 37, 3) := by decide +kernel
theorem dX10_searchFairest_32 : decode cX10_searchFairest 32 = .ok (.getfield 119, 3) := by decide +kernel
theorem dX10_searchFairest_35 : decode cX10_searchFairest 35 = .ok (.iload_n 1, 1) := by decide +kernel
theorem dX10_searchFairest_36 : decode cX10_searchFairest 36 = .ok (.iaload, 1) := by decide +kernel
theorem dX10_searchFairest_37 : decode cX10_searchFairest 37 = .ok (.iadd, 1) := by decide +kernel
theorem dX10_searchFairest_38 : decode cX10_searchFairest 38 = .ok (.istore_n 2, 1) := by decide +kernel
theorem dX10_searchFairest_39 : decode cX10_searchFairest 39 = .ok (.iconst 0, 1) := by decide +kernel
theorem dX10_searchFairest_40 : decode cX10_searchFairest 40 = .ok (.istore_n 3, 1) := by decide +kernel
theorem dX10_searchFairest_41 : decode cX10_searchFairest 41 = .ok (.iload_n 3, 1) := by decide +kernel
theorem dX10_searchFairest_42 : decode cX10_searchFairest 42 = .ok (.bipush 20, 2) := by decide +kernel
theorem dX10_searchFairest_44 : decode cX10_searchFairest 44 = .ok (.if_icmp .gt 34, 3) := by decide +kernel
theorem dX10_searchFairest_47 : decode cX10_searchFairest 47 = .ok (.aload_n 0, 1) := by decide +kernel
theorem dX10_searchFairest_48 : decode cX10_searchFairest 48 = .ok (.getfield 51, 3) := by decide +kernel
theorem dX10_searchFairest_51 : decode cX10_searchFairest 51 = .ok (.iload_n 1, 1) := by decide +kernel
theorem dX10_searchFairest_52 : decode cX10_searchFairest 52 = .ok (.iload_n 3, 1) := by decide +kernel
theorem dX10_searchFairest_53 : decode cX10_searchFairest 53 = .ok (.iload_n 2, 1) := by decide +kernel
theorem dX10_searchFairest_54 : decode cX10_searchFairest 54 = .ok (.aload_n 0, 1) := by decide +kernel
theorem dX10_searchFairest_55 : decode cX10_searchFairest 55 = .ok (.getfield 10, 3) := by decide +kernel
theorem dX10_searchFairest_58 : decode cX10_searchFairest 58 = .ok (.getfield 123, 3) := by decide +kernel
theorem dX10_searchFairest_61 : decode cX10_searchFairest 61 = .ok (.iconst 0, 1) := by decide +kernel
theorem dX10_searchFairest_62 : decode cX10_searchFairest 62 = .ok (.iaload, 1) := by decide +kernel
theorem dX10_searchFairest_63 : decode cX10_searchFairest 63 = .ok (.iload_n 3, 1) := by decide +kernel
theorem dX10_searchFairest_64 : decode cX10_searchFairest 64 = .ok (.imul, 1) := by decide +kernel
theorem dX10_searchFairest_65 : decode cX10_searchFairest 65 = .ok (.isub, 1) := by decide +kernel
theorem dX10_searchFairest_66 : decode cX10_searchFairest 66 = .ok (.invokestatic 345, 3) := by decide +kernel
theorem dX10_searchFairest_69 : decode cX10_searchFairest 69 = .ok (.invokevirtual 335, 3) := by decide +kernel
theorem dX10_searchFairest_72 : decode cX10_searchFairest 72 = .ok (.iinc 3 1, 3) := by decide +kernel
theorem dX10_searchFairest_75 : decode cX10_searchFairest 75 = .ok (.goto (-34), 3) := by decide +kernel
theorem dX10_searchFairest_78 : decode cX10_searchFairest 78 = .ok (.iinc 1 1, 3) := by decide +kernel
theorem dX10_searchFairest_81 : decode cX10_searchFairest 81 = .ok (.goto (-69), 3) := by decide +kernel
theorem dX10_searchFairest_84 : decode cX10_searchFairest 84 = .ok (.aload_n 0, 1) := by decide +kernel
theorem dX10_searchFairest_85 : decode cX10_searchFairest 85 = .ok (.getfield 51, 3) := by decide +kernel
theorem dX10_searchFairest_88 : decode cX10_searchFairest 88 = .ok (.aload_n 0, 1) := by decide +kernel
theorem dX10_searchFairest_89 : decode cX10_searchFairest 89 = .ok (.getfield 37, 3) := by decide +kernel
theorem dX10_searchFairest_92 : decode cX10_searchFairest 92 = .ok (.iconst 1, 1) := by decide +kernel
theorem dX10_searchFairest_93 : decode cX10_searchFairest 93 = .ok (.invokevirtual 338, 3) := by decide +kernel
theorem dX10_searchFairest_96 : decode cX10_searchFairest 96 = .ok (.aload_n 0, 1) := by decide +kernel
theorem dX10_searchFairest_97 : decode cX10_searchFairest 97 = .ok (.getfield 51, 3) := by decide +kernel
theorem dX10_searchFairest_100 : decode cX10_searchFairest 100 = .ok (.areturn, 1) := by decide +kernel
theorem dX10_searchFalse_0 : decode cX10_searchFalse 0 = .ok (.aload_n 0, 1) := by decide +kernel
theorem dX10_searchFalse_1 : decode cX10_searchFalse 1 = .ok (.getfield 54, 3) := by decide +kernel
theorem dX10_searchFalse_4 : decode cX10_searchFalse 4 = .ok (.getfield 256, 3) := by decide +kernel
theorem dX10_searchFalse_7 : decode cX10_searchFalse 7 = .ok (.ifCond .ne 69, 3) := by decide +kernel
theorem dX10_searchFalse_10 : decode cX10_searchFalse 10 = .ok (.iconst 0, 1) := by decide +kernel
theorem dX10_searchFalse_11 : decode cX10_searchFalse 11 = .ok (.istore_n 1, 1) := by decide +kernel
theorem dX10_searchFalse_12 : decode cX10_searchFalse 12 = .ok (.iload_n 1, 1) := by decide +kernel
theorem dX10_searchFalse_13 : decode cX10_searchFalse 13 = .ok (.aload_n 0, 1) := by decide +kernel
theorem dX10_searchFalse_14 : decode cX10_searchFalse 14 = .ok (.getfield 10, 3) := by decide +kernel
theorem dX10_searchFalse_17 : decode cX10_searchFalse 17 = .ok (.getfield 89, 3) := by decide +kernel
theorem dX10_searchFalse_20 : decode cX10_searchFalse 20 = .ok (.if_icmp .ge 44, 3) := by decide +kernel
theorem dX10_searchFalse_23 : decode cX10_searchFalse 23 = .ok (.iconst 0, 1) := by decide +kernel
theorem dX10_searchFalse_24 : decode cX10_searchFalse 24 = .ok (.istore_n 2, 1) := by decide +kernel
theorem dX10_searchFalse_25 : decode cX10_searchFalse 25 = .ok (.iload_n 2, 1) := by decide +kernel
theorem dX10_searchFalse_26 : decode cX10_searchFalse 26 = .ok (.bipush 20, 2) := by decide +kernel
theorem dX10_searchFalse_28 : decode cX10_searchFalse 28 = .ok (.if_icmp .gt 30, 3) := by decide +kernel
theorem dX10_searchFalse_31 : decode cX10_searchFalse 31 = .ok (.aload_n 0, 1) := by decide +kernel
theorem dX10_searchFalse_32 : decode cX10_searchFalse 32 = .ok (.getfield 54, 3) := by decide +kernel
theorem dX10_searchFalse_35 : decode cX10_searchFalse 35 = .ok (.iload_n 1, 1) := by decide +kernel
theorem dX10_searchFalse_36 : decode cX10_searchFalse 36 = .ok (.iload_n 2, 1) := by decide +kernel
theorem dX10_searchFalse_37 : decode cX10_searchFalse 37 = .ok (.aload_n 0, 1) := by decide +kernel
theorem dX10_searchFalse_38 : decode cX10_searchFalse 38 = .ok (.getfield 10, 3) := by decide +kernel
theorem dX10_searchFalse_41 : decode cX10_searchFalse 41 = .ok (.getfield 257, 3) := by decide +kernel
theorem dX10_searchFalse_44 : decode cX10_searchFalse 44 = .ok (.iload_n 1, 1) := by decide +kernel
theorem dX10_searchFalse_45 : decode cX10_searchFalse 45 = .ok (.iload_n 2, 1) := by decide +kernel
theorem dX10_searchFalse_46 : decode cX10_searchFalse 46 = .ok (.invokevirtual 350, 3) := by decide +kernel
theorem dX10_searchFalse_49 : decode cX10_searchFalse 49 = .ok (.invokevirtual 335, 3) := by decide +kernel
theorem dX10_searchFalse_52 : decode cX10_searchFalse 52 = .ok (.iinc 2 1, 3) := by decide +kernel
theorem dX10_searchFalse_55 : decode cX10_searchFalse 55 = .ok (.goto (-30), 3) := by decide +kernel
theorem dX10_searchFalse_58 : decode cX10_searchFalse 58 = .ok (.iinc 1 1, 3) := by decide +kernel
theorem dX10_searchFalse_61 : decode cX10_searchFalse 61 = .ok (.goto (-49), 3) := by decide +kernel
theorem dX10_searchFalse_64 : decode cX10_searchFalse 64 = .ok (.aload_n 0, 1) := by decide +kernel
theorem dX10_searchFalse_65 : decode cX10_searchFalse 65 = .ok (.getfield 54, 3) := by decide +kernel
theorem dX10_searchFalse_68 : decode cX10_searchFalse 68 = .ok (.aload_n 0, 1) := by decide +kernel
theorem dX10_searchFalse_69 : decode cX10_searchFalse 69 = .ok (.getfield 37, 3) := by decide +kernel
theorem dX10_searchFalse_72 : decode cX10_searchFalse 72 = .ok (.iconst 0, 1) := by decide +kernel
theorem dX10_searchFalse_73 : decode cX10_searchFalse 73 = .ok (.invokevirtual 338, 3) := by decide +kernel
theorem dX10_searchFalse_76 : decode cX10_searchFalse 76 = .ok (.aload_n 0, 1) := by decide +kernel
theorem dX10_searchFalse_77 : decode cX10_searchFalse 77 = .ok (.getfield 54, 3) := by decide +kernel
theorem dX10_searchFalse_80 : decode cX10_searchFalse 80 = .ok (.areturn, 1) := by decide +kernel
theorem dX11_lies_0 : decode cX11_lies 0 = .ok (.iload_n 0, 1) := by decide +kernel
theorem dX11_lies_1 : decode cX11_lies 1 = .ok (.iload_n 1, 1) := by decide +kernel
theorem dX11_lies_2 : decode cX11_lies 2 = .ok (.if_icmp .lt 12, 3) := by decide +kernel
theorem dX11_lies_5 : decode cX11_lies 5 = .ok (.iload_n 0, 1) := by decide +kernel
theorem dX11_lies_6 : decode cX11_lies 6 = .ok (.iload_n 2, 1) := by decide +kernel
theorem dX11_lies_7 : decode cX11_lies 7 = .ok (.if_icmp .gt 7, 3) := by decide +kernel
theorem dX11_lies_10 : decode cX11_lies 10 = .ok (.iconst 1, 1) := by decide +kernel
theorem dX11_lies_11 : decode cX11_lies 11 = .ok (.goto 4, 3) := by decide +kernel
theorem dX11_lies_14 : decode cX11_lies 14 = .ok (.iconst 0, 1) := by decide +kernel
theorem dX11_lies_15 : decode cX11_lies 15 = .ok (.ireturn, 1) := by decide +kernel
theorem dX11_refuses_0 : decode cX11_refuses 0 = .ok (.aload_n 0, 1) := by decide +kernel
theorem dX11_refuses_1 : decode cX11_refuses 1 = .ok (.iload_n 1, 1) := by decide +kernel
theorem dX11_refuses_2 : decode cX11_refuses 2 = .ok (.putfield 3, 3) := by decide +kernel
theorem dX11_refuses_5 : decode cX11_refuses 5 = .ok (.aload_n 0, 1) := by decide +kernel
theorem dX11_refuses_6 : decode cX11_refuses 6 = .ok (.getfield 7, 3) := by decide +kernel
theorem dX11_refuses_9 : decode cX11_refuses 9 = .ok (.iload_n 1, 1) := by decide +kernel
theorem dX11_refuses_10 : decode cX11_refuses 10 = .ok (.ineg, 1) := by decide +kernel
theorem dX11_refuses_11 : decode cX11_refuses 11 = .ok (.dup2, 1) := by decide +kernel
theorem dX11_refuses_12 : decode cX11_refuses 12 = .ok (.iaload, 1) := by decide +kernel
theorem dX11_refuses_13 : decode cX11_refuses 13 = .ok (.iconst 1, 1) := by decide +kernel
theorem dX11_refuses_14 : decode cX11_refuses 14 = .ok (.iadd, 1) := by decide +kernel
theorem dX11_refuses_15 : decode cX11_refuses 15 = .ok (.iastore, 1) := by decide +kernel
theorem dX11_refuses_16 : decode cX11_refuses 16 = .ok (.iload_n 1, 1) := by decide +kernel
theorem dX11_refuses_17 : decode cX11_refuses 17 = .ok (.ireturn, 1) := by decide +kernel
theorem dX11_good_0 : decode cX11_good 0 = .ok (.aload_n 0, 1) := by decide +kernel
theorem dX11_good_1 : decode cX11_good 1 = .ok (.iconst 0, 1) := by decide +kernel
theorem dX11_good_2 : decode cX11_good 2 = .ok (.putfield 3, 3) := by decide +kernel
theorem dX11_good_5 : decode cX11_good 5 = .ok (.iload_n 1, 1) := by decide +kernel
theorem dX11_good_6 : decode cX11_good 6 = .ok (.ireturn, 1) := by decide +kernel
theorem dX11_isIn_0 : decode cX11_isIn 0 = .ok (.iload_n 0, 1) := by decide +kernel
theorem dX11_isIn_1 : decode cX11_isIn 1 = .ok (.iload_n 1, 1) := by decide +kernel
theorem dX11_isIn_2 : decode cX11_isIn 2 = .ok (.ishr, 1) := by decide +kernel
theorem dX11_isIn_3 : decode cX11_isIn 3 = .ok (.iconst 1, 1) := by decide +kernel
theorem dX11_isIn_4 : decode cX11_isIn 4 = .ok (.iand, 1) := by decide +kernel
theorem dX11_isIn_5 : decode cX11_isIn 5 = .ok (.iconst 1, 1) := by decide +kernel
theorem dX11_isIn_6 : decode cX11_isIn 6 = .ok (.if_icmp .ne 7, 3) := by decide +kernel
theorem dX11_isIn_9 : decode cX11_isIn 9 = .ok (.iconst 1, 1) := by decide +kernel
theorem dX11_isIn_10 : decode cX11_isIn 10 = .ok (.goto 4, 3) := by decide +kernel
theorem dX11_isIn_13 : decode cX11_isIn 13 = .ok (.iconst 0, 1) := by decide +kernel
theorem dX11_isIn_14 : decode cX11_isIn 14 = .ok (.ireturn, 1) := by decide +kernel
theorem dX11_lesser_0 : decode cX11_lesser 0 = .ok (.iload_n 0, 1) := by decide +kernel
theorem dX11_lesser_1 : decode cX11_lesser 1 = .ok (.iload_n 1, 1) := by decide +kernel
theorem dX11_lesser_2 : decode cX11_lesser 2 = .ok (.if_icmp .ge 7, 3) := by decide +kernel
theorem dX11_lesser_5 : decode cX11_lesser 5 = .ok (.iload_n 0, 1) := by decide +kernel
theorem dX11_lesser_6 : decode cX11_lesser 6 = .ok (.goto 4, 3) := by decide +kernel
theorem dX11_lesser_9 : decode cX11_lesser 9 = .ok (.iload_n 1, 1) := by decide +kernel
theorem dX11_lesser_10 : decode cX11_lesser 10 = .ok (.ireturn, 1) := by decide +kernel
theorem dX11_greater_0 : decode cX11_greater 0 = .ok (.iload_n 0, 1) := by decide +kernel
theorem dX11_greater_1 : decode cX11_greater 1 = .ok (.iload_n 1, 1) := by decide +kernel
theorem dX11_greater_2 : decode cX11_greater 2 = .ok (.if_icmp .le 7, 3) := by decide +kernel
theorem dX11_greater_5 : decode cX11_greater 5 = .ok (.iload_n 0, 1) := by decide +kernel
theorem dX11_greater_6 : decode cX11_greater 6 = .ok (.goto 4, 3) := by decide +kernel
theorem dX11_greater_9 : decode cX11_greater 9 = .ok (.iload_n 1, 1) := by decide +kernel
theorem dX11_greater_10 : decode cX11_greater 10 = .ok (.ireturn, 1) := by decide +kernel
theorem dX11_init_0 : decode cX11_init 0 = .ok (.aload_n 0, 1) := by decide +kernel
theorem dX11_init_1 : decode cX11_init 1 = .ok (.invokespecial 11, 3) := by decide +kernel
theorem dX11_init_4 : decode cX11_init 4 = .ok (.aload_n 0, 1) := by decide +kernel
theorem dX11_init_5 : decode cX11_init 5 = .ok (.bipush 7, 2) := by decide +kernel
theorem dX11_init_7 : decode cX11_init 7 = .ok (.newarray .int, 2) := by decide +kernel
theorem dX11_init_9 : decode cX11_init 9 = .ok (.putfield 7, 3) := by decide +kernel
theorem dX11_init_12 : decode cX11_init 12 = .ok (.aload_n 0, 1) := by decide +kernel
theorem dX11_init_13 : decode cX11_init 13 = .ok (.sipush 4888, 3) := by decide +kernel
theorem dX11_init_16 : decode cX11_init 16 = .ok (.newarray .int, 2) := by decide +kernel
theorem dX11_init_18 : decode cX11_init 18 = .ok (.putfield 17, 3) := by decide +kernel
theorem dX11_init_21 : decode cX11_init 21 = .ok (.aload_n 0, 1) := by decide +kernel
theorem dX11_init_22 : decode cX11_init 22 = .ok (.sipush 9776, 3) := by decide +kernel
theorem dX11_init_25 : decode cX11_init 25 = .ok (.newarray .int, 2) := by decide +kernel
theorem dX11_init_27 : decode cX11_init 27 = .ok (.putfield 20, 3) := by decide +kernel
theorem dX11_init_30 : decode cX11_init 30 = .ok (.aload_n 0, 1) := by decide +kernel
theorem dX11_init_31 : decode cX11_init 31 = .ok (.iconst 2, 1) := by decide +kernel
theorem dX11_init_32 : decode cX11_init 32 = .ok (.newarray .boolean, 2) := by decide +kernel
theorem dX11_init_34 : decode cX11_init 34 = .ok (.putfield 23, 3) := by decide +kernel
theorem dX11_init_37 : decode cX11_init 37 = .ok (.aload_n 0, 1) := by decide +kernel
theorem dX11_init_38 : decode cX11_init 38 = .ok (.bipush 66, 2) := by decide +kernel
theorem dX11_init_40 : decode cX11_init 40 = .ok (.newarray .byte, 2) := by decide +kernel
theorem dX11_init_42 : decode cX11_init 42 = .ok (.dup, 1) := by decide +kernel
theorem dX11_init_43 : decode cX11_init 43 = .ok (.iconst 0, 1) := by decide +kernel
theorem dX11_init_44 : decode cX11_init 44 = .ok (.bipush 119, 2) := by decide +kernel
theorem dX11_init_46 : decode cX11_init 46 = .ok (.bastore, 1) := by decide +kernel
theorem dX11_init_47 : decode cX11_init 47 = .ok (.dup, 1) := by decide +kernel
theorem dX11_init_48 : decode cX11_init 48 = .ok (.iconst 1, 1) := by decide +kernel
theorem dX11_init_49 : decode cX11_init 49 = .ok (.bipush 97, 2) := by decide +kernel
theorem dX11_init_51 : decode cX11_init 51 = .ok (.bastore, 1) := by decide +kernel
theorem dX11_init_52 : decode cX11_init 52 = .ok (.dup, 1) := by decide +kernel
theorem dX11_init_53 : decode cX11_init 53 = .ok (.iconst 2, 1) := by decide +kernel
theorem dX11_init_54 : decode cX11_init 54 = .ok (.bipush 110, 2) := by decide +kernel
theorem dX11_init_56 : decode cX11_init 56 = .ok (.bastore, 1) := by decide +kernel
theorem dX11_init_57 : decode cX11_init 57 = .ok (.dup, 1) := by decide +kernel
theorem dX11_init_58 : decode cX11_init 58 = .ok (.iconst 3, 1) := by decide +kernel
theorem dX11_init_59 : decode cX11_init 59 = .ok (.bipush 116, 2) := by decide +kernel
theorem dX11_init_61 : decode cX11_init 61 = .ok (.bastore, 1) := by decide +kernel
theorem dX11_init_62 : decode cX11_init 62 = .ok (.dup, 1) := by decide +kernel
theorem dX11_init_63 : decode cX11_init 63 = .ok (.iconst 4, 1) := by decide +kernel
theorem dX11_init_64 : decode cX11_init 64 = .ok (.bipush 115, 2) := by decide +kernel
theorem dX11_init_66 : decode cX11_init 66 = .ok (.bastore, 1) := by decide +kernel
theorem dX11_init_67 : decode cX11_init 67 = .ok (.dup, 1) := by decide +kernel
theorem dX11_init_68 : decode cX11_init 68 = .ok (.iconst 5, 1) := by decide +kernel
theorem dX11_init_69 : decode cX11_init 69 = .ok (.bipush 32, 2) := by decide +kernel
theorem dX11_init_71 : decode cX11_init 71 = .ok (.bastore, 1) := by decide +kernel
theorem dX11_init_72 : decode cX11_init 72 = .ok (.dup, 1) := by decide +kernel
theorem dX11_init_73 : decode cX11_init 73 = .ok (.bipush 6, 2) := by decide +kernel
theorem dX11_init_75 : decode cX11_init 75 = .ok (.bipush 119, 2) := by decide +kernel
theorem dX11_init_77 : decode cX11_init 77 = .ok (.bastore, 1) := by decide +kernel
theorem dX11_init_78 : decode cX11_init 78 = .ok (.dup, 1) := by decide +kernel
theorem dX11_init_79 : decode cX11_init 79 = .ok (.bipush 7, 2) := by decide +kernel
theorem dX11_init_81 : decode cX11_init 81 = .ok (.bipush 97, 2) := by decide +kernel
theorem dX11_init_83 : decode cX11_init 83 = .ok (.bastore, 1) := by decide +kernel
theorem dX11_init_84 : decode cX11_init 84 = .ok (.dup, 1) := by decide +kernel
theorem dX11_init_85 : decode cX11_init 85 = .ok (.bipush 8, 2) := by decide +kernel
theorem dX11_init_87 : decode cX11_init 87 = .ok (.bipush 105, 2) := by decide +kernel
theorem dX11_init_89 : decode cX11_init 89 = .ok (.bastore, 1) := by decide +kernel
theorem dX11_init_90 : decode cX11_init 90 = .ok (.dup, 1) := by decide +kernel
theorem dX11_init_91 : decode cX11_init 91 = .ok (.bipush 9, 2) := by decide +kernel
theorem dX11_init_93 : decode cX11_init 93 = .ok (.bipush 116, 2) := by decide +kernel
theorem dX11_init_95 : decode cX11_init 95 = .ok (.bastore, 1) := by decide +kernel
theorem dX11_init_96 : decode cX11_init 96 = .ok (.dup, 1) := by decide +kernel
theorem dX11_init_97 : decode cX11_init 97 = .ok (.bipush 10, 2) := by decide +kernel
theorem dX11_init_99 : decode cX11_init 99 = .ok (.bipush 115, 2) := by decide +kernel
theorem dX11_init_101 : decode cX11_init 101 = .ok (.bastore, 1) := by decide +kernel
theorem dX11_init_102 : decode cX11_init 102 = .ok (.dup, 1) := by decide +kernel
theorem dX11_init_103 : decode cX11_init 103 = .ok (.bipush 11, 2) := by decide +kernel
theorem dX11_init_105 : decode cX11_init 105 = .ok (.bipush 32, 2) := by decide +kernel
theorem dX11_init_107 : decode cX11_init 107 = .ok (.bastore, 1) := by decide +kernel
theorem dX11_init_108 : decode cX11_init 108 = .ok (.dup, 1) := by decide +kernel
theorem dX11_init_109 : decode cX11_init 109 = .ok (.bipush 12, 2) := by decide +kernel
theorem dX11_init_111 : decode cX11_init 111 = .ok (.bipush 105, 2) := by decide +kernel
theorem dX11_init_113 : decode cX11_init 113 = .ok (.bastore, 1) := by decide +kernel
theorem dX11_init_114 : decode cX11_init 114 = .ok (.dup, 1) := by decide +kernel
theorem dX11_init_115 : decode cX11_init 115 = .ok (.bipush 13, 2) := by decide +kernel
theorem dX11_init_117 : decode cX11_init 117 = .ok (.bipush 102, 2) := by decide +kernel
theorem dX11_init_119 : decode cX11_init 119 = .ok (.bastore, 1) := by decide +kernel
theorem dX11_init_120 : decode cX11_init 120 = .ok (.dup, 1) := by decide +kernel
theorem dX11_init_121 : decode cX11_init 121 = .ok (.bipush 14, 2) := by decide +kernel
theorem dX11_init_123 : decode cX11_init 123 = .ok (.bipush 32, 2) := by decide +kernel
theorem dX11_init_125 : decode cX11_init 125 = .ok (.bastore, 1) := by decide +kernel
theorem dX11_init_126 : decode cX11_init 126 = .ok (.dup, 1) := by decide +kernel
theorem dX11_init_127 : decode cX11_init 127 = .ok (.bipush 15, 2) := by decide +kernel
theorem dX11_init_129 : decode cX11_init 129 = .ok (.bipush 111, 2) := by decide +kernel
theorem dX11_init_131 : decode cX11_init 131 = .ok (.bastore, 1) := by decide +kernel
theorem dX11_init_132 : decode cX11_init 132 = .ok (.dup, 1) := by decide +kernel
theorem dX11_init_133 : decode cX11_init 133 = .ok (.bipush 16, 2) := by decide +kernel
theorem dX11_init_135 : decode cX11_init 135 = .ok (.bipush 114, 2) := by decide +kernel
theorem dX11_init_137 : decode cX11_init 137 = .ok (.bastore, 1) := by decide +kernel
theorem dX11_init_138 : decode cX11_init 138 = .ok (.dup, 1) := by decide +kernel
theorem dX11_init_139 : decode cX11_init 139 = .ok (.bipush 17, 2) := by decide +kernel
theorem dX11_init_141 : decode cX11_init 141 = .ok (.bipush 32, 2) := by decide +kernel
theorem dX11_init_143 : decode cX11_init 143 = .ok (.bastore, 1) := by decide +kernel
theorem dX11_init_144 : decode cX11_init 144 = .ok (.dup, 1) := by decide +kernel
theorem dX11_init_145 : decode cX11_init 145 = .ok (.bipush 18, 2) := by decide +kernel
theorem dX11_init_147 : decode cX11_init 147 = .ok (.bipush 97, 2) := by decide +kernel
theorem dX11_init_149 : decode cX11_init 149 = .ok (.bastore, 1) := by decide +kernel
theorem dX11_init_150 : decode cX11_init 150 = .ok (.dup, 1) := by decide +kernel
theorem dX11_init_151 : decode cX11_init 151 = .ok (.bipush 19, 2) := by decide +kernel
theorem dX11_init_153 : decode cX11_init 153 = .ok (.bipush 110, 2) := by decide +kernel
theorem dX11_init_155 : decode cX11_init 155 = .ok (.bastore, 1) := by decide +kernel
theorem dX11_init_156 : decode cX11_init 156 = .ok (.dup, 1) := by decide +kernel
theorem dX11_init_157 : decode cX11_init 157 = .ok (.bipush 20, 2) := by decide +kernel
theorem dX11_init_159 : decode cX11_init 159 = .ok (.bipush 100, 2) := by decide +kernel
theorem dX11_init_161 : decode cX11_init 161 = .ok (.bastore, 1) := by decide +kernel
theorem dX11_init_162 : decode cX11_init 162 = .ok (.dup, 1) := by decide +kernel
theorem dX11_init_163 : decode cX11_init 163 = .ok (.bipush 21, 2) := by decide +kernel
theorem dX11_init_165 : decode cX11_init 165 = .ok (.bipush 32, 2) := by decide +kernel
theorem dX11_init_167 : decode cX11_init 167 = .ok (.bastore, 1) := by decide +kernel
theorem dX11_init_168 : decode cX11_init 168 = .ok (.dup, 1) := by decide +kernel
