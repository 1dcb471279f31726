/-! ===== decode rows ===== -/
theorem dX5_init_0 : decode cX5_init 0 = .ok (.aload_n 0, 1) := by decide +kernel
theorem dX5_init_1 : decode cX5_init 1 = .ok (.invokespecial 1, 3) := by decide +kernel
theorem dX5_init_4 : decode cX5_init 4 = .ok (.aload_n 0, 1) := by decide +kernel
theorem dX5_init_5 : decode cX5_init 5 = .ok (.new 7, 3) := by decide +kernel
theorem dX5_init_8 : decode cX5_init 8 = .ok (.dup, 1) := by decide +kernel
theorem dX5_init_9 : decode cX5_init 9 = .ok (.invokespecial 9, 3) := by decide +kernel
theorem dX5_init_12 : decode cX5_init 12 = .ok (.putfield 10, 3) := by decide +kernel
theorem dX5_init_15 : decode cX5_init 15 = .ok (.aload_n 0, 1) := by decide +kernel
theorem dX5_init_16 : decode cX5_init 16 = .ok (.new 7, 3) := by decide +kernel
theorem dX5_init_19 : decode cX5_init 19 = .ok (.dup, 1) := by decide +kernel
theorem dX5_init_20 : decode cX5_init 20 = .ok (.invokespecial 9, 3) := by decide +kernel
theorem dX5_init_23 : decode cX5_init 23 = .ok (.putfield 16, 3) := by decide +kernel
theorem dX5_init_26 : decode cX5_init 26 = .ok (.aload_n 0, 1) := by decide +kernel
theorem dX5_init_27 : decode cX5_init 27 = .ok (.bipush 10, 2) := by decide +kernel
theorem dX5_init_29 : decode cX5_init 29 = .ok (.newarray .int, 2) := by decide +kernel
theorem dX5_init_31 : decode cX5_init 31 = .ok (.putfield 19, 3) := by decide +kernel
theorem dX5_init_34 : decode cX5_init 34 = .ok (.aload_n 0, 1) := by decide +kernel
theorem dX5_init_35 : decode cX5_init 35 = .ok (.getfield 19, 3) := by decide +kernel
theorem dX5_init_38 : decode cX5_init 38 = .ok (.iconst (-1), 1) := by decide +kernel
theorem dX5_init_39 : decode cX5_init 39 = .ok (.invokestatic 23, 3) := by decide +kernel
theorem dX5_init_42 : decode cX5_init 42 = .ok (.aload_n 0, 1) := by decide +kernel
theorem dX5_init_43 : decode cX5_init 43 = .ok (.iconst 0, 1) := by decide +kernel
theorem dX5_init_44 : decode cX5_init 44 = .ok (.putfield 29, 3) := by decide +kernel
theorem dX5_init_47 : decode cX5_init 47 = .ok (.return_, 1) := by decide +kernel
theorem dX5_income_0 : decode cX5_income 0 = .ok (.aload_n 0, 1) := by decide +kernel
theorem dX5_income_1 : decode cX5_income 1 = .ok (.getfield 29, 3) := by decide +kernel
theorem dX5_income_4 : decode cX5_income 4 = .ok (.ireturn, 1) := by decide +kernel
theorem dX5_puppet_0 : decode cX5_puppet 0 = .ok (.iload_n 1, 1) := by decide +kernel
theorem dX5_puppet_1 : decode cX5_puppet 1 = .ok (.iconst 0, 1) := by decide +kernel
theorem dX5_puppet_2 : decode cX5_puppet 2 = .ok (.sipush 999, 3) := by decide +kernel
theorem dX5_puppet_5 : decode cX5_puppet 5 = .ok (.invokestatic 33, 3) := by decide +kernel
theorem dX5_puppet_8 : decode cX5_puppet 8 = .ok (.iload_n 2, 1) := by decide +kernel
theorem dX5_puppet_9 : decode cX5_puppet 9 = .ok (.iconst 0, 1) := by decide +kernel
theorem dX5_puppet_10 : decode cX5_puppet 10 = .ok (.sipush 1500, 3) := by decide +kernel
theorem dX5_puppet_13 : decode cX5_puppet 13 = .ok (.invokestatic 33, 3) := by decide +kernel
theorem dX5_puppet_16 : decode cX5_puppet 16 = .ok (.aload_n 0, 1) := by decide +kernel
theorem dX5_puppet_17 : decode cX5_puppet 17 = .ok (.getfield 10, 3) := by decide +kernel
theorem dX5_puppet_20 : decode cX5_puppet 20 = .ok (.invokevirtual 37, 3) := by decide +kernel
theorem dX5_puppet_23 : decode cX5_puppet 23 = .ok (.bipush 8, 2) := by decide +kernel
theorem dX5_puppet_25 : decode cX5_puppet 25 = .ok (.if_icmp .lt 13, 3) := by decide +kernel
theorem dX5_puppet_28 : decode cX5_puppet 28 = .ok (.new 41, 3) := by decide +kernel
theorem dX5_puppet_31 : decode cX5_puppet 31 = .ok (.dup, 1) := by decide +kernel
theorem dX5_puppet_32 : decode cX5_puppet 32 = .ok (.ldc 43, 2) := by decide +kernel
theorem dX5_puppet_34 : decode cX5_puppet 34 = .ok (.invokespecial 45, 3) := by decide +kernel
theorem dX5_puppet_37 : decode cX5_puppet 37 = .ok (.athrow, 1) := by decide +kernel
theorem dX5_puppet_38 : decode cX5_puppet 38 = .ok (.aload_n 0, 1) := by decide +kernel
theorem dX5_puppet_39 : decode cX5_puppet 39 = .ok (.getfield 10, 3) := by decide +kernel
theorem dX5_puppet_42 : decode cX5_puppet 42 = .ok (.new 48, 3) := by decide +kernel
theorem dX5_puppet_45 : decode cX5_puppet 45 = .ok (.dup, 1) := by decide +kernel
theorem dX5_puppet_46 : decode cX5_puppet 46 = .ok (.iload_n 1, 1) := by decide +kernel
theorem dX5_puppet_47 : decode cX5_puppet 47 = .ok (.iload_n 2, 1) := by decide +kernel
theorem dX5_puppet_48 : decode cX5_puppet 48 = .ok (.invokespecial 50, 3) := by decide +kernel
theorem dX5_puppet_51 : decode cX5_puppet 51 = .ok (.invokevirtual 53, 3) := by decide +kernel
theorem dX5_puppet_54 : decode cX5_puppet 54 = .ok (.pop, 1) := by decide +kernel
theorem dX5_puppet_55 : decode cX5_puppet 55 = .ok (.aload_n 0, 1) := by decide +kernel
theorem dX5_puppet_56 : decode cX5_puppet 56 = .ok (.getfield 10, 3) := by decide +kernel
theorem dX5_puppet_59 : decode cX5_puppet 59 = .ok (.invokevirtual 37, 3) := by decide +kernel
theorem dX5_puppet_62 : decode cX5_puppet 62 = .ok (.iconst 1, 1) := by decide +kernel
theorem dX5_puppet_63 : decode cX5_puppet 63 = .ok (.isub, 1) := by decide +kernel
theorem dX5_puppet_64 : decode cX5_puppet 64 = .ok (.ireturn, 1) := by decide +kernel
theorem dX5_needWithin_0 : decode cX5_needWithin 0 = .ok (.iload_n 0, 1) := by decide +kernel
theorem dX5_needWithin_1 : decode cX5_needWithin 1 = .ok (.iload_n 1, 1) := by decide +kernel
theorem dX5_needWithin_2 : decode cX5_needWithin 2 = .ok (.if_icmp .lt 8, 3) := by decide +kernel
theorem dX5_needWithin_5 : decode cX5_needWithin 5 = .ok (.iload_n 0, 1) := by decide +kernel
theorem dX5_needWithin_6 : decode cX5_needWithin 6 = .ok (.iload_n 2, 1) := by decide +kernel
theorem dX5_needWithin_7 : decode cX5_needWithin 7 = .ok (.if_icmp .le 13, 3) := by decide +kernel
theorem dX5_needWithin_10 : decode cX5_needWithin 10 = .ok (.new 210, 3) := by decide +kernel
theorem dX5_needWithin_13 : decode cX5_needWithin 13 = .ok (.dup, 1) := by decide +kernel
theorem dX5_needWithin_14 : decode cX5_needWithin 14 = .ok (.ldc 212, 2) := by decide +kernel
theorem dX5_needWithin_16 : decode cX5_needWithin 16 = .ok (.invokespecial 214, 3) := by decide +kernel
theorem dX5_needWithin_19 : decode cX5_needWithin 19 = .ok (.athrow, 1) := by decide +kernel
theorem dX5_needWithin_20 : decode cX5_needWithin 20 = .ok (.return_, 1) := by decide +kernel
theorem dX2_init_0 : decode cX2_init 0 = .ok (.aload_n 0, 1) := by decide +kernel
theorem dX2_init_1 : decode cX2_init 1 = .ok (.invokespecial 3, 3) := by decide +kernel
theorem dX2_init_4 : decode cX2_init 4 = .ok (.aload_n 0, 1) := by decide +kernel
theorem dX2_init_5 : decode cX2_init 5 = .ok (.iload_n 1, 1) := by decide +kernel
theorem dX2_init_6 : decode cX2_init 6 = .ok (.putfield 9, 3) := by decide +kernel
theorem dX2_init_9 : decode cX2_init 9 = .ok (.aload_n 0, 1) := by decide +kernel
theorem dX2_init_10 : decode cX2_init 10 = .ok (.iload_n 2, 1) := by decide +kernel
theorem dX2_init_11 : decode cX2_init 11 = .ok (.putfield 15, 3) := by decide +kernel
theorem dX2_init_14 : decode cX2_init 14 = .ok (.aload_n 0, 1) := by decide +kernel
theorem dX2_init_15 : decode cX2_init 15 = .ok (.new 18, 3) := by decide +kernel
theorem dX2_init_18 : decode cX2_init 18 = .ok (.dup, 1) := by decide +kernel
theorem dX2_init_19 : decode cX2_init 19 = .ok (.invokespecial 20, 3) := by decide +kernel
theorem dX2_init_22 : decode cX2_init 22 = .ok (.putfield 21, 3) := by decide +kernel
theorem dX2_init_25 : decode cX2_init 25 = .ok (.aload_n 0, 1) := by decide +kernel
theorem dX2_init_26 : decode cX2_init 26 = .ok (.iconst (-1), 1) := by decide +kernel
theorem dX2_init_27 : decode cX2_init 27 = .ok (.putfield 25, 3) := by decide +kernel
theorem dX2_init_30 : decode cX2_init 30 = .ok (.aload_n 0, 1) := by decide +kernel
theorem dX2_init_31 : decode cX2_init 31 = .ok (.iconst 0, 1) := by decide +kernel
theorem dX2_init_32 : decode cX2_init 32 = .ok (.putfield 28, 3) := by decide +kernel
theorem dX2_init_35 : decode cX2_init 35 = .ok (.aload_n 0, 1) := by decide +kernel
theorem dX2_init_36 : decode cX2_init 36 = .ok (.new 18, 3) := by decide +kernel
theorem dX2_init_39 : decode cX2_init 39 = .ok (.dup, 1) := by decide +kernel
theorem dX2_init_40 : decode cX2_init 40 = .ok (.invokespecial 20, 3) := by decide +kernel
theorem dX2_init_43 : decode cX2_init 43 = .ok (.putfield 31, 3) := by decide +kernel
theorem dX2_init_46 : decode cX2_init 46 = .ok (.aload_n 0, 1) := by decide +kernel
theorem dX2_init_47 : decode cX2_init 47 = .ok (.new 34, 3) := by decide +kernel
theorem dX2_init_50 : decode cX2_init 50 = .ok (.dup, 1) := by decide +kernel
theorem dX2_init_51 : decode cX2_init 51 = .ok (.invokespecial 36, 3) := by decide +kernel
theorem dX2_init_54 : decode cX2_init 54 = .ok (.putfield 37, 3) := by decide +kernel
theorem dX2_init_57 : decode cX2_init 57 = .ok (.aload_n 0, 1) := by decide +kernel
theorem dX2_init_58 : decode cX2_init 58 = .ok (.iconst 0, 1) := by decide +kernel
theorem dX2_init_59 : decode cX2_init 59 = .ok (.putfield 41, 3) := by decide +kernel
theorem dX2_init_62 : decode cX2_init 62 = .ok (.return_, 1) := by decide +kernel
theorem dX1_init_0 : decode cX1_init 0 = .ok (.aload_n 0, 1) := by decide +kernel
theorem dX1_init_1 : decode cX1_init 1 = .ok (.invokespecial 3, 3) := by decide +kernel
theorem dX1_init_4 : decode cX1_init 4 = .ok (.return_, 1) := by decide +kernel
theorem dX5_setLength_0 : decode cX5_setLength 0 = .ok (.aload_n 0, 1) := by decide +kernel
theorem dX5_setLength_1 : decode cX5_setLength 1 = .ok (.iload_n 1, 1) := by decide +kernel
theorem dX5_setLength_2 : decode cX5_setLength 2 = .ok (.invokevirtual 57, 3) := by decide +kernel
theorem dX5_setLength_5 : decode cX5_setLength 5 = .ok (.astore_n 3, 1) := by decide +kernel
theorem dX5_setLength_6 : decode cX5_setLength 6 = .ok (.iload_n 2, 1) := by decide +kernel
theorem dX5_setLength_7 : decode cX5_setLength 7 = .ok (.iconst 0, 1) := by decide +kernel
theorem dX5_setLength_8 : decode cX5_setLength 8 = .ok (.sipush 1500, 3) := by decide +kernel
theorem dX5_setLength_11 : decode cX5_setLength 11 = .ok (.invokestatic 33, 3) := by decide +kernel
theorem dX5_setLength_14 : decode cX5_setLength 14 = .ok (.aload_n 3, 1) := by decide +kernel
theorem dX5_setLength_15 : decode cX5_setLength 15 = .ok (.getfield 61, 3) := by decide +kernel
theorem dX5_setLength_18 : decode cX5_setLength 18 = .ok (.istore 4, 2) := by decide +kernel
theorem dX5_setLength_20 : decode cX5_setLength 20 = .ok (.aload_n 3, 1) := by decide +kernel
theorem dX5_setLength_21 : decode cX5_setLength 21 = .ok (.iload_n 2, 1) := by decide +kernel
theorem dX5_setLength_22 : decode cX5_setLength 22 = .ok (.putfield 61, 3) := by decide +kernel
theorem dX5_setLength_25 : decode cX5_setLength 25 = .ok (.iload 4, 2) := by decide +kernel
theorem dX5_setLength_27 : decode cX5_setLength 27 = .ok (.ireturn, 1) := by decide +kernel
theorem dX5_puppetNumbered_0 : decode cX5_puppetNumbered 0 = .ok (.iload_n 1, 1) := by decide +kernel
theorem dX5_puppetNumbered_1 : decode cX5_puppetNumbered 1 = .ok (.ifCond .lt 14, 3) := by decide +kernel
theorem dX5_puppetNumbered_4 : decode cX5_puppetNumbered 4 = .ok (.iload_n 1, 1) := by decide +kernel
theorem dX5_puppetNumbered_5 : decode cX5_puppetNumbered 5 = .ok (.aload_n 0, 1) := by decide +kernel
theorem dX5_puppetNumbered_6 : decode cX5_puppetNumbered 6 = .ok (.getfield 10, 3) := by decide +kernel
theorem dX5_puppetNumbered_9 : decode cX5_puppetNumbered 9 = .ok (.invokevirtual 37, 3) := by decide +kernel
theorem dX5_puppetNumbered_12 : decode cX5_puppetNumbered 12 = .ok (.if_icmp .lt 13, 3) := by decide +kernel
theorem dX5_puppetNumbered_15 : decode cX5_puppetNumbered 15 = .ok (.new 91, 3) := by decide +kernel
theorem dX5_puppetNumbered_18 : decode cX5_puppetNumbered 18 = .ok (.dup, 1) := by decide +kernel
theorem dX5_puppetNumbered_19 : decode cX5_puppetNumbered 19 = .ok (.ldc 215, 2) := by decide +kernel
theorem dX5_puppetNumbered_21 : decode cX5_puppetNumbered 21 = .ok (.invokespecial 95, 3) := by decide +kernel
theorem dX5_puppetNumbered_24 : decode cX5_puppetNumbered 24 = .ok (.athrow, 1) := by decide +kernel
theorem dX5_puppetNumbered_25 : decode cX5_puppetNumbered 25 = .ok (.aload_n 0, 1) := by decide +kernel
theorem dX5_puppetNumbered_26 : decode cX5_puppetNumbered 26 = .ok (.getfield 10, 3) := by decide +kernel
theorem dX5_puppetNumbered_29 : decode cX5_puppetNumbered 29 = .ok (.iload_n 1, 1) := by decide +kernel
theorem dX5_puppetNumbered_30 : decode cX5_puppetNumbered 30 = .ok (.invokevirtual 157, 3) := by decide +kernel
theorem dX5_puppetNumbered_33 : decode cX5_puppetNumbered 33 = .ok (.checkcast 48, 3) := by decide +kernel
theorem dX5_puppetNumbered_36 : decode cX5_puppetNumbered 36 = .ok (.areturn, 1) := by decide +kernel
theorem dX5_key_0 : decode cX5_key 0 = .ok (.aload_n 0, 1) := by decide +kernel
theorem dX5_key_1 : decode cX5_key 1 = .ok (.iload_n 1, 1) := by decide +kernel
theorem dX5_key_2 : decode cX5_key 2 = .ok (.invokevirtual 57, 3) := by decide +kernel
theorem dX5_key_5 : decode cX5_key 5 = .ok (.astore 6, 2) := by decide +kernel
theorem dX5_key_7 : decode cX5_key 7 = .ok (.iload_n 2, 1) := by decide +kernel
theorem dX5_key_8 : decode cX5_key 8 = .ok (.iconst 0, 1) := by decide +kernel
theorem dX5_key_9 : decode cX5_key 9 = .ok (.sipush 999, 3) := by decide +kernel
theorem dX5_key_12 : decode cX5_key 12 = .ok (.invokestatic 33, 3) := by decide +kernel
theorem dX5_key_15 : decode cX5_key 15 = .ok (.iload_n 3, 1) := by decide +kernel
theorem dX5_key_16 : decode cX5_key 16 = .ok (.iconst 0, 1) := by decide +kernel
theorem dX5_key_17 : decode cX5_key 17 = .ok (.sipush 999, 3) := by decide +kernel
theorem dX5_key_20 : decode cX5_key 20 = .ok (.invokestatic 33, 3) := by decide +kernel
theorem dX5_key_23 : decode cX5_key 23 = .ok (.iload 4, 2) := by decide +kernel
theorem dX5_key_25 : decode cX5_key 25 = .ok (.iconst 0, 1) := by decide +kernel
theorem dX5_key_26 : decode cX5_key 26 = .ok (.sipush 999, 3) := by decide +kernel
theorem dX5_key_29 : decode cX5_key 29 = .ok (.invokestatic 33, 3) := by decide +kernel
theorem dX5_key_32 : decode cX5_key 32 = .ok (.iload 5, 2) := by decide +kernel
theorem dX5_key_34 : decode cX5_key 34 = .ok (.iconst 0, 1) := by decide +kernel
theorem dX5_key_35 : decode cX5_key 35 = .ok (.iconst 3, 1) := by decide +kernel
theorem dX5_key_36 : decode cX5_key 36 = .ok (.invokestatic 33, 3) := by decide +kernel
theorem dX5_key_39 : decode cX5_key 39 = .ok (.aload 6, 2) := by decide +kernel
theorem dX5_key_41 : decode cX5_key 41 = .ok (.iload_n 2, 1) := by decide +kernel
theorem dX5_key_42 : decode cX5_key 42 = .ok (.invokevirtual 64, 3) := by decide +kernel
theorem dX5_key_45 : decode cX5_key 45 = .ok (.ifCond .ne 26, 3) := by decide +kernel
theorem dX5_key_48 : decode cX5_key 48 = .ok (.aload 6, 2) := by decide +kernel
theorem dX5_key_50 : decode cX5_key 50 = .ok (.getfield 68, 3) := by decide +kernel
theorem dX5_key_53 : decode cX5_key 53 = .ok (.invokevirtual 37, 3) := by decide +kernel
theorem dX5_key_56 : decode cX5_key 56 = .ok (.bipush 12, 2) := by decide +kernel
theorem dX5_key_58 : decode cX5_key 58 = .ok (.if_icmp .lt 13, 3) := by decide +kernel
theorem dX5_key_61 : decode cX5_key 61 = .ok (.new 41, 3) := by decide +kernel
theorem dX5_key_64 : decode cX5_key 64 = .ok (.dup, 1) := by decide +kernel
theorem dX5_key_65 : decode cX5_key 65 = .ok (.ldc 71, 2) := by decide +kernel
theorem dX5_key_67 : decode cX5_key 67 = .ok (.invokespecial 45, 3) := by decide +kernel
theorem dX5_key_70 : decode cX5_key 70 = .ok (.athrow, 1) := by decide +kernel
theorem dX5_key_71 : decode cX5_key 71 = .ok (.aload 6, 2) := by decide +kernel
theorem dX5_key_73 : decode cX5_key 73 = .ok (.new 73, 3) := by decide +kernel
theorem dX5_key_76 : decode cX5_key 76 = .ok (.dup, 1) := by decide +kernel
theorem dX5_key_77 : decode cX5_key 77 = .ok (.iload_n 2, 1) := by decide +kernel
theorem dX5_key_78 : decode cX5_key 78 = .ok (.iload_n 3, 1) := by decide +kernel
theorem dX5_key_79 : decode cX5_key 79 = .ok (.iload 4, 2) := by decide +kernel
theorem dX5_key_81 : decode cX5_key 81 = .ok (.iload 5, 2) := by decide +kernel
theorem dX5_key_83 : decode cX5_key 83 = .ok (.invokespecial 75, 3) := by decide +kernel
theorem dX5_key_86 : decode cX5_key 86 = .ok (.invokevirtual 78, 3) := by decide +kernel
theorem dX5_key_89 : decode cX5_key 89 = .ok (.aload 6, 2) := by decide +kernel
theorem dX5_key_91 : decode cX5_key 91 = .ok (.getfield 68, 3) := by decide +kernel
theorem dX5_key_94 : decode cX5_key 94 = .ok (.invokevirtual 37, 3) := by decide +kernel
theorem dX5_key_97 : decode cX5_key 97 = .ok (.ireturn, 1) := by decide +kernel
theorem dX2_hasKeyAt_0 : decode cX2_hasKeyAt 0 = .ok (.aload_n 0, 1) := by decide +kernel
theorem dX2_hasKeyAt_1 : decode cX2_hasKeyAt 1 = .ok (.iload_n 1, 1) := by decide +kernel
theorem dX2_hasKeyAt_2 : decode cX2_hasKeyAt 2 = .ok (.invokevirtual 58, 3) := by decide +kernel
theorem dX2_hasKeyAt_5 : decode cX2_hasKeyAt 5 = .ok (.istore_n 2, 1) := by decide +kernel
theorem dX2_hasKeyAt_6 : decode cX2_hasKeyAt 6 = .ok (.iload_n 2, 1) := by decide +kernel
theorem dX2_hasKeyAt_7 : decode cX2_hasKeyAt 7 = .ok (.aload_n 0, 1) := by decide +kernel
theorem dX2_hasKeyAt_8 : decode cX2_hasKeyAt 8 = .ok (.getfield 21, 3) := by decide +kernel
theorem dX2_hasKeyAt_11 : decode cX2_hasKeyAt 11 = .ok (.invokevirtual 45, 3) := by decide +kernel
theorem dX2_hasKeyAt_14 : decode cX2_hasKeyAt 14 = .ok (.if_icmp .ge 25, 3) := by decide +kernel
theorem dX2_hasKeyAt_17 : decode cX2_hasKeyAt 17 = .ok (.aload_n 0, 1) := by decide +kernel
theorem dX2_hasKeyAt_18 : decode cX2_hasKeyAt 18 = .ok (.getfield 21, 3) := by decide +kernel
theorem dX2_hasKeyAt_21 : decode cX2_hasKeyAt 21 = .ok (.iload_n 2, 1) := by decide +kernel
theorem dX2_hasKeyAt_22 : decode cX2_hasKeyAt 22 = .ok (.invokevirtual 49, 3) := by decide +kernel
theorem dX2_hasKeyAt_25 : decode cX2_hasKeyAt 25 = .ok (.checkcast 53, 3) := by decide +kernel
theorem dX2_hasKeyAt_28 : decode cX2_hasKeyAt 28 = .ok (.getfield 55, 3) := by decide +kernel
theorem dX2_hasKeyAt_31 : decode cX2_hasKeyAt 31 = .ok (.iload_n 1, 1) := by decide +kernel
theorem dX2_hasKeyAt_32 : decode cX2_hasKeyAt 32 = .ok (.if_icmp .ne 7, 3) := by decide +kernel
theorem dX2_hasKeyAt_35 : decode cX2_hasKeyAt 35 = .ok (.iconst 1, 1) := by decide +kernel
theorem dX2_hasKeyAt_36 : decode cX2_hasKeyAt 36 = .ok (.goto 4, 3) := by decide +kernel
theorem dX2_hasKeyAt_39 : decode cX2_hasKeyAt 39 = .ok (.iconst 0, 1) := by decide +kernel
theorem dX2_hasKeyAt_40 : decode cX2_hasKeyAt 40 = .ok (.ireturn, 1) := by decide +kernel
theorem dX2_keysAhead_0 : decode cX2_keysAhead 0 = .ok (.iconst 0, 1) := by decide +kernel
theorem dX2_keysAhead_1 : decode cX2_keysAhead 1 = .ok (.istore_n 2, 1) := by decide +kernel
theorem dX2_keysAhead_2 : decode cX2_keysAhead 2 = .ok (.iload_n 2, 1) := by decide +kernel
theorem dX2_keysAhead_3 : decode cX2_keysAhead 3 = .ok (.aload_n 0, 1) := by decide +kernel
theorem dX2_keysAhead_4 : decode cX2_keysAhead 4 = .ok (.getfield 21, 3) := by decide +kernel
theorem dX2_keysAhead_7 : decode cX2_keysAhead 7 = .ok (.invokevirtual 45, 3) := by decide +kernel
theorem dX2_keysAhead_10 : decode cX2_keysAhead 10 = .ok (.if_icmp .ge 27, 3) := by decide +kernel
theorem dX2_keysAhead_13 : decode cX2_keysAhead 13 = .ok (.aload_n 0, 1) := by decide +kernel
theorem dX2_keysAhead_14 : decode cX2_keysAhead 14 = .ok (.getfield 21, 3) := by decide +kernel
theorem dX2_keysAhead_17 : decode cX2_keysAhead 17 = .ok (.iload_n 2, 1) := by decide +kernel
theorem dX2_keysAhead_18 : decode cX2_keysAhead 18 = .ok (.invokevirtual 49, 3) := by decide +kernel
theorem dX2_keysAhead_21 : decode cX2_keysAhead 21 = .ok (.checkcast 53, 3) := by decide +kernel
theorem dX2_keysAhead_24 : decode cX2_keysAhead 24 = .ok (.getfield 55, 3) := by decide +kernel
theorem dX2_keysAhead_27 : decode cX2_keysAhead 27 = .ok (.iload_n 1, 1) := by decide +kernel
theorem dX2_keysAhead_28 : decode cX2_keysAhead 28 = .ok (.if_icmp .ge 9, 3) := by decide +kernel
theorem dX2_keysAhead_31 : decode cX2_keysAhead 31 = .ok (.iinc 2 1, 3) := by decide +kernel
theorem dX2_keysAhead_34 : decode cX2_keysAhead 34 = .ok (.goto (-32), 3) := by decide +kernel
theorem dX2_keysAhead_37 : decode cX2_keysAhead 37 = .ok (.iload_n 2, 1) := by decide +kernel
theorem dX2_keysAhead_38 : decode cX2_keysAhead 38 = .ok (.ireturn, 1) := by decide +kernel
theorem dX0_init_0 : decode cX0_init 0 = .ok (.aload_n 0, 1) := by decide +kernel
theorem dX0_init_1 : decode cX0_init 1 = .ok (.invokespecial 1, 3) := by decide +kernel
theorem dX0_init_4 : decode cX0_init 4 = .ok (.aload_n 0, 1) := by decide +kernel
theorem dX0_init_5 : decode cX0_init 5 = .ok (.iload_n 1, 1) := by decide +kernel
theorem dX0_init_6 : decode cX0_init 6 = .ok (.putfield 7, 3) := by decide +kernel
theorem dX0_init_9 : decode cX0_init 9 = .ok (.aload_n 0, 1) := by decide +kernel
theorem dX0_init_10 : decode cX0_init 10 = .ok (.iload_n 2, 1) := by decide +kernel
theorem dX0_init_11 : decode cX0_init 11 = .ok (.putfield 13, 3) := by decide +kernel
theorem dX0_init_14 : decode cX0_init 14 = .ok (.aload_n 0, 1) := by decide +kernel
theorem dX0_init_15 : decode cX0_init 15 = .ok (.iload_n 3, 1) := by decide +kernel
theorem dX0_init_16 : decode cX0_init 16 = .ok (.putfield 16, 3) := by decide +kernel
theorem dX0_init_19 : decode cX0_init 19 = .ok (.aload_n 0, 1) := by decide +kernel
theorem dX0_init_20 : decode cX0_init 20 = .ok (.iload 4, 2) := by decide +kernel
theorem dX0_init_22 : decode cX0_init 22 = .ok (.putfield 19, 3) := by decide +kernel
theorem dX0_init_25 : decode cX0_init 25 = .ok (.return_, 1) := by decide +kernel
theorem dX2_putKey_0 : decode cX2_putKey 0 = .ok (.aload_n 0, 1) := by decide +kernel
theorem dX2_putKey_1 : decode cX2_putKey 1 = .ok (.aload_n 1, 1) := by decide +kernel
theorem dX2_putKey_2 : decode cX2_putKey 2 = .ok (.getfield 55, 3) := by decide +kernel
theorem dX2_putKey_5 : decode cX2_putKey 5 = .ok (.invokevirtual 58, 3) := by decide +kernel
theorem dX2_putKey_8 : decode cX2_putKey 8 = .ok (.istore_n 2, 1) := by decide +kernel
theorem dX2_putKey_9 : decode cX2_putKey 9 = .ok (.iload_n 2, 1) := by decide +kernel
theorem dX2_putKey_10 : decode cX2_putKey 10 = .ok (.aload_n 0, 1) := by decide +kernel
theorem dX2_putKey_11 : decode cX2_putKey 11 = .ok (.getfield 21, 3) := by decide +kernel
theorem dX2_putKey_14 : decode cX2_putKey 14 = .ok (.invokevirtual 45, 3) := by decide +kernel
theorem dX2_putKey_17 : decode cX2_putKey 17 = .ok (.if_icmp .ge 37, 3) := by decide +kernel
theorem dX2_putKey_20 : decode cX2_putKey 20 = .ok (.aload_n 0, 1) := by decide +kernel
theorem dX2_putKey_21 : decode cX2_putKey 21 = .ok (.getfield 21, 3) := by decide +kernel
theorem dX2_putKey_24 : decode cX2_putKey 24 = .ok (.iload_n 2, 1) := by decide +kernel
theorem dX2_putKey_25 : decode cX2_putKey 25 = .ok (.invokevirtual 49, 3) := by decide +kernel
theorem dX2_putKey_28 : decode cX2_putKey 28 = .ok (.checkcast 53, 3) := by decide +kernel
theorem dX2_putKey_31 : decode cX2_putKey 31 = .ok (.getfield 55, 3) := by decide +kernel
theorem dX2_putKey_34 : decode cX2_putKey 34 = .ok (.aload_n 1, 1) := by decide +kernel
theorem dX2_putKey_35 : decode cX2_putKey 35 = .ok (.getfield 55, 3) := by decide +kernel
theorem dX2_putKey_38 : decode cX2_putKey 38 = .ok (.if_icmp .ne 16, 3) := by decide +kernel
theorem dX2_putKey_41 : decode cX2_putKey 41 = .ok (.aload_n 0, 1) := by decide +kernel
theorem dX2_putKey_42 : decode cX2_putKey 42 = .ok (.getfield 21, 3) := by decide +kernel
theorem dX2_putKey_45 : decode cX2_putKey 45 = .ok (.iload_n 2, 1) := by decide +kernel
theorem dX2_putKey_46 : decode cX2_putKey 46 = .ok (.aload_n 1, 1) := by decide +kernel
theorem dX2_putKey_47 : decode cX2_putKey 47 = .ok (.invokevirtual 62, 3) := by decide +kernel
theorem dX2_putKey_50 : decode cX2_putKey 50 = .ok (.pop, 1) := by decide +kernel
theorem dX2_putKey_51 : decode cX2_putKey 51 = .ok (.goto 12, 3) := by decide +kernel
theorem dX2_putKey_54 : decode cX2_putKey 54 = .ok (.aload_n 0, 1) := by decide +kernel
theorem dX2_putKey_55 : decode cX2_putKey 55 = .ok (.getfield 21, 3) := by decide +kernel
theorem dX2_putKey_58 : decode cX2_putKey 58 = .ok (.iload_n 2, 1) := by decide +kernel
theorem dX2_putKey_59 : decode cX2_putKey 59 = .ok (.aload_n 1, 1) := by decide +kernel
theorem dX2_putKey_60 : decode cX2_putKey 60 = .ok (.invokevirtual 66, 3) := by decide +kernel
theorem dX2_putKey_63 : decode cX2_putKey 63 = .ok (.return_, 1) := by decide +kernel
theorem dX5_cutKey_0 : decode cX5_cutKey 0 = .ok (.aload_n 0, 1) := by decide +kernel
theorem dX5_cutKey_1 : decode cX5_cutKey 1 = .ok (.iload_n 1, 1) := by decide +kernel
theorem dX5_cutKey_2 : decode cX5_cutKey 2 = .ok (.invokevirtual 57, 3) := by decide +kernel
theorem dX5_cutKey_5 : decode cX5_cutKey 5 = .ok (.astore_n 3, 1) := by decide +kernel
theorem dX5_cutKey_6 : decode cX5_cutKey 6 = .ok (.aload_n 3, 1) := by decide +kernel
theorem dX5_cutKey_7 : decode cX5_cutKey 7 = .ok (.iload_n 2, 1) := by decide +kernel
theorem dX5_cutKey_8 : decode cX5_cutKey 8 = .ok (.invokevirtual 64, 3) := by decide +kernel
theorem dX5_cutKey_11 : decode cX5_cutKey 11 = .ok (.ifCond .ne 13, 3) := by decide +kernel
theorem dX5_cutKey_14 : decode cX5_cutKey 14 = .ok (.new 82, 3) := by decide +kernel
theorem dX5_cutKey_17 : decode cX5_cutKey 17 = .ok (.dup, 1) := by decide +kernel
theorem dX5_cutKey_18 : decode cX5_cutKey 18 = .ok (.ldc 84, 2) := by decide +kernel
theorem dX5_cutKey_20 : decode cX5_cutKey 20 = .ok (.invokespecial 86, 3) := by decide +kernel
theorem dX5_cutKey_23 : decode cX5_cutKey 23 = .ok (.athrow, 1) := by decide +kernel
theorem dX5_cutKey_24 : decode cX5_cutKey 24 = .ok (.aload_n 3, 1) := by decide +kernel
theorem dX5_cutKey_25 : decode cX5_cutKey 25 = .ok (.iload_n 2, 1) := by decide +kernel
theorem dX5_cutKey_26 : decode cX5_cutKey 26 = .ok (.invokevirtual 87, 3) := by decide +kernel
theorem dX5_cutKey_29 : decode cX5_cutKey 29 = .ok (.aload_n 3, 1) := by decide +kernel
theorem dX5_cutKey_30 : decode cX5_cutKey 30 = .ok (.getfield 68, 3) := by decide +kernel
theorem dX5_cutKey_33 : decode cX5_cutKey 33 = .ok (.invokevirtual 37, 3) := by decide +kernel
theorem dX5_cutKey_36 : decode cX5_cutKey 36 = .ok (.ireturn, 1) := by decide +kernel
theorem dX2_removeKeyAt_0 : decode cX2_removeKeyAt 0 = .ok (.aload_n 0, 1) := by decide +kernel
theorem dX2_removeKeyAt_1 : decode cX2_removeKeyAt 1 = .ok (.iload_n 1, 1) := by decide +kernel
theorem dX2_removeKeyAt_2 : decode cX2_removeKeyAt 2 = .ok (.invokevirtual 58, 3) := by decide +kernel
theorem dX2_removeKeyAt_5 : decode cX2_removeKeyAt 5 = .ok (.istore_n 2, 1) := by decide +kernel
theorem dX2_removeKeyAt_6 : decode cX2_removeKeyAt 6 = .ok (.iload_n 2, 1) := by decide +kernel
theorem dX2_removeKeyAt_7 : decode cX2_removeKeyAt 7 = .ok (.aload_n 0, 1) := by decide +kernel
theorem dX2_removeKeyAt_8 : decode cX2_removeKeyAt 8 = .ok (.getfield 21, 3) := by decide +kernel
theorem dX2_removeKeyAt_11 : decode cX2_removeKeyAt 11 = .ok (.invokevirtual 45, 3) := by decide +kernel
theorem dX2_removeKeyAt_14 : decode cX2_removeKeyAt 14 = .ok (.if_icmp .ge 30, 3) := by decide +kernel
theorem dX2_removeKeyAt_17 : decode cX2_removeKeyAt 17 = .ok (.aload_n 0, 1) := by decide +kernel
theorem dX2_removeKeyAt_18 : decode cX2_removeKeyAt 18 = .ok (.getfield 21, 3) := by decide +kernel
theorem dX2_removeKeyAt_21 : decode cX2_removeKeyAt 21 = .ok (.iload_n 2, 1) := by decide +kernel
theorem dX2_removeKeyAt_22 : decode cX2_removeKeyAt 22 = .ok (.invokevirtual 49, 3) := by decide +kernel
theorem dX2_removeKeyAt_25 : decode cX2_removeKeyAt 25 = .ok (.checkcast 53, 3) := by decide +kernel
theorem dX2_removeKeyAt_28 : decode cX2_removeKeyAt 28 = .ok (.getfield 55, 3) := by decide +kernel
theorem dX2_removeKeyAt_31 : decode cX2_removeKeyAt 31 = .ok (.iload_n 1, 1) := by decide +kernel
theorem dX2_removeKeyAt_32 : decode cX2_removeKeyAt 32 = .ok (.if_icmp .ne 12, 3) := by decide +kernel
theorem dX2_removeKeyAt_35 : decode cX2_removeKeyAt 35 = .ok (.aload_n 0, 1) := by decide +kernel
theorem dX2_removeKeyAt_36 : decode cX2_removeKeyAt 36 = .ok (.getfield 21, 3) := by decide +kernel
theorem dX2_removeKeyAt_39 : decode cX2_removeKeyAt 39 = .ok (.iload_n 2, 1) := by decide +kernel
theorem dX2_removeKeyAt_40 : decode cX2_removeKeyAt 40 = .ok (.invokevirtual 70, 3) := by decide +kernel
theorem dX2_removeKeyAt_43 : decode cX2_removeKeyAt 43 = .ok (.pop, 1) := by decide +kernel
theorem dX2_removeKeyAt_44 : decode cX2_removeKeyAt 44 = .ok (.return_, 1) := by decide +kernel
theorem dX5_hear_0 : decode cX5_hear 0 = .ok (.iload_n 1, 1) := by decide +kernel
theorem dX5_hear_1 : decode cX5_hear 1 = .ok (.ifCond .lt 12, 3) := by decide +kernel
theorem dX5_hear_4 : decode cX5_hear 4 = .ok (.iload_n 1, 1) := by decide +kernel
theorem dX5_hear_5 : decode cX5_hear 5 = .ok (.aload_n 0, 1) := by decide +kernel
theorem dX5_hear_6 : decode cX5_hear 6 = .ok (.getfield 19, 3) := by decide +kernel
theorem dX5_hear_9 : decode cX5_hear 9 = .ok (.arraylength, 1) := by decide +kernel
theorem dX5_hear_10 : decode cX5_hear 10 = .ok (.if_icmp .lt 13, 3) := by decide +kernel
theorem dX5_hear_13 : decode cX5_hear 13 = .ok (.new 91, 3) := by decide +kernel
theorem dX5_hear_16 : decode cX5_hear 16 = .ok (.dup, 1) := by decide +kernel
theorem dX5_hear_17 : decode cX5_hear 17 = .ok (.ldc 93, 2) := by decide +kernel
theorem dX5_hear_19 : decode cX5_hear 19 = .ok (.invokespecial 95, 3) := by decide +kernel
theorem dX5_hear_22 : decode cX5_hear 22 = .ok (.athrow, 1) := by decide +kernel
theorem dX5_hear_23 : decode cX5_hear 23 = .ok (.iload_n 2, 1) := by decide +kernel
theorem dX5_hear_24 : decode cX5_hear 24 = .ok (.iconst (-1), 1) := by decide +kernel
theorem dX5_hear_25 : decode cX5_hear 25 = .ok (.if_icmp .eq 11, 3) := by decide +kernel
theorem dX5_hear_28 : decode cX5_hear 28 = .ok (.iload_n 2, 1) := by decide +kernel
theorem dX5_hear_29 : decode cX5_hear 29 = .ok (.iconst 0, 1) := by decide +kernel
theorem dX5_hear_30 : decode cX5_hear 30 = .ok (.sipush 999, 3) := by decide +kernel
theorem dX5_hear_33 : decode cX5_hear 33 = .ok (.invokestatic 33, 3) := by decide +kernel
theorem dX5_hear_36 : decode cX5_hear 36 = .ok (.aload_n 0, 1) := by decide +kernel
theorem dX5_hear_37 : decode cX5_hear 37 = .ok (.getfield 19, 3) := by decide +kernel
theorem dX5_hear_40 : decode cX5_hear 40 = .ok (.iload_n 1, 1) := by decide +kernel
theorem dX5_hear_41 : decode cX5_hear 41 = .ok (.iaload, 1) := by decide +kernel
theorem dX5_hear_42 : decode cX5_hear 42 = .ok (.istore_n 3, 1) := by decide +kernel
theorem dX5_hear_43 : decode cX5_hear 43 = .ok (.aload_n 0, 1) := by decide +kernel
theorem dX5_hear_44 : decode cX5_hear 44 = .ok (.getfield 19, 3) := by decide +kernel
theorem dX5_hear_47 : decode cX5_hear 47 = .ok (.iload_n 1, 1) := by decide +kernel
theorem dX5_hear_48 : decode cX5_hear 48 = .ok (.iload_n 2, 1) := by decide +kernel
theorem dX5_hear_49 : decode cX5_hear 49 = .ok (.iastore, 1) := by decide +kernel
theorem dX5_hear_50 : decode cX5_hear 50 = .ok (.iload_n 3, 1) := by decide +kernel
theorem dX5_hear_51 : decode cX5_hear 51 = .ok (.ireturn, 1) := by decide +kernel
theorem dX5_cue_0 : decode cX5_cue 0 = .ok (.aload_n 0, 1) := by decide +kernel
theorem dX5_cue_1 : decode cX5_cue 1 = .ok (.iload_n 1, 1) := by decide +kernel
theorem dX5_cue_2 : decode cX5_cue 2 = .ok (.invokevirtual 57, 3) := by decide +kernel
theorem dX5_cue_5 : decode cX5_cue 5 = .ok (.astore_n 3, 1) := by decide +kernel
theorem dX5_cue_6 : decode cX5_cue 6 = .ok (.iload_n 2, 1) := by decide +kernel
theorem dX5_cue_7 : decode cX5_cue 7 = .ok (.iconst (-1), 1) := by decide +kernel
theorem dX5_cue_8 : decode cX5_cue 8 = .ok (.if_icmp .eq 23, 3) := by decide +kernel
theorem dX5_cue_11 : decode cX5_cue 11 = .ok (.iload_n 2, 1) := by decide +kernel
theorem dX5_cue_12 : decode cX5_cue 12 = .ok (.ifCond .lt 9, 3) := by decide +kernel
theorem dX5_cue_15 : decode cX5_cue 15 = .ok (.iload_n 2, 1) := by decide +kernel
theorem dX5_cue_16 : decode cX5_cue 16 = .ok (.bipush 10, 2) := by decide +kernel
theorem dX5_cue_18 : decode cX5_cue 18 = .ok (.if_icmp .lt 13, 3) := by decide +kernel
theorem dX5_cue_21 : decode cX5_cue 21 = .ok (.new 91, 3) := by decide +kernel
theorem dX5_cue_24 : decode cX5_cue 24 = .ok (.dup, 1) := by decide +kernel
theorem dX5_cue_25 : decode cX5_cue 25 = .ok (.ldc 93, 2) := by decide +kernel
theorem dX5_cue_27 : decode cX5_cue 27 = .ok (.invokespecial 95, 3) := by decide +kernel
theorem dX5_cue_30 : decode cX5_cue 30 = .ok (.athrow, 1) := by decide +kernel
theorem dX5_cue_31 : decode cX5_cue 31 = .ok (.aload_n 3, 1) := by decide +kernel
theorem dX5_cue_32 : decode cX5_cue 32 = .ok (.getfield 96, 3) := by decide +kernel
theorem dX5_cue_35 : decode cX5_cue 35 = .ok (.istore 4, 2) := by decide +kernel
theorem dX5_cue_37 : decode cX5_cue 37 = .ok (.aload_n 3, 1) := by decide +kernel
theorem dX5_cue_38 : decode cX5_cue 38 = .ok (.iload_n 2, 1) := by decide +kernel
theorem dX5_cue_39 : decode cX5_cue 39 = .ok (.putfield 96, 3) := by decide +kernel
theorem dX5_cue_42 : decode cX5_cue 42 = .ok (.iload 4, 2) := by decide +kernel
theorem dX5_cue_44 : decode cX5_cue 44 = .ok (.ireturn, 1) := by decide +kernel
theorem dX5_show_0 : decode cX5_show 0 = .ok (.iload_n 1, 1) := by decide +kernel
theorem dX5_show_1 : decode cX5_show 1 = .ok (.iconst 0, 1) := by decide +kernel
theorem dX5_show_2 : decode cX5_show 2 = .ok (.ldc 99, 2) := by decide +kernel
theorem dX5_show_4 : decode cX5_show 4 = .ok (.invokestatic 33, 3) := by decide +kernel
theorem dX5_show_7 : decode cX5_show 7 = .ok (.iload_n 2, 1) := by decide +kernel
theorem dX5_show_8 : decode cX5_show 8 = .ok (.iconst 1, 1) := by decide +kernel
theorem dX5_show_9 : decode cX5_show 9 = .ok (.sipush 600, 3) := by decide +kernel
theorem dX5_show_12 : decode cX5_show 12 = .ok (.invokestatic 33, 3) := by decide +kernel
theorem dX5_show_15 : decode cX5_show 15 = .ok (.aload_n 0, 1) := by decide +kernel
theorem dX5_show_16 : decode cX5_show 16 = .ok (.getfield 16, 3) := by decide +kernel
theorem dX5_show_19 : decode cX5_show 19 = .ok (.invokevirtual 37, 3) := by decide +kernel
theorem dX5_show_22 : decode cX5_show 22 = .ok (.bipush 6, 2) := by decide +kernel
theorem dX5_show_24 : decode cX5_show 24 = .ok (.if_icmp .lt 13, 3) := by decide +kernel
theorem dX5_show_27 : decode cX5_show 27 = .ok (.new 41, 3) := by decide +kernel
theorem dX5_show_30 : decode cX5_show 30 = .ok (.dup, 1) := by decide +kernel
theorem dX5_show_31 : decode cX5_show 31 = .ok (.ldc 100, 2) := by decide +kernel
theorem dX5_show_33 : decode cX5_show 33 = .ok (.invokespecial 45, 3) := by decide +kernel
theorem dX5_show_36 : decode cX5_show 36 = .ok (.athrow, 1) := by decide +kernel
theorem dX5_show_37 : decode cX5_show 37 = .ok (.aload_n 0, 1) := by decide +kernel
theorem dX5_show_38 : decode cX5_show 38 = .ok (.getfield 16, 3) := by decide +kernel
theorem dX5_show_41 : decode cX5_show 41 = .ok (.new 102, 3) := by decide +kernel
theorem dX5_show_44 : decode cX5_show 44 = .ok (.dup, 1) := by decide +kernel
theorem dX5_show_45 : decode cX5_show 45 = .ok (.new 104, 3) := by decide +kernel
theorem dX5_show_48 : decode cX5_show 48 = .ok (.dup, 1) := by decide +kernel
theorem dX5_show_49 : decode cX5_show 49 = .ok (.iload_n 1, 1) := by decide +kernel
theorem dX5_show_50 : decode cX5_show 50 = .ok (.iload_n 2, 1) := by decide +kernel
theorem dX5_show_51 : decode cX5_show 51 = .ok (.invokespecial 106, 3) := by decide +kernel
theorem dX5_show_54 : decode cX5_show 54 = .ok (.invokespecial 107, 3) := by decide +kernel
theorem dX5_show_57 : decode cX5_show 57 = .ok (.invokevirtual 53, 3) := by decide +kernel
theorem dX5_show_60 : decode cX5_show 60 = .ok (.pop, 1) := by decide +kernel
theorem dX5_show_61 : decode cX5_show 61 = .ok (.aload_n 0, 1) := by decide +kernel
theorem dX5_show_62 : decode cX5_show 62 = .ok (.getfield 16, 3) := by decide +kernel
theorem dX5_show_65 : decode cX5_show 65 = .ok (.invokevirtual 37, 3) := by decide +kernel
theorem dX5_show_68 : decode cX5_show 68 = .ok (.iconst 1, 1) := by decide +kernel
theorem dX5_show_69 : decode cX5_show 69 = .ok (.isub, 1) := by decide +kernel
theorem dX5_show_70 : decode cX5_show 70 = .ok (.ireturn, 1) := by decide +kernel
theorem dX4_init_0 : decode cX4_init 0 = .ok (.aload_n 0, 1) := by decide +kernel
theorem dX4_init_1 : decode cX4_init 1 = .ok (.invokespecial 1, 3) := by decide +kernel
theorem dX4_init_4 : decode cX4_init 4 = .ok (.aload_n 0, 1) := by decide +kernel
theorem dX4_init_5 : decode cX4_init 5 = .ok (.iload_n 1, 1) := by decide +kernel
theorem dX4_init_6 : decode cX4_init 6 = .ok (.putfield 7, 3) := by decide +kernel
theorem dX4_init_9 : decode cX4_init 9 = .ok (.aload_n 0, 1) := by decide +kernel
theorem dX4_init_10 : decode cX4_init 10 = .ok (.iload_n 2, 1) := by decide +kernel
theorem dX4_init_11 : decode cX4_init 11 = .ok (.putfield 13, 3) := by decide +kernel
theorem dX4_init_14 : decode cX4_init 14 = .ok (.return_, 1) := by decide +kernel
theorem dX3_init_0 : decode cX3_init 0 = .ok (.aload_n 0, 1) := by decide +kernel
theorem dX3_init_1 : decode cX3_init 1 = .ok (.invokespecial 3, 3) := by decide +kernel
theorem dX3_init_4 : decode cX3_init 4 = .ok (.aload_n 0, 1) := by decide +kernel
theorem dX3_init_5 : decode cX3_init 5 = .ok (.aload_n 1, 1) := by decide +kernel
theorem dX3_init_6 : decode cX3_init 6 = .ok (.putfield 9, 3) := by decide +kernel
theorem dX3_init_9 : decode cX3_init 9 = .ok (.aload_n 0, 1) := by decide +kernel
theorem dX3_init_10 : decode cX3_init 10 = .ok (.bipush 8, 2) := by decide +kernel
theorem dX3_init_12 : decode cX3_init 12 = .ok (.newarray .boolean, 2) := by decide +kernel
theorem dX3_init_14 : decode cX3_init 14 = .ok (.putfield 15, 3) := by decide +kernel
theorem dX3_init_17 : decode cX3_init 17 = .ok (.aload_n 0, 1) := by decide +kernel
theorem dX3_init_18 : decode cX3_init 18 = .ok (.iconst 0, 1) := by decide +kernel
theorem dX3_init_19 : decode cX3_init 19 = .ok (.putfield 19, 3) := by decide +kernel
theorem dX3_init_22 : decode cX3_init 22 = .ok (.aload_n 0, 1) := by decide +kernel
theorem dX3_init_23 : decode cX3_init 23 = .ok (.bipush 50, 2) := by decide +kernel
theorem dX3_init_25 : decode cX3_init 25 = .ok (.putfield 23, 3) := by decide +kernel
theorem dX3_init_28 : decode cX3_init 28 = .ok (.aload_n 0, 1) := by decide +kernel
theorem dX3_init_29 : decode cX3_init 29 = .ok (.iconst 0, 1) := by decide +kernel
theorem dX3_init_30 : decode cX3_init 30 = .ok (.putfield 26, 3) := by decide +kernel
theorem dX3_init_33 : decode cX3_init 33 = .ok (.aload_n 0, 1) := by decide +kernel
theorem dX3_init_34 : decode cX3_init 34 = .ok (.iconst 0, 1) := by decide +kernel
theorem dX3_init_35 : decode cX3_init 35 = .ok (.putfield 29, 3) := by decide +kernel
theorem dX3_init_38 : decode cX3_init 38 = .ok (.return_, 1) := by decide +kernel
theorem dX5_cast_0 : decode cX5_cast 0 = .ok (.aload_n 0, 1) := by decide +kernel
theorem dX5_cast_1 : decode cX5_cast 1 = .ok (.iload_n 1, 1) := by decide +kernel
theorem dX5_cast_2 : decode cX5_cast 2 = .ok (.invokevirtual 110, 3) := by decide +kernel
theorem dX5_cast_5 : decode cX5_cast 5 = .ok (.astore_n 3, 1) := by decide +kernel
theorem dX5_cast_6 : decode cX5_cast 6 = .ok (.aload_n 0, 1) := by decide +kernel
theorem dX5_cast_7 : decode cX5_cast 7 = .ok (.iload_n 2, 1) := by decide +kernel
theorem dX5_cast_8 : decode cX5_cast 8 = .ok (.invokevirtual 57, 3) := by decide +kernel
theorem dX5_cast_11 : decode cX5_cast 11 = .ok (.astore 4, 2) := by decide +kernel
theorem dX5_cast_13 : decode cX5_cast 13 = .ok (.aload_n 3, 1) := by decide +kernel
theorem dX5_cast_14 : decode cX5_cast 14 = .ok (.getfield 114, 3) := by decide +kernel
theorem dX5_cast_17 : decode cX5_cast 17 = .ok (.ifCond .ne 11, 3) := by decide +kernel
theorem dX5_cast_20 : decode cX5_cast 20 = .ok (.aload_n 3, 1) := by decide +kernel
theorem dX5_cast_21 : decode cX5_cast 21 = .ok (.iload_n 2, 1) := by decide +kernel
theorem dX5_cast_22 : decode cX5_cast 22 = .ok (.invokevirtual 118, 3) := by decide +kernel
theorem dX5_cast_25 : decode cX5_cast 25 = .ok (.ifCond .eq 13, 3) := by decide +kernel
theorem dX5_cast_28 : decode cX5_cast 28 = .ok (.new 41, 3) := by decide +kernel
theorem dX5_cast_31 : decode cX5_cast 31 = .ok (.dup, 1) := by decide +kernel
theorem dX5_cast_32 : decode cX5_cast 32 = .ok (.ldc 121, 2) := by decide +kernel
theorem dX5_cast_34 : decode cX5_cast 34 = .ok (.invokespecial 45, 3) := by decide +kernel
theorem dX5_cast_37 : decode cX5_cast 37 = .ok (.athrow, 1) := by decide +kernel
theorem dX5_cast_38 : decode cX5_cast 38 = .ok (.aload 4, 2) := by decide +kernel
theorem dX5_cast_40 : decode cX5_cast 40 = .ok (.getfield 123, 3) := by decide +kernel
theorem dX5_cast_43 : decode cX5_cast 43 = .ok (.bipush 50, 2) := by decide +kernel
theorem dX5_cast_45 : decode cX5_cast 45 = .ok (.if_icmp .ge 17, 3) := by decide +kernel
theorem dX5_cast_48 : decode cX5_cast 48 = .ok (.aload_n 0, 1) := by decide +kernel
theorem dX5_cast_49 : decode cX5_cast 49 = .ok (.aload 4, 2) := by decide +kernel
theorem dX5_cast_51 : decode cX5_cast 51 = .ok (.iload_n 2, 1) := by decide +kernel
theorem dX5_cast_52 : decode cX5_cast 52 = .ok (.aload_n 3, 1) := by decide +kernel
theorem dX5_cast_53 : decode cX5_cast 53 = .ok (.getfield 126, 3) := by decide +kernel
theorem dX5_cast_56 : decode cX5_cast 56 = .ok (.invokevirtual 130, 3) := by decide +kernel
theorem dX5_cast_59 : decode cX5_cast 59 = .ok (.ifCond .eq 13, 3) := by decide +kernel
theorem dX5_cast_62 : decode cX5_cast 62 = .ok (.new 41, 3) := by decide +kernel
theorem dX5_cast_65 : decode cX5_cast 65 = .ok (.dup, 1) := by decide +kernel
theorem dX5_cast_66 : decode cX5_cast 66 = .ok (.ldc 134, 2) := by decide +kernel
theorem dX5_cast_68 : decode cX5_cast 68 = .ok (.invokespecial 45, 3) := by decide +kernel
theorem dX5_cast_71 : decode cX5_cast 71 = .ok (.athrow, 1) := by decide +kernel
theorem dX5_cast_72 : decode cX5_cast 72 = .ok (.aload_n 3, 1) := by decide +kernel
theorem dX5_cast_73 : decode cX5_cast 73 = .ok (.iload_n 2, 1) := by decide +kernel
theorem dX5_cast_74 : decode cX5_cast 74 = .ok (.invokevirtual 136, 3) := by decide +kernel
theorem dX5_cast_77 : decode cX5_cast 77 = .ok (.aload_n 3, 1) := by decide +kernel
theorem dX5_cast_78 : decode cX5_cast 78 = .ok (.getfield 139, 3) := by decide +kernel
theorem dX5_cast_81 : decode cX5_cast 81 = .ok (.ireturn, 1) := by decide +kernel
theorem dX5_showNumbered_0 : decode cX5_showNumbered 0 = .ok (.iload_n 1, 1) := by decide +kernel
theorem dX5_showNumbered_1 : decode cX5_showNumbered 1 = .ok (.ifCond .lt 14, 3) := by decide +kernel
theorem dX5_showNumbered_4 : decode cX5_showNumbered 4 = .ok (.iload_n 1, 1) := by decide +kernel
theorem dX5_showNumbered_5 : decode cX5_showNumbered 5 = .ok (.aload_n 0, 1) := by decide +kernel
theorem dX5_showNumbered_6 : decode cX5_showNumbered 6 = .ok (.getfield 16, 3) := by decide +kernel
theorem dX5_showNumbered_9 : decode cX5_showNumbered 9 = .ok (.invokevirtual 37, 3) := by decide +kernel
theorem dX5_showNumbered_12 : decode cX5_showNumbered 12 = .ok (.if_icmp .lt 13, 3) := by decide +kernel
theorem dX5_showNumbered_15 : decode cX5_showNumbered 15 = .ok (.new 91, 3) := by decide +kernel
theorem dX5_showNumbered_18 : decode cX5_showNumbered 18 = .ok (.dup, 1) := by decide +kernel
theorem dX5_showNumbered_19 : decode cX5_showNumbered 19 = .ok (.ldc 217, 2) := by decide +kernel
theorem dX5_showNumbered_21 : decode cX5_showNumbered 21 = .ok (.invokespecial 95, 3) := by decide +kernel
theorem dX5_showNumbered_24 : decode cX5_showNumbered 24 = .ok (.athrow, 1) := by decide +kernel
theorem dX5_showNumbered_25 : decode cX5_showNumbered 25 = .ok (.aload_n 0, 1) := by decide +kernel
theorem dX5_showNumbered_26 : decode cX5_showNumbered 26 = .ok (.getfield 16, 3) := by decide +kernel
theorem dX5_showNumbered_29 : decode cX5_showNumbered 29 = .ok (.iload_n 1, 1) := by decide +kernel
theorem dX5_showNumbered_30 : decode cX5_showNumbered 30 = .ok (.invokevirtual 157, 3) := by decide +kernel
theorem dX5_showNumbered_33 : decode cX5_showNumbered 33 = .ok (.checkcast 102, 3) := by decide +kernel
theorem dX5_showNumbered_36 : decode cX5_showNumbered 36 = .ok (.areturn, 1) := by decide +kernel
theorem dX3_hasPuppet_0 : decode cX3_hasPuppet 0 = .ok (.iload_n 1, 1) := by decide +kernel
theorem dX3_hasPuppet_1 : decode cX3_hasPuppet 1 = .ok (.ifCond .lt 25, 3) := by decide +kernel
theorem dX3_hasPuppet_4 : decode cX3_hasPuppet 4 = .ok (.iload_n 1, 1) := by decide +kernel
theorem dX3_hasPuppet_5 : decode cX3_hasPuppet 5 = .ok (.aload_n 0, 1) := by decide +kernel
theorem dX3_hasPuppet_6 : decode cX3_hasPuppet 6 = .ok (.getfield 15, 3) := by decide +kernel
theorem dX3_hasPuppet_9 : decode cX3_hasPuppet 9 = .ok (.arraylength, 1) := by decide +kernel
theorem dX3_hasPuppet_10 : decode cX3_hasPuppet 10 = .ok (.if_icmp .ge 16, 3) := by decide +kernel
theorem dX3_hasPuppet_13 : decode cX3_hasPuppet 13 = .ok (.aload_n 0, 1) := by decide +kernel
theorem dX3_hasPuppet_14 : decode cX3_hasPuppet 14 = .ok (.getfield 15, 3) := by decide +kernel
theorem dX3_hasPuppet_17 : decode cX3_hasPuppet 17 = .ok (.iload_n 1, 1) := by decide +kernel
theorem dX3_hasPuppet_18 : decode cX3_hasPuppet 18 = .ok (.baload, 1) := by decide +kernel
theorem dX3_hasPuppet_19 : decode cX3_hasPuppet 19 = .ok (.ifCond .eq 7, 3) := by decide +kernel
theorem dX3_hasPuppet_22 : decode cX3_hasPuppet 22 = .ok (.iconst 1, 1) := by decide +kernel
theorem dX3_hasPuppet_23 : decode cX3_hasPuppet 23 = .ok (.goto 4, 3) := by decide +kernel
theorem dX3_hasPuppet_26 : decode cX3_hasPuppet 26 = .ok (.iconst 0, 1) := by decide +kernel
theorem dX3_hasPuppet_27 : decode cX3_hasPuppet 27 = .ok (.ireturn, 1) := by decide +kernel
theorem dX5_isTaken_0 : decode cX5_isTaken 0 = .ok (.iconst 0, 1) := by decide +kernel
theorem dX5_isTaken_1 : decode cX5_isTaken 1 = .ok (.istore 4, 2) := by decide +kernel
theorem dX5_isTaken_3 : decode cX5_isTaken 3 = .ok (.iload 4, 2) := by decide +kernel
theorem dX5_isTaken_5 : decode cX5_isTaken 5 = .ok (.aload_n 0, 1) := by decide +kernel
theorem dX5_isTaken_6 : decode cX5_isTaken 6 = .ok (.getfield 16, 3) := by decide +kernel
theorem dX5_isTaken_9 : decode cX5_isTaken 9 = .ok (.invokevirtual 37, 3) := by decide +kernel
theorem dX5_isTaken_12 : decode cX5_isTaken 12 = .ok (.if_icmp .ge 46, 3) := by decide +kernel
theorem dX5_isTaken_15 : decode cX5_isTaken 15 = .ok (.aload_n 0, 1) := by decide +kernel
theorem dX5_isTaken_16 : decode cX5_isTaken 16 = .ok (.getfield 16, 3) := by decide +kernel
theorem dX5_isTaken_19 : decode cX5_isTaken 19 = .ok (.iload 4, 2) := by decide +kernel
theorem dX5_isTaken_21 : decode cX5_isTaken 21 = .ok (.invokevirtual 157, 3) := by decide +kernel
theorem dX5_isTaken_24 : decode cX5_isTaken 24 = .ok (.checkcast 102, 3) := by decide +kernel
theorem dX5_isTaken_27 : decode cX5_isTaken 27 = .ok (.astore 5, 2) := by decide +kernel
theorem dX5_isTaken_29 : decode cX5_isTaken 29 = .ok (.aload 5, 2) := by decide +kernel
theorem dX5_isTaken_31 : decode cX5_isTaken 31 = .ok (.iload_n 2, 1) := by decide +kernel
theorem dX5_isTaken_32 : decode cX5_isTaken 32 = .ok (.invokevirtual 118, 3) := by decide +kernel
theorem dX5_isTaken_35 : decode cX5_isTaken 35 = .ok (.ifCond .eq 17, 3) := by decide +kernel
theorem dX5_isTaken_38 : decode cX5_isTaken 38 = .ok (.aload 5, 2) := by decide +kernel
theorem dX5_isTaken_40 : decode cX5_isTaken 40 = .ok (.getfield 126, 3) := by decide +kernel
theorem dX5_isTaken_43 : decode cX5_isTaken 43 = .ok (.aload_n 3, 1) := by decide +kernel
theorem dX5_isTaken_44 : decode cX5_isTaken 44 = .ok (.invokevirtual 221, 3) := by decide +kernel
theorem dX5_isTaken_47 : decode cX5_isTaken 47 = .ok (.ifCond .eq 5, 3) := by decide +kernel
theorem dX5_isTaken_50 : decode cX5_isTaken 50 = .ok (.iconst 1, 1) := by decide +kernel
theorem dX5_isTaken_51 : decode cX5_isTaken 51 = .ok (.ireturn, 1) := by decide +kernel
theorem dX5_isTaken_52 : decode cX5_isTaken 52 = .ok (.iinc 4 1, 3) := by decide +kernel
theorem dX5_isTaken_55 : decode cX5_isTaken 55 = .ok (.goto (-52), 3) := by decide +kernel
theorem dX5_isTaken_58 : decode cX5_isTaken 58 = .ok (.aload_n 1, 1) := by decide +kernel
theorem dX5_isTaken_59 : decode cX5_isTaken 59 = .ok (.aload_n 3, 1) := by decide +kernel
theorem dX5_isTaken_60 : decode cX5_isTaken 60 = .ok (.invokevirtual 225, 3) := by decide +kernel
theorem dX5_isTaken_63 : decode cX5_isTaken 63 = .ok (.ireturn, 1) := by decide +kernel
theorem dX4_meets_0 : decode cX4_meets 0 = .ok (.aload_n 0, 1) := by decide +kernel
theorem dX4_meets_1 : decode cX4_meets 1 = .ok (.getfield 7, 3) := by decide +kernel
theorem dX4_meets_4 : decode cX4_meets 4 = .ok (.aload_n 1, 1) := by decide +kernel
theorem dX4_meets_5 : decode cX4_meets 5 = .ok (.getfield 7, 3) := by decide +kernel
theorem dX4_meets_8 : decode cX4_meets 8 = .ok (.aload_n 1, 1) := by decide +kernel
theorem dX4_meets_9 : decode cX4_meets 9 = .ok (.getfield 13, 3) := by decide +kernel
theorem dX4_meets_12 : decode cX4_meets 12 = .ok (.iadd, 1) := by decide +kernel
theorem dX4_meets_13 : decode cX4_meets 13 = .ok (.if_icmp .ge 23, 3) := by decide +kernel
theorem dX4_meets_16 : decode cX4_meets 16 = .ok (.aload_n 1, 1) := by decide +kernel
theorem dX4_meets_17 : decode cX4_meets 17 = .ok (.getfield 7, 3) := by decide +kernel
theorem dX4_meets_20 : decode cX4_meets 20 = .ok (.aload_n 0, 1) := by decide +kernel
theorem dX4_meets_21 : decode cX4_meets 21 = .ok (.getfield 7, 3) := by decide +kernel
theorem dX4_meets_24 : decode cX4_meets 24 = .ok (.aload_n 0, 1) := by decide +kernel
theorem dX4_meets_25 : decode cX4_meets 25 = .ok (.getfield 13, 3) := by decide +kernel
theorem dX4_meets_28 : decode cX4_meets 28 = .ok (.iadd, 1) := by decide +kernel
theorem dX4_meets_29 : decode cX4_meets 29 = .ok (.if_icmp .ge 7, 3) := by decide +kernel
theorem dX4_meets_32 : decode cX4_meets 32 = .ok (.iconst 1, 1) := by decide +kernel
theorem dX4_meets_33 : decode cX4_meets 33 = .ok (.goto 4, 3) := by decide +kernel
theorem dX4_meets_36 : decode cX4_meets 36 = .ok (.iconst 0, 1) := by decide +kernel
theorem dX4_meets_37 : decode cX4_meets 37 = .ok (.ireturn, 1) := by decide +kernel
theorem dX2_isMendedDuring_0 : decode cX2_isMendedDuring 0 = .ok (.iconst 0, 1) := by decide +kernel
theorem dX2_isMendedDuring_1 : decode cX2_isMendedDuring 1 = .ok (.istore_n 2, 1) := by decide +kernel
theorem dX2_isMendedDuring_2 : decode cX2_isMendedDuring 2 = .ok (.iload_n 2, 1) := by decide +kernel
theorem dX2_isMendedDuring_3 : decode cX2_isMendedDuring 3 = .ok (.aload_n 0, 1) := by decide +kernel
theorem dX2_isMendedDuring_4 : decode cX2_isMendedDuring 4 = .ok (.getfield 31, 3) := by decide +kernel
theorem dX2_isMendedDuring_7 : decode cX2_isMendedDuring 7 = .ok (.invokevirtual 45, 3) := by decide +kernel
theorem dX2_isMendedDuring_10 : decode cX2_isMendedDuring 10 = .ok (.if_icmp .ge 29, 3) := by decide +kernel
theorem dX2_isMendedDuring_13 : decode cX2_isMendedDuring 13 = .ok (.aload_n 0, 1) := by decide +kernel
theorem dX2_isMendedDuring_14 : decode cX2_isMendedDuring 14 = .ok (.getfield 31, 3) := by decide +kernel
theorem dX2_isMendedDuring_17 : decode cX2_isMendedDuring 17 = .ok (.iload_n 2, 1) := by decide +kernel
theorem dX2_isMendedDuring_18 : decode cX2_isMendedDuring 18 = .ok (.invokevirtual 49, 3) := by decide +kernel
theorem dX2_isMendedDuring_21 : decode cX2_isMendedDuring 21 = .ok (.checkcast 113, 3) := by decide +kernel
theorem dX2_isMendedDuring_24 : decode cX2_isMendedDuring 24 = .ok (.aload_n 1, 1) := by decide +kernel
theorem dX2_isMendedDuring_25 : decode cX2_isMendedDuring 25 = .ok (.invokevirtual 115, 3) := by decide +kernel
theorem dX2_isMendedDuring_28 : decode cX2_isMendedDuring 28 = .ok (.ifCond .eq 5, 3) := by decide +kernel
theorem dX2_isMendedDuring_31 : decode cX2_isMendedDuring 31 = .ok (.iconst 1, 1) := by decide +kernel
theorem dX2_isMendedDuring_32 : decode cX2_isMendedDuring 32 = .ok (.ireturn, 1) := by decide +kernel
theorem dX2_isMendedDuring_33 : decode cX2_isMendedDuring 33 = .ok (.iinc 2 1, 3) := by decide +kernel
theorem dX2_isMendedDuring_36 : decode cX2_isMendedDuring 36 = .ok (.goto (-34), 3) := by decide +kernel
theorem dX2_isMendedDuring_39 : decode cX2_isMendedDuring 39 = .ok (.iconst 0, 1) := by decide +kernel
theorem dX2_isMendedDuring_40 : decode cX2_isMendedDuring 40 = .ok (.ireturn, 1) := by decide +kernel
theorem dX3_take_0 : decode cX3_take 0 = .ok (.iload_n 1, 1) := by decide +kernel
theorem dX3_take_1 : decode cX3_take 1 = .ok (.ifCond .lt 38, 3) := by decide +kernel
theorem dX3_take_4 : decode cX3_take 4 = .ok (.iload_n 1, 1) := by decide +kernel
theorem dX3_take_5 : decode cX3_take 5 = .ok (.aload_n 0, 1) := by decide +kernel
theorem dX3_take_6 : decode cX3_take 6 = .ok (.getfield 15, 3) := by decide +kernel
theorem dX3_take_9 : decode cX3_take 9 = .ok (.arraylength, 1) := by decide +kernel
theorem dX3_take_10 : decode cX3_take 10 = .ok (.if_icmp .ge 29, 3) := by decide +kernel
theorem dX3_take_13 : decode cX3_take 13 = .ok (.aload_n 0, 1) := by decide +kernel
theorem dX3_take_14 : decode cX3_take 14 = .ok (.getfield 15, 3) := by decide +kernel
theorem dX3_take_17 : decode cX3_take 17 = .ok (.iload_n 1, 1) := by decide +kernel
theorem dX3_take_18 : decode cX3_take 18 = .ok (.baload, 1) := by decide +kernel
theorem dX3_take_19 : decode cX3_take 19 = .ok (.ifCond .ne 20, 3) := by decide +kernel
theorem dX3_take_22 : decode cX3_take 22 = .ok (.aload_n 0, 1) := by decide +kernel
theorem dX3_take_23 : decode cX3_take 23 = .ok (.getfield 15, 3) := by decide +kernel
theorem dX3_take_26 : decode cX3_take 26 = .ok (.iload_n 1, 1) := by decide +kernel
theorem dX3_take_27 : decode cX3_take 27 = .ok (.iconst 1, 1) := by decide +kernel
theorem dX3_take_28 : decode cX3_take 28 = .ok (.bastore, 1) := by decide +kernel
theorem dX3_take_29 : decode cX3_take 29 = .ok (.aload_n 0, 1) := by decide +kernel
theorem dX3_take_30 : decode cX3_take 30 = .ok (.dup, 1) := by decide +kernel
theorem dX3_take_31 : decode cX3_take 31 = .ok (.getfield 19, 3) := by decide +kernel
theorem dX3_take_34 : decode cX3_take 34 = .ok (.iconst 1, 1) := by decide +kernel
theorem dX3_take_35 : decode cX3_take 35 = .ok (.iadd, 1) := by decide +kernel
theorem dX3_take_36 : decode cX3_take 36 = .ok (.putfield 19, 3) := by decide +kernel
theorem dX3_take_39 : decode cX3_take 39 = .ok (.return_, 1) := by decide +kernel
theorem dX5_leave_0 : decode cX5_leave 0 = .ok (.aload_n 0, 1) := by decide +kernel
theorem dX5_leave_1 : decode cX5_leave 1 = .ok (.iload_n 1, 1) := by decide +kernel
theorem dX5_leave_2 : decode cX5_leave 2 = .ok (.invokevirtual 110, 3) := by decide +kernel
theorem dX5_leave_5 : decode cX5_leave 5 = .ok (.astore_n 3, 1) := by decide +kernel
theorem dX5_leave_6 : decode cX5_leave 6 = .ok (.aload_n 0, 1) := by decide +kernel
theorem dX5_leave_7 : decode cX5_leave 7 = .ok (.iload_n 2, 1) := by decide +kernel
theorem dX5_leave_8 : decode cX5_leave 8 = .ok (.invokevirtual 57, 3) := by decide +kernel
theorem dX5_leave_11 : decode cX5_leave 11 = .ok (.pop, 1) := by decide +kernel
theorem dX5_leave_12 : decode cX5_leave 12 = .ok (.aload_n 3, 1) := by decide +kernel
theorem dX5_leave_13 : decode cX5_leave 13 = .ok (.getfield 114, 3) := by decide +kernel
theorem dX5_leave_16 : decode cX5_leave 16 = .ok (.ifCond .ne 11, 3) := by decide +kernel
theorem dX5_leave_19 : decode cX5_leave 19 = .ok (.aload_n 3, 1) := by decide +kernel
theorem dX5_leave_20 : decode cX5_leave 20 = .ok (.iload_n 2, 1) := by decide +kernel
theorem dX5_leave_21 : decode cX5_leave 21 = .ok (.invokevirtual 118, 3) := by decide +kernel
theorem dX5_leave_24 : decode cX5_leave 24 = .ok (.ifCond .ne 13, 3) := by decide +kernel
theorem dX5_leave_27 : decode cX5_leave 27 = .ok (.new 41, 3) := by decide +kernel
theorem dX5_leave_30 : decode cX5_leave 30 = .ok (.dup, 1) := by decide +kernel
theorem dX5_leave_31 : decode cX5_leave 31 = .ok (.ldc 142, 2) := by decide +kernel
theorem dX5_leave_33 : decode cX5_leave 33 = .ok (.invokespecial 45, 3) := by decide +kernel
theorem dX5_leave_36 : decode cX5_leave 36 = .ok (.athrow, 1) := by decide +kernel
theorem dX5_leave_37 : decode cX5_leave 37 = .ok (.aload_n 3, 1) := by decide +kernel
theorem dX5_leave_38 : decode cX5_leave 38 = .ok (.iload_n 2, 1) := by decide +kernel
theorem dX5_leave_39 : decode cX5_leave 39 = .ok (.invokevirtual 144, 3) := by decide +kernel
theorem dX5_leave_42 : decode cX5_leave 42 = .ok (.aload_n 3, 1) := by decide +kernel
theorem dX5_leave_43 : decode cX5_leave 43 = .ok (.getfield 139, 3) := by decide +kernel
theorem dX5_leave_46 : decode cX5_leave 46 = .ok (.ireturn, 1) := by decide +kernel
theorem dX3_release_0 : decode cX3_release 0 = .ok (.iload_n 1, 1) := by decide +kernel
theorem dX3_release_1 : decode cX3_release 1 = .ok (.ifCond .lt 38, 3) := by decide +kernel
theorem dX3_release_4 : decode cX3_release 4 = .ok (.iload_n 1, 1) := by decide +kernel
theorem dX3_release_5 : decode cX3_release 5 = .ok (.aload_n 0, 1) := by decide +kernel
theorem dX3_release_6 : decode cX3_release 6 = .ok (.getfield 15, 3) := by decide +kernel
theorem dX3_release_9 : decode cX3_release 9 = .ok (.arraylength, 1) := by decide +kernel
theorem dX3_release_10 : decode cX3_release 10 = .ok (.if_icmp .ge 29, 3) := by decide +kernel
theorem dX3_release_13 : decode cX3_release 13 = .ok (.aload_n 0, 1) := by decide +kernel
theorem dX3_release_14 : decode cX3_release 14 = .ok (.getfield 15, 3) := by decide +kernel
theorem dX3_release_17 : decode cX3_release 17 = .ok (.iload_n 1, 1) := by decide +kernel
theorem dX3_release_18 : decode cX3_release 18 = .ok (.baload, 1) := by decide +kernel
theorem dX3_release_19 : decode cX3_release 19 = .ok (.ifCond .eq 20, 3) := by decide +kernel
theorem dX3_release_22 : decode cX3_release 22 = .ok (.aload_n 0, 1) := by decide +kernel
theorem dX3_release_23 : decode cX3_release 23 = .ok (.getfield 15, 3) := by decide +kernel
theorem dX3_release_26 : decode cX3_release 26 = .ok (.iload_n 1, 1) := by decide +kernel
theorem dX3_release_27 : decode cX3_release 27 = .ok (.iconst 0, 1) := by decide +kernel
theorem dX3_release_28 : decode cX3_release 28 = .ok (.bastore, 1) := by decide +kernel
theorem dX3_release_29 : decode cX3_release 29 = .ok (.aload_n 0, 1) := by decide +kernel
theorem dX3_release_30 : decode cX3_release 30 = .ok (.dup, 1) := by decide +kernel
theorem dX3_release_31 : decode cX3_release 31 = .ok (.getfield 19, 3) := by decide +kernel
theorem dX3_release_34 : decode cX3_release 34 = .ok (.iconst 1, 1) := by decide +kernel
theorem dX3_release_35 : decode cX3_release 35 = .ok (.isub, 1) := by decide +kernel
theorem dX3_release_36 : decode cX3_release 36 = .ok (.putfield 19, 3) := by decide +kernel
theorem dX3_release_39 : decode cX3_release 39 = .ok (.return_, 1) := by decide +kernel
theorem dX5_sell_0 : decode cX5_sell 0 = .ok (.aload_n 0, 1) := by decide +kernel
theorem dX5_sell_1 : decode cX5_sell 1 = .ok (.iload_n 1, 1) := by decide +kernel
theorem dX5_sell_2 : decode cX5_sell 2 = .ok (.invokevirtual 110, 3) := by decide +kernel
theorem dX5_sell_5 : decode cX5_sell 5 = .ok (.astore 4, 2) := by decide +kernel
theorem dX5_sell_7 : decode cX5_sell 7 = .ok (.iload_n 2, 1) := by decide +kernel
theorem dX5_sell_8 : decode cX5_sell 8 = .ok (.iconst 1, 1) := by decide +kernel
theorem dX5_sell_9 : decode cX5_sell 9 = .ok (.bipush 50, 2) := by decide +kernel
theorem dX5_sell_11 : decode cX5_sell 11 = .ok (.invokestatic 33, 3) := by decide +kernel
theorem dX5_sell_14 : decode cX5_sell 14 = .ok (.iload_n 3, 1) := by decide +kernel
theorem dX5_sell_15 : decode cX5_sell 15 = .ok (.iconst 0, 1) := by decide +kernel
theorem dX5_sell_16 : decode cX5_sell 16 = .ok (.bipush 100, 2) := by decide +kernel
theorem dX5_sell_18 : decode cX5_sell 18 = .ok (.invokestatic 33, 3) := by decide +kernel
theorem dX5_sell_21 : decode cX5_sell 21 = .ok (.aload 4, 2) := by decide +kernel
theorem dX5_sell_23 : decode cX5_sell 23 = .ok (.getfield 114, 3) := by decide +kernel
theorem dX5_sell_26 : decode cX5_sell 26 = .ok (.ifCond .ne 12, 3) := by decide +kernel
theorem dX5_sell_29 : decode cX5_sell 29 = .ok (.iload_n 2, 1) := by decide +kernel
theorem dX5_sell_30 : decode cX5_sell 30 = .ok (.aload 4, 2) := by decide +kernel
theorem dX5_sell_32 : decode cX5_sell 32 = .ok (.getfield 147, 3) := by decide +kernel
theorem dX5_sell_35 : decode cX5_sell 35 = .ok (.if_icmp .le 13, 3) := by decide +kernel
theorem dX5_sell_38 : decode cX5_sell 38 = .ok (.new 41, 3) := by decide +kernel
theorem dX5_sell_41 : decode cX5_sell 41 = .ok (.dup, 1) := by decide +kernel
theorem dX5_sell_42 : decode cX5_sell 42 = .ok (.ldc 150, 2) := by decide +kernel
theorem dX5_sell_44 : decode cX5_sell 44 = .ok (.invokespecial 45, 3) := by decide +kernel
theorem dX5_sell_47 : decode cX5_sell 47 = .ok (.athrow, 1) := by decide +kernel
theorem dX5_sell_48 : decode cX5_sell 48 = .ok (.aload 4, 2) := by decide +kernel
theorem dX5_sell_50 : decode cX5_sell 50 = .ok (.dup, 1) := by decide +kernel
theorem dX5_sell_51 : decode cX5_sell 51 = .ok (.getfield 147, 3) := by decide +kernel
theorem dX5_sell_54 : decode cX5_sell 54 = .ok (.iload_n 2, 1) := by decide +kernel
theorem dX5_sell_55 : decode cX5_sell 55 = .ok (.isub, 1) := by decide +kernel
theorem dX5_sell_56 : decode cX5_sell 56 = .ok (.putfield 147, 3) := by decide +kernel
theorem dX5_sell_59 : decode cX5_sell 59 = .ok (.aload 4, 2) := by decide +kernel
theorem dX5_sell_61 : decode cX5_sell 61 = .ok (.dup, 1) := by decide +kernel
theorem dX5_sell_62 : decode cX5_sell 62 = .ok (.getfield 152, 3) := by decide +kernel
theorem dX5_sell_65 : decode cX5_sell 65 = .ok (.iload_n 2, 1) := by decide +kernel
theorem dX5_sell_66 : decode cX5_sell 66 = .ok (.iload_n 3, 1) := by decide +kernel
theorem dX5_sell_67 : decode cX5_sell 67 = .ok (.imul, 1) := by decide +kernel
theorem dX5_sell_68 : decode cX5_sell 68 = .ok (.iadd, 1) := by decide +kernel
theorem dX5_sell_69 : decode cX5_sell 69 = .ok (.putfield 152, 3) := by decide +kernel
theorem dX5_sell_72 : decode cX5_sell 72 = .ok (.aload 4, 2) := by decide +kernel
theorem dX5_sell_74 : decode cX5_sell 74 = .ok (.getfield 147, 3) := by decide +kernel
theorem dX5_sell_77 : decode cX5_sell 77 = .ok (.ireturn, 1) := by decide +kernel
theorem dX5_perform_0 : decode cX5_perform 0 = .ok (.aload_n 0, 1) := by decide +kernel
theorem dX5_perform_1 : decode cX5_perform 1 = .ok (.iload_n 1, 1) := by decide +kernel
theorem dX5_perform_2 : decode cX5_perform 2 = .ok (.invokevirtual 110, 3) := by decide +kernel
theorem dX5_perform_5 : decode cX5_perform 5 = .ok (.astore_n 2, 1) := by decide +kernel
theorem dX5_perform_6 : decode cX5_perform 6 = .ok (.aload_n 2, 1) := by decide +kernel
theorem dX5_perform_7 : decode cX5_perform 7 = .ok (.getfield 114, 3) := by decide +kernel
theorem dX5_perform_10 : decode cX5_perform 10 = .ok (.ifCond .ne 10, 3) := by decide +kernel
theorem dX5_perform_13 : decode cX5_perform 13 = .ok (.aload_n 2, 1) := by decide +kernel
theorem dX5_perform_14 : decode cX5_perform 14 = .ok (.getfield 139, 3) := by decide +kernel
theorem dX5_perform_17 : decode cX5_perform 17 = .ok (.ifCond .ne 13, 3) := by decide +kernel
theorem dX5_perform_20 : decode cX5_perform 20 = .ok (.new 41, 3) := by decide +kernel
theorem dX5_perform_23 : decode cX5_perform 23 = .ok (.dup, 1) := by decide +kernel
theorem dX5_perform_24 : decode cX5_perform 24 = .ok (.ldc 155, 2) := by decide +kernel
theorem dX5_perform_26 : decode cX5_perform 26 = .ok (.invokespecial 45, 3) := by decide +kernel
theorem dX5_perform_29 : decode cX5_perform 29 = .ok (.athrow, 1) := by decide +kernel
theorem dX5_perform_30 : decode cX5_perform 30 = .ok (.aload_n 2, 1) := by decide +kernel
theorem dX5_perform_31 : decode cX5_perform 31 = .ok (.iconst 1, 1) := by decide +kernel
theorem dX5_perform_32 : decode cX5_perform 32 = .ok (.putfield 114, 3) := by decide +kernel
theorem dX5_perform_35 : decode cX5_perform 35 = .ok (.iconst 0, 1) := by decide +kernel
theorem dX5_perform_36 : decode cX5_perform 36 = .ok (.istore_n 3, 1) := by decide +kernel
theorem dX5_perform_37 : decode cX5_perform 37 = .ok (.iload_n 3, 1) := by decide +kernel
theorem dX5_perform_38 : decode cX5_perform 38 = .ok (.aload_n 0, 1) := by decide +kernel
theorem dX5_perform_39 : decode cX5_perform 39 = .ok (.getfield 10, 3) := by decide +kernel
theorem dX5_perform_42 : decode cX5_perform 42 = .ok (.invokevirtual 37, 3) := by decide +kernel
theorem dX5_perform_45 : decode cX5_perform 45 = .ok (.if_icmp .ge 31, 3) := by decide +kernel
theorem dX5_perform_48 : decode cX5_perform 48 = .ok (.aload_n 2, 1) := by decide +kernel
theorem dX5_perform_49 : decode cX5_perform 49 = .ok (.iload_n 3, 1) := by decide +kernel
theorem dX5_perform_50 : decode cX5_perform 50 = .ok (.invokevirtual 118, 3) := by decide +kernel
theorem dX5_perform_53 : decode cX5_perform 53 = .ok (.ifCond .eq 17, 3) := by decide +kernel
theorem dX5_perform_56 : decode cX5_perform 56 = .ok (.aload_n 0, 1) := by decide +kernel
theorem dX5_perform_57 : decode cX5_perform 57 = .ok (.getfield 10, 3) := by decide +kernel
theorem dX5_perform_60 : decode cX5_perform 60 = .ok (.iload_n 3, 1) := by decide +kernel
theorem dX5_perform_61 : decode cX5_perform 61 = .ok (.invokevirtual 157, 3) := by decide +kernel
theorem dX5_perform_64 : decode cX5_perform 64 = .ok (.checkcast 48, 3) := by decide +kernel
theorem dX5_perform_67 : decode cX5_perform 67 = .ok (.invokevirtual 161, 3) := by decide +kernel
theorem dX5_perform_70 : decode cX5_perform 70 = .ok (.iinc 3 1, 3) := by decide +kernel
theorem dX5_perform_73 : decode cX5_perform 73 = .ok (.goto (-36), 3) := by decide +kernel
theorem dX5_perform_76 : decode cX5_perform 76 = .ok (.aload_n 0, 1) := by decide +kernel
theorem dX5_perform_77 : decode cX5_perform 77 = .ok (.dup, 1) := by decide +kernel
theorem dX5_perform_78 : decode cX5_perform 78 = .ok (.getfield 29, 3) := by decide +kernel
theorem dX5_perform_81 : decode cX5_perform 81 = .ok (.aload_n 2, 1) := by decide +kernel
theorem dX5_perform_82 : decode cX5_perform 82 = .ok (.getfield 152, 3) := by decide +kernel
theorem dX5_perform_85 : decode cX5_perform 85 = .ok (.iadd, 1) := by decide +kernel
theorem dX5_perform_86 : decode cX5_perform 86 = .ok (.putfield 29, 3) := by decide +kernel
theorem dX5_perform_89 : decode cX5_perform 89 = .ok (.aload_n 2, 1) := by decide +kernel
theorem dX5_perform_90 : decode cX5_perform 90 = .ok (.getfield 152, 3) := by decide +kernel
theorem dX5_perform_93 : decode cX5_perform 93 = .ok (.ireturn, 1) := by decide +kernel
theorem dX2_wear_0 : decode cX2_wear 0 = .ok (.aload_n 0, 1) := by decide +kernel
theorem dX2_wear_1 : decode cX2_wear 1 = .ok (.bipush 99, 2) := by decide +kernel
theorem dX2_wear_3 : decode cX2_wear 3 = .ok (.aload_n 0, 1) := by decide +kernel
theorem dX2_wear_4 : decode cX2_wear 4 = .ok (.getfield 28, 3) := by decide +kernel
theorem dX2_wear_7 : decode cX2_wear 7 = .ok (.aload_n 0, 1) := by decide +kernel
theorem dX2_wear_8 : decode cX2_wear 8 = .ok (.getfield 21, 3) := by decide +kernel
theorem dX2_wear_11 : decode cX2_wear 11 = .ok (.invokevirtual 45, 3) := by decide +kernel
theorem dX2_wear_14 : decode cX2_wear 14 = .ok (.iadd, 1) := by decide +kernel
theorem dX2_wear_15 : decode cX2_wear 15 = .ok (.invokestatic 94, 3) := by decide +kernel
theorem dX2_wear_18 : decode cX2_wear 18 = .ok (.putfield 28, 3) := by decide +kernel
theorem dX2_wear_21 : decode cX2_wear 21 = .ok (.return_, 1) := by decide +kernel
theorem dX5_mend_0 : decode cX5_mend 0 = .ok (.aload_n 0, 1) := by decide +kernel
theorem dX5_mend_1 : decode cX5_mend 1 = .ok (.iload_n 1, 1) := by decide +kernel
theorem dX5_mend_2 : decode cX5_mend 2 = .ok (.invokevirtual 57, 3) := by decide +kernel
theorem dX5_mend_5 : decode cX5_mend 5 = .ok (.astore_n 3, 1) := by decide +kernel
theorem dX5_mend_6 : decode cX5_mend 6 = .ok (.iload_n 2, 1) := by decide +kernel
theorem dX5_mend_7 : decode cX5_mend 7 = .ok (.iconst 0, 1) := by decide +kernel
theorem dX5_mend_8 : decode cX5_mend 8 = .ok (.ldc 99, 2) := by decide +kernel
theorem dX5_mend_10 : decode cX5_mend 10 = .ok (.invokestatic 33, 3) := by decide +kernel
theorem dX5_mend_13 : decode cX5_mend 13 = .ok (.aload_n 3, 1) := by decide +kernel
theorem dX5_mend_14 : decode cX5_mend 14 = .ok (.getfield 123, 3) := by decide +kernel
theorem dX5_mend_17 : decode cX5_mend 17 = .ok (.ifCond .eq 15, 3) := by decide +kernel
theorem dX5_mend_20 : decode cX5_mend 20 = .ok (.aload_n 3, 1) := by decide +kernel
theorem dX5_mend_21 : decode cX5_mend 21 = .ok (.getfield 164, 3) := by decide +kernel
theorem dX5_mend_24 : decode cX5_mend 24 = .ok (.invokevirtual 37, 3) := by decide +kernel
theorem dX5_mend_27 : decode cX5_mend 27 = .ok (.bipush 10, 2) := by decide +kernel
theorem dX5_mend_29 : decode cX5_mend 29 = .ok (.if_icmp .lt 13, 3) := by decide +kernel
theorem dX5_mend_32 : decode cX5_mend 32 = .ok (.new 41, 3) := by decide +kernel
theorem dX5_mend_35 : decode cX5_mend 35 = .ok (.dup, 1) := by decide +kernel
theorem dX5_mend_36 : decode cX5_mend 36 = .ok (.ldc 167, 2) := by decide +kernel
theorem dX5_mend_38 : decode cX5_mend 38 = .ok (.invokespecial 45, 3) := by decide +kernel
theorem dX5_mend_41 : decode cX5_mend 41 = .ok (.athrow, 1) := by decide +kernel
theorem dX5_mend_42 : decode cX5_mend 42 = .ok (.new 104, 3) := by decide +kernel
theorem dX5_mend_45 : decode cX5_mend 45 = .ok (.dup, 1) := by decide +kernel
theorem dX5_mend_46 : decode cX5_mend 46 = .ok (.iload_n 2, 1) := by decide +kernel
theorem dX5_mend_47 : decode cX5_mend 47 = .ok (.aload_n 3, 1) := by decide +kernel
theorem dX5_mend_48 : decode cX5_mend 48 = .ok (.getfield 123, 3) := by decide +kernel
theorem dX5_mend_51 : decode cX5_mend 51 = .ok (.invokespecial 106, 3) := by decide +kernel
theorem dX5_mend_54 : decode cX5_mend 54 = .ok (.astore 4, 2) := by decide +kernel
theorem dX5_mend_56 : decode cX5_mend 56 = .ok (.aload_n 0, 1) := by decide +kernel
theorem dX5_mend_57 : decode cX5_mend 57 = .ok (.aload_n 3, 1) := by decide +kernel
theorem dX5_mend_58 : decode cX5_mend 58 = .ok (.iload_n 1, 1) := by decide +kernel
theorem dX5_mend_59 : decode cX5_mend 59 = .ok (.aload 4, 2) := by decide +kernel
theorem dX5_mend_61 : decode cX5_mend 61 = .ok (.invokevirtual 130, 3) := by decide +kernel
theorem dX5_mend_64 : decode cX5_mend 64 = .ok (.ifCond .eq 13, 3) := by decide +kernel
theorem dX5_mend_67 : decode cX5_mend 67 = .ok (.new 41, 3) := by decide +kernel
theorem dX5_mend_70 : decode cX5_mend 70 = .ok (.dup, 1) := by decide +kernel
theorem dX5_mend_71 : decode cX5_mend 71 = .ok (.ldc 169, 2) := by decide +kernel
theorem dX5_mend_73 : decode cX5_mend 73 = .ok (.invokespecial 45, 3) := by decide +kernel
theorem dX5_mend_76 : decode cX5_mend 76 = .ok (.athrow, 1) := by decide +kernel
theorem dX5_mend_77 : decode cX5_mend 77 = .ok (.aload_n 3, 1) := by decide +kernel
theorem dX5_mend_78 : decode cX5_mend 78 = .ok (.getfield 164, 3) := by decide +kernel
theorem dX5_mend_81 : decode cX5_mend 81 = .ok (.aload 4, 2) := by decide +kernel
theorem dX5_mend_83 : decode cX5_mend 83 = .ok (.invokevirtual 53, 3) := by decide +kernel
theorem dX5_mend_86 : decode cX5_mend 86 = .ok (.pop, 1) := by decide +kernel
theorem dX5_mend_87 : decode cX5_mend 87 = .ok (.aload_n 3, 1) := by decide +kernel
theorem dX5_mend_88 : decode cX5_mend 88 = .ok (.iconst 0, 1) := by decide +kernel
theorem dX5_mend_89 : decode cX5_mend 89 = .ok (.putfield 123, 3) := by decide +kernel
theorem dX5_mend_92 : decode cX5_mend 92 = .ok (.aload 4, 2) := by decide +kernel
theorem dX5_mend_94 : decode cX5_mend 94 = .ok (.getfield 171, 3) := by decide +kernel
theorem dX5_mend_97 : decode cX5_mend 97 = .ok (.ireturn, 1) := by decide +kernel
theorem dX5_track_0 : decode cX5_track 0 = .ok (.aload_n 0, 1) := by decide +kernel
theorem dX5_track_1 : decode cX5_track 1 = .ok (.iload_n 1, 1) := by decide +kernel
theorem dX5_track_2 : decode cX5_track 2 = .ok (.invokevirtual 57, 3) := by decide +kernel
theorem dX5_track_5 : decode cX5_track 5 = .ok (.astore_n 3, 1) := by decide +kernel
theorem dX5_track_6 : decode cX5_track 6 = .ok (.iload_n 2, 1) := by decide +kernel
theorem dX5_track_7 : decode cX5_track 7 = .ok (.iconst 0, 1) := by decide +kernel
theorem dX5_track_8 : decode cX5_track 8 = .ok (.sipush 1999, 3) := by decide +kernel
theorem dX5_track_11 : decode cX5_track 11 = .ok (.invokestatic 33, 3) := by decide +kernel
theorem dX5_track_14 : decode cX5_track 14 = .ok (.aload_n 3, 1) := by decide +kernel
theorem dX5_track_15 : decode cX5_track 15 = .ok (.iload_n 2, 1) := by decide +kernel
theorem dX5_track_16 : decode cX5_track 16 = .ok (.invokevirtual 174, 3) := by decide +kernel
theorem dX5_track_19 : decode cX5_track 19 = .ok (.aload_n 3, 1) := by decide +kernel
theorem dX5_track_20 : decode cX5_track 20 = .ok (.getfield 177, 3) := by decide +kernel
theorem dX5_track_23 : decode cX5_track 23 = .ok (.invokevirtual 181, 3) := by decide +kernel
theorem dX5_track_26 : decode cX5_track 26 = .ok (.ireturn, 1) := by decide +kernel
theorem dX2_standAt_0 : decode cX2_standAt 0 = .ok (.aload_n 0, 1) := by decide +kernel
theorem dX2_standAt_1 : decode cX2_standAt 1 = .ok (.aload_n 0, 1) := by decide +kernel
theorem dX2_standAt_2 : decode cX2_standAt 2 = .ok (.iload_n 1, 1) := by decide +kernel
theorem dX2_standAt_3 : decode cX2_standAt 3 = .ok (.iconst 1, 1) := by decide +kernel
theorem dX2_standAt_4 : decode cX2_standAt 4 = .ok (.iadd, 1) := by decide +kernel
theorem dX2_standAt_5 : decode cX2_standAt 5 = .ok (.invokevirtual 58, 3) := by decide +kernel
theorem dX2_standAt_8 : decode cX2_standAt 8 = .ok (.iload_n 1, 1) := by decide +kernel
theorem dX2_standAt_9 : decode cX2_standAt 9 = .ok (.invokevirtual 73, 3) := by decide +kernel
theorem dX2_standAt_12 : decode cX2_standAt 12 = .ok (.return_, 1) := by decide +kernel
theorem dX2_standBehind_0 : decode cX2_standBehind 0 = .ok (.aload_n 0, 1) := by decide +kernel
theorem dX2_standBehind_1 : decode cX2_standBehind 1 = .ok (.getfield 21, 3) := by decide +kernel
theorem dX2_standBehind_4 : decode cX2_standBehind 4 = .ok (.invokevirtual 45, 3) := by decide +kernel
theorem dX2_standBehind_7 : decode cX2_standBehind 7 = .ok (.istore_n 3, 1) := by decide +kernel
theorem dX2_standBehind_8 : decode cX2_standBehind 8 = .ok (.iload_n 3, 1) := by decide +kernel
theorem dX2_standBehind_9 : decode cX2_standBehind 9 = .ok (.ifCond .ne 25, 3) := by decide +kernel
theorem dX2_standBehind_12 : decode cX2_standBehind 12 = .ok (.aload_n 0, 1) := by decide +kernel
theorem dX2_standBehind_13 : decode cX2_standBehind 13 = .ok (.getfield 37, 3) := by decide +kernel
theorem dX2_standBehind_16 : decode cX2_standBehind 16 = .ok (.aload_n 0, 1) := by decide +kernel
theorem dX2_standBehind_17 : decode cX2_standBehind 17 = .ok (.getfield 9, 3) := by decide +kernel
theorem dX2_standBehind_20 : decode cX2_standBehind 20 = .ok (.putfield 77, 3) := by decide +kernel
theorem dX2_standBehind_23 : decode cX2_standBehind 23 = .ok (.aload_n 0, 1) := by decide +kernel
theorem dX2_standBehind_24 : decode cX2_standBehind 24 = .ok (.getfield 37, 3) := by decide +kernel
theorem dX2_standBehind_27 : decode cX2_standBehind 27 = .ok (.iconst 0, 1) := by decide +kernel
theorem dX2_standBehind_28 : decode cX2_standBehind 28 = .ok (.putfield 80, 3) := by decide +kernel
theorem dX2_standBehind_31 : decode cX2_standBehind 31 = .ok (.goto 88, 3) := by decide +kernel
theorem dX2_standBehind_34 : decode cX2_standBehind 34 = .ok (.iload_n 1, 1) := by decide +kernel
theorem dX2_standBehind_35 : decode cX2_standBehind 35 = .ok (.ifCond .gt 24, 3) := by decide +kernel
theorem dX2_standBehind_38 : decode cX2_standBehind 38 = .ok (.aload_n 0, 1) := by decide +kernel
theorem dX2_standBehind_39 : decode cX2_standBehind 39 = .ok (.getfield 37, 3) := by decide +kernel
theorem dX2_standBehind_42 : decode cX2_standBehind 42 = .ok (.aload_n 0, 1) := by decide +kernel
theorem dX2_standBehind_43 : decode cX2_standBehind 43 = .ok (.getfield 21, 3) := by decide +kernel
theorem dX2_standBehind_46 : decode cX2_standBehind 46 = .ok (.iconst 0, 1) := by decide +kernel
theorem dX2_standBehind_47 : decode cX2_standBehind 47 = .ok (.invokevirtual 49, 3) := by decide +kernel
theorem dX2_standBehind_50 : decode cX2_standBehind 50 = .ok (.checkcast 53, 3) := by decide +kernel
theorem dX2_standBehind_53 : decode cX2_standBehind 53 = .ok (.invokevirtual 83, 3) := by decide +kernel
theorem dX2_standBehind_56 : decode cX2_standBehind 56 = .ok (.goto 63, 3) := by decide +kernel
theorem dX2_standBehind_59 : decode cX2_standBehind 59 = .ok (.iload_n 1, 1) := by decide +kernel
theorem dX2_standBehind_60 : decode cX2_standBehind 60 = .ok (.iload_n 3, 1) := by decide +kernel
theorem dX2_standBehind_61 : decode cX2_standBehind 61 = .ok (.if_icmp .lt 26, 3) := by decide +kernel
theorem dX2_standBehind_64 : decode cX2_standBehind 64 = .ok (.aload_n 0, 1) := by decide +kernel
theorem dX2_standBehind_65 : decode cX2_standBehind 65 = .ok (.getfield 37, 3) := by decide +kernel
theorem dX2_standBehind_68 : decode cX2_standBehind 68 = .ok (.aload_n 0, 1) := by decide +kernel
theorem dX2_standBehind_69 : decode cX2_standBehind 69 = .ok (.getfield 21, 3) := by decide +kernel
theorem dX2_standBehind_72 : decode cX2_standBehind 72 = .ok (.iload_n 3, 1) := by decide +kernel
theorem dX2_standBehind_73 : decode cX2_standBehind 73 = .ok (.iconst 1, 1) := by decide +kernel
theorem dX2_standBehind_74 : decode cX2_standBehind 74 = .ok (.isub, 1) := by decide +kernel
theorem dX2_standBehind_75 : decode cX2_standBehind 75 = .ok (.invokevirtual 49, 3) := by decide +kernel
theorem dX2_standBehind_78 : decode cX2_standBehind 78 = .ok (.checkcast 53, 3) := by decide +kernel
theorem dX2_standBehind_81 : decode cX2_standBehind 81 = .ok (.invokevirtual 83, 3) := by decide +kernel
theorem dX2_standBehind_84 : decode cX2_standBehind 84 = .ok (.goto 35, 3) := by decide +kernel
theorem dX2_standBehind_87 : decode cX2_standBehind 87 = .ok (.aload_n 0, 1) := by decide +kernel
theorem dX2_standBehind_88 : decode cX2_standBehind 88 = .ok (.getfield 37, 3) := by decide +kernel
theorem dX2_standBehind_91 : decode cX2_standBehind 91 = .ok (.aload_n 0, 1) := by decide +kernel
theorem dX2_standBehind_92 : decode cX2_standBehind 92 = .ok (.getfield 21, 3) := by decide +kernel
theorem dX2_standBehind_95 : decode cX2_standBehind 95 = .ok (.iload_n 1, 1) := by decide +kernel
theorem dX2_standBehind_96 : decode cX2_standBehind 96 = .ok (.iconst 1, 1) := by decide +kernel
theorem dX2_standBehind_97 : decode cX2_standBehind 97 = .ok (.isub, 1) := by decide +kernel
theorem dX2_standBehind_98 : decode cX2_standBehind 98 = .ok (.invokevirtual 49, 3) := by decide +kernel
theorem dX2_standBehind_101 : decode cX2_standBehind 101 = .ok (.checkcast 53, 3) := by decide +kernel
theorem dX2_standBehind_104 : decode cX2_standBehind 104 = .ok (.aload_n 0, 1) := by decide +kernel
theorem dX2_standBehind_105 : decode cX2_standBehind 105 = .ok (.getfield 21, 3) := by decide +kernel
theorem dX2_standBehind_108 : decode cX2_standBehind 108 = .ok (.iload_n 1, 1) := by decide +kernel
theorem dX2_standBehind_109 : decode cX2_standBehind 109 = .ok (.invokevirtual 49, 3) := by decide +kernel
theorem dX2_standBehind_112 : decode cX2_standBehind 112 = .ok (.checkcast 53, 3) := by decide +kernel
theorem dX2_standBehind_115 : decode cX2_standBehind 115 = .ok (.iload_n 2, 1) := by decide +kernel
theorem dX2_standBehind_116 : decode cX2_standBehind 116 = .ok (.invokevirtual 87, 3) := by decide +kernel
theorem dX2_standBehind_119 : decode cX2_standBehind 119 = .ok (.return_, 1) := by decide +kernel
theorem dX1_putAt_0 : decode cX1_putAt 0 = .ok (.aload_n 0, 1) := by decide +kernel
theorem dX1_putAt_1 : decode cX1_putAt 1 = .ok (.aload_n 1, 1) := by decide +kernel
theorem dX1_putAt_2 : decode cX1_putAt 2 = .ok (.getfield 18, 3) := by decide +kernel
theorem dX1_putAt_5 : decode cX1_putAt 5 = .ok (.putfield 9, 3) := by decide +kernel
theorem dX1_putAt_8 : decode cX1_putAt 8 = .ok (.aload_n 0, 1) := by decide +kernel
theorem dX1_putAt_9 : decode cX1_putAt 9 = .ok (.aload_n 1, 1) := by decide +kernel
theorem dX1_putAt_10 : decode cX1_putAt 10 = .ok (.getfield 21, 3) := by decide +kernel
theorem dX1_putAt_13 : decode cX1_putAt 13 = .ok (.putfield 15, 3) := by decide +kernel
theorem dX1_putAt_16 : decode cX1_putAt 16 = .ok (.return_, 1) := by decide +kernel
theorem dX1_putBetween_0 : decode cX1_putBetween 0 = .ok (.aload_n 2, 1) := by decide +kernel
theorem dX1_putBetween_1 : decode cX1_putBetween 1 = .ok (.getfield 22, 3) := by decide +kernel
theorem dX1_putBetween_4 : decode cX1_putBetween 4 = .ok (.aload_n 1, 1) := by decide +kernel
theorem dX1_putBetween_5 : decode cX1_putBetween 5 = .ok (.getfield 22, 3) := by decide +kernel
theorem dX1_putBetween_8 : decode cX1_putBetween 8 = .ok (.isub, 1) := by decide +kernel
theorem dX1_putBetween_9 : decode cX1_putBetween 9 = .ok (.istore 4, 2) := by decide +kernel
theorem dX1_putBetween_11 : decode cX1_putBetween 11 = .ok (.iload_n 3, 1) := by decide +kernel
theorem dX1_putBetween_12 : decode cX1_putBetween 12 = .ok (.aload_n 1, 1) := by decide +kernel
theorem dX1_putBetween_13 : decode cX1_putBetween 13 = .ok (.getfield 22, 3) := by decide +kernel
theorem dX1_putBetween_16 : decode cX1_putBetween 16 = .ok (.isub, 1) := by decide +kernel
theorem dX1_putBetween_17 : decode cX1_putBetween 17 = .ok (.istore 5, 2) := by decide +kernel
theorem dX1_putBetween_19 : decode cX1_putBetween 19 = .ok (.iload 4, 2) := by decide +kernel
theorem dX1_putBetween_21 : decode cX1_putBetween 21 = .ok (.ifCond .le 21, 3) := by decide +kernel
theorem dX1_putBetween_24 : decode cX1_putBetween 24 = .ok (.aload_n 1, 1) := by decide +kernel
theorem dX1_putBetween_25 : decode cX1_putBetween 25 = .ok (.getfield 25, 3) := by decide +kernel
theorem dX1_putBetween_28 : decode cX1_putBetween 28 = .ok (.iload 5, 2) := by decide +kernel
theorem dX1_putBetween_30 : decode cX1_putBetween 30 = .ok (.bipush 8, 2) := by decide +kernel
theorem dX1_putBetween_32 : decode cX1_putBetween 32 = .ok (.imul, 1) := by decide +kernel
theorem dX1_putBetween_33 : decode cX1_putBetween 33 = .ok (.iload 4, 2) := by decide +kernel
theorem dX1_putBetween_35 : decode cX1_putBetween 35 = .ok (.idiv, 1) := by decide +kernel
theorem dX1_putBetween_36 : decode cX1_putBetween 36 = .ok (.invokestatic 28, 3) := by decide +kernel
theorem dX1_putBetween_39 : decode cX1_putBetween 39 = .ok (.goto 4, 3) := by decide +kernel
theorem dX1_putBetween_42 : decode cX1_putBetween 42 = .ok (.iconst 0, 1) := by decide +kernel
theorem dX1_putBetween_43 : decode cX1_putBetween 43 = .ok (.istore 6, 2) := by decide +kernel
theorem dX1_putBetween_45 : decode cX1_putBetween 45 = .ok (.aload_n 0, 1) := by decide +kernel
theorem dX1_putBetween_46 : decode cX1_putBetween 46 = .ok (.aload_n 1, 1) := by decide +kernel
theorem dX1_putBetween_47 : decode cX1_putBetween 47 = .ok (.getfield 18, 3) := by decide +kernel
theorem dX1_putBetween_50 : decode cX1_putBetween 50 = .ok (.aload_n 2, 1) := by decide +kernel
theorem dX1_putBetween_51 : decode cX1_putBetween 51 = .ok (.getfield 18, 3) := by decide +kernel
theorem dX1_putBetween_54 : decode cX1_putBetween 54 = .ok (.aload_n 1, 1) := by decide +kernel
theorem dX1_putBetween_55 : decode cX1_putBetween 55 = .ok (.getfield 18, 3) := by decide +kernel
theorem dX1_putBetween_58 : decode cX1_putBetween 58 = .ok (.isub, 1) := by decide +kernel
theorem dX1_putBetween_59 : decode cX1_putBetween 59 = .ok (.iload 6, 2) := by decide +kernel
theorem dX1_putBetween_61 : decode cX1_putBetween 61 = .ok (.imul, 1) := by decide +kernel
theorem dX1_putBetween_62 : decode cX1_putBetween 62 = .ok (.bipush 64, 2) := by decide +kernel
theorem dX1_putBetween_64 : decode cX1_putBetween 64 = .ok (.idiv, 1) := by decide +kernel
theorem dX1_putBetween_65 : decode cX1_putBetween 65 = .ok (.iadd, 1) := by decide +kernel
theorem dX1_putBetween_66 : decode cX1_putBetween 66 = .ok (.putfield 9, 3) := by decide +kernel
theorem dX1_putBetween_69 : decode cX1_putBetween 69 = .ok (.aload_n 0, 1) := by decide +kernel
theorem dX1_putBetween_70 : decode cX1_putBetween 70 = .ok (.aload_n 1, 1) := by decide +kernel
theorem dX1_putBetween_71 : decode cX1_putBetween 71 = .ok (.getfield 21, 3) := by decide +kernel
theorem dX1_putBetween_74 : decode cX1_putBetween 74 = .ok (.aload_n 2, 1) := by decide +kernel
theorem dX1_putBetween_75 : decode cX1_putBetween 75 = .ok (.getfield 21, 3) := by decide +kernel
theorem dX1_putBetween_78 : decode cX1_putBetween 78 = .ok (.aload_n 1, 1) := by decide +kernel
theorem dX1_putBetween_79 : decode cX1_putBetween 79 = .ok (.getfield 21, 3) := by decide +kernel
theorem dX1_putBetween_82 : decode cX1_putBetween 82 = .ok (.isub, 1) := by decide +kernel
theorem dX1_putBetween_83 : decode cX1_putBetween 83 = .ok (.iload 6, 2) := by decide +kernel
theorem dX1_putBetween_85 : decode cX1_putBetween 85 = .ok (.imul, 1) := by decide +kernel
theorem dX1_putBetween_86 : decode cX1_putBetween 86 = .ok (.bipush 64, 2) := by decide +kernel
theorem dX1_putBetween_88 : decode cX1_putBetween 88 = .ok (.idiv, 1) := by decide +kernel
theorem dX1_putBetween_89 : decode cX1_putBetween 89 = .ok (.iadd, 1) := by decide +kernel
theorem dX1_putBetween_90 : decode cX1_putBetween 90 = .ok (.putfield 15, 3) := by decide +kernel
theorem dX1_putBetween_93 : decode cX1_putBetween 93 = .ok (.return_, 1) := by decide +kernel
theorem dX5_easing_0 : decode cX5_easing 0 = .ok (.iload_n 0, 1) := by decide +kernel
theorem dX5_easing_1 : decode cX5_easing 1 = .ok (.bipush 8, 2) := by decide +kernel
theorem dX5_easing_3 : decode cX5_easing 3 = .ok (.imul, 1) := by decide +kernel
theorem dX5_easing_4 : decode cX5_easing 4 = .ok (.iload_n 1, 1) := by decide +kernel
theorem dX5_easing_5 : decode cX5_easing 5 = .ok (.iadd, 1) := by decide +kernel
theorem dX5_easing_6 : decode cX5_easing 6 = .ok (.istore_n 2, 1) := by decide +kernel
theorem dX5_easing_7 : decode cX5_easing 7 = .ok (.iload_n 2, 1) := by decide +kernel
theorem dX5_easing_8 : decode cX5_easing 8 = .ok (.ifCond .lt 11, 3) := by decide +kernel
theorem dX5_easing_11 : decode cX5_easing 11 = .ok (.iload_n 2, 1) := by decide +kernel
theorem dX5_easing_12 : decode cX5_easing 12 = .ok (.getstatic 249, 3) := by decide +kernel
theorem dX5_easing_15 : decode cX5_easing 15 = .ok (.arraylength, 1) := by decide +kernel
theorem dX5_easing_16 : decode cX5_easing 16 = .ok (.if_icmp .lt 7, 3) := by decide +kernel
theorem dX5_easing_19 : decode cX5_easing 19 = .ok (.iconst 0, 1) := by decide +kernel
theorem dX5_easing_20 : decode cX5_easing 20 = .ok (.goto 8, 3) := by decide +kernel
theorem dX5_easing_23 : decode cX5_easing 23 = .ok (.getstatic 249, 3) := by decide +kernel
theorem dX5_easing_26 : decode cX5_easing 26 = .ok (.iload_n 2, 1) := by decide +kernel
theorem dX5_easing_27 : decode cX5_easing 27 = .ok (.iaload, 1) := by decide +kernel
theorem dX5_easing_28 : decode cX5_easing 28 = .ok (.ireturn, 1) := by decide +kernel
theorem dX1_together_0 : decode cX1_together 0 = .ok (.sipush 1000, 3) := by decide +kernel
theorem dX1_together_3 : decode cX1_together 3 = .ok (.aload_n 0, 1) := by decide +kernel
theorem dX1_together_4 : decode cX1_together 4 = .ok (.getfield 9, 3) := by decide +kernel
theorem dX1_together_7 : decode cX1_together 7 = .ok (.imul, 1) := by decide +kernel
theorem dX1_together_8 : decode cX1_together 8 = .ok (.aload_n 0, 1) := by decide +kernel
theorem dX1_together_9 : decode cX1_together 9 = .ok (.getfield 15, 3) := by decide +kernel
theorem dX1_together_12 : decode cX1_together 12 = .ok (.iadd, 1) := by decide +kernel
theorem dX1_together_13 : decode cX1_together 13 = .ok (.ireturn, 1) := by decide +kernel
theorem dX5_trackByFrames_0 : decode cX5_trackByFrames 0 = .ok (.aload_n 0, 1) := by decide +kernel
theorem dX5_trackByFrames_1 : decode cX5_trackByFrames 1 = .ok (.iload_n 1, 1) := by decide +kernel
theorem dX5_trackByFrames_2 : decode cX5_trackByFrames 2 = .ok (.invokevirtual 57, 3) := by decide +kernel
theorem dX5_trackByFrames_5 : decode cX5_trackByFrames 5 = .ok (.astore_n 3, 1) := by decide +kernel
theorem dX5_trackByFrames_6 : decode cX5_trackByFrames 6 = .ok (.iload_n 2, 1) := by decide +kernel
theorem dX5_trackByFrames_7 : decode cX5_trackByFrames 7 = .ok (.iconst 0, 1) := by decide +kernel
theorem dX5_trackByFrames_8 : decode cX5_trackByFrames 8 = .ok (.sipush 1999, 3) := by decide +kernel
theorem dX5_trackByFrames_11 : decode cX5_trackByFrames 11 = .ok (.invokestatic 33, 3) := by decide +kernel
theorem dX5_trackByFrames_14 : decode cX5_trackByFrames 14 = .ok (.aload_n 3, 1) := by decide +kernel
theorem dX5_trackByFrames_15 : decode cX5_trackByFrames 15 = .ok (.iload_n 2, 1) := by decide +kernel
theorem dX5_trackByFrames_16 : decode cX5_trackByFrames 16 = .ok (.invokevirtual 186, 3) := by decide +kernel
theorem dX5_trackByFrames_19 : decode cX5_trackByFrames 19 = .ok (.aload_n 3, 1) := by decide +kernel
theorem dX5_trackByFrames_20 : decode cX5_trackByFrames 20 = .ok (.getfield 177, 3) := by decide +kernel
theorem dX5_trackByFrames_23 : decode cX5_trackByFrames 23 = .ok (.invokevirtual 181, 3) := by decide +kernel
theorem dX5_trackByFrames_26 : decode cX5_trackByFrames 26 = .ok (.ireturn, 1) := by decide +kernel
theorem dX2_walkTo_0 : decode cX2_walkTo 0 = .ok (.iconst 0, 1) := by decide +kernel
theorem dX2_walkTo_1 : decode cX2_walkTo 1 = .ok (.istore_n 2, 1) := by decide +kernel
theorem dX2_walkTo_2 : decode cX2_walkTo 2 = .ok (.iconst 0, 1) := by decide +kernel
theorem dX2_walkTo_3 : decode cX2_walkTo 3 = .ok (.istore_n 3, 1) := by decide +kernel
theorem dX2_walkTo_4 : decode cX2_walkTo 4 = .ok (.iload_n 3, 1) := by decide +kernel
theorem dX2_walkTo_5 : decode cX2_walkTo 5 = .ok (.iload_n 1, 1) := by decide +kernel
theorem dX2_walkTo_6 : decode cX2_walkTo 6 = .ok (.if_icmp .gt 47, 3) := by decide +kernel
theorem dX2_walkTo_9 : decode cX2_walkTo 9 = .ok (.iload_n 2, 1) := by decide +kernel
theorem dX2_walkTo_10 : decode cX2_walkTo 10 = .ok (.aload_n 0, 1) := by decide +kernel
theorem dX2_walkTo_11 : decode cX2_walkTo 11 = .ok (.getfield 21, 3) := by decide +kernel
theorem dX2_walkTo_14 : decode cX2_walkTo 14 = .ok (.invokevirtual 45, 3) := by decide +kernel
theorem dX2_walkTo_17 : decode cX2_walkTo 17 = .ok (.if_icmp .ge 24, 3) := by decide +kernel
theorem dX2_walkTo_20 : decode cX2_walkTo 20 = .ok (.aload_n 0, 1) := by decide +kernel
theorem dX2_walkTo_21 : decode cX2_walkTo 21 = .ok (.getfield 21, 3) := by decide +kernel
theorem dX2_walkTo_24 : decode cX2_walkTo 24 = .ok (.iload_n 2, 1) := by decide +kernel
theorem dX2_walkTo_25 : decode cX2_walkTo 25 = .ok (.invokevirtual 49, 3) := by decide +kernel
theorem dX2_walkTo_28 : decode cX2_walkTo 28 = .ok (.checkcast 53, 3) := by decide +kernel
theorem dX2_walkTo_31 : decode cX2_walkTo 31 = .ok (.getfield 55, 3) := by decide +kernel
theorem dX2_walkTo_34 : decode cX2_walkTo 34 = .ok (.iload_n 3, 1) := by decide +kernel
theorem dX2_walkTo_35 : decode cX2_walkTo 35 = .ok (.if_icmp .ne 6, 3) := by decide +kernel
theorem dX2_walkTo_38 : decode cX2_walkTo 38 = .ok (.iinc 2 1, 3) := by decide +kernel
theorem dX2_walkTo_41 : decode cX2_walkTo 41 = .ok (.aload_n 0, 1) := by decide +kernel
theorem dX2_walkTo_42 : decode cX2_walkTo 42 = .ok (.iload_n 2, 1) := by decide +kernel
theorem dX2_walkTo_43 : decode cX2_walkTo 43 = .ok (.iload_n 3, 1) := by decide +kernel
theorem dX2_walkTo_44 : decode cX2_walkTo 44 = .ok (.invokevirtual 73, 3) := by decide +kernel
theorem dX2_walkTo_47 : decode cX2_walkTo 47 = .ok (.iinc 3 1, 3) := by decide +kernel
theorem dX2_walkTo_50 : decode cX2_walkTo 50 = .ok (.goto (-46), 3) := by decide +kernel
theorem dX2_walkTo_53 : decode cX2_walkTo 53 = .ok (.return_, 1) := by decide +kernel
theorem dX5_x_0 : decode cX5_x 0 = .ok (.aload_n 0, 1) := by decide +kernel
theorem dX5_x_1 : decode cX5_x 1 = .ok (.iload_n 1, 1) := by decide +kernel
theorem dX5_x_2 : decode cX5_x 2 = .ok (.iload_n 2, 1) := by decide +kernel
theorem dX5_x_3 : decode cX5_x 3 = .ok (.invokevirtual 189, 3) := by decide +kernel
theorem dX5_x_6 : decode cX5_x 6 = .ok (.astore 4, 2) := by decide +kernel
theorem dX5_x_8 : decode cX5_x 8 = .ok (.iload_n 3, 1) := by decide +kernel
theorem dX5_x_9 : decode cX5_x 9 = .ok (.iconst 0, 1) := by decide +kernel
theorem dX5_x_10 : decode cX5_x 10 = .ok (.sipush 1999, 3) := by decide +kernel
theorem dX5_x_13 : decode cX5_x 13 = .ok (.invokestatic 33, 3) := by decide +kernel
theorem dX5_x_16 : decode cX5_x 16 = .ok (.aload_n 0, 1) := by decide +kernel
theorem dX5_x_17 : decode cX5_x 17 = .ok (.aload 4, 2) := by decide +kernel
theorem dX5_x_19 : decode cX5_x 19 = .ok (.iload_n 2, 1) := by decide +kernel
theorem dX5_x_20 : decode cX5_x 20 = .ok (.iload_n 3, 1) := by decide +kernel
theorem dX5_x_21 : decode cX5_x 21 = .ok (.invokevirtual 193, 3) := by decide +kernel
theorem dX5_x_24 : decode cX5_x 24 = .ok (.getfield 177, 3) := by decide +kernel
theorem dX5_x_27 : decode cX5_x 27 = .ok (.getfield 197, 3) := by decide +kernel
theorem dX5_x_30 : decode cX5_x 30 = .ok (.ireturn, 1) := by decide +kernel
theorem dX5_showWith_0 : decode cX5_showWith 0 = .ok (.aload_n 0, 1) := by decide +kernel
theorem dX5_showWith_1 : decode cX5_showWith 1 = .ok (.iload_n 1, 1) := by decide +kernel
theorem dX5_showWith_2 : decode cX5_showWith 2 = .ok (.invokevirtual 110, 3) := by decide +kernel
theorem dX5_showWith_5 : decode cX5_showWith 5 = .ok (.astore_n 3, 1) := by decide +kernel
theorem dX5_showWith_6 : decode cX5_showWith 6 = .ok (.aload_n 3, 1) := by decide +kernel
theorem dX5_showWith_7 : decode cX5_showWith 7 = .ok (.iload_n 2, 1) := by decide +kernel
theorem dX5_showWith_8 : decode cX5_showWith 8 = .ok (.invokevirtual 118, 3) := by decide +kernel
theorem dX5_showWith_11 : decode cX5_showWith 11 = .ok (.ifCond .ne 13, 3) := by decide +kernel
theorem dX5_showWith_14 : decode cX5_showWith 14 = .ok (.new 91, 3) := by decide +kernel
theorem dX5_showWith_17 : decode cX5_showWith 17 = .ok (.dup, 1) := by decide +kernel
theorem dX5_showWith_18 : decode cX5_showWith 18 = .ok (.ldc 219, 2) := by decide +kernel
theorem dX5_showWith_20 : decode cX5_showWith 20 = .ok (.invokespecial 95, 3) := by decide +kernel
theorem dX5_showWith_23 : decode cX5_showWith 23 = .ok (.athrow, 1) := by decide +kernel
theorem dX5_showWith_24 : decode cX5_showWith 24 = .ok (.aload_n 3, 1) := by decide +kernel
theorem dX5_showWith_25 : decode cX5_showWith 25 = .ok (.areturn, 1) := by decide +kernel
theorem dX5_settled_0 : decode cX5_settled 0 = .ok (.aload_n 0, 1) := by decide +kernel
theorem dX5_settled_1 : decode cX5_settled 1 = .ok (.iload_n 2, 1) := by decide +kernel
theorem dX5_settled_2 : decode cX5_settled 2 = .ok (.invokevirtual 57, 3) := by decide +kernel
theorem dX5_settled_5 : decode cX5_settled 5 = .ok (.astore 4, 2) := by decide +kernel
theorem dX5_settled_7 : decode cX5_settled 7 = .ok (.iconst 0, 1) := by decide +kernel
theorem dX5_settled_8 : decode cX5_settled 8 = .ok (.istore 5, 2) := by decide +kernel
theorem dX5_settled_10 : decode cX5_settled 10 = .ok (.iload 5, 2) := by decide +kernel
theorem dX5_settled_12 : decode cX5_settled 12 = .ok (.iload_n 2, 1) := by decide +kernel
theorem dX5_settled_13 : decode cX5_settled 13 = .ok (.if_icmp .gt 70, 3) := by decide +kernel
theorem dX5_settled_16 : decode cX5_settled 16 = .ok (.iload 5, 2) := by decide +kernel
theorem dX5_settled_18 : decode cX5_settled 18 = .ok (.aload_n 0, 1) := by decide +kernel
theorem dX5_settled_19 : decode cX5_settled 19 = .ok (.getfield 10, 3) := by decide +kernel
theorem dX5_settled_22 : decode cX5_settled 22 = .ok (.invokevirtual 37, 3) := by decide +kernel
theorem dX5_settled_25 : decode cX5_settled 25 = .ok (.if_icmp .ge 58, 3) := by decide +kernel
theorem dX5_settled_28 : decode cX5_settled 28 = .ok (.aload_n 1, 1) := by decide +kernel
theorem dX5_settled_29 : decode cX5_settled 29 = .ok (.iload 5, 2) := by decide +kernel
theorem dX5_settled_31 : decode cX5_settled 31 = .ok (.invokevirtual 118, 3) := by decide +kernel
theorem dX5_settled_34 : decode cX5_settled 34 = .ok (.ifCond .eq 43, 3) := by decide +kernel
theorem dX5_settled_37 : decode cX5_settled 37 = .ok (.aload_n 0, 1) := by decide +kernel
theorem dX5_settled_38 : decode cX5_settled 38 = .ok (.getfield 10, 3) := by decide +kernel
theorem dX5_settled_41 : decode cX5_settled 41 = .ok (.iload 5, 2) := by decide +kernel
theorem dX5_settled_43 : decode cX5_settled 43 = .ok (.invokevirtual 157, 3) := by decide +kernel
theorem dX5_settled_46 : decode cX5_settled 46 = .ok (.checkcast 48, 3) := by decide +kernel
theorem dX5_settled_49 : decode cX5_settled 49 = .ok (.astore 6, 2) := by decide +kernel
theorem dX5_settled_51 : decode cX5_settled 51 = .ok (.aload 6, 2) := by decide +kernel
theorem dX5_settled_53 : decode cX5_settled 53 = .ok (.aload_n 0, 1) := by decide +kernel
theorem dX5_settled_54 : decode cX5_settled 54 = .ok (.aload 6, 2) := by decide +kernel
theorem dX5_settled_56 : decode cX5_settled 56 = .ok (.iload_n 3, 1) := by decide +kernel
theorem dX5_settled_57 : decode cX5_settled 57 = .ok (.invokevirtual 234, 3) := by decide +kernel
theorem dX5_settled_60 : decode cX5_settled 60 = .ok (.invokevirtual 174, 3) := by decide +kernel
theorem dX5_settled_63 : decode cX5_settled 63 = .ok (.aload 6, 2) := by decide +kernel
theorem dX5_settled_65 : decode cX5_settled 65 = .ok (.invokevirtual 238, 3) := by decide +kernel
theorem dX5_settled_68 : decode cX5_settled 68 = .ok (.aload_n 0, 1) := by decide +kernel
theorem dX5_settled_69 : decode cX5_settled 69 = .ok (.aload_n 1, 1) := by decide +kernel
theorem dX5_settled_70 : decode cX5_settled 70 = .ok (.aload 6, 2) := by decide +kernel
theorem dX5_settled_72 : decode cX5_settled 72 = .ok (.iload 5, 2) := by decide +kernel
theorem dX5_settled_74 : decode cX5_settled 74 = .ok (.invokevirtual 241, 3) := by decide +kernel
theorem dX5_settled_77 : decode cX5_settled 77 = .ok (.iinc 5 1, 3) := by decide +kernel
theorem dX5_settled_80 : decode cX5_settled 80 = .ok (.goto (-70), 3) := by decide +kernel
theorem dX5_settled_83 : decode cX5_settled 83 = .ok (.aload 4, 2) := by decide +kernel
theorem dX5_settled_85 : decode cX5_settled 85 = .ok (.areturn, 1) := by decide +kernel
theorem dX5_ownFrame_0 : decode cX5_ownFrame 0 = .ok (.aload_n 1, 1) := by decide +kernel
theorem dX5_ownFrame_1 : decode cX5_ownFrame 1 = .ok (.getfield 96, 3) := by decide +kernel
theorem dX5_ownFrame_4 : decode cX5_ownFrame 4 = .ok (.ifCond .lt 15, 3) := by decide +kernel
theorem dX5_ownFrame_7 : decode cX5_ownFrame 7 = .ok (.aload_n 1, 1) := by decide +kernel
theorem dX5_ownFrame_8 : decode cX5_ownFrame 8 = .ok (.getfield 96, 3) := by decide +kernel
theorem dX5_ownFrame_11 : decode cX5_ownFrame 11 = .ok (.aload_n 0, 1) := by decide +kernel
theorem dX5_ownFrame_12 : decode cX5_ownFrame 12 = .ok (.getfield 19, 3) := by decide +kernel
theorem dX5_ownFrame_15 : decode cX5_ownFrame 15 = .ok (.arraylength, 1) := by decide +kernel
theorem dX5_ownFrame_16 : decode cX5_ownFrame 16 = .ok (.if_icmp .lt 5, 3) := by decide +kernel
theorem dX5_ownFrame_19 : decode cX5_ownFrame 19 = .ok (.iload_n 2, 1) := by decide +kernel
theorem dX5_ownFrame_20 : decode cX5_ownFrame 20 = .ok (.ireturn, 1) := by decide +kernel
theorem dX5_ownFrame_21 : decode cX5_ownFrame 21 = .ok (.aload_n 0, 1) := by decide +kernel
theorem dX5_ownFrame_22 : decode cX5_ownFrame 22 = .ok (.getfield 19, 3) := by decide +kernel
theorem dX5_ownFrame_25 : decode cX5_ownFrame 25 = .ok (.aload_n 1, 1) := by decide +kernel
theorem dX5_ownFrame_26 : decode cX5_ownFrame 26 = .ok (.getfield 96, 3) := by decide +kernel
theorem dX5_ownFrame_29 : decode cX5_ownFrame 29 = .ok (.iaload, 1) := by decide +kernel
theorem dX5_ownFrame_30 : decode cX5_ownFrame 30 = .ok (.istore_n 3, 1) := by decide +kernel
theorem dX5_ownFrame_31 : decode cX5_ownFrame 31 = .ok (.iload_n 3, 1) := by decide +kernel
theorem dX5_ownFrame_32 : decode cX5_ownFrame 32 = .ok (.iconst (-1), 1) := by decide +kernel
theorem dX5_ownFrame_33 : decode cX5_ownFrame 33 = .ok (.if_icmp .ne 7, 3) := by decide +kernel
theorem dX5_ownFrame_36 : decode cX5_ownFrame 36 = .ok (.iconst 0, 1) := by decide +kernel
theorem dX5_ownFrame_37 : decode cX5_ownFrame 37 = .ok (.goto 10, 3) := by decide +kernel
theorem dX5_ownFrame_40 : decode cX5_ownFrame 40 = .ok (.iconst 0, 1) := by decide +kernel
theorem dX5_ownFrame_41 : decode cX5_ownFrame 41 = .ok (.iload_n 2, 1) := by decide +kernel
theorem dX5_ownFrame_42 : decode cX5_ownFrame 42 = .ok (.iload_n 3, 1) := by decide +kernel
theorem dX5_ownFrame_43 : decode cX5_ownFrame 43 = .ok (.isub, 1) := by decide +kernel
theorem dX5_ownFrame_44 : decode cX5_ownFrame 44 = .ok (.invokestatic 228, 3) := by decide +kernel
theorem dX5_ownFrame_47 : decode cX5_ownFrame 47 = .ok (.ireturn, 1) := by decide +kernel
theorem dX2_pull_0 : decode cX2_pull 0 = .ok (.aload_n 0, 1) := by decide +kernel
theorem dX2_pull_1 : decode cX2_pull 1 = .ok (.getfield 15, 3) := by decide +kernel
theorem dX2_pull_4 : decode cX2_pull 4 = .ok (.aload_n 0, 1) := by decide +kernel
theorem dX2_pull_5 : decode cX2_pull 5 = .ok (.getfield 15, 3) := by decide +kernel
theorem dX2_pull_8 : decode cX2_pull 8 = .ok (.imul, 1) := by decide +kernel
theorem dX2_pull_9 : decode cX2_pull 9 = .ok (.istore_n 1, 1) := by decide +kernel
theorem dX2_pull_10 : decode cX2_pull 10 = .ok (.aload_n 0, 1) := by decide +kernel
theorem dX2_pull_11 : decode cX2_pull 11 = .ok (.invokevirtual 91, 3) := by decide +kernel
theorem dX2_pull_14 : decode cX2_pull 14 = .ok (.iload_n 1, 1) := by decide +kernel
theorem dX2_pull_15 : decode cX2_pull 15 = .ok (.if_icmp .gt 4, 3) := by decide +kernel
theorem dX2_pull_18 : decode cX2_pull 18 = .ok (.return_, 1) := by decide +kernel
theorem dX2_pull_19 : decode cX2_pull 19 = .ok (.aload_n 0, 1) := by decide +kernel
theorem dX2_pull_20 : decode cX2_pull 20 = .ok (.getfield 15, 3) := by decide +kernel
theorem dX2_pull_23 : decode cX2_pull 23 = .ok (.ineg, 1) := by decide +kernel
theorem dX2_pull_24 : decode cX2_pull 24 = .ok (.aload_n 0, 1) := by decide +kernel
theorem dX2_pull_25 : decode cX2_pull 25 = .ok (.getfield 15, 3) := by decide +kernel
theorem dX2_pull_28 : decode cX2_pull 28 = .ok (.aload_n 0, 1) := by decide +kernel
theorem dX2_pull_29 : decode cX2_pull 29 = .ok (.getfield 37, 3) := by decide +kernel
theorem dX2_pull_32 : decode cX2_pull 32 = .ok (.getfield 77, 3) := by decide +kernel
theorem dX2_pull_35 : decode cX2_pull 35 = .ok (.aload_n 0, 1) := by decide +kernel
theorem dX2_pull_36 : decode cX2_pull 36 = .ok (.getfield 9, 3) := by decide +kernel
theorem dX2_pull_39 : decode cX2_pull 39 = .ok (.isub, 1) := by decide +kernel
theorem dX2_pull_40 : decode cX2_pull 40 = .ok (.invokestatic 94, 3) := by decide +kernel
theorem dX2_pull_43 : decode cX2_pull 43 = .ok (.invokestatic 100, 3) := by decide +kernel
theorem dX2_pull_46 : decode cX2_pull 46 = .ok (.istore_n 2, 1) := by decide +kernel
theorem dX2_pull_47 : decode cX2_pull 47 = .ok (.aload_n 0, 1) := by decide +kernel
theorem dX2_pull_48 : decode cX2_pull 48 = .ok (.getfield 37, 3) := by decide +kernel
theorem dX2_pull_51 : decode cX2_pull 51 = .ok (.aload_n 0, 1) := by decide +kernel
theorem dX2_pull_52 : decode cX2_pull 52 = .ok (.getfield 9, 3) := by decide +kernel
theorem dX2_pull_55 : decode cX2_pull 55 = .ok (.iload_n 2, 1) := by decide +kernel
theorem dX2_pull_56 : decode cX2_pull 56 = .ok (.iadd, 1) := by decide +kernel
theorem dX2_pull_57 : decode cX2_pull 57 = .ok (.putfield 77, 3) := by decide +kernel
theorem dX2_pull_60 : decode cX2_pull 60 = .ok (.aload_n 0, 1) := by decide +kernel
theorem dX2_pull_61 : decode cX2_pull 61 = .ok (.getfield 37, 3) := by decide +kernel
theorem dX2_pull_64 : decode cX2_pull 64 = .ok (.iload_n 1, 1) := by decide +kernel
theorem dX2_pull_65 : decode cX2_pull 65 = .ok (.iload_n 2, 1) := by decide +kernel
theorem dX2_pull_66 : decode cX2_pull 66 = .ok (.iload_n 2, 1) := by decide +kernel
theorem dX2_pull_67 : decode cX2_pull 67 = .ok (.imul, 1) := by decide +kernel
theorem dX2_pull_68 : decode cX2_pull 68 = .ok (.isub, 1) := by decide +kernel
theorem dX2_pull_69 : decode cX2_pull 69 = .ok (.invokestatic 103, 3) := by decide +kernel
theorem dX2_pull_72 : decode cX2_pull 72 = .ok (.putfield 80, 3) := by decide +kernel
theorem dX2_pull_75 : decode cX2_pull 75 = .ok (.return_, 1) := by decide +kernel
theorem dX2_squareFromBar_0 : decode cX2_squareFromBar 0 = .ok (.aload_n 0, 1) := by decide +kernel
theorem dX2_squareFromBar_1 : decode cX2_squareFromBar 1 = .ok (.getfield 37, 3) := by decide +kernel
theorem dX2_squareFromBar_4 : decode cX2_squareFromBar 4 = .ok (.getfield 77, 3) := by decide +kernel
theorem dX2_squareFromBar_7 : decode cX2_squareFromBar 7 = .ok (.aload_n 0, 1) := by decide +kernel
theorem dX2_squareFromBar_8 : decode cX2_squareFromBar 8 = .ok (.getfield 9, 3) := by decide +kernel
theorem dX2_squareFromBar_11 : decode cX2_squareFromBar 11 = .ok (.isub, 1) := by decide +kernel
theorem dX2_squareFromBar_12 : decode cX2_squareFromBar 12 = .ok (.istore_n 1, 1) := by decide +kernel
theorem dX2_squareFromBar_13 : decode cX2_squareFromBar 13 = .ok (.iload_n 1, 1) := by decide +kernel
theorem dX2_squareFromBar_14 : decode cX2_squareFromBar 14 = .ok (.iload_n 1, 1) := by decide +kernel
theorem dX2_squareFromBar_15 : decode cX2_squareFromBar 15 = .ok (.imul, 1) := by decide +kernel
theorem dX2_squareFromBar_16 : decode cX2_squareFromBar 16 = .ok (.aload_n 0, 1) := by decide +kernel
theorem dX2_squareFromBar_17 : decode cX2_squareFromBar 17 = .ok (.getfield 37, 3) := by decide +kernel
theorem dX2_squareFromBar_20 : decode cX2_squareFromBar 20 = .ok (.getfield 80, 3) := by decide +kernel
theorem dX2_squareFromBar_23 : decode cX2_squareFromBar 23 = .ok (.aload_n 0, 1) := by decide +kernel
theorem dX2_squareFromBar_24 : decode cX2_squareFromBar 24 = .ok (.getfield 37, 3) := by decide +kernel
theorem dX2_squareFromBar_27 : decode cX2_squareFromBar 27 = .ok (.getfield 80, 3) := by decide +kernel
theorem dX2_squareFromBar_30 : decode cX2_squareFromBar 30 = .ok (.imul, 1) := by decide +kernel
theorem dX2_squareFromBar_31 : decode cX2_squareFromBar 31 = .ok (.iadd, 1) := by decide +kernel
theorem dX2_squareFromBar_32 : decode cX2_squareFromBar 32 = .ok (.ireturn, 1) := by decide +kernel
theorem dX5_rootBelow_0 : decode cX5_rootBelow 0 = .ok (.iconst 0, 1) := by decide +kernel
theorem dX5_rootBelow_1 : decode cX5_rootBelow 1 = .ok (.istore_n 1, 1) := by decide +kernel
theorem dX5_rootBelow_2 : decode cX5_rootBelow 2 = .ok (.sipush 1024, 3) := by decide +kernel
theorem dX5_rootBelow_5 : decode cX5_rootBelow 5 = .ok (.istore_n 2, 1) := by decide +kernel
theorem dX5_rootBelow_6 : decode cX5_rootBelow 6 = .ok (.iload_n 2, 1) := by decide +kernel
theorem dX5_rootBelow_7 : decode cX5_rootBelow 7 = .ok (.ifCond .le 23, 3) := by decide +kernel
theorem dX5_rootBelow_10 : decode cX5_rootBelow 10 = .ok (.iload_n 1, 1) := by decide +kernel
theorem dX5_rootBelow_11 : decode cX5_rootBelow 11 = .ok (.iload_n 2, 1) := by decide +kernel
theorem dX5_rootBelow_12 : decode cX5_rootBelow 12 = .ok (.iadd, 1) := by decide +kernel
theorem dX5_rootBelow_13 : decode cX5_rootBelow 13 = .ok (.istore_n 3, 1) := by decide +kernel
theorem dX5_rootBelow_14 : decode cX5_rootBelow 14 = .ok (.iload_n 3, 1) := by decide +kernel
theorem dX5_rootBelow_15 : decode cX5_rootBelow 15 = .ok (.iload_n 3, 1) := by decide +kernel
theorem dX5_rootBelow_16 : decode cX5_rootBelow 16 = .ok (.imul, 1) := by decide +kernel
theorem dX5_rootBelow_17 : decode cX5_rootBelow 17 = .ok (.iload_n 0, 1) := by decide +kernel
theorem dX5_rootBelow_18 : decode cX5_rootBelow 18 = .ok (.if_icmp .gt 5, 3) := by decide +kernel
theorem dX5_rootBelow_21 : decode cX5_rootBelow 21 = .ok (.iload_n 3, 1) := by decide +kernel
theorem dX5_rootBelow_22 : decode cX5_rootBelow 22 = .ok (.istore_n 1, 1) := by decide +kernel
theorem dX5_rootBelow_23 : decode cX5_rootBelow 23 = .ok (.iload_n 2, 1) := by decide +kernel
theorem dX5_rootBelow_24 : decode cX5_rootBelow 24 = .ok (.iconst 2, 1) := by decide +kernel
theorem dX5_rootBelow_25 : decode cX5_rootBelow 25 = .ok (.idiv, 1) := by decide +kernel
theorem dX5_rootBelow_26 : decode cX5_rootBelow 26 = .ok (.istore_n 2, 1) := by decide +kernel
theorem dX5_rootBelow_27 : decode cX5_rootBelow 27 = .ok (.goto (-21), 3) := by decide +kernel
theorem dX5_rootBelow_30 : decode cX5_rootBelow 30 = .ok (.iload_n 1, 1) := by decide +kernel
theorem dX5_rootBelow_31 : decode cX5_rootBelow 31 = .ok (.ireturn, 1) := by decide +kernel
theorem dX5_keepOffLower_0 : decode cX5_keepOffLower 0 = .ok (.aload_n 2, 1) := by decide +kernel
theorem dX5_keepOffLower_1 : decode cX5_keepOffLower 1 = .ok (.iconst 0, 1) := by decide +kernel
theorem dX5_keepOffLower_2 : decode cX5_keepOffLower 2 = .ok (.putfield 203, 3) := by decide +kernel
theorem dX5_keepOffLower_5 : decode cX5_keepOffLower 5 = .ok (.iconst 0, 1) := by decide +kernel
theorem dX5_keepOffLower_6 : decode cX5_keepOffLower 6 = .ok (.istore 4, 2) := by decide +kernel
theorem dX5_keepOffLower_8 : decode cX5_keepOffLower 8 = .ok (.iload 4, 2) := by decide +kernel
theorem dX5_keepOffLower_10 : decode cX5_keepOffLower 10 = .ok (.iload_n 3, 1) := by decide +kernel
theorem dX5_keepOffLower_11 : decode cX5_keepOffLower 11 = .ok (.if_icmp .ge 49, 3) := by decide +kernel
theorem dX5_keepOffLower_14 : decode cX5_keepOffLower 14 = .ok (.iload 4, 2) := by decide +kernel
theorem dX5_keepOffLower_16 : decode cX5_keepOffLower 16 = .ok (.aload_n 0, 1) := by decide +kernel
theorem dX5_keepOffLower_17 : decode cX5_keepOffLower 17 = .ok (.getfield 10, 3) := by decide +kernel
theorem dX5_keepOffLower_20 : decode cX5_keepOffLower 20 = .ok (.invokevirtual 37, 3) := by decide +kernel
theorem dX5_keepOffLower_23 : decode cX5_keepOffLower 23 = .ok (.if_icmp .ge 37, 3) := by decide +kernel
theorem dX5_keepOffLower_26 : decode cX5_keepOffLower 26 = .ok (.aload_n 1, 1) := by decide +kernel
theorem dX5_keepOffLower_27 : decode cX5_keepOffLower 27 = .ok (.iload 4, 2) := by decide +kernel
theorem dX5_keepOffLower_29 : decode cX5_keepOffLower 29 = .ok (.invokevirtual 118, 3) := by decide +kernel
theorem dX5_keepOffLower_32 : decode cX5_keepOffLower 32 = .ok (.ifCond .eq 22, 3) := by decide +kernel
theorem dX5_keepOffLower_35 : decode cX5_keepOffLower 35 = .ok (.aload_n 2, 1) := by decide +kernel
theorem dX5_keepOffLower_36 : decode cX5_keepOffLower 36 = .ok (.aload_n 0, 1) := by decide +kernel
theorem dX5_keepOffLower_37 : decode cX5_keepOffLower 37 = .ok (.getfield 10, 3) := by decide +kernel
theorem dX5_keepOffLower_40 : decode cX5_keepOffLower 40 = .ok (.iload 4, 2) := by decide +kernel
theorem dX5_keepOffLower_42 : decode cX5_keepOffLower 42 = .ok (.invokevirtual 157, 3) := by decide +kernel
theorem dX5_keepOffLower_45 : decode cX5_keepOffLower 45 = .ok (.checkcast 48, 3) := by decide +kernel
theorem dX5_keepOffLower_48 : decode cX5_keepOffLower 48 = .ok (.getfield 177, 3) := by decide +kernel
theorem dX5_keepOffLower_51 : decode cX5_keepOffLower 51 = .ok (.invokevirtual 245, 3) := by decide +kernel
theorem dX5_keepOffLower_54 : decode cX5_keepOffLower 54 = .ok (.iinc 4 1, 3) := by decide +kernel
theorem dX5_keepOffLower_57 : decode cX5_keepOffLower 57 = .ok (.goto (-49), 3) := by decide +kernel
theorem dX5_keepOffLower_60 : decode cX5_keepOffLower 60 = .ok (.aload_n 2, 1) := by decide +kernel
theorem dX5_keepOffLower_61 : decode cX5_keepOffLower 61 = .ok (.getfield 203, 3) := by decide +kernel
theorem dX5_keepOffLower_64 : decode cX5_keepOffLower 64 = .ok (.ifCond .eq 7, 3) := by decide +kernel
theorem dX5_keepOffLower_67 : decode cX5_keepOffLower 67 = .ok (.aload_n 2, 1) := by decide +kernel
theorem dX5_keepOffLower_68 : decode cX5_keepOffLower 68 = .ok (.invokevirtual 238, 3) := by decide +kernel
theorem dX5_keepOffLower_71 : decode cX5_keepOffLower 71 = .ok (.return_, 1) := by decide +kernel
theorem dX2_keepOff_0 : decode cX2_keepOff 0 = .ok (.aload_n 0, 1) := by decide +kernel
theorem dX2_keepOff_1 : decode cX2_keepOff 1 = .ok (.getfield 37, 3) := by decide +kernel
theorem dX2_keepOff_4 : decode cX2_keepOff 4 = .ok (.getfield 77, 3) := by decide +kernel
theorem dX2_keepOff_7 : decode cX2_keepOff 7 = .ok (.aload_n 1, 1) := by decide +kernel
theorem dX2_keepOff_8 : decode cX2_keepOff 8 = .ok (.getfield 77, 3) := by decide +kernel
theorem dX2_keepOff_11 : decode cX2_keepOff 11 = .ok (.isub, 1) := by decide +kernel
theorem dX2_keepOff_12 : decode cX2_keepOff 12 = .ok (.invokestatic 106, 3) := by decide +kernel
theorem dX2_keepOff_15 : decode cX2_keepOff 15 = .ok (.bipush 10, 2) := by decide +kernel
theorem dX2_keepOff_17 : decode cX2_keepOff 17 = .ok (.if_icmp .ge 23, 3) := by decide +kernel
theorem dX2_keepOff_20 : decode cX2_keepOff 20 = .ok (.aload_n 0, 1) := by decide +kernel
theorem dX2_keepOff_21 : decode cX2_keepOff 21 = .ok (.getfield 37, 3) := by decide +kernel
theorem dX2_keepOff_24 : decode cX2_keepOff 24 = .ok (.getfield 80, 3) := by decide +kernel
theorem dX2_keepOff_27 : decode cX2_keepOff 27 = .ok (.aload_n 1, 1) := by decide +kernel
theorem dX2_keepOff_28 : decode cX2_keepOff 28 = .ok (.getfield 80, 3) := by decide +kernel
theorem dX2_keepOff_31 : decode cX2_keepOff 31 = .ok (.isub, 1) := by decide +kernel
theorem dX2_keepOff_32 : decode cX2_keepOff 32 = .ok (.invokestatic 106, 3) := by decide +kernel
theorem dX2_keepOff_35 : decode cX2_keepOff 35 = .ok (.bipush 10, 2) := by decide +kernel
theorem dX2_keepOff_37 : decode cX2_keepOff 37 = .ok (.if_icmp .lt 4, 3) := by decide +kernel
theorem dX2_keepOff_40 : decode cX2_keepOff 40 = .ok (.return_, 1) := by decide +kernel
theorem dX2_keepOff_41 : decode cX2_keepOff 41 = .ok (.aload_n 0, 1) := by decide +kernel
theorem dX2_keepOff_42 : decode cX2_keepOff 42 = .ok (.getfield 37, 3) := by decide +kernel
theorem dX2_keepOff_45 : decode cX2_keepOff 45 = .ok (.aload_n 0, 1) := by decide +kernel
theorem dX2_keepOff_46 : decode cX2_keepOff 46 = .ok (.getfield 37, 3) := by decide +kernel
theorem dX2_keepOff_49 : decode cX2_keepOff 49 = .ok (.getfield 77, 3) := by decide +kernel
theorem dX2_keepOff_52 : decode cX2_keepOff 52 = .ok (.aload_n 1, 1) := by decide +kernel
theorem dX2_keepOff_53 : decode cX2_keepOff 53 = .ok (.getfield 77, 3) := by decide +kernel
theorem dX2_keepOff_56 : decode cX2_keepOff 56 = .ok (.if_icmp .ge 13, 3) := by decide +kernel
theorem dX2_keepOff_59 : decode cX2_keepOff 59 = .ok (.aload_n 1, 1) := by decide +kernel
theorem dX2_keepOff_60 : decode cX2_keepOff 60 = .ok (.getfield 77, 3) := by decide +kernel
theorem dX2_keepOff_63 : decode cX2_keepOff 63 = .ok (.bipush 10, 2) := by decide +kernel
theorem dX2_keepOff_65 : decode cX2_keepOff 65 = .ok (.isub, 1) := by decide +kernel
theorem dX2_keepOff_66 : decode cX2_keepOff 66 = .ok (.goto 10, 3) := by decide +kernel
theorem dX2_keepOff_69 : decode cX2_keepOff 69 = .ok (.aload_n 1, 1) := by decide +kernel
theorem dX2_keepOff_70 : decode cX2_keepOff 70 = .ok (.getfield 77, 3) := by decide +kernel
theorem dX2_keepOff_73 : decode cX2_keepOff 73 = .ok (.bipush 10, 2) := by decide +kernel
theorem dX2_keepOff_75 : decode cX2_keepOff 75 = .ok (.iadd, 1) := by decide +kernel
theorem dX2_keepOff_76 : decode cX2_keepOff 76 = .ok (.putfield 77, 3) := by decide +kernel
theorem dX2_keepOff_79 : decode cX2_keepOff 79 = .ok (.aload_n 0, 1) := by decide +kernel
theorem dX2_keepOff_80 : decode cX2_keepOff 80 = .ok (.iconst 1, 1) := by decide +kernel
theorem dX2_keepOff_81 : decode cX2_keepOff 81 = .ok (.putfield 41, 3) := by decide +kernel
theorem dX2_keepOff_84 : decode cX2_keepOff 84 = .ok (.return_, 1) := by decide +kernel
theorem dX5_y_0 : decode cX5_y 0 = .ok (.aload_n 0, 1) := by decide +kernel
theorem dX5_y_1 : decode cX5_y 1 = .ok (.iload_n 1, 1) := by decide +kernel
theorem dX5_y_2 : decode cX5_y 2 = .ok (.iload_n 2, 1) := by decide +kernel
theorem dX5_y_3 : decode cX5_y 3 = .ok (.invokevirtual 189, 3) := by decide +kernel
theorem dX5_y_6 : decode cX5_y 6 = .ok (.astore 4, 2) := by decide +kernel
theorem dX5_y_8 : decode cX5_y 8 = .ok (.iload_n 3, 1) := by decide +kernel
theorem dX5_y_9 : decode cX5_y 9 = .ok (.iconst 0, 1) := by decide +kernel
theorem dX5_y_10 : decode cX5_y 10 = .ok (.sipush 1999, 3) := by decide +kernel
theorem dX5_y_13 : decode cX5_y 13 = .ok (.invokestatic 33, 3) := by decide +kernel
theorem dX5_y_16 : decode cX5_y 16 = .ok (.aload_n 0, 1) := by decide +kernel
theorem dX5_y_17 : decode cX5_y 17 = .ok (.aload 4, 2) := by decide +kernel
theorem dX5_y_19 : decode cX5_y 19 = .ok (.iload_n 2, 1) := by decide +kernel
theorem dX5_y_20 : decode cX5_y 20 = .ok (.iload_n 3, 1) := by decide +kernel
theorem dX5_y_21 : decode cX5_y 21 = .ok (.invokevirtual 193, 3) := by decide +kernel
theorem dX5_y_24 : decode cX5_y 24 = .ok (.getfield 177, 3) := by decide +kernel
theorem dX5_y_27 : decode cX5_y 27 = .ok (.getfield 200, 3) := by decide +kernel
theorem dX5_y_30 : decode cX5_y 30 = .ok (.ireturn, 1) := by decide +kernel
theorem dX5_bent_0 : decode cX5_bent 0 = .ok (.aload_n 0, 1) := by decide +kernel
theorem dX5_bent_1 : decode cX5_bent 1 = .ok (.iload_n 1, 1) := by decide +kernel
theorem dX5_bent_2 : decode cX5_bent 2 = .ok (.iload_n 2, 1) := by decide +kernel
theorem dX5_bent_3 : decode cX5_bent 3 = .ok (.invokevirtual 189, 3) := by decide +kernel
theorem dX5_bent_6 : decode cX5_bent 6 = .ok (.astore 5, 2) := by decide +kernel
theorem dX5_bent_8 : decode cX5_bent 8 = .ok (.iload_n 3, 1) := by decide +kernel
theorem dX5_bent_9 : decode cX5_bent 9 = .ok (.iconst 0, 1) := by decide +kernel
theorem dX5_bent_10 : decode cX5_bent 10 = .ok (.sipush 1999, 3) := by decide +kernel
theorem dX5_bent_13 : decode cX5_bent 13 = .ok (.invokestatic 33, 3) := by decide +kernel
theorem dX5_bent_16 : decode cX5_bent 16 = .ok (.iload 4, 2) := by decide +kernel
theorem dX5_bent_18 : decode cX5_bent 18 = .ok (.iconst 0, 1) := by decide +kernel
theorem dX5_bent_19 : decode cX5_bent 19 = .ok (.sipush 1999, 3) := by decide +kernel
theorem dX5_bent_22 : decode cX5_bent 22 = .ok (.invokestatic 33, 3) := by decide +kernel
theorem dX5_bent_25 : decode cX5_bent 25 = .ok (.iconst 0, 1) := by decide +kernel
theorem dX5_bent_26 : decode cX5_bent 26 = .ok (.istore 6, 2) := by decide +kernel
theorem dX5_bent_28 : decode cX5_bent 28 = .ok (.iload_n 3, 1) := by decide +kernel
theorem dX5_bent_29 : decode cX5_bent 29 = .ok (.istore 7, 2) := by decide +kernel
theorem dX5_bent_31 : decode cX5_bent 31 = .ok (.iload 7, 2) := by decide +kernel
theorem dX5_bent_33 : decode cX5_bent 33 = .ok (.iload 4, 2) := by decide +kernel
theorem dX5_bent_35 : decode cX5_bent 35 = .ok (.if_icmp .gt 27, 3) := by decide +kernel
theorem dX5_bent_38 : decode cX5_bent 38 = .ok (.aload_n 0, 1) := by decide +kernel
theorem dX5_bent_39 : decode cX5_bent 39 = .ok (.aload 5, 2) := by decide +kernel
theorem dX5_bent_41 : decode cX5_bent 41 = .ok (.iload_n 2, 1) := by decide +kernel
theorem dX5_bent_42 : decode cX5_bent 42 = .ok (.iload 7, 2) := by decide +kernel
theorem dX5_bent_44 : decode cX5_bent 44 = .ok (.invokevirtual 193, 3) := by decide +kernel
theorem dX5_bent_47 : decode cX5_bent 47 = .ok (.getfield 203, 3) := by decide +kernel
theorem dX5_bent_50 : decode cX5_bent 50 = .ok (.ifCond .eq 6, 3) := by decide +kernel
theorem dX5_bent_53 : decode cX5_bent 53 = .ok (.iinc 6 1, 3) := by decide +kernel
theorem dX5_bent_56 : decode cX5_bent 56 = .ok (.iinc 7 1, 3) := by decide +kernel
theorem dX5_bent_59 : decode cX5_bent 59 = .ok (.goto (-28), 3) := by decide +kernel
theorem dX5_bent_62 : decode cX5_bent 62 = .ok (.iload 6, 2) := by decide +kernel
theorem dX5_bent_64 : decode cX5_bent 64 = .ok (.ireturn, 1) := by decide +kernel
theorem dX5_least_0 : decode cX5_least 0 = .ok (.aload_n 0, 1) := by decide +kernel
theorem dX5_least_1 : decode cX5_least 1 = .ok (.iload_n 1, 1) := by decide +kernel
theorem dX5_least_2 : decode cX5_least 2 = .ok (.invokevirtual 57, 3) := by decide +kernel
theorem dX5_least_5 : decode cX5_least 5 = .ok (.invokevirtual 206, 3) := by decide +kernel
theorem dX5_least_8 : decode cX5_least 8 = .ok (.ireturn, 1) := by decide +kernel
theorem dX2_leastLength_0 : decode cX2_leastLength 0 = .ok (.iconst 0, 1) := by decide +kernel
theorem dX2_leastLength_1 : decode cX2_leastLength 1 = .ok (.istore_n 1, 1) := by decide +kernel
theorem dX2_leastLength_2 : decode cX2_leastLength 2 = .ok (.iconst 0, 1) := by decide +kernel
theorem dX2_leastLength_3 : decode cX2_leastLength 3 = .ok (.istore_n 2, 1) := by decide +kernel
theorem dX2_leastLength_4 : decode cX2_leastLength 4 = .ok (.iload_n 2, 1) := by decide +kernel
theorem dX2_leastLength_5 : decode cX2_leastLength 5 = .ok (.sipush 999, 3) := by decide +kernel
theorem dX2_leastLength_8 : decode cX2_leastLength 8 = .ok (.if_icmp .gt 23, 3) := by decide +kernel
theorem dX2_leastLength_11 : decode cX2_leastLength 11 = .ok (.aload_n 0, 1) := by decide +kernel
theorem dX2_leastLength_12 : decode cX2_leastLength 12 = .ok (.iload_n 2, 1) := by decide +kernel
theorem dX2_leastLength_13 : decode cX2_leastLength 13 = .ok (.invokevirtual 109, 3) := by decide +kernel
theorem dX2_leastLength_16 : decode cX2_leastLength 16 = .ok (.iload_n 1, 1) := by decide +kernel
theorem dX2_leastLength_17 : decode cX2_leastLength 17 = .ok (.aload_n 0, 1) := by decide +kernel
theorem dX2_leastLength_18 : decode cX2_leastLength 18 = .ok (.invokevirtual 91, 3) := by decide +kernel
theorem dX2_leastLength_21 : decode cX2_leastLength 21 = .ok (.invokestatic 100, 3) := by decide +kernel
theorem dX2_leastLength_24 : decode cX2_leastLength 24 = .ok (.istore_n 1, 1) := by decide +kernel
theorem dX2_leastLength_25 : decode cX2_leastLength 25 = .ok (.iinc 2 1, 3) := by decide +kernel
theorem dX2_leastLength_28 : decode cX2_leastLength 28 = .ok (.goto (-24), 3) := by decide +kernel
theorem dX2_leastLength_31 : decode cX2_leastLength 31 = .ok (.iload_n 1, 1) := by decide +kernel
theorem dX2_leastLength_32 : decode cX2_leastLength 32 = .ok (.invokestatic 103, 3) := by decide +kernel
theorem dX2_leastLength_35 : decode cX2_leastLength 35 = .ok (.istore_n 2, 1) := by decide +kernel
theorem dX2_leastLength_36 : decode cX2_leastLength 36 = .ok (.iload_n 2, 1) := by decide +kernel
theorem dX2_leastLength_37 : decode cX2_leastLength 37 = .ok (.iload_n 2, 1) := by decide +kernel
theorem dX2_leastLength_38 : decode cX2_leastLength 38 = .ok (.imul, 1) := by decide +kernel
theorem dX2_leastLength_39 : decode cX2_leastLength 39 = .ok (.iload_n 1, 1) := by decide +kernel
theorem dX2_leastLength_40 : decode cX2_leastLength 40 = .ok (.if_icmp .ge 9, 3) := by decide +kernel
theorem dX2_leastLength_43 : decode cX2_leastLength 43 = .ok (.iload_n 2, 1) := by decide +kernel
theorem dX2_leastLength_44 : decode cX2_leastLength 44 = .ok (.iconst 1, 1) := by decide +kernel
theorem dX2_leastLength_45 : decode cX2_leastLength 45 = .ok (.iadd, 1) := by decide +kernel
theorem dX2_leastLength_46 : decode cX2_leastLength 46 = .ok (.goto 4, 3) := by decide +kernel
theorem dX2_leastLength_49 : decode cX2_leastLength 49 = .ok (.iload_n 2, 1) := by decide +kernel
theorem dX2_leastLength_50 : decode cX2_leastLength 50 = .ok (.ireturn, 1) := by decide +kernel
theorem dX5_isBusy_0 : decode cX5_isBusy 0 = .ok (.aload_n 0, 1) := by decide +kernel
theorem dX5_isBusy_1 : decode cX5_isBusy 1 = .ok (.iload_n 1, 1) := by decide +kernel
theorem dX5_isBusy_2 : decode cX5_isBusy 2 = .ok (.invokevirtual 57, 3) := by decide +kernel
theorem dX5_isBusy_5 : decode cX5_isBusy 5 = .ok (.astore_n 3, 1) := by decide +kernel
theorem dX5_isBusy_6 : decode cX5_isBusy 6 = .ok (.iload_n 2, 1) := by decide +kernel
theorem dX5_isBusy_7 : decode cX5_isBusy 7 = .ok (.iconst 0, 1) := by decide +kernel
theorem dX5_isBusy_8 : decode cX5_isBusy 8 = .ok (.ldc 209, 2) := by decide +kernel
theorem dX5_isBusy_10 : decode cX5_isBusy 10 = .ok (.invokestatic 33, 3) := by decide +kernel
theorem dX5_isBusy_13 : decode cX5_isBusy 13 = .ok (.aload_n 0, 1) := by decide +kernel
theorem dX5_isBusy_14 : decode cX5_isBusy 14 = .ok (.aload_n 3, 1) := by decide +kernel
theorem dX5_isBusy_15 : decode cX5_isBusy 15 = .ok (.iload_n 1, 1) := by decide +kernel
theorem dX5_isBusy_16 : decode cX5_isBusy 16 = .ok (.new 104, 3) := by decide +kernel
theorem dX5_isBusy_19 : decode cX5_isBusy 19 = .ok (.dup, 1) := by decide +kernel
theorem dX5_isBusy_20 : decode cX5_isBusy 20 = .ok (.iload_n 2, 1) := by decide +kernel
theorem dX5_isBusy_21 : decode cX5_isBusy 21 = .ok (.iconst 1, 1) := by decide +kernel
theorem dX5_isBusy_22 : decode cX5_isBusy 22 = .ok (.invokespecial 106, 3) := by decide +kernel
theorem dX5_isBusy_25 : decode cX5_isBusy 25 = .ok (.invokevirtual 130, 3) := by decide +kernel
theorem dX5_isBusy_28 : decode cX5_isBusy 28 = .ok (.ireturn, 1) := by decide +kernel
theorem dX5_worn_0 : decode cX5_worn 0 = .ok (.aload_n 0, 1) := by decide +kernel
theorem dX5_worn_1 : decode cX5_worn 1 = .ok (.iload_n 1, 1) := by decide +kernel
theorem dX5_worn_2 : decode cX5_worn 2 = .ok (.invokevirtual 57, 3) := by decide +kernel
theorem dX5_worn_5 : decode cX5_worn 5 = .ok (.getfield 123, 3) := by decide +kernel
theorem dX5_worn_8 : decode cX5_worn 8 = .ok (.ireturn, 1) := by decide +kernel
theorem dX6_init_0 : decode cX6_init 0 = .ok (.aload_n 0, 1) := by decide +kernel
theorem dX6_init_1 : decode cX6_init 1 = .ok (.invokespecial 1, 3) := by decide +kernel
theorem dX6_init_4 : decode cX6_init 4 = .ok (.aload_n 0, 1) := by decide +kernel
theorem dX6_init_5 : decode cX6_init 5 = .ok (.bipush 8, 2) := by decide +kernel
theorem dX6_init_7 : decode cX6_init 7 = .ok (.newarray .int, 2) := by decide +kernel
theorem dX6_init_9 : decode cX6_init 9 = .ok (.putfield 7, 3) := by decide +kernel
theorem dX6_init_12 : decode cX6_init 12 = .ok (.aload_n 0, 1) := by decide +kernel
theorem dX6_init_13 : decode cX6_init 13 = .ok (.bipush 8, 2) := by decide +kernel
theorem dX6_init_15 : decode cX6_init 15 = .ok (.newarray .int, 2) := by decide +kernel
theorem dX6_init_17 : decode cX6_init 17 = .ok (.putfield 13, 3) := by decide +kernel
theorem dX6_init_20 : decode cX6_init 20 = .ok (.aload_n 0, 1) := by decide +kernel
theorem dX6_init_21 : decode cX6_init 21 = .ok (.bipush 8, 2) := by decide +kernel
theorem dX6_init_23 : decode cX6_init 23 = .ok (.newarray .int, 2) := by decide +kernel
theorem dX6_init_25 : decode cX6_init 25 = .ok (.putfield 16, 3) := by decide +kernel
theorem dX6_init_28 : decode cX6_init 28 = .ok (.aload_n 0, 1) := by decide +kernel
theorem dX6_init_29 : decode cX6_init 29 = .ok (.bipush 8, 2) := by decide +kernel
theorem dX6_init_31 : decode cX6_init 31 = .ok (.newarray .int, 2) := by decide +kernel
theorem dX6_init_33 : decode cX6_init 33 = .ok (.putfield 19, 3) := by decide +kernel
theorem dX6_init_36 : decode cX6_init 36 = .ok (.aload_n 0, 1) := by decide +kernel
theorem dX6_init_37 : decode cX6_init 37 = .ok (.bipush 8, 2) := by decide +kernel
theorem dX6_init_39 : decode cX6_init 39 = .ok (.newarray .int, 2) := by decide +kernel
theorem dX6_init_41 : decode cX6_init 41 = .ok (.putfield 22, 3) := by decide +kernel
theorem dX6_init_44 : decode cX6_init 44 = .ok (.aload_n 0, 1) := by decide +kernel
theorem dX6_init_45 : decode cX6_init 45 = .ok (.bipush 96, 2) := by decide +kernel
theorem dX6_init_47 : decode cX6_init 47 = .ok (.newarray .int, 2) := by decide +kernel
theorem dX6_init_49 : decode cX6_init 49 = .ok (.putfield 25, 3) := by decide +kernel
theorem dX6_init_52 : decode cX6_init 52 = .ok (.aload_n 0, 1) := by decide +kernel
theorem dX6_init_53 : decode cX6_init 53 = .ok (.bipush 96, 2) := by decide +kernel
theorem dX6_init_55 : decode cX6_init 55 = .ok (.newarray .int, 2) := by decide +kernel
theorem dX6_init_57 : decode cX6_init 57 = .ok (.putfield 28, 3) := by decide +kernel
theorem dX6_init_60 : decode cX6_init 60 = .ok (.aload_n 0, 1) := by decide +kernel
theorem dX6_init_61 : decode cX6_init 61 = .ok (.bipush 96, 2) := by decide +kernel
theorem dX6_init_63 : decode cX6_init 63 = .ok (.newarray .int, 2) := by decide +kernel
theorem dX6_init_65 : decode cX6_init 65 = .ok (.putfield 31, 3) := by decide +kernel
theorem dX6_init_68 : decode cX6_init 68 = .ok (.aload_n 0, 1) := by decide +kernel
theorem dX6_init_69 : decode cX6_init 69 = .ok (.bipush 96, 2) := by decide +kernel
theorem dX6_init_71 : decode cX6_init 71 = .ok (.newarray .int, 2) := by decide +kernel
theorem dX6_init_73 : decode cX6_init 73 = .ok (.putfield 34, 3) := by decide +kernel
theorem dX6_init_76 : decode cX6_init 76 = .ok (.aload_n 0, 1) := by decide +kernel
theorem dX6_init_77 : decode cX6_init 77 = .ok (.bipush 80, 2) := by decide +kernel
theorem dX6_init_79 : decode cX6_init 79 = .ok (.newarray .int, 2) := by decide +kernel
theorem dX6_init_81 : decode cX6_init 81 = .ok (.putfield 37, 3) := by decide +kernel
theorem dX6_init_84 : decode cX6_init 84 = .ok (.aload_n 0, 1) := by decide +kernel
theorem dX6_init_85 : decode cX6_init 85 = .ok (.bipush 80, 2) := by decide +kernel
theorem dX6_init_87 : decode cX6_init 87 = .ok (.newarray .int, 2) := by decide +kernel
theorem dX6_init_89 : decode cX6_init 89 = .ok (.putfield 40, 3) := by decide +kernel
theorem dX6_init_92 : decode cX6_init 92 = .ok (.aload_n 0, 1) := by decide +kernel
theorem dX6_init_93 : decode cX6_init 93 = .ok (.bipush 8, 2) := by decide +kernel
theorem dX6_init_95 : decode cX6_init 95 = .ok (.newarray .int, 2) := by decide +kernel
theorem dX6_init_97 : decode cX6_init 97 = .ok (.putfield 43, 3) := by decide +kernel
theorem dX6_init_100 : decode cX6_init 100 = .ok (.aload_n 0, 1) := by decide +kernel
theorem dX6_init_101 : decode cX6_init 101 = .ok (.bipush 10, 2) := by decide +kernel
theorem dX6_init_103 : decode cX6_init 103 = .ok (.newarray .int, 2) := by decide +kernel
theorem dX6_init_105 : decode cX6_init 105 = .ok (.putfield 46, 3) := by decide +kernel
theorem dX6_init_108 : decode cX6_init 108 = .ok (.aload_n 0, 1) := by decide +kernel
theorem dX6_init_109 : decode cX6_init 109 = .ok (.bipush 6, 2) := by decide +kernel
theorem dX6_init_111 : decode cX6_init 111 = .ok (.newarray .int, 2) := by decide +kernel
theorem dX6_init_113 : decode cX6_init 113 = .ok (.putfield 49, 3) := by decide +kernel
theorem dX6_init_116 : decode cX6_init 116 = .ok (.aload_n 0, 1) := by decide +kernel
theorem dX6_init_117 : decode cX6_init 117 = .ok (.bipush 6, 2) := by decide +kernel
theorem dX6_init_119 : decode cX6_init 119 = .ok (.newarray .int, 2) := by decide +kernel
theorem dX6_init_121 : decode cX6_init 121 = .ok (.putfield 52, 3) := by decide +kernel
theorem dX6_init_124 : decode cX6_init 124 = .ok (.aload_n 0, 1) := by decide +kernel
theorem dX6_init_125 : decode cX6_init 125 = .ok (.bipush 6, 2) := by decide +kernel
theorem dX6_init_127 : decode cX6_init 127 = .ok (.newarray .boolean, 2) := by decide +kernel
theorem dX6_init_129 : decode cX6_init 129 = .ok (.putfield 55, 3) := by decide +kernel
theorem dX6_init_132 : decode cX6_init 132 = .ok (.aload_n 0, 1) := by decide +kernel
theorem dX6_init_133 : decode cX6_init 133 = .ok (.bipush 6, 2) := by decide +kernel
theorem dX6_init_135 : decode cX6_init 135 = .ok (.newarray .int, 2) := by decide +kernel
theorem dX6_init_137 : decode cX6_init 137 = .ok (.putfield 59, 3) := by decide +kernel
theorem dX6_init_140 : decode cX6_init 140 = .ok (.aload_n 0, 1) := by decide +kernel
theorem dX6_init_141 : decode cX6_init 141 = .ok (.bipush 6, 2) := by decide +kernel
theorem dX6_init_143 : decode cX6_init 143 = .ok (.newarray .int, 2) := by decide +kernel
theorem dX6_init_145 : decode cX6_init 145 = .ok (.putfield 62, 3) := by decide +kernel
theorem dX6_init_148 : decode cX6_init 148 = .ok (.aload_n 0, 1) := by decide +kernel
theorem dX6_init_149 : decode cX6_init 149 = .ok (.bipush 48, 2) := by decide +kernel
theorem dX6_init_151 : decode cX6_init 151 = .ok (.newarray .boolean, 2) := by decide +kernel
theorem dX6_init_153 : decode cX6_init 153 = .ok (.putfield 65, 3) := by decide +kernel
theorem dX6_init_156 : decode cX6_init 156 = .ok (.aload_n 0, 1) := by decide +kernel
theorem dX6_init_157 : decode cX6_init 157 = .ok (.bipush 32, 2) := by decide +kernel
theorem dX6_init_159 : decode cX6_init 159 = .ok (.newarray .int, 2) := by decide +kernel
theorem dX6_init_161 : decode cX6_init 161 = .ok (.putfield 68, 3) := by decide +kernel
theorem dX6_init_164 : decode cX6_init 164 = .ok (.aload_n 0, 1) := by decide +kernel
theorem dX6_init_165 : decode cX6_init 165 = .ok (.bipush 8, 2) := by decide +kernel
theorem dX6_init_167 : decode cX6_init 167 = .ok (.newarray .int, 2) := by decide +kernel
theorem dX6_init_169 : decode cX6_init 169 = .ok (.putfield 71, 3) := by decide +kernel
theorem dX6_init_172 : decode cX6_init 172 = .ok (.aload_n 0, 1) := by decide +kernel
theorem dX6_init_173 : decode cX6_init 173 = .ok (.bipush 8, 2) := by decide +kernel
theorem dX6_init_175 : decode cX6_init 175 = .ok (.newarray .int, 2) := by decide +kernel
theorem dX6_init_177 : decode cX6_init 177 = .ok (.putfield 74, 3) := by decide +kernel
theorem dX6_init_180 : decode cX6_init 180 = .ok (.aload_n 0, 1) := by decide +kernel
theorem dX6_init_181 : decode cX6_init 181 = .ok (.bipush 8, 2) := by decide +kernel
theorem dX6_init_183 : decode cX6_init 183 = .ok (.newarray .boolean, 2) := by decide +kernel
theorem dX6_init_185 : decode cX6_init 185 = .ok (.putfield 77, 3) := by decide +kernel
theorem dX6_init_188 : decode cX6_init 188 = .ok (.iconst 0, 1) := by decide +kernel
theorem dX6_init_189 : decode cX6_init 189 = .ok (.istore_n 1, 1) := by decide +kernel
theorem dX6_init_190 : decode cX6_init 190 = .ok (.iload_n 1, 1) := by decide +kernel
theorem dX6_init_191 : decode cX6_init 191 = .ok (.bipush 10, 2) := by decide +kernel
theorem dX6_init_193 : decode cX6_init 193 = .ok (.if_icmp .ge 16, 3) := by decide +kernel
theorem dX6_init_196 : decode cX6_init 196 = .ok (.aload_n 0, 1) := by decide +kernel
theorem dX6_init_197 : decode cX6_init 197 = .ok (.getfield 46, 3) := by decide +kernel
theorem dX6_init_200 : decode cX6_init 200 = .ok (.iload_n 1, 1) := by decide +kernel
theorem dX6_init_201 : decode cX6_init 201 = .ok (.iconst (-1), 1) := by decide +kernel
theorem dX6_init_202 : decode cX6_init 202 = .ok (.iastore, 1) := by decide +kernel
theorem dX6_init_203 : decode cX6_init 203 = .ok (.iinc 1 1, 3) := by decide +kernel
theorem dX6_init_206 : decode cX6_init 206 = .ok (.goto (-16), 3) := by decide +kernel
theorem dX6_init_209 : decode cX6_init 209 = .ok (.iconst 0, 1) := by decide +kernel
theorem dX6_init_210 : decode cX6_init 210 = .ok (.istore_n 1, 1) := by decide +kernel
theorem dX6_init_211 : decode cX6_init 211 = .ok (.iload_n 1, 1) := by decide +kernel
theorem dX6_init_212 : decode cX6_init 212 = .ok (.bipush 8, 2) := by decide +kernel
theorem dX6_init_214 : decode cX6_init 214 = .ok (.if_icmp .ge 52, 3) := by decide +kernel
theorem dX6_init_217 : decode cX6_init 217 = .ok (.aload_n 0, 1) := by decide +kernel
theorem dX6_init_218 : decode cX6_init 218 = .ok (.getfield 68, 3) := by decide +kernel
theorem dX6_init_221 : decode cX6_init 221 = .ok (.iload_n 1, 1) := by decide +kernel
theorem dX6_init_222 : decode cX6_init 222 = .ok (.bipush 8, 2) := by decide +kernel
theorem dX6_init_224 : decode cX6_init 224 = .ok (.iload_n 1, 1) := by decide +kernel
theorem dX6_init_225 : decode cX6_init 225 = .ok (.imul, 1) := by decide +kernel
theorem dX6_init_226 : decode cX6_init 226 = .ok (.iastore, 1) := by decide +kernel
theorem dX6_init_227 : decode cX6_init 227 = .ok (.aload_n 0, 1) := by decide +kernel
theorem dX6_init_228 : decode cX6_init 228 = .ok (.getfield 68, 3) := by decide +kernel
theorem dX6_init_231 : decode cX6_init 231 = .ok (.bipush 8, 2) := by decide +kernel
theorem dX6_init_233 : decode cX6_init 233 = .ok (.iload_n 1, 1) := by decide +kernel
theorem dX6_init_234 : decode cX6_init 234 = .ok (.iadd, 1) := by decide +kernel
theorem dX6_init_235 : decode cX6_init 235 = .ok (.iload_n 1, 1) := by decide +kernel
theorem dX6_init_236 : decode cX6_init 236 = .ok (.iload_n 1, 1) := by decide +kernel
theorem dX6_init_237 : decode cX6_init 237 = .ok (.imul, 1) := by decide +kernel
theorem dX6_init_238 : decode cX6_init 238 = .ok (.iastore, 1) := by decide +kernel
theorem dX6_init_239 : decode cX6_init 239 = .ok (.aload_n 0, 1) := by decide +kernel
theorem dX6_init_240 : decode cX6_init 240 = .ok (.getfield 68, 3) := by decide +kernel
theorem dX6_init_243 : decode cX6_init 243 = .ok (.bipush 16, 2) := by decide +kernel
theorem dX6_init_245 : decode cX6_init 245 = .ok (.iload_n 1, 1) := by decide +kernel
theorem dX6_init_246 : decode cX6_init 246 = .ok (.iadd, 1) := by decide +kernel
theorem dX6_init_247 : decode cX6_init 247 = .ok (.bipush 64, 2) := by decide +kernel
theorem dX6_init_249 : decode cX6_init 249 = .ok (.bipush 8, 2) := by decide +kernel
theorem dX6_init_251 : decode cX6_init 251 = .ok (.iload_n 1, 1) := by decide +kernel
theorem dX6_init_252 : decode cX6_init 252 = .ok (.isub, 1) := by decide +kernel
theorem dX6_init_253 : decode cX6_init 253 = .ok (.bipush 8, 2) := by decide +kernel
theorem dX6_init_255 : decode cX6_init 255 = .ok (.iload_n 1, 1) := by decide +kernel
theorem dX6_init_256 : decode cX6_init 256 = .ok (.isub, 1) := by decide +kernel
theorem dX6_init_257 : decode cX6_init 257 = .ok (.imul, 1) := by decide +kernel
theorem dX6_init_258 : decode cX6_init 258 = .ok (.isub, 1) := by decide +kernel
theorem dX6_init_259 : decode cX6_init 259 = .ok (.iastore, 1) := by decide +kernel
theorem dX6_init_260 : decode cX6_init 260 = .ok (.iinc 1 1, 3) := by decide +kernel
theorem dX6_init_263 : decode cX6_init 263 = .ok (.goto (-52), 3) := by decide +kernel
theorem dX6_init_266 : decode cX6_init 266 = .ok (.return_, 1) := by decide +kernel
theorem dX6_thrown_0 : decode cX6_thrown 0 = .ok (.aload_n 0, 1) := by decide +kernel
theorem dX6_thrown_1 : decode cX6_thrown 1 = .ok (.getfield 80, 3) := by decide +kernel
theorem dX6_thrown_4 : decode cX6_thrown 4 = .ok (.ireturn, 1) := by decide +kernel
theorem dX6_puppet_0 : decode cX6_puppet 0 = .ok (.iload_n 1, 1) := by decide +kernel
theorem dX6_puppet_1 : decode cX6_puppet 1 = .ok (.iconst 0, 1) := by decide +kernel
theorem dX6_puppet_2 : decode cX6_puppet 2 = .ok (.sipush 999, 3) := by decide +kernel
theorem dX6_puppet_5 : decode cX6_puppet 5 = .ok (.invokestatic 87, 3) := by decide +kernel
theorem dX6_puppet_8 : decode cX6_puppet 8 = .ok (.ifCond .eq 18, 3) := by decide +kernel
theorem dX6_puppet_11 : decode cX6_puppet 11 = .ok (.iload_n 2, 1) := by decide +kernel
theorem dX6_puppet_12 : decode cX6_puppet 12 = .ok (.iconst 0, 1) := by decide +kernel
theorem dX6_puppet_13 : decode cX6_puppet 13 = .ok (.sipush 1500, 3) := by decide +kernel
theorem dX6_puppet_16 : decode cX6_puppet 16 = .ok (.invokestatic 87, 3) := by decide +kernel
theorem dX6_puppet_19 : decode cX6_puppet 19 = .ok (.ifCond .eq 7, 3) := by decide +kernel
theorem dX6_puppet_22 : decode cX6_puppet 22 = .ok (.iconst 1, 1) := by decide +kernel
theorem dX6_puppet_23 : decode cX6_puppet 23 = .ok (.goto 4, 3) := by decide +kernel
theorem dX6_puppet_26 : decode cX6_puppet 26 = .ok (.iconst 0, 1) := by decide +kernel
theorem dX6_puppet_27 : decode cX6_puppet 27 = .ok (.istore_n 3, 1) := by decide +kernel
theorem dX6_puppet_28 : decode cX6_puppet 28 = .ok (.aload_n 0, 1) := by decide +kernel
theorem dX6_puppet_29 : decode cX6_puppet 29 = .ok (.iload_n 3, 1) := by decide +kernel
theorem dX6_puppet_30 : decode cX6_puppet 30 = .ok (.ifCond .ne 7, 3) := by decide +kernel
theorem dX6_puppet_33 : decode cX6_puppet 33 = .ok (.iconst 1, 1) := by decide +kernel
theorem dX6_puppet_34 : decode cX6_puppet 34 = .ok (.goto 17, 3) := by decide +kernel
theorem dX6_puppet_37 : decode cX6_puppet 37 = .ok (.aload_n 0, 1) := by decide +kernel
theorem dX6_puppet_38 : decode cX6_puppet 38 = .ok (.getfield 84, 3) := by decide +kernel
theorem dX6_puppet_41 : decode cX6_puppet 41 = .ok (.bipush 8, 2) := by decide +kernel
theorem dX6_puppet_43 : decode cX6_puppet 43 = .ok (.if_icmp .ne 7, 3) := by decide +kernel
theorem dX6_puppet_46 : decode cX6_puppet 46 = .ok (.iconst 2, 1) := by decide +kernel
theorem dX6_puppet_47 : decode cX6_puppet 47 = .ok (.goto 4, 3) := by decide +kernel
theorem dX6_puppet_50 : decode cX6_puppet 50 = .ok (.iconst 0, 1) := by decide +kernel
theorem dX6_puppet_51 : decode cX6_puppet 51 = .ok (.invokevirtual 94, 3) := by decide +kernel
theorem dX6_puppet_54 : decode cX6_puppet 54 = .ok (.ifCond .ne 5, 3) := by decide +kernel
theorem dX6_puppet_57 : decode cX6_puppet 57 = .ok (.iconst 0, 1) := by decide +kernel
theorem dX6_puppet_58 : decode cX6_puppet 58 = .ok (.ireturn, 1) := by decide +kernel
theorem dX6_puppet_59 : decode cX6_puppet 59 = .ok (.aload_n 0, 1) := by decide +kernel
theorem dX6_puppet_60 : decode cX6_puppet 60 = .ok (.getfield 7, 3) := by decide +kernel
theorem dX6_puppet_63 : decode cX6_puppet 63 = .ok (.aload_n 0, 1) := by decide +kernel
theorem dX6_puppet_64 : decode cX6_puppet 64 = .ok (.getfield 84, 3) := by decide +kernel
theorem dX6_puppet_67 : decode cX6_puppet 67 = .ok (.iload_n 1, 1) := by decide +kernel
theorem dX6_puppet_68 : decode cX6_puppet 68 = .ok (.iastore, 1) := by decide +kernel
theorem dX6_puppet_69 : decode cX6_puppet 69 = .ok (.aload_n 0, 1) := by decide +kernel
theorem dX6_puppet_70 : decode cX6_puppet 70 = .ok (.getfield 13, 3) := by decide +kernel
theorem dX6_puppet_73 : decode cX6_puppet 73 = .ok (.aload_n 0, 1) := by decide +kernel
theorem dX6_puppet_74 : decode cX6_puppet 74 = .ok (.getfield 84, 3) := by decide +kernel
theorem dX6_puppet_77 : decode cX6_puppet 77 = .ok (.iload_n 2, 1) := by decide +kernel
theorem dX6_puppet_78 : decode cX6_puppet 78 = .ok (.iastore, 1) := by decide +kernel
theorem dX6_puppet_79 : decode cX6_puppet 79 = .ok (.aload_n 0, 1) := by decide +kernel
theorem dX6_puppet_80 : decode cX6_puppet 80 = .ok (.getfield 19, 3) := by decide +kernel
theorem dX6_puppet_83 : decode cX6_puppet 83 = .ok (.aload_n 0, 1) := by decide +kernel
theorem dX6_puppet_84 : decode cX6_puppet 84 = .ok (.getfield 84, 3) := by decide +kernel
theorem dX6_puppet_87 : decode cX6_puppet 87 = .ok (.iconst (-1), 1) := by decide +kernel
theorem dX6_puppet_88 : decode cX6_puppet 88 = .ok (.iastore, 1) := by decide +kernel
theorem dX6_puppet_89 : decode cX6_puppet 89 = .ok (.aload_n 0, 1) := by decide +kernel
theorem dX6_puppet_90 : decode cX6_puppet 90 = .ok (.dup, 1) := by decide +kernel
theorem dX6_puppet_91 : decode cX6_puppet 91 = .ok (.getfield 84, 3) := by decide +kernel
theorem dX6_puppet_94 : decode cX6_puppet 94 = .ok (.iconst 1, 1) := by decide +kernel
theorem dX6_puppet_95 : decode cX6_puppet 95 = .ok (.iadd, 1) := by decide +kernel
theorem dX6_puppet_96 : decode cX6_puppet 96 = .ok (.putfield 84, 3) := by decide +kernel
theorem dX6_puppet_99 : decode cX6_puppet 99 = .ok (.aload_n 0, 1) := by decide +kernel
theorem dX6_puppet_100 : decode cX6_puppet 100 = .ok (.getfield 84, 3) := by decide +kernel
theorem dX6_puppet_103 : decode cX6_puppet 103 = .ok (.iconst 1, 1) := by decide +kernel
theorem dX6_puppet_104 : decode cX6_puppet 104 = .ok (.isub, 1) := by decide +kernel
theorem dX6_puppet_105 : decode cX6_puppet 105 = .ok (.ireturn, 1) := by decide +kernel
theorem dX6_isIn_0 : decode cX6_isIn 0 = .ok (.iload_n 0, 1) := by decide +kernel
theorem dX6_isIn_1 : decode cX6_isIn 1 = .ok (.iload_n 1, 1) := by decide +kernel
theorem dX6_isIn_2 : decode cX6_isIn 2 = .ok (.if_icmp .lt 12, 3) := by decide +kernel
theorem dX6_isIn_5 : decode cX6_isIn 5 = .ok (.iload_n 0, 1) := by decide +kernel
theorem dX6_isIn_6 : decode cX6_isIn 6 = .ok (.iload_n 2, 1) := by decide +kernel
theorem dX6_isIn_7 : decode cX6_isIn 7 = .ok (.if_icmp .gt 7, 3) := by decide +kernel
theorem dX6_isIn_10 : decode cX6_isIn 10 = .ok (.iconst 1, 1) := by decide +kernel
theorem dX6_isIn_11 : decode cX6_isIn 11 = .ok (.goto 4, 3) := by decide +kernel
theorem dX6_isIn_14 : decode cX6_isIn 14 = .ok (.iconst 0, 1) := by decide +kernel
theorem dX6_isIn_15 : decode cX6_isIn 15 = .ok (.ireturn, 1) := by decide +kernel
theorem dX6_isFine_0 : decode cX6_isFine 0 = .ok (.aload_n 0, 1) := by decide +kernel
theorem dX6_isFine_1 : decode cX6_isFine 1 = .ok (.iload_n 1, 1) := by decide +kernel
theorem dX6_isFine_2 : decode cX6_isFine 2 = .ok (.putfield 80, 3) := by decide +kernel
theorem dX6_isFine_5 : decode cX6_isFine 5 = .ok (.iload_n 1, 1) := by decide +kernel
theorem dX6_isFine_6 : decode cX6_isFine 6 = .ok (.ifCond .ne 7, 3) := by decide +kernel
theorem dX6_isFine_9 : decode cX6_isFine 9 = .ok (.iconst 1, 1) := by decide +kernel
theorem dX6_isFine_10 : decode cX6_isFine 10 = .ok (.goto 4, 3) := by decide +kernel
theorem dX6_isFine_13 : decode cX6_isFine 13 = .ok (.iconst 0, 1) := by decide +kernel
theorem dX6_isFine_14 : decode cX6_isFine 14 = .ok (.ireturn, 1) := by decide +kernel
theorem dX6_setLength_0 : decode cX6_setLength 0 = .ok (.aload_n 0, 1) := by decide +kernel
theorem dX6_setLength_1 : decode cX6_setLength 1 = .ok (.aload_n 0, 1) := by decide +kernel
theorem dX6_setLength_2 : decode cX6_setLength 2 = .ok (.iload_n 1, 1) := by decide +kernel
theorem dX6_setLength_3 : decode cX6_setLength 3 = .ok (.invokevirtual 98, 3) := by decide +kernel
theorem dX6_setLength_6 : decode cX6_setLength 6 = .ok (.ifCond .ne 7, 3) := by decide +kernel
theorem dX6_setLength_9 : decode cX6_setLength 9 = .ok (.iconst 1, 1) := by decide +kernel
theorem dX6_setLength_10 : decode cX6_setLength 10 = .ok (.goto 19, 3) := by decide +kernel
theorem dX6_setLength_13 : decode cX6_setLength 13 = .ok (.iload_n 2, 1) := by decide +kernel
theorem dX6_setLength_14 : decode cX6_setLength 14 = .ok (.iconst 0, 1) := by decide +kernel
theorem dX6_setLength_15 : decode cX6_setLength 15 = .ok (.sipush 1500, 3) := by decide +kernel
theorem dX6_setLength_18 : decode cX6_setLength 18 = .ok (.invokestatic 87, 3) := by decide +kernel
theorem dX6_setLength_21 : decode cX6_setLength 21 = .ok (.ifCond .ne 7, 3) := by decide +kernel
theorem dX6_setLength_24 : decode cX6_setLength 24 = .ok (.iconst 2, 1) := by decide +kernel
theorem dX6_setLength_25 : decode cX6_setLength 25 = .ok (.goto 4, 3) := by decide +kernel
theorem dX6_setLength_28 : decode cX6_setLength 28 = .ok (.iconst 0, 1) := by decide +kernel
theorem dX6_setLength_29 : decode cX6_setLength 29 = .ok (.invokevirtual 94, 3) := by decide +kernel
theorem dX6_setLength_32 : decode cX6_setLength 32 = .ok (.ifCond .ne 5, 3) := by decide +kernel
theorem dX6_setLength_35 : decode cX6_setLength 35 = .ok (.iconst 0, 1) := by decide +kernel
theorem dX6_setLength_36 : decode cX6_setLength 36 = .ok (.ireturn, 1) := by decide +kernel
theorem dX6_setLength_37 : decode cX6_setLength 37 = .ok (.aload_n 0, 1) := by decide +kernel
theorem dX6_setLength_38 : decode cX6_setLength 38 = .ok (.getfield 13, 3) := by decide +kernel
theorem dX6_setLength_41 : decode cX6_setLength 41 = .ok (.iload_n 1, 1) := by decide +kernel
theorem dX6_setLength_42 : decode cX6_setLength 42 = .ok (.iaload, 1) := by decide +kernel
theorem dX6_setLength_43 : decode cX6_setLength 43 = .ok (.istore_n 3, 1) := by decide +kernel
theorem dX6_setLength_44 : decode cX6_setLength 44 = .ok (.aload_n 0, 1) := by decide +kernel
theorem dX6_setLength_45 : decode cX6_setLength 45 = .ok (.getfield 13, 3) := by decide +kernel
theorem dX6_setLength_48 : decode cX6_setLength 48 = .ok (.iload_n 1, 1) := by decide +kernel
theorem dX6_setLength_49 : decode cX6_setLength 49 = .ok (.iload_n 2, 1) := by decide +kernel
theorem dX6_setLength_50 : decode cX6_setLength 50 = .ok (.iastore, 1) := by decide +kernel
theorem dX6_setLength_51 : decode cX6_setLength 51 = .ok (.iload_n 3, 1) := by decide +kernel
theorem dX6_setLength_52 : decode cX6_setLength 52 = .ok (.ireturn, 1) := by decide +kernel
theorem dX6_isPuppet_0 : decode cX6_isPuppet 0 = .ok (.iload_n 1, 1) := by decide +kernel
theorem dX6_isPuppet_1 : decode cX6_isPuppet 1 = .ok (.iconst 0, 1) := by decide +kernel
theorem dX6_isPuppet_2 : decode cX6_isPuppet 2 = .ok (.aload_n 0, 1) := by decide +kernel
theorem dX6_isPuppet_3 : decode cX6_isPuppet 3 = .ok (.getfield 84, 3) := by decide +kernel
theorem dX6_isPuppet_6 : decode cX6_isPuppet 6 = .ok (.iconst 1, 1) := by decide +kernel
theorem dX6_isPuppet_7 : decode cX6_isPuppet 7 = .ok (.isub, 1) := by decide +kernel
theorem dX6_isPuppet_8 : decode cX6_isPuppet 8 = .ok (.invokestatic 87, 3) := by decide +kernel
theorem dX6_isPuppet_11 : decode cX6_isPuppet 11 = .ok (.ireturn, 1) := by decide +kernel
theorem dX6_key_0 : decode cX6_key 0 = .ok (.aload_n 0, 1) := by decide +kernel
theorem dX6_key_1 : decode cX6_key 1 = .ok (.iload_n 1, 1) := by decide +kernel
theorem dX6_key_2 : decode cX6_key 2 = .ok (.invokevirtual 98, 3) := by decide +kernel
theorem dX6_key_5 : decode cX6_key 5 = .ok (.istore 6, 2) := by decide +kernel
theorem dX6_key_7 : decode cX6_key 7 = .ok (.iload_n 2, 1) := by decide +kernel
theorem dX6_key_8 : decode cX6_key 8 = .ok (.iconst 0, 1) := by decide +kernel
theorem dX6_key_9 : decode cX6_key 9 = .ok (.sipush 999, 3) := by decide +kernel
theorem dX6_key_12 : decode cX6_key 12 = .ok (.invokestatic 87, 3) := by decide +kernel
theorem dX6_key_15 : decode cX6_key 15 = .ok (.ifCond .eq 40, 3) := by decide +kernel
theorem dX6_key_18 : decode cX6_key 18 = .ok (.iload_n 3, 1) := by decide +kernel
theorem dX6_key_19 : decode cX6_key 19 = .ok (.iconst 0, 1) := by decide +kernel
theorem dX6_key_20 : decode cX6_key 20 = .ok (.sipush 999, 3) := by decide +kernel
theorem dX6_key_23 : decode cX6_key 23 = .ok (.invokestatic 87, 3) := by decide +kernel
theorem dX6_key_26 : decode cX6_key 26 = .ok (.ifCond .eq 29, 3) := by decide +kernel
theorem dX6_key_29 : decode cX6_key 29 = .ok (.iload 4, 2) := by decide +kernel
theorem dX6_key_31 : decode cX6_key 31 = .ok (.iconst 0, 1) := by decide +kernel
theorem dX6_key_32 : decode cX6_key 32 = .ok (.sipush 999, 3) := by decide +kernel
theorem dX6_key_35 : decode cX6_key 35 = .ok (.invokestatic 87, 3) := by decide +kernel
theorem dX6_key_38 : decode cX6_key 38 = .ok (.ifCond .eq 17, 3) := by decide +kernel
theorem dX6_key_41 : decode cX6_key 41 = .ok (.iload 5, 2) := by decide +kernel
theorem dX6_key_43 : decode cX6_key 43 = .ok (.iconst 0, 1) := by decide +kernel
theorem dX6_key_44 : decode cX6_key 44 = .ok (.iconst 3, 1) := by decide +kernel
theorem dX6_key_45 : decode cX6_key 45 = .ok (.invokestatic 87, 3) := by decide +kernel
theorem dX6_key_48 : decode cX6_key 48 = .ok (.ifCond .eq 7, 3) := by decide +kernel
theorem dX6_key_51 : decode cX6_key 51 = .ok (.iconst 1, 1) := by decide +kernel
theorem dX6_key_52 : decode cX6_key 52 = .ok (.goto 4, 3) := by decide +kernel
theorem dX6_key_55 : decode cX6_key 55 = .ok (.iconst 0, 1) := by decide +kernel
theorem dX6_key_56 : decode cX6_key 56 = .ok (.istore 7, 2) := by decide +kernel
theorem dX6_key_58 : decode cX6_key 58 = .ok (.iload 6, 2) := by decide +kernel
theorem dX6_key_60 : decode cX6_key 60 = .ok (.ifCond .eq 21, 3) := by decide +kernel
theorem dX6_key_63 : decode cX6_key 63 = .ok (.iload 7, 2) := by decide +kernel
theorem dX6_key_65 : decode cX6_key 65 = .ok (.ifCond .eq 16, 3) := by decide +kernel
theorem dX6_key_68 : decode cX6_key 68 = .ok (.aload_n 0, 1) := by decide +kernel
theorem dX6_key_69 : decode cX6_key 69 = .ok (.iload_n 1, 1) := by decide +kernel
theorem dX6_key_70 : decode cX6_key 70 = .ok (.iload_n 2, 1) := by decide +kernel
theorem dX6_key_71 : decode cX6_key 71 = .ok (.invokevirtual 105, 3) := by decide +kernel
theorem dX6_key_74 : decode cX6_key 74 = .ok (.ifCond .ne 7, 3) := by decide +kernel
theorem dX6_key_77 : decode cX6_key 77 = .ok (.iconst 1, 1) := by decide +kernel
theorem dX6_key_78 : decode cX6_key 78 = .ok (.goto 4, 3) := by decide +kernel
theorem dX6_key_81 : decode cX6_key 81 = .ok (.iconst 0, 1) := by decide +kernel
theorem dX6_key_82 : decode cX6_key 82 = .ok (.istore 8, 2) := by decide +kernel
theorem dX6_key_84 : decode cX6_key 84 = .ok (.aload_n 0, 1) := by decide +kernel
theorem dX6_key_85 : decode cX6_key 85 = .ok (.iload 6, 2) := by decide +kernel
theorem dX6_key_87 : decode cX6_key 87 = .ok (.ifCond .ne 7, 3) := by decide +kernel
theorem dX6_key_90 : decode cX6_key 90 = .ok (.iconst 1, 1) := by decide +kernel
theorem dX6_key_91 : decode cX6_key 91 = .ok (.goto 33, 3) := by decide +kernel
theorem dX6_key_94 : decode cX6_key 94 = .ok (.iload 7, 2) := by decide +kernel
theorem dX6_key_96 : decode cX6_key 96 = .ok (.ifCond .ne 7, 3) := by decide +kernel
theorem dX6_key_99 : decode cX6_key 99 = .ok (.iconst 2, 1) := by decide +kernel
theorem dX6_key_100 : decode cX6_key 100 = .ok (.goto 24, 3) := by decide +kernel
theorem dX6_key_103 : decode cX6_key 103 = .ok (.iload 8, 2) := by decide +kernel
theorem dX6_key_105 : decode cX6_key 105 = .ok (.ifCond .eq 18, 3) := by decide +kernel
theorem dX6_key_108 : decode cX6_key 108 = .ok (.aload_n 0, 1) := by decide +kernel
theorem dX6_key_109 : decode cX6_key 109 = .ok (.getfield 16, 3) := by decide +kernel
theorem dX6_key_112 : decode cX6_key 112 = .ok (.iload_n 1, 1) := by decide +kernel
theorem dX6_key_113 : decode cX6_key 113 = .ok (.iaload, 1) := by decide +kernel
theorem dX6_key_114 : decode cX6_key 114 = .ok (.bipush 12, 2) := by decide +kernel
theorem dX6_key_116 : decode cX6_key 116 = .ok (.if_icmp .ne 7, 3) := by decide +kernel
theorem dX6_key_119 : decode cX6_key 119 = .ok (.iconst 3, 1) := by decide +kernel
theorem dX6_key_120 : decode cX6_key 120 = .ok (.goto 4, 3) := by decide +kernel
theorem dX6_key_123 : decode cX6_key 123 = .ok (.iconst 0, 1) := by decide +kernel
theorem dX6_key_124 : decode cX6_key 124 = .ok (.invokevirtual 94, 3) := by decide +kernel
theorem dX6_key_127 : decode cX6_key 127 = .ok (.ifCond .ne 5, 3) := by decide +kernel
theorem dX6_key_130 : decode cX6_key 130 = .ok (.iconst 0, 1) := by decide +kernel
theorem dX6_key_131 : decode cX6_key 131 = .ok (.ireturn, 1) := by decide +kernel
theorem dX6_key_132 : decode cX6_key 132 = .ok (.bipush 12, 2) := by decide +kernel
theorem dX6_key_134 : decode cX6_key 134 = .ok (.iload_n 1, 1) := by decide +kernel
theorem dX6_key_135 : decode cX6_key 135 = .ok (.imul, 1) := by decide +kernel
theorem dX6_key_136 : decode cX6_key 136 = .ok (.aload_n 0, 1) := by decide +kernel
theorem dX6_key_137 : decode cX6_key 137 = .ok (.iload_n 1, 1) := by decide +kernel
theorem dX6_key_138 : decode cX6_key 138 = .ok (.iload_n 2, 1) := by decide +kernel
theorem dX6_key_139 : decode cX6_key 139 = .ok (.invokevirtual 101, 3) := by decide +kernel
theorem dX6_key_142 : decode cX6_key 142 = .ok (.iadd, 1) := by decide +kernel
theorem dX6_key_143 : decode cX6_key 143 = .ok (.istore 9, 2) := by decide +kernel
theorem dX6_key_145 : decode cX6_key 145 = .ok (.iload 8, 2) := by decide +kernel
theorem dX6_key_147 : decode cX6_key 147 = .ok (.ifCond .eq 49, 3) := by decide +kernel
theorem dX6_key_150 : decode cX6_key 150 = .ok (.bipush 12, 2) := by decide +kernel
theorem dX6_key_152 : decode cX6_key 152 = .ok (.iload_n 1, 1) := by decide +kernel
theorem dX6_key_153 : decode cX6_key 153 = .ok (.imul, 1) := by decide +kernel
theorem dX6_key_154 : decode cX6_key 154 = .ok (.aload_n 0, 1) := by decide +kernel
theorem dX6_key_155 : decode cX6_key 155 = .ok (.getfield 16, 3) := by decide +kernel
theorem dX6_key_158 : decode cX6_key 158 = .ok (.iload_n 1, 1) := by decide +kernel
theorem dX6_key_159 : decode cX6_key 159 = .ok (.iaload, 1) := by decide +kernel
theorem dX6_key_160 : decode cX6_key 160 = .ok (.iadd, 1) := by decide +kernel
theorem dX6_key_161 : decode cX6_key 161 = .ok (.istore 10, 2) := by decide +kernel
theorem dX6_key_163 : decode cX6_key 163 = .ok (.iload 10, 2) := by decide +kernel
theorem dX6_key_165 : decode cX6_key 165 = .ok (.iload 9, 2) := by decide +kernel
theorem dX6_key_167 : decode cX6_key 167 = .ok (.if_icmp .le 19, 3) := by decide +kernel
theorem dX6_key_170 : decode cX6_key 170 = .ok (.aload_n 0, 1) := by decide +kernel
theorem dX6_key_171 : decode cX6_key 171 = .ok (.iload 10, 2) := by decide +kernel
theorem dX6_key_173 : decode cX6_key 173 = .ok (.iconst 1, 1) := by decide +kernel
theorem dX6_key_174 : decode cX6_key 174 = .ok (.isub, 1) := by decide +kernel
theorem dX6_key_175 : decode cX6_key 175 = .ok (.iload 10, 2) := by decide +kernel
theorem dX6_key_177 : decode cX6_key 177 = .ok (.invokevirtual 109, 3) := by decide +kernel
theorem dX6_key_180 : decode cX6_key 180 = .ok (.iinc 10 (-1), 3) := by decide +kernel
theorem dX6_key_183 : decode cX6_key 183 = .ok (.goto (-20), 3) := by decide +kernel
theorem dX6_key_186 : decode cX6_key 186 = .ok (.aload_n 0, 1) := by decide +kernel
theorem dX6_key_187 : decode cX6_key 187 = .ok (.getfield 16, 3) := by decide +kernel
theorem dX6_key_190 : decode cX6_key 190 = .ok (.iload_n 1, 1) := by decide +kernel
theorem dX6_key_191 : decode cX6_key 191 = .ok (.dup2, 1) := by decide +kernel
theorem dX6_key_192 : decode cX6_key 192 = .ok (.iaload, 1) := by decide +kernel
theorem dX6_key_193 : decode cX6_key 193 = .ok (.iconst 1, 1) := by decide +kernel
theorem dX6_key_194 : decode cX6_key 194 = .ok (.iadd, 1) := by decide +kernel
theorem dX6_key_195 : decode cX6_key 195 = .ok (.iastore, 1) := by decide +kernel
theorem dX6_key_196 : decode cX6_key 196 = .ok (.aload_n 0, 1) := by decide +kernel
theorem dX6_key_197 : decode cX6_key 197 = .ok (.getfield 25, 3) := by decide +kernel
theorem dX6_key_200 : decode cX6_key 200 = .ok (.iload 9, 2) := by decide +kernel
theorem dX6_key_202 : decode cX6_key 202 = .ok (.iload_n 2, 1) := by decide +kernel
theorem dX6_key_203 : decode cX6_key 203 = .ok (.iastore, 1) := by decide +kernel
theorem dX6_key_204 : decode cX6_key 204 = .ok (.aload_n 0, 1) := by decide +kernel
theorem dX6_key_205 : decode cX6_key 205 = .ok (.getfield 28, 3) := by decide +kernel
theorem dX6_key_208 : decode cX6_key 208 = .ok (.iload 9, 2) := by decide +kernel
theorem dX6_key_210 : decode cX6_key 210 = .ok (.iload_n 3, 1) := by decide +kernel
theorem dX6_key_211 : decode cX6_key 211 = .ok (.iastore, 1) := by decide +kernel
theorem dX6_key_212 : decode cX6_key 212 = .ok (.aload_n 0, 1) := by decide +kernel
theorem dX6_key_213 : decode cX6_key 213 = .ok (.getfield 31, 3) := by decide +kernel
theorem dX6_key_216 : decode cX6_key 216 = .ok (.iload 9, 2) := by decide +kernel
theorem dX6_key_218 : decode cX6_key 218 = .ok (.iload 4, 2) := by decide +kernel
theorem dX6_key_220 : decode cX6_key 220 = .ok (.iastore, 1) := by decide +kernel
theorem dX6_key_221 : decode cX6_key 221 = .ok (.aload_n 0, 1) := by decide +kernel
theorem dX6_key_222 : decode cX6_key 222 = .ok (.getfield 34, 3) := by decide +kernel
theorem dX6_key_225 : decode cX6_key 225 = .ok (.iload 9, 2) := by decide +kernel
theorem dX6_key_227 : decode cX6_key 227 = .ok (.iload 5, 2) := by decide +kernel
theorem dX6_key_229 : decode cX6_key 229 = .ok (.iastore, 1) := by decide +kernel
theorem dX6_key_230 : decode cX6_key 230 = .ok (.aload_n 0, 1) := by decide +kernel
theorem dX6_key_231 : decode cX6_key 231 = .ok (.getfield 16, 3) := by decide +kernel
theorem dX6_key_234 : decode cX6_key 234 = .ok (.iload_n 1, 1) := by decide +kernel
theorem dX6_key_235 : decode cX6_key 235 = .ok (.iaload, 1) := by decide +kernel
theorem dX6_key_236 : decode cX6_key 236 = .ok (.ireturn, 1) := by decide +kernel
theorem dX6_hasKey_0 : decode cX6_hasKey 0 = .ok (.aload_n 0, 1) := by decide +kernel
theorem dX6_hasKey_1 : decode cX6_hasKey 1 = .ok (.iload_n 1, 1) := by decide +kernel
theorem dX6_hasKey_2 : decode cX6_hasKey 2 = .ok (.iload_n 2, 1) := by decide +kernel
theorem dX6_hasKey_3 : decode cX6_hasKey 3 = .ok (.invokevirtual 101, 3) := by decide +kernel
theorem dX6_hasKey_6 : decode cX6_hasKey 6 = .ok (.istore_n 3, 1) := by decide +kernel
theorem dX6_hasKey_7 : decode cX6_hasKey 7 = .ok (.iload_n 3, 1) := by decide +kernel
theorem dX6_hasKey_8 : decode cX6_hasKey 8 = .ok (.aload_n 0, 1) := by decide +kernel
theorem dX6_hasKey_9 : decode cX6_hasKey 9 = .ok (.getfield 16, 3) := by decide +kernel
theorem dX6_hasKey_12 : decode cX6_hasKey 12 = .ok (.iload_n 1, 1) := by decide +kernel
theorem dX6_hasKey_13 : decode cX6_hasKey 13 = .ok (.iaload, 1) := by decide +kernel
theorem dX6_hasKey_14 : decode cX6_hasKey 14 = .ok (.if_icmp .ge 22, 3) := by decide +kernel
theorem dX6_hasKey_17 : decode cX6_hasKey 17 = .ok (.aload_n 0, 1) := by decide +kernel
theorem dX6_hasKey_18 : decode cX6_hasKey 18 = .ok (.getfield 25, 3) := by decide +kernel
theorem dX6_hasKey_21 : decode cX6_hasKey 21 = .ok (.bipush 12, 2) := by decide +kernel
theorem dX6_hasKey_23 : decode cX6_hasKey 23 = .ok (.iload_n 1, 1) := by decide +kernel
theorem dX6_hasKey_24 : decode cX6_hasKey 24 = .ok (.imul, 1) := by decide +kernel
theorem dX6_hasKey_25 : decode cX6_hasKey 25 = .ok (.iload_n 3, 1) := by decide +kernel
theorem dX6_hasKey_26 : decode cX6_hasKey 26 = .ok (.iadd, 1) := by decide +kernel
theorem dX6_hasKey_27 : decode cX6_hasKey 27 = .ok (.iaload, 1) := by decide +kernel
theorem dX6_hasKey_28 : decode cX6_hasKey 28 = .ok (.iload_n 2, 1) := by decide +kernel
theorem dX6_hasKey_29 : decode cX6_hasKey 29 = .ok (.if_icmp .ne 7, 3) := by decide +kernel
theorem dX6_hasKey_32 : decode cX6_hasKey 32 = .ok (.iconst 1, 1) := by decide +kernel
theorem dX6_hasKey_33 : decode cX6_hasKey 33 = .ok (.goto 4, 3) := by decide +kernel
theorem dX6_hasKey_36 : decode cX6_hasKey 36 = .ok (.iconst 0, 1) := by decide +kernel
theorem dX6_hasKey_37 : decode cX6_hasKey 37 = .ok (.ireturn, 1) := by decide +kernel
theorem dX6_placeOf_0 : decode cX6_placeOf 0 = .ok (.iconst 0, 1) := by decide +kernel
theorem dX6_placeOf_1 : decode cX6_placeOf 1 = .ok (.istore_n 3, 1) := by decide +kernel
theorem dX6_placeOf_2 : decode cX6_placeOf 2 = .ok (.iload_n 3, 1) := by decide +kernel
theorem dX6_placeOf_3 : decode cX6_placeOf 3 = .ok (.aload_n 0, 1) := by decide +kernel
theorem dX6_placeOf_4 : decode cX6_placeOf 4 = .ok (.getfield 16, 3) := by decide +kernel
theorem dX6_placeOf_7 : decode cX6_placeOf 7 = .ok (.iload_n 1, 1) := by decide +kernel
theorem dX6_placeOf_8 : decode cX6_placeOf 8 = .ok (.iaload, 1) := by decide +kernel
theorem dX6_placeOf_9 : decode cX6_placeOf 9 = .ok (.if_icmp .ge 24, 3) := by decide +kernel
theorem dX6_placeOf_12 : decode cX6_placeOf 12 = .ok (.aload_n 0, 1) := by decide +kernel
theorem dX6_placeOf_13 : decode cX6_placeOf 13 = .ok (.getfield 25, 3) := by decide +kernel
theorem dX6_placeOf_16 : decode cX6_placeOf 16 = .ok (.bipush 12, 2) := by decide +kernel
theorem dX6_placeOf_18 : decode cX6_placeOf 18 = .ok (.iload_n 1, 1) := by decide +kernel
theorem dX6_placeOf_19 : decode cX6_placeOf 19 = .ok (.imul, 1) := by decide +kernel
theorem dX6_placeOf_20 : decode cX6_placeOf 20 = .ok (.iload_n 3, 1) := by decide +kernel
theorem dX6_placeOf_21 : decode cX6_placeOf 21 = .ok (.iadd, 1) := by decide +kernel
theorem dX6_placeOf_22 : decode cX6_placeOf 22 = .ok (.iaload, 1) := by decide +kernel
theorem dX6_placeOf_23 : decode cX6_placeOf 23 = .ok (.iload_n 2, 1) := by decide +kernel
theorem dX6_placeOf_24 : decode cX6_placeOf 24 = .ok (.if_icmp .ge 9, 3) := by decide +kernel
theorem dX6_placeOf_27 : decode cX6_placeOf 27 = .ok (.iinc 3 1, 3) := by decide +kernel
theorem dX6_placeOf_30 : decode cX6_placeOf 30 = .ok (.goto (-28), 3) := by decide +kernel
theorem dX6_placeOf_33 : decode cX6_placeOf 33 = .ok (.iload_n 3, 1) := by decide +kernel
theorem dX6_placeOf_34 : decode cX6_placeOf 34 = .ok (.ireturn, 1) := by decide +kernel
theorem dX6_copies_0 : decode cX6_copies 0 = .ok (.aload_n 0, 1) := by decide +kernel
theorem dX6_copies_1 : decode cX6_copies 1 = .ok (.getfield 25, 3) := by decide +kernel
theorem dX6_copies_4 : decode cX6_copies 4 = .ok (.iload_n 2, 1) := by decide +kernel
theorem dX6_copies_5 : decode cX6_copies 5 = .ok (.aload_n 0, 1) := by decide +kernel
theorem dX6_copies_6 : decode cX6_copies 6 = .ok (.getfield 25, 3) := by decide +kernel
theorem dX6_copies_9 : decode cX6_copies 9 = .ok (.iload_n 1, 1) := by decide +kernel
theorem dX6_copies_10 : decode cX6_copies 10 = .ok (.iaload, 1) := by decide +kernel
theorem dX6_copies_11 : decode cX6_copies 11 = .ok (.iastore, 1) := by decide +kernel
theorem dX6_copies_12 : decode cX6_copies 12 = .ok (.aload_n 0, 1) := by decide +kernel
theorem dX6_copies_13 : decode cX6_copies 13 = .ok (.getfield 28, 3) := by decide +kernel
theorem dX6_copies_16 : decode cX6_copies 16 = .ok (.iload_n 2, 1) := by decide +kernel
theorem dX6_copies_17 : decode cX6_copies 17 = .ok (.aload_n 0, 1) := by decide +kernel
theorem dX6_copies_18 : decode cX6_copies 18 = .ok (.getfield 28, 3) := by decide +kernel
theorem dX6_copies_21 : decode cX6_copies 21 = .ok (.iload_n 1, 1) := by decide +kernel
theorem dX6_copies_22 : decode cX6_copies 22 = .ok (.iaload, 1) := by decide +kernel
theorem dX6_copies_23 : decode cX6_copies 23 = .ok (.iastore, 1) := by decide +kernel
theorem dX6_copies_24 : decode cX6_copies 24 = .ok (.aload_n 0, 1) := by decide +kernel
theorem dX6_copies_25 : decode cX6_copies 25 = .ok (.getfield 31, 3) := by decide +kernel
theorem dX6_copies_28 : decode cX6_copies 28 = .ok (.iload_n 2, 1) := by decide +kernel
theorem dX6_copies_29 : decode cX6_copies 29 = .ok (.aload_n 0, 1) := by decide +kernel
theorem dX6_copies_30 : decode cX6_copies 30 = .ok (.getfield 31, 3) := by decide +kernel
theorem dX6_copies_33 : decode cX6_copies 33 = .ok (.iload_n 1, 1) := by decide +kernel
theorem dX6_copies_34 : decode cX6_copies 34 = .ok (.iaload, 1) := by decide +kernel
theorem dX6_copies_35 : decode cX6_copies 35 = .ok (.iastore, 1) := by decide +kernel
theorem dX6_copies_36 : decode cX6_copies 36 = .ok (.aload_n 0, 1) := by decide +kernel
theorem dX6_copies_37 : decode cX6_copies 37 = .ok (.getfield 34, 3) := by decide +kernel
theorem dX6_copies_40 : decode cX6_copies 40 = .ok (.iload_n 2, 1) := by decide +kernel
theorem dX6_copies_41 : decode cX6_copies 41 = .ok (.aload_n 0, 1) := by decide +kernel
theorem dX6_copies_42 : decode cX6_copies 42 = .ok (.getfield 34, 3) := by decide +kernel
theorem dX6_copies_45 : decode cX6_copies 45 = .ok (.iload_n 1, 1) := by decide +kernel
theorem dX6_copies_46 : decode cX6_copies 46 = .ok (.iaload, 1) := by decide +kernel
theorem dX6_copies_47 : decode cX6_copies 47 = .ok (.iastore, 1) := by decide +kernel
theorem dX6_copies_48 : decode cX6_copies 48 = .ok (.return_, 1) := by decide +kernel
theorem dX6_cutKey_0 : decode cX6_cutKey 0 = .ok (.aload_n 0, 1) := by decide +kernel
theorem dX6_cutKey_1 : decode cX6_cutKey 1 = .ok (.iload_n 1, 1) := by decide +kernel
theorem dX6_cutKey_2 : decode cX6_cutKey 2 = .ok (.invokevirtual 98, 3) := by decide +kernel
theorem dX6_cutKey_5 : decode cX6_cutKey 5 = .ok (.istore_n 3, 1) := by decide +kernel
theorem dX6_cutKey_6 : decode cX6_cutKey 6 = .ok (.aload_n 0, 1) := by decide +kernel
theorem dX6_cutKey_7 : decode cX6_cutKey 7 = .ok (.iload_n 3, 1) := by decide +kernel
theorem dX6_cutKey_8 : decode cX6_cutKey 8 = .ok (.ifCond .ne 7, 3) := by decide +kernel
theorem dX6_cutKey_11 : decode cX6_cutKey 11 = .ok (.iconst 1, 1) := by decide +kernel
theorem dX6_cutKey_12 : decode cX6_cutKey 12 = .ok (.goto 17, 3) := by decide +kernel
theorem dX6_cutKey_15 : decode cX6_cutKey 15 = .ok (.aload_n 0, 1) := by decide +kernel
theorem dX6_cutKey_16 : decode cX6_cutKey 16 = .ok (.iload_n 1, 1) := by decide +kernel
theorem dX6_cutKey_17 : decode cX6_cutKey 17 = .ok (.iload_n 2, 1) := by decide +kernel
theorem dX6_cutKey_18 : decode cX6_cutKey 18 = .ok (.invokevirtual 105, 3) := by decide +kernel
theorem dX6_cutKey_21 : decode cX6_cutKey 21 = .ok (.ifCond .ne 7, 3) := by decide +kernel
theorem dX6_cutKey_24 : decode cX6_cutKey 24 = .ok (.iconst 2, 1) := by decide +kernel
theorem dX6_cutKey_25 : decode cX6_cutKey 25 = .ok (.goto 4, 3) := by decide +kernel
theorem dX6_cutKey_28 : decode cX6_cutKey 28 = .ok (.iconst 0, 1) := by decide +kernel
theorem dX6_cutKey_29 : decode cX6_cutKey 29 = .ok (.invokevirtual 94, 3) := by decide +kernel
theorem dX6_cutKey_32 : decode cX6_cutKey 32 = .ok (.ifCond .ne 5, 3) := by decide +kernel
theorem dX6_cutKey_35 : decode cX6_cutKey 35 = .ok (.iconst 0, 1) := by decide +kernel
theorem dX6_cutKey_36 : decode cX6_cutKey 36 = .ok (.ireturn, 1) := by decide +kernel
theorem dX6_cutKey_37 : decode cX6_cutKey 37 = .ok (.aload_n 0, 1) := by decide +kernel
theorem dX6_cutKey_38 : decode cX6_cutKey 38 = .ok (.getfield 16, 3) := by decide +kernel
theorem dX6_cutKey_41 : decode cX6_cutKey 41 = .ok (.iload_n 1, 1) := by decide +kernel
theorem dX6_cutKey_42 : decode cX6_cutKey 42 = .ok (.dup2, 1) := by decide +kernel
theorem dX6_cutKey_43 : decode cX6_cutKey 43 = .ok (.iaload, 1) := by decide +kernel
theorem dX6_cutKey_44 : decode cX6_cutKey 44 = .ok (.iconst 1, 1) := by decide +kernel
theorem dX6_cutKey_45 : decode cX6_cutKey 45 = .ok (.isub, 1) := by decide +kernel
theorem dX6_cutKey_46 : decode cX6_cutKey 46 = .ok (.iastore, 1) := by decide +kernel
theorem dX6_cutKey_47 : decode cX6_cutKey 47 = .ok (.bipush 12, 2) := by decide +kernel
theorem dX6_cutKey_49 : decode cX6_cutKey 49 = .ok (.iload_n 1, 1) := by decide +kernel
theorem dX6_cutKey_50 : decode cX6_cutKey 50 = .ok (.imul, 1) := by decide +kernel
theorem dX6_cutKey_51 : decode cX6_cutKey 51 = .ok (.aload_n 0, 1) := by decide +kernel
theorem dX6_cutKey_52 : decode cX6_cutKey 52 = .ok (.iload_n 1, 1) := by decide +kernel
theorem dX6_cutKey_53 : decode cX6_cutKey 53 = .ok (.iload_n 2, 1) := by decide +kernel
theorem dX6_cutKey_54 : decode cX6_cutKey 54 = .ok (.invokevirtual 101, 3) := by decide +kernel
theorem dX6_cutKey_57 : decode cX6_cutKey 57 = .ok (.iadd, 1) := by decide +kernel
theorem dX6_cutKey_58 : decode cX6_cutKey 58 = .ok (.istore 4, 2) := by decide +kernel
theorem dX6_cutKey_60 : decode cX6_cutKey 60 = .ok (.iload 4, 2) := by decide +kernel
theorem dX6_cutKey_62 : decode cX6_cutKey 62 = .ok (.bipush 12, 2) := by decide +kernel
theorem dX6_cutKey_64 : decode cX6_cutKey 64 = .ok (.iload_n 1, 1) := by decide +kernel
theorem dX6_cutKey_65 : decode cX6_cutKey 65 = .ok (.imul, 1) := by decide +kernel
theorem dX6_cutKey_66 : decode cX6_cutKey 66 = .ok (.aload_n 0, 1) := by decide +kernel
theorem dX6_cutKey_67 : decode cX6_cutKey 67 = .ok (.getfield 16, 3) := by decide +kernel
theorem dX6_cutKey_70 : decode cX6_cutKey 70 = .ok (.iload_n 1, 1) := by decide +kernel
theorem dX6_cutKey_71 : decode cX6_cutKey 71 = .ok (.iaload, 1) := by decide +kernel
theorem dX6_cutKey_72 : decode cX6_cutKey 72 = .ok (.iadd, 1) := by decide +kernel
theorem dX6_cutKey_73 : decode cX6_cutKey 73 = .ok (.if_icmp .ge 19, 3) := by decide +kernel
theorem dX6_cutKey_76 : decode cX6_cutKey 76 = .ok (.aload_n 0, 1) := by decide +kernel
theorem dX6_cutKey_77 : decode cX6_cutKey 77 = .ok (.iload 4, 2) := by decide +kernel
theorem dX6_cutKey_79 : decode cX6_cutKey 79 = .ok (.iconst 1, 1) := by decide +kernel
theorem dX6_cutKey_80 : decode cX6_cutKey 80 = .ok (.iadd, 1) := by decide +kernel
theorem dX6_cutKey_81 : decode cX6_cutKey 81 = .ok (.iload 4, 2) := by decide +kernel
theorem dX6_cutKey_83 : decode cX6_cutKey 83 = .ok (.invokevirtual 109, 3) := by decide +kernel
theorem dX6_cutKey_86 : decode cX6_cutKey 86 = .ok (.iinc 4 1, 3) := by decide +kernel
theorem dX6_cutKey_89 : decode cX6_cutKey 89 = .ok (.goto (-29), 3) := by decide +kernel
theorem dX6_cutKey_92 : decode cX6_cutKey 92 = .ok (.aload_n 0, 1) := by decide +kernel
theorem dX6_cutKey_93 : decode cX6_cutKey 93 = .ok (.getfield 16, 3) := by decide +kernel
theorem dX6_cutKey_96 : decode cX6_cutKey 96 = .ok (.iload_n 1, 1) := by decide +kernel
theorem dX6_cutKey_97 : decode cX6_cutKey 97 = .ok (.iaload, 1) := by decide +kernel
theorem dX6_cutKey_98 : decode cX6_cutKey 98 = .ok (.ireturn, 1) := by decide +kernel
theorem dX6_hear_0 : decode cX6_hear 0 = .ok (.aload_n 0, 1) := by decide +kernel
theorem dX6_hear_1 : decode cX6_hear 1 = .ok (.iload_n 1, 1) := by decide +kernel
theorem dX6_hear_2 : decode cX6_hear 2 = .ok (.invokestatic 113, 3) := by decide +kernel
theorem dX6_hear_5 : decode cX6_hear 5 = .ok (.ifCond .ne 7, 3) := by decide +kernel
theorem dX6_hear_8 : decode cX6_hear 8 = .ok (.iconst 1, 1) := by decide +kernel
theorem dX6_hear_9 : decode cX6_hear 9 = .ok (.goto 19, 3) := by decide +kernel
theorem dX6_hear_12 : decode cX6_hear 12 = .ok (.iload_n 2, 1) := by decide +kernel
theorem dX6_hear_13 : decode cX6_hear 13 = .ok (.iconst (-1), 1) := by decide +kernel
theorem dX6_hear_14 : decode cX6_hear 14 = .ok (.sipush 999, 3) := by decide +kernel
theorem dX6_hear_17 : decode cX6_hear 17 = .ok (.invokestatic 87, 3) := by decide +kernel
theorem dX6_hear_20 : decode cX6_hear 20 = .ok (.ifCond .ne 7, 3) := by decide +kernel
theorem dX6_hear_23 : decode cX6_hear 23 = .ok (.iconst 2, 1) := by decide +kernel
theorem dX6_hear_24 : decode cX6_hear 24 = .ok (.goto 4, 3) := by decide +kernel
theorem dX6_hear_27 : decode cX6_hear 27 = .ok (.iconst 0, 1) := by decide +kernel
theorem dX6_hear_28 : decode cX6_hear 28 = .ok (.invokevirtual 94, 3) := by decide +kernel
theorem dX6_hear_31 : decode cX6_hear 31 = .ok (.ifCond .ne 5, 3) := by decide +kernel
theorem dX6_hear_34 : decode cX6_hear 34 = .ok (.iconst 0, 1) := by decide +kernel
theorem dX6_hear_35 : decode cX6_hear 35 = .ok (.ireturn, 1) := by decide +kernel
theorem dX6_hear_36 : decode cX6_hear 36 = .ok (.aload_n 0, 1) := by decide +kernel
theorem dX6_hear_37 : decode cX6_hear 37 = .ok (.getfield 46, 3) := by decide +kernel
theorem dX6_hear_40 : decode cX6_hear 40 = .ok (.iload_n 1, 1) := by decide +kernel
theorem dX6_hear_41 : decode cX6_hear 41 = .ok (.iaload, 1) := by decide +kernel
theorem dX6_hear_42 : decode cX6_hear 42 = .ok (.istore_n 3, 1) := by decide +kernel
theorem dX6_hear_43 : decode cX6_hear 43 = .ok (.aload_n 0, 1) := by decide +kernel
theorem dX6_hear_44 : decode cX6_hear 44 = .ok (.getfield 46, 3) := by decide +kernel
theorem dX6_hear_47 : decode cX6_hear 47 = .ok (.iload_n 1, 1) := by decide +kernel
theorem dX6_hear_48 : decode cX6_hear 48 = .ok (.iload_n 2, 1) := by decide +kernel
theorem dX6_hear_49 : decode cX6_hear 49 = .ok (.iastore, 1) := by decide +kernel
theorem dX6_hear_50 : decode cX6_hear 50 = .ok (.iload_n 3, 1) := by decide +kernel
theorem dX6_hear_51 : decode cX6_hear 51 = .ok (.ireturn, 1) := by decide +kernel
theorem dX6_isSound_0 : decode cX6_isSound 0 = .ok (.iload_n 0, 1) := by decide +kernel
theorem dX6_isSound_1 : decode cX6_isSound 1 = .ok (.iconst 0, 1) := by decide +kernel
theorem dX6_isSound_2 : decode cX6_isSound 2 = .ok (.bipush 9, 2) := by decide +kernel
theorem dX6_isSound_4 : decode cX6_isSound 4 = .ok (.invokestatic 87, 3) := by decide +kernel
theorem dX6_isSound_7 : decode cX6_isSound 7 = .ok (.ireturn, 1) := by decide +kernel
theorem dX6_cue_0 : decode cX6_cue 0 = .ok (.aload_n 0, 1) := by decide +kernel
theorem dX6_cue_1 : decode cX6_cue 1 = .ok (.aload_n 0, 1) := by decide +kernel
theorem dX6_cue_2 : decode cX6_cue 2 = .ok (.iload_n 1, 1) := by decide +kernel
theorem dX6_cue_3 : decode cX6_cue 3 = .ok (.invokevirtual 98, 3) := by decide +kernel
theorem dX6_cue_6 : decode cX6_cue 6 = .ok (.ifCond .eq 19, 3) := by decide +kernel
theorem dX6_cue_9 : decode cX6_cue 9 = .ok (.iload_n 2, 1) := by decide +kernel
theorem dX6_cue_10 : decode cX6_cue 10 = .ok (.iconst (-1), 1) := by decide +kernel
theorem dX6_cue_11 : decode cX6_cue 11 = .ok (.if_icmp .eq 10, 3) := by decide +kernel
theorem dX6_cue_14 : decode cX6_cue 14 = .ok (.iload_n 2, 1) := by decide +kernel
theorem dX6_cue_15 : decode cX6_cue 15 = .ok (.invokestatic 113, 3) := by decide +kernel
theorem dX6_cue_18 : decode cX6_cue 18 = .ok (.ifCond .eq 7, 3) := by decide +kernel
theorem dX6_cue_21 : decode cX6_cue 21 = .ok (.iconst 0, 1) := by decide +kernel
theorem dX6_cue_22 : decode cX6_cue 22 = .ok (.goto 4, 3) := by decide +kernel
theorem dX6_cue_25 : decode cX6_cue 25 = .ok (.iconst 1, 1) := by decide +kernel
theorem dX6_cue_26 : decode cX6_cue 26 = .ok (.invokevirtual 94, 3) := by decide +kernel
theorem dX6_cue_29 : decode cX6_cue 29 = .ok (.ifCond .ne 5, 3) := by decide +kernel
theorem dX6_cue_32 : decode cX6_cue 32 = .ok (.iconst 0, 1) := by decide +kernel
theorem dX6_cue_33 : decode cX6_cue 33 = .ok (.ireturn, 1) := by decide +kernel
theorem dX6_cue_34 : decode cX6_cue 34 = .ok (.aload_n 0, 1) := by decide +kernel
theorem dX6_cue_35 : decode cX6_cue 35 = .ok (.getfield 19, 3) := by decide +kernel
theorem dX6_cue_38 : decode cX6_cue 38 = .ok (.iload_n 1, 1) := by decide +kernel
theorem dX6_cue_39 : decode cX6_cue 39 = .ok (.iaload, 1) := by decide +kernel
theorem dX6_cue_40 : decode cX6_cue 40 = .ok (.istore_n 3, 1) := by decide +kernel
theorem dX6_cue_41 : decode cX6_cue 41 = .ok (.aload_n 0, 1) := by decide +kernel
theorem dX6_cue_42 : decode cX6_cue 42 = .ok (.getfield 19, 3) := by decide +kernel
theorem dX6_cue_45 : decode cX6_cue 45 = .ok (.iload_n 1, 1) := by decide +kernel
theorem dX6_cue_46 : decode cX6_cue 46 = .ok (.iload_n 2, 1) := by decide +kernel
theorem dX6_cue_47 : decode cX6_cue 47 = .ok (.iastore, 1) := by decide +kernel
theorem dX6_cue_48 : decode cX6_cue 48 = .ok (.iload_n 3, 1) := by decide +kernel
theorem dX6_cue_49 : decode cX6_cue 49 = .ok (.ireturn, 1) := by decide +kernel
theorem dX6_show_0 : decode cX6_show 0 = .ok (.iload_n 1, 1) := by decide +kernel
theorem dX6_show_1 : decode cX6_show 1 = .ok (.iconst 0, 1) := by decide +kernel
theorem dX6_show_2 : decode cX6_show 2 = .ok (.ldc 116, 2) := by decide +kernel
theorem dX6_show_4 : decode cX6_show 4 = .ok (.invokestatic 87, 3) := by decide +kernel
theorem dX6_show_7 : decode cX6_show 7 = .ok (.ifCond .eq 18, 3) := by decide +kernel
theorem dX6_show_10 : decode cX6_show 10 = .ok (.iload_n 2, 1) := by decide +kernel
theorem dX6_show_11 : decode cX6_show 11 = .ok (.iconst 1, 1) := by decide +kernel
theorem dX6_show_12 : decode cX6_show 12 = .ok (.sipush 600, 3) := by decide +kernel
theorem dX6_show_15 : decode cX6_show 15 = .ok (.invokestatic 87, 3) := by decide +kernel
theorem dX6_show_18 : decode cX6_show 18 = .ok (.ifCond .eq 7, 3) := by decide +kernel
theorem dX6_show_21 : decode cX6_show 21 = .ok (.iconst 1, 1) := by decide +kernel
theorem dX6_show_22 : decode cX6_show 22 = .ok (.goto 4, 3) := by decide +kernel
theorem dX6_show_25 : decode cX6_show 25 = .ok (.iconst 0, 1) := by decide +kernel
theorem dX6_show_26 : decode cX6_show 26 = .ok (.istore_n 3, 1) := by decide +kernel
theorem dX6_show_27 : decode cX6_show 27 = .ok (.aload_n 0, 1) := by decide +kernel
theorem dX6_show_28 : decode cX6_show 28 = .ok (.iload_n 3, 1) := by decide +kernel
theorem dX6_show_29 : decode cX6_show 29 = .ok (.ifCond .ne 7, 3) := by decide +kernel
theorem dX6_show_32 : decode cX6_show 32 = .ok (.iconst 1, 1) := by decide +kernel
theorem dX6_show_33 : decode cX6_show 33 = .ok (.goto 17, 3) := by decide +kernel
theorem dX6_show_36 : decode cX6_show 36 = .ok (.aload_n 0, 1) := by decide +kernel
theorem dX6_show_37 : decode cX6_show 37 = .ok (.getfield 91, 3) := by decide +kernel
theorem dX6_show_40 : decode cX6_show 40 = .ok (.bipush 6, 2) := by decide +kernel
theorem dX6_show_42 : decode cX6_show 42 = .ok (.if_icmp .ne 7, 3) := by decide +kernel
theorem dX6_show_45 : decode cX6_show 45 = .ok (.iconst 2, 1) := by decide +kernel
theorem dX6_show_46 : decode cX6_show 46 = .ok (.goto 4, 3) := by decide +kernel
theorem dX6_show_49 : decode cX6_show 49 = .ok (.iconst 0, 1) := by decide +kernel
theorem dX6_show_50 : decode cX6_show 50 = .ok (.invokevirtual 94, 3) := by decide +kernel
theorem dX6_show_53 : decode cX6_show 53 = .ok (.ifCond .ne 5, 3) := by decide +kernel
theorem dX6_show_56 : decode cX6_show 56 = .ok (.iconst 0, 1) := by decide +kernel
theorem dX6_show_57 : decode cX6_show 57 = .ok (.ireturn, 1) := by decide +kernel
theorem dX6_show_58 : decode cX6_show 58 = .ok (.aload_n 0, 1) := by decide +kernel
theorem dX6_show_59 : decode cX6_show 59 = .ok (.getfield 49, 3) := by decide +kernel
theorem dX6_show_62 : decode cX6_show 62 = .ok (.aload_n 0, 1) := by decide +kernel
theorem dX6_show_63 : decode cX6_show 63 = .ok (.getfield 91, 3) := by decide +kernel
theorem dX6_show_66 : decode cX6_show 66 = .ok (.iload_n 1, 1) := by decide +kernel
theorem dX6_show_67 : decode cX6_show 67 = .ok (.iastore, 1) := by decide +kernel
theorem dX6_show_68 : decode cX6_show 68 = .ok (.aload_n 0, 1) := by decide +kernel
theorem dX6_show_69 : decode cX6_show 69 = .ok (.getfield 52, 3) := by decide +kernel
theorem dX6_show_72 : decode cX6_show 72 = .ok (.aload_n 0, 1) := by decide +kernel
theorem dX6_show_73 : decode cX6_show 73 = .ok (.getfield 91, 3) := by decide +kernel
theorem dX6_show_76 : decode cX6_show 76 = .ok (.iload_n 2, 1) := by decide +kernel
theorem dX6_show_77 : decode cX6_show 77 = .ok (.iastore, 1) := by decide +kernel
theorem dX6_show_78 : decode cX6_show 78 = .ok (.aload_n 0, 1) := by decide +kernel
theorem dX6_show_79 : decode cX6_show 79 = .ok (.dup, 1) := by decide +kernel
theorem dX6_show_80 : decode cX6_show 80 = .ok (.getfield 91, 3) := by decide +kernel
theorem dX6_show_83 : decode cX6_show 83 = .ok (.iconst 1, 1) := by decide +kernel
theorem dX6_show_84 : decode cX6_show 84 = .ok (.iadd, 1) := by decide +kernel
theorem dX6_show_85 : decode cX6_show 85 = .ok (.putfield 91, 3) := by decide +kernel
theorem dX6_show_88 : decode cX6_show 88 = .ok (.aload_n 0, 1) := by decide +kernel
theorem dX6_show_89 : decode cX6_show 89 = .ok (.getfield 91, 3) := by decide +kernel
theorem dX6_show_92 : decode cX6_show 92 = .ok (.iconst 1, 1) := by decide +kernel
theorem dX6_show_93 : decode cX6_show 93 = .ok (.isub, 1) := by decide +kernel
theorem dX6_show_94 : decode cX6_show 94 = .ok (.ireturn, 1) := by decide +kernel
theorem dX6_cast_0 : decode cX6_cast 0 = .ok (.aload_n 0, 1) := by decide +kernel
theorem dX6_cast_1 : decode cX6_cast 1 = .ok (.iload_n 1, 1) := by decide +kernel
theorem dX6_cast_2 : decode cX6_cast 2 = .ok (.invokevirtual 121, 3) := by decide +kernel
theorem dX6_cast_5 : decode cX6_cast 5 = .ok (.ifCond .eq 15, 3) := by decide +kernel
theorem dX6_cast_8 : decode cX6_cast 8 = .ok (.aload_n 0, 1) := by decide +kernel
theorem dX6_cast_9 : decode cX6_cast 9 = .ok (.iload_n 2, 1) := by decide +kernel
theorem dX6_cast_10 : decode cX6_cast 10 = .ok (.invokevirtual 98, 3) := by decide +kernel
theorem dX6_cast_13 : decode cX6_cast 13 = .ok (.ifCond .eq 7, 3) := by decide +kernel
theorem dX6_cast_16 : decode cX6_cast 16 = .ok (.iconst 1, 1) := by decide +kernel
theorem dX6_cast_17 : decode cX6_cast 17 = .ok (.goto 4, 3) := by decide +kernel
theorem dX6_cast_20 : decode cX6_cast 20 = .ok (.iconst 0, 1) := by decide +kernel
theorem dX6_cast_21 : decode cX6_cast 21 = .ok (.istore_n 3, 1) := by decide +kernel
theorem dX6_cast_22 : decode cX6_cast 22 = .ok (.iload_n 3, 1) := by decide +kernel
theorem dX6_cast_23 : decode cX6_cast 23 = .ok (.ifCond .eq 61, 3) := by decide +kernel
theorem dX6_cast_26 : decode cX6_cast 26 = .ok (.aload_n 0, 1) := by decide +kernel
theorem dX6_cast_27 : decode cX6_cast 27 = .ok (.getfield 55, 3) := by decide +kernel
theorem dX6_cast_30 : decode cX6_cast 30 = .ok (.iload_n 1, 1) := by decide +kernel
theorem dX6_cast_31 : decode cX6_cast 31 = .ok (.baload, 1) := by decide +kernel
theorem dX6_cast_32 : decode cX6_cast 32 = .ok (.ifCond .ne 52, 3) := by decide +kernel
theorem dX6_cast_35 : decode cX6_cast 35 = .ok (.aload_n 0, 1) := by decide +kernel
theorem dX6_cast_36 : decode cX6_cast 36 = .ok (.getfield 65, 3) := by decide +kernel
theorem dX6_cast_39 : decode cX6_cast 39 = .ok (.bipush 8, 2) := by decide +kernel
theorem dX6_cast_41 : decode cX6_cast 41 = .ok (.iload_n 1, 1) := by decide +kernel
theorem dX6_cast_42 : decode cX6_cast 42 = .ok (.imul, 1) := by decide +kernel
theorem dX6_cast_43 : decode cX6_cast 43 = .ok (.iload_n 2, 1) := by decide +kernel
theorem dX6_cast_44 : decode cX6_cast 44 = .ok (.iadd, 1) := by decide +kernel
theorem dX6_cast_45 : decode cX6_cast 45 = .ok (.baload, 1) := by decide +kernel
theorem dX6_cast_46 : decode cX6_cast 46 = .ok (.ifCond .ne 38, 3) := by decide +kernel
theorem dX6_cast_49 : decode cX6_cast 49 = .ok (.aload_n 0, 1) := by decide +kernel
theorem dX6_cast_50 : decode cX6_cast 50 = .ok (.getfield 22, 3) := by decide +kernel
theorem dX6_cast_53 : decode cX6_cast 53 = .ok (.iload_n 2, 1) := by decide +kernel
theorem dX6_cast_54 : decode cX6_cast 54 = .ok (.iaload, 1) := by decide +kernel
theorem dX6_cast_55 : decode cX6_cast 55 = .ok (.bipush 50, 2) := by decide +kernel
theorem dX6_cast_57 : decode cX6_cast 57 = .ok (.if_icmp .ge 27, 3) := by decide +kernel
theorem dX6_cast_60 : decode cX6_cast 60 = .ok (.aload_n 0, 1) := by decide +kernel
theorem dX6_cast_61 : decode cX6_cast 61 = .ok (.iload_n 2, 1) := by decide +kernel
theorem dX6_cast_62 : decode cX6_cast 62 = .ok (.aload_n 0, 1) := by decide +kernel
theorem dX6_cast_63 : decode cX6_cast 63 = .ok (.getfield 49, 3) := by decide +kernel
theorem dX6_cast_66 : decode cX6_cast 66 = .ok (.iload_n 1, 1) := by decide +kernel
theorem dX6_cast_67 : decode cX6_cast 67 = .ok (.iaload, 1) := by decide +kernel
theorem dX6_cast_68 : decode cX6_cast 68 = .ok (.aload_n 0, 1) := by decide +kernel
theorem dX6_cast_69 : decode cX6_cast 69 = .ok (.getfield 52, 3) := by decide +kernel
theorem dX6_cast_72 : decode cX6_cast 72 = .ok (.iload_n 1, 1) := by decide +kernel
theorem dX6_cast_73 : decode cX6_cast 73 = .ok (.iaload, 1) := by decide +kernel
theorem dX6_cast_74 : decode cX6_cast 74 = .ok (.invokevirtual 124, 3) := by decide +kernel
theorem dX6_cast_77 : decode cX6_cast 77 = .ok (.ifCond .ne 7, 3) := by decide +kernel
theorem dX6_cast_80 : decode cX6_cast 80 = .ok (.iconst 1, 1) := by decide +kernel
theorem dX6_cast_81 : decode cX6_cast 81 = .ok (.goto 4, 3) := by decide +kernel
theorem dX6_cast_84 : decode cX6_cast 84 = .ok (.iconst 0, 1) := by decide +kernel
theorem dX6_cast_85 : decode cX6_cast 85 = .ok (.istore 4, 2) := by decide +kernel
theorem dX6_cast_87 : decode cX6_cast 87 = .ok (.aload_n 0, 1) := by decide +kernel
theorem dX6_cast_88 : decode cX6_cast 88 = .ok (.iload_n 3, 1) := by decide +kernel
theorem dX6_cast_89 : decode cX6_cast 89 = .ok (.ifCond .ne 7, 3) := by decide +kernel
theorem dX6_cast_92 : decode cX6_cast 92 = .ok (.iconst 1, 1) := by decide +kernel
theorem dX6_cast_93 : decode cX6_cast 93 = .ok (.goto 13, 3) := by decide +kernel
theorem dX6_cast_96 : decode cX6_cast 96 = .ok (.iload 4, 2) := by decide +kernel
theorem dX6_cast_98 : decode cX6_cast 98 = .ok (.ifCond .ne 7, 3) := by decide +kernel
theorem dX6_cast_101 : decode cX6_cast 101 = .ok (.iconst 2, 1) := by decide +kernel
theorem dX6_cast_102 : decode cX6_cast 102 = .ok (.goto 4, 3) := by decide +kernel
theorem dX6_cast_105 : decode cX6_cast 105 = .ok (.iconst 0, 1) := by decide +kernel
theorem dX6_cast_106 : decode cX6_cast 106 = .ok (.invokevirtual 94, 3) := by decide +kernel
theorem dX6_cast_109 : decode cX6_cast 109 = .ok (.ifCond .ne 5, 3) := by decide +kernel
theorem dX6_cast_112 : decode cX6_cast 112 = .ok (.iconst 0, 1) := by decide +kernel
theorem dX6_cast_113 : decode cX6_cast 113 = .ok (.ireturn, 1) := by decide +kernel
theorem dX6_cast_114 : decode cX6_cast 114 = .ok (.aload_n 0, 1) := by decide +kernel
theorem dX6_cast_115 : decode cX6_cast 115 = .ok (.getfield 65, 3) := by decide +kernel
theorem dX6_cast_118 : decode cX6_cast 118 = .ok (.bipush 8, 2) := by decide +kernel
theorem dX6_cast_120 : decode cX6_cast 120 = .ok (.iload_n 1, 1) := by decide +kernel
theorem dX6_cast_121 : decode cX6_cast 121 = .ok (.imul, 1) := by decide +kernel
theorem dX6_cast_122 : decode cX6_cast 122 = .ok (.iload_n 2, 1) := by decide +kernel
theorem dX6_cast_123 : decode cX6_cast 123 = .ok (.iadd, 1) := by decide +kernel
theorem dX6_cast_124 : decode cX6_cast 124 = .ok (.iconst 1, 1) := by decide +kernel
theorem dX6_cast_125 : decode cX6_cast 125 = .ok (.bastore, 1) := by decide +kernel
theorem dX6_cast_126 : decode cX6_cast 126 = .ok (.aload_n 0, 1) := by decide +kernel
theorem dX6_cast_127 : decode cX6_cast 127 = .ok (.iload_n 1, 1) := by decide +kernel
theorem dX6_cast_128 : decode cX6_cast 128 = .ok (.invokevirtual 127, 3) := by decide +kernel
theorem dX6_cast_131 : decode cX6_cast 131 = .ok (.ireturn, 1) := by decide +kernel
theorem dX6_isShow_0 : decode cX6_isShow 0 = .ok (.iload_n 1, 1) := by decide +kernel
theorem dX6_isShow_1 : decode cX6_isShow 1 = .ok (.iconst 0, 1) := by decide +kernel
theorem dX6_isShow_2 : decode cX6_isShow 2 = .ok (.aload_n 0, 1) := by decide +kernel
theorem dX6_isShow_3 : decode cX6_isShow 3 = .ok (.getfield 91, 3) := by decide +kernel
theorem dX6_isShow_6 : decode cX6_isShow 6 = .ok (.iconst 1, 1) := by decide +kernel
theorem dX6_isShow_7 : decode cX6_isShow 7 = .ok (.isub, 1) := by decide +kernel
theorem dX6_isShow_8 : decode cX6_isShow 8 = .ok (.invokestatic 87, 3) := by decide +kernel
theorem dX6_isShow_11 : decode cX6_isShow 11 = .ok (.ireturn, 1) := by decide +kernel
theorem dX6_isBusyIn_0 : decode cX6_isBusyIn 0 = .ok (.iconst 0, 1) := by decide +kernel
theorem dX6_isBusyIn_1 : decode cX6_isBusyIn 1 = .ok (.istore 4, 2) := by decide +kernel
theorem dX6_isBusyIn_3 : decode cX6_isBusyIn 3 = .ok (.iconst 0, 1) := by decide +kernel
theorem dX6_isBusyIn_4 : decode cX6_isBusyIn 4 = .ok (.istore 5, 2) := by decide +kernel
theorem dX6_isBusyIn_6 : decode cX6_isBusyIn 6 = .ok (.iload 5, 2) := by decide +kernel
theorem dX6_isBusyIn_8 : decode cX6_isBusyIn 8 = .ok (.aload_n 0, 1) := by decide +kernel
theorem dX6_isBusyIn_9 : decode cX6_isBusyIn 9 = .ok (.getfield 91, 3) := by decide +kernel
theorem dX6_isBusyIn_12 : decode cX6_isBusyIn 12 = .ok (.if_icmp .ge 58, 3) := by decide +kernel
theorem dX6_isBusyIn_15 : decode cX6_isBusyIn 15 = .ok (.iload 4, 2) := by decide +kernel
theorem dX6_isBusyIn_17 : decode cX6_isBusyIn 17 = .ok (.ifCond .ne 40, 3) := by decide +kernel
theorem dX6_isBusyIn_20 : decode cX6_isBusyIn 20 = .ok (.aload_n 0, 1) := by decide +kernel
theorem dX6_isBusyIn_21 : decode cX6_isBusyIn 21 = .ok (.getfield 65, 3) := by decide +kernel
theorem dX6_isBusyIn_24 : decode cX6_isBusyIn 24 = .ok (.bipush 8, 2) := by decide +kernel
theorem dX6_isBusyIn_26 : decode cX6_isBusyIn 26 = .ok (.iload 5, 2) := by decide +kernel
theorem dX6_isBusyIn_28 : decode cX6_isBusyIn 28 = .ok (.imul, 1) := by decide +kernel
theorem dX6_isBusyIn_29 : decode cX6_isBusyIn 29 = .ok (.iload_n 1, 1) := by decide +kernel
theorem dX6_isBusyIn_30 : decode cX6_isBusyIn 30 = .ok (.iadd, 1) := by decide +kernel
theorem dX6_isBusyIn_31 : decode cX6_isBusyIn 31 = .ok (.baload, 1) := by decide +kernel
theorem dX6_isBusyIn_32 : decode cX6_isBusyIn 32 = .ok (.ifCond .eq 29, 3) := by decide +kernel
theorem dX6_isBusyIn_35 : decode cX6_isBusyIn 35 = .ok (.iload_n 2, 1) := by decide +kernel
theorem dX6_isBusyIn_36 : decode cX6_isBusyIn 36 = .ok (.iload_n 3, 1) := by decide +kernel
theorem dX6_isBusyIn_37 : decode cX6_isBusyIn 37 = .ok (.aload_n 0, 1) := by decide +kernel
theorem dX6_isBusyIn_38 : decode cX6_isBusyIn 38 = .ok (.getfield 49, 3) := by decide +kernel
theorem dX6_isBusyIn_41 : decode cX6_isBusyIn 41 = .ok (.iload 5, 2) := by decide +kernel
theorem dX6_isBusyIn_43 : decode cX6_isBusyIn 43 = .ok (.iaload, 1) := by decide +kernel
theorem dX6_isBusyIn_44 : decode cX6_isBusyIn 44 = .ok (.aload_n 0, 1) := by decide +kernel
theorem dX6_isBusyIn_45 : decode cX6_isBusyIn 45 = .ok (.getfield 52, 3) := by decide +kernel
theorem dX6_isBusyIn_48 : decode cX6_isBusyIn 48 = .ok (.iload 5, 2) := by decide +kernel
theorem dX6_isBusyIn_50 : decode cX6_isBusyIn 50 = .ok (.iaload, 1) := by decide +kernel
theorem dX6_isBusyIn_51 : decode cX6_isBusyIn 51 = .ok (.invokestatic 117, 3) := by decide +kernel
theorem dX6_isBusyIn_54 : decode cX6_isBusyIn 54 = .ok (.ifCond .eq 7, 3) := by decide +kernel
theorem dX6_isBusyIn_57 : decode cX6_isBusyIn 57 = .ok (.iconst 1, 1) := by decide +kernel
theorem dX6_isBusyIn_58 : decode cX6_isBusyIn 58 = .ok (.goto 4, 3) := by decide +kernel
theorem dX6_isBusyIn_61 : decode cX6_isBusyIn 61 = .ok (.iconst 0, 1) := by decide +kernel
theorem dX6_isBusyIn_62 : decode cX6_isBusyIn 62 = .ok (.istore 4, 2) := by decide +kernel
theorem dX6_isBusyIn_64 : decode cX6_isBusyIn 64 = .ok (.iinc 5 1, 3) := by decide +kernel
theorem dX6_isBusyIn_67 : decode cX6_isBusyIn 67 = .ok (.goto (-61), 3) := by decide +kernel
theorem dX6_isBusyIn_70 : decode cX6_isBusyIn 70 = .ok (.bipush 10, 2) := by decide +kernel
theorem dX6_isBusyIn_72 : decode cX6_isBusyIn 72 = .ok (.iload_n 1, 1) := by decide +kernel
theorem dX6_isBusyIn_73 : decode cX6_isBusyIn 73 = .ok (.imul, 1) := by decide +kernel
theorem dX6_isBusyIn_74 : decode cX6_isBusyIn 74 = .ok (.istore 5, 2) := by decide +kernel
theorem dX6_isBusyIn_76 : decode cX6_isBusyIn 76 = .ok (.iload 5, 2) := by decide +kernel
theorem dX6_isBusyIn_78 : decode cX6_isBusyIn 78 = .ok (.bipush 10, 2) := by decide +kernel
theorem dX6_isBusyIn_80 : decode cX6_isBusyIn 80 = .ok (.iload_n 1, 1) := by decide +kernel
theorem dX6_isBusyIn_81 : decode cX6_isBusyIn 81 = .ok (.imul, 1) := by decide +kernel
theorem dX6_isBusyIn_82 : decode cX6_isBusyIn 82 = .ok (.aload_n 0, 1) := by decide +kernel
theorem dX6_isBusyIn_83 : decode cX6_isBusyIn 83 = .ok (.getfield 43, 3) := by decide +kernel
theorem dX6_isBusyIn_86 : decode cX6_isBusyIn 86 = .ok (.iload_n 1, 1) := by decide +kernel
theorem dX6_isBusyIn_87 : decode cX6_isBusyIn 87 = .ok (.iaload, 1) := by decide +kernel
theorem dX6_isBusyIn_88 : decode cX6_isBusyIn 88 = .ok (.iadd, 1) := by decide +kernel
theorem dX6_isBusyIn_89 : decode cX6_isBusyIn 89 = .ok (.if_icmp .ge 43, 3) := by decide +kernel
theorem dX6_isBusyIn_92 : decode cX6_isBusyIn 92 = .ok (.iload 4, 2) := by decide +kernel
theorem dX6_isBusyIn_94 : decode cX6_isBusyIn 94 = .ok (.ifCond .ne 25, 3) := by decide +kernel
theorem dX6_isBusyIn_97 : decode cX6_isBusyIn 97 = .ok (.iload_n 2, 1) := by decide +kernel
theorem dX6_isBusyIn_98 : decode cX6_isBusyIn 98 = .ok (.iload_n 3, 1) := by decide +kernel
theorem dX6_isBusyIn_99 : decode cX6_isBusyIn 99 = .ok (.aload_n 0, 1) := by decide +kernel
theorem dX6_isBusyIn_100 : decode cX6_isBusyIn 100 = .ok (.getfield 37, 3) := by decide +kernel
theorem dX6_isBusyIn_103 : decode cX6_isBusyIn 103 = .ok (.iload 5, 2) := by decide +kernel
theorem dX6_isBusyIn_105 : decode cX6_isBusyIn 105 = .ok (.iaload, 1) := by decide +kernel
theorem dX6_isBusyIn_106 : decode cX6_isBusyIn 106 = .ok (.aload_n 0, 1) := by decide +kernel
theorem dX6_isBusyIn_107 : decode cX6_isBusyIn 107 = .ok (.getfield 40, 3) := by decide +kernel
theorem dX6_isBusyIn_110 : decode cX6_isBusyIn 110 = .ok (.iload 5, 2) := by decide +kernel
theorem dX6_isBusyIn_112 : decode cX6_isBusyIn 112 = .ok (.iaload, 1) := by decide +kernel
theorem dX6_isBusyIn_113 : decode cX6_isBusyIn 113 = .ok (.invokestatic 117, 3) := by decide +kernel
theorem dX6_isBusyIn_116 : decode cX6_isBusyIn 116 = .ok (.ifCond .eq 7, 3) := by decide +kernel
theorem dX6_isBusyIn_119 : decode cX6_isBusyIn 119 = .ok (.iconst 1, 1) := by decide +kernel
theorem dX6_isBusyIn_120 : decode cX6_isBusyIn 120 = .ok (.goto 4, 3) := by decide +kernel
theorem dX6_isBusyIn_123 : decode cX6_isBusyIn 123 = .ok (.iconst 0, 1) := by decide +kernel
theorem dX6_isBusyIn_124 : decode cX6_isBusyIn 124 = .ok (.istore 4, 2) := by decide +kernel
theorem dX6_isBusyIn_126 : decode cX6_isBusyIn 126 = .ok (.iinc 5 1, 3) := by decide +kernel
theorem dX6_isBusyIn_129 : decode cX6_isBusyIn 129 = .ok (.goto (-53), 3) := by decide +kernel
theorem dX6_isBusyIn_132 : decode cX6_isBusyIn 132 = .ok (.iload 4, 2) := by decide +kernel
theorem dX6_isBusyIn_134 : decode cX6_isBusyIn 134 = .ok (.ireturn, 1) := by decide +kernel
theorem dX6_areOver_0 : decode cX6_areOver 0 = .ok (.iload_n 0, 1) := by decide +kernel
theorem dX6_areOver_1 : decode cX6_areOver 1 = .ok (.iload_n 2, 1) := by decide +kernel
theorem dX6_areOver_2 : decode cX6_areOver 2 = .ok (.iload_n 3, 1) := by decide +kernel
theorem dX6_areOver_3 : decode cX6_areOver 3 = .ok (.iadd, 1) := by decide +kernel
theorem dX6_areOver_4 : decode cX6_areOver 4 = .ok (.if_icmp .ge 14, 3) := by decide +kernel
theorem dX6_areOver_7 : decode cX6_areOver 7 = .ok (.iload_n 2, 1) := by decide +kernel
theorem dX6_areOver_8 : decode cX6_areOver 8 = .ok (.iload_n 0, 1) := by decide +kernel
theorem dX6_areOver_9 : decode cX6_areOver 9 = .ok (.iload_n 1, 1) := by decide +kernel
theorem dX6_areOver_10 : decode cX6_areOver 10 = .ok (.iadd, 1) := by decide +kernel
theorem dX6_areOver_11 : decode cX6_areOver 11 = .ok (.if_icmp .ge 7, 3) := by decide +kernel
theorem dX6_areOver_14 : decode cX6_areOver 14 = .ok (.iconst 1, 1) := by decide +kernel
theorem dX6_areOver_15 : decode cX6_areOver 15 = .ok (.goto 4, 3) := by decide +kernel
theorem dX6_areOver_18 : decode cX6_areOver 18 = .ok (.iconst 0, 1) := by decide +kernel
theorem dX6_areOver_19 : decode cX6_areOver 19 = .ok (.ireturn, 1) := by decide +kernel
theorem dX6_castOf_0 : decode cX6_castOf 0 = .ok (.iconst 0, 1) := by decide +kernel
theorem dX6_castOf_1 : decode cX6_castOf 1 = .ok (.istore_n 2, 1) := by decide +kernel
theorem dX6_castOf_2 : decode cX6_castOf 2 = .ok (.iconst 0, 1) := by decide +kernel
theorem dX6_castOf_3 : decode cX6_castOf 3 = .ok (.istore_n 3, 1) := by decide +kernel
theorem dX6_castOf_4 : decode cX6_castOf 4 = .ok (.iload_n 3, 1) := by decide +kernel
theorem dX6_castOf_5 : decode cX6_castOf 5 = .ok (.aload_n 0, 1) := by decide +kernel
theorem dX6_castOf_6 : decode cX6_castOf 6 = .ok (.getfield 84, 3) := by decide +kernel
theorem dX6_castOf_9 : decode cX6_castOf 9 = .ok (.if_icmp .ge 31, 3) := by decide +kernel
theorem dX6_castOf_12 : decode cX6_castOf 12 = .ok (.iload_n 2, 1) := by decide +kernel
theorem dX6_castOf_13 : decode cX6_castOf 13 = .ok (.aload_n 0, 1) := by decide +kernel
theorem dX6_castOf_14 : decode cX6_castOf 14 = .ok (.getfield 65, 3) := by decide +kernel
theorem dX6_castOf_17 : decode cX6_castOf 17 = .ok (.bipush 8, 2) := by decide +kernel
theorem dX6_castOf_19 : decode cX6_castOf 19 = .ok (.iload_n 1, 1) := by decide +kernel
theorem dX6_castOf_20 : decode cX6_castOf 20 = .ok (.imul, 1) := by decide +kernel
theorem dX6_castOf_21 : decode cX6_castOf 21 = .ok (.iload_n 3, 1) := by decide +kernel
theorem dX6_castOf_22 : decode cX6_castOf 22 = .ok (.iadd, 1) := by decide +kernel
theorem dX6_castOf_23 : decode cX6_castOf 23 = .ok (.baload, 1) := by decide +kernel
theorem dX6_castOf_24 : decode cX6_castOf 24 = .ok (.ifCond .eq 7, 3) := by decide +kernel
theorem dX6_castOf_27 : decode cX6_castOf 27 = .ok (.iconst 1, 1) := by decide +kernel
theorem dX6_castOf_28 : decode cX6_castOf 28 = .ok (.goto 4, 3) := by decide +kernel
theorem dX6_castOf_31 : decode cX6_castOf 31 = .ok (.iconst 0, 1) := by decide +kernel
theorem dX6_castOf_32 : decode cX6_castOf 32 = .ok (.iadd, 1) := by decide +kernel
theorem dX6_castOf_33 : decode cX6_castOf 33 = .ok (.istore_n 2, 1) := by decide +kernel
theorem dX6_castOf_34 : decode cX6_castOf 34 = .ok (.iinc 3 1, 3) := by decide +kernel
theorem dX6_castOf_37 : decode cX6_castOf 37 = .ok (.goto (-33), 3) := by decide +kernel
theorem dX6_castOf_40 : decode cX6_castOf 40 = .ok (.iload_n 2, 1) := by decide +kernel
theorem dX6_castOf_41 : decode cX6_castOf 41 = .ok (.ireturn, 1) := by decide +kernel
theorem dX6_leave_0 : decode cX6_leave 0 = .ok (.aload_n 0, 1) := by decide +kernel
theorem dX6_leave_1 : decode cX6_leave 1 = .ok (.iload_n 1, 1) := by decide +kernel
theorem dX6_leave_2 : decode cX6_leave 2 = .ok (.invokevirtual 121, 3) := by decide +kernel
theorem dX6_leave_5 : decode cX6_leave 5 = .ok (.ifCond .eq 15, 3) := by decide +kernel
theorem dX6_leave_8 : decode cX6_leave 8 = .ok (.aload_n 0, 1) := by decide +kernel
theorem dX6_leave_9 : decode cX6_leave 9 = .ok (.iload_n 2, 1) := by decide +kernel
theorem dX6_leave_10 : decode cX6_leave 10 = .ok (.invokevirtual 98, 3) := by decide +kernel
theorem dX6_leave_13 : decode cX6_leave 13 = .ok (.ifCond .eq 7, 3) := by decide +kernel
theorem dX6_leave_16 : decode cX6_leave 16 = .ok (.iconst 1, 1) := by decide +kernel
theorem dX6_leave_17 : decode cX6_leave 17 = .ok (.goto 4, 3) := by decide +kernel
theorem dX6_leave_20 : decode cX6_leave 20 = .ok (.iconst 0, 1) := by decide +kernel
theorem dX6_leave_21 : decode cX6_leave 21 = .ok (.istore_n 3, 1) := by decide +kernel
theorem dX6_leave_22 : decode cX6_leave 22 = .ok (.aload_n 0, 1) := by decide +kernel
theorem dX6_leave_23 : decode cX6_leave 23 = .ok (.iload_n 3, 1) := by decide +kernel
theorem dX6_leave_24 : decode cX6_leave 24 = .ok (.ifCond .ne 7, 3) := by decide +kernel
theorem dX6_leave_27 : decode cX6_leave 27 = .ok (.iconst 1, 1) := by decide +kernel
theorem dX6_leave_28 : decode cX6_leave 28 = .ok (.goto 31, 3) := by decide +kernel
theorem dX6_leave_31 : decode cX6_leave 31 = .ok (.aload_n 0, 1) := by decide +kernel
theorem dX6_leave_32 : decode cX6_leave 32 = .ok (.getfield 55, 3) := by decide +kernel
theorem dX6_leave_35 : decode cX6_leave 35 = .ok (.iload_n 1, 1) := by decide +kernel
theorem dX6_leave_36 : decode cX6_leave 36 = .ok (.baload, 1) := by decide +kernel
theorem dX6_leave_37 : decode cX6_leave 37 = .ok (.ifCond .ne 17, 3) := by decide +kernel
theorem dX6_leave_40 : decode cX6_leave 40 = .ok (.aload_n 0, 1) := by decide +kernel
theorem dX6_leave_41 : decode cX6_leave 41 = .ok (.getfield 65, 3) := by decide +kernel
theorem dX6_leave_44 : decode cX6_leave 44 = .ok (.bipush 8, 2) := by decide +kernel
theorem dX6_leave_46 : decode cX6_leave 46 = .ok (.iload_n 1, 1) := by decide +kernel
theorem dX6_leave_47 : decode cX6_leave 47 = .ok (.imul, 1) := by decide +kernel
theorem dX6_leave_48 : decode cX6_leave 48 = .ok (.iload_n 2, 1) := by decide +kernel
theorem dX6_leave_49 : decode cX6_leave 49 = .ok (.iadd, 1) := by decide +kernel
theorem dX6_leave_50 : decode cX6_leave 50 = .ok (.baload, 1) := by decide +kernel
theorem dX6_leave_51 : decode cX6_leave 51 = .ok (.ifCond .ne 7, 3) := by decide +kernel
theorem dX6_leave_54 : decode cX6_leave 54 = .ok (.iconst 2, 1) := by decide +kernel
theorem dX6_leave_55 : decode cX6_leave 55 = .ok (.goto 4, 3) := by decide +kernel
theorem dX6_leave_58 : decode cX6_leave 58 = .ok (.iconst 0, 1) := by decide +kernel
theorem dX6_leave_59 : decode cX6_leave 59 = .ok (.invokevirtual 94, 3) := by decide +kernel
theorem dX6_leave_62 : decode cX6_leave 62 = .ok (.ifCond .ne 5, 3) := by decide +kernel
theorem dX6_leave_65 : decode cX6_leave 65 = .ok (.iconst 0, 1) := by decide +kernel
theorem dX6_leave_66 : decode cX6_leave 66 = .ok (.ireturn, 1) := by decide +kernel
theorem dX6_leave_67 : decode cX6_leave 67 = .ok (.aload_n 0, 1) := by decide +kernel
theorem dX6_leave_68 : decode cX6_leave 68 = .ok (.getfield 65, 3) := by decide +kernel
theorem dX6_leave_71 : decode cX6_leave 71 = .ok (.bipush 8, 2) := by decide +kernel
theorem dX6_leave_73 : decode cX6_leave 73 = .ok (.iload_n 1, 1) := by decide +kernel
theorem dX6_leave_74 : decode cX6_leave 74 = .ok (.imul, 1) := by decide +kernel
theorem dX6_leave_75 : decode cX6_leave 75 = .ok (.iload_n 2, 1) := by decide +kernel
theorem dX6_leave_76 : decode cX6_leave 76 = .ok (.iadd, 1) := by decide +kernel
theorem dX6_leave_77 : decode cX6_leave 77 = .ok (.iconst 0, 1) := by decide +kernel
theorem dX6_leave_78 : decode cX6_leave 78 = .ok (.bastore, 1) := by decide +kernel
theorem dX6_leave_79 : decode cX6_leave 79 = .ok (.aload_n 0, 1) := by decide +kernel
theorem dX6_leave_80 : decode cX6_leave 80 = .ok (.iload_n 1, 1) := by decide +kernel
theorem dX6_leave_81 : decode cX6_leave 81 = .ok (.invokevirtual 127, 3) := by decide +kernel
theorem dX6_leave_84 : decode cX6_leave 84 = .ok (.ireturn, 1) := by decide +kernel
theorem dX6_sell_0 : decode cX6_sell 0 = .ok (.aload_n 0, 1) := by decide +kernel
theorem dX6_sell_1 : decode cX6_sell 1 = .ok (.iload_n 1, 1) := by decide +kernel
theorem dX6_sell_2 : decode cX6_sell 2 = .ok (.invokevirtual 121, 3) := by decide +kernel
theorem dX6_sell_5 : decode cX6_sell 5 = .ok (.istore 4, 2) := by decide +kernel
theorem dX6_sell_7 : decode cX6_sell 7 = .ok (.iload_n 2, 1) := by decide +kernel
theorem dX6_sell_8 : decode cX6_sell 8 = .ok (.iconst 1, 1) := by decide +kernel
theorem dX6_sell_9 : decode cX6_sell 9 = .ok (.bipush 50, 2) := by decide +kernel
theorem dX6_sell_11 : decode cX6_sell 11 = .ok (.invokestatic 87, 3) := by decide +kernel
theorem dX6_sell_14 : decode cX6_sell 14 = .ok (.ifCond .eq 17, 3) := by decide +kernel
theorem dX6_sell_17 : decode cX6_sell 17 = .ok (.iload_n 3, 1) := by decide +kernel
theorem dX6_sell_18 : decode cX6_sell 18 = .ok (.iconst 0, 1) := by decide +kernel
theorem dX6_sell_19 : decode cX6_sell 19 = .ok (.bipush 100, 2) := by decide +kernel
theorem dX6_sell_21 : decode cX6_sell 21 = .ok (.invokestatic 87, 3) := by decide +kernel
theorem dX6_sell_24 : decode cX6_sell 24 = .ok (.ifCond .eq 7, 3) := by decide +kernel
theorem dX6_sell_27 : decode cX6_sell 27 = .ok (.iconst 1, 1) := by decide +kernel
theorem dX6_sell_28 : decode cX6_sell 28 = .ok (.goto 4, 3) := by decide +kernel
theorem dX6_sell_31 : decode cX6_sell 31 = .ok (.iconst 0, 1) := by decide +kernel
theorem dX6_sell_32 : decode cX6_sell 32 = .ok (.istore 5, 2) := by decide +kernel
theorem dX6_sell_34 : decode cX6_sell 34 = .ok (.aload_n 0, 1) := by decide +kernel
theorem dX6_sell_35 : decode cX6_sell 35 = .ok (.iload 4, 2) := by decide +kernel
theorem dX6_sell_37 : decode cX6_sell 37 = .ok (.ifCond .ne 7, 3) := by decide +kernel
theorem dX6_sell_40 : decode cX6_sell 40 = .ok (.iconst 1, 1) := by decide +kernel
theorem dX6_sell_41 : decode cX6_sell 41 = .ok (.goto 39, 3) := by decide +kernel
theorem dX6_sell_44 : decode cX6_sell 44 = .ok (.iload 5, 2) := by decide +kernel
theorem dX6_sell_46 : decode cX6_sell 46 = .ok (.ifCond .ne 7, 3) := by decide +kernel
theorem dX6_sell_49 : decode cX6_sell 49 = .ok (.iconst 2, 1) := by decide +kernel
theorem dX6_sell_50 : decode cX6_sell 50 = .ok (.goto 30, 3) := by decide +kernel
theorem dX6_sell_53 : decode cX6_sell 53 = .ok (.aload_n 0, 1) := by decide +kernel
theorem dX6_sell_54 : decode cX6_sell 54 = .ok (.getfield 55, 3) := by decide +kernel
theorem dX6_sell_57 : decode cX6_sell 57 = .ok (.iload_n 1, 1) := by decide +kernel
theorem dX6_sell_58 : decode cX6_sell 58 = .ok (.baload, 1) := by decide +kernel
theorem dX6_sell_59 : decode cX6_sell 59 = .ok (.ifCond .ne 16, 3) := by decide +kernel
theorem dX6_sell_62 : decode cX6_sell 62 = .ok (.aload_n 0, 1) := by decide +kernel
theorem dX6_sell_63 : decode cX6_sell 63 = .ok (.getfield 59, 3) := by decide +kernel
theorem dX6_sell_66 : decode cX6_sell 66 = .ok (.iload_n 1, 1) := by decide +kernel
theorem dX6_sell_67 : decode cX6_sell 67 = .ok (.iaload, 1) := by decide +kernel
theorem dX6_sell_68 : decode cX6_sell 68 = .ok (.iload_n 2, 1) := by decide +kernel
theorem dX6_sell_69 : decode cX6_sell 69 = .ok (.iadd, 1) := by decide +kernel
theorem dX6_sell_70 : decode cX6_sell 70 = .ok (.bipush 50, 2) := by decide +kernel
theorem dX6_sell_72 : decode cX6_sell 72 = .ok (.if_icmp .le 7, 3) := by decide +kernel
theorem dX6_sell_75 : decode cX6_sell 75 = .ok (.iconst 3, 1) := by decide +kernel
theorem dX6_sell_76 : decode cX6_sell 76 = .ok (.goto 4, 3) := by decide +kernel
theorem dX6_sell_79 : decode cX6_sell 79 = .ok (.iconst 0, 1) := by decide +kernel
theorem dX6_sell_80 : decode cX6_sell 80 = .ok (.invokevirtual 94, 3) := by decide +kernel
theorem dX6_sell_83 : decode cX6_sell 83 = .ok (.ifCond .ne 5, 3) := by decide +kernel
theorem dX6_sell_86 : decode cX6_sell 86 = .ok (.iconst 0, 1) := by decide +kernel
theorem dX6_sell_87 : decode cX6_sell 87 = .ok (.ireturn, 1) := by decide +kernel
theorem dX6_sell_88 : decode cX6_sell 88 = .ok (.aload_n 0, 1) := by decide +kernel
theorem dX6_sell_89 : decode cX6_sell 89 = .ok (.getfield 59, 3) := by decide +kernel
theorem dX6_sell_92 : decode cX6_sell 92 = .ok (.iload_n 1, 1) := by decide +kernel
theorem dX6_sell_93 : decode cX6_sell 93 = .ok (.dup2, 1) := by decide +kernel
theorem dX6_sell_94 : decode cX6_sell 94 = .ok (.iaload, 1) := by decide +kernel
theorem dX6_sell_95 : decode cX6_sell 95 = .ok (.iload_n 2, 1) := by decide +kernel
theorem dX6_sell_96 : decode cX6_sell 96 = .ok (.iadd, 1) := by decide +kernel
theorem dX6_sell_97 : decode cX6_sell 97 = .ok (.iastore, 1) := by decide +kernel
theorem dX6_sell_98 : decode cX6_sell 98 = .ok (.aload_n 0, 1) := by decide +kernel
theorem dX6_sell_99 : decode cX6_sell 99 = .ok (.getfield 62, 3) := by decide +kernel
theorem dX6_sell_102 : decode cX6_sell 102 = .ok (.iload_n 1, 1) := by decide +kernel
theorem dX6_sell_103 : decode cX6_sell 103 = .ok (.dup2, 1) := by decide +kernel
theorem dX6_sell_104 : decode cX6_sell 104 = .ok (.iaload, 1) := by decide +kernel
theorem dX6_sell_105 : decode cX6_sell 105 = .ok (.iload_n 2, 1) := by decide +kernel
theorem dX6_sell_106 : decode cX6_sell 106 = .ok (.iload_n 3, 1) := by decide +kernel
theorem dX6_sell_107 : decode cX6_sell 107 = .ok (.imul, 1) := by decide +kernel
theorem dX6_sell_108 : decode cX6_sell 108 = .ok (.iadd, 1) := by decide +kernel
theorem dX6_sell_109 : decode cX6_sell 109 = .ok (.iastore, 1) := by decide +kernel
theorem dX6_sell_110 : decode cX6_sell 110 = .ok (.bipush 50, 2) := by decide +kernel
theorem dX6_sell_112 : decode cX6_sell 112 = .ok (.aload_n 0, 1) := by decide +kernel
theorem dX6_sell_113 : decode cX6_sell 113 = .ok (.getfield 59, 3) := by decide +kernel
theorem dX6_sell_116 : decode cX6_sell 116 = .ok (.iload_n 1, 1) := by decide +kernel
theorem dX6_sell_117 : decode cX6_sell 117 = .ok (.iaload, 1) := by decide +kernel
theorem dX6_sell_118 : decode cX6_sell 118 = .ok (.isub, 1) := by decide +kernel
theorem dX6_sell_119 : decode cX6_sell 119 = .ok (.ireturn, 1) := by decide +kernel
theorem dX6_perform_0 : decode cX6_perform 0 = .ok (.aload_n 0, 1) := by decide +kernel
theorem dX6_perform_1 : decode cX6_perform 1 = .ok (.iload_n 1, 1) := by decide +kernel
theorem dX6_perform_2 : decode cX6_perform 2 = .ok (.invokevirtual 121, 3) := by decide +kernel
theorem dX6_perform_5 : decode cX6_perform 5 = .ok (.istore_n 2, 1) := by decide +kernel
theorem dX6_perform_6 : decode cX6_perform 6 = .ok (.aload_n 0, 1) := by decide +kernel
theorem dX6_perform_7 : decode cX6_perform 7 = .ok (.iload_n 2, 1) := by decide +kernel
theorem dX6_perform_8 : decode cX6_perform 8 = .ok (.ifCond .ne 7, 3) := by decide +kernel
theorem dX6_perform_11 : decode cX6_perform 11 = .ok (.iconst 1, 1) := by decide +kernel
theorem dX6_perform_12 : decode cX6_perform 12 = .ok (.goto 25, 3) := by decide +kernel
theorem dX6_perform_15 : decode cX6_perform 15 = .ok (.aload_n 0, 1) := by decide +kernel
theorem dX6_perform_16 : decode cX6_perform 16 = .ok (.getfield 55, 3) := by decide +kernel
theorem dX6_perform_19 : decode cX6_perform 19 = .ok (.iload_n 1, 1) := by decide +kernel
theorem dX6_perform_20 : decode cX6_perform 20 = .ok (.baload, 1) := by decide +kernel
theorem dX6_perform_21 : decode cX6_perform 21 = .ok (.ifCond .ne 11, 3) := by decide +kernel
theorem dX6_perform_24 : decode cX6_perform 24 = .ok (.aload_n 0, 1) := by decide +kernel
theorem dX6_perform_25 : decode cX6_perform 25 = .ok (.iload_n 1, 1) := by decide +kernel
theorem dX6_perform_26 : decode cX6_perform 26 = .ok (.invokevirtual 127, 3) := by decide +kernel
theorem dX6_perform_29 : decode cX6_perform 29 = .ok (.ifCond .ne 7, 3) := by decide +kernel
theorem dX6_perform_32 : decode cX6_perform 32 = .ok (.iconst 2, 1) := by decide +kernel
theorem dX6_perform_33 : decode cX6_perform 33 = .ok (.goto 4, 3) := by decide +kernel
theorem dX6_perform_36 : decode cX6_perform 36 = .ok (.iconst 0, 1) := by decide +kernel
theorem dX6_perform_37 : decode cX6_perform 37 = .ok (.invokevirtual 94, 3) := by decide +kernel
theorem dX6_perform_40 : decode cX6_perform 40 = .ok (.ifCond .ne 5, 3) := by decide +kernel
theorem dX6_perform_43 : decode cX6_perform 43 = .ok (.iconst 0, 1) := by decide +kernel
theorem dX6_perform_44 : decode cX6_perform 44 = .ok (.ireturn, 1) := by decide +kernel
theorem dX6_perform_45 : decode cX6_perform 45 = .ok (.aload_n 0, 1) := by decide +kernel
theorem dX6_perform_46 : decode cX6_perform 46 = .ok (.getfield 55, 3) := by decide +kernel
theorem dX6_perform_49 : decode cX6_perform 49 = .ok (.iload_n 1, 1) := by decide +kernel
theorem dX6_perform_50 : decode cX6_perform 50 = .ok (.iconst 1, 1) := by decide +kernel
theorem dX6_perform_51 : decode cX6_perform 51 = .ok (.bastore, 1) := by decide +kernel
theorem dX6_perform_52 : decode cX6_perform 52 = .ok (.iconst 0, 1) := by decide +kernel
theorem dX6_perform_53 : decode cX6_perform 53 = .ok (.istore_n 3, 1) := by decide +kernel
theorem dX6_perform_54 : decode cX6_perform 54 = .ok (.iload_n 3, 1) := by decide +kernel
theorem dX6_perform_55 : decode cX6_perform 55 = .ok (.aload_n 0, 1) := by decide +kernel
theorem dX6_perform_56 : decode cX6_perform 56 = .ok (.getfield 84, 3) := by decide +kernel
theorem dX6_perform_59 : decode cX6_perform 59 = .ok (.if_icmp .ge 70, 3) := by decide +kernel
theorem dX6_perform_62 : decode cX6_perform 62 = .ok (.aload_n 0, 1) := by decide +kernel
theorem dX6_perform_63 : decode cX6_perform 63 = .ok (.getfield 22, 3) := by decide +kernel
theorem dX6_perform_66 : decode cX6_perform 66 = .ok (.iload_n 3, 1) := by decide +kernel
theorem dX6_perform_67 : decode cX6_perform 67 = .ok (.dup2, 1) := by decide +kernel
theorem dX6_perform_68 : decode cX6_perform 68 = .ok (.iaload, 1) := by decide +kernel
theorem dX6_perform_69 : decode cX6_perform 69 = .ok (.aload_n 0, 1) := by decide +kernel
theorem dX6_perform_70 : decode cX6_perform 70 = .ok (.getfield 65, 3) := by decide +kernel
theorem dX6_perform_73 : decode cX6_perform 73 = .ok (.bipush 8, 2) := by decide +kernel
theorem dX6_perform_75 : decode cX6_perform 75 = .ok (.iload_n 1, 1) := by decide +kernel
theorem dX6_perform_76 : decode cX6_perform 76 = .ok (.imul, 1) := by decide +kernel
theorem dX6_perform_77 : decode cX6_perform 77 = .ok (.iload_n 3, 1) := by decide +kernel
theorem dX6_perform_78 : decode cX6_perform 78 = .ok (.iadd, 1) := by decide +kernel
theorem dX6_perform_79 : decode cX6_perform 79 = .ok (.baload, 1) := by decide +kernel
theorem dX6_perform_80 : decode cX6_perform 80 = .ok (.ifCond .eq 12, 3) := by decide +kernel
theorem dX6_perform_83 : decode cX6_perform 83 = .ok (.aload_n 0, 1) := by decide +kernel
theorem dX6_perform_84 : decode cX6_perform 84 = .ok (.getfield 16, 3) := by decide +kernel
theorem dX6_perform_87 : decode cX6_perform 87 = .ok (.iload_n 3, 1) := by decide +kernel
theorem dX6_perform_88 : decode cX6_perform 88 = .ok (.iaload, 1) := by decide +kernel
theorem dX6_perform_89 : decode cX6_perform 89 = .ok (.goto 4, 3) := by decide +kernel
theorem dX6_perform_92 : decode cX6_perform 92 = .ok (.iconst 0, 1) := by decide +kernel
theorem dX6_perform_93 : decode cX6_perform 93 = .ok (.iadd, 1) := by decide +kernel
theorem dX6_perform_94 : decode cX6_perform 94 = .ok (.iastore, 1) := by decide +kernel
theorem dX6_perform_95 : decode cX6_perform 95 = .ok (.aload_n 0, 1) := by decide +kernel
theorem dX6_perform_96 : decode cX6_perform 96 = .ok (.getfield 22, 3) := by decide +kernel
theorem dX6_perform_99 : decode cX6_perform 99 = .ok (.iload_n 3, 1) := by decide +kernel
theorem dX6_perform_100 : decode cX6_perform 100 = .ok (.aload_n 0, 1) := by decide +kernel
theorem dX6_perform_101 : decode cX6_perform 101 = .ok (.getfield 22, 3) := by decide +kernel
theorem dX6_perform_104 : decode cX6_perform 104 = .ok (.iload_n 3, 1) := by decide +kernel
theorem dX6_perform_105 : decode cX6_perform 105 = .ok (.iaload, 1) := by decide +kernel
theorem dX6_perform_106 : decode cX6_perform 106 = .ok (.bipush 99, 2) := by decide +kernel
theorem dX6_perform_108 : decode cX6_perform 108 = .ok (.if_icmp .le 8, 3) := by decide +kernel
theorem dX6_perform_111 : decode cX6_perform 111 = .ok (.bipush 99, 2) := by decide +kernel
theorem dX6_perform_113 : decode cX6_perform 113 = .ok (.goto 9, 3) := by decide +kernel
theorem dX6_perform_116 : decode cX6_perform 116 = .ok (.aload_n 0, 1) := by decide +kernel
theorem dX6_perform_117 : decode cX6_perform 117 = .ok (.getfield 22, 3) := by decide +kernel
theorem dX6_perform_120 : decode cX6_perform 120 = .ok (.iload_n 3, 1) := by decide +kernel
theorem dX6_perform_121 : decode cX6_perform 121 = .ok (.iaload, 1) := by decide +kernel
theorem dX6_perform_122 : decode cX6_perform 122 = .ok (.iastore, 1) := by decide +kernel
theorem dX6_perform_123 : decode cX6_perform 123 = .ok (.iinc 3 1, 3) := by decide +kernel
theorem dX6_perform_126 : decode cX6_perform 126 = .ok (.goto (-72), 3) := by decide +kernel
theorem dX6_perform_129 : decode cX6_perform 129 = .ok (.aload_n 0, 1) := by decide +kernel
theorem dX6_perform_130 : decode cX6_perform 130 = .ok (.dup, 1) := by decide +kernel
theorem dX6_perform_131 : decode cX6_perform 131 = .ok (.getfield 131, 3) := by decide +kernel
theorem dX6_perform_134 : decode cX6_perform 134 = .ok (.aload_n 0, 1) := by decide +kernel
theorem dX6_perform_135 : decode cX6_perform 135 = .ok (.getfield 62, 3) := by decide +kernel
theorem dX6_perform_138 : decode cX6_perform 138 = .ok (.iload_n 1, 1) := by decide +kernel
theorem dX6_perform_139 : decode cX6_perform 139 = .ok (.iaload, 1) := by decide +kernel
theorem dX6_perform_140 : decode cX6_perform 140 = .ok (.iadd, 1) := by decide +kernel
theorem dX6_perform_141 : decode cX6_perform 141 = .ok (.putfield 131, 3) := by decide +kernel
theorem dX6_perform_144 : decode cX6_perform 144 = .ok (.aload_n 0, 1) := by decide +kernel
theorem dX6_perform_145 : decode cX6_perform 145 = .ok (.getfield 62, 3) := by decide +kernel
theorem dX6_perform_148 : decode cX6_perform 148 = .ok (.iload_n 1, 1) := by decide +kernel
theorem dX6_perform_149 : decode cX6_perform 149 = .ok (.iaload, 1) := by decide +kernel
theorem dX6_perform_150 : decode cX6_perform 150 = .ok (.ireturn, 1) := by decide +kernel
theorem dX6_mend_0 : decode cX6_mend 0 = .ok (.aload_n 0, 1) := by decide +kernel
theorem dX6_mend_1 : decode cX6_mend 1 = .ok (.iload_n 1, 1) := by decide +kernel
theorem dX6_mend_2 : decode cX6_mend 2 = .ok (.invokevirtual 98, 3) := by decide +kernel
theorem dX6_mend_5 : decode cX6_mend 5 = .ok (.istore_n 3, 1) := by decide +kernel
theorem dX6_mend_6 : decode cX6_mend 6 = .ok (.iload_n 3, 1) := by decide +kernel
theorem dX6_mend_7 : decode cX6_mend 7 = .ok (.ifCond .eq 17, 3) := by decide +kernel
theorem dX6_mend_10 : decode cX6_mend 10 = .ok (.iload_n 2, 1) := by decide +kernel
theorem dX6_mend_11 : decode cX6_mend 11 = .ok (.iconst 0, 1) := by decide +kernel
theorem dX6_mend_12 : decode cX6_mend 12 = .ok (.ldc 116, 2) := by decide +kernel
theorem dX6_mend_14 : decode cX6_mend 14 = .ok (.invokestatic 87, 3) := by decide +kernel
theorem dX6_mend_17 : decode cX6_mend 17 = .ok (.ifCond .eq 7, 3) := by decide +kernel
theorem dX6_mend_20 : decode cX6_mend 20 = .ok (.iconst 1, 1) := by decide +kernel
theorem dX6_mend_21 : decode cX6_mend 21 = .ok (.goto 4, 3) := by decide +kernel
theorem dX6_mend_24 : decode cX6_mend 24 = .ok (.iconst 0, 1) := by decide +kernel
theorem dX6_mend_25 : decode cX6_mend 25 = .ok (.istore 4, 2) := by decide +kernel
theorem dX6_mend_27 : decode cX6_mend 27 = .ok (.iload 4, 2) := by decide +kernel
theorem dX6_mend_29 : decode cX6_mend 29 = .ok (.ifCond .eq 42, 3) := by decide +kernel
theorem dX6_mend_32 : decode cX6_mend 32 = .ok (.aload_n 0, 1) := by decide +kernel
theorem dX6_mend_33 : decode cX6_mend 33 = .ok (.getfield 22, 3) := by decide +kernel
theorem dX6_mend_36 : decode cX6_mend 36 = .ok (.iload_n 1, 1) := by decide +kernel
theorem dX6_mend_37 : decode cX6_mend 37 = .ok (.iaload, 1) := by decide +kernel
theorem dX6_mend_38 : decode cX6_mend 38 = .ok (.ifCond .le 33, 3) := by decide +kernel
theorem dX6_mend_41 : decode cX6_mend 41 = .ok (.aload_n 0, 1) := by decide +kernel
theorem dX6_mend_42 : decode cX6_mend 42 = .ok (.getfield 43, 3) := by decide +kernel
theorem dX6_mend_45 : decode cX6_mend 45 = .ok (.iload_n 1, 1) := by decide +kernel
theorem dX6_mend_46 : decode cX6_mend 46 = .ok (.iaload, 1) := by decide +kernel
theorem dX6_mend_47 : decode cX6_mend 47 = .ok (.bipush 10, 2) := by decide +kernel
theorem dX6_mend_49 : decode cX6_mend 49 = .ok (.if_icmp .ge 22, 3) := by decide +kernel
theorem dX6_mend_52 : decode cX6_mend 52 = .ok (.aload_n 0, 1) := by decide +kernel
theorem dX6_mend_53 : decode cX6_mend 53 = .ok (.iload_n 1, 1) := by decide +kernel
theorem dX6_mend_54 : decode cX6_mend 54 = .ok (.iload_n 2, 1) := by decide +kernel
theorem dX6_mend_55 : decode cX6_mend 55 = .ok (.aload_n 0, 1) := by decide +kernel
theorem dX6_mend_56 : decode cX6_mend 56 = .ok (.getfield 22, 3) := by decide +kernel
theorem dX6_mend_59 : decode cX6_mend 59 = .ok (.iload_n 1, 1) := by decide +kernel
theorem dX6_mend_60 : decode cX6_mend 60 = .ok (.iaload, 1) := by decide +kernel
theorem dX6_mend_61 : decode cX6_mend 61 = .ok (.invokevirtual 124, 3) := by decide +kernel
theorem dX6_mend_64 : decode cX6_mend 64 = .ok (.ifCond .ne 7, 3) := by decide +kernel
theorem dX6_mend_67 : decode cX6_mend 67 = .ok (.iconst 1, 1) := by decide +kernel
theorem dX6_mend_68 : decode cX6_mend 68 = .ok (.goto 4, 3) := by decide +kernel
theorem dX6_mend_71 : decode cX6_mend 71 = .ok (.iconst 0, 1) := by decide +kernel
theorem dX6_mend_72 : decode cX6_mend 72 = .ok (.istore 5, 2) := by decide +kernel
theorem dX6_mend_74 : decode cX6_mend 74 = .ok (.aload_n 0, 1) := by decide +kernel
theorem dX6_mend_75 : decode cX6_mend 75 = .ok (.iload_n 3, 1) := by decide +kernel
theorem dX6_mend_76 : decode cX6_mend 76 = .ok (.ifCond .ne 7, 3) := by decide +kernel
theorem dX6_mend_79 : decode cX6_mend 79 = .ok (.iconst 1, 1) := by decide +kernel
theorem dX6_mend_80 : decode cX6_mend 80 = .ok (.goto 22, 3) := by decide +kernel
theorem dX6_mend_83 : decode cX6_mend 83 = .ok (.iload 4, 2) := by decide +kernel
theorem dX6_mend_85 : decode cX6_mend 85 = .ok (.ifCond .ne 7, 3) := by decide +kernel
theorem dX6_mend_88 : decode cX6_mend 88 = .ok (.iconst 2, 1) := by decide +kernel
theorem dX6_mend_89 : decode cX6_mend 89 = .ok (.goto 13, 3) := by decide +kernel
theorem dX6_mend_92 : decode cX6_mend 92 = .ok (.iload 5, 2) := by decide +kernel
theorem dX6_mend_94 : decode cX6_mend 94 = .ok (.ifCond .ne 7, 3) := by decide +kernel
theorem dX6_mend_97 : decode cX6_mend 97 = .ok (.iconst 3, 1) := by decide +kernel
theorem dX6_mend_98 : decode cX6_mend 98 = .ok (.goto 4, 3) := by decide +kernel
theorem dX6_mend_101 : decode cX6_mend 101 = .ok (.iconst 0, 1) := by decide +kernel
theorem dX6_mend_102 : decode cX6_mend 102 = .ok (.invokevirtual 94, 3) := by decide +kernel
theorem dX6_mend_105 : decode cX6_mend 105 = .ok (.ifCond .ne 5, 3) := by decide +kernel
theorem dX6_mend_108 : decode cX6_mend 108 = .ok (.iconst 0, 1) := by decide +kernel
theorem dX6_mend_109 : decode cX6_mend 109 = .ok (.ireturn, 1) := by decide +kernel
theorem dX6_mend_110 : decode cX6_mend 110 = .ok (.aload_n 0, 1) := by decide +kernel
theorem dX6_mend_111 : decode cX6_mend 111 = .ok (.getfield 22, 3) := by decide +kernel
theorem dX6_mend_114 : decode cX6_mend 114 = .ok (.iload_n 1, 1) := by decide +kernel
theorem dX6_mend_115 : decode cX6_mend 115 = .ok (.iaload, 1) := by decide +kernel
theorem dX6_mend_116 : decode cX6_mend 116 = .ok (.istore 6, 2) := by decide +kernel
theorem dX6_mend_118 : decode cX6_mend 118 = .ok (.aload_n 0, 1) := by decide +kernel
theorem dX6_mend_119 : decode cX6_mend 119 = .ok (.getfield 37, 3) := by decide +kernel
theorem dX6_mend_122 : decode cX6_mend 122 = .ok (.bipush 10, 2) := by decide +kernel
theorem dX6_mend_124 : decode cX6_mend 124 = .ok (.iload_n 1, 1) := by decide +kernel
theorem dX6_mend_125 : decode cX6_mend 125 = .ok (.imul, 1) := by decide +kernel
theorem dX6_mend_126 : decode cX6_mend 126 = .ok (.aload_n 0, 1) := by decide +kernel
theorem dX6_mend_127 : decode cX6_mend 127 = .ok (.getfield 43, 3) := by decide +kernel
theorem dX6_mend_130 : decode cX6_mend 130 = .ok (.iload_n 1, 1) := by decide +kernel
theorem dX6_mend_131 : decode cX6_mend 131 = .ok (.iaload, 1) := by decide +kernel
theorem dX6_mend_132 : decode cX6_mend 132 = .ok (.iadd, 1) := by decide +kernel
theorem dX6_mend_133 : decode cX6_mend 133 = .ok (.iload_n 2, 1) := by decide +kernel
theorem dX6_mend_134 : decode cX6_mend 134 = .ok (.iastore, 1) := by decide +kernel
theorem dX6_mend_135 : decode cX6_mend 135 = .ok (.aload_n 0, 1) := by decide +kernel
theorem dX6_mend_136 : decode cX6_mend 136 = .ok (.getfield 40, 3) := by decide +kernel
theorem dX6_mend_139 : decode cX6_mend 139 = .ok (.bipush 10, 2) := by decide +kernel
theorem dX6_mend_141 : decode cX6_mend 141 = .ok (.iload_n 1, 1) := by decide +kernel
theorem dX6_mend_142 : decode cX6_mend 142 = .ok (.imul, 1) := by decide +kernel
theorem dX6_mend_143 : decode cX6_mend 143 = .ok (.aload_n 0, 1) := by decide +kernel
theorem dX6_mend_144 : decode cX6_mend 144 = .ok (.getfield 43, 3) := by decide +kernel
theorem dX6_mend_147 : decode cX6_mend 147 = .ok (.iload_n 1, 1) := by decide +kernel
theorem dX6_mend_148 : decode cX6_mend 148 = .ok (.iaload, 1) := by decide +kernel
theorem dX6_mend_149 : decode cX6_mend 149 = .ok (.iadd, 1) := by decide +kernel
theorem dX6_mend_150 : decode cX6_mend 150 = .ok (.iload 6, 2) := by decide +kernel
theorem dX6_mend_152 : decode cX6_mend 152 = .ok (.iastore, 1) := by decide +kernel
theorem dX6_mend_153 : decode cX6_mend 153 = .ok (.aload_n 0, 1) := by decide +kernel
theorem dX6_mend_154 : decode cX6_mend 154 = .ok (.getfield 43, 3) := by decide +kernel
theorem dX6_mend_157 : decode cX6_mend 157 = .ok (.iload_n 1, 1) := by decide +kernel
theorem dX6_mend_158 : decode cX6_mend 158 = .ok (.dup2, 1) := by decide +kernel
theorem dX6_mend_159 : decode cX6_mend 159 = .ok (.iaload, 1) := by decide +kernel
theorem dX6_mend_160 : decode cX6_mend 160 = .ok (.iconst 1, 1) := by decide +kernel
theorem dX6_mend_161 : decode cX6_mend 161 = .ok (.iadd, 1) := by decide +kernel
theorem dX6_mend_162 : decode cX6_mend 162 = .ok (.iastore, 1) := by decide +kernel
theorem dX6_mend_163 : decode cX6_mend 163 = .ok (.aload_n 0, 1) := by decide +kernel
theorem dX6_mend_164 : decode cX6_mend 164 = .ok (.getfield 22, 3) := by decide +kernel
theorem dX6_mend_167 : decode cX6_mend 167 = .ok (.iload_n 1, 1) := by decide +kernel
theorem dX6_mend_168 : decode cX6_mend 168 = .ok (.iconst 0, 1) := by decide +kernel
theorem dX6_mend_169 : decode cX6_mend 169 = .ok (.iastore, 1) := by decide +kernel
theorem dX6_mend_170 : decode cX6_mend 170 = .ok (.iload 6, 2) := by decide +kernel
theorem dX6_mend_172 : decode cX6_mend 172 = .ok (.ireturn, 1) := by decide +kernel
theorem dX6_track_0 : decode cX6_track 0 = .ok (.aload_n 0, 1) := by decide +kernel
theorem dX6_track_1 : decode cX6_track 1 = .ok (.iload_n 1, 1) := by decide +kernel
theorem dX6_track_2 : decode cX6_track 2 = .ok (.iload_n 2, 1) := by decide +kernel
theorem dX6_track_3 : decode cX6_track 3 = .ok (.invokevirtual 146, 3) := by decide +kernel
theorem dX6_track_6 : decode cX6_track 6 = .ok (.ireturn, 1) := by decide +kernel
theorem dX6_trackNow_0 : decode cX6_trackNow 0 = .ok (.aload_n 0, 1) := by decide +kernel
theorem dX6_trackNow_1 : decode cX6_trackNow 1 = .ok (.aload_n 0, 1) := by decide +kernel
theorem dX6_trackNow_2 : decode cX6_trackNow 2 = .ok (.iload_n 1, 1) := by decide +kernel
theorem dX6_trackNow_3 : decode cX6_trackNow 3 = .ok (.invokevirtual 98, 3) := by decide +kernel
theorem dX6_trackNow_6 : decode cX6_trackNow 6 = .ok (.ifCond .ne 7, 3) := by decide +kernel
theorem dX6_trackNow_9 : decode cX6_trackNow 9 = .ok (.iconst 1, 1) := by decide +kernel
theorem dX6_trackNow_10 : decode cX6_trackNow 10 = .ok (.goto 15, 3) := by decide +kernel
theorem dX6_trackNow_13 : decode cX6_trackNow 13 = .ok (.iload_n 2, 1) := by decide +kernel
theorem dX6_trackNow_14 : decode cX6_trackNow 14 = .ok (.invokestatic 140, 3) := by decide +kernel
theorem dX6_trackNow_17 : decode cX6_trackNow 17 = .ok (.ifCond .ne 7, 3) := by decide +kernel
theorem dX6_trackNow_20 : decode cX6_trackNow 20 = .ok (.iconst 2, 1) := by decide +kernel
theorem dX6_trackNow_21 : decode cX6_trackNow 21 = .ok (.goto 4, 3) := by decide +kernel
theorem dX6_trackNow_24 : decode cX6_trackNow 24 = .ok (.iconst 0, 1) := by decide +kernel
theorem dX6_trackNow_25 : decode cX6_trackNow 25 = .ok (.invokevirtual 94, 3) := by decide +kernel
theorem dX6_trackNow_28 : decode cX6_trackNow 28 = .ok (.ifCond .ne 5, 3) := by decide +kernel
theorem dX6_trackNow_31 : decode cX6_trackNow 31 = .ok (.iconst 0, 1) := by decide +kernel
theorem dX6_trackNow_32 : decode cX6_trackNow 32 = .ok (.ireturn, 1) := by decide +kernel
theorem dX6_trackNow_33 : decode cX6_trackNow 33 = .ok (.aload_n 0, 1) := by decide +kernel
theorem dX6_trackNow_34 : decode cX6_trackNow 34 = .ok (.iload_n 1, 1) := by decide +kernel
theorem dX6_trackNow_35 : decode cX6_trackNow 35 = .ok (.iload_n 2, 1) := by decide +kernel
theorem dX6_trackNow_36 : decode cX6_trackNow 36 = .ok (.invokevirtual 143, 3) := by decide +kernel
theorem dX6_trackNow_39 : decode cX6_trackNow 39 = .ok (.sipush 1000, 3) := by decide +kernel
theorem dX6_trackNow_42 : decode cX6_trackNow 42 = .ok (.aload_n 0, 1) := by decide +kernel
theorem dX6_trackNow_43 : decode cX6_trackNow 43 = .ok (.getfield 134, 3) := by decide +kernel
theorem dX6_trackNow_46 : decode cX6_trackNow 46 = .ok (.imul, 1) := by decide +kernel
theorem dX6_trackNow_47 : decode cX6_trackNow 47 = .ok (.aload_n 0, 1) := by decide +kernel
theorem dX6_trackNow_48 : decode cX6_trackNow 48 = .ok (.getfield 137, 3) := by decide +kernel
theorem dX6_trackNow_51 : decode cX6_trackNow 51 = .ok (.iadd, 1) := by decide +kernel
theorem dX6_trackNow_52 : decode cX6_trackNow 52 = .ok (.ireturn, 1) := by decide +kernel
theorem dX6_isFrame_0 : decode cX6_isFrame 0 = .ok (.iload_n 0, 1) := by decide +kernel
theorem dX6_isFrame_1 : decode cX6_isFrame 1 = .ok (.iconst 0, 1) := by decide +kernel
theorem dX6_isFrame_2 : decode cX6_isFrame 2 = .ok (.sipush 1999, 3) := by decide +kernel
theorem dX6_isFrame_5 : decode cX6_isFrame 5 = .ok (.invokestatic 87, 3) := by decide +kernel
theorem dX6_isFrame_8 : decode cX6_isFrame 8 = .ok (.ireturn, 1) := by decide +kernel
theorem dX6_finds_0 : decode cX6_finds 0 = .ok (.aload_n 0, 1) := by decide +kernel
theorem dX6_finds_1 : decode cX6_finds 1 = .ok (.aload_n 0, 1) := by decide +kernel
theorem dX6_finds_2 : decode cX6_finds 2 = .ok (.getfield 7, 3) := by decide +kernel
theorem dX6_finds_5 : decode cX6_finds 5 = .ok (.iload_n 1, 1) := by decide +kernel
theorem dX6_finds_6 : decode cX6_finds 6 = .ok (.iaload, 1) := by decide +kernel
theorem dX6_finds_7 : decode cX6_finds 7 = .ok (.putfield 134, 3) := by decide +kernel
theorem dX6_finds_10 : decode cX6_finds 10 = .ok (.aload_n 0, 1) := by decide +kernel
theorem dX6_finds_11 : decode cX6_finds 11 = .ok (.iconst 0, 1) := by decide +kernel
theorem dX6_finds_12 : decode cX6_finds 12 = .ok (.putfield 137, 3) := by decide +kernel
theorem dX6_finds_15 : decode cX6_finds 15 = .ok (.aload_n 0, 1) := by decide +kernel
theorem dX6_finds_16 : decode cX6_finds 16 = .ok (.getfield 16, 3) := by decide +kernel
theorem dX6_finds_19 : decode cX6_finds 19 = .ok (.iload_n 1, 1) := by decide +kernel
theorem dX6_finds_20 : decode cX6_finds 20 = .ok (.iaload, 1) := by decide +kernel
theorem dX6_finds_21 : decode cX6_finds 21 = .ok (.ifCond .ne 4, 3) := by decide +kernel
theorem dX6_finds_24 : decode cX6_finds 24 = .ok (.return_, 1) := by decide +kernel
theorem dX6_finds_25 : decode cX6_finds 25 = .ok (.aload_n 0, 1) := by decide +kernel
theorem dX6_finds_26 : decode cX6_finds 26 = .ok (.iload_n 1, 1) := by decide +kernel
theorem dX6_finds_27 : decode cX6_finds 27 = .ok (.iload_n 2, 1) := by decide +kernel
theorem dX6_finds_28 : decode cX6_finds 28 = .ok (.invokevirtual 101, 3) := by decide +kernel
theorem dX6_finds_31 : decode cX6_finds 31 = .ok (.istore_n 3, 1) := by decide +kernel
theorem dX6_finds_32 : decode cX6_finds 32 = .ok (.bipush 12, 2) := by decide +kernel
theorem dX6_finds_34 : decode cX6_finds 34 = .ok (.iload_n 1, 1) := by decide +kernel
theorem dX6_finds_35 : decode cX6_finds 35 = .ok (.imul, 1) := by decide +kernel
theorem dX6_finds_36 : decode cX6_finds 36 = .ok (.iload_n 3, 1) := by decide +kernel
theorem dX6_finds_37 : decode cX6_finds 37 = .ok (.aload_n 0, 1) := by decide +kernel
theorem dX6_finds_38 : decode cX6_finds 38 = .ok (.getfield 16, 3) := by decide +kernel
theorem dX6_finds_41 : decode cX6_finds 41 = .ok (.iload_n 1, 1) := by decide +kernel
theorem dX6_finds_42 : decode cX6_finds 42 = .ok (.iaload, 1) := by decide +kernel
theorem dX6_finds_43 : decode cX6_finds 43 = .ok (.if_icmp .ne 9, 3) := by decide +kernel
theorem dX6_finds_46 : decode cX6_finds 46 = .ok (.iload_n 3, 1) := by decide +kernel
theorem dX6_finds_47 : decode cX6_finds 47 = .ok (.iconst 1, 1) := by decide +kernel
theorem dX6_finds_48 : decode cX6_finds 48 = .ok (.isub, 1) := by decide +kernel
theorem dX6_finds_49 : decode cX6_finds 49 = .ok (.goto 4, 3) := by decide +kernel
theorem dX6_finds_52 : decode cX6_finds 52 = .ok (.iload_n 3, 1) := by decide +kernel
theorem dX6_finds_53 : decode cX6_finds 53 = .ok (.iadd, 1) := by decide +kernel
theorem dX6_finds_54 : decode cX6_finds 54 = .ok (.istore 4, 2) := by decide +kernel
theorem dX6_finds_56 : decode cX6_finds 56 = .ok (.aload_n 0, 1) := by decide +kernel
theorem dX6_finds_57 : decode cX6_finds 57 = .ok (.aload_n 0, 1) := by decide +kernel
theorem dX6_finds_58 : decode cX6_finds 58 = .ok (.getfield 28, 3) := by decide +kernel
theorem dX6_finds_61 : decode cX6_finds 61 = .ok (.iload 4, 2) := by decide +kernel
theorem dX6_finds_63 : decode cX6_finds 63 = .ok (.iaload, 1) := by decide +kernel
theorem dX6_finds_64 : decode cX6_finds 64 = .ok (.putfield 134, 3) := by decide +kernel
theorem dX6_finds_67 : decode cX6_finds 67 = .ok (.aload_n 0, 1) := by decide +kernel
theorem dX6_finds_68 : decode cX6_finds 68 = .ok (.aload_n 0, 1) := by decide +kernel
theorem dX6_finds_69 : decode cX6_finds 69 = .ok (.getfield 31, 3) := by decide +kernel
theorem dX6_finds_72 : decode cX6_finds 72 = .ok (.iload 4, 2) := by decide +kernel
theorem dX6_finds_74 : decode cX6_finds 74 = .ok (.iaload, 1) := by decide +kernel
theorem dX6_finds_75 : decode cX6_finds 75 = .ok (.putfield 137, 3) := by decide +kernel
theorem dX6_finds_78 : decode cX6_finds 78 = .ok (.iload_n 3, 1) := by decide +kernel
theorem dX6_finds_79 : decode cX6_finds 79 = .ok (.ifCond .eq 24, 3) := by decide +kernel
theorem dX6_finds_82 : decode cX6_finds 82 = .ok (.iload_n 3, 1) := by decide +kernel
theorem dX6_finds_83 : decode cX6_finds 83 = .ok (.aload_n 0, 1) := by decide +kernel
theorem dX6_finds_84 : decode cX6_finds 84 = .ok (.getfield 16, 3) := by decide +kernel
theorem dX6_finds_87 : decode cX6_finds 87 = .ok (.iload_n 1, 1) := by decide +kernel
theorem dX6_finds_88 : decode cX6_finds 88 = .ok (.iaload, 1) := by decide +kernel
theorem dX6_finds_89 : decode cX6_finds 89 = .ok (.if_icmp .eq 14, 3) := by decide +kernel
theorem dX6_finds_92 : decode cX6_finds 92 = .ok (.aload_n 0, 1) := by decide +kernel
theorem dX6_finds_93 : decode cX6_finds 93 = .ok (.getfield 25, 3) := by decide +kernel
theorem dX6_finds_96 : decode cX6_finds 96 = .ok (.iload 4, 2) := by decide +kernel
theorem dX6_finds_98 : decode cX6_finds 98 = .ok (.iaload, 1) := by decide +kernel
theorem dX6_finds_99 : decode cX6_finds 99 = .ok (.iload_n 2, 1) := by decide +kernel
theorem dX6_finds_100 : decode cX6_finds 100 = .ok (.if_icmp .ne 4, 3) := by decide +kernel
theorem dX6_finds_103 : decode cX6_finds 103 = .ok (.return_, 1) := by decide +kernel
theorem dX6_finds_104 : decode cX6_finds 104 = .ok (.iload 4, 2) := by decide +kernel
theorem dX6_finds_106 : decode cX6_finds 106 = .ok (.iconst 1, 1) := by decide +kernel
theorem dX6_finds_107 : decode cX6_finds 107 = .ok (.isub, 1) := by decide +kernel
theorem dX6_finds_108 : decode cX6_finds 108 = .ok (.istore 5, 2) := by decide +kernel
theorem dX6_finds_110 : decode cX6_finds 110 = .ok (.aload_n 0, 1) := by decide +kernel
theorem dX6_finds_111 : decode cX6_finds 111 = .ok (.getfield 68, 3) := by decide +kernel
theorem dX6_finds_114 : decode cX6_finds 114 = .ok (.bipush 8, 2) := by decide +kernel
theorem dX6_finds_116 : decode cX6_finds 116 = .ok (.aload_n 0, 1) := by decide +kernel
theorem dX6_finds_117 : decode cX6_finds 117 = .ok (.getfield 34, 3) := by decide +kernel
theorem dX6_finds_120 : decode cX6_finds 120 = .ok (.iload 5, 2) := by decide +kernel
theorem dX6_finds_122 : decode cX6_finds 122 = .ok (.iaload, 1) := by decide +kernel
theorem dX6_finds_123 : decode cX6_finds 123 = .ok (.imul, 1) := by decide +kernel
theorem dX6_finds_124 : decode cX6_finds 124 = .ok (.iload_n 2, 1) := by decide +kernel
theorem dX6_finds_125 : decode cX6_finds 125 = .ok (.aload_n 0, 1) := by decide +kernel
theorem dX6_finds_126 : decode cX6_finds 126 = .ok (.getfield 25, 3) := by decide +kernel
theorem dX6_finds_129 : decode cX6_finds 129 = .ok (.iload 5, 2) := by decide +kernel
theorem dX6_finds_131 : decode cX6_finds 131 = .ok (.iaload, 1) := by decide +kernel
theorem dX6_finds_132 : decode cX6_finds 132 = .ok (.isub, 1) := by decide +kernel
theorem dX6_finds_133 : decode cX6_finds 133 = .ok (.bipush 8, 2) := by decide +kernel
theorem dX6_finds_135 : decode cX6_finds 135 = .ok (.imul, 1) := by decide +kernel
theorem dX6_finds_136 : decode cX6_finds 136 = .ok (.aload_n 0, 1) := by decide +kernel
theorem dX6_finds_137 : decode cX6_finds 137 = .ok (.getfield 25, 3) := by decide +kernel
theorem dX6_finds_140 : decode cX6_finds 140 = .ok (.iload 4, 2) := by decide +kernel
theorem dX6_finds_142 : decode cX6_finds 142 = .ok (.iaload, 1) := by decide +kernel
theorem dX6_finds_143 : decode cX6_finds 143 = .ok (.aload_n 0, 1) := by decide +kernel
theorem dX6_finds_144 : decode cX6_finds 144 = .ok (.getfield 25, 3) := by decide +kernel
theorem dX6_finds_147 : decode cX6_finds 147 = .ok (.iload 5, 2) := by decide +kernel
theorem dX6_finds_149 : decode cX6_finds 149 = .ok (.iaload, 1) := by decide +kernel
theorem dX6_finds_150 : decode cX6_finds 150 = .ok (.isub, 1) := by decide +kernel
theorem dX6_finds_151 : decode cX6_finds 151 = .ok (.idiv, 1) := by decide +kernel
theorem dX6_finds_152 : decode cX6_finds 152 = .ok (.iadd, 1) := by decide +kernel
theorem dX6_finds_153 : decode cX6_finds 153 = .ok (.iaload, 1) := by decide +kernel
theorem dX6_finds_154 : decode cX6_finds 154 = .ok (.istore 6, 2) := by decide +kernel
theorem dX6_finds_156 : decode cX6_finds 156 = .ok (.aload_n 0, 1) := by decide +kernel
theorem dX6_finds_157 : decode cX6_finds 157 = .ok (.aload_n 0, 1) := by decide +kernel
theorem dX6_finds_158 : decode cX6_finds 158 = .ok (.getfield 28, 3) := by decide +kernel
theorem dX6_finds_161 : decode cX6_finds 161 = .ok (.iload 5, 2) := by decide +kernel
theorem dX6_finds_163 : decode cX6_finds 163 = .ok (.iaload, 1) := by decide +kernel
theorem dX6_finds_164 : decode cX6_finds 164 = .ok (.aload_n 0, 1) := by decide +kernel
theorem dX6_finds_165 : decode cX6_finds 165 = .ok (.getfield 28, 3) := by decide +kernel
theorem dX6_finds_168 : decode cX6_finds 168 = .ok (.iload 4, 2) := by decide +kernel
theorem dX6_finds_170 : decode cX6_finds 170 = .ok (.iaload, 1) := by decide +kernel
theorem dX6_finds_171 : decode cX6_finds 171 = .ok (.aload_n 0, 1) := by decide +kernel
theorem dX6_finds_172 : decode cX6_finds 172 = .ok (.getfield 28, 3) := by decide +kernel
theorem dX6_finds_175 : decode cX6_finds 175 = .ok (.iload 5, 2) := by decide +kernel
theorem dX6_finds_177 : decode cX6_finds 177 = .ok (.iaload, 1) := by decide +kernel
theorem dX6_finds_178 : decode cX6_finds 178 = .ok (.isub, 1) := by decide +kernel
theorem dX6_finds_179 : decode cX6_finds 179 = .ok (.iload 6, 2) := by decide +kernel
theorem dX6_finds_181 : decode cX6_finds 181 = .ok (.imul, 1) := by decide +kernel
theorem dX6_finds_182 : decode cX6_finds 182 = .ok (.bipush 64, 2) := by decide +kernel
theorem dX6_finds_184 : decode cX6_finds 184 = .ok (.idiv, 1) := by decide +kernel
theorem dX6_finds_185 : decode cX6_finds 185 = .ok (.iadd, 1) := by decide +kernel
theorem dX6_finds_186 : decode cX6_finds 186 = .ok (.putfield 134, 3) := by decide +kernel
theorem dX6_finds_189 : decode cX6_finds 189 = .ok (.aload_n 0, 1) := by decide +kernel
theorem dX6_finds_190 : decode cX6_finds 190 = .ok (.aload_n 0, 1) := by decide +kernel
theorem dX6_finds_191 : decode cX6_finds 191 = .ok (.getfield 31, 3) := by decide +kernel
theorem dX6_finds_194 : decode cX6_finds 194 = .ok (.iload 5, 2) := by decide +kernel
theorem dX6_finds_196 : decode cX6_finds 196 = .ok (.iaload, 1) := by decide +kernel
theorem dX6_finds_197 : decode cX6_finds 197 = .ok (.aload_n 0, 1) := by decide +kernel
theorem dX6_finds_198 : decode cX6_finds 198 = .ok (.getfield 31, 3) := by decide +kernel
theorem dX6_finds_201 : decode cX6_finds 201 = .ok (.iload 4, 2) := by decide +kernel
theorem dX6_finds_203 : decode cX6_finds 203 = .ok (.iaload, 1) := by decide +kernel
theorem dX6_finds_204 : decode cX6_finds 204 = .ok (.aload_n 0, 1) := by decide +kernel
theorem dX6_finds_205 : decode cX6_finds 205 = .ok (.getfield 31, 3) := by decide +kernel
theorem dX6_finds_208 : decode cX6_finds 208 = .ok (.iload 5, 2) := by decide +kernel
theorem dX6_finds_210 : decode cX6_finds 210 = .ok (.iaload, 1) := by decide +kernel
theorem dX6_finds_211 : decode cX6_finds 211 = .ok (.isub, 1) := by decide +kernel
theorem dX6_finds_212 : decode cX6_finds 212 = .ok (.iload 6, 2) := by decide +kernel
theorem dX6_finds_214 : decode cX6_finds 214 = .ok (.imul, 1) := by decide +kernel
theorem dX6_finds_215 : decode cX6_finds 215 = .ok (.bipush 64, 2) := by decide +kernel
theorem dX6_finds_217 : decode cX6_finds 217 = .ok (.idiv, 1) := by decide +kernel
theorem dX6_finds_218 : decode cX6_finds 218 = .ok (.iadd, 1) := by decide +kernel
theorem dX6_finds_219 : decode cX6_finds 219 = .ok (.putfield 137, 3) := by decide +kernel
theorem dX6_finds_222 : decode cX6_finds 222 = .ok (.return_, 1) := by decide +kernel
theorem dX6_trackByFrames_0 : decode cX6_trackByFrames 0 = .ok (.aload_n 0, 1) := by decide +kernel
theorem dX6_trackByFrames_1 : decode cX6_trackByFrames 1 = .ok (.iload_n 1, 1) := by decide +kernel
theorem dX6_trackByFrames_2 : decode cX6_trackByFrames 2 = .ok (.iload_n 2, 1) := by decide +kernel
theorem dX6_trackByFrames_3 : decode cX6_trackByFrames 3 = .ok (.invokevirtual 146, 3) := by decide +kernel
theorem dX6_trackByFrames_6 : decode cX6_trackByFrames 6 = .ok (.ireturn, 1) := by decide +kernel
theorem dX6_x_0 : decode cX6_x 0 = .ok (.aload_n 0, 1) := by decide +kernel
theorem dX6_x_1 : decode cX6_x 1 = .ok (.iload_n 1, 1) := by decide +kernel
theorem dX6_x_2 : decode cX6_x 2 = .ok (.iload_n 2, 1) := by decide +kernel
theorem dX6_x_3 : decode cX6_x 3 = .ok (.invokevirtual 162, 3) := by decide +kernel
theorem dX6_x_6 : decode cX6_x 6 = .ok (.istore 4, 2) := by decide +kernel
theorem dX6_x_8 : decode cX6_x 8 = .ok (.aload_n 0, 1) := by decide +kernel
theorem dX6_x_9 : decode cX6_x 9 = .ok (.iload 4, 2) := by decide +kernel
theorem dX6_x_11 : decode cX6_x 11 = .ok (.ifCond .ne 7, 3) := by decide +kernel
theorem dX6_x_14 : decode cX6_x 14 = .ok (.iconst 1, 1) := by decide +kernel
theorem dX6_x_15 : decode cX6_x 15 = .ok (.goto 15, 3) := by decide +kernel
theorem dX6_x_18 : decode cX6_x 18 = .ok (.iload_n 3, 1) := by decide +kernel
theorem dX6_x_19 : decode cX6_x 19 = .ok (.invokestatic 140, 3) := by decide +kernel
theorem dX6_x_22 : decode cX6_x 22 = .ok (.ifCond .ne 7, 3) := by decide +kernel
theorem dX6_x_25 : decode cX6_x 25 = .ok (.iconst 2, 1) := by decide +kernel
theorem dX6_x_26 : decode cX6_x 26 = .ok (.goto 4, 3) := by decide +kernel
theorem dX6_x_29 : decode cX6_x 29 = .ok (.iconst 0, 1) := by decide +kernel
theorem dX6_x_30 : decode cX6_x 30 = .ok (.invokevirtual 94, 3) := by decide +kernel
theorem dX6_x_33 : decode cX6_x 33 = .ok (.ifCond .ne 5, 3) := by decide +kernel
theorem dX6_x_36 : decode cX6_x 36 = .ok (.iconst 0, 1) := by decide +kernel
theorem dX6_x_37 : decode cX6_x 37 = .ok (.ireturn, 1) := by decide +kernel
theorem dX6_x_38 : decode cX6_x 38 = .ok (.aload_n 0, 1) := by decide +kernel
theorem dX6_x_39 : decode cX6_x 39 = .ok (.iload_n 1, 1) := by decide +kernel
theorem dX6_x_40 : decode cX6_x 40 = .ok (.iload_n 2, 1) := by decide +kernel
theorem dX6_x_41 : decode cX6_x 41 = .ok (.iload_n 3, 1) := by decide +kernel
theorem dX6_x_42 : decode cX6_x 42 = .ok (.invokevirtual 165, 3) := by decide +kernel
theorem dX6_x_45 : decode cX6_x 45 = .ok (.aload_n 0, 1) := by decide +kernel
theorem dX6_x_46 : decode cX6_x 46 = .ok (.getfield 71, 3) := by decide +kernel
theorem dX6_x_49 : decode cX6_x 49 = .ok (.iload_n 2, 1) := by decide +kernel
theorem dX6_x_50 : decode cX6_x 50 = .ok (.iaload, 1) := by decide +kernel
theorem dX6_x_51 : decode cX6_x 51 = .ok (.ireturn, 1) := by decide +kernel
theorem dX6_isOf_0 : decode cX6_isOf 0 = .ok (.aload_n 0, 1) := by decide +kernel
theorem dX6_isOf_1 : decode cX6_isOf 1 = .ok (.iload_n 1, 1) := by decide +kernel
theorem dX6_isOf_2 : decode cX6_isOf 2 = .ok (.invokevirtual 121, 3) := by decide +kernel
theorem dX6_isOf_5 : decode cX6_isOf 5 = .ok (.ifCond .eq 29, 3) := by decide +kernel
theorem dX6_isOf_8 : decode cX6_isOf 8 = .ok (.aload_n 0, 1) := by decide +kernel
theorem dX6_isOf_9 : decode cX6_isOf 9 = .ok (.iload_n 2, 1) := by decide +kernel
theorem dX6_isOf_10 : decode cX6_isOf 10 = .ok (.invokevirtual 98, 3) := by decide +kernel
theorem dX6_isOf_13 : decode cX6_isOf 13 = .ok (.ifCond .eq 21, 3) := by decide +kernel
theorem dX6_isOf_16 : decode cX6_isOf 16 = .ok (.aload_n 0, 1) := by decide +kernel
theorem dX6_isOf_17 : decode cX6_isOf 17 = .ok (.getfield 65, 3) := by decide +kernel
theorem dX6_isOf_20 : decode cX6_isOf 20 = .ok (.bipush 8, 2) := by decide +kernel
theorem dX6_isOf_22 : decode cX6_isOf 22 = .ok (.iload_n 1, 1) := by decide +kernel
theorem dX6_isOf_23 : decode cX6_isOf 23 = .ok (.imul, 1) := by decide +kernel
theorem dX6_isOf_24 : decode cX6_isOf 24 = .ok (.iload_n 2, 1) := by decide +kernel
theorem dX6_isOf_25 : decode cX6_isOf 25 = .ok (.iadd, 1) := by decide +kernel
theorem dX6_isOf_26 : decode cX6_isOf 26 = .ok (.baload, 1) := by decide +kernel
theorem dX6_isOf_27 : decode cX6_isOf 27 = .ok (.ifCond .eq 7, 3) := by decide +kernel
theorem dX6_isOf_30 : decode cX6_isOf 30 = .ok (.iconst 1, 1) := by decide +kernel
theorem dX6_isOf_31 : decode cX6_isOf 31 = .ok (.goto 4, 3) := by decide +kernel
theorem dX6_isOf_34 : decode cX6_isOf 34 = .ok (.iconst 0, 1) := by decide +kernel
theorem dX6_isOf_35 : decode cX6_isOf 35 = .ok (.ireturn, 1) := by decide +kernel
theorem dX6_goes_0 : decode cX6_goes 0 = .ok (.iconst 0, 1) := by decide +kernel
theorem dX6_goes_1 : decode cX6_goes 1 = .ok (.istore 4, 2) := by decide +kernel
theorem dX6_goes_3 : decode cX6_goes 3 = .ok (.iload 4, 2) := by decide +kernel
theorem dX6_goes_5 : decode cX6_goes 5 = .ok (.iload_n 2, 1) := by decide +kernel
theorem dX6_goes_6 : decode cX6_goes 6 = .ok (.if_icmp .gt 215, 3) := by decide +kernel
theorem dX6_goes_9 : decode cX6_goes 9 = .ok (.aload_n 0, 1) := by decide +kernel
theorem dX6_goes_10 : decode cX6_goes 10 = .ok (.getfield 65, 3) := by decide +kernel
theorem dX6_goes_13 : decode cX6_goes 13 = .ok (.bipush 8, 2) := by decide +kernel
theorem dX6_goes_15 : decode cX6_goes 15 = .ok (.iload_n 1, 1) := by decide +kernel
theorem dX6_goes_16 : decode cX6_goes 16 = .ok (.imul, 1) := by decide +kernel
theorem dX6_goes_17 : decode cX6_goes 17 = .ok (.iload 4, 2) := by decide +kernel
theorem dX6_goes_19 : decode cX6_goes 19 = .ok (.iadd, 1) := by decide +kernel
theorem dX6_goes_20 : decode cX6_goes 20 = .ok (.baload, 1) := by decide +kernel
theorem dX6_goes_21 : decode cX6_goes 21 = .ok (.ifCond .eq 194, 3) := by decide +kernel
theorem dX6_goes_24 : decode cX6_goes 24 = .ok (.aload_n 0, 1) := by decide +kernel
theorem dX6_goes_25 : decode cX6_goes 25 = .ok (.iload 4, 2) := by decide +kernel
theorem dX6_goes_27 : decode cX6_goes 27 = .ok (.aload_n 0, 1) := by decide +kernel
theorem dX6_goes_28 : decode cX6_goes 28 = .ok (.iload 4, 2) := by decide +kernel
theorem dX6_goes_30 : decode cX6_goes 30 = .ok (.iload_n 3, 1) := by decide +kernel
theorem dX6_goes_31 : decode cX6_goes 31 = .ok (.invokevirtual 152, 3) := by decide +kernel
theorem dX6_goes_34 : decode cX6_goes 34 = .ok (.invokevirtual 143, 3) := by decide +kernel
theorem dX6_goes_37 : decode cX6_goes 37 = .ok (.aload_n 0, 1) := by decide +kernel
theorem dX6_goes_38 : decode cX6_goes 38 = .ok (.getfield 71, 3) := by decide +kernel
theorem dX6_goes_41 : decode cX6_goes 41 = .ok (.iload 4, 2) := by decide +kernel
theorem dX6_goes_43 : decode cX6_goes 43 = .ok (.aload_n 0, 1) := by decide +kernel
theorem dX6_goes_44 : decode cX6_goes 44 = .ok (.getfield 134, 3) := by decide +kernel
theorem dX6_goes_47 : decode cX6_goes 47 = .ok (.iastore, 1) := by decide +kernel
theorem dX6_goes_48 : decode cX6_goes 48 = .ok (.aload_n 0, 1) := by decide +kernel
theorem dX6_goes_49 : decode cX6_goes 49 = .ok (.getfield 74, 3) := by decide +kernel
theorem dX6_goes_52 : decode cX6_goes 52 = .ok (.iload 4, 2) := by decide +kernel
theorem dX6_goes_54 : decode cX6_goes 54 = .ok (.aload_n 0, 1) := by decide +kernel
theorem dX6_goes_55 : decode cX6_goes 55 = .ok (.getfield 137, 3) := by decide +kernel
theorem dX6_goes_58 : decode cX6_goes 58 = .ok (.iastore, 1) := by decide +kernel
theorem dX6_goes_59 : decode cX6_goes 59 = .ok (.aload_n 0, 1) := by decide +kernel
theorem dX6_goes_60 : decode cX6_goes 60 = .ok (.iload 4, 2) := by decide +kernel
theorem dX6_goes_62 : decode cX6_goes 62 = .ok (.invokevirtual 155, 3) := by decide +kernel
theorem dX6_goes_65 : decode cX6_goes 65 = .ok (.aload_n 0, 1) := by decide +kernel
theorem dX6_goes_66 : decode cX6_goes 66 = .ok (.getfield 77, 3) := by decide +kernel
theorem dX6_goes_69 : decode cX6_goes 69 = .ok (.iload 4, 2) := by decide +kernel
theorem dX6_goes_71 : decode cX6_goes 71 = .ok (.iconst 0, 1) := by decide +kernel
theorem dX6_goes_72 : decode cX6_goes 72 = .ok (.bastore, 1) := by decide +kernel
theorem dX6_goes_73 : decode cX6_goes 73 = .ok (.iconst 0, 1) := by decide +kernel
theorem dX6_goes_74 : decode cX6_goes 74 = .ok (.istore 5, 2) := by decide +kernel
theorem dX6_goes_76 : decode cX6_goes 76 = .ok (.iload 5, 2) := by decide +kernel
theorem dX6_goes_78 : decode cX6_goes 78 = .ok (.iload 4, 2) := by decide +kernel
theorem dX6_goes_80 : decode cX6_goes 80 = .ok (.if_icmp .ge 119, 3) := by decide +kernel
theorem dX6_goes_83 : decode cX6_goes 83 = .ok (.aload_n 0, 1) := by decide +kernel
theorem dX6_goes_84 : decode cX6_goes 84 = .ok (.getfield 65, 3) := by decide +kernel
theorem dX6_goes_87 : decode cX6_goes 87 = .ok (.bipush 8, 2) := by decide +kernel
theorem dX6_goes_89 : decode cX6_goes 89 = .ok (.iload_n 1, 1) := by decide +kernel
theorem dX6_goes_90 : decode cX6_goes 90 = .ok (.imul, 1) := by decide +kernel
theorem dX6_goes_91 : decode cX6_goes 91 = .ok (.iload 5, 2) := by decide +kernel
theorem dX6_goes_93 : decode cX6_goes 93 = .ok (.iadd, 1) := by decide +kernel
theorem dX6_goes_94 : decode cX6_goes 94 = .ok (.baload, 1) := by decide +kernel
theorem dX6_goes_95 : decode cX6_goes 95 = .ok (.ifCond .eq 98, 3) := by decide +kernel
theorem dX6_goes_98 : decode cX6_goes 98 = .ok (.aload_n 0, 1) := by decide +kernel
theorem dX6_goes_99 : decode cX6_goes 99 = .ok (.getfield 71, 3) := by decide +kernel
theorem dX6_goes_102 : decode cX6_goes 102 = .ok (.iload 4, 2) := by decide +kernel
theorem dX6_goes_104 : decode cX6_goes 104 = .ok (.iaload, 1) := by decide +kernel
theorem dX6_goes_105 : decode cX6_goes 105 = .ok (.aload_n 0, 1) := by decide +kernel
theorem dX6_goes_106 : decode cX6_goes 106 = .ok (.getfield 71, 3) := by decide +kernel
theorem dX6_goes_109 : decode cX6_goes 109 = .ok (.iload 5, 2) := by decide +kernel
theorem dX6_goes_111 : decode cX6_goes 111 = .ok (.iaload, 1) := by decide +kernel
theorem dX6_goes_112 : decode cX6_goes 112 = .ok (.invokestatic 159, 3) := by decide +kernel
theorem dX6_goes_115 : decode cX6_goes 115 = .ok (.ifCond .eq 78, 3) := by decide +kernel
theorem dX6_goes_118 : decode cX6_goes 118 = .ok (.aload_n 0, 1) := by decide +kernel
theorem dX6_goes_119 : decode cX6_goes 119 = .ok (.getfield 74, 3) := by decide +kernel
theorem dX6_goes_122 : decode cX6_goes 122 = .ok (.iload 4, 2) := by decide +kernel
theorem dX6_goes_124 : decode cX6_goes 124 = .ok (.iaload, 1) := by decide +kernel
theorem dX6_goes_125 : decode cX6_goes 125 = .ok (.aload_n 0, 1) := by decide +kernel
theorem dX6_goes_126 : decode cX6_goes 126 = .ok (.getfield 74, 3) := by decide +kernel
theorem dX6_goes_129 : decode cX6_goes 129 = .ok (.iload 5, 2) := by decide +kernel
theorem dX6_goes_131 : decode cX6_goes 131 = .ok (.iaload, 1) := by decide +kernel
theorem dX6_goes_132 : decode cX6_goes 132 = .ok (.invokestatic 159, 3) := by decide +kernel
theorem dX6_goes_135 : decode cX6_goes 135 = .ok (.ifCond .eq 58, 3) := by decide +kernel
theorem dX6_goes_138 : decode cX6_goes 138 = .ok (.aload_n 0, 1) := by decide +kernel
theorem dX6_goes_139 : decode cX6_goes 139 = .ok (.getfield 71, 3) := by decide +kernel
theorem dX6_goes_142 : decode cX6_goes 142 = .ok (.iload 4, 2) := by decide +kernel
theorem dX6_goes_144 : decode cX6_goes 144 = .ok (.aload_n 0, 1) := by decide +kernel
theorem dX6_goes_145 : decode cX6_goes 145 = .ok (.getfield 71, 3) := by decide +kernel
theorem dX6_goes_148 : decode cX6_goes 148 = .ok (.iload 4, 2) := by decide +kernel
theorem dX6_goes_150 : decode cX6_goes 150 = .ok (.iaload, 1) := by decide +kernel
theorem dX6_goes_151 : decode cX6_goes 151 = .ok (.aload_n 0, 1) := by decide +kernel
theorem dX6_goes_152 : decode cX6_goes 152 = .ok (.getfield 71, 3) := by decide +kernel
theorem dX6_goes_155 : decode cX6_goes 155 = .ok (.iload 5, 2) := by decide +kernel
theorem dX6_goes_157 : decode cX6_goes 157 = .ok (.iaload, 1) := by decide +kernel
theorem dX6_goes_158 : decode cX6_goes 158 = .ok (.if_icmp .ge 16, 3) := by decide +kernel
theorem dX6_goes_161 : decode cX6_goes 161 = .ok (.aload_n 0, 1) := by decide +kernel
theorem dX6_goes_162 : decode cX6_goes 162 = .ok (.getfield 71, 3) := by decide +kernel
theorem dX6_goes_165 : decode cX6_goes 165 = .ok (.iload 5, 2) := by decide +kernel
theorem dX6_goes_167 : decode cX6_goes 167 = .ok (.iaload, 1) := by decide +kernel
theorem dX6_goes_168 : decode cX6_goes 168 = .ok (.bipush 10, 2) := by decide +kernel
theorem dX6_goes_170 : decode cX6_goes 170 = .ok (.isub, 1) := by decide +kernel
theorem dX6_goes_171 : decode cX6_goes 171 = .ok (.goto 13, 3) := by decide +kernel
theorem dX6_goes_174 : decode cX6_goes 174 = .ok (.aload_n 0, 1) := by decide +kernel
theorem dX6_goes_175 : decode cX6_goes 175 = .ok (.getfield 71, 3) := by decide +kernel
theorem dX6_goes_178 : decode cX6_goes 178 = .ok (.iload 5, 2) := by decide +kernel
theorem dX6_goes_180 : decode cX6_goes 180 = .ok (.iaload, 1) := by decide +kernel
theorem dX6_goes_181 : decode cX6_goes 181 = .ok (.bipush 10, 2) := by decide +kernel
theorem dX6_goes_183 : decode cX6_goes 183 = .ok (.iadd, 1) := by decide +kernel
theorem dX6_goes_184 : decode cX6_goes 184 = .ok (.iastore, 1) := by decide +kernel
theorem dX6_goes_185 : decode cX6_goes 185 = .ok (.aload_n 0, 1) := by decide +kernel
theorem dX6_goes_186 : decode cX6_goes 186 = .ok (.getfield 77, 3) := by decide +kernel
theorem dX6_goes_189 : decode cX6_goes 189 = .ok (.iload 4, 2) := by decide +kernel
theorem dX6_goes_191 : decode cX6_goes 191 = .ok (.iconst 1, 1) := by decide +kernel
theorem dX6_goes_192 : decode cX6_goes 192 = .ok (.bastore, 1) := by decide +kernel
theorem dX6_goes_193 : decode cX6_goes 193 = .ok (.iinc 5 1, 3) := by decide +kernel
theorem dX6_goes_196 : decode cX6_goes 196 = .ok (.goto (-120), 3) := by decide +kernel
theorem dX6_goes_199 : decode cX6_goes 199 = .ok (.aload_n 0, 1) := by decide +kernel
theorem dX6_goes_200 : decode cX6_goes 200 = .ok (.getfield 77, 3) := by decide +kernel
theorem dX6_goes_203 : decode cX6_goes 203 = .ok (.iload 4, 2) := by decide +kernel
theorem dX6_goes_205 : decode cX6_goes 205 = .ok (.baload, 1) := by decide +kernel
theorem dX6_goes_206 : decode cX6_goes 206 = .ok (.ifCond .eq 9, 3) := by decide +kernel
theorem dX6_goes_209 : decode cX6_goes 209 = .ok (.aload_n 0, 1) := by decide +kernel
theorem dX6_goes_210 : decode cX6_goes 210 = .ok (.iload 4, 2) := by decide +kernel
theorem dX6_goes_212 : decode cX6_goes 212 = .ok (.invokevirtual 155, 3) := by decide +kernel
theorem dX6_goes_215 : decode cX6_goes 215 = .ok (.iinc 4 1, 3) := by decide +kernel
theorem dX6_goes_218 : decode cX6_goes 218 = .ok (.goto (-215), 3) := by decide +kernel
theorem dX6_goes_221 : decode cX6_goes 221 = .ok (.return_, 1) := by decide +kernel
theorem dX6_ownFrame_0 : decode cX6_ownFrame 0 = .ok (.aload_n 0, 1) := by decide +kernel
theorem dX6_ownFrame_1 : decode cX6_ownFrame 1 = .ok (.getfield 19, 3) := by decide +kernel
theorem dX6_ownFrame_4 : decode cX6_ownFrame 4 = .ok (.iload_n 1, 1) := by decide +kernel
theorem dX6_ownFrame_5 : decode cX6_ownFrame 5 = .ok (.iaload, 1) := by decide +kernel
theorem dX6_ownFrame_6 : decode cX6_ownFrame 6 = .ok (.iconst (-1), 1) := by decide +kernel
theorem dX6_ownFrame_7 : decode cX6_ownFrame 7 = .ok (.if_icmp .ne 5, 3) := by decide +kernel
theorem dX6_ownFrame_10 : decode cX6_ownFrame 10 = .ok (.iload_n 2, 1) := by decide +kernel
theorem dX6_ownFrame_11 : decode cX6_ownFrame 11 = .ok (.ireturn, 1) := by decide +kernel
theorem dX6_ownFrame_12 : decode cX6_ownFrame 12 = .ok (.aload_n 0, 1) := by decide +kernel
theorem dX6_ownFrame_13 : decode cX6_ownFrame 13 = .ok (.getfield 46, 3) := by decide +kernel
theorem dX6_ownFrame_16 : decode cX6_ownFrame 16 = .ok (.aload_n 0, 1) := by decide +kernel
theorem dX6_ownFrame_17 : decode cX6_ownFrame 17 = .ok (.getfield 19, 3) := by decide +kernel
theorem dX6_ownFrame_20 : decode cX6_ownFrame 20 = .ok (.iload_n 1, 1) := by decide +kernel
theorem dX6_ownFrame_21 : decode cX6_ownFrame 21 = .ok (.iaload, 1) := by decide +kernel
theorem dX6_ownFrame_22 : decode cX6_ownFrame 22 = .ok (.iaload, 1) := by decide +kernel
theorem dX6_ownFrame_23 : decode cX6_ownFrame 23 = .ok (.istore_n 3, 1) := by decide +kernel
theorem dX6_ownFrame_24 : decode cX6_ownFrame 24 = .ok (.iload_n 3, 1) := by decide +kernel
theorem dX6_ownFrame_25 : decode cX6_ownFrame 25 = .ok (.iconst (-1), 1) := by decide +kernel
theorem dX6_ownFrame_26 : decode cX6_ownFrame 26 = .ok (.if_icmp .eq 8, 3) := by decide +kernel
theorem dX6_ownFrame_29 : decode cX6_ownFrame 29 = .ok (.iload_n 2, 1) := by decide +kernel
theorem dX6_ownFrame_30 : decode cX6_ownFrame 30 = .ok (.iload_n 3, 1) := by decide +kernel
theorem dX6_ownFrame_31 : decode cX6_ownFrame 31 = .ok (.if_icmp .ge 7, 3) := by decide +kernel
theorem dX6_ownFrame_34 : decode cX6_ownFrame 34 = .ok (.iconst 0, 1) := by decide +kernel
theorem dX6_ownFrame_35 : decode cX6_ownFrame 35 = .ok (.goto 6, 3) := by decide +kernel
theorem dX6_ownFrame_38 : decode cX6_ownFrame 38 = .ok (.iload_n 2, 1) := by decide +kernel
theorem dX6_ownFrame_39 : decode cX6_ownFrame 39 = .ok (.iload_n 3, 1) := by decide +kernel
theorem dX6_ownFrame_40 : decode cX6_ownFrame 40 = .ok (.isub, 1) := by decide +kernel
theorem dX6_ownFrame_41 : decode cX6_ownFrame 41 = .ok (.ireturn, 1) := by decide +kernel
theorem dX6_pulls_0 : decode cX6_pulls 0 = .ok (.aload_n 0, 1) := by decide +kernel
theorem dX6_pulls_1 : decode cX6_pulls 1 = .ok (.getfield 13, 3) := by decide +kernel
theorem dX6_pulls_4 : decode cX6_pulls 4 = .ok (.iload_n 1, 1) := by decide +kernel
theorem dX6_pulls_5 : decode cX6_pulls 5 = .ok (.iaload, 1) := by decide +kernel
theorem dX6_pulls_6 : decode cX6_pulls 6 = .ok (.aload_n 0, 1) := by decide +kernel
theorem dX6_pulls_7 : decode cX6_pulls 7 = .ok (.getfield 13, 3) := by decide +kernel
theorem dX6_pulls_10 : decode cX6_pulls 10 = .ok (.iload_n 1, 1) := by decide +kernel
theorem dX6_pulls_11 : decode cX6_pulls 11 = .ok (.iaload, 1) := by decide +kernel
theorem dX6_pulls_12 : decode cX6_pulls 12 = .ok (.imul, 1) := by decide +kernel
theorem dX6_pulls_13 : decode cX6_pulls 13 = .ok (.istore_n 2, 1) := by decide +kernel
theorem dX6_pulls_14 : decode cX6_pulls 14 = .ok (.aload_n 0, 1) := by decide +kernel
theorem dX6_pulls_15 : decode cX6_pulls 15 = .ok (.getfield 71, 3) := by decide +kernel
theorem dX6_pulls_18 : decode cX6_pulls 18 = .ok (.iload_n 1, 1) := by decide +kernel
theorem dX6_pulls_19 : decode cX6_pulls 19 = .ok (.iaload, 1) := by decide +kernel
theorem dX6_pulls_20 : decode cX6_pulls 20 = .ok (.aload_n 0, 1) := by decide +kernel
theorem dX6_pulls_21 : decode cX6_pulls 21 = .ok (.getfield 7, 3) := by decide +kernel
theorem dX6_pulls_24 : decode cX6_pulls 24 = .ok (.iload_n 1, 1) := by decide +kernel
theorem dX6_pulls_25 : decode cX6_pulls 25 = .ok (.iaload, 1) := by decide +kernel
theorem dX6_pulls_26 : decode cX6_pulls 26 = .ok (.isub, 1) := by decide +kernel
theorem dX6_pulls_27 : decode cX6_pulls 27 = .ok (.aload_n 0, 1) := by decide +kernel
theorem dX6_pulls_28 : decode cX6_pulls 28 = .ok (.getfield 74, 3) := by decide +kernel
theorem dX6_pulls_31 : decode cX6_pulls 31 = .ok (.iload_n 1, 1) := by decide +kernel
theorem dX6_pulls_32 : decode cX6_pulls 32 = .ok (.iaload, 1) := by decide +kernel
theorem dX6_pulls_33 : decode cX6_pulls 33 = .ok (.invokestatic 149, 3) := by decide +kernel
theorem dX6_pulls_36 : decode cX6_pulls 36 = .ok (.iload_n 2, 1) := by decide +kernel
theorem dX6_pulls_37 : decode cX6_pulls 37 = .ok (.if_icmp .gt 4, 3) := by decide +kernel
theorem dX6_pulls_40 : decode cX6_pulls 40 = .ok (.return_, 1) := by decide +kernel
theorem dX6_pulls_41 : decode cX6_pulls 41 = .ok (.aload_n 0, 1) := by decide +kernel
theorem dX6_pulls_42 : decode cX6_pulls 42 = .ok (.getfield 71, 3) := by decide +kernel
theorem dX6_pulls_45 : decode cX6_pulls 45 = .ok (.iload_n 1, 1) := by decide +kernel
theorem dX6_pulls_46 : decode cX6_pulls 46 = .ok (.aload_n 0, 1) := by decide +kernel
theorem dX6_pulls_47 : decode cX6_pulls 47 = .ok (.getfield 71, 3) := by decide +kernel
theorem dX6_pulls_50 : decode cX6_pulls 50 = .ok (.iload_n 1, 1) := by decide +kernel
theorem dX6_pulls_51 : decode cX6_pulls 51 = .ok (.iaload, 1) := by decide +kernel
theorem dX6_pulls_52 : decode cX6_pulls 52 = .ok (.aload_n 0, 1) := by decide +kernel
theorem dX6_pulls_53 : decode cX6_pulls 53 = .ok (.getfield 7, 3) := by decide +kernel
theorem dX6_pulls_56 : decode cX6_pulls 56 = .ok (.iload_n 1, 1) := by decide +kernel
theorem dX6_pulls_57 : decode cX6_pulls 57 = .ok (.iaload, 1) := by decide +kernel
theorem dX6_pulls_58 : decode cX6_pulls 58 = .ok (.aload_n 0, 1) := by decide +kernel
theorem dX6_pulls_59 : decode cX6_pulls 59 = .ok (.getfield 13, 3) := by decide +kernel
theorem dX6_pulls_62 : decode cX6_pulls 62 = .ok (.iload_n 1, 1) := by decide +kernel
theorem dX6_pulls_63 : decode cX6_pulls 63 = .ok (.iaload, 1) := by decide +kernel
theorem dX6_pulls_64 : decode cX6_pulls 64 = .ok (.iadd, 1) := by decide +kernel
theorem dX6_pulls_65 : decode cX6_pulls 65 = .ok (.if_icmp .le 19, 3) := by decide +kernel
theorem dX6_pulls_68 : decode cX6_pulls 68 = .ok (.aload_n 0, 1) := by decide +kernel
theorem dX6_pulls_69 : decode cX6_pulls 69 = .ok (.getfield 7, 3) := by decide +kernel
theorem dX6_pulls_72 : decode cX6_pulls 72 = .ok (.iload_n 1, 1) := by decide +kernel
theorem dX6_pulls_73 : decode cX6_pulls 73 = .ok (.iaload, 1) := by decide +kernel
theorem dX6_pulls_74 : decode cX6_pulls 74 = .ok (.aload_n 0, 1) := by decide +kernel
theorem dX6_pulls_75 : decode cX6_pulls 75 = .ok (.getfield 13, 3) := by decide +kernel
theorem dX6_pulls_78 : decode cX6_pulls 78 = .ok (.iload_n 1, 1) := by decide +kernel
theorem dX6_pulls_79 : decode cX6_pulls 79 = .ok (.iaload, 1) := by decide +kernel
theorem dX6_pulls_80 : decode cX6_pulls 80 = .ok (.iadd, 1) := by decide +kernel
theorem dX6_pulls_81 : decode cX6_pulls 81 = .ok (.goto 47, 3) := by decide +kernel
theorem dX6_pulls_84 : decode cX6_pulls 84 = .ok (.aload_n 0, 1) := by decide +kernel
theorem dX6_pulls_85 : decode cX6_pulls 85 = .ok (.getfield 71, 3) := by decide +kernel
theorem dX6_pulls_88 : decode cX6_pulls 88 = .ok (.iload_n 1, 1) := by decide +kernel
theorem dX6_pulls_89 : decode cX6_pulls 89 = .ok (.iaload, 1) := by decide +kernel
theorem dX6_pulls_90 : decode cX6_pulls 90 = .ok (.aload_n 0, 1) := by decide +kernel
theorem dX6_pulls_91 : decode cX6_pulls 91 = .ok (.getfield 7, 3) := by decide +kernel
theorem dX6_pulls_94 : decode cX6_pulls 94 = .ok (.iload_n 1, 1) := by decide +kernel
theorem dX6_pulls_95 : decode cX6_pulls 95 = .ok (.iaload, 1) := by decide +kernel
theorem dX6_pulls_96 : decode cX6_pulls 96 = .ok (.aload_n 0, 1) := by decide +kernel
theorem dX6_pulls_97 : decode cX6_pulls 97 = .ok (.getfield 13, 3) := by decide +kernel
theorem dX6_pulls_100 : decode cX6_pulls 100 = .ok (.iload_n 1, 1) := by decide +kernel
theorem dX6_pulls_101 : decode cX6_pulls 101 = .ok (.iaload, 1) := by decide +kernel
theorem dX6_pulls_102 : decode cX6_pulls 102 = .ok (.isub, 1) := by decide +kernel
theorem dX6_pulls_103 : decode cX6_pulls 103 = .ok (.if_icmp .ge 19, 3) := by decide +kernel
theorem dX6_pulls_106 : decode cX6_pulls 106 = .ok (.aload_n 0, 1) := by decide +kernel
theorem dX6_pulls_107 : decode cX6_pulls 107 = .ok (.getfield 7, 3) := by decide +kernel
theorem dX6_pulls_110 : decode cX6_pulls 110 = .ok (.iload_n 1, 1) := by decide +kernel
theorem dX6_pulls_111 : decode cX6_pulls 111 = .ok (.iaload, 1) := by decide +kernel
theorem dX6_pulls_112 : decode cX6_pulls 112 = .ok (.aload_n 0, 1) := by decide +kernel
theorem dX6_pulls_113 : decode cX6_pulls 113 = .ok (.getfield 13, 3) := by decide +kernel
theorem dX6_pulls_116 : decode cX6_pulls 116 = .ok (.iload_n 1, 1) := by decide +kernel
theorem dX6_pulls_117 : decode cX6_pulls 117 = .ok (.iaload, 1) := by decide +kernel
theorem dX6_pulls_118 : decode cX6_pulls 118 = .ok (.isub, 1) := by decide +kernel
theorem dX6_pulls_119 : decode cX6_pulls 119 = .ok (.goto 9, 3) := by decide +kernel
theorem dX6_pulls_122 : decode cX6_pulls 122 = .ok (.aload_n 0, 1) := by decide +kernel
theorem dX6_pulls_123 : decode cX6_pulls 123 = .ok (.getfield 71, 3) := by decide +kernel
theorem dX6_pulls_126 : decode cX6_pulls 126 = .ok (.iload_n 1, 1) := by decide +kernel
theorem dX6_pulls_127 : decode cX6_pulls 127 = .ok (.iaload, 1) := by decide +kernel
theorem dX6_pulls_128 : decode cX6_pulls 128 = .ok (.iastore, 1) := by decide +kernel
theorem dX6_pulls_129 : decode cX6_pulls 129 = .ok (.iconst 0, 1) := by decide +kernel
theorem dX6_pulls_130 : decode cX6_pulls 130 = .ok (.istore_n 3, 1) := by decide +kernel
theorem dX6_pulls_131 : decode cX6_pulls 131 = .ok (.aload_n 0, 1) := by decide +kernel
theorem dX6_pulls_132 : decode cX6_pulls 132 = .ok (.getfield 13, 3) := by decide +kernel
theorem dX6_pulls_135 : decode cX6_pulls 135 = .ok (.iload_n 1, 1) := by decide +kernel
theorem dX6_pulls_136 : decode cX6_pulls 136 = .ok (.iaload, 1) := by decide +kernel
theorem dX6_pulls_137 : decode cX6_pulls 137 = .ok (.istore 4, 2) := by decide +kernel
theorem dX6_pulls_139 : decode cX6_pulls 139 = .ok (.iload_n 3, 1) := by decide +kernel
theorem dX6_pulls_140 : decode cX6_pulls 140 = .ok (.iload 4, 2) := by decide +kernel
theorem dX6_pulls_142 : decode cX6_pulls 142 = .ok (.if_icmp .ge 73, 3) := by decide +kernel
theorem dX6_pulls_145 : decode cX6_pulls 145 = .ok (.iload_n 3, 1) := by decide +kernel
theorem dX6_pulls_146 : decode cX6_pulls 146 = .ok (.iload 4, 2) := by decide +kernel
theorem dX6_pulls_148 : decode cX6_pulls 148 = .ok (.iadd, 1) := by decide +kernel
theorem dX6_pulls_149 : decode cX6_pulls 149 = .ok (.iconst 1, 1) := by decide +kernel
theorem dX6_pulls_150 : decode cX6_pulls 150 = .ok (.iadd, 1) := by decide +kernel
theorem dX6_pulls_151 : decode cX6_pulls 151 = .ok (.iconst 2, 1) := by decide +kernel
theorem dX6_pulls_152 : decode cX6_pulls 152 = .ok (.idiv, 1) := by decide +kernel
theorem dX6_pulls_153 : decode cX6_pulls 153 = .ok (.istore 5, 2) := by decide +kernel
theorem dX6_pulls_155 : decode cX6_pulls 155 = .ok (.aload_n 0, 1) := by decide +kernel
theorem dX6_pulls_156 : decode cX6_pulls 156 = .ok (.getfield 71, 3) := by decide +kernel
theorem dX6_pulls_159 : decode cX6_pulls 159 = .ok (.iload_n 1, 1) := by decide +kernel
theorem dX6_pulls_160 : decode cX6_pulls 160 = .ok (.iaload, 1) := by decide +kernel
theorem dX6_pulls_161 : decode cX6_pulls 161 = .ok (.aload_n 0, 1) := by decide +kernel
theorem dX6_pulls_162 : decode cX6_pulls 162 = .ok (.getfield 7, 3) := by decide +kernel
theorem dX6_pulls_165 : decode cX6_pulls 165 = .ok (.iload_n 1, 1) := by decide +kernel
theorem dX6_pulls_166 : decode cX6_pulls 166 = .ok (.iaload, 1) := by decide +kernel
theorem dX6_pulls_167 : decode cX6_pulls 167 = .ok (.isub, 1) := by decide +kernel
theorem dX6_pulls_168 : decode cX6_pulls 168 = .ok (.iload 5, 2) := by decide +kernel
theorem dX6_pulls_170 : decode cX6_pulls 170 = .ok (.invokestatic 149, 3) := by decide +kernel
theorem dX6_pulls_173 : decode cX6_pulls 173 = .ok (.iload_n 2, 1) := by decide +kernel
theorem dX6_pulls_174 : decode cX6_pulls 174 = .ok (.if_icmp .gt 7, 3) := by decide +kernel
theorem dX6_pulls_177 : decode cX6_pulls 177 = .ok (.iconst 1, 1) := by decide +kernel
theorem dX6_pulls_178 : decode cX6_pulls 178 = .ok (.goto 4, 3) := by decide +kernel
theorem dX6_pulls_181 : decode cX6_pulls 181 = .ok (.iconst 0, 1) := by decide +kernel
theorem dX6_pulls_182 : decode cX6_pulls 182 = .ok (.istore 6, 2) := by decide +kernel
theorem dX6_pulls_184 : decode cX6_pulls 184 = .ok (.iload 6, 2) := by decide +kernel
theorem dX6_pulls_186 : decode cX6_pulls 186 = .ok (.ifCond .eq 8, 3) := by decide +kernel
theorem dX6_pulls_189 : decode cX6_pulls 189 = .ok (.iload 5, 2) := by decide +kernel
theorem dX6_pulls_191 : decode cX6_pulls 191 = .ok (.goto 4, 3) := by decide +kernel
theorem dX6_pulls_194 : decode cX6_pulls 194 = .ok (.iload_n 3, 1) := by decide +kernel
theorem dX6_pulls_195 : decode cX6_pulls 195 = .ok (.istore_n 3, 1) := by decide +kernel
theorem dX6_pulls_196 : decode cX6_pulls 196 = .ok (.iload 6, 2) := by decide +kernel
theorem dX6_pulls_198 : decode cX6_pulls 198 = .ok (.ifCond .eq 8, 3) := by decide +kernel
theorem dX6_pulls_201 : decode cX6_pulls 201 = .ok (.iload 4, 2) := by decide +kernel
theorem dX6_pulls_203 : decode cX6_pulls 203 = .ok (.goto 7, 3) := by decide +kernel
theorem dX6_pulls_206 : decode cX6_pulls 206 = .ok (.iload 5, 2) := by decide +kernel
theorem dX6_pulls_208 : decode cX6_pulls 208 = .ok (.iconst 1, 1) := by decide +kernel
theorem dX6_pulls_209 : decode cX6_pulls 209 = .ok (.isub, 1) := by decide +kernel
theorem dX6_pulls_210 : decode cX6_pulls 210 = .ok (.istore 4, 2) := by decide +kernel
theorem dX6_pulls_212 : decode cX6_pulls 212 = .ok (.goto (-73), 3) := by decide +kernel
theorem dX6_pulls_215 : decode cX6_pulls 215 = .ok (.aload_n 0, 1) := by decide +kernel
theorem dX6_pulls_216 : decode cX6_pulls 216 = .ok (.getfield 74, 3) := by decide +kernel
theorem dX6_pulls_219 : decode cX6_pulls 219 = .ok (.iload_n 1, 1) := by decide +kernel
theorem dX6_pulls_220 : decode cX6_pulls 220 = .ok (.iload_n 3, 1) := by decide +kernel
theorem dX6_pulls_221 : decode cX6_pulls 221 = .ok (.iastore, 1) := by decide +kernel
theorem dX6_pulls_222 : decode cX6_pulls 222 = .ok (.return_, 1) := by decide +kernel
theorem dX6_far_0 : decode cX6_far 0 = .ok (.iload_n 0, 1) := by decide +kernel
theorem dX6_far_1 : decode cX6_far 1 = .ok (.iload_n 0, 1) := by decide +kernel
theorem dX6_far_2 : decode cX6_far 2 = .ok (.imul, 1) := by decide +kernel
theorem dX6_far_3 : decode cX6_far 3 = .ok (.iload_n 1, 1) := by decide +kernel
theorem dX6_far_4 : decode cX6_far 4 = .ok (.iload_n 1, 1) := by decide +kernel
theorem dX6_far_5 : decode cX6_far 5 = .ok (.imul, 1) := by decide +kernel
theorem dX6_far_6 : decode cX6_far 6 = .ok (.iadd, 1) := by decide +kernel
theorem dX6_far_7 : decode cX6_far 7 = .ok (.ireturn, 1) := by decide +kernel
theorem dX6_areNear_0 : decode cX6_areNear 0 = .ok (.iload_n 0, 1) := by decide +kernel
theorem dX6_areNear_1 : decode cX6_areNear 1 = .ok (.iload_n 1, 1) := by decide +kernel
theorem dX6_areNear_2 : decode cX6_areNear 2 = .ok (.isub, 1) := by decide +kernel
theorem dX6_areNear_3 : decode cX6_areNear 3 = .ok (.bipush 10, 2) := by decide +kernel
theorem dX6_areNear_5 : decode cX6_areNear 5 = .ok (.if_icmp .ge 15, 3) := by decide +kernel
theorem dX6_areNear_8 : decode cX6_areNear 8 = .ok (.iload_n 1, 1) := by decide +kernel
theorem dX6_areNear_9 : decode cX6_areNear 9 = .ok (.iload_n 0, 1) := by decide +kernel
theorem dX6_areNear_10 : decode cX6_areNear 10 = .ok (.isub, 1) := by decide +kernel
theorem dX6_areNear_11 : decode cX6_areNear 11 = .ok (.bipush 10, 2) := by decide +kernel
theorem dX6_areNear_13 : decode cX6_areNear 13 = .ok (.if_icmp .ge 7, 3) := by decide +kernel
theorem dX6_areNear_16 : decode cX6_areNear 16 = .ok (.iconst 1, 1) := by decide +kernel
theorem dX6_areNear_17 : decode cX6_areNear 17 = .ok (.goto 4, 3) := by decide +kernel
theorem dX6_areNear_20 : decode cX6_areNear 20 = .ok (.iconst 0, 1) := by decide +kernel
theorem dX6_areNear_21 : decode cX6_areNear 21 = .ok (.ireturn, 1) := by decide +kernel
theorem dX6_y_0 : decode cX6_y 0 = .ok (.aload_n 0, 1) := by decide +kernel
theorem dX6_y_1 : decode cX6_y 1 = .ok (.iload_n 1, 1) := by decide +kernel
theorem dX6_y_2 : decode cX6_y 2 = .ok (.iload_n 2, 1) := by decide +kernel
theorem dX6_y_3 : decode cX6_y 3 = .ok (.invokevirtual 162, 3) := by decide +kernel
theorem dX6_y_6 : decode cX6_y 6 = .ok (.istore 4, 2) := by decide +kernel
theorem dX6_y_8 : decode cX6_y 8 = .ok (.aload_n 0, 1) := by decide +kernel
theorem dX6_y_9 : decode cX6_y 9 = .ok (.iload 4, 2) := by decide +kernel
theorem dX6_y_11 : decode cX6_y 11 = .ok (.ifCond .ne 7, 3) := by decide +kernel
theorem dX6_y_14 : decode cX6_y 14 = .ok (.iconst 1, 1) := by decide +kernel
theorem dX6_y_15 : decode cX6_y 15 = .ok (.goto 15, 3) := by decide +kernel
theorem dX6_y_18 : decode cX6_y 18 = .ok (.iload_n 3, 1) := by decide +kernel
theorem dX6_y_19 : decode cX6_y 19 = .ok (.invokestatic 140, 3) := by decide +kernel
theorem dX6_y_22 : decode cX6_y 22 = .ok (.ifCond .ne 7, 3) := by decide +kernel
theorem dX6_y_25 : decode cX6_y 25 = .ok (.iconst 2, 1) := by decide +kernel
theorem dX6_y_26 : decode cX6_y 26 = .ok (.goto 4, 3) := by decide +kernel
theorem dX6_y_29 : decode cX6_y 29 = .ok (.iconst 0, 1) := by decide +kernel
theorem dX6_y_30 : decode cX6_y 30 = .ok (.invokevirtual 94, 3) := by decide +kernel
theorem dX6_y_33 : decode cX6_y 33 = .ok (.ifCond .ne 5, 3) := by decide +kernel
theorem dX6_y_36 : decode cX6_y 36 = .ok (.iconst 0, 1) := by decide +kernel
theorem dX6_y_37 : decode cX6_y 37 = .ok (.ireturn, 1) := by decide +kernel
theorem dX6_y_38 : decode cX6_y 38 = .ok (.aload_n 0, 1) := by decide +kernel
theorem dX6_y_39 : decode cX6_y 39 = .ok (.iload_n 1, 1) := by decide +kernel
theorem dX6_y_40 : decode cX6_y 40 = .ok (.iload_n 2, 1) := by decide +kernel
theorem dX6_y_41 : decode cX6_y 41 = .ok (.iload_n 3, 1) := by decide +kernel
theorem dX6_y_42 : decode cX6_y 42 = .ok (.invokevirtual 165, 3) := by decide +kernel
theorem dX6_y_45 : decode cX6_y 45 = .ok (.aload_n 0, 1) := by decide +kernel
theorem dX6_y_46 : decode cX6_y 46 = .ok (.getfield 74, 3) := by decide +kernel
theorem dX6_y_49 : decode cX6_y 49 = .ok (.iload_n 2, 1) := by decide +kernel
theorem dX6_y_50 : decode cX6_y 50 = .ok (.iaload, 1) := by decide +kernel
theorem dX6_y_51 : decode cX6_y 51 = .ok (.ireturn, 1) := by decide +kernel
theorem dX6_bent_0 : decode cX6_bent 0 = .ok (.aload_n 0, 1) := by decide +kernel
theorem dX6_bent_1 : decode cX6_bent 1 = .ok (.iload_n 1, 1) := by decide +kernel
theorem dX6_bent_2 : decode cX6_bent 2 = .ok (.iload_n 2, 1) := by decide +kernel
theorem dX6_bent_3 : decode cX6_bent 3 = .ok (.invokevirtual 162, 3) := by decide +kernel
theorem dX6_bent_6 : decode cX6_bent 6 = .ok (.istore 5, 2) := by decide +kernel
theorem dX6_bent_8 : decode cX6_bent 8 = .ok (.aload_n 0, 1) := by decide +kernel
theorem dX6_bent_9 : decode cX6_bent 9 = .ok (.iload 5, 2) := by decide +kernel
theorem dX6_bent_11 : decode cX6_bent 11 = .ok (.ifCond .ne 7, 3) := by decide +kernel
theorem dX6_bent_14 : decode cX6_bent 14 = .ok (.iconst 1, 1) := by decide +kernel
theorem dX6_bent_15 : decode cX6_bent 15 = .ok (.goto 23, 3) := by decide +kernel
theorem dX6_bent_18 : decode cX6_bent 18 = .ok (.iload_n 3, 1) := by decide +kernel
theorem dX6_bent_19 : decode cX6_bent 19 = .ok (.invokestatic 140, 3) := by decide +kernel
theorem dX6_bent_22 : decode cX6_bent 22 = .ok (.ifCond .eq 11, 3) := by decide +kernel
theorem dX6_bent_25 : decode cX6_bent 25 = .ok (.iload 4, 2) := by decide +kernel
theorem dX6_bent_27 : decode cX6_bent 27 = .ok (.invokestatic 140, 3) := by decide +kernel
theorem dX6_bent_30 : decode cX6_bent 30 = .ok (.ifCond .ne 7, 3) := by decide +kernel
theorem dX6_bent_33 : decode cX6_bent 33 = .ok (.iconst 2, 1) := by decide +kernel
theorem dX6_bent_34 : decode cX6_bent 34 = .ok (.goto 4, 3) := by decide +kernel
theorem dX6_bent_37 : decode cX6_bent 37 = .ok (.iconst 0, 1) := by decide +kernel
theorem dX6_bent_38 : decode cX6_bent 38 = .ok (.invokevirtual 94, 3) := by decide +kernel
theorem dX6_bent_41 : decode cX6_bent 41 = .ok (.ifCond .ne 5, 3) := by decide +kernel
theorem dX6_bent_44 : decode cX6_bent 44 = .ok (.iconst 0, 1) := by decide +kernel
theorem dX6_bent_45 : decode cX6_bent 45 = .ok (.ireturn, 1) := by decide +kernel
theorem dX6_bent_46 : decode cX6_bent 46 = .ok (.iconst 0, 1) := by decide +kernel
theorem dX6_bent_47 : decode cX6_bent 47 = .ok (.istore 6, 2) := by decide +kernel
theorem dX6_bent_49 : decode cX6_bent 49 = .ok (.iload_n 3, 1) := by decide +kernel
theorem dX6_bent_50 : decode cX6_bent 50 = .ok (.istore 7, 2) := by decide +kernel
theorem dX6_bent_52 : decode cX6_bent 52 = .ok (.iload 7, 2) := by decide +kernel
theorem dX6_bent_54 : decode cX6_bent 54 = .ok (.iload 4, 2) := by decide +kernel
theorem dX6_bent_56 : decode cX6_bent 56 = .ok (.if_icmp .gt 36, 3) := by decide +kernel
theorem dX6_bent_59 : decode cX6_bent 59 = .ok (.aload_n 0, 1) := by decide +kernel
theorem dX6_bent_60 : decode cX6_bent 60 = .ok (.iload_n 1, 1) := by decide +kernel
theorem dX6_bent_61 : decode cX6_bent 61 = .ok (.iload_n 2, 1) := by decide +kernel
theorem dX6_bent_62 : decode cX6_bent 62 = .ok (.iload 7, 2) := by decide +kernel
theorem dX6_bent_64 : decode cX6_bent 64 = .ok (.invokevirtual 165, 3) := by decide +kernel
theorem dX6_bent_67 : decode cX6_bent 67 = .ok (.iload 6, 2) := by decide +kernel
theorem dX6_bent_69 : decode cX6_bent 69 = .ok (.aload_n 0, 1) := by decide +kernel
theorem dX6_bent_70 : decode cX6_bent 70 = .ok (.getfield 77, 3) := by decide +kernel
theorem dX6_bent_73 : decode cX6_bent 73 = .ok (.iload_n 2, 1) := by decide +kernel
theorem dX6_bent_74 : decode cX6_bent 74 = .ok (.baload, 1) := by decide +kernel
theorem dX6_bent_75 : decode cX6_bent 75 = .ok (.ifCond .eq 7, 3) := by decide +kernel
theorem dX6_bent_78 : decode cX6_bent 78 = .ok (.iconst 1, 1) := by decide +kernel
theorem dX6_bent_79 : decode cX6_bent 79 = .ok (.goto 4, 3) := by decide +kernel
theorem dX6_bent_82 : decode cX6_bent 82 = .ok (.iconst 0, 1) := by decide +kernel
theorem dX6_bent_83 : decode cX6_bent 83 = .ok (.iadd, 1) := by decide +kernel
theorem dX6_bent_84 : decode cX6_bent 84 = .ok (.istore 6, 2) := by decide +kernel
theorem dX6_bent_86 : decode cX6_bent 86 = .ok (.iinc 7 1, 3) := by decide +kernel
theorem dX6_bent_89 : decode cX6_bent 89 = .ok (.goto (-37), 3) := by decide +kernel
theorem dX6_bent_92 : decode cX6_bent 92 = .ok (.iload 6, 2) := by decide +kernel
theorem dX6_bent_94 : decode cX6_bent 94 = .ok (.ireturn, 1) := by decide +kernel
theorem dX6_least_0 : decode cX6_least 0 = .ok (.aload_n 0, 1) := by decide +kernel
theorem dX6_least_1 : decode cX6_least 1 = .ok (.aload_n 0, 1) := by decide +kernel
theorem dX6_least_2 : decode cX6_least 2 = .ok (.iload_n 1, 1) := by decide +kernel
theorem dX6_least_3 : decode cX6_least 3 = .ok (.invokevirtual 98, 3) := by decide +kernel
theorem dX6_least_6 : decode cX6_least 6 = .ok (.ifCond .eq 7, 3) := by decide +kernel
theorem dX6_least_9 : decode cX6_least 9 = .ok (.iconst 0, 1) := by decide +kernel
theorem dX6_least_10 : decode cX6_least 10 = .ok (.goto 4, 3) := by decide +kernel
theorem dX6_least_13 : decode cX6_least 13 = .ok (.iconst 1, 1) := by decide +kernel
theorem dX6_least_14 : decode cX6_least 14 = .ok (.invokevirtual 94, 3) := by decide +kernel
theorem dX6_least_17 : decode cX6_least 17 = .ok (.ifCond .ne 5, 3) := by decide +kernel
theorem dX6_least_20 : decode cX6_least 20 = .ok (.iconst 0, 1) := by decide +kernel
theorem dX6_least_21 : decode cX6_least 21 = .ok (.ireturn, 1) := by decide +kernel
theorem dX6_least_22 : decode cX6_least 22 = .ok (.iconst 0, 1) := by decide +kernel
theorem dX6_least_23 : decode cX6_least 23 = .ok (.istore_n 2, 1) := by decide +kernel
theorem dX6_least_24 : decode cX6_least 24 = .ok (.iconst 0, 1) := by decide +kernel
theorem dX6_least_25 : decode cX6_least 25 = .ok (.istore_n 3, 1) := by decide +kernel
theorem dX6_least_26 : decode cX6_least 26 = .ok (.iload_n 3, 1) := by decide +kernel
theorem dX6_least_27 : decode cX6_least 27 = .ok (.sipush 1000, 3) := by decide +kernel
theorem dX6_least_30 : decode cX6_least 30 = .ok (.if_icmp .ge 48, 3) := by decide +kernel
theorem dX6_least_33 : decode cX6_least 33 = .ok (.aload_n 0, 1) := by decide +kernel
theorem dX6_least_34 : decode cX6_least 34 = .ok (.iload_n 1, 1) := by decide +kernel
theorem dX6_least_35 : decode cX6_least 35 = .ok (.iload_n 3, 1) := by decide +kernel
theorem dX6_least_36 : decode cX6_least 36 = .ok (.invokevirtual 143, 3) := by decide +kernel
theorem dX6_least_39 : decode cX6_least 39 = .ok (.aload_n 0, 1) := by decide +kernel
theorem dX6_least_40 : decode cX6_least 40 = .ok (.getfield 134, 3) := by decide +kernel
theorem dX6_least_43 : decode cX6_least 43 = .ok (.aload_n 0, 1) := by decide +kernel
theorem dX6_least_44 : decode cX6_least 44 = .ok (.getfield 7, 3) := by decide +kernel
theorem dX6_least_47 : decode cX6_least 47 = .ok (.iload_n 1, 1) := by decide +kernel
theorem dX6_least_48 : decode cX6_least 48 = .ok (.iaload, 1) := by decide +kernel
theorem dX6_least_49 : decode cX6_least 49 = .ok (.isub, 1) := by decide +kernel
theorem dX6_least_50 : decode cX6_least 50 = .ok (.aload_n 0, 1) := by decide +kernel
theorem dX6_least_51 : decode cX6_least 51 = .ok (.getfield 137, 3) := by decide +kernel
theorem dX6_least_54 : decode cX6_least 54 = .ok (.invokestatic 149, 3) := by decide +kernel
theorem dX6_least_57 : decode cX6_least 57 = .ok (.istore 4, 2) := by decide +kernel
theorem dX6_least_59 : decode cX6_least 59 = .ok (.iload 4, 2) := by decide +kernel
theorem dX6_least_61 : decode cX6_least 61 = .ok (.iload_n 2, 1) := by decide +kernel
theorem dX6_least_62 : decode cX6_least 62 = .ok (.if_icmp .le 8, 3) := by decide +kernel
theorem dX6_least_65 : decode cX6_least 65 = .ok (.iload 4, 2) := by decide +kernel
theorem dX6_least_67 : decode cX6_least 67 = .ok (.goto 4, 3) := by decide +kernel
theorem dX6_least_70 : decode cX6_least 70 = .ok (.iload_n 2, 1) := by decide +kernel
theorem dX6_least_71 : decode cX6_least 71 = .ok (.istore_n 2, 1) := by decide +kernel
theorem dX6_least_72 : decode cX6_least 72 = .ok (.iinc 3 1, 3) := by decide +kernel
theorem dX6_least_75 : decode cX6_least 75 = .ok (.goto (-49), 3) := by decide +kernel
theorem dX6_least_78 : decode cX6_least 78 = .ok (.iconst 0, 1) := by decide +kernel
theorem dX6_least_79 : decode cX6_least 79 = .ok (.istore_n 3, 1) := by decide +kernel
theorem dX6_least_80 : decode cX6_least 80 = .ok (.iload_n 3, 1) := by decide +kernel
theorem dX6_least_81 : decode cX6_least 81 = .ok (.iload_n 3, 1) := by decide +kernel
theorem dX6_least_82 : decode cX6_least 82 = .ok (.imul, 1) := by decide +kernel
theorem dX6_least_83 : decode cX6_least 83 = .ok (.iload_n 2, 1) := by decide +kernel
theorem dX6_least_84 : decode cX6_least 84 = .ok (.if_icmp .ge 9, 3) := by decide +kernel
theorem dX6_least_87 : decode cX6_least 87 = .ok (.iinc 3 1, 3) := by decide +kernel
theorem dX6_least_90 : decode cX6_least 90 = .ok (.goto (-10), 3) := by decide +kernel
theorem dX6_least_93 : decode cX6_least 93 = .ok (.iload_n 3, 1) := by decide +kernel
theorem dX6_least_94 : decode cX6_least 94 = .ok (.ireturn, 1) := by decide +kernel
theorem dX6_isBusy_0 : decode cX6_isBusy 0 = .ok (.aload_n 0, 1) := by decide +kernel
theorem dX6_isBusy_1 : decode cX6_isBusy 1 = .ok (.iload_n 1, 1) := by decide +kernel
theorem dX6_isBusy_2 : decode cX6_isBusy 2 = .ok (.invokevirtual 98, 3) := by decide +kernel
theorem dX6_isBusy_5 : decode cX6_isBusy 5 = .ok (.istore_n 3, 1) := by decide +kernel
theorem dX6_isBusy_6 : decode cX6_isBusy 6 = .ok (.aload_n 0, 1) := by decide +kernel
theorem dX6_isBusy_7 : decode cX6_isBusy 7 = .ok (.iload_n 3, 1) := by decide +kernel
theorem dX6_isBusy_8 : decode cX6_isBusy 8 = .ok (.ifCond .ne 7, 3) := by decide +kernel
theorem dX6_isBusy_11 : decode cX6_isBusy 11 = .ok (.iconst 1, 1) := by decide +kernel
theorem dX6_isBusy_12 : decode cX6_isBusy 12 = .ok (.goto 18, 3) := by decide +kernel
theorem dX6_isBusy_15 : decode cX6_isBusy 15 = .ok (.iload_n 2, 1) := by decide +kernel
theorem dX6_isBusy_16 : decode cX6_isBusy 16 = .ok (.iconst 0, 1) := by decide +kernel
theorem dX6_isBusy_17 : decode cX6_isBusy 17 = .ok (.ldc 169, 2) := by decide +kernel
theorem dX6_isBusy_19 : decode cX6_isBusy 19 = .ok (.invokestatic 87, 3) := by decide +kernel
theorem dX6_isBusy_22 : decode cX6_isBusy 22 = .ok (.ifCond .ne 7, 3) := by decide +kernel
theorem dX6_isBusy_25 : decode cX6_isBusy 25 = .ok (.iconst 2, 1) := by decide +kernel
theorem dX6_isBusy_26 : decode cX6_isBusy 26 = .ok (.goto 4, 3) := by decide +kernel
theorem dX6_isBusy_29 : decode cX6_isBusy 29 = .ok (.iconst 0, 1) := by decide +kernel
theorem dX6_isBusy_30 : decode cX6_isBusy 30 = .ok (.invokevirtual 94, 3) := by decide +kernel
theorem dX6_isBusy_33 : decode cX6_isBusy 33 = .ok (.ifCond .eq 17, 3) := by decide +kernel
theorem dX6_isBusy_36 : decode cX6_isBusy 36 = .ok (.aload_n 0, 1) := by decide +kernel
theorem dX6_isBusy_37 : decode cX6_isBusy 37 = .ok (.iload_n 1, 1) := by decide +kernel
theorem dX6_isBusy_38 : decode cX6_isBusy 38 = .ok (.iload_n 2, 1) := by decide +kernel
theorem dX6_isBusy_39 : decode cX6_isBusy 39 = .ok (.iconst 1, 1) := by decide +kernel
theorem dX6_isBusy_40 : decode cX6_isBusy 40 = .ok (.invokevirtual 124, 3) := by decide +kernel
theorem dX6_isBusy_43 : decode cX6_isBusy 43 = .ok (.ifCond .eq 7, 3) := by decide +kernel
theorem dX6_isBusy_46 : decode cX6_isBusy 46 = .ok (.iconst 1, 1) := by decide +kernel
theorem dX6_isBusy_47 : decode cX6_isBusy 47 = .ok (.goto 4, 3) := by decide +kernel
theorem dX6_isBusy_50 : decode cX6_isBusy 50 = .ok (.iconst 0, 1) := by decide +kernel
theorem dX6_isBusy_51 : decode cX6_isBusy 51 = .ok (.ireturn, 1) := by decide +kernel
theorem dX6_worn_0 : decode cX6_worn 0 = .ok (.aload_n 0, 1) := by decide +kernel
theorem dX6_worn_1 : decode cX6_worn 1 = .ok (.aload_n 0, 1) := by decide +kernel
theorem dX6_worn_2 : decode cX6_worn 2 = .ok (.iload_n 1, 1) := by decide +kernel
theorem dX6_worn_3 : decode cX6_worn 3 = .ok (.invokevirtual 98, 3) := by decide +kernel
theorem dX6_worn_6 : decode cX6_worn 6 = .ok (.ifCond .eq 7, 3) := by decide +kernel
theorem dX6_worn_9 : decode cX6_worn 9 = .ok (.iconst 0, 1) := by decide +kernel
theorem dX6_worn_10 : decode cX6_worn 10 = .ok (.goto 4, 3) := by decide +kernel
theorem dX6_worn_13 : decode cX6_worn 13 = .ok (.iconst 1, 1) := by decide +kernel
theorem dX6_worn_14 : decode cX6_worn 14 = .ok (.invokevirtual 94, 3) := by decide +kernel
theorem dX6_worn_17 : decode cX6_worn 17 = .ok (.ifCond .eq 12, 3) := by decide +kernel
theorem dX6_worn_20 : decode cX6_worn 20 = .ok (.aload_n 0, 1) := by decide +kernel
theorem dX6_worn_21 : decode cX6_worn 21 = .ok (.getfield 22, 3) := by decide +kernel
theorem dX6_worn_24 : decode cX6_worn 24 = .ok (.iload_n 1, 1) := by decide +kernel
theorem dX6_worn_25 : decode cX6_worn 25 = .ok (.iaload, 1) := by decide +kernel
theorem dX6_worn_26 : decode cX6_worn 26 = .ok (.goto 4, 3) := by decide +kernel
theorem dX6_worn_29 : decode cX6_worn 29 = .ok (.iconst 0, 1) := by decide +kernel
theorem dX6_worn_30 : decode cX6_worn 30 = .ok (.ireturn, 1) := by decide +kernel
theorem dX6_income_0 : decode cX6_income 0 = .ok (.aload_n 0, 1) := by decide +kernel
theorem dX6_income_1 : decode cX6_income 1 = .ok (.iconst 0, 1) := by decide +kernel
theorem dX6_income_2 : decode cX6_income 2 = .ok (.putfield 80, 3) := by decide +kernel
theorem dX6_income_5 : decode cX6_income 5 = .ok (.aload_n 0, 1) := by decide +kernel
theorem dX6_income_6 : decode cX6_income 6 = .ok (.getfield 131, 3) := by decide +kernel
theorem dX6_income_9 : decode cX6_income 9 = .ok (.ireturn, 1) := by decide +kernel
theorem dL_puppet_0 : decode cL_puppet 0 = .ok (.aload_n 3, 1) := by decide +kernel
theorem dL_puppet_1 : decode cL_puppet 1 = .ok (.iconst 0, 1) := by decide +kernel
theorem dL_puppet_2 : decode cL_puppet 2 = .ok (.aload_n 0, 1) := by decide +kernel
theorem dL_puppet_3 : decode cL_puppet 3 = .ok (.iload_n 1, 1) := by decide +kernel
theorem dL_puppet_4 : decode cL_puppet 4 = .ok (.iload_n 2, 1) := by decide +kernel
theorem dL_puppet_5 : decode cL_puppet 5 = .ok (.invokevirtual 7, 3) := by decide +kernel
theorem dL_puppet_8 : decode cL_puppet 8 = .ok (.i2l, 1) := by decide +kernel
theorem dL_puppet_9 : decode cL_puppet 9 = .ok (.lastore, 1) := by decide +kernel
theorem dL_puppet_10 : decode cL_puppet 10 = .ok (.goto 11, 3) := by decide +kernel
theorem dL_puppet_13 : decode cL_puppet 13 = .ok (.astore 4, 2) := by decide +kernel
theorem dL_puppet_15 : decode cL_puppet 15 = .ok (.iconst 1, 1) := by decide +kernel
theorem dL_puppet_16 : decode cL_puppet 16 = .ok (.ireturn, 1) := by decide +kernel
theorem dL_puppet_17 : decode cL_puppet 17 = .ok (.astore 4, 2) := by decide +kernel
theorem dL_puppet_19 : decode cL_puppet 19 = .ok (.iconst 2, 1) := by decide +kernel
theorem dL_puppet_20 : decode cL_puppet 20 = .ok (.ireturn, 1) := by decide +kernel
theorem dL_puppet_21 : decode cL_puppet 21 = .ok (.iconst 0, 1) := by decide +kernel
theorem dL_puppet_22 : decode cL_puppet 22 = .ok (.ireturn, 1) := by decide +kernel
theorem dL_setLength_0 : decode cL_setLength 0 = .ok (.aload_n 3, 1) := by decide +kernel
theorem dL_setLength_1 : decode cL_setLength 1 = .ok (.iconst 0, 1) := by decide +kernel
theorem dL_setLength_2 : decode cL_setLength 2 = .ok (.aload_n 0, 1) := by decide +kernel
theorem dL_setLength_3 : decode cL_setLength 3 = .ok (.iload_n 1, 1) := by decide +kernel
theorem dL_setLength_4 : decode cL_setLength 4 = .ok (.iload_n 2, 1) := by decide +kernel
theorem dL_setLength_5 : decode cL_setLength 5 = .ok (.invokevirtual 17, 3) := by decide +kernel
theorem dL_setLength_8 : decode cL_setLength 8 = .ok (.i2l, 1) := by decide +kernel
theorem dL_setLength_9 : decode cL_setLength 9 = .ok (.lastore, 1) := by decide +kernel
theorem dL_setLength_10 : decode cL_setLength 10 = .ok (.goto 11, 3) := by decide +kernel
theorem dL_setLength_13 : decode cL_setLength 13 = .ok (.astore 4, 2) := by decide +kernel
theorem dL_setLength_15 : decode cL_setLength 15 = .ok (.iconst 1, 1) := by decide +kernel
theorem dL_setLength_16 : decode cL_setLength 16 = .ok (.ireturn, 1) := by decide +kernel
theorem dL_setLength_17 : decode cL_setLength 17 = .ok (.astore 4, 2) := by decide +kernel
theorem dL_setLength_19 : decode cL_setLength 19 = .ok (.iconst 2, 1) := by decide +kernel
theorem dL_setLength_20 : decode cL_setLength 20 = .ok (.ireturn, 1) := by decide +kernel
theorem dL_setLength_21 : decode cL_setLength 21 = .ok (.iconst 0, 1) := by decide +kernel
theorem dL_setLength_22 : decode cL_setLength 22 = .ok (.ireturn, 1) := by decide +kernel
theorem dL_key_0 : decode cL_key 0 = .ok (.aload 6, 2) := by decide +kernel
theorem dL_key_2 : decode cL_key 2 = .ok (.iconst 0, 1) := by decide +kernel
theorem dL_key_3 : decode cL_key 3 = .ok (.aload_n 0, 1) := by decide +kernel
theorem dL_key_4 : decode cL_key 4 = .ok (.iload_n 1, 1) := by decide +kernel
theorem dL_key_5 : decode cL_key 5 = .ok (.iload_n 2, 1) := by decide +kernel
theorem dL_key_6 : decode cL_key 6 = .ok (.iload_n 3, 1) := by decide +kernel
theorem dL_key_7 : decode cL_key 7 = .ok (.iload 4, 2) := by decide +kernel
theorem dL_key_9 : decode cL_key 9 = .ok (.iload 5, 2) := by decide +kernel
theorem dL_key_11 : decode cL_key 11 = .ok (.invokevirtual 22, 3) := by decide +kernel
theorem dL_key_14 : decode cL_key 14 = .ok (.i2l, 1) := by decide +kernel
theorem dL_key_15 : decode cL_key 15 = .ok (.lastore, 1) := by decide +kernel
theorem dL_key_16 : decode cL_key 16 = .ok (.goto 15, 3) := by decide +kernel
theorem dL_key_19 : decode cL_key 19 = .ok (.astore 7, 2) := by decide +kernel
theorem dL_key_21 : decode cL_key 21 = .ok (.iconst 1, 1) := by decide +kernel
theorem dL_key_22 : decode cL_key 22 = .ok (.ireturn, 1) := by decide +kernel
theorem dL_key_23 : decode cL_key 23 = .ok (.astore 7, 2) := by decide +kernel
theorem dL_key_25 : decode cL_key 25 = .ok (.iconst 2, 1) := by decide +kernel
theorem dL_key_26 : decode cL_key 26 = .ok (.ireturn, 1) := by decide +kernel
theorem dL_key_27 : decode cL_key 27 = .ok (.astore 7, 2) := by decide +kernel
theorem dL_key_29 : decode cL_key 29 = .ok (.iconst 3, 1) := by decide +kernel
theorem dL_key_30 : decode cL_key 30 = .ok (.ireturn, 1) := by decide +kernel
theorem dL_key_31 : decode cL_key 31 = .ok (.iconst 0, 1) := by decide +kernel
theorem dL_key_32 : decode cL_key 32 = .ok (.ireturn, 1) := by decide +kernel
theorem dL_cutKey_0 : decode cL_cutKey 0 = .ok (.aload_n 3, 1) := by decide +kernel
theorem dL_cutKey_1 : decode cL_cutKey 1 = .ok (.iconst 0, 1) := by decide +kernel
theorem dL_cutKey_2 : decode cL_cutKey 2 = .ok (.aload_n 0, 1) := by decide +kernel
theorem dL_cutKey_3 : decode cL_cutKey 3 = .ok (.iload_n 1, 1) := by decide +kernel
theorem dL_cutKey_4 : decode cL_cutKey 4 = .ok (.iload_n 2, 1) := by decide +kernel
theorem dL_cutKey_5 : decode cL_cutKey 5 = .ok (.invokevirtual 26, 3) := by decide +kernel
theorem dL_cutKey_8 : decode cL_cutKey 8 = .ok (.i2l, 1) := by decide +kernel
theorem dL_cutKey_9 : decode cL_cutKey 9 = .ok (.lastore, 1) := by decide +kernel
theorem dL_cutKey_10 : decode cL_cutKey 10 = .ok (.goto 11, 3) := by decide +kernel
theorem dL_cutKey_13 : decode cL_cutKey 13 = .ok (.astore 4, 2) := by decide +kernel
theorem dL_cutKey_15 : decode cL_cutKey 15 = .ok (.iconst 1, 1) := by decide +kernel
theorem dL_cutKey_16 : decode cL_cutKey 16 = .ok (.ireturn, 1) := by decide +kernel
theorem dL_cutKey_17 : decode cL_cutKey 17 = .ok (.astore 4, 2) := by decide +kernel
theorem dL_cutKey_19 : decode cL_cutKey 19 = .ok (.iconst 2, 1) := by decide +kernel
theorem dL_cutKey_20 : decode cL_cutKey 20 = .ok (.ireturn, 1) := by decide +kernel
theorem dL_cutKey_21 : decode cL_cutKey 21 = .ok (.iconst 0, 1) := by decide +kernel
theorem dL_cutKey_22 : decode cL_cutKey 22 = .ok (.ireturn, 1) := by decide +kernel
theorem dL_hear_0 : decode cL_hear 0 = .ok (.aload_n 3, 1) := by decide +kernel
theorem dL_hear_1 : decode cL_hear 1 = .ok (.iconst 0, 1) := by decide +kernel
theorem dL_hear_2 : decode cL_hear 2 = .ok (.aload_n 0, 1) := by decide +kernel
theorem dL_hear_3 : decode cL_hear 3 = .ok (.iload_n 1, 1) := by decide +kernel
theorem dL_hear_4 : decode cL_hear 4 = .ok (.iload_n 2, 1) := by decide +kernel
theorem dL_hear_5 : decode cL_hear 5 = .ok (.invokevirtual 31, 3) := by decide +kernel
theorem dL_hear_8 : decode cL_hear 8 = .ok (.i2l, 1) := by decide +kernel
theorem dL_hear_9 : decode cL_hear 9 = .ok (.lastore, 1) := by decide +kernel
theorem dL_hear_10 : decode cL_hear 10 = .ok (.goto 11, 3) := by decide +kernel
theorem dL_hear_13 : decode cL_hear 13 = .ok (.astore 4, 2) := by decide +kernel
theorem dL_hear_15 : decode cL_hear 15 = .ok (.iconst 1, 1) := by decide +kernel
theorem dL_hear_16 : decode cL_hear 16 = .ok (.ireturn, 1) := by decide +kernel
theorem dL_hear_17 : decode cL_hear 17 = .ok (.astore 4, 2) := by decide +kernel
theorem dL_hear_19 : decode cL_hear 19 = .ok (.iconst 2, 1) := by decide +kernel
theorem dL_hear_20 : decode cL_hear 20 = .ok (.ireturn, 1) := by decide +kernel
theorem dL_hear_21 : decode cL_hear 21 = .ok (.iconst 0, 1) := by decide +kernel
theorem dL_hear_22 : decode cL_hear 22 = .ok (.ireturn, 1) := by decide +kernel
theorem dL_cue_0 : decode cL_cue 0 = .ok (.aload_n 3, 1) := by decide +kernel
theorem dL_cue_1 : decode cL_cue 1 = .ok (.iconst 0, 1) := by decide +kernel
theorem dL_cue_2 : decode cL_cue 2 = .ok (.aload_n 0, 1) := by decide +kernel
theorem dL_cue_3 : decode cL_cue 3 = .ok (.iload_n 1, 1) := by decide +kernel
theorem dL_cue_4 : decode cL_cue 4 = .ok (.iload_n 2, 1) := by decide +kernel
theorem dL_cue_5 : decode cL_cue 5 = .ok (.invokevirtual 34, 3) := by decide +kernel
theorem dL_cue_8 : decode cL_cue 8 = .ok (.i2l, 1) := by decide +kernel
theorem dL_cue_9 : decode cL_cue 9 = .ok (.lastore, 1) := by decide +kernel
theorem dL_cue_10 : decode cL_cue 10 = .ok (.goto 7, 3) := by decide +kernel
theorem dL_cue_13 : decode cL_cue 13 = .ok (.astore 4, 2) := by decide +kernel
theorem dL_cue_15 : decode cL_cue 15 = .ok (.iconst 1, 1) := by decide +kernel
theorem dL_cue_16 : decode cL_cue 16 = .ok (.ireturn, 1) := by decide +kernel
theorem dL_cue_17 : decode cL_cue 17 = .ok (.iconst 0, 1) := by decide +kernel
theorem dL_cue_18 : decode cL_cue 18 = .ok (.ireturn, 1) := by decide +kernel
theorem dL_show_0 : decode cL_show 0 = .ok (.aload_n 3, 1) := by decide +kernel
theorem dL_show_1 : decode cL_show 1 = .ok (.iconst 0, 1) := by decide +kernel
theorem dL_show_2 : decode cL_show 2 = .ok (.aload_n 0, 1) := by decide +kernel
theorem dL_show_3 : decode cL_show 3 = .ok (.iload_n 1, 1) := by decide +kernel
theorem dL_show_4 : decode cL_show 4 = .ok (.iload_n 2, 1) := by decide +kernel
theorem dL_show_5 : decode cL_show 5 = .ok (.invokevirtual 37, 3) := by decide +kernel
theorem dL_show_8 : decode cL_show 8 = .ok (.i2l, 1) := by decide +kernel
theorem dL_show_9 : decode cL_show 9 = .ok (.lastore, 1) := by decide +kernel
theorem dL_show_10 : decode cL_show 10 = .ok (.goto 11, 3) := by decide +kernel
theorem dL_show_13 : decode cL_show 13 = .ok (.astore 4, 2) := by decide +kernel
theorem dL_show_15 : decode cL_show 15 = .ok (.iconst 1, 1) := by decide +kernel
theorem dL_show_16 : decode cL_show 16 = .ok (.ireturn, 1) := by decide +kernel
theorem dL_show_17 : decode cL_show 17 = .ok (.astore 4, 2) := by decide +kernel
theorem dL_show_19 : decode cL_show 19 = .ok (.iconst 2, 1) := by decide +kernel
theorem dL_show_20 : decode cL_show 20 = .ok (.ireturn, 1) := by decide +kernel
theorem dL_show_21 : decode cL_show 21 = .ok (.iconst 0, 1) := by decide +kernel
theorem dL_show_22 : decode cL_show 22 = .ok (.ireturn, 1) := by decide +kernel
theorem dL_cast_0 : decode cL_cast 0 = .ok (.aload_n 3, 1) := by decide +kernel
theorem dL_cast_1 : decode cL_cast 1 = .ok (.iconst 0, 1) := by decide +kernel
theorem dL_cast_2 : decode cL_cast 2 = .ok (.aload_n 0, 1) := by decide +kernel
theorem dL_cast_3 : decode cL_cast 3 = .ok (.iload_n 1, 1) := by decide +kernel
theorem dL_cast_4 : decode cL_cast 4 = .ok (.iload_n 2, 1) := by decide +kernel
theorem dL_cast_5 : decode cL_cast 5 = .ok (.invokevirtual 40, 3) := by decide +kernel
theorem dL_cast_8 : decode cL_cast 8 = .ok (.i2l, 1) := by decide +kernel
theorem dL_cast_9 : decode cL_cast 9 = .ok (.lastore, 1) := by decide +kernel
theorem dL_cast_10 : decode cL_cast 10 = .ok (.goto 11, 3) := by decide +kernel
theorem dL_cast_13 : decode cL_cast 13 = .ok (.astore 4, 2) := by decide +kernel
theorem dL_cast_15 : decode cL_cast 15 = .ok (.iconst 1, 1) := by decide +kernel
theorem dL_cast_16 : decode cL_cast 16 = .ok (.ireturn, 1) := by decide +kernel
theorem dL_cast_17 : decode cL_cast 17 = .ok (.astore 4, 2) := by decide +kernel
theorem dL_cast_19 : decode cL_cast 19 = .ok (.iconst 2, 1) := by decide +kernel
theorem dL_cast_20 : decode cL_cast 20 = .ok (.ireturn, 1) := by decide +kernel
theorem dL_cast_21 : decode cL_cast 21 = .ok (.iconst 0, 1) := by decide +kernel
theorem dL_cast_22 : decode cL_cast 22 = .ok (.ireturn, 1) := by decide +kernel
theorem dL_leave_0 : decode cL_leave 0 = .ok (.aload_n 3, 1) := by decide +kernel
theorem dL_leave_1 : decode cL_leave 1 = .ok (.iconst 0, 1) := by decide +kernel
theorem dL_leave_2 : decode cL_leave 2 = .ok (.aload_n 0, 1) := by decide +kernel
theorem dL_leave_3 : decode cL_leave 3 = .ok (.iload_n 1, 1) := by decide +kernel
theorem dL_leave_4 : decode cL_leave 4 = .ok (.iload_n 2, 1) := by decide +kernel
theorem dL_leave_5 : decode cL_leave 5 = .ok (.invokevirtual 43, 3) := by decide +kernel
theorem dL_leave_8 : decode cL_leave 8 = .ok (.i2l, 1) := by decide +kernel
theorem dL_leave_9 : decode cL_leave 9 = .ok (.lastore, 1) := by decide +kernel
theorem dL_leave_10 : decode cL_leave 10 = .ok (.goto 11, 3) := by decide +kernel
theorem dL_leave_13 : decode cL_leave 13 = .ok (.astore 4, 2) := by decide +kernel
theorem dL_leave_15 : decode cL_leave 15 = .ok (.iconst 1, 1) := by decide +kernel
theorem dL_leave_16 : decode cL_leave 16 = .ok (.ireturn, 1) := by decide +kernel
theorem dL_leave_17 : decode cL_leave 17 = .ok (.astore 4, 2) := by decide +kernel
theorem dL_leave_19 : decode cL_leave 19 = .ok (.iconst 2, 1) := by decide +kernel
theorem dL_leave_20 : decode cL_leave 20 = .ok (.ireturn, 1) := by decide +kernel
theorem dL_leave_21 : decode cL_leave 21 = .ok (.iconst 0, 1) := by decide +kernel
theorem dL_leave_22 : decode cL_leave 22 = .ok (.ireturn, 1) := by decide +kernel
theorem dL_sell_0 : decode cL_sell 0 = .ok (.aload 4, 2) := by decide +kernel
theorem dL_sell_2 : decode cL_sell 2 = .ok (.iconst 0, 1) := by decide +kernel
theorem dL_sell_3 : decode cL_sell 3 = .ok (.aload_n 0, 1) := by decide +kernel
theorem dL_sell_4 : decode cL_sell 4 = .ok (.iload_n 1, 1) := by decide +kernel
theorem dL_sell_5 : decode cL_sell 5 = .ok (.iload_n 2, 1) := by decide +kernel
theorem dL_sell_6 : decode cL_sell 6 = .ok (.iload_n 3, 1) := by decide +kernel
theorem dL_sell_7 : decode cL_sell 7 = .ok (.invokevirtual 46, 3) := by decide +kernel
theorem dL_sell_10 : decode cL_sell 10 = .ok (.i2l, 1) := by decide +kernel
theorem dL_sell_11 : decode cL_sell 11 = .ok (.lastore, 1) := by decide +kernel
theorem dL_sell_12 : decode cL_sell 12 = .ok (.goto 15, 3) := by decide +kernel
theorem dL_sell_15 : decode cL_sell 15 = .ok (.astore 5, 2) := by decide +kernel
theorem dL_sell_17 : decode cL_sell 17 = .ok (.iconst 1, 1) := by decide +kernel
theorem dL_sell_18 : decode cL_sell 18 = .ok (.ireturn, 1) := by decide +kernel
theorem dL_sell_19 : decode cL_sell 19 = .ok (.astore 5, 2) := by decide +kernel
theorem dL_sell_21 : decode cL_sell 21 = .ok (.iconst 2, 1) := by decide +kernel
theorem dL_sell_22 : decode cL_sell 22 = .ok (.ireturn, 1) := by decide +kernel
theorem dL_sell_23 : decode cL_sell 23 = .ok (.astore 5, 2) := by decide +kernel
theorem dL_sell_25 : decode cL_sell 25 = .ok (.iconst 3, 1) := by decide +kernel
theorem dL_sell_26 : decode cL_sell 26 = .ok (.ireturn, 1) := by decide +kernel
theorem dL_sell_27 : decode cL_sell 27 = .ok (.iconst 0, 1) := by decide +kernel
theorem dL_sell_28 : decode cL_sell 28 = .ok (.ireturn, 1) := by decide +kernel
theorem dL_perform_0 : decode cL_perform 0 = .ok (.aload_n 2, 1) := by decide +kernel
theorem dL_perform_1 : decode cL_perform 1 = .ok (.iconst 0, 1) := by decide +kernel
theorem dL_perform_2 : decode cL_perform 2 = .ok (.aload_n 0, 1) := by decide +kernel
theorem dL_perform_3 : decode cL_perform 3 = .ok (.iload_n 1, 1) := by decide +kernel
theorem dL_perform_4 : decode cL_perform 4 = .ok (.invokevirtual 50, 3) := by decide +kernel
theorem dL_perform_7 : decode cL_perform 7 = .ok (.i2l, 1) := by decide +kernel
theorem dL_perform_8 : decode cL_perform 8 = .ok (.lastore, 1) := by decide +kernel
theorem dL_perform_9 : decode cL_perform 9 = .ok (.goto 9, 3) := by decide +kernel
theorem dL_perform_12 : decode cL_perform 12 = .ok (.astore_n 3, 1) := by decide +kernel
theorem dL_perform_13 : decode cL_perform 13 = .ok (.iconst 1, 1) := by decide +kernel
theorem dL_perform_14 : decode cL_perform 14 = .ok (.ireturn, 1) := by decide +kernel
theorem dL_perform_15 : decode cL_perform 15 = .ok (.astore_n 3, 1) := by decide +kernel
theorem dL_perform_16 : decode cL_perform 16 = .ok (.iconst 2, 1) := by decide +kernel
theorem dL_perform_17 : decode cL_perform 17 = .ok (.ireturn, 1) := by decide +kernel
theorem dL_perform_18 : decode cL_perform 18 = .ok (.iconst 0, 1) := by decide +kernel
theorem dL_perform_19 : decode cL_perform 19 = .ok (.ireturn, 1) := by decide +kernel
theorem dL_mend_0 : decode cL_mend 0 = .ok (.aload_n 3, 1) := by decide +kernel
theorem dL_mend_1 : decode cL_mend 1 = .ok (.iconst 0, 1) := by decide +kernel
theorem dL_mend_2 : decode cL_mend 2 = .ok (.aload_n 0, 1) := by decide +kernel
theorem dL_mend_3 : decode cL_mend 3 = .ok (.iload_n 1, 1) := by decide +kernel
theorem dL_mend_4 : decode cL_mend 4 = .ok (.iload_n 2, 1) := by decide +kernel
theorem dL_mend_5 : decode cL_mend 5 = .ok (.invokevirtual 54, 3) := by decide +kernel
theorem dL_mend_8 : decode cL_mend 8 = .ok (.i2l, 1) := by decide +kernel
theorem dL_mend_9 : decode cL_mend 9 = .ok (.lastore, 1) := by decide +kernel
theorem dL_mend_10 : decode cL_mend 10 = .ok (.goto 15, 3) := by decide +kernel
theorem dL_mend_13 : decode cL_mend 13 = .ok (.astore 4, 2) := by decide +kernel
theorem dL_mend_15 : decode cL_mend 15 = .ok (.iconst 1, 1) := by decide +kernel
theorem dL_mend_16 : decode cL_mend 16 = .ok (.ireturn, 1) := by decide +kernel
theorem dL_mend_17 : decode cL_mend 17 = .ok (.astore 4, 2) := by decide +kernel
theorem dL_mend_19 : decode cL_mend 19 = .ok (.iconst 2, 1) := by decide +kernel
theorem dL_mend_20 : decode cL_mend 20 = .ok (.ireturn, 1) := by decide +kernel
theorem dL_mend_21 : decode cL_mend 21 = .ok (.astore 4, 2) := by decide +kernel
theorem dL_mend_23 : decode cL_mend 23 = .ok (.iconst 3, 1) := by decide +kernel
theorem dL_mend_24 : decode cL_mend 24 = .ok (.ireturn, 1) := by decide +kernel
theorem dL_mend_25 : decode cL_mend 25 = .ok (.iconst 0, 1) := by decide +kernel
theorem dL_mend_26 : decode cL_mend 26 = .ok (.ireturn, 1) := by decide +kernel
theorem dL_track_0 : decode cL_track 0 = .ok (.aload_n 3, 1) := by decide +kernel
theorem dL_track_1 : decode cL_track 1 = .ok (.iconst 0, 1) := by decide +kernel
theorem dL_track_2 : decode cL_track 2 = .ok (.aload_n 0, 1) := by decide +kernel
theorem dL_track_3 : decode cL_track 3 = .ok (.iload_n 1, 1) := by decide +kernel
theorem dL_track_4 : decode cL_track 4 = .ok (.iload_n 2, 1) := by decide +kernel
theorem dL_track_5 : decode cL_track 5 = .ok (.invokevirtual 57, 3) := by decide +kernel
theorem dL_track_8 : decode cL_track 8 = .ok (.i2l, 1) := by decide +kernel
theorem dL_track_9 : decode cL_track 9 = .ok (.lastore, 1) := by decide +kernel
theorem dL_track_10 : decode cL_track 10 = .ok (.goto 11, 3) := by decide +kernel
theorem dL_track_13 : decode cL_track 13 = .ok (.astore 4, 2) := by decide +kernel
theorem dL_track_15 : decode cL_track 15 = .ok (.iconst 1, 1) := by decide +kernel
theorem dL_track_16 : decode cL_track 16 = .ok (.ireturn, 1) := by decide +kernel
theorem dL_track_17 : decode cL_track 17 = .ok (.astore 4, 2) := by decide +kernel
theorem dL_track_19 : decode cL_track 19 = .ok (.iconst 2, 1) := by decide +kernel
theorem dL_track_20 : decode cL_track 20 = .ok (.ireturn, 1) := by decide +kernel
theorem dL_track_21 : decode cL_track 21 = .ok (.iconst 0, 1) := by decide +kernel
theorem dL_track_22 : decode cL_track 22 = .ok (.ireturn, 1) := by decide +kernel
theorem dL_trackByFrames_0 : decode cL_trackByFrames 0 = .ok (.aload_n 3, 1) := by decide +kernel
theorem dL_trackByFrames_1 : decode cL_trackByFrames 1 = .ok (.iconst 0, 1) := by decide +kernel
theorem dL_trackByFrames_2 : decode cL_trackByFrames 2 = .ok (.aload_n 0, 1) := by decide +kernel
theorem dL_trackByFrames_3 : decode cL_trackByFrames 3 = .ok (.iload_n 1, 1) := by decide +kernel
theorem dL_trackByFrames_4 : decode cL_trackByFrames 4 = .ok (.iload_n 2, 1) := by decide +kernel
theorem dL_trackByFrames_5 : decode cL_trackByFrames 5 = .ok (.invokevirtual 60, 3) := by decide +kernel
theorem dL_trackByFrames_8 : decode cL_trackByFrames 8 = .ok (.i2l, 1) := by decide +kernel
theorem dL_trackByFrames_9 : decode cL_trackByFrames 9 = .ok (.lastore, 1) := by decide +kernel
theorem dL_trackByFrames_10 : decode cL_trackByFrames 10 = .ok (.goto 11, 3) := by decide +kernel
theorem dL_trackByFrames_13 : decode cL_trackByFrames 13 = .ok (.astore 4, 2) := by decide +kernel
theorem dL_trackByFrames_15 : decode cL_trackByFrames 15 = .ok (.iconst 1, 1) := by decide +kernel
theorem dL_trackByFrames_16 : decode cL_trackByFrames 16 = .ok (.ireturn, 1) := by decide +kernel
theorem dL_trackByFrames_17 : decode cL_trackByFrames 17 = .ok (.astore 4, 2) := by decide +kernel
theorem dL_trackByFrames_19 : decode cL_trackByFrames 19 = .ok (.iconst 2, 1) := by decide +kernel
theorem dL_trackByFrames_20 : decode cL_trackByFrames 20 = .ok (.ireturn, 1) := by decide +kernel
theorem dL_trackByFrames_21 : decode cL_trackByFrames 21 = .ok (.iconst 0, 1) := by decide +kernel
theorem dL_trackByFrames_22 : decode cL_trackByFrames 22 = .ok (.ireturn, 1) := by decide +kernel
theorem dL_x_0 : decode cL_x 0 = .ok (.aload 4, 2) := by decide +kernel
theorem dL_x_2 : decode cL_x 2 = .ok (.iconst 0, 1) := by decide +kernel
theorem dL_x_3 : decode cL_x 3 = .ok (.aload_n 0, 1) := by decide +kernel
theorem dL_x_4 : decode cL_x 4 = .ok (.iload_n 1, 1) := by decide +kernel
theorem dL_x_5 : decode cL_x 5 = .ok (.iload_n 2, 1) := by decide +kernel
theorem dL_x_6 : decode cL_x 6 = .ok (.iload_n 3, 1) := by decide +kernel
theorem dL_x_7 : decode cL_x 7 = .ok (.invokevirtual 63, 3) := by decide +kernel
theorem dL_x_10 : decode cL_x 10 = .ok (.i2l, 1) := by decide +kernel
theorem dL_x_11 : decode cL_x 11 = .ok (.lastore, 1) := by decide +kernel
theorem dL_x_12 : decode cL_x 12 = .ok (.goto 11, 3) := by decide +kernel
theorem dL_x_15 : decode cL_x 15 = .ok (.astore 5, 2) := by decide +kernel
theorem dL_x_17 : decode cL_x 17 = .ok (.iconst 1, 1) := by decide +kernel
theorem dL_x_18 : decode cL_x 18 = .ok (.ireturn, 1) := by decide +kernel
theorem dL_x_19 : decode cL_x 19 = .ok (.astore 5, 2) := by decide +kernel
theorem dL_x_21 : decode cL_x 21 = .ok (.iconst 2, 1) := by decide +kernel
theorem dL_x_22 : decode cL_x 22 = .ok (.ireturn, 1) := by decide +kernel
theorem dL_x_23 : decode cL_x 23 = .ok (.iconst 0, 1) := by decide +kernel
theorem dL_x_24 : decode cL_x 24 = .ok (.ireturn, 1) := by decide +kernel
theorem dL_y_0 : decode cL_y 0 = .ok (.aload 4, 2) := by decide +kernel
theorem dL_y_2 : decode cL_y 2 = .ok (.iconst 0, 1) := by decide +kernel
theorem dL_y_3 : decode cL_y 3 = .ok (.aload_n 0, 1) := by decide +kernel
theorem dL_y_4 : decode cL_y 4 = .ok (.iload_n 1, 1) := by decide +kernel
theorem dL_y_5 : decode cL_y 5 = .ok (.iload_n 2, 1) := by decide +kernel
theorem dL_y_6 : decode cL_y 6 = .ok (.iload_n 3, 1) := by decide +kernel
theorem dL_y_7 : decode cL_y 7 = .ok (.invokevirtual 66, 3) := by decide +kernel
theorem dL_y_10 : decode cL_y 10 = .ok (.i2l, 1) := by decide +kernel
theorem dL_y_11 : decode cL_y 11 = .ok (.lastore, 1) := by decide +kernel
theorem dL_y_12 : decode cL_y 12 = .ok (.goto 11, 3) := by decide +kernel
theorem dL_y_15 : decode cL_y 15 = .ok (.astore 5, 2) := by decide +kernel
theorem dL_y_17 : decode cL_y 17 = .ok (.iconst 1, 1) := by decide +kernel
theorem dL_y_18 : decode cL_y 18 = .ok (.ireturn, 1) := by decide +kernel
theorem dL_y_19 : decode cL_y 19 = .ok (.astore 5, 2) := by decide +kernel
theorem dL_y_21 : decode cL_y 21 = .ok (.iconst 2, 1) := by decide +kernel
theorem dL_y_22 : decode cL_y 22 = .ok (.ireturn, 1) := by decide +kernel
theorem dL_y_23 : decode cL_y 23 = .ok (.iconst 0, 1) := by decide +kernel
theorem dL_y_24 : decode cL_y 24 = .ok (.ireturn, 1) := by decide +kernel
theorem dL_bent_0 : decode cL_bent 0 = .ok (.aload 5, 2) := by decide +kernel
theorem dL_bent_2 : decode cL_bent 2 = .ok (.iconst 0, 1) := by decide +kernel
theorem dL_bent_3 : decode cL_bent 3 = .ok (.aload_n 0, 1) := by decide +kernel
theorem dL_bent_4 : decode cL_bent 4 = .ok (.iload_n 1, 1) := by decide +kernel
theorem dL_bent_5 : decode cL_bent 5 = .ok (.iload_n 2, 1) := by decide +kernel
theorem dL_bent_6 : decode cL_bent 6 = .ok (.iload_n 3, 1) := by decide +kernel
theorem dL_bent_7 : decode cL_bent 7 = .ok (.iload 4, 2) := by decide +kernel
theorem dL_bent_9 : decode cL_bent 9 = .ok (.invokevirtual 69, 3) := by decide +kernel
theorem dL_bent_12 : decode cL_bent 12 = .ok (.i2l, 1) := by decide +kernel
theorem dL_bent_13 : decode cL_bent 13 = .ok (.lastore, 1) := by decide +kernel
theorem dL_bent_14 : decode cL_bent 14 = .ok (.goto 11, 3) := by decide +kernel
theorem dL_bent_17 : decode cL_bent 17 = .ok (.astore 6, 2) := by decide +kernel
theorem dL_bent_19 : decode cL_bent 19 = .ok (.iconst 1, 1) := by decide +kernel
theorem dL_bent_20 : decode cL_bent 20 = .ok (.ireturn, 1) := by decide +kernel
theorem dL_bent_21 : decode cL_bent 21 = .ok (.astore 6, 2) := by decide +kernel
theorem dL_bent_23 : decode cL_bent 23 = .ok (.iconst 2, 1) := by decide +kernel
theorem dL_bent_24 : decode cL_bent 24 = .ok (.ireturn, 1) := by decide +kernel
theorem dL_bent_25 : decode cL_bent 25 = .ok (.iconst 0, 1) := by decide +kernel
theorem dL_bent_26 : decode cL_bent 26 = .ok (.ireturn, 1) := by decide +kernel
theorem dL_least_0 : decode cL_least 0 = .ok (.aload_n 2, 1) := by decide +kernel
theorem dL_least_1 : decode cL_least 1 = .ok (.iconst 0, 1) := by decide +kernel
theorem dL_least_2 : decode cL_least 2 = .ok (.aload_n 0, 1) := by decide +kernel
theorem dL_least_3 : decode cL_least 3 = .ok (.iload_n 1, 1) := by decide +kernel
theorem dL_least_4 : decode cL_least 4 = .ok (.invokevirtual 73, 3) := by decide +kernel
theorem dL_least_7 : decode cL_least 7 = .ok (.i2l, 1) := by decide +kernel
theorem dL_least_8 : decode cL_least 8 = .ok (.lastore, 1) := by decide +kernel
theorem dL_least_9 : decode cL_least 9 = .ok (.goto 6, 3) := by decide +kernel
theorem dL_least_12 : decode cL_least 12 = .ok (.astore_n 3, 1) := by decide +kernel
theorem dL_least_13 : decode cL_least 13 = .ok (.iconst 1, 1) := by decide +kernel
theorem dL_least_14 : decode cL_least 14 = .ok (.ireturn, 1) := by decide +kernel
theorem dL_least_15 : decode cL_least 15 = .ok (.iconst 0, 1) := by decide +kernel
theorem dL_least_16 : decode cL_least 16 = .ok (.ireturn, 1) := by decide +kernel
theorem dL_isBusy_0 : decode cL_isBusy 0 = .ok (.aload_n 3, 1) := by decide +kernel
theorem dL_isBusy_1 : decode cL_isBusy 1 = .ok (.iconst 0, 1) := by decide +kernel
theorem dL_isBusy_2 : decode cL_isBusy 2 = .ok (.aload_n 0, 1) := by decide +kernel
theorem dL_isBusy_3 : decode cL_isBusy 3 = .ok (.iload_n 1, 1) := by decide +kernel
theorem dL_isBusy_4 : decode cL_isBusy 4 = .ok (.iload_n 2, 1) := by decide +kernel
theorem dL_isBusy_5 : decode cL_isBusy 5 = .ok (.invokevirtual 76, 3) := by decide +kernel
theorem dL_isBusy_8 : decode cL_isBusy 8 = .ok (.ifCond .eq 7, 3) := by decide +kernel
theorem dL_isBusy_11 : decode cL_isBusy 11 = .ok (.lconst 1, 1) := by decide +kernel
theorem dL_isBusy_12 : decode cL_isBusy 12 = .ok (.goto 4, 3) := by decide +kernel
theorem dL_isBusy_15 : decode cL_isBusy 15 = .ok (.lconst 0, 1) := by decide +kernel
theorem dL_isBusy_16 : decode cL_isBusy 16 = .ok (.lastore, 1) := by decide +kernel
theorem dL_isBusy_17 : decode cL_isBusy 17 = .ok (.goto 11, 3) := by decide +kernel
theorem dL_isBusy_20 : decode cL_isBusy 20 = .ok (.astore 4, 2) := by decide +kernel
theorem dL_isBusy_22 : decode cL_isBusy 22 = .ok (.iconst 1, 1) := by decide +kernel
theorem dL_isBusy_23 : decode cL_isBusy 23 = .ok (.ireturn, 1) := by decide +kernel
theorem dL_isBusy_24 : decode cL_isBusy 24 = .ok (.astore 4, 2) := by decide +kernel
theorem dL_isBusy_26 : decode cL_isBusy 26 = .ok (.iconst 2, 1) := by decide +kernel
theorem dL_isBusy_27 : decode cL_isBusy 27 = .ok (.ireturn, 1) := by decide +kernel
theorem dL_isBusy_28 : decode cL_isBusy 28 = .ok (.iconst 0, 1) := by decide +kernel
theorem dL_isBusy_29 : decode cL_isBusy 29 = .ok (.ireturn, 1) := by decide +kernel
theorem dL_worn_0 : decode cL_worn 0 = .ok (.aload_n 2, 1) := by decide +kernel
theorem dL_worn_1 : decode cL_worn 1 = .ok (.iconst 0, 1) := by decide +kernel
theorem dL_worn_2 : decode cL_worn 2 = .ok (.aload_n 0, 1) := by decide +kernel
theorem dL_worn_3 : decode cL_worn 3 = .ok (.iload_n 1, 1) := by decide +kernel
theorem dL_worn_4 : decode cL_worn 4 = .ok (.invokevirtual 80, 3) := by decide +kernel
theorem dL_worn_7 : decode cL_worn 7 = .ok (.i2l, 1) := by decide +kernel
theorem dL_worn_8 : decode cL_worn 8 = .ok (.lastore, 1) := by decide +kernel
theorem dL_worn_9 : decode cL_worn 9 = .ok (.goto 6, 3) := by decide +kernel
theorem dL_worn_12 : decode cL_worn 12 = .ok (.astore_n 3, 1) := by decide +kernel
theorem dL_worn_13 : decode cL_worn 13 = .ok (.iconst 1, 1) := by decide +kernel
theorem dL_worn_14 : decode cL_worn 14 = .ok (.ireturn, 1) := by decide +kernel
theorem dL_worn_15 : decode cL_worn 15 = .ok (.iconst 0, 1) := by decide +kernel
theorem dL_worn_16 : decode cL_worn 16 = .ok (.ireturn, 1) := by decide +kernel
theorem dJx4a65c_init_da8c8_0 : decode cJx4a65c_init_da8c8 0 = .ok (.aload_n 0, 1) := by decide +kernel
theorem dJx4a65c_init_da8c8_1 : decode cJx4a65c_init_da8c8 1 = .ok (.invokespecial 1, 3) := by decide +kernel
theorem dJx4a65c_init_da8c8_4 : decode cJx4a65c_init_da8c8 4 = .ok (.aload_n 0, 1) := by decide +kernel
theorem dJx4a65c_init_da8c8_5 : decode cJx4a65c_init_da8c8 5 = .ok (.getstatic 39, 3) := by decide +kernel
theorem dJx4a65c_init_da8c8_8 : decode cJx4a65c_init_da8c8 8 = .ok (.putfield 9, 3) := by decide +kernel
theorem dJx4a65c_init_da8c8_11 : decode cJx4a65c_init_da8c8 11 = .ok (.return_, 1) := by decide +kernel
theorem dJxc12de_init_da8c8_0 : decode cJxc12de_init_da8c8 0 = .ok (.aload_n 0, 1) := by decide +kernel
theorem dJxc12de_init_da8c8_1 : decode cJxc12de_init_da8c8 1 = .ok (.invokespecial 1, 3) := by decide +kernel
theorem dJxc12de_init_da8c8_4 : decode cJxc12de_init_da8c8 4 = .ok (.aload_n 0, 1) := by decide +kernel
theorem dJxc12de_init_da8c8_5 : decode cJxc12de_init_da8c8 5 = .ok (.iconst 0, 1) := by decide +kernel
theorem dJxc12de_init_da8c8_6 : decode cJxc12de_init_da8c8 6 = .ok (.putfield 7, 3) := by decide +kernel
theorem dJxc12de_init_da8c8_9 : decode cJxc12de_init_da8c8 9 = .ok (.return_, 1) := by decide +kernel
theorem dJxa1e45_init_da8c8_0 : decode cJxa1e45_init_da8c8 0 = .ok (.aload_n 0, 1) := by decide +kernel
theorem dJxa1e45_init_da8c8_1 : decode cJxa1e45_init_da8c8 1 = .ok (.invokespecial 1, 3) := by decide +kernel
theorem dJxa1e45_init_da8c8_4 : decode cJxa1e45_init_da8c8 4 = .ok (.return_, 1) := by decide +kernel
theorem dJx4a65c_size_8abf5_0 : decode cJx4a65c_size_8abf5 0 = .ok (.aload_n 0, 1) := by decide +kernel
theorem dJx4a65c_size_8abf5_1 : decode cJx4a65c_size_8abf5 1 = .ok (.getfield 48, 3) := by decide +kernel
theorem dJx4a65c_size_8abf5_4 : decode cJx4a65c_size_8abf5 4 = .ok (.ireturn, 1) := by decide +kernel
theorem dJx4a65c_get_915e3_0 : decode cJx4a65c_get_915e3 0 = .ok (.iload_n 1, 1) := by decide +kernel
theorem dJx4a65c_get_915e3_1 : decode cJx4a65c_get_915e3 1 = .ok (.aload_n 0, 1) := by decide +kernel
theorem dJx4a65c_get_915e3_2 : decode cJx4a65c_get_915e3 2 = .ok (.getfield 48, 3) := by decide +kernel
theorem dJx4a65c_get_915e3_5 : decode cJx4a65c_get_915e3 5 = .ok (.invokestatic 118, 3) := by decide +kernel
theorem dJx4a65c_get_915e3_8 : decode cJx4a65c_get_915e3 8 = .ok (.pop, 1) := by decide +kernel
theorem dJx4a65c_get_915e3_9 : decode cJx4a65c_get_915e3 9 = .ok (.aload_n 0, 1) := by decide +kernel
theorem dJx4a65c_get_915e3_10 : decode cJx4a65c_get_915e3 10 = .ok (.iload_n 1, 1) := by decide +kernel
theorem dJx4a65c_get_915e3_11 : decode cJx4a65c_get_915e3 11 = .ok (.invokevirtual 123, 3) := by decide +kernel
theorem dJx4a65c_get_915e3_14 : decode cJx4a65c_get_915e3 14 = .ok (.areturn, 1) := by decide +kernel
theorem dJx4a65c_elementData_915e3_0 : decode cJx4a65c_elementData_915e3 0 = .ok (.aload_n 0, 1) := by decide +kernel
theorem dJx4a65c_elementData_915e3_1 : decode cJx4a65c_elementData_915e3 1 = .ok (.getfield 9, 3) := by decide +kernel
theorem dJx4a65c_elementData_915e3_4 : decode cJx4a65c_elementData_915e3 4 = .ok (.iload_n 1, 1) := by decide +kernel
theorem dJx4a65c_elementData_915e3_5 : decode cJx4a65c_elementData_915e3 5 = .ok (.aaload, 1) := by decide +kernel
theorem dJx4a65c_elementData_915e3_6 : decode cJx4a65c_elementData_915e3 6 = .ok (.areturn, 1) := by decide +kernel
theorem dJx4a65c_set_bcc79_0 : decode cJx4a65c_set_bcc79 0 = .ok (.iload_n 1, 1) := by decide +kernel
theorem dJx4a65c_set_bcc79_1 : decode cJx4a65c_set_bcc79 1 = .ok (.aload_n 0, 1) := by decide +kernel
theorem dJx4a65c_set_bcc79_2 : decode cJx4a65c_set_bcc79 2 = .ok (.getfield 48, 3) := by decide +kernel
theorem dJx4a65c_set_bcc79_5 : decode cJx4a65c_set_bcc79 5 = .ok (.invokestatic 118, 3) := by decide +kernel
theorem dJx4a65c_set_bcc79_8 : decode cJx4a65c_set_bcc79 8 = .ok (.pop, 1) := by decide +kernel
theorem dJx4a65c_set_bcc79_9 : decode cJx4a65c_set_bcc79 9 = .ok (.aload_n 0, 1) := by decide +kernel
theorem dJx4a65c_set_bcc79_10 : decode cJx4a65c_set_bcc79 10 = .ok (.iload_n 1, 1) := by decide +kernel
theorem dJx4a65c_set_bcc79_11 : decode cJx4a65c_set_bcc79 11 = .ok (.invokevirtual 123, 3) := by decide +kernel
theorem dJx4a65c_set_bcc79_14 : decode cJx4a65c_set_bcc79 14 = .ok (.astore_n 3, 1) := by decide +kernel
theorem dJx4a65c_set_bcc79_15 : decode cJx4a65c_set_bcc79 15 = .ok (.aload_n 0, 1) := by decide +kernel
theorem dJx4a65c_set_bcc79_16 : decode cJx4a65c_set_bcc79 16 = .ok (.getfield 9, 3) := by decide +kernel
theorem dJx4a65c_set_bcc79_19 : decode cJx4a65c_set_bcc79 19 = .ok (.iload_n 1, 1) := by decide +kernel
theorem dJx4a65c_set_bcc79_20 : decode cJx4a65c_set_bcc79 20 = .ok (.aload_n 2, 1) := by decide +kernel
theorem dJx4a65c_set_bcc79_21 : decode cJx4a65c_set_bcc79 21 = .ok (.aastore, 1) := by decide +kernel
theorem dJx4a65c_set_bcc79_22 : decode cJx4a65c_set_bcc79 22 = .ok (.aload_n 3, 1) := by decide +kernel
theorem dJx4a65c_set_bcc79_23 : decode cJx4a65c_set_bcc79 23 = .ok (.areturn, 1) := by decide +kernel
theorem dJx4a65c_add_9ea2d_0 : decode cJx4a65c_add_9ea2d 0 = .ok (.aload_n 0, 1) := by decide +kernel
theorem dJx4a65c_add_9ea2d_1 : decode cJx4a65c_add_9ea2d 1 = .ok (.dup, 1) := by decide +kernel
theorem dJx4a65c_add_9ea2d_2 : decode cJx4a65c_add_9ea2d 2 = .ok (.getfield 63, 3) := by decide +kernel
theorem dJx4a65c_add_9ea2d_5 : decode cJx4a65c_add_9ea2d 5 = .ok (.iconst 1, 1) := by decide +kernel
theorem dJx4a65c_add_9ea2d_6 : decode cJx4a65c_add_9ea2d 6 = .ok (.iadd, 1) := by decide +kernel
theorem dJx4a65c_add_9ea2d_7 : decode cJx4a65c_add_9ea2d 7 = .ok (.putfield 63, 3) := by decide +kernel
theorem dJx4a65c_add_9ea2d_10 : decode cJx4a65c_add_9ea2d 10 = .ok (.aload_n 0, 1) := by decide +kernel
theorem dJx4a65c_add_9ea2d_11 : decode cJx4a65c_add_9ea2d 11 = .ok (.aload_n 1, 1) := by decide +kernel
theorem dJx4a65c_add_9ea2d_12 : decode cJx4a65c_add_9ea2d 12 = .ok (.aload_n 0, 1) := by decide +kernel
theorem dJx4a65c_add_9ea2d_13 : decode cJx4a65c_add_9ea2d 13 = .ok (.getfield 9, 3) := by decide +kernel
theorem dJx4a65c_add_9ea2d_16 : decode cJx4a65c_add_9ea2d 16 = .ok (.aload_n 0, 1) := by decide +kernel
theorem dJx4a65c_add_9ea2d_17 : decode cJx4a65c_add_9ea2d 17 = .ok (.getfield 48, 3) := by decide +kernel
theorem dJx4a65c_add_9ea2d_20 : decode cJx4a65c_add_9ea2d 20 = .ok (.invokevirtual 131, 3) := by decide +kernel
theorem dJx4a65c_add_9ea2d_23 : decode cJx4a65c_add_9ea2d 23 = .ok (.iconst 1, 1) := by decide +kernel
theorem dJx4a65c_add_9ea2d_24 : decode cJx4a65c_add_9ea2d 24 = .ok (.ireturn, 1) := by decide +kernel
theorem dJx4a65c_add_72be8_0 : decode cJx4a65c_add_72be8 0 = .ok (.iload_n 3, 1) := by decide +kernel
theorem dJx4a65c_add_72be8_1 : decode cJx4a65c_add_72be8 1 = .ok (.aload_n 2, 1) := by decide +kernel
theorem dJx4a65c_add_72be8_2 : decode cJx4a65c_add_72be8 2 = .ok (.arraylength, 1) := by decide +kernel
theorem dJx4a65c_add_72be8_3 : decode cJx4a65c_add_72be8 3 = .ok (.if_icmp .ne 8, 3) := by decide +kernel
theorem dJx4a65c_add_72be8_6 : decode cJx4a65c_add_72be8 6 = .ok (.aload_n 0, 1) := by decide +kernel
theorem dJx4a65c_add_72be8_7 : decode cJx4a65c_add_72be8 7 = .ok (.invokevirtual 129, 3) := by decide +kernel
theorem dJx4a65c_add_72be8_10 : decode cJx4a65c_add_72be8 10 = .ok (.astore_n 2, 1) := by decide +kernel
theorem dJx4a65c_add_72be8_11 : decode cJx4a65c_add_72be8 11 = .ok (.aload_n 2, 1) := by decide +kernel
theorem dJx4a65c_add_72be8_12 : decode cJx4a65c_add_72be8 12 = .ok (.iload_n 3, 1) := by decide +kernel
theorem dJx4a65c_add_72be8_13 : decode cJx4a65c_add_72be8 13 = .ok (.aload_n 1, 1) := by decide +kernel
theorem dJx4a65c_add_72be8_14 : decode cJx4a65c_add_72be8 14 = .ok (.aastore, 1) := by decide +kernel
theorem dJx4a65c_add_72be8_15 : decode cJx4a65c_add_72be8 15 = .ok (.aload_n 0, 1) := by decide +kernel
theorem dJx4a65c_add_72be8_16 : decode cJx4a65c_add_72be8 16 = .ok (.iload_n 3, 1) := by decide +kernel
theorem dJx4a65c_add_72be8_17 : decode cJx4a65c_add_72be8 17 = .ok (.iconst 1, 1) := by decide +kernel
theorem dJx4a65c_add_72be8_18 : decode cJx4a65c_add_72be8 18 = .ok (.iadd, 1) := by decide +kernel
theorem dJx4a65c_add_72be8_19 : decode cJx4a65c_add_72be8 19 = .ok (.putfield 48, 3) := by decide +kernel
theorem dJx4a65c_add_72be8_22 : decode cJx4a65c_add_72be8 22 = .ok (.return_, 1) := by decide +kernel
theorem dJx4a65c_add_7a177_0 : decode cJx4a65c_add_7a177 0 = .ok (.aload_n 0, 1) := by decide +kernel
theorem dJx4a65c_add_7a177_1 : decode cJx4a65c_add_7a177 1 = .ok (.iload_n 1, 1) := by decide +kernel
theorem dJx4a65c_add_7a177_2 : decode cJx4a65c_add_7a177 2 = .ok (.invokevirtual 135, 3) := by decide +kernel
theorem dJx4a65c_add_7a177_5 : decode cJx4a65c_add_7a177 5 = .ok (.aload_n 0, 1) := by decide +kernel
theorem dJx4a65c_add_7a177_6 : decode cJx4a65c_add_7a177 6 = .ok (.dup, 1) := by decide +kernel
theorem dJx4a65c_add_7a177_7 : decode cJx4a65c_add_7a177 7 = .ok (.getfield 63, 3) := by decide +kernel
theorem dJx4a65c_add_7a177_10 : decode cJx4a65c_add_7a177 10 = .ok (.iconst 1, 1) := by decide +kernel
theorem dJx4a65c_add_7a177_11 : decode cJx4a65c_add_7a177 11 = .ok (.iadd, 1) := by decide +kernel
theorem dJx4a65c_add_7a177_12 : decode cJx4a65c_add_7a177 12 = .ok (.putfield 63, 3) := by decide +kernel
theorem dJx4a65c_add_7a177_15 : decode cJx4a65c_add_7a177 15 = .ok (.aload_n 0, 1) := by decide +kernel
theorem dJx4a65c_add_7a177_16 : decode cJx4a65c_add_7a177 16 = .ok (.getfield 48, 3) := by decide +kernel
theorem dJx4a65c_add_7a177_19 : decode cJx4a65c_add_7a177 19 = .ok (.dup, 1) := by decide +kernel
theorem dJx4a65c_add_7a177_20 : decode cJx4a65c_add_7a177 20 = .ok (.istore_n 3, 1) := by decide +kernel
theorem dJx4a65c_add_7a177_21 : decode cJx4a65c_add_7a177 21 = .ok (.aload_n 0, 1) := by decide +kernel
theorem dJx4a65c_add_7a177_22 : decode cJx4a65c_add_7a177 22 = .ok (.getfield 9, 3) := by decide +kernel
theorem dJx4a65c_add_7a177_25 : decode cJx4a65c_add_7a177 25 = .ok (.dup, 1) := by decide +kernel
theorem dJx4a65c_add_7a177_26 : decode cJx4a65c_add_7a177 26 = .ok (.astore 4, 2) := by decide +kernel
theorem dJx4a65c_add_7a177_28 : decode cJx4a65c_add_7a177 28 = .ok (.arraylength, 1) := by decide +kernel
theorem dJx4a65c_add_7a177_29 : decode cJx4a65c_add_7a177 29 = .ok (.if_icmp .ne 9, 3) := by decide +kernel
theorem dJx4a65c_add_7a177_32 : decode cJx4a65c_add_7a177 32 = .ok (.aload_n 0, 1) := by decide +kernel
theorem dJx4a65c_add_7a177_33 : decode cJx4a65c_add_7a177 33 = .ok (.invokevirtual 129, 3) := by decide +kernel
theorem dJx4a65c_add_7a177_36 : decode cJx4a65c_add_7a177 36 = .ok (.astore 4, 2) := by decide +kernel
theorem dJx4a65c_add_7a177_38 : decode cJx4a65c_add_7a177 38 = .ok (.aload 4, 2) := by decide +kernel
theorem dJx4a65c_add_7a177_40 : decode cJx4a65c_add_7a177 40 = .ok (.iload_n 1, 1) := by decide +kernel
theorem dJx4a65c_add_7a177_41 : decode cJx4a65c_add_7a177 41 = .ok (.aload 4, 2) := by decide +kernel
theorem dJx4a65c_add_7a177_43 : decode cJx4a65c_add_7a177 43 = .ok (.iload_n 1, 1) := by decide +kernel
theorem dJx4a65c_add_7a177_44 : decode cJx4a65c_add_7a177 44 = .ok (.iconst 1, 1) := by decide +kernel
theorem dJx4a65c_add_7a177_45 : decode cJx4a65c_add_7a177 45 = .ok (.iadd, 1) := by decide +kernel
theorem dJx4a65c_add_7a177_46 : decode cJx4a65c_add_7a177 46 = .ok (.iload_n 3, 1) := by decide +kernel
theorem dJx4a65c_add_7a177_47 : decode cJx4a65c_add_7a177 47 = .ok (.iload_n 1, 1) := by decide +kernel
theorem dJx4a65c_add_7a177_48 : decode cJx4a65c_add_7a177 48 = .ok (.isub, 1) := by decide +kernel
theorem dJx4a65c_add_7a177_49 : decode cJx4a65c_add_7a177 49 = .ok (.invokestatic 112, 3) := by decide +kernel
theorem dJx4a65c_add_7a177_52 : decode cJx4a65c_add_7a177 52 = .ok (.aload 4, 2) := by decide +kernel
theorem dJx4a65c_add_7a177_54 : decode cJx4a65c_add_7a177 54 = .ok (.iload_n 1, 1) := by decide +kernel
theorem dJx4a65c_add_7a177_55 : decode cJx4a65c_add_7a177 55 = .ok (.aload_n 2, 1) := by decide +kernel
theorem dJx4a65c_add_7a177_56 : decode cJx4a65c_add_7a177 56 = .ok (.aastore, 1) := by decide +kernel
theorem dJx4a65c_add_7a177_57 : decode cJx4a65c_add_7a177 57 = .ok (.aload_n 0, 1) := by decide +kernel
theorem dJx4a65c_add_7a177_58 : decode cJx4a65c_add_7a177 58 = .ok (.iload_n 3, 1) := by decide +kernel
theorem dJx4a65c_add_7a177_59 : decode cJx4a65c_add_7a177 59 = .ok (.iconst 1, 1) := by decide +kernel
theorem dJx4a65c_add_7a177_60 : decode cJx4a65c_add_7a177 60 = .ok (.iadd, 1) := by decide +kernel
theorem dJx4a65c_add_7a177_61 : decode cJx4a65c_add_7a177 61 = .ok (.putfield 48, 3) := by decide +kernel
theorem dJx4a65c_add_7a177_64 : decode cJx4a65c_add_7a177 64 = .ok (.return_, 1) := by decide +kernel
theorem dJx4a65c_remove_915e3_0 : decode cJx4a65c_remove_915e3 0 = .ok (.iload_n 1, 1) := by decide +kernel
theorem dJx4a65c_remove_915e3_1 : decode cJx4a65c_remove_915e3 1 = .ok (.aload_n 0, 1) := by decide +kernel
theorem dJx4a65c_remove_915e3_2 : decode cJx4a65c_remove_915e3 2 = .ok (.getfield 48, 3) := by decide +kernel
theorem dJx4a65c_remove_915e3_5 : decode cJx4a65c_remove_915e3 5 = .ok (.invokestatic 118, 3) := by decide +kernel
theorem dJx4a65c_remove_915e3_8 : decode cJx4a65c_remove_915e3 8 = .ok (.pop, 1) := by decide +kernel
theorem dJx4a65c_remove_915e3_9 : decode cJx4a65c_remove_915e3 9 = .ok (.aload_n 0, 1) := by decide +kernel
theorem dJx4a65c_remove_915e3_10 : decode cJx4a65c_remove_915e3 10 = .ok (.getfield 9, 3) := by decide +kernel
theorem dJx4a65c_remove_915e3_13 : decode cJx4a65c_remove_915e3 13 = .ok (.astore_n 2, 1) := by decide +kernel
theorem dJx4a65c_remove_915e3_14 : decode cJx4a65c_remove_915e3 14 = .ok (.aload_n 2, 1) := by decide +kernel
theorem dJx4a65c_remove_915e3_15 : decode cJx4a65c_remove_915e3 15 = .ok (.iload_n 1, 1) := by decide +kernel
theorem dJx4a65c_remove_915e3_16 : decode cJx4a65c_remove_915e3 16 = .ok (.aaload, 1) := by decide +kernel
theorem dJx4a65c_remove_915e3_17 : decode cJx4a65c_remove_915e3 17 = .ok (.astore_n 3, 1) := by decide +kernel
theorem dJx4a65c_remove_915e3_18 : decode cJx4a65c_remove_915e3 18 = .ok (.aload_n 0, 1) := by decide +kernel
theorem dJx4a65c_remove_915e3_19 : decode cJx4a65c_remove_915e3 19 = .ok (.aload_n 2, 1) := by decide +kernel
theorem dJx4a65c_remove_915e3_20 : decode cJx4a65c_remove_915e3 20 = .ok (.iload_n 1, 1) := by decide +kernel
theorem dJx4a65c_remove_915e3_21 : decode cJx4a65c_remove_915e3 21 = .ok (.invokevirtual 144, 3) := by decide +kernel
theorem dJx4a65c_remove_915e3_24 : decode cJx4a65c_remove_915e3 24 = .ok (.aload_n 3, 1) := by decide +kernel
theorem dJx4a65c_remove_915e3_25 : decode cJx4a65c_remove_915e3 25 = .ok (.areturn, 1) := by decide +kernel
theorem dJx4a65c_fastRemove_b59b0_0 : decode cJx4a65c_fastRemove_b59b0 0 = .ok (.aload_n 0, 1) := by decide +kernel
theorem dJx4a65c_fastRemove_b59b0_1 : decode cJx4a65c_fastRemove_b59b0 1 = .ok (.dup, 1) := by decide +kernel
theorem dJx4a65c_fastRemove_b59b0_2 : decode cJx4a65c_fastRemove_b59b0 2 = .ok (.getfield 63, 3) := by decide +kernel
theorem dJx4a65c_fastRemove_b59b0_5 : decode cJx4a65c_fastRemove_b59b0 5 = .ok (.iconst 1, 1) := by decide +kernel
theorem dJx4a65c_fastRemove_b59b0_6 : decode cJx4a65c_fastRemove_b59b0 6 = .ok (.iadd, 1) := by decide +kernel
theorem dJx4a65c_fastRemove_b59b0_7 : decode cJx4a65c_fastRemove_b59b0 7 = .ok (.putfield 63, 3) := by decide +kernel
theorem dJx4a65c_fastRemove_b59b0_10 : decode cJx4a65c_fastRemove_b59b0 10 = .ok (.aload_n 0, 1) := by decide +kernel
theorem dJx4a65c_fastRemove_b59b0_11 : decode cJx4a65c_fastRemove_b59b0 11 = .ok (.getfield 48, 3) := by decide +kernel
theorem dJx4a65c_fastRemove_b59b0_14 : decode cJx4a65c_fastRemove_b59b0 14 = .ok (.iconst 1, 1) := by decide +kernel
theorem dJx4a65c_fastRemove_b59b0_15 : decode cJx4a65c_fastRemove_b59b0 15 = .ok (.isub, 1) := by decide +kernel
theorem dJx4a65c_fastRemove_b59b0_16 : decode cJx4a65c_fastRemove_b59b0 16 = .ok (.dup, 1) := by decide +kernel
theorem dJx4a65c_fastRemove_b59b0_17 : decode cJx4a65c_fastRemove_b59b0 17 = .ok (.istore_n 3, 1) := by decide +kernel
theorem dJx4a65c_fastRemove_b59b0_18 : decode cJx4a65c_fastRemove_b59b0 18 = .ok (.iload_n 2, 1) := by decide +kernel
theorem dJx4a65c_fastRemove_b59b0_19 : decode cJx4a65c_fastRemove_b59b0 19 = .ok (.if_icmp .le 15, 3) := by decide +kernel
theorem dJx4a65c_fastRemove_b59b0_22 : decode cJx4a65c_fastRemove_b59b0 22 = .ok (.aload_n 1, 1) := by decide +kernel
theorem dJx4a65c_fastRemove_b59b0_23 : decode cJx4a65c_fastRemove_b59b0 23 = .ok (.iload_n 2, 1) := by decide +kernel
theorem dJx4a65c_fastRemove_b59b0_24 : decode cJx4a65c_fastRemove_b59b0 24 = .ok (.iconst 1, 1) := by decide +kernel
theorem dJx4a65c_fastRemove_b59b0_25 : decode cJx4a65c_fastRemove_b59b0 25 = .ok (.iadd, 1) := by decide +kernel
theorem dJx4a65c_fastRemove_b59b0_26 : decode cJx4a65c_fastRemove_b59b0 26 = .ok (.aload_n 1, 1) := by decide +kernel
theorem dJx4a65c_fastRemove_b59b0_27 : decode cJx4a65c_fastRemove_b59b0 27 = .ok (.iload_n 2, 1) := by decide +kernel
theorem dJx4a65c_fastRemove_b59b0_28 : decode cJx4a65c_fastRemove_b59b0 28 = .ok (.iload_n 3, 1) := by decide +kernel
theorem dJx4a65c_fastRemove_b59b0_29 : decode cJx4a65c_fastRemove_b59b0 29 = .ok (.iload_n 2, 1) := by decide +kernel
theorem dJx4a65c_fastRemove_b59b0_30 : decode cJx4a65c_fastRemove_b59b0 30 = .ok (.isub, 1) := by decide +kernel
theorem dJx4a65c_fastRemove_b59b0_31 : decode cJx4a65c_fastRemove_b59b0 31 = .ok (.invokestatic 112, 3) := by decide +kernel
theorem dJx4a65c_fastRemove_b59b0_34 : decode cJx4a65c_fastRemove_b59b0 34 = .ok (.aload_n 1, 1) := by decide +kernel
theorem dJx4a65c_fastRemove_b59b0_35 : decode cJx4a65c_fastRemove_b59b0 35 = .ok (.aload_n 0, 1) := by decide +kernel
theorem dJx4a65c_fastRemove_b59b0_36 : decode cJx4a65c_fastRemove_b59b0 36 = .ok (.iload_n 3, 1) := by decide +kernel
theorem dJx4a65c_fastRemove_b59b0_37 : decode cJx4a65c_fastRemove_b59b0 37 = .ok (.dup_x1, 1) := by decide +kernel
theorem dJx4a65c_fastRemove_b59b0_38 : decode cJx4a65c_fastRemove_b59b0 38 = .ok (.putfield 48, 3) := by decide +kernel
theorem dJx4a65c_fastRemove_b59b0_41 : decode cJx4a65c_fastRemove_b59b0 41 = .ok (.aconst_null, 1) := by decide +kernel
theorem dJx4a65c_fastRemove_b59b0_42 : decode cJx4a65c_fastRemove_b59b0 42 = .ok (.aastore, 1) := by decide +kernel
theorem dJx4a65c_fastRemove_b59b0_43 : decode cJx4a65c_fastRemove_b59b0 43 = .ok (.return_, 1) := by decide +kernel
theorem dJx4a65c_grow_d5877_0 : decode cJx4a65c_grow_d5877 0 = .ok (.aload_n 0, 1) := by decide +kernel
theorem dJx4a65c_grow_d5877_1 : decode cJx4a65c_grow_d5877 1 = .ok (.aload_n 0, 1) := by decide +kernel
theorem dJx4a65c_grow_d5877_2 : decode cJx4a65c_grow_d5877 2 = .ok (.getfield 48, 3) := by decide +kernel
theorem dJx4a65c_grow_d5877_5 : decode cJx4a65c_grow_d5877 5 = .ok (.iconst 1, 1) := by decide +kernel
theorem dJx4a65c_grow_d5877_6 : decode cJx4a65c_grow_d5877 6 = .ok (.iadd, 1) := by decide +kernel
theorem dJx4a65c_grow_d5877_7 : decode cJx4a65c_grow_d5877 7 = .ok (.invokevirtual 69, 3) := by decide +kernel
theorem dJx4a65c_grow_d5877_10 : decode cJx4a65c_grow_d5877 10 = .ok (.areturn, 1) := by decide +kernel
theorem dJx4a65c_grow_92f84_0 : decode cJx4a65c_grow_92f84 0 = .ok (.aload_n 0, 1) := by decide +kernel
theorem dJx4a65c_grow_92f84_1 : decode cJx4a65c_grow_92f84 1 = .ok (.getfield 9, 3) := by decide +kernel
theorem dJx4a65c_grow_92f84_4 : decode cJx4a65c_grow_92f84 4 = .ok (.arraylength, 1) := by decide +kernel
theorem dJx4a65c_grow_92f84_5 : decode cJx4a65c_grow_92f84 5 = .ok (.istore_n 2, 1) := by decide +kernel
theorem dJx4a65c_grow_92f84_6 : decode cJx4a65c_grow_92f84 6 = .ok (.iload_n 2, 1) := by decide +kernel
theorem dJx4a65c_grow_92f84_7 : decode cJx4a65c_grow_92f84 7 = .ok (.ifCond .gt 13, 3) := by decide +kernel
theorem dJx4a65c_grow_92f84_10 : decode cJx4a65c_grow_92f84 10 = .ok (.aload_n 0, 1) := by decide +kernel
theorem dJx4a65c_grow_92f84_11 : decode cJx4a65c_grow_92f84 11 = .ok (.getfield 9, 3) := by decide +kernel
theorem dJx4a65c_grow_92f84_14 : decode cJx4a65c_grow_92f84 14 = .ok (.getstatic 39, 3) := by decide +kernel
theorem dJx4a65c_grow_92f84_17 : decode cJx4a65c_grow_92f84 17 = .ok (.if_acmp .eq 28, 3) := by decide +kernel
theorem dJx4a65c_grow_92f84_20 : decode cJx4a65c_grow_92f84 20 = .ok (.iload_n 2, 1) := by decide +kernel
theorem dJx4a65c_grow_92f84_21 : decode cJx4a65c_grow_92f84 21 = .ok (.iload_n 1, 1) := by decide +kernel
theorem dJx4a65c_grow_92f84_22 : decode cJx4a65c_grow_92f84 22 = .ok (.iload_n 2, 1) := by decide +kernel
theorem dJx4a65c_grow_92f84_23 : decode cJx4a65c_grow_92f84 23 = .ok (.isub, 1) := by decide +kernel
theorem dJx4a65c_grow_92f84_24 : decode cJx4a65c_grow_92f84 24 = .ok (.iload_n 2, 1) := by decide +kernel
theorem dJx4a65c_grow_92f84_25 : decode cJx4a65c_grow_92f84 25 = .ok (.iconst 1, 1) := by decide +kernel
theorem dJx4a65c_grow_92f84_26 : decode cJx4a65c_grow_92f84 26 = .ok (.ishr, 1) := by decide +kernel
theorem dJx4a65c_grow_92f84_27 : decode cJx4a65c_grow_92f84 27 = .ok (.invokestatic 73, 3) := by decide +kernel
theorem dJx4a65c_grow_92f84_30 : decode cJx4a65c_grow_92f84 30 = .ok (.istore_n 3, 1) := by decide +kernel
theorem dJx4a65c_grow_92f84_31 : decode cJx4a65c_grow_92f84 31 = .ok (.aload_n 0, 1) := by decide +kernel
theorem dJx4a65c_grow_92f84_32 : decode cJx4a65c_grow_92f84 32 = .ok (.aload_n 0, 1) := by decide +kernel
theorem dJx4a65c_grow_92f84_33 : decode cJx4a65c_grow_92f84 33 = .ok (.getfield 9, 3) := by decide +kernel
theorem dJx4a65c_grow_92f84_36 : decode cJx4a65c_grow_92f84 36 = .ok (.iload_n 3, 1) := by decide +kernel
theorem dJx4a65c_grow_92f84_37 : decode cJx4a65c_grow_92f84 37 = .ok (.invokestatic 66, 3) := by decide +kernel
theorem dJx4a65c_grow_92f84_40 : decode cJx4a65c_grow_92f84 40 = .ok (.dup_x1, 1) := by decide +kernel
theorem dJx4a65c_grow_92f84_41 : decode cJx4a65c_grow_92f84 41 = .ok (.putfield 9, 3) := by decide +kernel
theorem dJx4a65c_grow_92f84_44 : decode cJx4a65c_grow_92f84 44 = .ok (.areturn, 1) := by decide +kernel
theorem dJx4a65c_grow_92f84_45 : decode cJx4a65c_grow_92f84 45 = .ok (.aload_n 0, 1) := by decide +kernel
theorem dJx4a65c_grow_92f84_46 : decode cJx4a65c_grow_92f84 46 = .ok (.bipush 10, 2) := by decide +kernel
theorem dJx4a65c_grow_92f84_48 : decode cJx4a65c_grow_92f84 48 = .ok (.iload_n 1, 1) := by decide +kernel
theorem dJx4a65c_grow_92f84_49 : decode cJx4a65c_grow_92f84 49 = .ok (.invokestatic 79, 3) := by decide +kernel
theorem dJx4a65c_grow_92f84_52 : decode cJx4a65c_grow_92f84 52 = .ok (.anewarray 7, 3) := by decide +kernel
theorem dJx4a65c_grow_92f84_55 : decode cJx4a65c_grow_92f84 55 = .ok (.dup_x1, 1) := by decide +kernel
theorem dJx4a65c_grow_92f84_56 : decode cJx4a65c_grow_92f84 56 = .ok (.putfield 9, 3) := by decide +kernel
theorem dJx4a65c_grow_92f84_59 : decode cJx4a65c_grow_92f84 59 = .ok (.areturn, 1) := by decide +kernel
theorem dJx4a65c_rangeCheckForAdd_d00df_0 : decode cJx4a65c_rangeCheckForAdd_d00df 0 = .ok (.iload_n 1, 1) := by decide +kernel
theorem dJx4a65c_rangeCheckForAdd_d00df_1 : decode cJx4a65c_rangeCheckForAdd_d00df 1 = .ok (.aload_n 0, 1) := by decide +kernel
theorem dJx4a65c_rangeCheckForAdd_d00df_2 : decode cJx4a65c_rangeCheckForAdd_d00df 2 = .ok (.getfield 48, 3) := by decide +kernel
theorem dJx4a65c_rangeCheckForAdd_d00df_5 : decode cJx4a65c_rangeCheckForAdd_d00df 5 = .ok (.if_icmp .gt 7, 3) := by decide +kernel
theorem dJx4a65c_rangeCheckForAdd_d00df_8 : decode cJx4a65c_rangeCheckForAdd_d00df 8 = .ok (.iload_n 1, 1) := by decide +kernel
theorem dJx4a65c_rangeCheckForAdd_d00df_9 : decode cJx4a65c_rangeCheckForAdd_d00df 9 = .ok (.ifCond .ge 16, 3) := by decide +kernel
theorem dJx4a65c_rangeCheckForAdd_d00df_12 : decode cJx4a65c_rangeCheckForAdd_d00df 12 = .ok (.new 187, 3) := by decide +kernel
theorem dJx4a65c_rangeCheckForAdd_d00df_15 : decode cJx4a65c_rangeCheckForAdd_d00df 15 = .ok (.dup, 1) := by decide +kernel
theorem dJx4a65c_rangeCheckForAdd_d00df_16 : decode cJx4a65c_rangeCheckForAdd_d00df 16 = .ok (.aload_n 0, 1) := by decide +kernel
theorem dJx4a65c_rangeCheckForAdd_d00df_17 : decode cJx4a65c_rangeCheckForAdd_d00df 17 = .ok (.iload_n 1, 1) := by decide +kernel
theorem dJx4a65c_rangeCheckForAdd_d00df_18 : decode cJx4a65c_rangeCheckForAdd_d00df 18 = .ok (.invokevirtual 198, 3) := by decide +kernel
theorem dJx4a65c_rangeCheckForAdd_d00df_21 : decode cJx4a65c_rangeCheckForAdd_d00df 21 = .ok (.invokespecial 193, 3) := by decide +kernel
theorem dJx4a65c_rangeCheckForAdd_d00df_24 : decode cJx4a65c_rangeCheckForAdd_d00df 24 = .ok (.athrow, 1) := by decide +kernel
theorem dJx4a65c_rangeCheckForAdd_d00df_25 : decode cJx4a65c_rangeCheckForAdd_d00df 25 = .ok (.return_, 1) := by decide +kernel
theorem dJ15_checkIndex_7cf53_0 : decode cJ15_checkIndex_7cf53 0 = .ok (.iload_n 0, 1) := by decide +kernel
theorem dJ15_checkIndex_7cf53_1 : decode cJ15_checkIndex_7cf53 1 = .ok (.iload_n 1, 1) := by decide +kernel
theorem dJ15_checkIndex_7cf53_2 : decode cJ15_checkIndex_7cf53 2 = .ok (.aconst_null, 1) := by decide +kernel
theorem dJ15_checkIndex_7cf53_3 : decode cJ15_checkIndex_7cf53 3 = .ok (.invokestatic 105, 3) := by decide +kernel
theorem dJ15_checkIndex_7cf53_6 : decode cJ15_checkIndex_7cf53 6 = .ok (.ireturn, 1) := by decide +kernel
theorem dJ3_checkIndex_8e157_0 : decode cJ3_checkIndex_8e157 0 = .ok (.iload_n 0, 1) := by decide +kernel
theorem dJ3_checkIndex_8e157_1 : decode cJ3_checkIndex_8e157 1 = .ok (.ifCond .lt 8, 3) := by decide +kernel
theorem dJ3_checkIndex_8e157_4 : decode cJ3_checkIndex_8e157 4 = .ok (.iload_n 0, 1) := by decide +kernel
theorem dJ3_checkIndex_8e157_5 : decode cJ3_checkIndex_8e157 5 = .ok (.iload_n 1, 1) := by decide +kernel
theorem dJ3_checkIndex_8e157_6 : decode cJ3_checkIndex_8e157 6 = .ok (.if_icmp .lt 10, 3) := by decide +kernel
theorem dJ3_checkIndex_8e157_9 : decode cJ3_checkIndex_8e157 9 = .ok (.aload_n 2, 1) := by decide +kernel
theorem dJ3_checkIndex_8e157_10 : decode cJ3_checkIndex_8e157 10 = .ok (.iload_n 0, 1) := by decide +kernel
theorem dJ3_checkIndex_8e157_11 : decode cJ3_checkIndex_8e157 11 = .ok (.iload_n 1, 1) := by decide +kernel
theorem dJ3_checkIndex_8e157_12 : decode cJ3_checkIndex_8e157 12 = .ok (.invokestatic 95, 3) := by decide +kernel
theorem dJ3_checkIndex_8e157_15 : decode cJ3_checkIndex_8e157 15 = .ok (.athrow, 1) := by decide +kernel
theorem dJ3_checkIndex_8e157_16 : decode cJ3_checkIndex_8e157 16 = .ok (.iload_n 0, 1) := by decide +kernel
theorem dJ3_checkIndex_8e157_17 : decode cJ3_checkIndex_8e157 17 = .ok (.ireturn, 1) := by decide +kernel
theorem dJ7_fill_53178_0 : decode cJ7_fill_53178 0 = .ok (.iconst 0, 1) := by decide +kernel
theorem dJ7_fill_53178_1 : decode cJ7_fill_53178 1 = .ok (.istore_n 2, 1) := by decide +kernel
theorem dJ7_fill_53178_2 : decode cJ7_fill_53178 2 = .ok (.aload_n 0, 1) := by decide +kernel
theorem dJ7_fill_53178_3 : decode cJ7_fill_53178 3 = .ok (.arraylength, 1) := by decide +kernel
theorem dJ7_fill_53178_4 : decode cJ7_fill_53178 4 = .ok (.istore_n 3, 1) := by decide +kernel
theorem dJ7_fill_53178_5 : decode cJ7_fill_53178 5 = .ok (.iload_n 2, 1) := by decide +kernel
theorem dJ7_fill_53178_6 : decode cJ7_fill_53178 6 = .ok (.iload_n 3, 1) := by decide +kernel
theorem dJ7_fill_53178_7 : decode cJ7_fill_53178 7 = .ok (.if_icmp .ge 13, 3) := by decide +kernel
theorem dJ7_fill_53178_10 : decode cJ7_fill_53178 10 = .ok (.aload_n 0, 1) := by decide +kernel
theorem dJ7_fill_53178_11 : decode cJ7_fill_53178 11 = .ok (.iload_n 2, 1) := by decide +kernel
theorem dJ7_fill_53178_12 : decode cJ7_fill_53178 12 = .ok (.iload_n 1, 1) := by decide +kernel
theorem dJ7_fill_53178_13 : decode cJ7_fill_53178 13 = .ok (.iastore, 1) := by decide +kernel
theorem dJ7_fill_53178_14 : decode cJ7_fill_53178 14 = .ok (.iinc 2 1, 3) := by decide +kernel
theorem dJ7_fill_53178_17 : decode cJ7_fill_53178 17 = .ok (.goto (-12), 3) := by decide +kernel
theorem dJ7_fill_53178_20 : decode cJ7_fill_53178 20 = .ok (.return_, 1) := by decide +kernel
theorem dJ7_copyOf_1904c_0 : decode cJ7_copyOf_1904c 0 = .ok (.aload_n 0, 1) := by decide +kernel
theorem dJ7_copyOf_1904c_1 : decode cJ7_copyOf_1904c 1 = .ok (.iload_n 1, 1) := by decide +kernel
theorem dJ7_copyOf_1904c_2 : decode cJ7_copyOf_1904c 2 = .ok (.aload_n 0, 1) := by decide +kernel
theorem dJ7_copyOf_1904c_3 : decode cJ7_copyOf_1904c 3 = .ok (.invokevirtual 86, 3) := by decide +kernel
theorem dJ7_copyOf_1904c_6 : decode cJ7_copyOf_1904c 6 = .ok (.invokestatic 300, 3) := by decide +kernel
theorem dJ7_copyOf_1904c_9 : decode cJ7_copyOf_1904c 9 = .ok (.areturn, 1) := by decide +kernel
theorem dJ7_copyOf_6403c_0 : decode cJ7_copyOf_6403c 0 = .ok (.aload_n 2, 1) := by decide +kernel
theorem dJ7_copyOf_6403c_1 : decode cJ7_copyOf_6403c 1 = .ok (.ldc 110, 2) := by decide +kernel
theorem dJ7_copyOf_6403c_3 : decode cJ7_copyOf_6403c 3 = .ok (.if_acmp .ne 10, 3) := by decide +kernel
theorem dJ7_copyOf_6403c_6 : decode cJ7_copyOf_6403c 6 = .ok (.iload_n 1, 1) := by decide +kernel
theorem dJ7_copyOf_6403c_7 : decode cJ7_copyOf_6403c 7 = .ok (.anewarray 2, 3) := by decide +kernel
theorem dJ7_copyOf_6403c_10 : decode cJ7_copyOf_6403c 10 = .ok (.goto 14, 3) := by decide +kernel
theorem dJ7_copyOf_6403c_13 : decode cJ7_copyOf_6403c 13 = .ok (.aload_n 2, 1) := by decide +kernel
theorem dJ7_copyOf_6403c_14 : decode cJ7_copyOf_6403c 14 = .ok (.invokevirtual 90, 3) := by decide +kernel
theorem dJ7_copyOf_6403c_17 : decode cJ7_copyOf_6403c 17 = .ok (.iload_n 1, 1) := by decide +kernel
theorem dJ7_copyOf_6403c_18 : decode cJ7_copyOf_6403c 18 = .ok (.invokestatic 95, 3) := by decide +kernel
theorem dJ7_copyOf_6403c_21 : decode cJ7_copyOf_6403c 21 = .ok (.checkcast 110, 3) := by decide +kernel
theorem dJ7_copyOf_6403c_24 : decode cJ7_copyOf_6403c 24 = .ok (.astore_n 3, 1) := by decide +kernel
theorem dJ7_copyOf_6403c_25 : decode cJ7_copyOf_6403c 25 = .ok (.aload_n 0, 1) := by decide +kernel
theorem dJ7_copyOf_6403c_26 : decode cJ7_copyOf_6403c 26 = .ok (.iconst 0, 1) := by decide +kernel
theorem dJ7_copyOf_6403c_27 : decode cJ7_copyOf_6403c 27 = .ok (.aload_n 3, 1) := by decide +kernel
theorem dJ7_copyOf_6403c_28 : decode cJ7_copyOf_6403c 28 = .ok (.iconst 0, 1) := by decide +kernel
theorem dJ7_copyOf_6403c_29 : decode cJ7_copyOf_6403c 29 = .ok (.aload_n 0, 1) := by decide +kernel
theorem dJ7_copyOf_6403c_30 : decode cJ7_copyOf_6403c 30 = .ok (.arraylength, 1) := by decide +kernel
theorem dJ7_copyOf_6403c_31 : decode cJ7_copyOf_6403c 31 = .ok (.iload_n 1, 1) := by decide +kernel
theorem dJ7_copyOf_6403c_32 : decode cJ7_copyOf_6403c 32 = .ok (.invokestatic 304, 3) := by decide +kernel
theorem dJ7_copyOf_6403c_35 : decode cJ7_copyOf_6403c 35 = .ok (.invokestatic 150, 3) := by decide +kernel
theorem dJ7_copyOf_6403c_38 : decode cJ7_copyOf_6403c 38 = .ok (.aload_n 3, 1) := by decide +kernel
theorem dJ7_copyOf_6403c_39 : decode cJ7_copyOf_6403c 39 = .ok (.areturn, 1) := by decide +kernel
theorem dJ8_newLength_cabcc_0 : decode cJ8_newLength_cabcc 0 = .ok (.iload_n 0, 1) := by decide +kernel
theorem dJ8_newLength_cabcc_1 : decode cJ8_newLength_cabcc 1 = .ok (.iload_n 1, 1) := by decide +kernel
theorem dJ8_newLength_cabcc_2 : decode cJ8_newLength_cabcc 2 = .ok (.iload_n 2, 1) := by decide +kernel
theorem dJ8_newLength_cabcc_3 : decode cJ8_newLength_cabcc 3 = .ok (.invokestatic 194, 3) := by decide +kernel
theorem dJ8_newLength_cabcc_6 : decode cJ8_newLength_cabcc 6 = .ok (.iadd, 1) := by decide +kernel
theorem dJ8_newLength_cabcc_7 : decode cJ8_newLength_cabcc 7 = .ok (.istore_n 3, 1) := by decide +kernel
theorem dJ8_newLength_cabcc_8 : decode cJ8_newLength_cabcc 8 = .ok (.iconst 0, 1) := by decide +kernel
theorem dJ8_newLength_cabcc_9 : decode cJ8_newLength_cabcc 9 = .ok (.iload_n 3, 1) := by decide +kernel
theorem dJ8_newLength_cabcc_10 : decode cJ8_newLength_cabcc 10 = .ok (.if_icmp .ge 11, 3) := by decide +kernel
theorem dJ8_newLength_cabcc_13 : decode cJ8_newLength_cabcc 13 = .ok (.iload_n 3, 1) := by decide +kernel
theorem dJ8_newLength_cabcc_14 : decode cJ8_newLength_cabcc 14 = .ok (.ldc 200, 2) := by decide +kernel
theorem dJ8_newLength_cabcc_16 : decode cJ8_newLength_cabcc 16 = .ok (.if_icmp .gt 5, 3) := by decide +kernel
theorem dJ8_newLength_cabcc_19 : decode cJ8_newLength_cabcc 19 = .ok (.iload_n 3, 1) := by decide +kernel
theorem dJ8_newLength_cabcc_20 : decode cJ8_newLength_cabcc 20 = .ok (.ireturn, 1) := by decide +kernel
theorem dJ8_newLength_cabcc_21 : decode cJ8_newLength_cabcc 21 = .ok (.iload_n 0, 1) := by decide +kernel
theorem dJ8_newLength_cabcc_22 : decode cJ8_newLength_cabcc 22 = .ok (.iload_n 1, 1) := by decide +kernel
theorem dJ8_newLength_cabcc_23 : decode cJ8_newLength_cabcc 23 = .ok (.invokestatic 201, 3) := by decide +kernel
theorem dJ8_newLength_cabcc_26 : decode cJ8_newLength_cabcc 26 = .ok (.ireturn, 1) := by decide +kernel
