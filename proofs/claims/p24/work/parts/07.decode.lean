/-! ===== decode rows ===== -/
theorem dX5_init_0 : decode cX5_init 0 = .ok (.aload_n 0, 1) := by decide +kernel
theorem dX5_init_1 : decode cX5_init 1 = .ok (.invokespecial 1, 3) := by decide +kernel
theorem dX5_init_4 : decode cX5_init 4 = .ok (.aload_n 0, 1) := by decide +kernel
theorem dX5_init_5 : decode cX5_init 5 = .ok (.new 7, 3) := by decide +kernel
theorem dX5_init_8 : decode cX5_init 8 = .ok (.dup, 1) := by decide +kernel
theorem dX5_init_9 : decode cX5_init 9 = .ok (.invokespecial 9, 3) := by decide +kernel
theorem dX5_init_12 : decode cX5_init 12 = .ok (.putfield 10, 3) := by decide +kernel
theorem dX5_init_15 : decode cX5_init 15 = .ok (.aload_n 0, 1) := by decide +kernel
theorem dX5_init_16 : decode cX5_init 16 = .ok (.new 7, 3) := by decide +kernel
theorem dX5_init_19 : decode cX5_init 19 = .ok (.dup, 1) := by decide +kernel
theorem dX5_init_20 : decode cX5_init 20 = .ok (.invokespecial 9, 3) := by decide +kernel
theorem dX5_init_23 : decode cX5_init 23 = .ok (.putfield 16, 3) := by decide +kernel
theorem dX5_init_26 : decode cX5_init 26 = .ok (.aload_n 0, 1) := by decide +kernel
theorem dX5_init_27 : decode cX5_init 27 = .ok (.bipush 10, 2) := by decide +kernel
theorem dX5_init_29 : decode cX5_init 29 = .ok (.newarray .int, 2) := by decide +kernel
theorem dX5_init_31 : decode cX5_init 31 = .ok (.putfield 19, 3) := by decide +kernel
theorem dX5_init_34 : decode cX5_init 34 = .ok (.aload_n 0, 1) := by decide +kernel
theorem dX5_init_35 : decode cX5_init 35 = .ok (.getfield 19, 3) := by decide +kernel
theorem dX5_init_38 : decode cX5_init 38 = .ok (.iconst (-1), 1) := by decide +kernel
theorem dX5_init_39 : decode cX5_init 39 = .ok (.invokestatic 23, 3) := by decide +kernel
theorem dX5_init_42 : decode cX5_init 42 = .ok (.aload_n 0, 1) := by decide +kernel
theorem dX5_init_43 : decode cX5_init 43 = .ok (.iconst 0, 1) := by decide +kernel
theorem dX5_init_44 : decode cX5_init 44 = .ok (.putfield 29, 3) := by decide +kernel
theorem dX5_init_47 : decode cX5_init 47 = .ok (.return_, 1) := by decide +kernel
theorem dX5_puppet_0 : decode cX5_puppet 0 = .ok (.iload_n 1, 1) := by decide +kernel
theorem dX5_puppet_1 : decode cX5_puppet 1 = .ok (.iconst 0, 1) := by decide +kernel
theorem dX5_puppet_2 : decode cX5_puppet 2 = .ok (.sipush 999, 3) := by decide +kernel
theorem dX5_puppet_5 : decode cX5_puppet 5 = .ok (.invokestatic 33, 3) := by decide +kernel
theorem dX5_puppet_8 : decode cX5_puppet 8 = .ok (.iload_n 2, 1) := by decide +kernel
theorem dX5_puppet_9 : decode cX5_puppet 9 = .ok (.iconst 0, 1) := by decide +kernel
theorem dX5_puppet_10 : decode cX5_puppet 10 = .ok (.sipush 1500, 3) := by decide +kernel
theorem dX5_puppet_13 : decode cX5_puppet 13 = .ok (.invokestatic 33, 3) := by decide +kernel
theorem dX5_puppet_16 : decode cX5_puppet 16 = .ok (.aload_n 0, 1) := by decide +kernel
theorem dX5_puppet_17 : decode cX5_puppet 17 = .ok (.getfield 10, 3) := by decide +kernel
theorem dX5_puppet_20 : decode cX5_puppet 20 = .ok (.invokevirtual 37, 3) := by decide +kernel
theorem dX5_puppet_23 : decode cX5_puppet 23 = .ok (.bipush 8, 2) := by decide +kernel
theorem dX5_puppet_25 : decode cX5_puppet 25 = .ok (.if_icmp .lt 13, 3) := by decide +kernel
theorem dX5_puppet_28 : decode cX5_puppet 28 = .ok (.new 41, 3) := by decide +kernel
theorem dX5_puppet_31 : decode cX5_puppet 31 = .ok (.dup, 1) := by decide +kernel
theorem dX5_puppet_32 : decode cX5_puppet 32 = .ok (.ldc 43, 2) := by decide +kernel
theorem dX5_puppet_34 : decode cX5_puppet 34 = .ok (.invokespecial 45, 3) := by decide +kernel
theorem dX5_puppet_37 : decode cX5_puppet 37 = .ok (.athrow, 1) := by decide +kernel
theorem dX5_puppet_38 : decode cX5_puppet 38 = .ok (.aload_n 0, 1) := by decide +kernel
theorem dX5_puppet_39 : decode cX5_puppet 39 = .ok (.getfield 10, 3) := by decide +kernel
theorem dX5_puppet_42 : decode cX5_puppet 42 = .ok (.new 48, 3) := by decide +kernel
theorem dX5_puppet_45 : decode cX5_puppet 45 = .ok (.dup, 1) := by decide +kernel
theorem dX5_puppet_46 : decode cX5_puppet 46 = .ok (.iload_n 1, 1) := by decide +kernel
theorem dX5_puppet_47 : decode cX5_puppet 47 = .ok (.iload_n 2, 1) := by decide +kernel
theorem dX5_puppet_48 : decode cX5_puppet 48 = .ok (.invokespecial 50, 3) := by decide +kernel
theorem dX5_puppet_51 : decode cX5_puppet 51 = .ok (.invokevirtual 53, 3) := by decide +kernel
theorem dX5_puppet_54 : decode cX5_puppet 54 = .ok (.pop, 1) := by decide +kernel
theorem dX5_puppet_55 : decode cX5_puppet 55 = .ok (.aload_n 0, 1) := by decide +kernel
theorem dX5_puppet_56 : decode cX5_puppet 56 = .ok (.getfield 10, 3) := by decide +kernel
theorem dX5_puppet_59 : decode cX5_puppet 59 = .ok (.invokevirtual 37, 3) := by decide +kernel
theorem dX5_puppet_62 : decode cX5_puppet 62 = .ok (.iconst 1, 1) := by decide +kernel
theorem dX5_puppet_63 : decode cX5_puppet 63 = .ok (.isub, 1) := by decide +kernel
theorem dX5_puppet_64 : decode cX5_puppet 64 = .ok (.ireturn, 1) := by decide +kernel
theorem dX5_needWithin_0 : decode cX5_needWithin 0 = .ok (.iload_n 0, 1) := by decide +kernel
theorem dX5_needWithin_1 : decode cX5_needWithin 1 = .ok (.iload_n 1, 1) := by decide +kernel
theorem dX5_needWithin_2 : decode cX5_needWithin 2 = .ok (.if_icmp .lt 8, 3) := by decide +kernel
theorem dX5_needWithin_5 : decode cX5_needWithin 5 = .ok (.iload_n 0, 1) := by decide +kernel
theorem dX5_needWithin_6 : decode cX5_needWithin 6 = .ok (.iload_n 2, 1) := by decide +kernel
theorem dX5_needWithin_7 : decode cX5_needWithin 7 = .ok (.if_icmp .le 13, 3) := by decide +kernel
theorem dX5_needWithin_10 : decode cX5_needWithin 10 = .ok (.new 210, 3) := by decide +kernel
theorem dX5_needWithin_13 : decode cX5_needWithin 13 = .ok (.dup, 1) := by decide +kernel
theorem dX5_needWithin_14 : decode cX5_needWithin 14 = .ok (.ldc 212, 2) := by decide +kernel
theorem dX5_needWithin_16 : decode cX5_needWithin 16 = .ok (.invokespecial 214, 3) := by decide +kernel
theorem dX5_needWithin_19 : decode cX5_needWithin 19 = .ok (.athrow, 1) := by decide +kernel
theorem dX5_needWithin_20 : decode cX5_needWithin 20 = .ok (.return_, 1) := by decide +kernel
theorem dX2_init_0 : decode cX2_init 0 = .ok (.aload_n 0, 1) := by decide +kernel
theorem dX2_init_1 : decode cX2_init 1 = .ok (.invokespecial 3, 3) := by decide +kernel
theorem dX2_init_4 : decode cX2_init 4 = .ok (.aload_n 0, 1) := by decide +kernel
theorem dX2_init_5 : decode cX2_init 5 = .ok (.iload_n 1, 1) := by decide +kernel
theorem dX2_init_6 : decode cX2_init 6 = .ok (.putfield 9, 3) := by decide +kernel
theorem dX2_init_9 : decode cX2_init 9 = .ok (.aload_n 0, 1) := by decide +kernel
theorem dX2_init_10 : decode cX2_init 10 = .ok (.iload_n 2, 1) := by decide +kernel
theorem dX2_init_11 : decode cX2_init 11 = .ok (.putfield 15, 3) := by decide +kernel
theorem dX2_init_14 : decode cX2_init 14 = .ok (.aload_n 0, 1) := by decide +kernel
theorem dX2_init_15 : decode cX2_init 15 = .ok (.new 18, 3) := by decide +kernel
theorem dX2_init_18 : decode cX2_init 18 = .ok (.dup, 1) := by decide +kernel
theorem dX2_init_19 : decode cX2_init 19 = .ok (.invokespecial 20, 3) := by decide +kernel
theorem dX2_init_22 : decode cX2_init 22 = .ok (.putfield 21, 3) := by decide +kernel
theorem dX2_init_25 : decode cX2_init 25 = .ok (.aload_n 0, 1) := by decide +kernel
theorem dX2_init_26 : decode cX2_init 26 = .ok (.iconst (-1), 1) := by decide +kernel
theorem dX2_init_27 : decode cX2_init 27 = .ok (.putfield 25, 3) := by decide +kernel
theorem dX2_init_30 : decode cX2_init 30 = .ok (.aload_n 0, 1) := by decide +kernel
theorem dX2_init_31 : decode cX2_init 31 = .ok (.iconst 0, 1) := by decide +kernel
theorem dX2_init_32 : decode cX2_init 32 = .ok (.putfield 28, 3) := by decide +kernel
theorem dX2_init_35 : decode cX2_init 35 = .ok (.aload_n 0, 1) := by decide +kernel
theorem dX2_init_36 : decode cX2_init 36 = .ok (.new 18, 3) := by decide +kernel
theorem dX2_init_39 : decode cX2_init 39 = .ok (.dup, 1) := by decide +kernel
theorem dX2_init_40 : decode cX2_init 40 = .ok (.invokespecial 20, 3) := by decide +kernel
theorem dX2_init_43 : decode cX2_init 43 = .ok (.putfield 31, 3) := by decide +kernel
theorem dX2_init_46 : decode cX2_init 46 = .ok (.aload_n 0, 1) := by decide +kernel
theorem dX2_init_47 : decode cX2_init 47 = .ok (.new 34, 3) := by decide +kernel
theorem dX2_init_50 : decode cX2_init 50 = .ok (.dup, 1) := by decide +kernel
theorem dX2_init_51 : decode cX2_init 51 = .ok (.invokespecial 36, 3) := by decide +kernel
theorem dX2_init_54 : decode cX2_init 54 = .ok (.putfield 37, 3) := by decide +kernel
theorem dX2_init_57 : decode cX2_init 57 = .ok (.aload_n 0, 1) := by decide +kernel
theorem dX2_init_58 : decode cX2_init 58 = .ok (.iconst 0, 1) := by decide +kernel
theorem dX2_init_59 : decode cX2_init 59 = .ok (.putfield 41, 3) := by decide +kernel
theorem dX2_init_62 : decode cX2_init 62 = .ok (.return_, 1) := by decide +kernel
theorem dX1_init_0 : decode cX1_init 0 = .ok (.aload_n 0, 1) := by decide +kernel
theorem dX1_init_1 : decode cX1_init 1 = .ok (.invokespecial 3, 3) := by decide +kernel
theorem dX1_init_4 : decode cX1_init 4 = .ok (.return_, 1) := by decide +kernel
theorem dX5_setLength_0 : decode cX5_setLength 0 = .ok (.aload_n 0, 1) := by decide +kernel
theorem dX5_setLength_1 : decode cX5_setLength 1 = .ok (.iload_n 1, 1) := by decide +kernel
theorem dX5_setLength_2 : decode cX5_setLength 2 = .ok (.invokevirtual 57, 3) := by decide +kernel
theorem dX5_setLength_5 : decode cX5_setLength 5 = .ok (.astore_n 3, 1) := by decide +kernel
theorem dX5_setLength_6 : decode cX5_setLength 6 = .ok (.iload_n 2, 1) := by decide +kernel
theorem dX5_setLength_7 : decode cX5_setLength 7 = .ok (.iconst 0, 1) := by decide +kernel
theorem dX5_setLength_8 : decode cX5_setLength 8 = .ok (.sipush 1500, 3) := by decide +kernel
theorem dX5_setLength_11 : decode cX5_setLength 11 = .ok (.invokestatic 33, 3) := by decide +kernel
theorem dX5_setLength_14 : decode cX5_setLength 14 = .ok (.aload_n 3, 1) := by decide +kernel
theorem dX5_setLength_15 : decode cX5_setLength 15 = .ok (.getfield 61, 3) := by decide +kernel
theorem dX5_setLength_18 : decode cX5_setLength 18 = .ok (.istore 4, 2) := by decide +kernel
theorem dX5_setLength_20 : decode cX5_setLength 20 = .ok (.aload_n 3, 1) := by decide +kernel
theorem dX5_setLength_21 : decode cX5_setLength 21 = .ok (.iload_n 2, 1) := by decide +kernel
theorem dX5_setLength_22 : decode cX5_setLength 22 = .ok (.putfield 61, 3) := by decide +kernel
theorem dX5_setLength_25 : decode cX5_setLength 25 = .ok (.iload 4, 2) := by decide +kernel
theorem dX5_setLength_27 : decode cX5_setLength 27 = .ok (.ireturn, 1) := by decide +kernel
theorem dX5_puppetNumbered_0 : decode cX5_puppetNumbered 0 = .ok (.iload_n 1, 1) := by decide +kernel
theorem dX5_puppetNumbered_1 : decode cX5_puppetNumbered 1 = .ok (.ifCond .lt 14, 3) := by decide +kernel
theorem dX5_puppetNumbered_4 : decode cX5_puppetNumbered 4 = .ok (.iload_n 1, 1) := by decide +kernel
theorem dX5_puppetNumbered_5 : decode cX5_puppetNumbered 5 = .ok (.aload_n 0, 1) := by decide +kernel
theorem dX5_puppetNumbered_6 : decode cX5_puppetNumbered 6 = .ok (.getfield 10, 3) := by decide +kernel
theorem dX5_puppetNumbered_9 : decode cX5_puppetNumbered 9 = .ok (.invokevirtual 37, 3) := by decide +kernel
theorem dX5_puppetNumbered_12 : decode cX5_puppetNumbered 12 = .ok (.if_icmp .lt 13, 3) := by decide +kernel
theorem dX5_puppetNumbered_15 : decode cX5_puppetNumbered 15 = .ok (.new 91, 3) := by decide +kernel
theorem dX5_puppetNumbered_18 : decode cX5_puppetNumbered 18 = .ok (.dup, 1) := by decide +kernel
theorem dX5_puppetNumbered_19 : decode cX5_puppetNumbered 19 = .ok (.ldc 215, 2) := by decide +kernel
theorem dX5_puppetNumbered_21 : decode cX5_puppetNumbered 21 = .ok (.invokespecial 95, 3) := by decide +kernel
theorem dX5_puppetNumbered_24 : decode cX5_puppetNumbered 24 = .ok (.athrow, 1) := by decide +kernel
theorem dX5_puppetNumbered_25 : decode cX5_puppetNumbered 25 = .ok (.aload_n 0, 1) := by decide +kernel
theorem dX5_puppetNumbered_26 : decode cX5_puppetNumbered 26 = .ok (.getfield 10, 3) := by decide +kernel
theorem dX5_puppetNumbered_29 : decode cX5_puppetNumbered 29 = .ok (.iload_n 1, 1) := by decide +kernel
theorem dX5_puppetNumbered_30 : decode cX5_puppetNumbered 30 = .ok (.invokevirtual 157, 3) := by decide +kernel
theorem dX5_puppetNumbered_33 : decode cX5_puppetNumbered 33 = .ok (.checkcast 48, 3) := by decide +kernel
theorem dX5_puppetNumbered_36 : decode cX5_puppetNumbered 36 = .ok (.areturn, 1) := by decide +kernel
theorem dX5_hear_0 : decode cX5_hear 0 = .ok (.iload_n 1, 1) := by decide +kernel
theorem dX5_hear_1 : decode cX5_hear 1 = .ok (.ifCond .lt 12, 3) := by decide +kernel
theorem dX5_hear_4 : decode cX5_hear 4 = .ok (.iload_n 1, 1) := by decide +kernel
theorem dX5_hear_5 : decode cX5_hear 5 = .ok (.aload_n 0, 1) := by decide +kernel
theorem dX5_hear_6 : decode cX5_hear 6 = .ok (.getfield 19, 3) := by decide +kernel
theorem dX5_hear_9 : decode cX5_hear 9 = .ok (.arraylength, 1) := by decide +kernel
theorem dX5_hear_10 : decode cX5_hear 10 = .ok (.if_icmp .lt 13, 3) := by decide +kernel
theorem dX5_hear_13 : decode cX5_hear 13 = .ok (.new 91, 3) := by decide +kernel
theorem dX5_hear_16 : decode cX5_hear 16 = .ok (.dup, 1) := by decide +kernel
theorem dX5_hear_17 : decode cX5_hear 17 = .ok (.ldc 93, 2) := by decide +kernel
theorem dX5_hear_19 : decode cX5_hear 19 = .ok (.invokespecial 95, 3) := by decide +kernel
theorem dX5_hear_22 : decode cX5_hear 22 = .ok (.athrow, 1) := by decide +kernel
theorem dX5_hear_23 : decode cX5_hear 23 = .ok (.iload_n 2, 1) := by decide +kernel
theorem dX5_hear_24 : decode cX5_hear 24 = .ok (.iconst (-1), 1) := by decide +kernel
theorem dX5_hear_25 : decode cX5_hear 25 = .ok (.if_icmp .eq 11, 3) := by decide +kernel
theorem dX5_hear_28 : decode cX5_hear 28 = .ok (.iload_n 2, 1) := by decide +kernel
theorem dX5_hear_29 : decode cX5_hear 29 = .ok (.iconst 0, 1) := by decide +kernel
theorem dX5_hear_30 : decode cX5_hear 30 = .ok (.sipush 999, 3) := by decide +kernel
theorem dX5_hear_33 : decode cX5_hear 33 = .ok (.invokestatic 33, 3) := by decide +kernel
theorem dX5_hear_36 : decode cX5_hear 36 = .ok (.aload_n 0, 1) := by decide +kernel
theorem dX5_hear_37 : decode cX5_hear 37 = .ok (.getfield 19, 3) := by decide +kernel
theorem dX5_hear_40 : decode cX5_hear 40 = .ok (.iload_n 1, 1) := by decide +kernel
theorem dX5_hear_41 : decode cX5_hear 41 = .ok (.iaload, 1) := by decide +kernel
theorem dX5_hear_42 : decode cX5_hear 42 = .ok (.istore_n 3, 1) := by decide +kernel
theorem dX5_hear_43 : decode cX5_hear 43 = .ok (.aload_n 0, 1) := by decide +kernel
theorem dX5_hear_44 : decode cX5_hear 44 = .ok (.getfield 19, 3) := by decide +kernel
theorem dX5_hear_47 : decode cX5_hear 47 = .ok (.iload_n 1, 1) := by decide +kernel
theorem dX5_hear_48 : decode cX5_hear 48 = .ok (.iload_n 2, 1) := by decide +kernel
theorem dX5_hear_49 : decode cX5_hear 49 = .ok (.iastore, 1) := by decide +kernel
theorem dX5_hear_50 : decode cX5_hear 50 = .ok (.iload_n 3, 1) := by decide +kernel
theorem dX5_hear_51 : decode cX5_hear 51 = .ok (.ireturn, 1) := by decide +kernel
theorem dX5_cue_0 : decode cX5_cue 0 = .ok (.aload_n 0, 1) := by decide +kernel
theorem dX5_cue_1 : decode cX5_cue 1 = .ok (.iload_n 1, 1) := by decide +kernel
theorem dX5_cue_2 : decode cX5_cue 2 = .ok (.invokevirtual 57, 3) := by decide +kernel
theorem dX5_cue_5 : decode cX5_cue 5 = .ok (.astore_n 3, 1) := by decide +kernel
theorem dX5_cue_6 : decode cX5_cue 6 = .ok (.iload_n 2, 1) := by decide +kernel
theorem dX5_cue_7 : decode cX5_cue 7 = .ok (.iconst (-1), 1) := by decide +kernel
theorem dX5_cue_8 : decode cX5_cue 8 = .ok (.if_icmp .eq 23, 3) := by decide +kernel
theorem dX5_cue_11 : decode cX5_cue 11 = .ok (.iload_n 2, 1) := by decide +kernel
theorem dX5_cue_12 : decode cX5_cue 12 = .ok (.ifCond .lt 9, 3) := by decide +kernel
theorem dX5_cue_15 : decode cX5_cue 15 = .ok (.iload_n 2, 1) := by decide +kernel
theorem dX5_cue_16 : decode cX5_cue 16 = .ok (.bipush 10, 2) := by decide +kernel
theorem dX5_cue_18 : decode cX5_cue 18 = .ok (.if_icmp .lt 13, 3) := by decide +kernel
theorem dX5_cue_21 : decode cX5_cue 21 = .ok (.new 91, 3) := by decide +kernel
theorem dX5_cue_24 : decode cX5_cue 24 = .ok (.dup, 1) := by decide +kernel
theorem dX5_cue_25 : decode cX5_cue 25 = .ok (.ldc 93, 2) := by decide +kernel
theorem dX5_cue_27 : decode cX5_cue 27 = .ok (.invokespecial 95, 3) := by decide +kernel
theorem dX5_cue_30 : decode cX5_cue 30 = .ok (.athrow, 1) := by decide +kernel
theorem dX5_cue_31 : decode cX5_cue 31 = .ok (.aload_n 3, 1) := by decide +kernel
theorem dX5_cue_32 : decode cX5_cue 32 = .ok (.getfield 96, 3) := by decide +kernel
theorem dX5_cue_35 : decode cX5_cue 35 = .ok (.istore 4, 2) := by decide +kernel
theorem dX5_cue_37 : decode cX5_cue 37 = .ok (.aload_n 3, 1) := by decide +kernel
theorem dX5_cue_38 : decode cX5_cue 38 = .ok (.iload_n 2, 1) := by decide +kernel
theorem dX5_cue_39 : decode cX5_cue 39 = .ok (.putfield 96, 3) := by decide +kernel
theorem dX5_cue_42 : decode cX5_cue 42 = .ok (.iload 4, 2) := by decide +kernel
theorem dX5_cue_44 : decode cX5_cue 44 = .ok (.ireturn, 1) := by decide +kernel
theorem dX5_show_0 : decode cX5_show 0 = .ok (.iload_n 1, 1) := by decide +kernel
theorem dX5_show_1 : decode cX5_show 1 = .ok (.iconst 0, 1) := by decide +kernel
theorem dX5_show_2 : decode cX5_show 2 = .ok (.ldc 99, 2) := by decide +kernel
theorem dX5_show_4 : decode cX5_show 4 = .ok (.invokestatic 33, 3) := by decide +kernel
theorem dX5_show_7 : decode cX5_show 7 = .ok (.iload_n 2, 1) := by decide +kernel
theorem dX5_show_8 : decode cX5_show 8 = .ok (.iconst 1, 1) := by decide +kernel
theorem dX5_show_9 : decode cX5_show 9 = .ok (.sipush 600, 3) := by decide +kernel
theorem dX5_show_12 : decode cX5_show 12 = .ok (.invokestatic 33, 3) := by decide +kernel
theorem dX5_show_15 : decode cX5_show 15 = .ok (.aload_n 0, 1) := by decide +kernel
theorem dX5_show_16 : decode cX5_show 16 = .ok (.getfield 16, 3) := by decide +kernel
theorem dX5_show_19 : decode cX5_show 19 = .ok (.invokevirtual 37, 3) := by decide +kernel
theorem dX5_show_22 : decode cX5_show 22 = .ok (.bipush 6, 2) := by decide +kernel
theorem dX5_show_24 : decode cX5_show 24 = .ok (.if_icmp .lt 13, 3) := by decide +kernel
theorem dX5_show_27 : decode cX5_show 27 = .ok (.new 41, 3) := by decide +kernel
theorem dX5_show_30 : decode cX5_show 30 = .ok (.dup, 1) := by decide +kernel
theorem dX5_show_31 : decode cX5_show 31 = .ok (.ldc 100, 2) := by decide +kernel
theorem dX5_show_33 : decode cX5_show 33 = .ok (.invokespecial 45, 3) := by decide +kernel
theorem dX5_show_36 : decode cX5_show 36 = .ok (.athrow, 1) := by decide +kernel
theorem dX5_show_37 : decode cX5_show 37 = .ok (.aload_n 0, 1) := by decide +kernel
theorem dX5_show_38 : decode cX5_show 38 = .ok (.getfield 16, 3) := by decide +kernel
theorem dX5_show_41 : decode cX5_show 41 = .ok (.new 102, 3) := by decide +kernel
theorem dX5_show_44 : decode cX5_show 44 = .ok (.dup, 1) := by decide +kernel
theorem dX5_show_45 : decode cX5_show 45 = .ok (.new 104, 3) := by decide +kernel
theorem dX5_show_48 : decode cX5_show 48 = .ok (.dup, 1) := by decide +kernel
theorem dX5_show_49 : decode cX5_show 49 = .ok (.iload_n 1, 1) := by decide +kernel
theorem dX5_show_50 : decode cX5_show 50 = .ok (.iload_n 2, 1) := by decide +kernel
theorem dX5_show_51 : decode cX5_show 51 = .ok (.invokespecial 106, 3) := by decide +kernel
theorem dX5_show_54 : decode cX5_show 54 = .ok (.invokespecial 107, 3) := by decide +kernel
theorem dX5_show_57 : decode cX5_show 57 = .ok (.invokevirtual 53, 3) := by decide +kernel
theorem dX5_show_60 : decode cX5_show 60 = .ok (.pop, 1) := by decide +kernel
theorem dX5_show_61 : decode cX5_show 61 = .ok (.aload_n 0, 1) := by decide +kernel
theorem dX5_show_62 : decode cX5_show 62 = .ok (.getfield 16, 3) := by decide +kernel
theorem dX5_show_65 : decode cX5_show 65 = .ok (.invokevirtual 37, 3) := by decide +kernel
theorem dX5_show_68 : decode cX5_show 68 = .ok (.iconst 1, 1) := by decide +kernel
theorem dX5_show_69 : decode cX5_show 69 = .ok (.isub, 1) := by decide +kernel
theorem dX5_show_70 : decode cX5_show 70 = .ok (.ireturn, 1) := by decide +kernel
theorem dX4_init_0 : decode cX4_init 0 = .ok (.aload_n 0, 1) := by decide +kernel
theorem dX4_init_1 : decode cX4_init 1 = .ok (.invokespecial 1, 3) := by decide +kernel
theorem dX4_init_4 : decode cX4_init 4 = .ok (.aload_n 0, 1) := by decide +kernel
theorem dX4_init_5 : decode cX4_init 5 = .ok (.iload_n 1, 1) := by decide +kernel
theorem dX4_init_6 : decode cX4_init 6 = .ok (.putfield 7, 3) := by decide +kernel
theorem dX4_init_9 : decode cX4_init 9 = .ok (.aload_n 0, 1) := by decide +kernel
theorem dX4_init_10 : decode cX4_init 10 = .ok (.iload_n 2, 1) := by decide +kernel
theorem dX4_init_11 : decode cX4_init 11 = .ok (.putfield 13, 3) := by decide +kernel
theorem dX4_init_14 : decode cX4_init 14 = .ok (.return_, 1) := by decide +kernel
theorem dX3_init_0 : decode cX3_init 0 = .ok (.aload_n 0, 1) := by decide +kernel
theorem dX3_init_1 : decode cX3_init 1 = .ok (.invokespecial 3, 3) := by decide +kernel
theorem dX3_init_4 : decode cX3_init 4 = .ok (.aload_n 0, 1) := by decide +kernel
theorem dX3_init_5 : decode cX3_init 5 = .ok (.aload_n 1, 1) := by decide +kernel
theorem dX3_init_6 : decode cX3_init 6 = .ok (.putfield 9, 3) := by decide +kernel
theorem dX3_init_9 : decode cX3_init 9 = .ok (.aload_n 0, 1) := by decide +kernel
theorem dX3_init_10 : decode cX3_init 10 = .ok (.bipush 8, 2) := by decide +kernel
theorem dX3_init_12 : decode cX3_init 12 = .ok (.newarray .boolean, 2) := by decide +kernel
theorem dX3_init_14 : decode cX3_init 14 = .ok (.putfield 15, 3) := by decide +kernel
theorem dX3_init_17 : decode cX3_init 17 = .ok (.aload_n 0, 1) := by decide +kernel
theorem dX3_init_18 : decode cX3_init 18 = .ok (.iconst 0, 1) := by decide +kernel
theorem dX3_init_19 : decode cX3_init 19 = .ok (.putfield 19, 3) := by decide +kernel
theorem dX3_init_22 : decode cX3_init 22 = .ok (.aload_n 0, 1) := by decide +kernel
theorem dX3_init_23 : decode cX3_init 23 = .ok (.bipush 50, 2) := by decide +kernel
theorem dX3_init_25 : decode cX3_init 25 = .ok (.putfield 23, 3) := by decide +kernel
theorem dX3_init_28 : decode cX3_init 28 = .ok (.aload_n 0, 1) := by decide +kernel
theorem dX3_init_29 : decode cX3_init 29 = .ok (.iconst 0, 1) := by decide +kernel
theorem dX3_init_30 : decode cX3_init 30 = .ok (.putfield 26, 3) := by decide +kernel
theorem dX3_init_33 : decode cX3_init 33 = .ok (.aload_n 0, 1) := by decide +kernel
theorem dX3_init_34 : decode cX3_init 34 = .ok (.iconst 0, 1) := by decide +kernel
theorem dX3_init_35 : decode cX3_init 35 = .ok (.putfield 29, 3) := by decide +kernel
theorem dX3_init_38 : decode cX3_init 38 = .ok (.return_, 1) := by decide +kernel
theorem dX5_track_0 : decode cX5_track 0 = .ok (.aload_n 0, 1) := by decide +kernel
theorem dX5_track_1 : decode cX5_track 1 = .ok (.iload_n 1, 1) := by decide +kernel
theorem dX5_track_2 : decode cX5_track 2 = .ok (.invokevirtual 57, 3) := by decide +kernel
theorem dX5_track_5 : decode cX5_track 5 = .ok (.astore_n 3, 1) := by decide +kernel
theorem dX5_track_6 : decode cX5_track 6 = .ok (.iload_n 2, 1) := by decide +kernel
theorem dX5_track_7 : decode cX5_track 7 = .ok (.iconst 0, 1) := by decide +kernel
theorem dX5_track_8 : decode cX5_track 8 = .ok (.sipush 1999, 3) := by decide +kernel
theorem dX5_track_11 : decode cX5_track 11 = .ok (.invokestatic 33, 3) := by decide +kernel
theorem dX5_track_14 : decode cX5_track 14 = .ok (.aload_n 3, 1) := by decide +kernel
theorem dX5_track_15 : decode cX5_track 15 = .ok (.iload_n 2, 1) := by decide +kernel
theorem dX5_track_16 : decode cX5_track 16 = .ok (.invokevirtual 174, 3) := by decide +kernel
theorem dX5_track_19 : decode cX5_track 19 = .ok (.aload_n 3, 1) := by decide +kernel
theorem dX5_track_20 : decode cX5_track 20 = .ok (.getfield 177, 3) := by decide +kernel
theorem dX5_track_23 : decode cX5_track 23 = .ok (.invokevirtual 181, 3) := by decide +kernel
theorem dX5_track_26 : decode cX5_track 26 = .ok (.ireturn, 1) := by decide +kernel
theorem dX2_standAt_0 : decode cX2_standAt 0 = .ok (.aload_n 0, 1) := by decide +kernel
theorem dX2_standAt_1 : decode cX2_standAt 1 = .ok (.aload_n 0, 1) := by decide +kernel
theorem dX2_standAt_2 : decode cX2_standAt 2 = .ok (.iload_n 1, 1) := by decide +kernel
theorem dX2_standAt_3 : decode cX2_standAt 3 = .ok (.iconst 1, 1) := by decide +kernel
theorem dX2_standAt_4 : decode cX2_standAt 4 = .ok (.iadd, 1) := by decide +kernel
theorem dX2_standAt_5 : decode cX2_standAt 5 = .ok (.invokevirtual 58, 3) := by decide +kernel
theorem dX2_standAt_8 : decode cX2_standAt 8 = .ok (.iload_n 1, 1) := by decide +kernel
theorem dX2_standAt_9 : decode cX2_standAt 9 = .ok (.invokevirtual 73, 3) := by decide +kernel
theorem dX2_standAt_12 : decode cX2_standAt 12 = .ok (.return_, 1) := by decide +kernel
theorem dX2_keysAhead_0 : decode cX2_keysAhead 0 = .ok (.iconst 0, 1) := by decide +kernel
theorem dX2_keysAhead_1 : decode cX2_keysAhead 1 = .ok (.istore_n 2, 1) := by decide +kernel
theorem dX2_keysAhead_2 : decode cX2_keysAhead 2 = .ok (.iload_n 2, 1) := by decide +kernel
theorem dX2_keysAhead_3 : decode cX2_keysAhead 3 = .ok (.aload_n 0, 1) := by decide +kernel
theorem dX2_keysAhead_4 : decode cX2_keysAhead 4 = .ok (.getfield 21, 3) := by decide +kernel
theorem dX2_keysAhead_7 : decode cX2_keysAhead 7 = .ok (.invokevirtual 45, 3) := by decide +kernel
theorem dX2_keysAhead_10 : decode cX2_keysAhead 10 = .ok (.if_icmp .ge 27, 3) := by decide +kernel
theorem dX2_keysAhead_13 : decode cX2_keysAhead 13 = .ok (.aload_n 0, 1) := by decide +kernel
theorem dX2_keysAhead_14 : decode cX2_keysAhead 14 = .ok (.getfield 21, 3) := by decide +kernel
theorem dX2_keysAhead_17 : decode cX2_keysAhead 17 = .ok (.iload_n 2, 1) := by decide +kernel
theorem dX2_keysAhead_18 : decode cX2_keysAhead 18 = .ok (.invokevirtual 49, 3) := by decide +kernel
theorem dX2_keysAhead_21 : decode cX2_keysAhead 21 = .ok (.checkcast 53, 3) := by decide +kernel
theorem dX2_keysAhead_24 : decode cX2_keysAhead 24 = .ok (.getfield 55, 3) := by decide +kernel
theorem dX2_keysAhead_27 : decode cX2_keysAhead 27 = .ok (.iload_n 1, 1) := by decide +kernel
theorem dX2_keysAhead_28 : decode cX2_keysAhead 28 = .ok (.if_icmp .ge 9, 3) := by decide +kernel
theorem dX2_keysAhead_31 : decode cX2_keysAhead 31 = .ok (.iinc 2 1, 3) := by decide +kernel
theorem dX2_keysAhead_34 : decode cX2_keysAhead 34 = .ok (.goto (-32), 3) := by decide +kernel
theorem dX2_keysAhead_37 : decode cX2_keysAhead 37 = .ok (.iload_n 2, 1) := by decide +kernel
theorem dX2_keysAhead_38 : decode cX2_keysAhead 38 = .ok (.ireturn, 1) := by decide +kernel
theorem dX2_standBehind_0 : decode cX2_standBehind 0 = .ok (.aload_n 0, 1) := by decide +kernel
theorem dX2_standBehind_1 : decode cX2_standBehind 1 = .ok (.getfield 21, 3) := by decide +kernel
theorem dX2_standBehind_4 : decode cX2_standBehind 4 = .ok (.invokevirtual 45, 3) := by decide +kernel
theorem dX2_standBehind_7 : decode cX2_standBehind 7 = .ok (.istore_n 3, 1) := by decide +kernel
theorem dX2_standBehind_8 : decode cX2_standBehind 8 = .ok (.iload_n 3, 1) := by decide +kernel
theorem dX2_standBehind_9 : decode cX2_standBehind 9 = .ok (.ifCond .ne 25, 3) := by decide +kernel
theorem dX2_standBehind_12 : decode cX2_standBehind 12 = .ok (.aload_n 0, 1) := by decide +kernel
theorem dX2_standBehind_13 : decode cX2_standBehind 13 = .ok (.getfield 37, 3) := by decide +kernel
theorem dX2_standBehind_16 : decode cX2_standBehind 16 = .ok (.aload_n 0, 1) := by decide +kernel
theorem dX2_standBehind_17 : decode cX2_standBehind 17 = .ok (.getfield 9, 3) := by decide +kernel
theorem dX2_standBehind_20 : decode cX2_standBehind 20 = .ok (.putfield 77, 3) := by decide +kernel
theorem dX2_standBehind_23 : decode cX2_standBehind 23 = .ok (.aload_n 0, 1) := by decide +kernel
theorem dX2_standBehind_24 : decode cX2_standBehind 24 = .ok (.getfield 37, 3) := by decide +kernel
theorem dX2_standBehind_27 : decode cX2_standBehind 27 = .ok (.iconst 0, 1) := by decide +kernel
theorem dX2_standBehind_28 : decode cX2_standBehind 28 = .ok (.putfield 80, 3) := by decide +kernel
theorem dX2_standBehind_31 : decode cX2_standBehind 31 = .ok (.goto 88, 3) := by decide +kernel
theorem dX2_standBehind_34 : decode cX2_standBehind 34 = .ok (.iload_n 1, 1) := by decide +kernel
theorem dX2_standBehind_35 : decode cX2_standBehind 35 = .ok (.ifCond .gt 24, 3) := by decide +kernel
theorem dX2_standBehind_38 : decode cX2_standBehind 38 = .ok (.aload_n 0, 1) := by decide +kernel
theorem dX2_standBehind_39 : decode cX2_standBehind 39 = .ok (.getfield 37, 3) := by decide +kernel
theorem dX2_standBehind_42 : decode cX2_standBehind 42 = .ok (.aload_n 0, 1) := by decide +kernel
theorem dX2_standBehind_43 : decode cX2_standBehind 43 = .ok (.getfield 21, 3) := by decide +kernel
theorem dX2_standBehind_46 : decode cX2_standBehind 46 = .ok (.iconst 0, 1) := by decide +kernel
theorem dX2_standBehind_47 : decode cX2_standBehind 47 = .ok (.invokevirtual 49, 3) := by decide +kernel
theorem dX2_standBehind_50 : decode cX2_standBehind 50 = .ok (.checkcast 53, 3) := by decide +kernel
theorem dX2_standBehind_53 : decode cX2_standBehind 53 = .ok (.invokevirtual 83, 3) := by decide +kernel
theorem dX2_standBehind_56 : decode cX2_standBehind 56 = .ok (.goto 63, 3) := by decide +kernel
theorem dX2_standBehind_59 : decode cX2_standBehind 59 = .ok (.iload_n 1, 1) := by decide +kernel
theorem dX2_standBehind_60 : decode cX2_standBehind 60 = .ok (.iload_n 3, 1) := by decide +kernel
theorem dX2_standBehind_61 : decode cX2_standBehind 61 = .ok (.if_icmp .lt 26, 3) := by decide +kernel
theorem dX2_standBehind_64 : decode cX2_standBehind 64 = .ok (.aload_n 0, 1) := by decide +kernel
theorem dX2_standBehind_65 : decode cX2_standBehind 65 = .ok (.getfield 37, 3) := by decide +kernel
theorem dX2_standBehind_68 : decode cX2_standBehind 68 = .ok (.aload_n 0, 1) := by decide +kernel
theorem dX2_standBehind_69 : decode cX2_standBehind 69 = .ok (.getfield 21, 3) := by decide +kernel
theorem dX2_standBehind_72 : decode cX2_standBehind 72 = .ok (.iload_n 3, 1) := by decide +kernel
theorem dX2_standBehind_73 : decode cX2_standBehind 73 = .ok (.iconst 1, 1) := by decide +kernel
theorem dX2_standBehind_74 : decode cX2_standBehind 74 = .ok (.isub, 1) := by decide +kernel
theorem dX2_standBehind_75 : decode cX2_standBehind 75 = .ok (.invokevirtual 49, 3) := by decide +kernel
theorem dX2_standBehind_78 : decode cX2_standBehind 78 = .ok (.checkcast 53, 3) := by decide +kernel
theorem dX2_standBehind_81 : decode cX2_standBehind 81 = .ok (.invokevirtual 83, 3) := by decide +kernel
theorem dX2_standBehind_84 : decode cX2_standBehind 84 = .ok (.goto 35, 3) := by decide +kernel
theorem dX2_standBehind_87 : decode cX2_standBehind 87 = .ok (.aload_n 0, 1) := by decide +kernel
theorem dX2_standBehind_88 : decode cX2_standBehind 88 = .ok (.getfield 37, 3) := by decide +kernel
theorem dX2_standBehind_91 : decode cX2_standBehind 91 = .ok (.aload_n 0, 1) := by decide +kernel
theorem dX2_standBehind_92 : decode cX2_standBehind 92 = .ok (.getfield 21, 3) := by decide +kernel
theorem dX2_standBehind_95 : decode cX2_standBehind 95 = .ok (.iload_n 1, 1) := by decide +kernel
theorem dX2_standBehind_96 : decode cX2_standBehind 96 = .ok (.iconst 1, 1) := by decide +kernel
theorem dX2_standBehind_97 : decode cX2_standBehind 97 = .ok (.isub, 1) := by decide +kernel
theorem dX2_standBehind_98 : decode cX2_standBehind 98 = .ok (.invokevirtual 49, 3) := by decide +kernel
theorem dX2_standBehind_101 : decode cX2_standBehind 101 = .ok (.checkcast 53, 3) := by decide +kernel
theorem dX2_standBehind_104 : decode cX2_standBehind 104 = .ok (.aload_n 0, 1) := by decide +kernel
theorem dX2_standBehind_105 : decode cX2_standBehind 105 = .ok (.getfield 21, 3) := by decide +kernel
theorem dX2_standBehind_108 : decode cX2_standBehind 108 = .ok (.iload_n 1, 1) := by decide +kernel
theorem dX2_standBehind_109 : decode cX2_standBehind 109 = .ok (.invokevirtual 49, 3) := by decide +kernel
theorem dX2_standBehind_112 : decode cX2_standBehind 112 = .ok (.checkcast 53, 3) := by decide +kernel
theorem dX2_standBehind_115 : decode cX2_standBehind 115 = .ok (.iload_n 2, 1) := by decide +kernel
theorem dX2_standBehind_116 : decode cX2_standBehind 116 = .ok (.invokevirtual 87, 3) := by decide +kernel
theorem dX2_standBehind_119 : decode cX2_standBehind 119 = .ok (.return_, 1) := by decide +kernel
theorem dX1_putAt_0 : decode cX1_putAt 0 = .ok (.aload_n 0, 1) := by decide +kernel
theorem dX1_putAt_1 : decode cX1_putAt 1 = .ok (.aload_n 1, 1) := by decide +kernel
theorem dX1_putAt_2 : decode cX1_putAt 2 = .ok (.getfield 18, 3) := by decide +kernel
theorem dX1_putAt_5 : decode cX1_putAt 5 = .ok (.putfield 9, 3) := by decide +kernel
theorem dX1_putAt_8 : decode cX1_putAt 8 = .ok (.aload_n 0, 1) := by decide +kernel
theorem dX1_putAt_9 : decode cX1_putAt 9 = .ok (.aload_n 1, 1) := by decide +kernel
theorem dX1_putAt_10 : decode cX1_putAt 10 = .ok (.getfield 21, 3) := by decide +kernel
theorem dX1_putAt_13 : decode cX1_putAt 13 = .ok (.putfield 15, 3) := by decide +kernel
theorem dX1_putAt_16 : decode cX1_putAt 16 = .ok (.return_, 1) := by decide +kernel
theorem dX1_putBetween_0 : decode cX1_putBetween 0 = .ok (.aload_n 2, 1) := by decide +kernel
theorem dX1_putBetween_1 : decode cX1_putBetween 1 = .ok (.getfield 22, 3) := by decide +kernel
theorem dX1_putBetween_4 : decode cX1_putBetween 4 = .ok (.aload_n 1, 1) := by decide +kernel
theorem dX1_putBetween_5 : decode cX1_putBetween 5 = .ok (.getfield 22, 3) := by decide +kernel
theorem dX1_putBetween_8 : decode cX1_putBetween 8 = .ok (.isub, 1) := by decide +kernel
theorem dX1_putBetween_9 : decode cX1_putBetween 9 = .ok (.istore 4, 2) := by decide +kernel
theorem dX1_putBetween_11 : decode cX1_putBetween 11 = .ok (.iload_n 3, 1) := by decide +kernel
theorem dX1_putBetween_12 : decode cX1_putBetween 12 = .ok (.aload_n 1, 1) := by decide +kernel
theorem dX1_putBetween_13 : decode cX1_putBetween 13 = .ok (.getfield 22, 3) := by decide +kernel
theorem dX1_putBetween_16 : decode cX1_putBetween 16 = .ok (.isub, 1) := by decide +kernel
theorem dX1_putBetween_17 : decode cX1_putBetween 17 = .ok (.istore 5, 2) := by decide +kernel
theorem dX1_putBetween_19 : decode cX1_putBetween 19 = .ok (.iload 4, 2) := by decide +kernel
theorem dX1_putBetween_21 : decode cX1_putBetween 21 = .ok (.ifCond .le 21, 3) := by decide +kernel
theorem dX1_putBetween_24 : decode cX1_putBetween 24 = .ok (.aload_n 1, 1) := by decide +kernel
theorem dX1_putBetween_25 : decode cX1_putBetween 25 = .ok (.getfield 25, 3) := by decide +kernel
theorem dX1_putBetween_28 : decode cX1_putBetween 28 = .ok (.iload 5, 2) := by decide +kernel
theorem dX1_putBetween_30 : decode cX1_putBetween 30 = .ok (.bipush 8, 2) := by decide +kernel
theorem dX1_putBetween_32 : decode cX1_putBetween 32 = .ok (.imul, 1) := by decide +kernel
theorem dX1_putBetween_33 : decode cX1_putBetween 33 = .ok (.iload 4, 2) := by decide +kernel
theorem dX1_putBetween_35 : decode cX1_putBetween 35 = .ok (.idiv, 1) := by decide +kernel
theorem dX1_putBetween_36 : decode cX1_putBetween 36 = .ok (.invokestatic 28, 3) := by decide +kernel
theorem dX1_putBetween_39 : decode cX1_putBetween 39 = .ok (.goto 4, 3) := by decide +kernel
theorem dX1_putBetween_42 : decode cX1_putBetween 42 = .ok (.iconst 0, 1) := by decide +kernel
theorem dX1_putBetween_43 : decode cX1_putBetween 43 = .ok (.istore 6, 2) := by decide +kernel
theorem dX1_putBetween_45 : decode cX1_putBetween 45 = .ok (.aload_n 0, 1) := by decide +kernel
theorem dX1_putBetween_46 : decode cX1_putBetween 46 = .ok (.aload_n 1, 1) := by decide +kernel
theorem dX1_putBetween_47 : decode cX1_putBetween 47 = .ok (.getfield 18, 3) := by decide +kernel
theorem dX1_putBetween_50 : decode cX1_putBetween 50 = .ok (.aload_n 2, 1) := by decide +kernel
theorem dX1_putBetween_51 : decode cX1_putBetween 51 = .ok (.getfield 18, 3) := by decide +kernel
theorem dX1_putBetween_54 : decode cX1_putBetween 54 = .ok (.aload_n 1, 1) := by decide +kernel
theorem dX1_putBetween_55 : decode cX1_putBetween 55 = .ok (.getfield 18, 3) := by decide +kernel
theorem dX1_putBetween_58 : decode cX1_putBetween 58 = .ok (.isub, 1) := by decide +kernel
theorem dX1_putBetween_59 : decode cX1_putBetween 59 = .ok (.iload 6, 2) := by decide +kernel
theorem dX1_putBetween_61 : decode cX1_putBetween 61 = .ok (.imul, 1) := by decide +kernel
theorem dX1_putBetween_62 : decode cX1_putBetween 62 = .ok (.bipush 64, 2) := by decide +kernel
theorem dX1_putBetween_64 : decode cX1_putBetween 64 = .ok (.idiv, 1) := by decide +kernel
theorem dX1_putBetween_65 : decode cX1_putBetween 65 = .ok (.iadd, 1) := by decide +kernel
theorem dX1_putBetween_66 : decode cX1_putBetween 66 = .ok (.putfield 9, 3) := by decide +kernel
theorem dX1_putBetween_69 : decode cX1_putBetween 69 = .ok (.aload_n 0, 1) := by decide +kernel
theorem dX1_putBetween_70 : decode cX1_putBetween 70 = .ok (.aload_n 1, 1) := by decide +kernel
theorem dX1_putBetween_71 : decode cX1_putBetween 71 = .ok (.getfield 21, 3) := by decide +kernel
theorem dX1_putBetween_74 : decode cX1_putBetween 74 = .ok (.aload_n 2, 1) := by decide +kernel
theorem dX1_putBetween_75 : decode cX1_putBetween 75 = .ok (.getfield 21, 3) := by decide +kernel
theorem dX1_putBetween_78 : decode cX1_putBetween 78 = .ok (.aload_n 1, 1) := by decide +kernel
theorem dX1_putBetween_79 : decode cX1_putBetween 79 = .ok (.getfield 21, 3) := by decide +kernel
theorem dX1_putBetween_82 : decode cX1_putBetween 82 = .ok (.isub, 1) := by decide +kernel
theorem dX1_putBetween_83 : decode cX1_putBetween 83 = .ok (.iload 6, 2) := by decide +kernel
theorem dX1_putBetween_85 : decode cX1_putBetween 85 = .ok (.imul, 1) := by decide +kernel
theorem dX1_putBetween_86 : decode cX1_putBetween 86 = .ok (.bipush 64, 2) := by decide +kernel
theorem dX1_putBetween_88 : decode cX1_putBetween 88 = .ok (.idiv, 1) := by decide +kernel
theorem dX1_putBetween_89 : decode cX1_putBetween 89 = .ok (.iadd, 1) := by decide +kernel
theorem dX1_putBetween_90 : decode cX1_putBetween 90 = .ok (.putfield 15, 3) := by decide +kernel
theorem dX1_putBetween_93 : decode cX1_putBetween 93 = .ok (.return_, 1) := by decide +kernel
theorem dX5_easing_0 : decode cX5_easing 0 = .ok (.iload_n 0, 1) := by decide +kernel
theorem dX5_easing_1 : decode cX5_easing 1 = .ok (.bipush 8, 2) := by decide +kernel
theorem dX5_easing_3 : decode cX5_easing 3 = .ok (.imul, 1) := by decide +kernel
theorem dX5_easing_4 : decode cX5_easing 4 = .ok (.iload_n 1, 1) := by decide +kernel
theorem dX5_easing_5 : decode cX5_easing 5 = .ok (.iadd, 1) := by decide +kernel
theorem dX5_easing_6 : decode cX5_easing 6 = .ok (.istore_n 2, 1) := by decide +kernel
theorem dX5_easing_7 : decode cX5_easing 7 = .ok (.iload_n 2, 1) := by decide +kernel
theorem dX5_easing_8 : decode cX5_easing 8 = .ok (.ifCond .lt 11, 3) := by decide +kernel
theorem dX5_easing_11 : decode cX5_easing 11 = .ok (.iload_n 2, 1) := by decide +kernel
theorem dX5_easing_12 : decode cX5_easing 12 = .ok (.getstatic 249, 3) := by decide +kernel
theorem dX5_easing_15 : decode cX5_easing 15 = .ok (.arraylength, 1) := by decide +kernel
theorem dX5_easing_16 : decode cX5_easing 16 = .ok (.if_icmp .lt 7, 3) := by decide +kernel
theorem dX5_easing_19 : decode cX5_easing 19 = .ok (.iconst 0, 1) := by decide +kernel
theorem dX5_easing_20 : decode cX5_easing 20 = .ok (.goto 8, 3) := by decide +kernel
theorem dX5_easing_23 : decode cX5_easing 23 = .ok (.getstatic 249, 3) := by decide +kernel
theorem dX5_easing_26 : decode cX5_easing 26 = .ok (.iload_n 2, 1) := by decide +kernel
theorem dX5_easing_27 : decode cX5_easing 27 = .ok (.iaload, 1) := by decide +kernel
theorem dX5_easing_28 : decode cX5_easing 28 = .ok (.ireturn, 1) := by decide +kernel
theorem dX1_together_0 : decode cX1_together 0 = .ok (.sipush 1000, 3) := by decide +kernel
theorem dX1_together_3 : decode cX1_together 3 = .ok (.aload_n 0, 1) := by decide +kernel
theorem dX1_together_4 : decode cX1_together 4 = .ok (.getfield 9, 3) := by decide +kernel
theorem dX1_together_7 : decode cX1_together 7 = .ok (.imul, 1) := by decide +kernel
theorem dX1_together_8 : decode cX1_together 8 = .ok (.aload_n 0, 1) := by decide +kernel
theorem dX1_together_9 : decode cX1_together 9 = .ok (.getfield 15, 3) := by decide +kernel
theorem dX1_together_12 : decode cX1_together 12 = .ok (.iadd, 1) := by decide +kernel
theorem dX1_together_13 : decode cX1_together 13 = .ok (.ireturn, 1) := by decide +kernel
theorem dX5_isBusy_0 : decode cX5_isBusy 0 = .ok (.aload_n 0, 1) := by decide +kernel
theorem dX5_isBusy_1 : decode cX5_isBusy 1 = .ok (.iload_n 1, 1) := by decide +kernel
theorem dX5_isBusy_2 : decode cX5_isBusy 2 = .ok (.invokevirtual 57, 3) := by decide +kernel
theorem dX5_isBusy_5 : decode cX5_isBusy 5 = .ok (.astore_n 3, 1) := by decide +kernel
theorem dX5_isBusy_6 : decode cX5_isBusy 6 = .ok (.iload_n 2, 1) := by decide +kernel
theorem dX5_isBusy_7 : decode cX5_isBusy 7 = .ok (.iconst 0, 1) := by decide +kernel
theorem dX5_isBusy_8 : decode cX5_isBusy 8 = .ok (.ldc 209, 2) := by decide +kernel
theorem dX5_isBusy_10 : decode cX5_isBusy 10 = .ok (.invokestatic 33, 3) := by decide +kernel
theorem dX5_isBusy_13 : decode cX5_isBusy 13 = .ok (.aload_n 0, 1) := by decide +kernel
theorem dX5_isBusy_14 : decode cX5_isBusy 14 = .ok (.aload_n 3, 1) := by decide +kernel
theorem dX5_isBusy_15 : decode cX5_isBusy 15 = .ok (.iload_n 1, 1) := by decide +kernel
theorem dX5_isBusy_16 : decode cX5_isBusy 16 = .ok (.new 104, 3) := by decide +kernel
theorem dX5_isBusy_19 : decode cX5_isBusy 19 = .ok (.dup, 1) := by decide +kernel
theorem dX5_isBusy_20 : decode cX5_isBusy 20 = .ok (.iload_n 2, 1) := by decide +kernel
theorem dX5_isBusy_21 : decode cX5_isBusy 21 = .ok (.iconst 1, 1) := by decide +kernel
theorem dX5_isBusy_22 : decode cX5_isBusy 22 = .ok (.invokespecial 106, 3) := by decide +kernel
theorem dX5_isBusy_25 : decode cX5_isBusy 25 = .ok (.invokevirtual 130, 3) := by decide +kernel
theorem dX5_isBusy_28 : decode cX5_isBusy 28 = .ok (.ireturn, 1) := by decide +kernel
theorem dX5_isTaken_0 : decode cX5_isTaken 0 = .ok (.iconst 0, 1) := by decide +kernel
theorem dX5_isTaken_1 : decode cX5_isTaken 1 = .ok (.istore 4, 2) := by decide +kernel
theorem dX5_isTaken_3 : decode cX5_isTaken 3 = .ok (.iload 4, 2) := by decide +kernel
theorem dX5_isTaken_5 : decode cX5_isTaken 5 = .ok (.aload_n 0, 1) := by decide +kernel
theorem dX5_isTaken_6 : decode cX5_isTaken 6 = .ok (.getfield 16, 3) := by decide +kernel
theorem dX5_isTaken_9 : decode cX5_isTaken 9 = .ok (.invokevirtual 37, 3) := by decide +kernel
theorem dX5_isTaken_12 : decode cX5_isTaken 12 = .ok (.if_icmp .ge 46, 3) := by decide +kernel
theorem dX5_isTaken_15 : decode cX5_isTaken 15 = .ok (.aload_n 0, 1) := by decide +kernel
theorem dX5_isTaken_16 : decode cX5_isTaken 16 = .ok (.getfield 16, 3) := by decide +kernel
theorem dX5_isTaken_19 : decode cX5_isTaken 19 = .ok (.iload 4, 2) := by decide +kernel
theorem dX5_isTaken_21 : decode cX5_isTaken 21 = .ok (.invokevirtual 157, 3) := by decide +kernel
theorem dX5_isTaken_24 : decode cX5_isTaken 24 = .ok (.checkcast 102, 3) := by decide +kernel
theorem dX5_isTaken_27 : decode cX5_isTaken 27 = .ok (.astore 5, 2) := by decide +kernel
theorem dX5_isTaken_29 : decode cX5_isTaken 29 = .ok (.aload 5, 2) := by decide +kernel
theorem dX5_isTaken_31 : decode cX5_isTaken 31 = .ok (.iload_n 2, 1) := by decide +kernel
theorem dX5_isTaken_32 : decode cX5_isTaken 32 = .ok (.invokevirtual 118, 3) := by decide +kernel
theorem dX5_isTaken_35 : decode cX5_isTaken 35 = .ok (.ifCond .eq 17, 3) := by decide +kernel
theorem dX5_isTaken_38 : decode cX5_isTaken 38 = .ok (.aload 5, 2) := by decide +kernel
theorem dX5_isTaken_40 : decode cX5_isTaken 40 = .ok (.getfield 126, 3) := by decide +kernel
theorem dX5_isTaken_43 : decode cX5_isTaken 43 = .ok (.aload_n 3, 1) := by decide +kernel
theorem dX5_isTaken_44 : decode cX5_isTaken 44 = .ok (.invokevirtual 221, 3) := by decide +kernel
theorem dX5_isTaken_47 : decode cX5_isTaken 47 = .ok (.ifCond .eq 5, 3) := by decide +kernel
theorem dX5_isTaken_50 : decode cX5_isTaken 50 = .ok (.iconst 1, 1) := by decide +kernel
theorem dX5_isTaken_51 : decode cX5_isTaken 51 = .ok (.ireturn, 1) := by decide +kernel
theorem dX5_isTaken_52 : decode cX5_isTaken 52 = .ok (.iinc 4 1, 3) := by decide +kernel
theorem dX5_isTaken_55 : decode cX5_isTaken 55 = .ok (.goto (-52), 3) := by decide +kernel
theorem dX5_isTaken_58 : decode cX5_isTaken 58 = .ok (.aload_n 1, 1) := by decide +kernel
theorem dX5_isTaken_59 : decode cX5_isTaken 59 = .ok (.aload_n 3, 1) := by decide +kernel
theorem dX5_isTaken_60 : decode cX5_isTaken 60 = .ok (.invokevirtual 225, 3) := by decide +kernel
theorem dX5_isTaken_63 : decode cX5_isTaken 63 = .ok (.ireturn, 1) := by decide +kernel
theorem dX3_hasPuppet_0 : decode cX3_hasPuppet 0 = .ok (.iload_n 1, 1) := by decide +kernel
theorem dX3_hasPuppet_1 : decode cX3_hasPuppet 1 = .ok (.ifCond .lt 25, 3) := by decide +kernel
theorem dX3_hasPuppet_4 : decode cX3_hasPuppet 4 = .ok (.iload_n 1, 1) := by decide +kernel
theorem dX3_hasPuppet_5 : decode cX3_hasPuppet 5 = .ok (.aload_n 0, 1) := by decide +kernel
theorem dX3_hasPuppet_6 : decode cX3_hasPuppet 6 = .ok (.getfield 15, 3) := by decide +kernel
theorem dX3_hasPuppet_9 : decode cX3_hasPuppet 9 = .ok (.arraylength, 1) := by decide +kernel
theorem dX3_hasPuppet_10 : decode cX3_hasPuppet 10 = .ok (.if_icmp .ge 16, 3) := by decide +kernel
theorem dX3_hasPuppet_13 : decode cX3_hasPuppet 13 = .ok (.aload_n 0, 1) := by decide +kernel
theorem dX3_hasPuppet_14 : decode cX3_hasPuppet 14 = .ok (.getfield 15, 3) := by decide +kernel
theorem dX3_hasPuppet_17 : decode cX3_hasPuppet 17 = .ok (.iload_n 1, 1) := by decide +kernel
theorem dX3_hasPuppet_18 : decode cX3_hasPuppet 18 = .ok (.baload, 1) := by decide +kernel
theorem dX3_hasPuppet_19 : decode cX3_hasPuppet 19 = .ok (.ifCond .eq 7, 3) := by decide +kernel
theorem dX3_hasPuppet_22 : decode cX3_hasPuppet 22 = .ok (.iconst 1, 1) := by decide +kernel
theorem dX3_hasPuppet_23 : decode cX3_hasPuppet 23 = .ok (.goto 4, 3) := by decide +kernel
theorem dX3_hasPuppet_26 : decode cX3_hasPuppet 26 = .ok (.iconst 0, 1) := by decide +kernel
theorem dX3_hasPuppet_27 : decode cX3_hasPuppet 27 = .ok (.ireturn, 1) := by decide +kernel
theorem dX4_meets_0 : decode cX4_meets 0 = .ok (.aload_n 0, 1) := by decide +kernel
theorem dX4_meets_1 : decode cX4_meets 1 = .ok (.getfield 7, 3) := by decide +kernel
theorem dX4_meets_4 : decode cX4_meets 4 = .ok (.aload_n 1, 1) := by decide +kernel
theorem dX4_meets_5 : decode cX4_meets 5 = .ok (.getfield 7, 3) := by decide +kernel
theorem dX4_meets_8 : decode cX4_meets 8 = .ok (.aload_n 1, 1) := by decide +kernel
theorem dX4_meets_9 : decode cX4_meets 9 = .ok (.getfield 13, 3) := by decide +kernel
theorem dX4_meets_12 : decode cX4_meets 12 = .ok (.iadd, 1) := by decide +kernel
theorem dX4_meets_13 : decode cX4_meets 13 = .ok (.if_icmp .ge 23, 3) := by decide +kernel
theorem dX4_meets_16 : decode cX4_meets 16 = .ok (.aload_n 1, 1) := by decide +kernel
theorem dX4_meets_17 : decode cX4_meets 17 = .ok (.getfield 7, 3) := by decide +kernel
theorem dX4_meets_20 : decode cX4_meets 20 = .ok (.aload_n 0, 1) := by decide +kernel
theorem dX4_meets_21 : decode cX4_meets 21 = .ok (.getfield 7, 3) := by decide +kernel
theorem dX4_meets_24 : decode cX4_meets 24 = .ok (.aload_n 0, 1) := by decide +kernel
theorem dX4_meets_25 : decode cX4_meets 25 = .ok (.getfield 13, 3) := by decide +kernel
theorem dX4_meets_28 : decode cX4_meets 28 = .ok (.iadd, 1) := by decide +kernel
theorem dX4_meets_29 : decode cX4_meets 29 = .ok (.if_icmp .ge 7, 3) := by decide +kernel
theorem dX4_meets_32 : decode cX4_meets 32 = .ok (.iconst 1, 1) := by decide +kernel
theorem dX4_meets_33 : decode cX4_meets 33 = .ok (.goto 4, 3) := by decide +kernel
theorem dX4_meets_36 : decode cX4_meets 36 = .ok (.iconst 0, 1) := by decide +kernel
theorem dX4_meets_37 : decode cX4_meets 37 = .ok (.ireturn, 1) := by decide +kernel
theorem dX2_isMendedDuring_0 : decode cX2_isMendedDuring 0 = .ok (.iconst 0, 1) := by decide +kernel
theorem dX2_isMendedDuring_1 : decode cX2_isMendedDuring 1 = .ok (.istore_n 2, 1) := by decide +kernel
theorem dX2_isMendedDuring_2 : decode cX2_isMendedDuring 2 = .ok (.iload_n 2, 1) := by decide +kernel
theorem dX2_isMendedDuring_3 : decode cX2_isMendedDuring 3 = .ok (.aload_n 0, 1) := by decide +kernel
theorem dX2_isMendedDuring_4 : decode cX2_isMendedDuring 4 = .ok (.getfield 31, 3) := by decide +kernel
theorem dX2_isMendedDuring_7 : decode cX2_isMendedDuring 7 = .ok (.invokevirtual 45, 3) := by decide +kernel
theorem dX2_isMendedDuring_10 : decode cX2_isMendedDuring 10 = .ok (.if_icmp .ge 29, 3) := by decide +kernel
theorem dX2_isMendedDuring_13 : decode cX2_isMendedDuring 13 = .ok (.aload_n 0, 1) := by decide +kernel
theorem dX2_isMendedDuring_14 : decode cX2_isMendedDuring 14 = .ok (.getfield 31, 3) := by decide +kernel
theorem dX2_isMendedDuring_17 : decode cX2_isMendedDuring 17 = .ok (.iload_n 2, 1) := by decide +kernel
theorem dX2_isMendedDuring_18 : decode cX2_isMendedDuring 18 = .ok (.invokevirtual 49, 3) := by decide +kernel
theorem dX2_isMendedDuring_21 : decode cX2_isMendedDuring 21 = .ok (.checkcast 113, 3) := by decide +kernel
theorem dX2_isMendedDuring_24 : decode cX2_isMendedDuring 24 = .ok (.aload_n 1, 1) := by decide +kernel
theorem dX2_isMendedDuring_25 : decode cX2_isMendedDuring 25 = .ok (.invokevirtual 115, 3) := by decide +kernel
theorem dX2_isMendedDuring_28 : decode cX2_isMendedDuring 28 = .ok (.ifCond .eq 5, 3) := by decide +kernel
theorem dX2_isMendedDuring_31 : decode cX2_isMendedDuring 31 = .ok (.iconst 1, 1) := by decide +kernel
theorem dX2_isMendedDuring_32 : decode cX2_isMendedDuring 32 = .ok (.ireturn, 1) := by decide +kernel
theorem dX2_isMendedDuring_33 : decode cX2_isMendedDuring 33 = .ok (.iinc 2 1, 3) := by decide +kernel
theorem dX2_isMendedDuring_36 : decode cX2_isMendedDuring 36 = .ok (.goto (-34), 3) := by decide +kernel
theorem dX2_isMendedDuring_39 : decode cX2_isMendedDuring 39 = .ok (.iconst 0, 1) := by decide +kernel
theorem dX2_isMendedDuring_40 : decode cX2_isMendedDuring 40 = .ok (.ireturn, 1) := by decide +kernel
theorem dX5_worn_0 : decode cX5_worn 0 = .ok (.aload_n 0, 1) := by decide +kernel
theorem dX5_worn_1 : decode cX5_worn 1 = .ok (.iload_n 1, 1) := by decide +kernel
theorem dX5_worn_2 : decode cX5_worn 2 = .ok (.invokevirtual 57, 3) := by decide +kernel
theorem dX5_worn_5 : decode cX5_worn 5 = .ok (.getfield 123, 3) := by decide +kernel
theorem dX5_worn_8 : decode cX5_worn 8 = .ok (.ireturn, 1) := by decide +kernel
theorem dX5_income_0 : decode cX5_income 0 = .ok (.aload_n 0, 1) := by decide +kernel
theorem dX5_income_1 : decode cX5_income 1 = .ok (.getfield 29, 3) := by decide +kernel
theorem dX5_income_4 : decode cX5_income 4 = .ok (.ireturn, 1) := by decide +kernel
theorem dL_asks_0 : decode cL_asks 0 = .ok (.iload_n 1, 1) := by decide +kernel
theorem dL_asks_1 : decode cL_asks 1 = .ok (.ifCond .ne 12, 3) := by decide +kernel
theorem dL_asks_4 : decode cL_asks 4 = .ok (.aload_n 0, 1) := by decide +kernel
theorem dL_asks_5 : decode cL_asks 5 = .ok (.iload_n 2, 1) := by decide +kernel
theorem dL_asks_6 : decode cL_asks 6 = .ok (.iload_n 3, 1) := by decide +kernel
theorem dL_asks_7 : decode cL_asks 7 = .ok (.invokevirtual 7, 3) := by decide +kernel
theorem dL_asks_10 : decode cL_asks 10 = .ok (.goto 118, 3) := by decide +kernel
theorem dL_asks_13 : decode cL_asks 13 = .ok (.iload_n 1, 1) := by decide +kernel
theorem dL_asks_14 : decode cL_asks 14 = .ok (.iconst 1, 1) := by decide +kernel
theorem dL_asks_15 : decode cL_asks 15 = .ok (.if_icmp .ne 12, 3) := by decide +kernel
theorem dL_asks_18 : decode cL_asks 18 = .ok (.aload_n 0, 1) := by decide +kernel
theorem dL_asks_19 : decode cL_asks 19 = .ok (.iload_n 2, 1) := by decide +kernel
theorem dL_asks_20 : decode cL_asks 20 = .ok (.iload_n 3, 1) := by decide +kernel
theorem dL_asks_21 : decode cL_asks 21 = .ok (.invokevirtual 13, 3) := by decide +kernel
theorem dL_asks_24 : decode cL_asks 24 = .ok (.goto 104, 3) := by decide +kernel
theorem dL_asks_27 : decode cL_asks 27 = .ok (.iload_n 1, 1) := by decide +kernel
theorem dL_asks_28 : decode cL_asks 28 = .ok (.iconst 2, 1) := by decide +kernel
theorem dL_asks_29 : decode cL_asks 29 = .ok (.if_icmp .ne 12, 3) := by decide +kernel
theorem dL_asks_32 : decode cL_asks 32 = .ok (.aload_n 0, 1) := by decide +kernel
theorem dL_asks_33 : decode cL_asks 33 = .ok (.iload_n 2, 1) := by decide +kernel
theorem dL_asks_34 : decode cL_asks 34 = .ok (.iload_n 3, 1) := by decide +kernel
theorem dL_asks_35 : decode cL_asks 35 = .ok (.invokevirtual 16, 3) := by decide +kernel
theorem dL_asks_38 : decode cL_asks 38 = .ok (.goto 90, 3) := by decide +kernel
theorem dL_asks_41 : decode cL_asks 41 = .ok (.iload_n 1, 1) := by decide +kernel
theorem dL_asks_42 : decode cL_asks 42 = .ok (.iconst 3, 1) := by decide +kernel
theorem dL_asks_43 : decode cL_asks 43 = .ok (.if_icmp .ne 14, 3) := by decide +kernel
theorem dL_asks_46 : decode cL_asks 46 = .ok (.aload_n 0, 1) := by decide +kernel
theorem dL_asks_47 : decode cL_asks 47 = .ok (.iload_n 2, 1) := by decide +kernel
theorem dL_asks_48 : decode cL_asks 48 = .ok (.iload_n 3, 1) := by decide +kernel
theorem dL_asks_49 : decode cL_asks 49 = .ok (.iload 4, 2) := by decide +kernel
theorem dL_asks_51 : decode cL_asks 51 = .ok (.invokevirtual 19, 3) := by decide +kernel
theorem dL_asks_54 : decode cL_asks 54 = .ok (.goto 74, 3) := by decide +kernel
theorem dL_asks_57 : decode cL_asks 57 = .ok (.iload_n 1, 1) := by decide +kernel
theorem dL_asks_58 : decode cL_asks 58 = .ok (.iconst 4, 1) := by decide +kernel
theorem dL_asks_59 : decode cL_asks 59 = .ok (.if_icmp .ne 11, 3) := by decide +kernel
theorem dL_asks_62 : decode cL_asks 62 = .ok (.aload_n 0, 1) := by decide +kernel
theorem dL_asks_63 : decode cL_asks 63 = .ok (.iload_n 2, 1) := by decide +kernel
theorem dL_asks_64 : decode cL_asks 64 = .ok (.invokevirtual 23, 3) := by decide +kernel
theorem dL_asks_67 : decode cL_asks 67 = .ok (.goto 61, 3) := by decide +kernel
theorem dL_asks_70 : decode cL_asks 70 = .ok (.iload_n 1, 1) := by decide +kernel
theorem dL_asks_71 : decode cL_asks 71 = .ok (.iconst 5, 1) := by decide +kernel
theorem dL_asks_72 : decode cL_asks 72 = .ok (.if_icmp .ne 12, 3) := by decide +kernel
theorem dL_asks_75 : decode cL_asks 75 = .ok (.aload_n 0, 1) := by decide +kernel
theorem dL_asks_76 : decode cL_asks 76 = .ok (.iload_n 2, 1) := by decide +kernel
theorem dL_asks_77 : decode cL_asks 77 = .ok (.iload_n 3, 1) := by decide +kernel
theorem dL_asks_78 : decode cL_asks 78 = .ok (.invokevirtual 27, 3) := by decide +kernel
theorem dL_asks_81 : decode cL_asks 81 = .ok (.goto 47, 3) := by decide +kernel
theorem dL_asks_84 : decode cL_asks 84 = .ok (.iload_n 1, 1) := by decide +kernel
theorem dL_asks_85 : decode cL_asks 85 = .ok (.bipush 6, 2) := by decide +kernel
theorem dL_asks_87 : decode cL_asks 87 = .ok (.if_icmp .ne 14, 3) := by decide +kernel
theorem dL_asks_90 : decode cL_asks 90 = .ok (.aload_n 0, 1) := by decide +kernel
theorem dL_asks_91 : decode cL_asks 91 = .ok (.iload_n 2, 1) := by decide +kernel
theorem dL_asks_92 : decode cL_asks 92 = .ok (.iload_n 3, 1) := by decide +kernel
theorem dL_asks_93 : decode cL_asks 93 = .ok (.iload 4, 2) := by decide +kernel
theorem dL_asks_95 : decode cL_asks 95 = .ok (.invokevirtual 30, 3) := by decide +kernel
theorem dL_asks_98 : decode cL_asks 98 = .ok (.goto 30, 3) := by decide +kernel
theorem dL_asks_101 : decode cL_asks 101 = .ok (.iload_n 1, 1) := by decide +kernel
theorem dL_asks_102 : decode cL_asks 102 = .ok (.bipush 7, 2) := by decide +kernel
theorem dL_asks_104 : decode cL_asks 104 = .ok (.if_icmp .ne 14, 3) := by decide +kernel
theorem dL_asks_107 : decode cL_asks 107 = .ok (.aload_n 0, 1) := by decide +kernel
theorem dL_asks_108 : decode cL_asks 108 = .ok (.iload_n 2, 1) := by decide +kernel
theorem dL_asks_109 : decode cL_asks 109 = .ok (.iload_n 3, 1) := by decide +kernel
theorem dL_asks_110 : decode cL_asks 110 = .ok (.iload 4, 2) := by decide +kernel
theorem dL_asks_112 : decode cL_asks 112 = .ok (.invokevirtual 33, 3) := by decide +kernel
theorem dL_asks_115 : decode cL_asks 115 = .ok (.goto 13, 3) := by decide +kernel
theorem dL_asks_118 : decode cL_asks 118 = .ok (.aload_n 0, 1) := by decide +kernel
theorem dL_asks_119 : decode cL_asks 119 = .ok (.iload_n 2, 1) := by decide +kernel
theorem dL_asks_120 : decode cL_asks 120 = .ok (.iload_n 3, 1) := by decide +kernel
theorem dL_asks_121 : decode cL_asks 121 = .ok (.iload 4, 2) := by decide +kernel
theorem dL_asks_123 : decode cL_asks 123 = .ok (.iload 5, 2) := by decide +kernel
theorem dL_asks_125 : decode cL_asks 125 = .ok (.invokevirtual 36, 3) := by decide +kernel
theorem dL_asks_128 : decode cL_asks 128 = .ok (.ireturn, 1) := by decide +kernel
theorem dX5_cutKey_0 : decode cX5_cutKey 0 = .ok (.aload_n 0, 1) := by decide +kernel
theorem dX5_cutKey_1 : decode cX5_cutKey 1 = .ok (.iload_n 1, 1) := by decide +kernel
theorem dX5_cutKey_2 : decode cX5_cutKey 2 = .ok (.invokevirtual 57, 3) := by decide +kernel
theorem dX5_cutKey_5 : decode cX5_cutKey 5 = .ok (.astore_n 3, 1) := by decide +kernel
theorem dX5_cutKey_6 : decode cX5_cutKey 6 = .ok (.aload_n 3, 1) := by decide +kernel
theorem dX5_cutKey_7 : decode cX5_cutKey 7 = .ok (.iload_n 2, 1) := by decide +kernel
theorem dX5_cutKey_8 : decode cX5_cutKey 8 = .ok (.invokevirtual 64, 3) := by decide +kernel
theorem dX5_cutKey_11 : decode cX5_cutKey 11 = .ok (.ifCond .ne 13, 3) := by decide +kernel
theorem dX5_cutKey_14 : decode cX5_cutKey 14 = .ok (.new 82, 3) := by decide +kernel
theorem dX5_cutKey_17 : decode cX5_cutKey 17 = .ok (.dup, 1) := by decide +kernel
theorem dX5_cutKey_18 : decode cX5_cutKey 18 = .ok (.ldc 84, 2) := by decide +kernel
theorem dX5_cutKey_20 : decode cX5_cutKey 20 = .ok (.invokespecial 86, 3) := by decide +kernel
theorem dX5_cutKey_23 : decode cX5_cutKey 23 = .ok (.athrow, 1) := by decide +kernel
theorem dX5_cutKey_24 : decode cX5_cutKey 24 = .ok (.aload_n 3, 1) := by decide +kernel
theorem dX5_cutKey_25 : decode cX5_cutKey 25 = .ok (.iload_n 2, 1) := by decide +kernel
theorem dX5_cutKey_26 : decode cX5_cutKey 26 = .ok (.invokevirtual 87, 3) := by decide +kernel
theorem dX5_cutKey_29 : decode cX5_cutKey 29 = .ok (.aload_n 3, 1) := by decide +kernel
theorem dX5_cutKey_30 : decode cX5_cutKey 30 = .ok (.getfield 68, 3) := by decide +kernel
theorem dX5_cutKey_33 : decode cX5_cutKey 33 = .ok (.invokevirtual 37, 3) := by decide +kernel
theorem dX5_cutKey_36 : decode cX5_cutKey 36 = .ok (.ireturn, 1) := by decide +kernel
theorem dX2_hasKeyAt_0 : decode cX2_hasKeyAt 0 = .ok (.aload_n 0, 1) := by decide +kernel
theorem dX2_hasKeyAt_1 : decode cX2_hasKeyAt 1 = .ok (.iload_n 1, 1) := by decide +kernel
theorem dX2_hasKeyAt_2 : decode cX2_hasKeyAt 2 = .ok (.invokevirtual 58, 3) := by decide +kernel
theorem dX2_hasKeyAt_5 : decode cX2_hasKeyAt 5 = .ok (.istore_n 2, 1) := by decide +kernel
theorem dX2_hasKeyAt_6 : decode cX2_hasKeyAt 6 = .ok (.iload_n 2, 1) := by decide +kernel
theorem dX2_hasKeyAt_7 : decode cX2_hasKeyAt 7 = .ok (.aload_n 0, 1) := by decide +kernel
theorem dX2_hasKeyAt_8 : decode cX2_hasKeyAt 8 = .ok (.getfield 21, 3) := by decide +kernel
theorem dX2_hasKeyAt_11 : decode cX2_hasKeyAt 11 = .ok (.invokevirtual 45, 3) := by decide +kernel
theorem dX2_hasKeyAt_14 : decode cX2_hasKeyAt 14 = .ok (.if_icmp .ge 25, 3) := by decide +kernel
theorem dX2_hasKeyAt_17 : decode cX2_hasKeyAt 17 = .ok (.aload_n 0, 1) := by decide +kernel
theorem dX2_hasKeyAt_18 : decode cX2_hasKeyAt 18 = .ok (.getfield 21, 3) := by decide +kernel
theorem dX2_hasKeyAt_21 : decode cX2_hasKeyAt 21 = .ok (.iload_n 2, 1) := by decide +kernel
theorem dX2_hasKeyAt_22 : decode cX2_hasKeyAt 22 = .ok (.invokevirtual 49, 3) := by decide +kernel
theorem dX2_hasKeyAt_25 : decode cX2_hasKeyAt 25 = .ok (.checkcast 53, 3) := by decide +kernel
theorem dX2_hasKeyAt_28 : decode cX2_hasKeyAt 28 = .ok (.getfield 55, 3) := by decide +kernel
theorem dX2_hasKeyAt_31 : decode cX2_hasKeyAt 31 = .ok (.iload_n 1, 1) := by decide +kernel
theorem dX2_hasKeyAt_32 : decode cX2_hasKeyAt 32 = .ok (.if_icmp .ne 7, 3) := by decide +kernel
theorem dX2_hasKeyAt_35 : decode cX2_hasKeyAt 35 = .ok (.iconst 1, 1) := by decide +kernel
theorem dX2_hasKeyAt_36 : decode cX2_hasKeyAt 36 = .ok (.goto 4, 3) := by decide +kernel
theorem dX2_hasKeyAt_39 : decode cX2_hasKeyAt 39 = .ok (.iconst 0, 1) := by decide +kernel
theorem dX2_hasKeyAt_40 : decode cX2_hasKeyAt 40 = .ok (.ireturn, 1) := by decide +kernel
theorem dX2_removeKeyAt_0 : decode cX2_removeKeyAt 0 = .ok (.aload_n 0, 1) := by decide +kernel
theorem dX2_removeKeyAt_1 : decode cX2_removeKeyAt 1 = .ok (.iload_n 1, 1) := by decide +kernel
theorem dX2_removeKeyAt_2 : decode cX2_removeKeyAt 2 = .ok (.invokevirtual 58, 3) := by decide +kernel
theorem dX2_removeKeyAt_5 : decode cX2_removeKeyAt 5 = .ok (.istore_n 2, 1) := by decide +kernel
theorem dX2_removeKeyAt_6 : decode cX2_removeKeyAt 6 = .ok (.iload_n 2, 1) := by decide +kernel
theorem dX2_removeKeyAt_7 : decode cX2_removeKeyAt 7 = .ok (.aload_n 0, 1) := by decide +kernel
theorem dX2_removeKeyAt_8 : decode cX2_removeKeyAt 8 = .ok (.getfield 21, 3) := by decide +kernel
theorem dX2_removeKeyAt_11 : decode cX2_removeKeyAt 11 = .ok (.invokevirtual 45, 3) := by decide +kernel
theorem dX2_removeKeyAt_14 : decode cX2_removeKeyAt 14 = .ok (.if_icmp .ge 30, 3) := by decide +kernel
theorem dX2_removeKeyAt_17 : decode cX2_removeKeyAt 17 = .ok (.aload_n 0, 1) := by decide +kernel
theorem dX2_removeKeyAt_18 : decode cX2_removeKeyAt 18 = .ok (.getfield 21, 3) := by decide +kernel
theorem dX2_removeKeyAt_21 : decode cX2_removeKeyAt 21 = .ok (.iload_n 2, 1) := by decide +kernel
theorem dX2_removeKeyAt_22 : decode cX2_removeKeyAt 22 = .ok (.invokevirtual 49, 3) := by decide +kernel
theorem dX2_removeKeyAt_25 : decode cX2_removeKeyAt 25 = .ok (.checkcast 53, 3) := by decide +kernel
theorem dX2_removeKeyAt_28 : decode cX2_removeKeyAt 28 = .ok (.getfield 55, 3) := by decide +kernel
theorem dX2_removeKeyAt_31 : decode cX2_removeKeyAt 31 = .ok (.iload_n 1, 1) := by decide +kernel
theorem dX2_removeKeyAt_32 : decode cX2_removeKeyAt 32 = .ok (.if_icmp .ne 12, 3) := by decide +kernel
theorem dX2_removeKeyAt_35 : decode cX2_removeKeyAt 35 = .ok (.aload_n 0, 1) := by decide +kernel
theorem dX2_removeKeyAt_36 : decode cX2_removeKeyAt 36 = .ok (.getfield 21, 3) := by decide +kernel
theorem dX2_removeKeyAt_39 : decode cX2_removeKeyAt 39 = .ok (.iload_n 2, 1) := by decide +kernel
theorem dX2_removeKeyAt_40 : decode cX2_removeKeyAt 40 = .ok (.invokevirtual 70, 3) := by decide +kernel
theorem dX2_removeKeyAt_43 : decode cX2_removeKeyAt 43 = .ok (.pop, 1) := by decide +kernel
theorem dX2_removeKeyAt_44 : decode cX2_removeKeyAt 44 = .ok (.return_, 1) := by decide +kernel
theorem dX5_cast_0 : decode cX5_cast 0 = .ok (.aload_n 0, 1) := by decide +kernel
theorem dX5_cast_1 : decode cX5_cast 1 = .ok (.iload_n 1, 1) := by decide +kernel
theorem dX5_cast_2 : decode cX5_cast 2 = .ok (.invokevirtual 110, 3) := by decide +kernel
theorem dX5_cast_5 : decode cX5_cast 5 = .ok (.astore_n 3, 1) := by decide +kernel
theorem dX5_cast_6 : decode cX5_cast 6 = .ok (.aload_n 0, 1) := by decide +kernel
theorem dX5_cast_7 : decode cX5_cast 7 = .ok (.iload_n 2, 1) := by decide +kernel
theorem dX5_cast_8 : decode cX5_cast 8 = .ok (.invokevirtual 57, 3) := by decide +kernel
theorem dX5_cast_11 : decode cX5_cast 11 = .ok (.astore 4, 2) := by decide +kernel
theorem dX5_cast_13 : decode cX5_cast 13 = .ok (.aload_n 3, 1) := by decide +kernel
theorem dX5_cast_14 : decode cX5_cast 14 = .ok (.getfield 114, 3) := by decide +kernel
theorem dX5_cast_17 : decode cX5_cast 17 = .ok (.ifCond .ne 11, 3) := by decide +kernel
theorem dX5_cast_20 : decode cX5_cast 20 = .ok (.aload_n 3, 1) := by decide +kernel
theorem dX5_cast_21 : decode cX5_cast 21 = .ok (.iload_n 2, 1) := by decide +kernel
theorem dX5_cast_22 : decode cX5_cast 22 = .ok (.invokevirtual 118, 3) := by decide +kernel
theorem dX5_cast_25 : decode cX5_cast 25 = .ok (.ifCond .eq 13, 3) := by decide +kernel
theorem dX5_cast_28 : decode cX5_cast 28 = .ok (.new 41, 3) := by decide +kernel
theorem dX5_cast_31 : decode cX5_cast 31 = .ok (.dup, 1) := by decide +kernel
theorem dX5_cast_32 : decode cX5_cast 32 = .ok (.ldc 121, 2) := by decide +kernel
theorem dX5_cast_34 : decode cX5_cast 34 = .ok (.invokespecial 45, 3) := by decide +kernel
theorem dX5_cast_37 : decode cX5_cast 37 = .ok (.athrow, 1) := by decide +kernel
theorem dX5_cast_38 : decode cX5_cast 38 = .ok (.aload 4, 2) := by decide +kernel
theorem dX5_cast_40 : decode cX5_cast 40 = .ok (.getfield 123, 3) := by decide +kernel
theorem dX5_cast_43 : decode cX5_cast 43 = .ok (.bipush 50, 2) := by decide +kernel
theorem dX5_cast_45 : decode cX5_cast 45 = .ok (.if_icmp .ge 17, 3) := by decide +kernel
theorem dX5_cast_48 : decode cX5_cast 48 = .ok (.aload_n 0, 1) := by decide +kernel
theorem dX5_cast_49 : decode cX5_cast 49 = .ok (.aload 4, 2) := by decide +kernel
theorem dX5_cast_51 : decode cX5_cast 51 = .ok (.iload_n 2, 1) := by decide +kernel
theorem dX5_cast_52 : decode cX5_cast 52 = .ok (.aload_n 3, 1) := by decide +kernel
theorem dX5_cast_53 : decode cX5_cast 53 = .ok (.getfield 126, 3) := by decide +kernel
theorem dX5_cast_56 : decode cX5_cast 56 = .ok (.invokevirtual 130, 3) := by decide +kernel
theorem dX5_cast_59 : decode cX5_cast 59 = .ok (.ifCond .eq 13, 3) := by decide +kernel
theorem dX5_cast_62 : decode cX5_cast 62 = .ok (.new 41, 3) := by decide +kernel
theorem dX5_cast_65 : decode cX5_cast 65 = .ok (.dup, 1) := by decide +kernel
theorem dX5_cast_66 : decode cX5_cast 66 = .ok (.ldc 134, 2) := by decide +kernel
theorem dX5_cast_68 : decode cX5_cast 68 = .ok (.invokespecial 45, 3) := by decide +kernel
theorem dX5_cast_71 : decode cX5_cast 71 = .ok (.athrow, 1) := by decide +kernel
theorem dX5_cast_72 : decode cX5_cast 72 = .ok (.aload_n 3, 1) := by decide +kernel
theorem dX5_cast_73 : decode cX5_cast 73 = .ok (.iload_n 2, 1) := by decide +kernel
theorem dX5_cast_74 : decode cX5_cast 74 = .ok (.invokevirtual 136, 3) := by decide +kernel
theorem dX5_cast_77 : decode cX5_cast 77 = .ok (.aload_n 3, 1) := by decide +kernel
theorem dX5_cast_78 : decode cX5_cast 78 = .ok (.getfield 139, 3) := by decide +kernel
theorem dX5_cast_81 : decode cX5_cast 81 = .ok (.ireturn, 1) := by decide +kernel
theorem dX5_showNumbered_0 : decode cX5_showNumbered 0 = .ok (.iload_n 1, 1) := by decide +kernel
theorem dX5_showNumbered_1 : decode cX5_showNumbered 1 = .ok (.ifCond .lt 14, 3) := by decide +kernel
theorem dX5_showNumbered_4 : decode cX5_showNumbered 4 = .ok (.iload_n 1, 1) := by decide +kernel
theorem dX5_showNumbered_5 : decode cX5_showNumbered 5 = .ok (.aload_n 0, 1) := by decide +kernel
theorem dX5_showNumbered_6 : decode cX5_showNumbered 6 = .ok (.getfield 16, 3) := by decide +kernel
theorem dX5_showNumbered_9 : decode cX5_showNumbered 9 = .ok (.invokevirtual 37, 3) := by decide +kernel
theorem dX5_showNumbered_12 : decode cX5_showNumbered 12 = .ok (.if_icmp .lt 13, 3) := by decide +kernel
theorem dX5_showNumbered_15 : decode cX5_showNumbered 15 = .ok (.new 91, 3) := by decide +kernel
theorem dX5_showNumbered_18 : decode cX5_showNumbered 18 = .ok (.dup, 1) := by decide +kernel
theorem dX5_showNumbered_19 : decode cX5_showNumbered 19 = .ok (.ldc 217, 2) := by decide +kernel
theorem dX5_showNumbered_21 : decode cX5_showNumbered 21 = .ok (.invokespecial 95, 3) := by decide +kernel
theorem dX5_showNumbered_24 : decode cX5_showNumbered 24 = .ok (.athrow, 1) := by decide +kernel
theorem dX5_showNumbered_25 : decode cX5_showNumbered 25 = .ok (.aload_n 0, 1) := by decide +kernel
theorem dX5_showNumbered_26 : decode cX5_showNumbered 26 = .ok (.getfield 16, 3) := by decide +kernel
theorem dX5_showNumbered_29 : decode cX5_showNumbered 29 = .ok (.iload_n 1, 1) := by decide +kernel
theorem dX5_showNumbered_30 : decode cX5_showNumbered 30 = .ok (.invokevirtual 157, 3) := by decide +kernel
theorem dX5_showNumbered_33 : decode cX5_showNumbered 33 = .ok (.checkcast 102, 3) := by decide +kernel
theorem dX5_showNumbered_36 : decode cX5_showNumbered 36 = .ok (.areturn, 1) := by decide +kernel
theorem dX3_take_0 : decode cX3_take 0 = .ok (.iload_n 1, 1) := by decide +kernel
theorem dX3_take_1 : decode cX3_take 1 = .ok (.ifCond .lt 38, 3) := by decide +kernel
theorem dX3_take_4 : decode cX3_take 4 = .ok (.iload_n 1, 1) := by decide +kernel
theorem dX3_take_5 : decode cX3_take 5 = .ok (.aload_n 0, 1) := by decide +kernel
theorem dX3_take_6 : decode cX3_take 6 = .ok (.getfield 15, 3) := by decide +kernel
theorem dX3_take_9 : decode cX3_take 9 = .ok (.arraylength, 1) := by decide +kernel
theorem dX3_take_10 : decode cX3_take 10 = .ok (.if_icmp .ge 29, 3) := by decide +kernel
theorem dX3_take_13 : decode cX3_take 13 = .ok (.aload_n 0, 1) := by decide +kernel
theorem dX3_take_14 : decode cX3_take 14 = .ok (.getfield 15, 3) := by decide +kernel
theorem dX3_take_17 : decode cX3_take 17 = .ok (.iload_n 1, 1) := by decide +kernel
theorem dX3_take_18 : decode cX3_take 18 = .ok (.baload, 1) := by decide +kernel
theorem dX3_take_19 : decode cX3_take 19 = .ok (.ifCond .ne 20, 3) := by decide +kernel
theorem dX3_take_22 : decode cX3_take 22 = .ok (.aload_n 0, 1) := by decide +kernel
theorem dX3_take_23 : decode cX3_take 23 = .ok (.getfield 15, 3) := by decide +kernel
theorem dX3_take_26 : decode cX3_take 26 = .ok (.iload_n 1, 1) := by decide +kernel
theorem dX3_take_27 : decode cX3_take 27 = .ok (.iconst 1, 1) := by decide +kernel
theorem dX3_take_28 : decode cX3_take 28 = .ok (.bastore, 1) := by decide +kernel
theorem dX3_take_29 : decode cX3_take 29 = .ok (.aload_n 0, 1) := by decide +kernel
theorem dX3_take_30 : decode cX3_take 30 = .ok (.dup, 1) := by decide +kernel
theorem dX3_take_31 : decode cX3_take 31 = .ok (.getfield 19, 3) := by decide +kernel
theorem dX3_take_34 : decode cX3_take 34 = .ok (.iconst 1, 1) := by decide +kernel
theorem dX3_take_35 : decode cX3_take 35 = .ok (.iadd, 1) := by decide +kernel
theorem dX3_take_36 : decode cX3_take 36 = .ok (.putfield 19, 3) := by decide +kernel
theorem dX3_take_39 : decode cX3_take 39 = .ok (.return_, 1) := by decide +kernel
theorem dX5_leave_0 : decode cX5_leave 0 = .ok (.aload_n 0, 1) := by decide +kernel
theorem dX5_leave_1 : decode cX5_leave 1 = .ok (.iload_n 1, 1) := by decide +kernel
theorem dX5_leave_2 : decode cX5_leave 2 = .ok (.invokevirtual 110, 3) := by decide +kernel
theorem dX5_leave_5 : decode cX5_leave 5 = .ok (.astore_n 3, 1) := by decide +kernel
theorem dX5_leave_6 : decode cX5_leave 6 = .ok (.aload_n 0, 1) := by decide +kernel
theorem dX5_leave_7 : decode cX5_leave 7 = .ok (.iload_n 2, 1) := by decide +kernel
theorem dX5_leave_8 : decode cX5_leave 8 = .ok (.invokevirtual 57, 3) := by decide +kernel
theorem dX5_leave_11 : decode cX5_leave 11 = .ok (.pop, 1) := by decide +kernel
theorem dX5_leave_12 : decode cX5_leave 12 = .ok (.aload_n 3, 1) := by decide +kernel
theorem dX5_leave_13 : decode cX5_leave 13 = .ok (.getfield 114, 3) := by decide +kernel
theorem dX5_leave_16 : decode cX5_leave 16 = .ok (.ifCond .ne 11, 3) := by decide +kernel
theorem dX5_leave_19 : decode cX5_leave 19 = .ok (.aload_n 3, 1) := by decide +kernel
theorem dX5_leave_20 : decode cX5_leave 20 = .ok (.iload_n 2, 1) := by decide +kernel
theorem dX5_leave_21 : decode cX5_leave 21 = .ok (.invokevirtual 118, 3) := by decide +kernel
theorem dX5_leave_24 : decode cX5_leave 24 = .ok (.ifCond .ne 13, 3) := by decide +kernel
theorem dX5_leave_27 : decode cX5_leave 27 = .ok (.new 41, 3) := by decide +kernel
theorem dX5_leave_30 : decode cX5_leave 30 = .ok (.dup, 1) := by decide +kernel
theorem dX5_leave_31 : decode cX5_leave 31 = .ok (.ldc 142, 2) := by decide +kernel
theorem dX5_leave_33 : decode cX5_leave 33 = .ok (.invokespecial 45, 3) := by decide +kernel
theorem dX5_leave_36 : decode cX5_leave 36 = .ok (.athrow, 1) := by decide +kernel
theorem dX5_leave_37 : decode cX5_leave 37 = .ok (.aload_n 3, 1) := by decide +kernel
theorem dX5_leave_38 : decode cX5_leave 38 = .ok (.iload_n 2, 1) := by decide +kernel
theorem dX5_leave_39 : decode cX5_leave 39 = .ok (.invokevirtual 144, 3) := by decide +kernel
theorem dX5_leave_42 : decode cX5_leave 42 = .ok (.aload_n 3, 1) := by decide +kernel
theorem dX5_leave_43 : decode cX5_leave 43 = .ok (.getfield 139, 3) := by decide +kernel
theorem dX5_leave_46 : decode cX5_leave 46 = .ok (.ireturn, 1) := by decide +kernel
theorem dX3_release_0 : decode cX3_release 0 = .ok (.iload_n 1, 1) := by decide +kernel
theorem dX3_release_1 : decode cX3_release 1 = .ok (.ifCond .lt 38, 3) := by decide +kernel
theorem dX3_release_4 : decode cX3_release 4 = .ok (.iload_n 1, 1) := by decide +kernel
theorem dX3_release_5 : decode cX3_release 5 = .ok (.aload_n 0, 1) := by decide +kernel
theorem dX3_release_6 : decode cX3_release 6 = .ok (.getfield 15, 3) := by decide +kernel
theorem dX3_release_9 : decode cX3_release 9 = .ok (.arraylength, 1) := by decide +kernel
theorem dX3_release_10 : decode cX3_release 10 = .ok (.if_icmp .ge 29, 3) := by decide +kernel
theorem dX3_release_13 : decode cX3_release 13 = .ok (.aload_n 0, 1) := by decide +kernel
theorem dX3_release_14 : decode cX3_release 14 = .ok (.getfield 15, 3) := by decide +kernel
theorem dX3_release_17 : decode cX3_release 17 = .ok (.iload_n 1, 1) := by decide +kernel
theorem dX3_release_18 : decode cX3_release 18 = .ok (.baload, 1) := by decide +kernel
theorem dX3_release_19 : decode cX3_release 19 = .ok (.ifCond .eq 20, 3) := by decide +kernel
theorem dX3_release_22 : decode cX3_release 22 = .ok (.aload_n 0, 1) := by decide +kernel
theorem dX3_release_23 : decode cX3_release 23 = .ok (.getfield 15, 3) := by decide +kernel
theorem dX3_release_26 : decode cX3_release 26 = .ok (.iload_n 1, 1) := by decide +kernel
theorem dX3_release_27 : decode cX3_release 27 = .ok (.iconst 0, 1) := by decide +kernel
theorem dX3_release_28 : decode cX3_release 28 = .ok (.bastore, 1) := by decide +kernel
theorem dX3_release_29 : decode cX3_release 29 = .ok (.aload_n 0, 1) := by decide +kernel
theorem dX3_release_30 : decode cX3_release 30 = .ok (.dup, 1) := by decide +kernel
theorem dX3_release_31 : decode cX3_release 31 = .ok (.getfield 19, 3) := by decide +kernel
theorem dX3_release_34 : decode cX3_release 34 = .ok (.iconst 1, 1) := by decide +kernel
theorem dX3_release_35 : decode cX3_release 35 = .ok (.isub, 1) := by decide +kernel
theorem dX3_release_36 : decode cX3_release 36 = .ok (.putfield 19, 3) := by decide +kernel
theorem dX3_release_39 : decode cX3_release 39 = .ok (.return_, 1) := by decide +kernel
theorem dX5_sell_0 : decode cX5_sell 0 = .ok (.aload_n 0, 1) := by decide +kernel
theorem dX5_sell_1 : decode cX5_sell 1 = .ok (.iload_n 1, 1) := by decide +kernel
theorem dX5_sell_2 : decode cX5_sell 2 = .ok (.invokevirtual 110, 3) := by decide +kernel
theorem dX5_sell_5 : decode cX5_sell 5 = .ok (.astore 4, 2) := by decide +kernel
theorem dX5_sell_7 : decode cX5_sell 7 = .ok (.iload_n 2, 1) := by decide +kernel
theorem dX5_sell_8 : decode cX5_sell 8 = .ok (.iconst 1, 1) := by decide +kernel
theorem dX5_sell_9 : decode cX5_sell 9 = .ok (.bipush 50, 2) := by decide +kernel
theorem dX5_sell_11 : decode cX5_sell 11 = .ok (.invokestatic 33, 3) := by decide +kernel
theorem dX5_sell_14 : decode cX5_sell 14 = .ok (.iload_n 3, 1) := by decide +kernel
theorem dX5_sell_15 : decode cX5_sell 15 = .ok (.iconst 0, 1) := by decide +kernel
theorem dX5_sell_16 : decode cX5_sell 16 = .ok (.bipush 100, 2) := by decide +kernel
theorem dX5_sell_18 : decode cX5_sell 18 = .ok (.invokestatic 33, 3) := by decide +kernel
theorem dX5_sell_21 : decode cX5_sell 21 = .ok (.aload 4, 2) := by decide +kernel
theorem dX5_sell_23 : decode cX5_sell 23 = .ok (.getfield 114, 3) := by decide +kernel
theorem dX5_sell_26 : decode cX5_sell 26 = .ok (.ifCond .ne 12, 3) := by decide +kernel
theorem dX5_sell_29 : decode cX5_sell 29 = .ok (.iload_n 2, 1) := by decide +kernel
theorem dX5_sell_30 : decode cX5_sell 30 = .ok (.aload 4, 2) := by decide +kernel
theorem dX5_sell_32 : decode cX5_sell 32 = .ok (.getfield 147, 3) := by decide +kernel
theorem dX5_sell_35 : decode cX5_sell 35 = .ok (.if_icmp .le 13, 3) := by decide +kernel
theorem dX5_sell_38 : decode cX5_sell 38 = .ok (.new 41, 3) := by decide +kernel
theorem dX5_sell_41 : decode cX5_sell 41 = .ok (.dup, 1) := by decide +kernel
theorem dX5_sell_42 : decode cX5_sell 42 = .ok (.ldc 150, 2) := by decide +kernel
theorem dX5_sell_44 : decode cX5_sell 44 = .ok (.invokespecial 45, 3) := by decide +kernel
theorem dX5_sell_47 : decode cX5_sell 47 = .ok (.athrow, 1) := by decide +kernel
theorem dX5_sell_48 : decode cX5_sell 48 = .ok (.aload 4, 2) := by decide +kernel
theorem dX5_sell_50 : decode cX5_sell 50 = .ok (.dup, 1) := by decide +kernel
theorem dX5_sell_51 : decode cX5_sell 51 = .ok (.getfield 147, 3) := by decide +kernel
theorem dX5_sell_54 : decode cX5_sell 54 = .ok (.iload_n 2, 1) := by decide +kernel
theorem dX5_sell_55 : decode cX5_sell 55 = .ok (.isub, 1) := by decide +kernel
theorem dX5_sell_56 : decode cX5_sell 56 = .ok (.putfield 147, 3) := by decide +kernel
theorem dX5_sell_59 : decode cX5_sell 59 = .ok (.aload 4, 2) := by decide +kernel
theorem dX5_sell_61 : decode cX5_sell 61 = .ok (.dup, 1) := by decide +kernel
theorem dX5_sell_62 : decode cX5_sell 62 = .ok (.getfield 152, 3) := by decide +kernel
theorem dX5_sell_65 : decode cX5_sell 65 = .ok (.iload_n 2, 1) := by decide +kernel
theorem dX5_sell_66 : decode cX5_sell 66 = .ok (.iload_n 3, 1) := by decide +kernel
theorem dX5_sell_67 : decode cX5_sell 67 = .ok (.imul, 1) := by decide +kernel
theorem dX5_sell_68 : decode cX5_sell 68 = .ok (.iadd, 1) := by decide +kernel
theorem dX5_sell_69 : decode cX5_sell 69 = .ok (.putfield 152, 3) := by decide +kernel
theorem dX5_sell_72 : decode cX5_sell 72 = .ok (.aload 4, 2) := by decide +kernel
theorem dX5_sell_74 : decode cX5_sell 74 = .ok (.getfield 147, 3) := by decide +kernel
theorem dX5_sell_77 : decode cX5_sell 77 = .ok (.ireturn, 1) := by decide +kernel
theorem dX5_perform_0 : decode cX5_perform 0 = .ok (.aload_n 0, 1) := by decide +kernel
theorem dX5_perform_1 : decode cX5_perform 1 = .ok (.iload_n 1, 1) := by decide +kernel
theorem dX5_perform_2 : decode cX5_perform 2 = .ok (.invokevirtual 110, 3) := by decide +kernel
theorem dX5_perform_5 : decode cX5_perform 5 = .ok (.astore_n 2, 1) := by decide +kernel
theorem dX5_perform_6 : decode cX5_perform 6 = .ok (.aload_n 2, 1) := by decide +kernel
theorem dX5_perform_7 : decode cX5_perform 7 = .ok (.getfield 114, 3) := by decide +kernel
theorem dX5_perform_10 : decode cX5_perform 10 = .ok (.ifCond .ne 10, 3) := by decide +kernel
theorem dX5_perform_13 : decode cX5_perform 13 = .ok (.aload_n 2, 1) := by decide +kernel
theorem dX5_perform_14 : decode cX5_perform 14 = .ok (.getfield 139, 3) := by decide +kernel
theorem dX5_perform_17 : decode cX5_perform 17 = .ok (.ifCond .ne 13, 3) := by decide +kernel
theorem dX5_perform_20 : decode cX5_perform 20 = .ok (.new 41, 3) := by decide +kernel
theorem dX5_perform_23 : decode cX5_perform 23 = .ok (.dup, 1) := by decide +kernel
theorem dX5_perform_24 : decode cX5_perform 24 = .ok (.ldc 155, 2) := by decide +kernel
theorem dX5_perform_26 : decode cX5_perform 26 = .ok (.invokespecial 45, 3) := by decide +kernel
theorem dX5_perform_29 : decode cX5_perform 29 = .ok (.athrow, 1) := by decide +kernel
theorem dX5_perform_30 : decode cX5_perform 30 = .ok (.aload_n 2, 1) := by decide +kernel
theorem dX5_perform_31 : decode cX5_perform 31 = .ok (.iconst 1, 1) := by decide +kernel
theorem dX5_perform_32 : decode cX5_perform 32 = .ok (.putfield 114, 3) := by decide +kernel
theorem dX5_perform_35 : decode cX5_perform 35 = .ok (.iconst 0, 1) := by decide +kernel
theorem dX5_perform_36 : decode cX5_perform 36 = .ok (.istore_n 3, 1) := by decide +kernel
theorem dX5_perform_37 : decode cX5_perform 37 = .ok (.iload_n 3, 1) := by decide +kernel
theorem dX5_perform_38 : decode cX5_perform 38 = .ok (.aload_n 0, 1) := by decide +kernel
theorem dX5_perform_39 : decode cX5_perform 39 = .ok (.getfield 10, 3) := by decide +kernel
theorem dX5_perform_42 : decode cX5_perform 42 = .ok (.invokevirtual 37, 3) := by decide +kernel
theorem dX5_perform_45 : decode cX5_perform 45 = .ok (.if_icmp .ge 31, 3) := by decide +kernel
theorem dX5_perform_48 : decode cX5_perform 48 = .ok (.aload_n 2, 1) := by decide +kernel
theorem dX5_perform_49 : decode cX5_perform 49 = .ok (.iload_n 3, 1) := by decide +kernel
theorem dX5_perform_50 : decode cX5_perform 50 = .ok (.invokevirtual 118, 3) := by decide +kernel
theorem dX5_perform_53 : decode cX5_perform 53 = .ok (.ifCond .eq 17, 3) := by decide +kernel
theorem dX5_perform_56 : decode cX5_perform 56 = .ok (.aload_n 0, 1) := by decide +kernel
theorem dX5_perform_57 : decode cX5_perform 57 = .ok (.getfield 10, 3) := by decide +kernel
theorem dX5_perform_60 : decode cX5_perform 60 = .ok (.iload_n 3, 1) := by decide +kernel
theorem dX5_perform_61 : decode cX5_perform 61 = .ok (.invokevirtual 157, 3) := by decide +kernel
theorem dX5_perform_64 : decode cX5_perform 64 = .ok (.checkcast 48, 3) := by decide +kernel
theorem dX5_perform_67 : decode cX5_perform 67 = .ok (.invokevirtual 161, 3) := by decide +kernel
theorem dX5_perform_70 : decode cX5_perform 70 = .ok (.iinc 3 1, 3) := by decide +kernel
theorem dX5_perform_73 : decode cX5_perform 73 = .ok (.goto (-36), 3) := by decide +kernel
theorem dX5_perform_76 : decode cX5_perform 76 = .ok (.aload_n 0, 1) := by decide +kernel
theorem dX5_perform_77 : decode cX5_perform 77 = .ok (.dup, 1) := by decide +kernel
theorem dX5_perform_78 : decode cX5_perform 78 = .ok (.getfield 29, 3) := by decide +kernel
theorem dX5_perform_81 : decode cX5_perform 81 = .ok (.aload_n 2, 1) := by decide +kernel
theorem dX5_perform_82 : decode cX5_perform 82 = .ok (.getfield 152, 3) := by decide +kernel
theorem dX5_perform_85 : decode cX5_perform 85 = .ok (.iadd, 1) := by decide +kernel
theorem dX5_perform_86 : decode cX5_perform 86 = .ok (.putfield 29, 3) := by decide +kernel
theorem dX5_perform_89 : decode cX5_perform 89 = .ok (.aload_n 2, 1) := by decide +kernel
theorem dX5_perform_90 : decode cX5_perform 90 = .ok (.getfield 152, 3) := by decide +kernel
theorem dX5_perform_93 : decode cX5_perform 93 = .ok (.ireturn, 1) := by decide +kernel
theorem dX2_wear_0 : decode cX2_wear 0 = .ok (.aload_n 0, 1) := by decide +kernel
theorem dX2_wear_1 : decode cX2_wear 1 = .ok (.bipush 99, 2) := by decide +kernel
theorem dX2_wear_3 : decode cX2_wear 3 = .ok (.aload_n 0, 1) := by decide +kernel
theorem dX2_wear_4 : decode cX2_wear 4 = .ok (.getfield 28, 3) := by decide +kernel
theorem dX2_wear_7 : decode cX2_wear 7 = .ok (.aload_n 0, 1) := by decide +kernel
theorem dX2_wear_8 : decode cX2_wear 8 = .ok (.getfield 21, 3) := by decide +kernel
theorem dX2_wear_11 : decode cX2_wear 11 = .ok (.invokevirtual 45, 3) := by decide +kernel
theorem dX2_wear_14 : decode cX2_wear 14 = .ok (.iadd, 1) := by decide +kernel
theorem dX2_wear_15 : decode cX2_wear 15 = .ok (.invokestatic 94, 3) := by decide +kernel
theorem dX2_wear_18 : decode cX2_wear 18 = .ok (.putfield 28, 3) := by decide +kernel
theorem dX2_wear_21 : decode cX2_wear 21 = .ok (.return_, 1) := by decide +kernel
theorem dX5_mend_0 : decode cX5_mend 0 = .ok (.aload_n 0, 1) := by decide +kernel
theorem dX5_mend_1 : decode cX5_mend 1 = .ok (.iload_n 1, 1) := by decide +kernel
theorem dX5_mend_2 : decode cX5_mend 2 = .ok (.invokevirtual 57, 3) := by decide +kernel
theorem dX5_mend_5 : decode cX5_mend 5 = .ok (.astore_n 3, 1) := by decide +kernel
theorem dX5_mend_6 : decode cX5_mend 6 = .ok (.iload_n 2, 1) := by decide +kernel
theorem dX5_mend_7 : decode cX5_mend 7 = .ok (.iconst 0, 1) := by decide +kernel
theorem dX5_mend_8 : decode cX5_mend 8 = .ok (.ldc 99, 2) := by decide +kernel
theorem dX5_mend_10 : decode cX5_mend 10 = .ok (.invokestatic 33, 3) := by decide +kernel
theorem dX5_mend_13 : decode cX5_mend 13 = .ok (.aload_n 3, 1) := by decide +kernel
theorem dX5_mend_14 : decode cX5_mend 14 = .ok (.getfield 123, 3) := by decide +kernel
theorem dX5_mend_17 : decode cX5_mend 17 = .ok (.ifCond .eq 15, 3) := by decide +kernel
theorem dX5_mend_20 : decode cX5_mend 20 = .ok (.aload_n 3, 1) := by decide +kernel
theorem dX5_mend_21 : decode cX5_mend 21 = .ok (.getfield 164, 3) := by decide +kernel
theorem dX5_mend_24 : decode cX5_mend 24 = .ok (.invokevirtual 37, 3) := by decide +kernel
theorem dX5_mend_27 : decode cX5_mend 27 = .ok (.bipush 10, 2) := by decide +kernel
theorem dX5_mend_29 : decode cX5_mend 29 = .ok (.if_icmp .lt 13, 3) := by decide +kernel
theorem dX5_mend_32 : decode cX5_mend 32 = .ok (.new 41, 3) := by decide +kernel
theorem dX5_mend_35 : decode cX5_mend 35 = .ok (.dup, 1) := by decide +kernel
theorem dX5_mend_36 : decode cX5_mend 36 = .ok (.ldc 167, 2) := by decide +kernel
theorem dX5_mend_38 : decode cX5_mend 38 = .ok (.invokespecial 45, 3) := by decide +kernel
theorem dX5_mend_41 : decode cX5_mend 41 = .ok (.athrow, 1) := by decide +kernel
theorem dX5_mend_42 : decode cX5_mend 42 = .ok (.new 104, 3) := by decide +kernel
theorem dX5_mend_45 : decode cX5_mend 45 = .ok (.dup, 1) := by decide +kernel
theorem dX5_mend_46 : decode cX5_mend 46 = .ok (.iload_n 2, 1) := by decide +kernel
theorem dX5_mend_47 : decode cX5_mend 47 = .ok (.aload_n 3, 1) := by decide +kernel
theorem dX5_mend_48 : decode cX5_mend 48 = .ok (.getfield 123, 3) := by decide +kernel
theorem dX5_mend_51 : decode cX5_mend 51 = .ok (.invokespecial 106, 3) := by decide +kernel
theorem dX5_mend_54 : decode cX5_mend 54 = .ok (.astore 4, 2) := by decide +kernel
theorem dX5_mend_56 : decode cX5_mend 56 = .ok (.aload_n 0, 1) := by decide +kernel
theorem dX5_mend_57 : decode cX5_mend 57 = .ok (.aload_n 3, 1) := by decide +kernel
theorem dX5_mend_58 : decode cX5_mend 58 = .ok (.iload_n 1, 1) := by decide +kernel
theorem dX5_mend_59 : decode cX5_mend 59 = .ok (.aload 4, 2) := by decide +kernel
theorem dX5_mend_61 : decode cX5_mend 61 = .ok (.invokevirtual 130, 3) := by decide +kernel
theorem dX5_mend_64 : decode cX5_mend 64 = .ok (.ifCond .eq 13, 3) := by decide +kernel
theorem dX5_mend_67 : decode cX5_mend 67 = .ok (.new 41, 3) := by decide +kernel
theorem dX5_mend_70 : decode cX5_mend 70 = .ok (.dup, 1) := by decide +kernel
theorem dX5_mend_71 : decode cX5_mend 71 = .ok (.ldc 169, 2) := by decide +kernel
theorem dX5_mend_73 : decode cX5_mend 73 = .ok (.invokespecial 45, 3) := by decide +kernel
theorem dX5_mend_76 : decode cX5_mend 76 = .ok (.athrow, 1) := by decide +kernel
theorem dX5_mend_77 : decode cX5_mend 77 = .ok (.aload_n 3, 1) := by decide +kernel
theorem dX5_mend_78 : decode cX5_mend 78 = .ok (.getfield 164, 3) := by decide +kernel
theorem dX5_mend_81 : decode cX5_mend 81 = .ok (.aload 4, 2) := by decide +kernel
theorem dX5_mend_83 : decode cX5_mend 83 = .ok (.invokevirtual 53, 3) := by decide +kernel
theorem dX5_mend_86 : decode cX5_mend 86 = .ok (.pop, 1) := by decide +kernel
theorem dX5_mend_87 : decode cX5_mend 87 = .ok (.aload_n 3, 1) := by decide +kernel
theorem dX5_mend_88 : decode cX5_mend 88 = .ok (.iconst 0, 1) := by decide +kernel
theorem dX5_mend_89 : decode cX5_mend 89 = .ok (.putfield 123, 3) := by decide +kernel
theorem dX5_mend_92 : decode cX5_mend 92 = .ok (.aload 4, 2) := by decide +kernel
theorem dX5_mend_94 : decode cX5_mend 94 = .ok (.getfield 171, 3) := by decide +kernel
theorem dX5_mend_97 : decode cX5_mend 97 = .ok (.ireturn, 1) := by decide +kernel
theorem dX5_x_0 : decode cX5_x 0 = .ok (.aload_n 0, 1) := by decide +kernel
theorem dX5_x_1 : decode cX5_x 1 = .ok (.iload_n 1, 1) := by decide +kernel
theorem dX5_x_2 : decode cX5_x 2 = .ok (.iload_n 2, 1) := by decide +kernel
theorem dX5_x_3 : decode cX5_x 3 = .ok (.invokevirtual 189, 3) := by decide +kernel
theorem dX5_x_6 : decode cX5_x 6 = .ok (.astore 4, 2) := by decide +kernel
theorem dX5_x_8 : decode cX5_x 8 = .ok (.iload_n 3, 1) := by decide +kernel
theorem dX5_x_9 : decode cX5_x 9 = .ok (.iconst 0, 1) := by decide +kernel
theorem dX5_x_10 : decode cX5_x 10 = .ok (.sipush 1999, 3) := by decide +kernel
theorem dX5_x_13 : decode cX5_x 13 = .ok (.invokestatic 33, 3) := by decide +kernel
theorem dX5_x_16 : decode cX5_x 16 = .ok (.aload_n 0, 1) := by decide +kernel
theorem dX5_x_17 : decode cX5_x 17 = .ok (.aload 4, 2) := by decide +kernel
theorem dX5_x_19 : decode cX5_x 19 = .ok (.iload_n 2, 1) := by decide +kernel
theorem dX5_x_20 : decode cX5_x 20 = .ok (.iload_n 3, 1) := by decide +kernel
theorem dX5_x_21 : decode cX5_x 21 = .ok (.invokevirtual 193, 3) := by decide +kernel
theorem dX5_x_24 : decode cX5_x 24 = .ok (.getfield 177, 3) := by decide +kernel
theorem dX5_x_27 : decode cX5_x 27 = .ok (.getfield 197, 3) := by decide +kernel
theorem dX5_x_30 : decode cX5_x 30 = .ok (.ireturn, 1) := by decide +kernel
theorem dX5_showWith_0 : decode cX5_showWith 0 = .ok (.aload_n 0, 1) := by decide +kernel
theorem dX5_showWith_1 : decode cX5_showWith 1 = .ok (.iload_n 1, 1) := by decide +kernel
theorem dX5_showWith_2 : decode cX5_showWith 2 = .ok (.invokevirtual 110, 3) := by decide +kernel
theorem dX5_showWith_5 : decode cX5_showWith 5 = .ok (.astore_n 3, 1) := by decide +kernel
theorem dX5_showWith_6 : decode cX5_showWith 6 = .ok (.aload_n 3, 1) := by decide +kernel
theorem dX5_showWith_7 : decode cX5_showWith 7 = .ok (.iload_n 2, 1) := by decide +kernel
theorem dX5_showWith_8 : decode cX5_showWith 8 = .ok (.invokevirtual 118, 3) := by decide +kernel
theorem dX5_showWith_11 : decode cX5_showWith 11 = .ok (.ifCond .ne 13, 3) := by decide +kernel
theorem dX5_showWith_14 : decode cX5_showWith 14 = .ok (.new 91, 3) := by decide +kernel
theorem dX5_showWith_17 : decode cX5_showWith 17 = .ok (.dup, 1) := by decide +kernel
theorem dX5_showWith_18 : decode cX5_showWith 18 = .ok (.ldc 219, 2) := by decide +kernel
theorem dX5_showWith_20 : decode cX5_showWith 20 = .ok (.invokespecial 95, 3) := by decide +kernel
theorem dX5_showWith_23 : decode cX5_showWith 23 = .ok (.athrow, 1) := by decide +kernel
theorem dX5_showWith_24 : decode cX5_showWith 24 = .ok (.aload_n 3, 1) := by decide +kernel
theorem dX5_showWith_25 : decode cX5_showWith 25 = .ok (.areturn, 1) := by decide +kernel
theorem dX5_settled_0 : decode cX5_settled 0 = .ok (.aload_n 0, 1) := by decide +kernel
theorem dX5_settled_1 : decode cX5_settled 1 = .ok (.iload_n 2, 1) := by decide +kernel
theorem dX5_settled_2 : decode cX5_settled 2 = .ok (.invokevirtual 57, 3) := by decide +kernel
theorem dX5_settled_5 : decode cX5_settled 5 = .ok (.astore 4, 2) := by decide +kernel
theorem dX5_settled_7 : decode cX5_settled 7 = .ok (.iconst 0, 1) := by decide +kernel
theorem dX5_settled_8 : decode cX5_settled 8 = .ok (.istore 5, 2) := by decide +kernel
theorem dX5_settled_10 : decode cX5_settled 10 = .ok (.iload 5, 2) := by decide +kernel
theorem dX5_settled_12 : decode cX5_settled 12 = .ok (.iload_n 2, 1) := by decide +kernel
theorem dX5_settled_13 : decode cX5_settled 13 = .ok (.if_icmp .gt 70, 3) := by decide +kernel
theorem dX5_settled_16 : decode cX5_settled 16 = .ok (.iload 5, 2) := by decide +kernel
theorem dX5_settled_18 : decode cX5_settled 18 = .ok (.aload_n 0, 1) := by decide +kernel
theorem dX5_settled_19 : decode cX5_settled 19 = .ok (.getfield 10, 3) := by decide +kernel
theorem dX5_settled_22 : decode cX5_settled 22 = .ok (.invokevirtual 37, 3) := by decide +kernel
theorem dX5_settled_25 : decode cX5_settled 25 = .ok (.if_icmp .ge 58, 3) := by decide +kernel
theorem dX5_settled_28 : decode cX5_settled 28 = .ok (.aload_n 1, 1) := by decide +kernel
theorem dX5_settled_29 : decode cX5_settled 29 = .ok (.iload 5, 2) := by decide +kernel
theorem dX5_settled_31 : decode cX5_settled 31 = .ok (.invokevirtual 118, 3) := by decide +kernel
theorem dX5_settled_34 : decode cX5_settled 34 = .ok (.ifCond .eq 43, 3) := by decide +kernel
theorem dX5_settled_37 : decode cX5_settled 37 = .ok (.aload_n 0, 1) := by decide +kernel
theorem dX5_settled_38 : decode cX5_settled 38 = .ok (.getfield 10, 3) := by decide +kernel
theorem dX5_settled_41 : decode cX5_settled 41 = .ok (.iload 5, 2) := by decide +kernel
theorem dX5_settled_43 : decode cX5_settled 43 = .ok (.invokevirtual 157, 3) := by decide +kernel
theorem dX5_settled_46 : decode cX5_settled 46 = .ok (.checkcast 48, 3) := by decide +kernel
theorem dX5_settled_49 : decode cX5_settled 49 = .ok (.astore 6, 2) := by decide +kernel
theorem dX5_settled_51 : decode cX5_settled 51 = .ok (.aload 6, 2) := by decide +kernel
theorem dX5_settled_53 : decode cX5_settled 53 = .ok (.aload_n 0, 1) := by decide +kernel
theorem dX5_settled_54 : decode cX5_settled 54 = .ok (.aload 6, 2) := by decide +kernel
theorem dX5_settled_56 : decode cX5_settled 56 = .ok (.iload_n 3, 1) := by decide +kernel
theorem dX5_settled_57 : decode cX5_settled 57 = .ok (.invokevirtual 234, 3) := by decide +kernel
theorem dX5_settled_60 : decode cX5_settled 60 = .ok (.invokevirtual 174, 3) := by decide +kernel
theorem dX5_settled_63 : decode cX5_settled 63 = .ok (.aload 6, 2) := by decide +kernel
theorem dX5_settled_65 : decode cX5_settled 65 = .ok (.invokevirtual 238, 3) := by decide +kernel
theorem dX5_settled_68 : decode cX5_settled 68 = .ok (.aload_n 0, 1) := by decide +kernel
theorem dX5_settled_69 : decode cX5_settled 69 = .ok (.aload_n 1, 1) := by decide +kernel
theorem dX5_settled_70 : decode cX5_settled 70 = .ok (.aload 6, 2) := by decide +kernel
theorem dX5_settled_72 : decode cX5_settled 72 = .ok (.iload 5, 2) := by decide +kernel
theorem dX5_settled_74 : decode cX5_settled 74 = .ok (.invokevirtual 241, 3) := by decide +kernel
theorem dX5_settled_77 : decode cX5_settled 77 = .ok (.iinc 5 1, 3) := by decide +kernel
theorem dX5_settled_80 : decode cX5_settled 80 = .ok (.goto (-70), 3) := by decide +kernel
theorem dX5_settled_83 : decode cX5_settled 83 = .ok (.aload 4, 2) := by decide +kernel
theorem dX5_settled_85 : decode cX5_settled 85 = .ok (.areturn, 1) := by decide +kernel
theorem dX5_ownFrame_0 : decode cX5_ownFrame 0 = .ok (.aload_n 1, 1) := by decide +kernel
theorem dX5_ownFrame_1 : decode cX5_ownFrame 1 = .ok (.getfield 96, 3) := by decide +kernel
theorem dX5_ownFrame_4 : decode cX5_ownFrame 4 = .ok (.ifCond .lt 15, 3) := by decide +kernel
theorem dX5_ownFrame_7 : decode cX5_ownFrame 7 = .ok (.aload_n 1, 1) := by decide +kernel
theorem dX5_ownFrame_8 : decode cX5_ownFrame 8 = .ok (.getfield 96, 3) := by decide +kernel
theorem dX5_ownFrame_11 : decode cX5_ownFrame 11 = .ok (.aload_n 0, 1) := by decide +kernel
theorem dX5_ownFrame_12 : decode cX5_ownFrame 12 = .ok (.getfield 19, 3) := by decide +kernel
theorem dX5_ownFrame_15 : decode cX5_ownFrame 15 = .ok (.arraylength, 1) := by decide +kernel
theorem dX5_ownFrame_16 : decode cX5_ownFrame 16 = .ok (.if_icmp .lt 5, 3) := by decide +kernel
theorem dX5_ownFrame_19 : decode cX5_ownFrame 19 = .ok (.iload_n 2, 1) := by decide +kernel
theorem dX5_ownFrame_20 : decode cX5_ownFrame 20 = .ok (.ireturn, 1) := by decide +kernel
theorem dX5_ownFrame_21 : decode cX5_ownFrame 21 = .ok (.aload_n 0, 1) := by decide +kernel
theorem dX5_ownFrame_22 : decode cX5_ownFrame 22 = .ok (.getfield 19, 3) := by decide +kernel
theorem dX5_ownFrame_25 : decode cX5_ownFrame 25 = .ok (.aload_n 1, 1) := by decide +kernel
theorem dX5_ownFrame_26 : decode cX5_ownFrame 26 = .ok (.getfield 96, 3) := by decide +kernel
theorem dX5_ownFrame_29 : decode cX5_ownFrame 29 = .ok (.iaload, 1) := by decide +kernel
theorem dX5_ownFrame_30 : decode cX5_ownFrame 30 = .ok (.istore_n 3, 1) := by decide +kernel
theorem dX5_ownFrame_31 : decode cX5_ownFrame 31 = .ok (.iload_n 3, 1) := by decide +kernel
theorem dX5_ownFrame_32 : decode cX5_ownFrame 32 = .ok (.iconst (-1), 1) := by decide +kernel
theorem dX5_ownFrame_33 : decode cX5_ownFrame 33 = .ok (.if_icmp .ne 7, 3) := by decide +kernel
theorem dX5_ownFrame_36 : decode cX5_ownFrame 36 = .ok (.iconst 0, 1) := by decide +kernel
theorem dX5_ownFrame_37 : decode cX5_ownFrame 37 = .ok (.goto 10, 3) := by decide +kernel
theorem dX5_ownFrame_40 : decode cX5_ownFrame 40 = .ok (.iconst 0, 1) := by decide +kernel
theorem dX5_ownFrame_41 : decode cX5_ownFrame 41 = .ok (.iload_n 2, 1) := by decide +kernel
theorem dX5_ownFrame_42 : decode cX5_ownFrame 42 = .ok (.iload_n 3, 1) := by decide +kernel
theorem dX5_ownFrame_43 : decode cX5_ownFrame 43 = .ok (.isub, 1) := by decide +kernel
theorem dX5_ownFrame_44 : decode cX5_ownFrame 44 = .ok (.invokestatic 228, 3) := by decide +kernel
theorem dX5_ownFrame_47 : decode cX5_ownFrame 47 = .ok (.ireturn, 1) := by decide +kernel
theorem dX2_pull_0 : decode cX2_pull 0 = .ok (.aload_n 0, 1) := by decide +kernel
theorem dX2_pull_1 : decode cX2_pull 1 = .ok (.getfield 15, 3) := by decide +kernel
theorem dX2_pull_4 : decode cX2_pull 4 = .ok (.aload_n 0, 1) := by decide +kernel
theorem dX2_pull_5 : decode cX2_pull 5 = .ok (.getfield 15, 3) := by decide +kernel
theorem dX2_pull_8 : decode cX2_pull 8 = .ok (.imul, 1) := by decide +kernel
theorem dX2_pull_9 : decode cX2_pull 9 = .ok (.istore_n 1, 1) := by decide +kernel
theorem dX2_pull_10 : decode cX2_pull 10 = .ok (.aload_n 0, 1) := by decide +kernel
theorem dX2_pull_11 : decode cX2_pull 11 = .ok (.invokevirtual 91, 3) := by decide +kernel
theorem dX2_pull_14 : decode cX2_pull 14 = .ok (.iload_n 1, 1) := by decide +kernel
theorem dX2_pull_15 : decode cX2_pull 15 = .ok (.if_icmp .gt 4, 3) := by decide +kernel
theorem dX2_pull_18 : decode cX2_pull 18 = .ok (.return_, 1) := by decide +kernel
theorem dX2_pull_19 : decode cX2_pull 19 = .ok (.aload_n 0, 1) := by decide +kernel
theorem dX2_pull_20 : decode cX2_pull 20 = .ok (.getfield 15, 3) := by decide +kernel
theorem dX2_pull_23 : decode cX2_pull 23 = .ok (.ineg, 1) := by decide +kernel
theorem dX2_pull_24 : decode cX2_pull 24 = .ok (.aload_n 0, 1) := by decide +kernel
theorem dX2_pull_25 : decode cX2_pull 25 = .ok (.getfield 15, 3) := by decide +kernel
theorem dX2_pull_28 : decode cX2_pull 28 = .ok (.aload_n 0, 1) := by decide +kernel
theorem dX2_pull_29 : decode cX2_pull 29 = .ok (.getfield 37, 3) := by decide +kernel
theorem dX2_pull_32 : decode cX2_pull 32 = .ok (.getfield 77, 3) := by decide +kernel
theorem dX2_pull_35 : decode cX2_pull 35 = .ok (.aload_n 0, 1) := by decide +kernel
theorem dX2_pull_36 : decode cX2_pull 36 = .ok (.getfield 9, 3) := by decide +kernel
theorem dX2_pull_39 : decode cX2_pull 39 = .ok (.isub, 1) := by decide +kernel
theorem dX2_pull_40 : decode cX2_pull 40 = .ok (.invokestatic 94, 3) := by decide +kernel
theorem dX2_pull_43 : decode cX2_pull 43 = .ok (.invokestatic 100, 3) := by decide +kernel
theorem dX2_pull_46 : decode cX2_pull 46 = .ok (.istore_n 2, 1) := by decide +kernel
theorem dX2_pull_47 : decode cX2_pull 47 = .ok (.aload_n 0, 1) := by decide +kernel
theorem dX2_pull_48 : decode cX2_pull 48 = .ok (.getfield 37, 3) := by decide +kernel
theorem dX2_pull_51 : decode cX2_pull 51 = .ok (.aload_n 0, 1) := by decide +kernel
theorem dX2_pull_52 : decode cX2_pull 52 = .ok (.getfield 9, 3) := by decide +kernel
theorem dX2_pull_55 : decode cX2_pull 55 = .ok (.iload_n 2, 1) := by decide +kernel
theorem dX2_pull_56 : decode cX2_pull 56 = .ok (.iadd, 1) := by decide +kernel
theorem dX2_pull_57 : decode cX2_pull 57 = .ok (.putfield 77, 3) := by decide +kernel
theorem dX2_pull_60 : decode cX2_pull 60 = .ok (.aload_n 0, 1) := by decide +kernel
theorem dX2_pull_61 : decode cX2_pull 61 = .ok (.getfield 37, 3) := by decide +kernel
theorem dX2_pull_64 : decode cX2_pull 64 = .ok (.iload_n 1, 1) := by decide +kernel
theorem dX2_pull_65 : decode cX2_pull 65 = .ok (.iload_n 2, 1) := by decide +kernel
theorem dX2_pull_66 : decode cX2_pull 66 = .ok (.iload_n 2, 1) := by decide +kernel
theorem dX2_pull_67 : decode cX2_pull 67 = .ok (.imul, 1) := by decide +kernel
theorem dX2_pull_68 : decode cX2_pull 68 = .ok (.isub, 1) := by decide +kernel
theorem dX2_pull_69 : decode cX2_pull 69 = .ok (.invokestatic 103, 3) := by decide +kernel
theorem dX2_pull_72 : decode cX2_pull 72 = .ok (.putfield 80, 3) := by decide +kernel
theorem dX2_pull_75 : decode cX2_pull 75 = .ok (.return_, 1) := by decide +kernel
theorem dX2_squareFromBar_0 : decode cX2_squareFromBar 0 = .ok (.aload_n 0, 1) := by decide +kernel
theorem dX2_squareFromBar_1 : decode cX2_squareFromBar 1 = .ok (.getfield 37, 3) := by decide +kernel
theorem dX2_squareFromBar_4 : decode cX2_squareFromBar 4 = .ok (.getfield 77, 3) := by decide +kernel
theorem dX2_squareFromBar_7 : decode cX2_squareFromBar 7 = .ok (.aload_n 0, 1) := by decide +kernel
theorem dX2_squareFromBar_8 : decode cX2_squareFromBar 8 = .ok (.getfield 9, 3) := by decide +kernel
theorem dX2_squareFromBar_11 : decode cX2_squareFromBar 11 = .ok (.isub, 1) := by decide +kernel
theorem dX2_squareFromBar_12 : decode cX2_squareFromBar 12 = .ok (.istore_n 1, 1) := by decide +kernel
theorem dX2_squareFromBar_13 : decode cX2_squareFromBar 13 = .ok (.iload_n 1, 1) := by decide +kernel
theorem dX2_squareFromBar_14 : decode cX2_squareFromBar 14 = .ok (.iload_n 1, 1) := by decide +kernel
theorem dX2_squareFromBar_15 : decode cX2_squareFromBar 15 = .ok (.imul, 1) := by decide +kernel
theorem dX2_squareFromBar_16 : decode cX2_squareFromBar 16 = .ok (.aload_n 0, 1) := by decide +kernel
theorem dX2_squareFromBar_17 : decode cX2_squareFromBar 17 = .ok (.getfield 37, 3) := by decide +kernel
theorem dX2_squareFromBar_20 : decode cX2_squareFromBar 20 = .ok (.getfield 80, 3) := by decide +kernel
theorem dX2_squareFromBar_23 : decode cX2_squareFromBar 23 = .ok (.aload_n 0, 1) := by decide +kernel
theorem dX2_squareFromBar_24 : decode cX2_squareFromBar 24 = .ok (.getfield 37, 3) := by decide +kernel
theorem dX2_squareFromBar_27 : decode cX2_squareFromBar 27 = .ok (.getfield 80, 3) := by decide +kernel
theorem dX2_squareFromBar_30 : decode cX2_squareFromBar 30 = .ok (.imul, 1) := by decide +kernel
theorem dX2_squareFromBar_31 : decode cX2_squareFromBar 31 = .ok (.iadd, 1) := by decide +kernel
theorem dX2_squareFromBar_32 : decode cX2_squareFromBar 32 = .ok (.ireturn, 1) := by decide +kernel
theorem dX5_rootBelow_0 : decode cX5_rootBelow 0 = .ok (.iconst 0, 1) := by decide +kernel
theorem dX5_rootBelow_1 : decode cX5_rootBelow 1 = .ok (.istore_n 1, 1) := by decide +kernel
theorem dX5_rootBelow_2 : decode cX5_rootBelow 2 = .ok (.sipush 1024, 3) := by decide +kernel
theorem dX5_rootBelow_5 : decode cX5_rootBelow 5 = .ok (.istore_n 2, 1) := by decide +kernel
theorem dX5_rootBelow_6 : decode cX5_rootBelow 6 = .ok (.iload_n 2, 1) := by decide +kernel
theorem dX5_rootBelow_7 : decode cX5_rootBelow 7 = .ok (.ifCond .le 23, 3) := by decide +kernel
theorem dX5_rootBelow_10 : decode cX5_rootBelow 10 = .ok (.iload_n 1, 1) := by decide +kernel
theorem dX5_rootBelow_11 : decode cX5_rootBelow 11 = .ok (.iload_n 2, 1) := by decide +kernel
theorem dX5_rootBelow_12 : decode cX5_rootBelow 12 = .ok (.iadd, 1) := by decide +kernel
theorem dX5_rootBelow_13 : decode cX5_rootBelow 13 = .ok (.istore_n 3, 1) := by decide +kernel
theorem dX5_rootBelow_14 : decode cX5_rootBelow 14 = .ok (.iload_n 3, 1) := by decide +kernel
theorem dX5_rootBelow_15 : decode cX5_rootBelow 15 = .ok (.iload_n 3, 1) := by decide +kernel
theorem dX5_rootBelow_16 : decode cX5_rootBelow 16 = .ok (.imul, 1) := by decide +kernel
theorem dX5_rootBelow_17 : decode cX5_rootBelow 17 = .ok (.iload_n 0, 1) := by decide +kernel
theorem dX5_rootBelow_18 : decode cX5_rootBelow 18 = .ok (.if_icmp .gt 5, 3) := by decide +kernel
theorem dX5_rootBelow_21 : decode cX5_rootBelow 21 = .ok (.iload_n 3, 1) := by decide +kernel
theorem dX5_rootBelow_22 : decode cX5_rootBelow 22 = .ok (.istore_n 1, 1) := by decide +kernel
theorem dX5_rootBelow_23 : decode cX5_rootBelow 23 = .ok (.iload_n 2, 1) := by decide +kernel
theorem dX5_rootBelow_24 : decode cX5_rootBelow 24 = .ok (.iconst 2, 1) := by decide +kernel
theorem dX5_rootBelow_25 : decode cX5_rootBelow 25 = .ok (.idiv, 1) := by decide +kernel
theorem dX5_rootBelow_26 : decode cX5_rootBelow 26 = .ok (.istore_n 2, 1) := by decide +kernel
theorem dX5_rootBelow_27 : decode cX5_rootBelow 27 = .ok (.goto (-21), 3) := by decide +kernel
theorem dX5_rootBelow_30 : decode cX5_rootBelow 30 = .ok (.iload_n 1, 1) := by decide +kernel
theorem dX5_rootBelow_31 : decode cX5_rootBelow 31 = .ok (.ireturn, 1) := by decide +kernel
theorem dX5_keepOffLower_0 : decode cX5_keepOffLower 0 = .ok (.aload_n 2, 1) := by decide +kernel
theorem dX5_keepOffLower_1 : decode cX5_keepOffLower 1 = .ok (.iconst 0, 1) := by decide +kernel
theorem dX5_keepOffLower_2 : decode cX5_keepOffLower 2 = .ok (.putfield 203, 3) := by decide +kernel
theorem dX5_keepOffLower_5 : decode cX5_keepOffLower 5 = .ok (.iconst 0, 1) := by decide +kernel
theorem dX5_keepOffLower_6 : decode cX5_keepOffLower 6 = .ok (.istore 4, 2) := by decide +kernel
theorem dX5_keepOffLower_8 : decode cX5_keepOffLower 8 = .ok (.iload 4, 2) := by decide +kernel
theorem dX5_keepOffLower_10 : decode cX5_keepOffLower 10 = .ok (.iload_n 3, 1) := by decide +kernel
theorem dX5_keepOffLower_11 : decode cX5_keepOffLower 11 = .ok (.if_icmp .ge 49, 3) := by decide +kernel
theorem dX5_keepOffLower_14 : decode cX5_keepOffLower 14 = .ok (.iload 4, 2) := by decide +kernel
theorem dX5_keepOffLower_16 : decode cX5_keepOffLower 16 = .ok (.aload_n 0, 1) := by decide +kernel
theorem dX5_keepOffLower_17 : decode cX5_keepOffLower 17 = .ok (.getfield 10, 3) := by decide +kernel
theorem dX5_keepOffLower_20 : decode cX5_keepOffLower 20 = .ok (.invokevirtual 37, 3) := by decide +kernel
theorem dX5_keepOffLower_23 : decode cX5_keepOffLower 23 = .ok (.if_icmp .ge 37, 3) := by decide +kernel
theorem dX5_keepOffLower_26 : decode cX5_keepOffLower 26 = .ok (.aload_n 1, 1) := by decide +kernel
theorem dX5_keepOffLower_27 : decode cX5_keepOffLower 27 = .ok (.iload 4, 2) := by decide +kernel
theorem dX5_keepOffLower_29 : decode cX5_keepOffLower 29 = .ok (.invokevirtual 118, 3) := by decide +kernel
theorem dX5_keepOffLower_32 : decode cX5_keepOffLower 32 = .ok (.ifCond .eq 22, 3) := by decide +kernel
theorem dX5_keepOffLower_35 : decode cX5_keepOffLower 35 = .ok (.aload_n 2, 1) := by decide +kernel
theorem dX5_keepOffLower_36 : decode cX5_keepOffLower 36 = .ok (.aload_n 0, 1) := by decide +kernel
theorem dX5_keepOffLower_37 : decode cX5_keepOffLower 37 = .ok (.getfield 10, 3) := by decide +kernel
theorem dX5_keepOffLower_40 : decode cX5_keepOffLower 40 = .ok (.iload 4, 2) := by decide +kernel
theorem dX5_keepOffLower_42 : decode cX5_keepOffLower 42 = .ok (.invokevirtual 157, 3) := by decide +kernel
theorem dX5_keepOffLower_45 : decode cX5_keepOffLower 45 = .ok (.checkcast 48, 3) := by decide +kernel
theorem dX5_keepOffLower_48 : decode cX5_keepOffLower 48 = .ok (.getfield 177, 3) := by decide +kernel
theorem dX5_keepOffLower_51 : decode cX5_keepOffLower 51 = .ok (.invokevirtual 245, 3) := by decide +kernel
theorem dX5_keepOffLower_54 : decode cX5_keepOffLower 54 = .ok (.iinc 4 1, 3) := by decide +kernel
theorem dX5_keepOffLower_57 : decode cX5_keepOffLower 57 = .ok (.goto (-49), 3) := by decide +kernel
theorem dX5_keepOffLower_60 : decode cX5_keepOffLower 60 = .ok (.aload_n 2, 1) := by decide +kernel
theorem dX5_keepOffLower_61 : decode cX5_keepOffLower 61 = .ok (.getfield 203, 3) := by decide +kernel
theorem dX5_keepOffLower_64 : decode cX5_keepOffLower 64 = .ok (.ifCond .eq 7, 3) := by decide +kernel
theorem dX5_keepOffLower_67 : decode cX5_keepOffLower 67 = .ok (.aload_n 2, 1) := by decide +kernel
theorem dX5_keepOffLower_68 : decode cX5_keepOffLower 68 = .ok (.invokevirtual 238, 3) := by decide +kernel
theorem dX5_keepOffLower_71 : decode cX5_keepOffLower 71 = .ok (.return_, 1) := by decide +kernel
theorem dX2_keepOff_0 : decode cX2_keepOff 0 = .ok (.aload_n 0, 1) := by decide +kernel
theorem dX2_keepOff_1 : decode cX2_keepOff 1 = .ok (.getfield 37, 3) := by decide +kernel
theorem dX2_keepOff_4 : decode cX2_keepOff 4 = .ok (.getfield 77, 3) := by decide +kernel
theorem dX2_keepOff_7 : decode cX2_keepOff 7 = .ok (.aload_n 1, 1) := by decide +kernel
theorem dX2_keepOff_8 : decode cX2_keepOff 8 = .ok (.getfield 77, 3) := by decide +kernel
theorem dX2_keepOff_11 : decode cX2_keepOff 11 = .ok (.isub, 1) := by decide +kernel
theorem dX2_keepOff_12 : decode cX2_keepOff 12 = .ok (.invokestatic 106, 3) := by decide +kernel
theorem dX2_keepOff_15 : decode cX2_keepOff 15 = .ok (.bipush 10, 2) := by decide +kernel
theorem dX2_keepOff_17 : decode cX2_keepOff 17 = .ok (.if_icmp .ge 23, 3) := by decide +kernel
theorem dX2_keepOff_20 : decode cX2_keepOff 20 = .ok (.aload_n 0, 1) := by decide +kernel
theorem dX2_keepOff_21 : decode cX2_keepOff 21 = .ok (.getfield 37, 3) := by decide +kernel
theorem dX2_keepOff_24 : decode cX2_keepOff 24 = .ok (.getfield 80, 3) := by decide +kernel
theorem dX2_keepOff_27 : decode cX2_keepOff 27 = .ok (.aload_n 1, 1) := by decide +kernel
theorem dX2_keepOff_28 : decode cX2_keepOff 28 = .ok (.getfield 80, 3) := by decide +kernel
theorem dX2_keepOff_31 : decode cX2_keepOff 31 = .ok (.isub, 1) := by decide +kernel
theorem dX2_keepOff_32 : decode cX2_keepOff 32 = .ok (.invokestatic 106, 3) := by decide +kernel
theorem dX2_keepOff_35 : decode cX2_keepOff 35 = .ok (.bipush 10, 2) := by decide +kernel
theorem dX2_keepOff_37 : decode cX2_keepOff 37 = .ok (.if_icmp .lt 4, 3) := by decide +kernel
theorem dX2_keepOff_40 : decode cX2_keepOff 40 = .ok (.return_, 1) := by decide +kernel
theorem dX2_keepOff_41 : decode cX2_keepOff 41 = .ok (.aload_n 0, 1) := by decide +kernel
theorem dX2_keepOff_42 : decode cX2_keepOff 42 = .ok (.getfield 37, 3) := by decide +kernel
theorem dX2_keepOff_45 : decode cX2_keepOff 45 = .ok (.aload_n 0, 1) := by decide +kernel
theorem dX2_keepOff_46 : decode cX2_keepOff 46 = .ok (.getfield 37, 3) := by decide +kernel
theorem dX2_keepOff_49 : decode cX2_keepOff 49 = .ok (.getfield 77, 3) := by decide +kernel
theorem dX2_keepOff_52 : decode cX2_keepOff 52 = .ok (.aload_n 1, 1) := by decide +kernel
theorem dX2_keepOff_53 : decode cX2_keepOff 53 = .ok (.getfield 77, 3) := by decide +kernel
theorem dX2_keepOff_56 : decode cX2_keepOff 56 = .ok (.if_icmp .ge 13, 3) := by decide +kernel
theorem dX2_keepOff_59 : decode cX2_keepOff 59 = .ok (.aload_n 1, 1) := by decide +kernel
theorem dX2_keepOff_60 : decode cX2_keepOff 60 = .ok (.getfield 77, 3) := by decide +kernel
theorem dX2_keepOff_63 : decode cX2_keepOff 63 = .ok (.bipush 10, 2) := by decide +kernel
theorem dX2_keepOff_65 : decode cX2_keepOff 65 = .ok (.isub, 1) := by decide +kernel
theorem dX2_keepOff_66 : decode cX2_keepOff 66 = .ok (.goto 10, 3) := by decide +kernel
theorem dX2_keepOff_69 : decode cX2_keepOff 69 = .ok (.aload_n 1, 1) := by decide +kernel
theorem dX2_keepOff_70 : decode cX2_keepOff 70 = .ok (.getfield 77, 3) := by decide +kernel
theorem dX2_keepOff_73 : decode cX2_keepOff 73 = .ok (.bipush 10, 2) := by decide +kernel
theorem dX2_keepOff_75 : decode cX2_keepOff 75 = .ok (.iadd, 1) := by decide +kernel
theorem dX2_keepOff_76 : decode cX2_keepOff 76 = .ok (.putfield 77, 3) := by decide +kernel
theorem dX2_keepOff_79 : decode cX2_keepOff 79 = .ok (.aload_n 0, 1) := by decide +kernel
theorem dX2_keepOff_80 : decode cX2_keepOff 80 = .ok (.iconst 1, 1) := by decide +kernel
theorem dX2_keepOff_81 : decode cX2_keepOff 81 = .ok (.putfield 41, 3) := by decide +kernel
theorem dX2_keepOff_84 : decode cX2_keepOff 84 = .ok (.return_, 1) := by decide +kernel
theorem dX5_y_0 : decode cX5_y 0 = .ok (.aload_n 0, 1) := by decide +kernel
theorem dX5_y_1 : decode cX5_y 1 = .ok (.iload_n 1, 1) := by decide +kernel
theorem dX5_y_2 : decode cX5_y 2 = .ok (.iload_n 2, 1) := by decide +kernel
theorem dX5_y_3 : decode cX5_y 3 = .ok (.invokevirtual 189, 3) := by decide +kernel
theorem dX5_y_6 : decode cX5_y 6 = .ok (.astore 4, 2) := by decide +kernel
theorem dX5_y_8 : decode cX5_y 8 = .ok (.iload_n 3, 1) := by decide +kernel
theorem dX5_y_9 : decode cX5_y 9 = .ok (.iconst 0, 1) := by decide +kernel
theorem dX5_y_10 : decode cX5_y 10 = .ok (.sipush 1999, 3) := by decide +kernel
theorem dX5_y_13 : decode cX5_y 13 = .ok (.invokestatic 33, 3) := by decide +kernel
theorem dX5_y_16 : decode cX5_y 16 = .ok (.aload_n 0, 1) := by decide +kernel
theorem dX5_y_17 : decode cX5_y 17 = .ok (.aload 4, 2) := by decide +kernel
theorem dX5_y_19 : decode cX5_y 19 = .ok (.iload_n 2, 1) := by decide +kernel
theorem dX5_y_20 : decode cX5_y 20 = .ok (.iload_n 3, 1) := by decide +kernel
theorem dX5_y_21 : decode cX5_y 21 = .ok (.invokevirtual 193, 3) := by decide +kernel
theorem dX5_y_24 : decode cX5_y 24 = .ok (.getfield 177, 3) := by decide +kernel
theorem dX5_y_27 : decode cX5_y 27 = .ok (.getfield 200, 3) := by decide +kernel
theorem dX5_y_30 : decode cX5_y 30 = .ok (.ireturn, 1) := by decide +kernel
theorem dX5_bent_0 : decode cX5_bent 0 = .ok (.aload_n 0, 1) := by decide +kernel
theorem dX5_bent_1 : decode cX5_bent 1 = .ok (.iload_n 1, 1) := by decide +kernel
theorem dX5_bent_2 : decode cX5_bent 2 = .ok (.iload_n 2, 1) := by decide +kernel
theorem dX5_bent_3 : decode cX5_bent 3 = .ok (.invokevirtual 189, 3) := by decide +kernel
theorem dX5_bent_6 : decode cX5_bent 6 = .ok (.astore 5, 2) := by decide +kernel
theorem dX5_bent_8 : decode cX5_bent 8 = .ok (.iload_n 3, 1) := by decide +kernel
theorem dX5_bent_9 : decode cX5_bent 9 = .ok (.iconst 0, 1) := by decide +kernel
theorem dX5_bent_10 : decode cX5_bent 10 = .ok (.sipush 1999, 3) := by decide +kernel
theorem dX5_bent_13 : decode cX5_bent 13 = .ok (.invokestatic 33, 3) := by decide +kernel
theorem dX5_bent_16 : decode cX5_bent 16 = .ok (.iload 4, 2) := by decide +kernel
theorem dX5_bent_18 : decode cX5_bent 18 = .ok (.iconst 0, 1) := by decide +kernel
theorem dX5_bent_19 : decode cX5_bent 19 = .ok (.sipush 1999, 3) := by decide +kernel
theorem dX5_bent_22 : decode cX5_bent 22 = .ok (.invokestatic 33, 3) := by decide +kernel
theorem dX5_bent_25 : decode cX5_bent 25 = .ok (.iconst 0, 1) := by decide +kernel
theorem dX5_bent_26 : decode cX5_bent 26 = .ok (.istore 6, 2) := by decide +kernel
theorem dX5_bent_28 : decode cX5_bent 28 = .ok (.iload_n 3, 1) := by decide +kernel
theorem dX5_bent_29 : decode cX5_bent 29 = .ok (.istore 7, 2) := by decide +kernel
theorem dX5_bent_31 : decode cX5_bent 31 = .ok (.iload 7, 2) := by decide +kernel
theorem dX5_bent_33 : decode cX5_bent 33 = .ok (.iload 4, 2) := by decide +kernel
theorem dX5_bent_35 : decode cX5_bent 35 = .ok (.if_icmp .gt 27, 3) := by decide +kernel
theorem dX5_bent_38 : decode cX5_bent 38 = .ok (.aload_n 0, 1) := by decide +kernel
theorem dX5_bent_39 : decode cX5_bent 39 = .ok (.aload 5, 2) := by decide +kernel
theorem dX5_bent_41 : decode cX5_bent 41 = .ok (.iload_n 2, 1) := by decide +kernel
theorem dX5_bent_42 : decode cX5_bent 42 = .ok (.iload 7, 2) := by decide +kernel
theorem dX5_bent_44 : decode cX5_bent 44 = .ok (.invokevirtual 193, 3) := by decide +kernel
theorem dX5_bent_47 : decode cX5_bent 47 = .ok (.getfield 203, 3) := by decide +kernel
theorem dX5_bent_50 : decode cX5_bent 50 = .ok (.ifCond .eq 6, 3) := by decide +kernel
theorem dX5_bent_53 : decode cX5_bent 53 = .ok (.iinc 6 1, 3) := by decide +kernel
theorem dX5_bent_56 : decode cX5_bent 56 = .ok (.iinc 7 1, 3) := by decide +kernel
theorem dX5_bent_59 : decode cX5_bent 59 = .ok (.goto (-28), 3) := by decide +kernel
theorem dX5_bent_62 : decode cX5_bent 62 = .ok (.iload 6, 2) := by decide +kernel
theorem dX5_bent_64 : decode cX5_bent 64 = .ok (.ireturn, 1) := by decide +kernel
theorem dX5_key_0 : decode cX5_key 0 = .ok (.aload_n 0, 1) := by decide +kernel
theorem dX5_key_1 : decode cX5_key 1 = .ok (.iload_n 1, 1) := by decide +kernel
theorem dX5_key_2 : decode cX5_key 2 = .ok (.invokevirtual 57, 3) := by decide +kernel
theorem dX5_key_5 : decode cX5_key 5 = .ok (.astore 6, 2) := by decide +kernel
theorem dX5_key_7 : decode cX5_key 7 = .ok (.iload_n 2, 1) := by decide +kernel
theorem dX5_key_8 : decode cX5_key 8 = .ok (.iconst 0, 1) := by decide +kernel
theorem dX5_key_9 : decode cX5_key 9 = .ok (.sipush 999, 3) := by decide +kernel
theorem dX5_key_12 : decode cX5_key 12 = .ok (.invokestatic 33, 3) := by decide +kernel
theorem dX5_key_15 : decode cX5_key 15 = .ok (.iload_n 3, 1) := by decide +kernel
theorem dX5_key_16 : decode cX5_key 16 = .ok (.iconst 0, 1) := by decide +kernel
theorem dX5_key_17 : decode cX5_key 17 = .ok (.sipush 999, 3) := by decide +kernel
theorem dX5_key_20 : decode cX5_key 20 = .ok (.invokestatic 33, 3) := by decide +kernel
theorem dX5_key_23 : decode cX5_key 23 = .ok (.iload 4, 2) := by decide +kernel
theorem dX5_key_25 : decode cX5_key 25 = .ok (.iconst 0, 1) := by decide +kernel
theorem dX5_key_26 : decode cX5_key 26 = .ok (.sipush 999, 3) := by decide +kernel
theorem dX5_key_29 : decode cX5_key 29 = .ok (.invokestatic 33, 3) := by decide +kernel
theorem dX5_key_32 : decode cX5_key 32 = .ok (.iload 5, 2) := by decide +kernel
theorem dX5_key_34 : decode cX5_key 34 = .ok (.iconst 0, 1) := by decide +kernel
theorem dX5_key_35 : decode cX5_key 35 = .ok (.iconst 3, 1) := by decide +kernel
theorem dX5_key_36 : decode cX5_key 36 = .ok (.invokestatic 33, 3) := by decide +kernel
theorem dX5_key_39 : decode cX5_key 39 = .ok (.aload 6, 2) := by decide +kernel
theorem dX5_key_41 : decode cX5_key 41 = .ok (.iload_n 2, 1) := by decide +kernel
theorem dX5_key_42 : decode cX5_key 42 = .ok (.invokevirtual 64, 3) := by decide +kernel
theorem dX5_key_45 : decode cX5_key 45 = .ok (.ifCond .ne 26, 3) := by decide +kernel
theorem dX5_key_48 : decode cX5_key 48 = .ok (.aload 6, 2) := by decide +kernel
theorem dX5_key_50 : decode cX5_key 50 = .ok (.getfield 68, 3) := by decide +kernel
theorem dX5_key_53 : decode cX5_key 53 = .ok (.invokevirtual 37, 3) := by decide +kernel
theorem dX5_key_56 : decode cX5_key 56 = .ok (.bipush 12, 2) := by decide +kernel
theorem dX5_key_58 : decode cX5_key 58 = .ok (.if_icmp .lt 13, 3) := by decide +kernel
theorem dX5_key_61 : decode cX5_key 61 = .ok (.new 41, 3) := by decide +kernel
theorem dX5_key_64 : decode cX5_key 64 = .ok (.dup, 1) := by decide +kernel
theorem dX5_key_65 : decode cX5_key 65 = .ok (.ldc 71, 2) := by decide +kernel
theorem dX5_key_67 : decode cX5_key 67 = .ok (.invokespecial 45, 3) := by decide +kernel
theorem dX5_key_70 : decode cX5_key 70 = .ok (.athrow, 1) := by decide +kernel
theorem dX5_key_71 : decode cX5_key 71 = .ok (.aload 6, 2) := by decide +kernel
theorem dX5_key_73 : decode cX5_key 73 = .ok (.new 73, 3) := by decide +kernel
theorem dX5_key_76 : decode cX5_key 76 = .ok (.dup, 1) := by decide +kernel
theorem dX5_key_77 : decode cX5_key 77 = .ok (.iload_n 2, 1) := by decide +kernel
theorem dX5_key_78 : decode cX5_key 78 = .ok (.iload_n 3, 1) := by decide +kernel
theorem dX5_key_79 : decode cX5_key 79 = .ok (.iload 4, 2) := by decide +kernel
theorem dX5_key_81 : decode cX5_key 81 = .ok (.iload 5, 2) := by decide +kernel
theorem dX5_key_83 : decode cX5_key 83 = .ok (.invokespecial 75, 3) := by decide +kernel
theorem dX5_key_86 : decode cX5_key 86 = .ok (.invokevirtual 78, 3) := by decide +kernel
theorem dX5_key_89 : decode cX5_key 89 = .ok (.aload 6, 2) := by decide +kernel
theorem dX5_key_91 : decode cX5_key 91 = .ok (.getfield 68, 3) := by decide +kernel
theorem dX5_key_94 : decode cX5_key 94 = .ok (.invokevirtual 37, 3) := by decide +kernel
theorem dX5_key_97 : decode cX5_key 97 = .ok (.ireturn, 1) := by decide +kernel
theorem dX0_init_0 : decode cX0_init 0 = .ok (.aload_n 0, 1) := by decide +kernel
theorem dX0_init_1 : decode cX0_init 1 = .ok (.invokespecial 1, 3) := by decide +kernel
theorem dX0_init_4 : decode cX0_init 4 = .ok (.aload_n 0, 1) := by decide +kernel
theorem dX0_init_5 : decode cX0_init 5 = .ok (.iload_n 1, 1) := by decide +kernel
theorem dX0_init_6 : decode cX0_init 6 = .ok (.putfield 7, 3) := by decide +kernel
theorem dX0_init_9 : decode cX0_init 9 = .ok (.aload_n 0, 1) := by decide +kernel
theorem dX0_init_10 : decode cX0_init 10 = .ok (.iload_n 2, 1) := by decide +kernel
theorem dX0_init_11 : decode cX0_init 11 = .ok (.putfield 13, 3) := by decide +kernel
theorem dX0_init_14 : decode cX0_init 14 = .ok (.aload_n 0, 1) := by decide +kernel
theorem dX0_init_15 : decode cX0_init 15 = .ok (.iload_n 3, 1) := by decide +kernel
theorem dX0_init_16 : decode cX0_init 16 = .ok (.putfield 16, 3) := by decide +kernel
theorem dX0_init_19 : decode cX0_init 19 = .ok (.aload_n 0, 1) := by decide +kernel
theorem dX0_init_20 : decode cX0_init 20 = .ok (.iload 4, 2) := by decide +kernel
theorem dX0_init_22 : decode cX0_init 22 = .ok (.putfield 19, 3) := by decide +kernel
theorem dX0_init_25 : decode cX0_init 25 = .ok (.return_, 1) := by decide +kernel
theorem dX2_putKey_0 : decode cX2_putKey 0 = .ok (.aload_n 0, 1) := by decide +kernel
theorem dX2_putKey_1 : decode cX2_putKey 1 = .ok (.aload_n 1, 1) := by decide +kernel
theorem dX2_putKey_2 : decode cX2_putKey 2 = .ok (.getfield 55, 3) := by decide +kernel
theorem dX2_putKey_5 : decode cX2_putKey 5 = .ok (.invokevirtual 58, 3) := by decide +kernel
theorem dX2_putKey_8 : decode cX2_putKey 8 = .ok (.istore_n 2, 1) := by decide +kernel
theorem dX2_putKey_9 : decode cX2_putKey 9 = .ok (.iload_n 2, 1) := by decide +kernel
theorem dX2_putKey_10 : decode cX2_putKey 10 = .ok (.aload_n 0, 1) := by decide +kernel
theorem dX2_putKey_11 : decode cX2_putKey 11 = .ok (.getfield 21, 3) := by decide +kernel
theorem dX2_putKey_14 : decode cX2_putKey 14 = .ok (.invokevirtual 45, 3) := by decide +kernel
theorem dX2_putKey_17 : decode cX2_putKey 17 = .ok (.if_icmp .ge 37, 3) := by decide +kernel
theorem dX2_putKey_20 : decode cX2_putKey 20 = .ok (.aload_n 0, 1) := by decide +kernel
theorem dX2_putKey_21 : decode cX2_putKey 21 = .ok (.getfield 21, 3) := by decide +kernel
theorem dX2_putKey_24 : decode cX2_putKey 24 = .ok (.iload_n 2, 1) := by decide +kernel
theorem dX2_putKey_25 : decode cX2_putKey 25 = .ok (.invokevirtual 49, 3) := by decide +kernel
theorem dX2_putKey_28 : decode cX2_putKey 28 = .ok (.checkcast 53, 3) := by decide +kernel
theorem dX2_putKey_31 : decode cX2_putKey 31 = .ok (.getfield 55, 3) := by decide +kernel
theorem dX2_putKey_34 : decode cX2_putKey 34 = .ok (.aload_n 1, 1) := by decide +kernel
theorem dX2_putKey_35 : decode cX2_putKey 35 = .ok (.getfield 55, 3) := by decide +kernel
theorem dX2_putKey_38 : decode cX2_putKey 38 = .ok (.if_icmp .ne 16, 3) := by decide +kernel
theorem dX2_putKey_41 : decode cX2_putKey 41 = .ok (.aload_n 0, 1) := by decide +kernel
theorem dX2_putKey_42 : decode cX2_putKey 42 = .ok (.getfield 21, 3) := by decide +kernel
theorem dX2_putKey_45 : decode cX2_putKey 45 = .ok (.iload_n 2, 1) := by decide +kernel
theorem dX2_putKey_46 : decode cX2_putKey 46 = .ok (.aload_n 1, 1) := by decide +kernel
theorem dX2_putKey_47 : decode cX2_putKey 47 = .ok (.invokevirtual 62, 3) := by decide +kernel
theorem dX2_putKey_50 : decode cX2_putKey 50 = .ok (.pop, 1) := by decide +kernel
theorem dX2_putKey_51 : decode cX2_putKey 51 = .ok (.goto 12, 3) := by decide +kernel
theorem dX2_putKey_54 : decode cX2_putKey 54 = .ok (.aload_n 0, 1) := by decide +kernel
theorem dX2_putKey_55 : decode cX2_putKey 55 = .ok (.getfield 21, 3) := by decide +kernel
theorem dX2_putKey_58 : decode cX2_putKey 58 = .ok (.iload_n 2, 1) := by decide +kernel
theorem dX2_putKey_59 : decode cX2_putKey 59 = .ok (.aload_n 1, 1) := by decide +kernel
theorem dX2_putKey_60 : decode cX2_putKey 60 = .ok (.invokevirtual 66, 3) := by decide +kernel
theorem dX2_putKey_63 : decode cX2_putKey 63 = .ok (.return_, 1) := by decide +kernel
theorem dL_isStage_0 : decode cL_isStage 0 = .ok (.iconst 1, 1) := by decide +kernel
theorem dL_isStage_1 : decode cL_isStage 1 = .ok (.istore 6, 2) := by decide +kernel
theorem dL_isStage_3 : decode cL_isStage 3 = .ok (.iconst 0, 1) := by decide +kernel
theorem dL_isStage_4 : decode cL_isStage 4 = .ok (.istore 7, 2) := by decide +kernel
theorem dL_isStage_6 : decode cL_isStage 6 = .ok (.iload 7, 2) := by decide +kernel
theorem dL_isStage_8 : decode cL_isStage 8 = .ok (.iload 4, 2) := by decide +kernel
theorem dL_isStage_10 : decode cL_isStage 10 = .ok (.if_icmp .ge 315, 3) := by decide +kernel
theorem dL_isStage_13 : decode cL_isStage 13 = .ok (.iload 6, 2) := by decide +kernel
theorem dL_isStage_15 : decode cL_isStage 15 = .ok (.ifCond .eq 310, 3) := by decide +kernel
theorem dL_isStage_18 : decode cL_isStage 18 = .ok (.aload_n 0, 1) := by decide +kernel
theorem dL_isStage_19 : decode cL_isStage 19 = .ok (.bipush 6, 2) := by decide +kernel
theorem dL_isStage_21 : decode cL_isStage 21 = .ok (.iload_n 3, 1) := by decide +kernel
theorem dL_isStage_22 : decode cL_isStage 22 = .ok (.iload 7, 2) := by decide +kernel
theorem dL_isStage_24 : decode cL_isStage 24 = .ok (.iload 5, 2) := by decide +kernel
theorem dL_isStage_26 : decode cL_isStage 26 = .ok (.iconst 0, 1) := by decide +kernel
theorem dL_isStage_27 : decode cL_isStage 27 = .ok (.invokestatic 59, 3) := by decide +kernel
theorem dL_isStage_30 : decode cL_isStage 30 = .ok (.istore 8, 2) := by decide +kernel
theorem dL_isStage_32 : decode cL_isStage 32 = .ok (.iload 8, 2) := by decide +kernel
theorem dL_isStage_34 : decode cL_isStage 34 = .ok (.ldc 62, 2) := by decide +kernel
theorem dL_isStage_36 : decode cL_isStage 36 = .ok (.if_icmp .le 283, 3) := by decide +kernel
theorem dL_isStage_39 : decode cL_isStage 39 = .ok (.aload_n 0, 1) := by decide +kernel
theorem dL_isStage_40 : decode cL_isStage 40 = .ok (.bipush 7, 2) := by decide +kernel
theorem dL_isStage_42 : decode cL_isStage 42 = .ok (.iload_n 3, 1) := by decide +kernel
theorem dL_isStage_43 : decode cL_isStage 43 = .ok (.iload 7, 2) := by decide +kernel
theorem dL_isStage_45 : decode cL_isStage 45 = .ok (.iload 5, 2) := by decide +kernel
theorem dL_isStage_47 : decode cL_isStage 47 = .ok (.iconst 0, 1) := by decide +kernel
theorem dL_isStage_48 : decode cL_isStage 48 = .ok (.invokestatic 59, 3) := by decide +kernel
theorem dL_isStage_51 : decode cL_isStage 51 = .ok (.istore 9, 2) := by decide +kernel
theorem dL_isStage_53 : decode cL_isStage 53 = .ok (.aload_n 0, 1) := by decide +kernel
theorem dL_isStage_54 : decode cL_isStage 54 = .ok (.bipush 8, 2) := by decide +kernel
theorem dL_isStage_56 : decode cL_isStage 56 = .ok (.iload_n 3, 1) := by decide +kernel
theorem dL_isStage_57 : decode cL_isStage 57 = .ok (.iload 7, 2) := by decide +kernel
theorem dL_isStage_59 : decode cL_isStage 59 = .ok (.iload 5, 2) := by decide +kernel
theorem dL_isStage_61 : decode cL_isStage 61 = .ok (.iload 5, 2) := by decide +kernel
theorem dL_isStage_63 : decode cL_isStage 63 = .ok (.invokestatic 59, 3) := by decide +kernel
theorem dL_isStage_66 : decode cL_isStage 66 = .ok (.istore 10, 2) := by decide +kernel
theorem dL_isStage_68 : decode cL_isStage 68 = .ok (.iload 9, 2) := by decide +kernel
theorem dL_isStage_70 : decode cL_isStage 70 = .ok (.ifCond .lt 87, 3) := by decide +kernel
theorem dL_isStage_73 : decode cL_isStage 73 = .ok (.iload 9, 2) := by decide +kernel
theorem dL_isStage_75 : decode cL_isStage 75 = .ok (.sipush 1000, 3) := by decide +kernel
theorem dL_isStage_78 : decode cL_isStage 78 = .ok (.if_icmp .ge 79, 3) := by decide +kernel
theorem dL_isStage_81 : decode cL_isStage 81 = .ok (.iload 8, 2) := by decide +kernel
theorem dL_isStage_83 : decode cL_isStage 83 = .ok (.aload_n 1, 1) := by decide +kernel
theorem dL_isStage_84 : decode cL_isStage 84 = .ok (.iload 7, 2) := by decide +kernel
theorem dL_isStage_86 : decode cL_isStage 86 = .ok (.iaload, 1) := by decide +kernel
theorem dL_isStage_87 : decode cL_isStage 87 = .ok (.isub, 1) := by decide +kernel
theorem dL_isStage_88 : decode cL_isStage 88 = .ok (.iload 8, 2) := by decide +kernel
theorem dL_isStage_90 : decode cL_isStage 90 = .ok (.aload_n 1, 1) := by decide +kernel
theorem dL_isStage_91 : decode cL_isStage 91 = .ok (.iload 7, 2) := by decide +kernel
theorem dL_isStage_93 : decode cL_isStage 93 = .ok (.iaload, 1) := by decide +kernel
theorem dL_isStage_94 : decode cL_isStage 94 = .ok (.isub, 1) := by decide +kernel
theorem dL_isStage_95 : decode cL_isStage 95 = .ok (.imul, 1) := by decide +kernel
theorem dL_isStage_96 : decode cL_isStage 96 = .ok (.iload 9, 2) := by decide +kernel
theorem dL_isStage_98 : decode cL_isStage 98 = .ok (.iload 9, 2) := by decide +kernel
theorem dL_isStage_100 : decode cL_isStage 100 = .ok (.imul, 1) := by decide +kernel
theorem dL_isStage_101 : decode cL_isStage 101 = .ok (.iadd, 1) := by decide +kernel
theorem dL_isStage_102 : decode cL_isStage 102 = .ok (.aload_n 2, 1) := by decide +kernel
theorem dL_isStage_103 : decode cL_isStage 103 = .ok (.iload 7, 2) := by decide +kernel
theorem dL_isStage_105 : decode cL_isStage 105 = .ok (.iaload, 1) := by decide +kernel
theorem dL_isStage_106 : decode cL_isStage 106 = .ok (.aload_n 2, 1) := by decide +kernel
theorem dL_isStage_107 : decode cL_isStage 107 = .ok (.iload 7, 2) := by decide +kernel
theorem dL_isStage_109 : decode cL_isStage 109 = .ok (.iaload, 1) := by decide +kernel
theorem dL_isStage_110 : decode cL_isStage 110 = .ok (.imul, 1) := by decide +kernel
theorem dL_isStage_111 : decode cL_isStage 111 = .ok (.if_icmp .gt 46, 3) := by decide +kernel
theorem dL_isStage_114 : decode cL_isStage 114 = .ok (.iload 10, 2) := by decide +kernel
theorem dL_isStage_116 : decode cL_isStage 116 = .ok (.ifCond .eq 9, 3) := by decide +kernel
theorem dL_isStage_119 : decode cL_isStage 119 = .ok (.iload 10, 2) := by decide +kernel
theorem dL_isStage_121 : decode cL_isStage 121 = .ok (.iconst 1, 1) := by decide +kernel
theorem dL_isStage_122 : decode cL_isStage 122 = .ok (.if_icmp .ne 35, 3) := by decide +kernel
theorem dL_isStage_125 : decode cL_isStage 125 = .ok (.iload 8, 2) := by decide +kernel
theorem dL_isStage_127 : decode cL_isStage 127 = .ok (.aload_n 1, 1) := by decide +kernel
theorem dL_isStage_128 : decode cL_isStage 128 = .ok (.iload 7, 2) := by decide +kernel
theorem dL_isStage_130 : decode cL_isStage 130 = .ok (.iaload, 1) := by decide +kernel
theorem dL_isStage_131 : decode cL_isStage 131 = .ok (.aload_n 2, 1) := by decide +kernel
theorem dL_isStage_132 : decode cL_isStage 132 = .ok (.iload 7, 2) := by decide +kernel
theorem dL_isStage_134 : decode cL_isStage 134 = .ok (.iaload, 1) := by decide +kernel
theorem dL_isStage_135 : decode cL_isStage 135 = .ok (.isub, 1) := by decide +kernel
theorem dL_isStage_136 : decode cL_isStage 136 = .ok (.if_icmp .lt 21, 3) := by decide +kernel
theorem dL_isStage_139 : decode cL_isStage 139 = .ok (.iload 8, 2) := by decide +kernel
theorem dL_isStage_141 : decode cL_isStage 141 = .ok (.aload_n 1, 1) := by decide +kernel
theorem dL_isStage_142 : decode cL_isStage 142 = .ok (.iload 7, 2) := by decide +kernel
theorem dL_isStage_144 : decode cL_isStage 144 = .ok (.iaload, 1) := by decide +kernel
theorem dL_isStage_145 : decode cL_isStage 145 = .ok (.aload_n 2, 1) := by decide +kernel
theorem dL_isStage_146 : decode cL_isStage 146 = .ok (.iload 7, 2) := by decide +kernel
theorem dL_isStage_148 : decode cL_isStage 148 = .ok (.iaload, 1) := by decide +kernel
theorem dL_isStage_149 : decode cL_isStage 149 = .ok (.iadd, 1) := by decide +kernel
theorem dL_isStage_150 : decode cL_isStage 150 = .ok (.if_icmp .gt 7, 3) := by decide +kernel
theorem dL_isStage_153 : decode cL_isStage 153 = .ok (.iconst 1, 1) := by decide +kernel
theorem dL_isStage_154 : decode cL_isStage 154 = .ok (.goto 4, 3) := by decide +kernel
theorem dL_isStage_157 : decode cL_isStage 157 = .ok (.iconst 0, 1) := by decide +kernel
theorem dL_isStage_158 : decode cL_isStage 158 = .ok (.istore 6, 2) := by decide +kernel
theorem dL_isStage_160 : decode cL_isStage 160 = .ok (.iconst 0, 1) := by decide +kernel
theorem dL_isStage_161 : decode cL_isStage 161 = .ok (.istore 11, 2) := by decide +kernel
theorem dL_isStage_163 : decode cL_isStage 163 = .ok (.iconst 0, 1) := by decide +kernel
theorem dL_isStage_164 : decode cL_isStage 164 = .ok (.istore 12, 2) := by decide +kernel
theorem dL_isStage_166 : decode cL_isStage 166 = .ok (.iload 12, 2) := by decide +kernel
theorem dL_isStage_168 : decode cL_isStage 168 = .ok (.iload 7, 2) := by decide +kernel
theorem dL_isStage_170 : decode cL_isStage 170 = .ok (.if_icmp .ge 127, 3) := by decide +kernel
theorem dL_isStage_173 : decode cL_isStage 173 = .ok (.aload_n 0, 1) := by decide +kernel
theorem dL_isStage_174 : decode cL_isStage 174 = .ok (.bipush 6, 2) := by decide +kernel
theorem dL_isStage_176 : decode cL_isStage 176 = .ok (.iload_n 3, 1) := by decide +kernel
theorem dL_isStage_177 : decode cL_isStage 177 = .ok (.iload 12, 2) := by decide +kernel
theorem dL_isStage_179 : decode cL_isStage 179 = .ok (.iload 5, 2) := by decide +kernel
theorem dL_isStage_181 : decode cL_isStage 181 = .ok (.iconst 0, 1) := by decide +kernel
theorem dL_isStage_182 : decode cL_isStage 182 = .ok (.invokestatic 59, 3) := by decide +kernel
theorem dL_isStage_185 : decode cL_isStage 185 = .ok (.istore 13, 2) := by decide +kernel
theorem dL_isStage_187 : decode cL_isStage 187 = .ok (.iload 11, 2) := by decide +kernel
theorem dL_isStage_189 : decode cL_isStage 189 = .ok (.ifCond .ne 10, 3) := by decide +kernel
theorem dL_isStage_192 : decode cL_isStage 192 = .ok (.iload 13, 2) := by decide +kernel
theorem dL_isStage_194 : decode cL_isStage 194 = .ok (.ldc 62, 2) := by decide +kernel
theorem dL_isStage_196 : decode cL_isStage 196 = .ok (.if_icmp .le 7, 3) := by decide +kernel
theorem dL_isStage_199 : decode cL_isStage 199 = .ok (.iconst 1, 1) := by decide +kernel
theorem dL_isStage_200 : decode cL_isStage 200 = .ok (.goto 4, 3) := by decide +kernel
theorem dL_isStage_203 : decode cL_isStage 203 = .ok (.iconst 0, 1) := by decide +kernel
theorem dL_isStage_204 : decode cL_isStage 204 = .ok (.istore 11, 2) := by decide +kernel
theorem dL_isStage_206 : decode cL_isStage 206 = .ok (.iload 6, 2) := by decide +kernel
theorem dL_isStage_208 : decode cL_isStage 208 = .ok (.ifCond .eq 80, 3) := by decide +kernel
theorem dL_isStage_211 : decode cL_isStage 211 = .ok (.iload 10, 2) := by decide +kernel
theorem dL_isStage_213 : decode cL_isStage 213 = .ok (.iconst 1, 1) := by decide +kernel
theorem dL_isStage_214 : decode cL_isStage 214 = .ok (.if_icmp .eq 70, 3) := by decide +kernel
theorem dL_isStage_217 : decode cL_isStage 217 = .ok (.iload 13, 2) := by decide +kernel
theorem dL_isStage_219 : decode cL_isStage 219 = .ok (.ldc 62, 2) := by decide +kernel
theorem dL_isStage_221 : decode cL_isStage 221 = .ok (.if_icmp .lt 63, 3) := by decide +kernel
theorem dL_isStage_224 : decode cL_isStage 224 = .ok (.iload 8, 2) := by decide +kernel
theorem dL_isStage_226 : decode cL_isStage 226 = .ok (.iload 13, 2) := by decide +kernel
theorem dL_isStage_228 : decode cL_isStage 228 = .ok (.isub, 1) := by decide +kernel
theorem dL_isStage_229 : decode cL_isStage 229 = .ok (.bipush 9, 2) := by decide +kernel
theorem dL_isStage_231 : decode cL_isStage 231 = .ok (.if_icmp .gt 53, 3) := by decide +kernel
theorem dL_isStage_234 : decode cL_isStage 234 = .ok (.iload 13, 2) := by decide +kernel
theorem dL_isStage_236 : decode cL_isStage 236 = .ok (.iload 8, 2) := by decide +kernel
theorem dL_isStage_238 : decode cL_isStage 238 = .ok (.isub, 1) := by decide +kernel
theorem dL_isStage_239 : decode cL_isStage 239 = .ok (.bipush 9, 2) := by decide +kernel
theorem dL_isStage_241 : decode cL_isStage 241 = .ok (.if_icmp .gt 43, 3) := by decide +kernel
theorem dL_isStage_244 : decode cL_isStage 244 = .ok (.iload 9, 2) := by decide +kernel
theorem dL_isStage_246 : decode cL_isStage 246 = .ok (.aload_n 0, 1) := by decide +kernel
theorem dL_isStage_247 : decode cL_isStage 247 = .ok (.bipush 7, 2) := by decide +kernel
theorem dL_isStage_249 : decode cL_isStage 249 = .ok (.iload_n 3, 1) := by decide +kernel
theorem dL_isStage_250 : decode cL_isStage 250 = .ok (.iload 12, 2) := by decide +kernel
theorem dL_isStage_252 : decode cL_isStage 252 = .ok (.iload 5, 2) := by decide +kernel
theorem dL_isStage_254 : decode cL_isStage 254 = .ok (.iconst 0, 1) := by decide +kernel
theorem dL_isStage_255 : decode cL_isStage 255 = .ok (.invokestatic 59, 3) := by decide +kernel
theorem dL_isStage_258 : decode cL_isStage 258 = .ok (.isub, 1) := by decide +kernel
theorem dL_isStage_259 : decode cL_isStage 259 = .ok (.bipush 9, 2) := by decide +kernel
theorem dL_isStage_261 : decode cL_isStage 261 = .ok (.if_icmp .gt 23, 3) := by decide +kernel
theorem dL_isStage_264 : decode cL_isStage 264 = .ok (.aload_n 0, 1) := by decide +kernel
theorem dL_isStage_265 : decode cL_isStage 265 = .ok (.bipush 7, 2) := by decide +kernel
theorem dL_isStage_267 : decode cL_isStage 267 = .ok (.iload_n 3, 1) := by decide +kernel
theorem dL_isStage_268 : decode cL_isStage 268 = .ok (.iload 12, 2) := by decide +kernel
theorem dL_isStage_270 : decode cL_isStage 270 = .ok (.iload 5, 2) := by decide +kernel
theorem dL_isStage_272 : decode cL_isStage 272 = .ok (.iconst 0, 1) := by decide +kernel
theorem dL_isStage_273 : decode cL_isStage 273 = .ok (.invokestatic 59, 3) := by decide +kernel
theorem dL_isStage_276 : decode cL_isStage 276 = .ok (.iload 9, 2) := by decide +kernel
theorem dL_isStage_278 : decode cL_isStage 278 = .ok (.isub, 1) := by decide +kernel
theorem dL_isStage_279 : decode cL_isStage 279 = .ok (.bipush 9, 2) := by decide +kernel
theorem dL_isStage_281 : decode cL_isStage 281 = .ok (.if_icmp .le 7, 3) := by decide +kernel
theorem dL_isStage_284 : decode cL_isStage 284 = .ok (.iconst 1, 1) := by decide +kernel
theorem dL_isStage_285 : decode cL_isStage 285 = .ok (.goto 4, 3) := by decide +kernel
theorem dL_isStage_288 : decode cL_isStage 288 = .ok (.iconst 0, 1) := by decide +kernel
theorem dL_isStage_289 : decode cL_isStage 289 = .ok (.istore 6, 2) := by decide +kernel
theorem dL_isStage_291 : decode cL_isStage 291 = .ok (.iinc 12 1, 3) := by decide +kernel
theorem dL_isStage_294 : decode cL_isStage 294 = .ok (.goto (-128), 3) := by decide +kernel
theorem dL_isStage_297 : decode cL_isStage 297 = .ok (.iload 6, 2) := by decide +kernel
theorem dL_isStage_299 : decode cL_isStage 299 = .ok (.ifCond .eq 17, 3) := by decide +kernel
theorem dL_isStage_302 : decode cL_isStage 302 = .ok (.iload 10, 2) := by decide +kernel
theorem dL_isStage_304 : decode cL_isStage 304 = .ok (.ifCond .eq 8, 3) := by decide +kernel
theorem dL_isStage_307 : decode cL_isStage 307 = .ok (.iload 11, 2) := by decide +kernel
theorem dL_isStage_309 : decode cL_isStage 309 = .ok (.ifCond .eq 7, 3) := by decide +kernel
theorem dL_isStage_312 : decode cL_isStage 312 = .ok (.iconst 1, 1) := by decide +kernel
theorem dL_isStage_313 : decode cL_isStage 313 = .ok (.goto 4, 3) := by decide +kernel
theorem dL_isStage_316 : decode cL_isStage 316 = .ok (.iconst 0, 1) := by decide +kernel
theorem dL_isStage_317 : decode cL_isStage 317 = .ok (.istore 6, 2) := by decide +kernel
theorem dL_isStage_319 : decode cL_isStage 319 = .ok (.iinc 7 1, 3) := by decide +kernel
theorem dL_isStage_322 : decode cL_isStage 322 = .ok (.goto (-316), 3) := by decide +kernel
theorem dL_isStage_325 : decode cL_isStage 325 = .ok (.iload 6, 2) := by decide +kernel
theorem dL_isStage_327 : decode cL_isStage 327 = .ok (.ireturn, 1) := by decide +kernel
theorem dL_isTrack_0 : decode cL_isTrack 0 = .ok (.aload_n 0, 1) := by decide +kernel
theorem dL_isTrack_1 : decode cL_isTrack 1 = .ok (.iload_n 2, 1) := by decide +kernel
theorem dL_isTrack_2 : decode cL_isTrack 2 = .ok (.iload_n 3, 1) := by decide +kernel
theorem dL_isTrack_3 : decode cL_isTrack 3 = .ok (.invokevirtual 63, 3) := by decide +kernel
theorem dL_isTrack_6 : decode cL_isTrack 6 = .ok (.istore 4, 2) := by decide +kernel
theorem dL_isTrack_8 : decode cL_isTrack 8 = .ok (.iload 4, 2) := by decide +kernel
theorem dL_isTrack_10 : decode cL_isTrack 10 = .ok (.sipush 1000, 3) := by decide +kernel
theorem dL_isTrack_13 : decode cL_isTrack 13 = .ok (.idiv, 1) := by decide +kernel
theorem dL_isTrack_14 : decode cL_isTrack 14 = .ok (.aload_n 1, 1) := by decide +kernel
theorem dL_isTrack_15 : decode cL_isTrack 15 = .ok (.iload_n 2, 1) := by decide +kernel
theorem dL_isTrack_16 : decode cL_isTrack 16 = .ok (.iaload, 1) := by decide +kernel
theorem dL_isTrack_17 : decode cL_isTrack 17 = .ok (.isub, 1) := by decide +kernel
theorem dL_isTrack_18 : decode cL_isTrack 18 = .ok (.iload 4, 2) := by decide +kernel
theorem dL_isTrack_20 : decode cL_isTrack 20 = .ok (.sipush 1000, 3) := by decide +kernel
theorem dL_isTrack_23 : decode cL_isTrack 23 = .ok (.idiv, 1) := by decide +kernel
theorem dL_isTrack_24 : decode cL_isTrack 24 = .ok (.aload_n 1, 1) := by decide +kernel
theorem dL_isTrack_25 : decode cL_isTrack 25 = .ok (.iload_n 2, 1) := by decide +kernel
theorem dL_isTrack_26 : decode cL_isTrack 26 = .ok (.iaload, 1) := by decide +kernel
theorem dL_isTrack_27 : decode cL_isTrack 27 = .ok (.isub, 1) := by decide +kernel
theorem dL_isTrack_28 : decode cL_isTrack 28 = .ok (.imul, 1) := by decide +kernel
theorem dL_isTrack_29 : decode cL_isTrack 29 = .ok (.iload 4, 2) := by decide +kernel
theorem dL_isTrack_31 : decode cL_isTrack 31 = .ok (.sipush 1000, 3) := by decide +kernel
theorem dL_isTrack_34 : decode cL_isTrack 34 = .ok (.irem, 1) := by decide +kernel
theorem dL_isTrack_35 : decode cL_isTrack 35 = .ok (.iload 4, 2) := by decide +kernel
theorem dL_isTrack_37 : decode cL_isTrack 37 = .ok (.sipush 1000, 3) := by decide +kernel
theorem dL_isTrack_40 : decode cL_isTrack 40 = .ok (.irem, 1) := by decide +kernel
theorem dL_isTrack_41 : decode cL_isTrack 41 = .ok (.imul, 1) := by decide +kernel
theorem dL_isTrack_42 : decode cL_isTrack 42 = .ok (.iadd, 1) := by decide +kernel
theorem dL_isTrack_43 : decode cL_isTrack 43 = .ok (.istore 5, 2) := by decide +kernel
theorem dL_isTrack_45 : decode cL_isTrack 45 = .ok (.aload_n 0, 1) := by decide +kernel
theorem dL_isTrack_46 : decode cL_isTrack 46 = .ok (.iload_n 2, 1) := by decide +kernel
theorem dL_isTrack_47 : decode cL_isTrack 47 = .ok (.invokevirtual 66, 3) := by decide +kernel
theorem dL_isTrack_50 : decode cL_isTrack 50 = .ok (.istore 6, 2) := by decide +kernel
theorem dL_isTrack_52 : decode cL_isTrack 52 = .ok (.iload 4, 2) := by decide +kernel
theorem dL_isTrack_54 : decode cL_isTrack 54 = .ok (.ifCond .lt 62, 3) := by decide +kernel
theorem dL_isTrack_57 : decode cL_isTrack 57 = .ok (.iload 4, 2) := by decide +kernel
theorem dL_isTrack_59 : decode cL_isTrack 59 = .ok (.ldc 69, 2) := by decide +kernel
theorem dL_isTrack_61 : decode cL_isTrack 61 = .ok (.if_icmp .ge 55, 3) := by decide +kernel
theorem dL_isTrack_64 : decode cL_isTrack 64 = .ok (.iload 4, 2) := by decide +kernel
theorem dL_isTrack_66 : decode cL_isTrack 66 = .ok (.aload_n 0, 1) := by decide +kernel
theorem dL_isTrack_67 : decode cL_isTrack 67 = .ok (.iload_n 2, 1) := by decide +kernel
theorem dL_isTrack_68 : decode cL_isTrack 68 = .ok (.iload_n 3, 1) := by decide +kernel
theorem dL_isTrack_69 : decode cL_isTrack 69 = .ok (.invokevirtual 70, 3) := by decide +kernel
theorem dL_isTrack_72 : decode cL_isTrack 72 = .ok (.if_icmp .ne 44, 3) := by decide +kernel
theorem dL_isTrack_75 : decode cL_isTrack 75 = .ok (.iload 5, 2) := by decide +kernel
theorem dL_isTrack_77 : decode cL_isTrack 77 = .ok (.iload 6, 2) := by decide +kernel
theorem dL_isTrack_79 : decode cL_isTrack 79 = .ok (.iload 6, 2) := by decide +kernel
theorem dL_isTrack_81 : decode cL_isTrack 81 = .ok (.imul, 1) := by decide +kernel
theorem dL_isTrack_82 : decode cL_isTrack 82 = .ok (.if_icmp .gt 34, 3) := by decide +kernel
theorem dL_isTrack_85 : decode cL_isTrack 85 = .ok (.iload 6, 2) := by decide +kernel
theorem dL_isTrack_87 : decode cL_isTrack 87 = .ok (.sipush 1413, 3) := by decide +kernel
theorem dL_isTrack_90 : decode cL_isTrack 90 = .ok (.if_icmp .gt 26, 3) := by decide +kernel
theorem dL_isTrack_93 : decode cL_isTrack 93 = .ok (.aload_n 0, 1) := by decide +kernel
theorem dL_isTrack_94 : decode cL_isTrack 94 = .ok (.iload_n 2, 1) := by decide +kernel
theorem dL_isTrack_95 : decode cL_isTrack 95 = .ok (.sipush 1999, 3) := by decide +kernel
theorem dL_isTrack_98 : decode cL_isTrack 98 = .ok (.invokevirtual 63, 3) := by decide +kernel
theorem dL_isTrack_101 : decode cL_isTrack 101 = .ok (.aload_n 0, 1) := by decide +kernel
theorem dL_isTrack_102 : decode cL_isTrack 102 = .ok (.iload_n 2, 1) := by decide +kernel
theorem dL_isTrack_103 : decode cL_isTrack 103 = .ok (.sipush 1000, 3) := by decide +kernel
theorem dL_isTrack_106 : decode cL_isTrack 106 = .ok (.invokevirtual 63, 3) := by decide +kernel
theorem dL_isTrack_109 : decode cL_isTrack 109 = .ok (.if_icmp .ne 7, 3) := by decide +kernel
theorem dL_isTrack_112 : decode cL_isTrack 112 = .ok (.iconst 1, 1) := by decide +kernel
theorem dL_isTrack_113 : decode cL_isTrack 113 = .ok (.goto 4, 3) := by decide +kernel
theorem dL_isTrack_116 : decode cL_isTrack 116 = .ok (.iconst 0, 1) := by decide +kernel
theorem dL_isTrack_117 : decode cL_isTrack 117 = .ok (.ireturn, 1) := by decide +kernel
theorem dX5_least_0 : decode cX5_least 0 = .ok (.aload_n 0, 1) := by decide +kernel
theorem dX5_least_1 : decode cX5_least 1 = .ok (.iload_n 1, 1) := by decide +kernel
theorem dX5_least_2 : decode cX5_least 2 = .ok (.invokevirtual 57, 3) := by decide +kernel
theorem dX5_least_5 : decode cX5_least 5 = .ok (.invokevirtual 206, 3) := by decide +kernel
theorem dX5_least_8 : decode cX5_least 8 = .ok (.ireturn, 1) := by decide +kernel
theorem dX2_leastLength_0 : decode cX2_leastLength 0 = .ok (.iconst 0, 1) := by decide +kernel
theorem dX2_leastLength_1 : decode cX2_leastLength 1 = .ok (.istore_n 1, 1) := by decide +kernel
theorem dX2_leastLength_2 : decode cX2_leastLength 2 = .ok (.iconst 0, 1) := by decide +kernel
theorem dX2_leastLength_3 : decode cX2_leastLength 3 = .ok (.istore_n 2, 1) := by decide +kernel
theorem dX2_leastLength_4 : decode cX2_leastLength 4 = .ok (.iload_n 2, 1) := by decide +kernel
theorem dX2_leastLength_5 : decode cX2_leastLength 5 = .ok (.sipush 999, 3) := by decide +kernel
theorem dX2_leastLength_8 : decode cX2_leastLength 8 = .ok (.if_icmp .gt 23, 3) := by decide +kernel
theorem dX2_leastLength_11 : decode cX2_leastLength 11 = .ok (.aload_n 0, 1) := by decide +kernel
theorem dX2_leastLength_12 : decode cX2_leastLength 12 = .ok (.iload_n 2, 1) := by decide +kernel
theorem dX2_leastLength_13 : decode cX2_leastLength 13 = .ok (.invokevirtual 109, 3) := by decide +kernel
theorem dX2_leastLength_16 : decode cX2_leastLength 16 = .ok (.iload_n 1, 1) := by decide +kernel
theorem dX2_leastLength_17 : decode cX2_leastLength 17 = .ok (.aload_n 0, 1) := by decide +kernel
theorem dX2_leastLength_18 : decode cX2_leastLength 18 = .ok (.invokevirtual 91, 3) := by decide +kernel
theorem dX2_leastLength_21 : decode cX2_leastLength 21 = .ok (.invokestatic 100, 3) := by decide +kernel
theorem dX2_leastLength_24 : decode cX2_leastLength 24 = .ok (.istore_n 1, 1) := by decide +kernel
theorem dX2_leastLength_25 : decode cX2_leastLength 25 = .ok (.iinc 2 1, 3) := by decide +kernel
theorem dX2_leastLength_28 : decode cX2_leastLength 28 = .ok (.goto (-24), 3) := by decide +kernel
theorem dX2_leastLength_31 : decode cX2_leastLength 31 = .ok (.iload_n 1, 1) := by decide +kernel
theorem dX2_leastLength_32 : decode cX2_leastLength 32 = .ok (.invokestatic 103, 3) := by decide +kernel
theorem dX2_leastLength_35 : decode cX2_leastLength 35 = .ok (.istore_n 2, 1) := by decide +kernel
theorem dX2_leastLength_36 : decode cX2_leastLength 36 = .ok (.iload_n 2, 1) := by decide +kernel
theorem dX2_leastLength_37 : decode cX2_leastLength 37 = .ok (.iload_n 2, 1) := by decide +kernel
theorem dX2_leastLength_38 : decode cX2_leastLength 38 = .ok (.imul, 1) := by decide +kernel
theorem dX2_leastLength_39 : decode cX2_leastLength 39 = .ok (.iload_n 1, 1) := by decide +kernel
theorem dX2_leastLength_40 : decode cX2_leastLength 40 = .ok (.if_icmp .ge 9, 3) := by decide +kernel
theorem dX2_leastLength_43 : decode cX2_leastLength 43 = .ok (.iload_n 2, 1) := by decide +kernel
theorem dX2_leastLength_44 : decode cX2_leastLength 44 = .ok (.iconst 1, 1) := by decide +kernel
theorem dX2_leastLength_45 : decode cX2_leastLength 45 = .ok (.iadd, 1) := by decide +kernel
theorem dX2_leastLength_46 : decode cX2_leastLength 46 = .ok (.goto 4, 3) := by decide +kernel
theorem dX2_leastLength_49 : decode cX2_leastLength 49 = .ok (.iload_n 2, 1) := by decide +kernel
theorem dX2_leastLength_50 : decode cX2_leastLength 50 = .ok (.ireturn, 1) := by decide +kernel
theorem dX5_trackByFrames_0 : decode cX5_trackByFrames 0 = .ok (.aload_n 0, 1) := by decide +kernel
theorem dX5_trackByFrames_1 : decode cX5_trackByFrames 1 = .ok (.iload_n 1, 1) := by decide +kernel
theorem dX5_trackByFrames_2 : decode cX5_trackByFrames 2 = .ok (.invokevirtual 57, 3) := by decide +kernel
theorem dX5_trackByFrames_5 : decode cX5_trackByFrames 5 = .ok (.astore_n 3, 1) := by decide +kernel
theorem dX5_trackByFrames_6 : decode cX5_trackByFrames 6 = .ok (.iload_n 2, 1) := by decide +kernel
theorem dX5_trackByFrames_7 : decode cX5_trackByFrames 7 = .ok (.iconst 0, 1) := by decide +kernel
theorem dX5_trackByFrames_8 : decode cX5_trackByFrames 8 = .ok (.sipush 1999, 3) := by decide +kernel
theorem dX5_trackByFrames_11 : decode cX5_trackByFrames 11 = .ok (.invokestatic 33, 3) := by decide +kernel
theorem dX5_trackByFrames_14 : decode cX5_trackByFrames 14 = .ok (.aload_n 3, 1) := by decide +kernel
theorem dX5_trackByFrames_15 : decode cX5_trackByFrames 15 = .ok (.iload_n 2, 1) := by decide +kernel
theorem dX5_trackByFrames_16 : decode cX5_trackByFrames 16 = .ok (.invokevirtual 186, 3) := by decide +kernel
theorem dX5_trackByFrames_19 : decode cX5_trackByFrames 19 = .ok (.aload_n 3, 1) := by decide +kernel
theorem dX5_trackByFrames_20 : decode cX5_trackByFrames 20 = .ok (.getfield 177, 3) := by decide +kernel
theorem dX5_trackByFrames_23 : decode cX5_trackByFrames 23 = .ok (.invokevirtual 181, 3) := by decide +kernel
theorem dX5_trackByFrames_26 : decode cX5_trackByFrames 26 = .ok (.ireturn, 1) := by decide +kernel
theorem dX2_walkTo_0 : decode cX2_walkTo 0 = .ok (.iconst 0, 1) := by decide +kernel
theorem dX2_walkTo_1 : decode cX2_walkTo 1 = .ok (.istore_n 2, 1) := by decide +kernel
theorem dX2_walkTo_2 : decode cX2_walkTo 2 = .ok (.iconst 0, 1) := by decide +kernel
theorem dX2_walkTo_3 : decode cX2_walkTo 3 = .ok (.istore_n 3, 1) := by decide +kernel
theorem dX2_walkTo_4 : decode cX2_walkTo 4 = .ok (.iload_n 3, 1) := by decide +kernel
theorem dX2_walkTo_5 : decode cX2_walkTo 5 = .ok (.iload_n 1, 1) := by decide +kernel
theorem dX2_walkTo_6 : decode cX2_walkTo 6 = .ok (.if_icmp .gt 47, 3) := by decide +kernel
theorem dX2_walkTo_9 : decode cX2_walkTo 9 = .ok (.iload_n 2, 1) := by decide +kernel
theorem dX2_walkTo_10 : decode cX2_walkTo 10 = .ok (.aload_n 0, 1) := by decide +kernel
theorem dX2_walkTo_11 : decode cX2_walkTo 11 = .ok (.getfield 21, 3) := by decide +kernel
theorem dX2_walkTo_14 : decode cX2_walkTo 14 = .ok (.invokevirtual 45, 3) := by decide +kernel
theorem dX2_walkTo_17 : decode cX2_walkTo 17 = .ok (.if_icmp .ge 24, 3) := by decide +kernel
theorem dX2_walkTo_20 : decode cX2_walkTo 20 = .ok (.aload_n 0, 1) := by decide +kernel
theorem dX2_walkTo_21 : decode cX2_walkTo 21 = .ok (.getfield 21, 3) := by decide +kernel
theorem dX2_walkTo_24 : decode cX2_walkTo 24 = .ok (.iload_n 2, 1) := by decide +kernel
theorem dX2_walkTo_25 : decode cX2_walkTo 25 = .ok (.invokevirtual 49, 3) := by decide +kernel
theorem dX2_walkTo_28 : decode cX2_walkTo 28 = .ok (.checkcast 53, 3) := by decide +kernel
theorem dX2_walkTo_31 : decode cX2_walkTo 31 = .ok (.getfield 55, 3) := by decide +kernel
theorem dX2_walkTo_34 : decode cX2_walkTo 34 = .ok (.iload_n 3, 1) := by decide +kernel
theorem dX2_walkTo_35 : decode cX2_walkTo 35 = .ok (.if_icmp .ne 6, 3) := by decide +kernel
theorem dX2_walkTo_38 : decode cX2_walkTo 38 = .ok (.iinc 2 1, 3) := by decide +kernel
theorem dX2_walkTo_41 : decode cX2_walkTo 41 = .ok (.aload_n 0, 1) := by decide +kernel
theorem dX2_walkTo_42 : decode cX2_walkTo 42 = .ok (.iload_n 2, 1) := by decide +kernel
theorem dX2_walkTo_43 : decode cX2_walkTo 43 = .ok (.iload_n 3, 1) := by decide +kernel
theorem dX2_walkTo_44 : decode cX2_walkTo 44 = .ok (.invokevirtual 73, 3) := by decide +kernel
theorem dX2_walkTo_47 : decode cX2_walkTo 47 = .ok (.iinc 3 1, 3) := by decide +kernel
theorem dX2_walkTo_50 : decode cX2_walkTo 50 = .ok (.goto (-46), 3) := by decide +kernel
theorem dX2_walkTo_53 : decode cX2_walkTo 53 = .ok (.return_, 1) := by decide +kernel
theorem dL_on_0 : decode cL_on 0 = .ok (.aload_n 0, 1) := by decide +kernel
theorem dL_on_1 : decode cL_on 1 = .ok (.iload_n 1, 1) := by decide +kernel
theorem dL_on_2 : decode cL_on 2 = .ok (.iload_n 2, 1) := by decide +kernel
theorem dL_on_3 : decode cL_on 3 = .ok (.iload_n 3, 1) := by decide +kernel
theorem dL_on_4 : decode cL_on 4 = .ok (.iload 4, 2) := by decide +kernel
theorem dL_on_6 : decode cL_on 6 = .ok (.iload 5, 2) := by decide +kernel
theorem dL_on_8 : decode cL_on 8 = .ok (.invokestatic 40, 3) := by decide +kernel
theorem dL_on_11 : decode cL_on 11 = .ok (.ireturn, 1) := by decide +kernel
theorem dL_on_12 : decode cL_on 12 = .ok (.astore 6, 2) := by decide +kernel
theorem dL_on_14 : decode cL_on 14 = .ok (.ldc 48, 2) := by decide +kernel
theorem dL_on_16 : decode cL_on 16 = .ok (.ireturn, 1) := by decide +kernel
theorem dL_on_17 : decode cL_on 17 = .ok (.astore 6, 2) := by decide +kernel
theorem dL_on_19 : decode cL_on 19 = .ok (.ldc 51, 2) := by decide +kernel
theorem dL_on_21 : decode cL_on 21 = .ok (.ireturn, 1) := by decide +kernel
theorem dL_on_22 : decode cL_on 22 = .ok (.astore 6, 2) := by decide +kernel
theorem dL_on_24 : decode cL_on 24 = .ok (.ldc 54, 2) := by decide +kernel
theorem dL_on_26 : decode cL_on 26 = .ok (.ireturn, 1) := by decide +kernel
theorem dL_keyed_0 : decode cL_keyed 0 = .ok (.aload_n 0, 1) := by decide +kernel
theorem dL_keyed_1 : decode cL_keyed 1 = .ok (.iload_n 1, 1) := by decide +kernel
theorem dL_keyed_2 : decode cL_keyed 2 = .ok (.iload_n 2, 1) := by decide +kernel
theorem dL_keyed_3 : decode cL_keyed 3 = .ok (.iload_n 3, 1) := by decide +kernel
theorem dL_keyed_4 : decode cL_keyed 4 = .ok (.iload 4, 2) := by decide +kernel
theorem dL_keyed_6 : decode cL_keyed 6 = .ok (.iload 5, 2) := by decide +kernel
theorem dL_keyed_8 : decode cL_keyed 8 = .ok (.invokevirtual 55, 3) := by decide +kernel
theorem dL_keyed_11 : decode cL_keyed 11 = .ok (.ireturn, 1) := by decide +kernel
theorem dL_keyed_12 : decode cL_keyed 12 = .ok (.astore 6, 2) := by decide +kernel
theorem dL_keyed_14 : decode cL_keyed 14 = .ok (.ldc 51, 2) := by decide +kernel
theorem dL_keyed_16 : decode cL_keyed 16 = .ok (.ireturn, 1) := by decide +kernel
theorem dJx4a65c_init_da8c8_0 : decode cJx4a65c_init_da8c8 0 = .ok (.aload_n 0, 1) := by decide +kernel
theorem dJx4a65c_init_da8c8_1 : decode cJx4a65c_init_da8c8 1 = .ok (.invokespecial 1, 3) := by decide +kernel
theorem dJx4a65c_init_da8c8_4 : decode cJx4a65c_init_da8c8 4 = .ok (.aload_n 0, 1) := by decide +kernel
theorem dJx4a65c_init_da8c8_5 : decode cJx4a65c_init_da8c8 5 = .ok (.getstatic 39, 3) := by decide +kernel
theorem dJx4a65c_init_da8c8_8 : decode cJx4a65c_init_da8c8 8 = .ok (.putfield 9, 3) := by decide +kernel
theorem dJx4a65c_init_da8c8_11 : decode cJx4a65c_init_da8c8 11 = .ok (.return_, 1) := by decide +kernel
theorem dJxc12de_init_da8c8_0 : decode cJxc12de_init_da8c8 0 = .ok (.aload_n 0, 1) := by decide +kernel
theorem dJxc12de_init_da8c8_1 : decode cJxc12de_init_da8c8 1 = .ok (.invokespecial 1, 3) := by decide +kernel
theorem dJxc12de_init_da8c8_4 : decode cJxc12de_init_da8c8 4 = .ok (.aload_n 0, 1) := by decide +kernel
theorem dJxc12de_init_da8c8_5 : decode cJxc12de_init_da8c8 5 = .ok (.iconst 0, 1) := by decide +kernel
theorem dJxc12de_init_da8c8_6 : decode cJxc12de_init_da8c8 6 = .ok (.putfield 7, 3) := by decide +kernel
theorem dJxc12de_init_da8c8_9 : decode cJxc12de_init_da8c8 9 = .ok (.return_, 1) := by decide +kernel
theorem dJxa1e45_init_da8c8_0 : decode cJxa1e45_init_da8c8 0 = .ok (.aload_n 0, 1) := by decide +kernel
theorem dJxa1e45_init_da8c8_1 : decode cJxa1e45_init_da8c8 1 = .ok (.invokespecial 1, 3) := by decide +kernel
theorem dJxa1e45_init_da8c8_4 : decode cJxa1e45_init_da8c8 4 = .ok (.return_, 1) := by decide +kernel
theorem dJx4a65c_size_8abf5_0 : decode cJx4a65c_size_8abf5 0 = .ok (.aload_n 0, 1) := by decide +kernel
theorem dJx4a65c_size_8abf5_1 : decode cJx4a65c_size_8abf5 1 = .ok (.getfield 48, 3) := by decide +kernel
theorem dJx4a65c_size_8abf5_4 : decode cJx4a65c_size_8abf5 4 = .ok (.ireturn, 1) := by decide +kernel
theorem dJx4a65c_get_915e3_0 : decode cJx4a65c_get_915e3 0 = .ok (.iload_n 1, 1) := by decide +kernel
theorem dJx4a65c_get_915e3_1 : decode cJx4a65c_get_915e3 1 = .ok (.aload_n 0, 1) := by decide +kernel
theorem dJx4a65c_get_915e3_2 : decode cJx4a65c_get_915e3 2 = .ok (.getfield 48, 3) := by decide +kernel
theorem dJx4a65c_get_915e3_5 : decode cJx4a65c_get_915e3 5 = .ok (.invokestatic 118, 3) := by decide +kernel
theorem dJx4a65c_get_915e3_8 : decode cJx4a65c_get_915e3 8 = .ok (.pop, 1) := by decide +kernel
theorem dJx4a65c_get_915e3_9 : decode cJx4a65c_get_915e3 9 = .ok (.aload_n 0, 1) := by decide +kernel
theorem dJx4a65c_get_915e3_10 : decode cJx4a65c_get_915e3 10 = .ok (.iload_n 1, 1) := by decide +kernel
theorem dJx4a65c_get_915e3_11 : decode cJx4a65c_get_915e3 11 = .ok (.invokevirtual 123, 3) := by decide +kernel
theorem dJx4a65c_get_915e3_14 : decode cJx4a65c_get_915e3 14 = .ok (.areturn, 1) := by decide +kernel
theorem dJx4a65c_elementData_915e3_0 : decode cJx4a65c_elementData_915e3 0 = .ok (.aload_n 0, 1) := by decide +kernel
theorem dJx4a65c_elementData_915e3_1 : decode cJx4a65c_elementData_915e3 1 = .ok (.getfield 9, 3) := by decide +kernel
theorem dJx4a65c_elementData_915e3_4 : decode cJx4a65c_elementData_915e3 4 = .ok (.iload_n 1, 1) := by decide +kernel
theorem dJx4a65c_elementData_915e3_5 : decode cJx4a65c_elementData_915e3 5 = .ok (.aaload, 1) := by decide +kernel
theorem dJx4a65c_elementData_915e3_6 : decode cJx4a65c_elementData_915e3 6 = .ok (.areturn, 1) := by decide +kernel
theorem dJx4a65c_set_bcc79_0 : decode cJx4a65c_set_bcc79 0 = .ok (.iload_n 1, 1) := by decide +kernel
theorem dJx4a65c_set_bcc79_1 : decode cJx4a65c_set_bcc79 1 = .ok (.aload_n 0, 1) := by decide +kernel
theorem dJx4a65c_set_bcc79_2 : decode cJx4a65c_set_bcc79 2 = .ok (.getfield 48, 3) := by decide +kernel
theorem dJx4a65c_set_bcc79_5 : decode cJx4a65c_set_bcc79 5 = .ok (.invokestatic 118, 3) := by decide +kernel
theorem dJx4a65c_set_bcc79_8 : decode cJx4a65c_set_bcc79 8 = .ok (.pop, 1) := by decide +kernel
theorem dJx4a65c_set_bcc79_9 : decode cJx4a65c_set_bcc79 9 = .ok (.aload_n 0, 1) := by decide +kernel
theorem dJx4a65c_set_bcc79_10 : decode cJx4a65c_set_bcc79 10 = .ok (.iload_n 1, 1) := by decide +kernel
theorem dJx4a65c_set_bcc79_11 : decode cJx4a65c_set_bcc79 11 = .ok (.invokevirtual 123, 3) := by decide +kernel
theorem dJx4a65c_set_bcc79_14 : decode cJx4a65c_set_bcc79 14 = .ok (.astore_n 3, 1) := by decide +kernel
theorem dJx4a65c_set_bcc79_15 : decode cJx4a65c_set_bcc79 15 = .ok (.aload_n 0, 1) := by decide +kernel
theorem dJx4a65c_set_bcc79_16 : decode cJx4a65c_set_bcc79 16 = .ok (.getfield 9, 3) := by decide +kernel
theorem dJx4a65c_set_bcc79_19 : decode cJx4a65c_set_bcc79 19 = .ok (.iload_n 1, 1) := by decide +kernel
theorem dJx4a65c_set_bcc79_20 : decode cJx4a65c_set_bcc79 20 = .ok (.aload_n 2, 1) := by decide +kernel
theorem dJx4a65c_set_bcc79_21 : decode cJx4a65c_set_bcc79 21 = .ok (.aastore, 1) := by decide +kernel
theorem dJx4a65c_set_bcc79_22 : decode cJx4a65c_set_bcc79 22 = .ok (.aload_n 3, 1) := by decide +kernel
theorem dJx4a65c_set_bcc79_23 : decode cJx4a65c_set_bcc79 23 = .ok (.areturn, 1) := by decide +kernel
theorem dJx4a65c_add_9ea2d_0 : decode cJx4a65c_add_9ea2d 0 = .ok (.aload_n 0, 1) := by decide +kernel
theorem dJx4a65c_add_9ea2d_1 : decode cJx4a65c_add_9ea2d 1 = .ok (.dup, 1) := by decide +kernel
theorem dJx4a65c_add_9ea2d_2 : decode cJx4a65c_add_9ea2d 2 = .ok (.getfield 63, 3) := by decide +kernel
theorem dJx4a65c_add_9ea2d_5 : decode cJx4a65c_add_9ea2d 5 = .ok (.iconst 1, 1) := by decide +kernel
theorem dJx4a65c_add_9ea2d_6 : decode cJx4a65c_add_9ea2d 6 = .ok (.iadd, 1) := by decide +kernel
theorem dJx4a65c_add_9ea2d_7 : decode cJx4a65c_add_9ea2d 7 = .ok (.putfield 63, 3) := by decide +kernel
theorem dJx4a65c_add_9ea2d_10 : decode cJx4a65c_add_9ea2d 10 = .ok (.aload_n 0, 1) := by decide +kernel
theorem dJx4a65c_add_9ea2d_11 : decode cJx4a65c_add_9ea2d 11 = .ok (.aload_n 1, 1) := by decide +kernel
theorem dJx4a65c_add_9ea2d_12 : decode cJx4a65c_add_9ea2d 12 = .ok (.aload_n 0, 1) := by decide +kernel
theorem dJx4a65c_add_9ea2d_13 : decode cJx4a65c_add_9ea2d 13 = .ok (.getfield 9, 3) := by decide +kernel
theorem dJx4a65c_add_9ea2d_16 : decode cJx4a65c_add_9ea2d 16 = .ok (.aload_n 0, 1) := by decide +kernel
theorem dJx4a65c_add_9ea2d_17 : decode cJx4a65c_add_9ea2d 17 = .ok (.getfield 48, 3) := by decide +kernel
theorem dJx4a65c_add_9ea2d_20 : decode cJx4a65c_add_9ea2d 20 = .ok (.invokevirtual 131, 3) := by decide +kernel
theorem dJx4a65c_add_9ea2d_23 : decode cJx4a65c_add_9ea2d 23 = .ok (.iconst 1, 1) := by decide +kernel
theorem dJx4a65c_add_9ea2d_24 : decode cJx4a65c_add_9ea2d 24 = .ok (.ireturn, 1) := by decide +kernel
theorem dJx4a65c_add_72be8_0 : decode cJx4a65c_add_72be8 0 = .ok (.iload_n 3, 1) := by decide +kernel
theorem dJx4a65c_add_72be8_1 : decode cJx4a65c_add_72be8 1 = .ok (.aload_n 2, 1) := by decide +kernel
theorem dJx4a65c_add_72be8_2 : decode cJx4a65c_add_72be8 2 = .ok (.arraylength, 1) := by decide +kernel
theorem dJx4a65c_add_72be8_3 : decode cJx4a65c_add_72be8 3 = .ok (.if_icmp .ne 8, 3) := by decide +kernel
theorem dJx4a65c_add_72be8_6 : decode cJx4a65c_add_72be8 6 = .ok (.aload_n 0, 1) := by decide +kernel
theorem dJx4a65c_add_72be8_7 : decode cJx4a65c_add_72be8 7 = .ok (.invokevirtual 129, 3) := by decide +kernel
theorem dJx4a65c_add_72be8_10 : decode cJx4a65c_add_72be8 10 = .ok (.astore_n 2, 1) := by decide +kernel
theorem dJx4a65c_add_72be8_11 : decode cJx4a65c_add_72be8 11 = .ok (.aload_n 2, 1) := by decide +kernel
theorem dJx4a65c_add_72be8_12 : decode cJx4a65c_add_72be8 12 = .ok (.iload_n 3, 1) := by decide +kernel
theorem dJx4a65c_add_72be8_13 : decode cJx4a65c_add_72be8 13 = .ok (.aload_n 1, 1) := by decide +kernel
theorem dJx4a65c_add_72be8_14 : decode cJx4a65c_add_72be8 14 = .ok (.aastore, 1) := by decide +kernel
theorem dJx4a65c_add_72be8_15 : decode cJx4a65c_add_72be8 15 = .ok (.aload_n 0, 1) := by decide +kernel
theorem dJx4a65c_add_72be8_16 : decode cJx4a65c_add_72be8 16 = .ok (.iload_n 3, 1) := by decide +kernel
theorem dJx4a65c_add_72be8_17 : decode cJx4a65c_add_72be8 17 = .ok (.iconst 1, 1) := by decide +kernel
theorem dJx4a65c_add_72be8_18 : decode cJx4a65c_add_72be8 18 = .ok (.iadd, 1) := by decide +kernel
theorem dJx4a65c_add_72be8_19 : decode cJx4a65c_add_72be8 19 = .ok (.putfield 48, 3) := by decide +kernel
theorem dJx4a65c_add_72be8_22 : decode cJx4a65c_add_72be8 22 = .ok (.return_, 1) := by decide +kernel
theorem dJx4a65c_add_7a177_0 : decode cJx4a65c_add_7a177 0 = .ok (.aload_n 0, 1) := by decide +kernel
theorem dJx4a65c_add_7a177_1 : decode cJx4a65c_add_7a177 1 = .ok (.iload_n 1, 1) := by decide +kernel
theorem dJx4a65c_add_7a177_2 : decode cJx4a65c_add_7a177 2 = .ok (.invokevirtual 135, 3) := by decide +kernel
theorem dJx4a65c_add_7a177_5 : decode cJx4a65c_add_7a177 5 = .ok (.aload_n 0, 1) := by decide +kernel
theorem dJx4a65c_add_7a177_6 : decode cJx4a65c_add_7a177 6 = .ok (.dup, 1) := by decide +kernel
theorem dJx4a65c_add_7a177_7 : decode cJx4a65c_add_7a177 7 = .ok (.getfield 63, 3) := by decide +kernel
theorem dJx4a65c_add_7a177_10 : decode cJx4a65c_add_7a177 10 = .ok (.iconst 1, 1) := by decide +kernel
theorem dJx4a65c_add_7a177_11 : decode cJx4a65c_add_7a177 11 = .ok (.iadd, 1) := by decide +kernel
theorem dJx4a65c_add_7a177_12 : decode cJx4a65c_add_7a177 12 = .ok (.putfield 63, 3) := by decide +kernel
theorem dJx4a65c_add_7a177_15 : decode cJx4a65c_add_7a177 15 = .ok (.aload_n 0, 1) := by decide +kernel
theorem dJx4a65c_add_7a177_16 : decode cJx4a65c_add_7a177 16 = .ok (.getfield 48, 3) := by decide +kernel
theorem dJx4a65c_add_7a177_19 : decode cJx4a65c_add_7a177 19 = .ok (.dup, 1) := by decide +kernel
theorem dJx4a65c_add_7a177_20 : decode cJx4a65c_add_7a177 20 = .ok (.istore_n 3, 1) := by decide +kernel
theorem dJx4a65c_add_7a177_21 : decode cJx4a65c_add_7a177 21 = .ok (.aload_n 0, 1) := by decide +kernel
theorem dJx4a65c_add_7a177_22 : decode cJx4a65c_add_7a177 22 = .ok (.getfield 9, 3) := by decide +kernel
theorem dJx4a65c_add_7a177_25 : decode cJx4a65c_add_7a177 25 = .ok (.dup, 1) := by decide +kernel
theorem dJx4a65c_add_7a177_26 : decode cJx4a65c_add_7a177 26 = .ok (.astore 4, 2) := by decide +kernel
theorem dJx4a65c_add_7a177_28 : decode cJx4a65c_add_7a177 28 = .ok (.arraylength, 1) := by decide +kernel
theorem dJx4a65c_add_7a177_29 : decode cJx4a65c_add_7a177 29 = .ok (.if_icmp .ne 9, 3) := by decide +kernel
theorem dJx4a65c_add_7a177_32 : decode cJx4a65c_add_7a177 32 = .ok (.aload_n 0, 1) := by decide +kernel
theorem dJx4a65c_add_7a177_33 : decode cJx4a65c_add_7a177 33 = .ok (.invokevirtual 129, 3) := by decide +kernel
theorem dJx4a65c_add_7a177_36 : decode cJx4a65c_add_7a177 36 = .ok (.astore 4, 2) := by decide +kernel
theorem dJx4a65c_add_7a177_38 : decode cJx4a65c_add_7a177 38 = .ok (.aload 4, 2) := by decide +kernel
theorem dJx4a65c_add_7a177_40 : decode cJx4a65c_add_7a177 40 = .ok (.iload_n 1, 1) := by decide +kernel
theorem dJx4a65c_add_7a177_41 : decode cJx4a65c_add_7a177 41 = .ok (.aload 4, 2) := by decide +kernel
theorem dJx4a65c_add_7a177_43 : decode cJx4a65c_add_7a177 43 = .ok (.iload_n 1, 1) := by decide +kernel
theorem dJx4a65c_add_7a177_44 : decode cJx4a65c_add_7a177 44 = .ok (.iconst 1, 1) := by decide +kernel
theorem dJx4a65c_add_7a177_45 : decode cJx4a65c_add_7a177 45 = .ok (.iadd, 1) := by decide +kernel
theorem dJx4a65c_add_7a177_46 : decode cJx4a65c_add_7a177 46 = .ok (.iload_n 3, 1) := by decide +kernel
theorem dJx4a65c_add_7a177_47 : decode cJx4a65c_add_7a177 47 = .ok (.iload_n 1, 1) := by decide +kernel
theorem dJx4a65c_add_7a177_48 : decode cJx4a65c_add_7a177 48 = .ok (.isub, 1) := by decide +kernel
theorem dJx4a65c_add_7a177_49 : decode cJx4a65c_add_7a177 49 = .ok (.invokestatic 112, 3) := by decide +kernel
theorem dJx4a65c_add_7a177_52 : decode cJx4a65c_add_7a177 52 = .ok (.aload 4, 2) := by decide +kernel
theorem dJx4a65c_add_7a177_54 : decode cJx4a65c_add_7a177 54 = .ok (.iload_n 1, 1) := by decide +kernel
theorem dJx4a65c_add_7a177_55 : decode cJx4a65c_add_7a177 55 = .ok (.aload_n 2, 1) := by decide +kernel
theorem dJx4a65c_add_7a177_56 : decode cJx4a65c_add_7a177 56 = .ok (.aastore, 1) := by decide +kernel
theorem dJx4a65c_add_7a177_57 : decode cJx4a65c_add_7a177 57 = .ok (.aload_n 0, 1) := by decide +kernel
theorem dJx4a65c_add_7a177_58 : decode cJx4a65c_add_7a177 58 = .ok (.iload_n 3, 1) := by decide +kernel
theorem dJx4a65c_add_7a177_59 : decode cJx4a65c_add_7a177 59 = .ok (.iconst 1, 1) := by decide +kernel
theorem dJx4a65c_add_7a177_60 : decode cJx4a65c_add_7a177 60 = .ok (.iadd, 1) := by decide +kernel
theorem dJx4a65c_add_7a177_61 : decode cJx4a65c_add_7a177 61 = .ok (.putfield 48, 3) := by decide +kernel
theorem dJx4a65c_add_7a177_64 : decode cJx4a65c_add_7a177 64 = .ok (.return_, 1) := by decide +kernel
theorem dJx4a65c_remove_915e3_0 : decode cJx4a65c_remove_915e3 0 = .ok (.iload_n 1, 1) := by decide +kernel
theorem dJx4a65c_remove_915e3_1 : decode cJx4a65c_remove_915e3 1 = .ok (.aload_n 0, 1) := by decide +kernel
theorem dJx4a65c_remove_915e3_2 : decode cJx4a65c_remove_915e3 2 = .ok (.getfield 48, 3) := by decide +kernel
theorem dJx4a65c_remove_915e3_5 : decode cJx4a65c_remove_915e3 5 = .ok (.invokestatic 118, 3) := by decide +kernel
theorem dJx4a65c_remove_915e3_8 : decode cJx4a65c_remove_915e3 8 = .ok (.pop, 1) := by decide +kernel
theorem dJx4a65c_remove_915e3_9 : decode cJx4a65c_remove_915e3 9 = .ok (.aload_n 0, 1) := by decide +kernel
theorem dJx4a65c_remove_915e3_10 : decode cJx4a65c_remove_915e3 10 = .ok (.getfield 9, 3) := by decide +kernel
theorem dJx4a65c_remove_915e3_13 : decode cJx4a65c_remove_915e3 13 = .ok (.astore_n 2, 1) := by decide +kernel
theorem dJx4a65c_remove_915e3_14 : decode cJx4a65c_remove_915e3 14 = .ok (.aload_n 2, 1) := by decide +kernel
theorem dJx4a65c_remove_915e3_15 : decode cJx4a65c_remove_915e3 15 = .ok (.iload_n 1, 1) := by decide +kernel
theorem dJx4a65c_remove_915e3_16 : decode cJx4a65c_remove_915e3 16 = .ok (.aaload, 1) := by decide +kernel
theorem dJx4a65c_remove_915e3_17 : decode cJx4a65c_remove_915e3 17 = .ok (.astore_n 3, 1) := by decide +kernel
theorem dJx4a65c_remove_915e3_18 : decode cJx4a65c_remove_915e3 18 = .ok (.aload_n 0, 1) := by decide +kernel
theorem dJx4a65c_remove_915e3_19 : decode cJx4a65c_remove_915e3 19 = .ok (.aload_n 2, 1) := by decide +kernel
theorem dJx4a65c_remove_915e3_20 : decode cJx4a65c_remove_915e3 20 = .ok (.iload_n 1, 1) := by decide +kernel
theorem dJx4a65c_remove_915e3_21 : decode cJx4a65c_remove_915e3 21 = .ok (.invokevirtual 144, 3) := by decide +kernel
theorem dJx4a65c_remove_915e3_24 : decode cJx4a65c_remove_915e3 24 = .ok (.aload_n 3, 1) := by decide +kernel
theorem dJx4a65c_remove_915e3_25 : decode cJx4a65c_remove_915e3 25 = .ok (.areturn, 1) := by decide +kernel
theorem dJx4a65c_fastRemove_b59b0_0 : decode cJx4a65c_fastRemove_b59b0 0 = .ok (.aload_n 0, 1) := by decide +kernel
theorem dJx4a65c_fastRemove_b59b0_1 : decode cJx4a65c_fastRemove_b59b0 1 = .ok (.dup, 1) := by decide +kernel
theorem dJx4a65c_fastRemove_b59b0_2 : decode cJx4a65c_fastRemove_b59b0 2 = .ok (.getfield 63, 3) := by decide +kernel
theorem dJx4a65c_fastRemove_b59b0_5 : decode cJx4a65c_fastRemove_b59b0 5 = .ok (.iconst 1, 1) := by decide +kernel
theorem dJx4a65c_fastRemove_b59b0_6 : decode cJx4a65c_fastRemove_b59b0 6 = .ok (.iadd, 1) := by decide +kernel
theorem dJx4a65c_fastRemove_b59b0_7 : decode cJx4a65c_fastRemove_b59b0 7 = .ok (.putfield 63, 3) := by decide +kernel
theorem dJx4a65c_fastRemove_b59b0_10 : decode cJx4a65c_fastRemove_b59b0 10 = .ok (.aload_n 0, 1) := by decide +kernel
theorem dJx4a65c_fastRemove_b59b0_11 : decode cJx4a65c_fastRemove_b59b0 11 = .ok (.getfield 48, 3) := by decide +kernel
theorem dJx4a65c_fastRemove_b59b0_14 : decode cJx4a65c_fastRemove_b59b0 14 = .ok (.iconst 1, 1) := by decide +kernel
theorem dJx4a65c_fastRemove_b59b0_15 : decode cJx4a65c_fastRemove_b59b0 15 = .ok (.isub, 1) := by decide +kernel
theorem dJx4a65c_fastRemove_b59b0_16 : decode cJx4a65c_fastRemove_b59b0 16 = .ok (.dup, 1) := by decide +kernel
theorem dJx4a65c_fastRemove_b59b0_17 : decode cJx4a65c_fastRemove_b59b0 17 = .ok (.istore_n 3, 1) := by decide +kernel
theorem dJx4a65c_fastRemove_b59b0_18 : decode cJx4a65c_fastRemove_b59b0 18 = .ok (.iload_n 2, 1) := by decide +kernel
theorem dJx4a65c_fastRemove_b59b0_19 : decode cJx4a65c_fastRemove_b59b0 19 = .ok (.if_icmp .le 15, 3) := by decide +kernel
theorem dJx4a65c_fastRemove_b59b0_22 : decode cJx4a65c_fastRemove_b59b0 22 = .ok (.aload_n 1, 1) := by decide +kernel
theorem dJx4a65c_fastRemove_b59b0_23 : decode cJx4a65c_fastRemove_b59b0 23 = .ok (.iload_n 2, 1) := by decide +kernel
theorem dJx4a65c_fastRemove_b59b0_24 : decode cJx4a65c_fastRemove_b59b0 24 = .ok (.iconst 1, 1) := by decide +kernel
theorem dJx4a65c_fastRemove_b59b0_25 : decode cJx4a65c_fastRemove_b59b0 25 = .ok (.iadd, 1) := by decide +kernel
theorem dJx4a65c_fastRemove_b59b0_26 : decode cJx4a65c_fastRemove_b59b0 26 = .ok (.aload_n 1, 1) := by decide +kernel
theorem dJx4a65c_fastRemove_b59b0_27 : decode cJx4a65c_fastRemove_b59b0 27 = .ok (.iload_n 2, 1) := by decide +kernel
theorem dJx4a65c_fastRemove_b59b0_28 : decode cJx4a65c_fastRemove_b59b0 28 = .ok (.iload_n 3, 1) := by decide +kernel
theorem dJx4a65c_fastRemove_b59b0_29 : decode cJx4a65c_fastRemove_b59b0 29 = .ok (.iload_n 2, 1) := by decide +kernel
theorem dJx4a65c_fastRemove_b59b0_30 : decode cJx4a65c_fastRemove_b59b0 30 = .ok (.isub, 1) := by decide +kernel
theorem dJx4a65c_fastRemove_b59b0_31 : decode cJx4a65c_fastRemove_b59b0 31 = .ok (.invokestatic 112, 3) := by decide +kernel
theorem dJx4a65c_fastRemove_b59b0_34 : decode cJx4a65c_fastRemove_b59b0 34 = .ok (.aload_n 1, 1) := by decide +kernel
theorem dJx4a65c_fastRemove_b59b0_35 : decode cJx4a65c_fastRemove_b59b0 35 = .ok (.aload_n 0, 1) := by decide +kernel
theorem dJx4a65c_fastRemove_b59b0_36 : decode cJx4a65c_fastRemove_b59b0 36 = .ok (.iload_n 3, 1) := by decide +kernel
theorem dJx4a65c_fastRemove_b59b0_37 : decode cJx4a65c_fastRemove_b59b0 37 = .ok (.dup_x1, 1) := by decide +kernel
theorem dJx4a65c_fastRemove_b59b0_38 : decode cJx4a65c_fastRemove_b59b0 38 = .ok (.putfield 48, 3) := by decide +kernel
theorem dJx4a65c_fastRemove_b59b0_41 : decode cJx4a65c_fastRemove_b59b0 41 = .ok (.aconst_null, 1) := by decide +kernel
theorem dJx4a65c_fastRemove_b59b0_42 : decode cJx4a65c_fastRemove_b59b0 42 = .ok (.aastore, 1) := by decide +kernel
theorem dJx4a65c_fastRemove_b59b0_43 : decode cJx4a65c_fastRemove_b59b0 43 = .ok (.return_, 1) := by decide +kernel
theorem dJx4a65c_grow_d5877_0 : decode cJx4a65c_grow_d5877 0 = .ok (.aload_n 0, 1) := by decide +kernel
theorem dJx4a65c_grow_d5877_1 : decode cJx4a65c_grow_d5877 1 = .ok (.aload_n 0, 1) := by decide +kernel
theorem dJx4a65c_grow_d5877_2 : decode cJx4a65c_grow_d5877 2 = .ok (.getfield 48, 3) := by decide +kernel
theorem dJx4a65c_grow_d5877_5 : decode cJx4a65c_grow_d5877 5 = .ok (.iconst 1, 1) := by decide +kernel
theorem dJx4a65c_grow_d5877_6 : decode cJx4a65c_grow_d5877 6 = .ok (.iadd, 1) := by decide +kernel
theorem dJx4a65c_grow_d5877_7 : decode cJx4a65c_grow_d5877 7 = .ok (.invokevirtual 69, 3) := by decide +kernel
theorem dJx4a65c_grow_d5877_10 : decode cJx4a65c_grow_d5877 10 = .ok (.areturn, 1) := by decide +kernel
theorem dJx4a65c_grow_92f84_0 : decode cJx4a65c_grow_92f84 0 = .ok (.aload_n 0, 1) := by decide +kernel
theorem dJx4a65c_grow_92f84_1 : decode cJx4a65c_grow_92f84 1 = .ok (.getfield 9, 3) := by decide +kernel
theorem dJx4a65c_grow_92f84_4 : decode cJx4a65c_grow_92f84 4 = .ok (.arraylength, 1) := by decide +kernel
theorem dJx4a65c_grow_92f84_5 : decode cJx4a65c_grow_92f84 5 = .ok (.istore_n 2, 1) := by decide +kernel
theorem dJx4a65c_grow_92f84_6 : decode cJx4a65c_grow_92f84 6 = .ok (.iload_n 2, 1) := by decide +kernel
theorem dJx4a65c_grow_92f84_7 : decode cJx4a65c_grow_92f84 7 = .ok (.ifCond .gt 13, 3) := by decide +kernel
theorem dJx4a65c_grow_92f84_10 : decode cJx4a65c_grow_92f84 10 = .ok (.aload_n 0, 1) := by decide +kernel
theorem dJx4a65c_grow_92f84_11 : decode cJx4a65c_grow_92f84 11 = .ok (.getfield 9, 3) := by decide +kernel
theorem dJx4a65c_grow_92f84_14 : decode cJx4a65c_grow_92f84 14 = .ok (.getstatic 39, 3) := by decide +kernel
theorem dJx4a65c_grow_92f84_17 : decode cJx4a65c_grow_92f84 17 = .ok (.if_acmp .eq 28, 3) := by decide +kernel
theorem dJx4a65c_grow_92f84_20 : decode cJx4a65c_grow_92f84 20 = .ok (.iload_n 2, 1) := by decide +kernel
theorem dJx4a65c_grow_92f84_21 : decode cJx4a65c_grow_92f84 21 = .ok (.iload_n 1, 1) := by decide +kernel
theorem dJx4a65c_grow_92f84_22 : decode cJx4a65c_grow_92f84 22 = .ok (.iload_n 2, 1) := by decide +kernel
theorem dJx4a65c_grow_92f84_23 : decode cJx4a65c_grow_92f84 23 = .ok (.isub, 1) := by decide +kernel
theorem dJx4a65c_grow_92f84_24 : decode cJx4a65c_grow_92f84 24 = .ok (.iload_n 2, 1) := by decide +kernel
theorem dJx4a65c_grow_92f84_25 : decode cJx4a65c_grow_92f84 25 = .ok (.iconst 1, 1) := by decide +kernel
theorem dJx4a65c_grow_92f84_26 : decode cJx4a65c_grow_92f84 26 = .ok (.ishr, 1) := by decide +kernel
theorem dJx4a65c_grow_92f84_27 : decode cJx4a65c_grow_92f84 27 = .ok (.invokestatic 73, 3) := by decide +kernel
theorem dJx4a65c_grow_92f84_30 : decode cJx4a65c_grow_92f84 30 = .ok (.istore_n 3, 1) := by decide +kernel
theorem dJx4a65c_grow_92f84_31 : decode cJx4a65c_grow_92f84 31 = .ok (.aload_n 0, 1) := by decide +kernel
theorem dJx4a65c_grow_92f84_32 : decode cJx4a65c_grow_92f84 32 = .ok (.aload_n 0, 1) := by decide +kernel
theorem dJx4a65c_grow_92f84_33 : decode cJx4a65c_grow_92f84 33 = .ok (.getfield 9, 3) := by decide +kernel
theorem dJx4a65c_grow_92f84_36 : decode cJx4a65c_grow_92f84 36 = .ok (.iload_n 3, 1) := by decide +kernel
theorem dJx4a65c_grow_92f84_37 : decode cJx4a65c_grow_92f84 37 = .ok (.invokestatic 66, 3) := by decide +kernel
theorem dJx4a65c_grow_92f84_40 : decode cJx4a65c_grow_92f84 40 = .ok (.dup_x1, 1) := by decide +kernel
theorem dJx4a65c_grow_92f84_41 : decode cJx4a65c_grow_92f84 41 = .ok (.putfield 9, 3) := by decide +kernel
theorem dJx4a65c_grow_92f84_44 : decode cJx4a65c_grow_92f84 44 = .ok (.areturn, 1) := by decide +kernel
theorem dJx4a65c_grow_92f84_45 : decode cJx4a65c_grow_92f84 45 = .ok (.aload_n 0, 1) := by decide +kernel
theorem dJx4a65c_grow_92f84_46 : decode cJx4a65c_grow_92f84 46 = .ok (.bipush 10, 2) := by decide +kernel
theorem dJx4a65c_grow_92f84_48 : decode cJx4a65c_grow_92f84 48 = .ok (.iload_n 1, 1) := by decide +kernel
theorem dJx4a65c_grow_92f84_49 : decode cJx4a65c_grow_92f84 49 = .ok (.invokestatic 79, 3) := by decide +kernel
theorem dJx4a65c_grow_92f84_52 : decode cJx4a65c_grow_92f84 52 = .ok (.anewarray 7, 3) := by decide +kernel
theorem dJx4a65c_grow_92f84_55 : decode cJx4a65c_grow_92f84 55 = .ok (.dup_x1, 1) := by decide +kernel
theorem dJx4a65c_grow_92f84_56 : decode cJx4a65c_grow_92f84 56 = .ok (.putfield 9, 3) := by decide +kernel
theorem dJx4a65c_grow_92f84_59 : decode cJx4a65c_grow_92f84 59 = .ok (.areturn, 1) := by decide +kernel
theorem dJx4a65c_rangeCheckForAdd_d00df_0 : decode cJx4a65c_rangeCheckForAdd_d00df 0 = .ok (.iload_n 1, 1) := by decide +kernel
theorem dJx4a65c_rangeCheckForAdd_d00df_1 : decode cJx4a65c_rangeCheckForAdd_d00df 1 = .ok (.aload_n 0, 1) := by decide +kernel
theorem dJx4a65c_rangeCheckForAdd_d00df_2 : decode cJx4a65c_rangeCheckForAdd_d00df 2 = .ok (.getfield 48, 3) := by decide +kernel
theorem dJx4a65c_rangeCheckForAdd_d00df_5 : decode cJx4a65c_rangeCheckForAdd_d00df 5 = .ok (.if_icmp .gt 7, 3) := by decide +kernel
theorem dJx4a65c_rangeCheckForAdd_d00df_8 : decode cJx4a65c_rangeCheckForAdd_d00df 8 = .ok (.iload_n 1, 1) := by decide +kernel
theorem dJx4a65c_rangeCheckForAdd_d00df_9 : decode cJx4a65c_rangeCheckForAdd_d00df 9 = .ok (.ifCond .ge 16, 3) := by decide +kernel
theorem dJx4a65c_rangeCheckForAdd_d00df_12 : decode cJx4a65c_rangeCheckForAdd_d00df 12 = .ok (.new 187, 3) := by decide +kernel
theorem dJx4a65c_rangeCheckForAdd_d00df_15 : decode cJx4a65c_rangeCheckForAdd_d00df 15 = .ok (.dup, 1) := by decide +kernel
theorem dJx4a65c_rangeCheckForAdd_d00df_16 : decode cJx4a65c_rangeCheckForAdd_d00df 16 = .ok (.aload_n 0, 1) := by decide +kernel
theorem dJx4a65c_rangeCheckForAdd_d00df_17 : decode cJx4a65c_rangeCheckForAdd_d00df 17 = .ok (.iload_n 1, 1) := by decide +kernel
theorem dJx4a65c_rangeCheckForAdd_d00df_18 : decode cJx4a65c_rangeCheckForAdd_d00df 18 = .ok (.invokevirtual 198, 3) := by decide +kernel
theorem dJx4a65c_rangeCheckForAdd_d00df_21 : decode cJx4a65c_rangeCheckForAdd_d00df 21 = .ok (.invokespecial 193, 3) := by decide +kernel
theorem dJx4a65c_rangeCheckForAdd_d00df_24 : decode cJx4a65c_rangeCheckForAdd_d00df 24 = .ok (.athrow, 1) := by decide +kernel
theorem dJx4a65c_rangeCheckForAdd_d00df_25 : decode cJx4a65c_rangeCheckForAdd_d00df 25 = .ok (.return_, 1) := by decide +kernel
theorem dJ15_checkIndex_7cf53_0 : decode cJ15_checkIndex_7cf53 0 = .ok (.iload_n 0, 1) := by decide +kernel
theorem dJ15_checkIndex_7cf53_1 : decode cJ15_checkIndex_7cf53 1 = .ok (.iload_n 1, 1) := by decide +kernel
theorem dJ15_checkIndex_7cf53_2 : decode cJ15_checkIndex_7cf53 2 = .ok (.aconst_null, 1) := by decide +kernel
theorem dJ15_checkIndex_7cf53_3 : decode cJ15_checkIndex_7cf53 3 = .ok (.invokestatic 105, 3) := by decide +kernel
theorem dJ15_checkIndex_7cf53_6 : decode cJ15_checkIndex_7cf53 6 = .ok (.ireturn, 1) := by decide +kernel
theorem dJ3_checkIndex_8e157_0 : decode cJ3_checkIndex_8e157 0 = .ok (.iload_n 0, 1) := by decide +kernel
theorem dJ3_checkIndex_8e157_1 : decode cJ3_checkIndex_8e157 1 = .ok (.ifCond .lt 8, 3) := by decide +kernel
theorem dJ3_checkIndex_8e157_4 : decode cJ3_checkIndex_8e157 4 = .ok (.iload_n 0, 1) := by decide +kernel
theorem dJ3_checkIndex_8e157_5 : decode cJ3_checkIndex_8e157 5 = .ok (.iload_n 1, 1) := by decide +kernel
theorem dJ3_checkIndex_8e157_6 : decode cJ3_checkIndex_8e157 6 = .ok (.if_icmp .lt 10, 3) := by decide +kernel
theorem dJ3_checkIndex_8e157_9 : decode cJ3_checkIndex_8e157 9 = .ok (.aload_n 2, 1) := by decide +kernel
theorem dJ3_checkIndex_8e157_10 : decode cJ3_checkIndex_8e157 10 = .ok (.iload_n 0, 1) := by decide +kernel
theorem dJ3_checkIndex_8e157_11 : decode cJ3_checkIndex_8e157 11 = .ok (.iload_n 1, 1) := by decide +kernel
theorem dJ3_checkIndex_8e157_12 : decode cJ3_checkIndex_8e157 12 = .ok (.invokestatic 95, 3) := by decide +kernel
theorem dJ3_checkIndex_8e157_15 : decode cJ3_checkIndex_8e157 15 = .ok (.athrow, 1) := by decide +kernel
theorem dJ3_checkIndex_8e157_16 : decode cJ3_checkIndex_8e157 16 = .ok (.iload_n 0, 1) := by decide +kernel
theorem dJ3_checkIndex_8e157_17 : decode cJ3_checkIndex_8e157 17 = .ok (.ireturn, 1) := by decide +kernel
theorem dJ7_fill_53178_0 : decode cJ7_fill_53178 0 = .ok (.iconst 0, 1) := by decide +kernel
theorem dJ7_fill_53178_1 : decode cJ7_fill_53178 1 = .ok (.istore_n 2, 1) := by decide +kernel
theorem dJ7_fill_53178_2 : decode cJ7_fill_53178 2 = .ok (.aload_n 0, 1) := by decide +kernel
theorem dJ7_fill_53178_3 : decode cJ7_fill_53178 3 = .ok (.arraylength, 1) := by decide +kernel
theorem dJ7_fill_53178_4 : decode cJ7_fill_53178 4 = .ok (.istore_n 3, 1) := by decide +kernel
theorem dJ7_fill_53178_5 : decode cJ7_fill_53178 5 = .ok (.iload_n 2, 1) := by decide +kernel
theorem dJ7_fill_53178_6 : decode cJ7_fill_53178 6 = .ok (.iload_n 3, 1) := by decide +kernel
theorem dJ7_fill_53178_7 : decode cJ7_fill_53178 7 = .ok (.if_icmp .ge 13, 3) := by decide +kernel
theorem dJ7_fill_53178_10 : decode cJ7_fill_53178 10 = .ok (.aload_n 0, 1) := by decide +kernel
theorem dJ7_fill_53178_11 : decode cJ7_fill_53178 11 = .ok (.iload_n 2, 1) := by decide +kernel
theorem dJ7_fill_53178_12 : decode cJ7_fill_53178 12 = .ok (.iload_n 1, 1) := by decide +kernel
theorem dJ7_fill_53178_13 : decode cJ7_fill_53178 13 = .ok (.iastore, 1) := by decide +kernel
theorem dJ7_fill_53178_14 : decode cJ7_fill_53178 14 = .ok (.iinc 2 1, 3) := by decide +kernel
theorem dJ7_fill_53178_17 : decode cJ7_fill_53178 17 = .ok (.goto (-12), 3) := by decide +kernel
theorem dJ7_fill_53178_20 : decode cJ7_fill_53178 20 = .ok (.return_, 1) := by decide +kernel
theorem dJ7_copyOf_1904c_0 : decode cJ7_copyOf_1904c 0 = .ok (.aload_n 0, 1) := by decide +kernel
theorem dJ7_copyOf_1904c_1 : decode cJ7_copyOf_1904c 1 = .ok (.iload_n 1, 1) := by decide +kernel
theorem dJ7_copyOf_1904c_2 : decode cJ7_copyOf_1904c 2 = .ok (.aload_n 0, 1) := by decide +kernel
theorem dJ7_copyOf_1904c_3 : decode cJ7_copyOf_1904c 3 = .ok (.invokevirtual 86, 3) := by decide +kernel
theorem dJ7_copyOf_1904c_6 : decode cJ7_copyOf_1904c 6 = .ok (.invokestatic 300, 3) := by decide +kernel
theorem dJ7_copyOf_1904c_9 : decode cJ7_copyOf_1904c 9 = .ok (.areturn, 1) := by decide +kernel
theorem dJ7_copyOf_6403c_0 : decode cJ7_copyOf_6403c 0 = .ok (.aload_n 2, 1) := by decide +kernel
theorem dJ7_copyOf_6403c_1 : decode cJ7_copyOf_6403c 1 = .ok (.ldc 110, 2) := by decide +kernel
theorem dJ7_copyOf_6403c_3 : decode cJ7_copyOf_6403c 3 = .ok (.if_acmp .ne 10, 3) := by decide +kernel
theorem dJ7_copyOf_6403c_6 : decode cJ7_copyOf_6403c 6 = .ok (.iload_n 1, 1) := by decide +kernel
theorem dJ7_copyOf_6403c_7 : decode cJ7_copyOf_6403c 7 = .ok (.anewarray 2, 3) := by decide +kernel
theorem dJ7_copyOf_6403c_10 : decode cJ7_copyOf_6403c 10 = .ok (.goto 14, 3) := by decide +kernel
theorem dJ7_copyOf_6403c_13 : decode cJ7_copyOf_6403c 13 = .ok (.aload_n 2, 1) := by decide +kernel
theorem dJ7_copyOf_6403c_14 : decode cJ7_copyOf_6403c 14 = .ok (.invokevirtual 90, 3) := by decide +kernel
theorem dJ7_copyOf_6403c_17 : decode cJ7_copyOf_6403c 17 = .ok (.iload_n 1, 1) := by decide +kernel
theorem dJ7_copyOf_6403c_18 : decode cJ7_copyOf_6403c 18 = .ok (.invokestatic 95, 3) := by decide +kernel
theorem dJ7_copyOf_6403c_21 : decode cJ7_copyOf_6403c 21 = .ok (.checkcast 110, 3) := by decide +kernel
theorem dJ7_copyOf_6403c_24 : decode cJ7_copyOf_6403c 24 = .ok (.astore_n 3, 1) := by decide +kernel
theorem dJ7_copyOf_6403c_25 : decode cJ7_copyOf_6403c 25 = .ok (.aload_n 0, 1) := by decide +kernel
theorem dJ7_copyOf_6403c_26 : decode cJ7_copyOf_6403c 26 = .ok (.iconst 0, 1) := by decide +kernel
theorem dJ7_copyOf_6403c_27 : decode cJ7_copyOf_6403c 27 = .ok (.aload_n 3, 1) := by decide +kernel
theorem dJ7_copyOf_6403c_28 : decode cJ7_copyOf_6403c 28 = .ok (.iconst 0, 1) := by decide +kernel
theorem dJ7_copyOf_6403c_29 : decode cJ7_copyOf_6403c 29 = .ok (.aload_n 0, 1) := by decide +kernel
theorem dJ7_copyOf_6403c_30 : decode cJ7_copyOf_6403c 30 = .ok (.arraylength, 1) := by decide +kernel
theorem dJ7_copyOf_6403c_31 : decode cJ7_copyOf_6403c 31 = .ok (.iload_n 1, 1) := by decide +kernel
theorem dJ7_copyOf_6403c_32 : decode cJ7_copyOf_6403c 32 = .ok (.invokestatic 304, 3) := by decide +kernel
theorem dJ7_copyOf_6403c_35 : decode cJ7_copyOf_6403c 35 = .ok (.invokestatic 150, 3) := by decide +kernel
theorem dJ7_copyOf_6403c_38 : decode cJ7_copyOf_6403c 38 = .ok (.aload_n 3, 1) := by decide +kernel
theorem dJ7_copyOf_6403c_39 : decode cJ7_copyOf_6403c 39 = .ok (.areturn, 1) := by decide +kernel
theorem dJ8_newLength_cabcc_0 : decode cJ8_newLength_cabcc 0 = .ok (.iload_n 0, 1) := by decide +kernel
theorem dJ8_newLength_cabcc_1 : decode cJ8_newLength_cabcc 1 = .ok (.iload_n 1, 1) := by decide +kernel
theorem dJ8_newLength_cabcc_2 : decode cJ8_newLength_cabcc 2 = .ok (.iload_n 2, 1) := by decide +kernel
theorem dJ8_newLength_cabcc_3 : decode cJ8_newLength_cabcc 3 = .ok (.invokestatic 194, 3) := by decide +kernel
theorem dJ8_newLength_cabcc_6 : decode cJ8_newLength_cabcc 6 = .ok (.iadd, 1) := by decide +kernel
theorem dJ8_newLength_cabcc_7 : decode cJ8_newLength_cabcc 7 = .ok (.istore_n 3, 1) := by decide +kernel
theorem dJ8_newLength_cabcc_8 : decode cJ8_newLength_cabcc 8 = .ok (.iconst 0, 1) := by decide +kernel
theorem dJ8_newLength_cabcc_9 : decode cJ8_newLength_cabcc 9 = .ok (.iload_n 3, 1) := by decide +kernel
theorem dJ8_newLength_cabcc_10 : decode cJ8_newLength_cabcc 10 = .ok (.if_icmp .ge 11, 3) := by decide +kernel
theorem dJ8_newLength_cabcc_13 : decode cJ8_newLength_cabcc 13 = .ok (.iload_n 3, 1) := by decide +kernel
theorem dJ8_newLength_cabcc_14 : decode cJ8_newLength_cabcc 14 = .ok (.ldc 200, 2) := by decide +kernel
theorem dJ8_newLength_cabcc_16 : decode cJ8_newLength_cabcc 16 = .ok (.if_icmp .gt 5, 3) := by decide +kernel
theorem dJ8_newLength_cabcc_19 : decode cJ8_newLength_cabcc 19 = .ok (.iload_n 3, 1) := by decide +kernel
theorem dJ8_newLength_cabcc_20 : decode cJ8_newLength_cabcc 20 = .ok (.ireturn, 1) := by decide +kernel
theorem dJ8_newLength_cabcc_21 : decode cJ8_newLength_cabcc 21 = .ok (.iload_n 0, 1) := by decide +kernel
theorem dJ8_newLength_cabcc_22 : decode cJ8_newLength_cabcc 22 = .ok (.iload_n 1, 1) := by decide +kernel
theorem dJ8_newLength_cabcc_23 : decode cJ8_newLength_cabcc 23 = .ok (.invokestatic 201, 3) := by decide +kernel
theorem dJ8_newLength_cabcc_26 : decode cJ8_newLength_cabcc 26 = .ok (.ireturn, 1) := by decide +kernel
