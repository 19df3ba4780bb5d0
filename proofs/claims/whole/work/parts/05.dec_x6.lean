theorem dX6_init_0 : decode cX6_init 0 = .ok (.aload_n 0, 1) := by decide +kernel
theorem dX6_init_1 : decode cX6_init 1 = .ok (.invokespecial 1, 3) := by decide +kernel
theorem dX6_init_4 : decode cX6_init 4 = .ok (.aload_n 0, 1) := by decide +kernel
theorem dX6_init_5 : decode cX6_init 5 = .ok (.new 7, 3) := by decide +kernel
theorem dX6_init_8 : decode cX6_init 8 = .ok (.dup, 1) := by decide +kernel
theorem dX6_init_9 : decode cX6_init 9 = .ok (.invokespecial 9, 3) := by decide +kernel
theorem dX6_init_12 : decode cX6_init 12 = .ok (.putfield 10, 3) := by decide +kernel
theorem dX6_init_15 : decode cX6_init 15 = .ok (.aload_n 0, 1) := by decide +kernel
theorem dX6_init_16 : decode cX6_init 16 = .ok (.new 7, 3) := by decide +kernel
theorem dX6_init_19 : decode cX6_init 19 = .ok (.dup, 1) := by decide +kernel
theorem dX6_init_20 : decode cX6_init 20 = .ok (.invokespecial 9, 3) := by decide +kernel
theorem dX6_init_23 : decode cX6_init 23 = .ok (.putfield 16, 3) := by decide +kernel
theorem dX6_init_26 : decode cX6_init 26 = .ok (.aload_n 0, 1) := by decide +kernel
theorem dX6_init_27 : decode cX6_init 27 = .ok (.iconst 0, 1) := by decide +kernel
theorem dX6_init_28 : decode cX6_init 28 = .ok (.putfield 19, 3) := by decide +kernel
theorem dX6_init_31 : decode cX6_init 31 = .ok (.aload_n 0, 1) := by decide +kernel
theorem dX6_init_32 : decode cX6_init 32 = .ok (.new 7, 3) := by decide +kernel
theorem dX6_init_35 : decode cX6_init 35 = .ok (.dup, 1) := by decide +kernel
theorem dX6_init_36 : decode cX6_init 36 = .ok (.invokespecial 9, 3) := by decide +kernel
theorem dX6_init_39 : decode cX6_init 39 = .ok (.putfield 23, 3) := by decide +kernel
theorem dX6_init_42 : decode cX6_init 42 = .ok (.aload_n 0, 1) := by decide +kernel
theorem dX6_init_43 : decode cX6_init 43 = .ok (.new 26, 3) := by decide +kernel
theorem dX6_init_46 : decode cX6_init 46 = .ok (.dup, 1) := by decide +kernel
theorem dX6_init_47 : decode cX6_init 47 = .ok (.invokespecial 28, 3) := by decide +kernel
theorem dX6_init_50 : decode cX6_init 50 = .ok (.putfield 29, 3) := by decide +kernel
theorem dX6_init_53 : decode cX6_init 53 = .ok (.aload_n 0, 1) := by decide +kernel
theorem dX6_init_54 : decode cX6_init 54 = .ok (.new 33, 3) := by decide +kernel
theorem dX6_init_57 : decode cX6_init 57 = .ok (.dup, 1) := by decide +kernel
theorem dX6_init_58 : decode cX6_init 58 = .ok (.aload_n 0, 1) := by decide +kernel
theorem dX6_init_59 : decode cX6_init 59 = .ok (.getfield 29, 3) := by decide +kernel
theorem dX6_init_62 : decode cX6_init 62 = .ok (.invokespecial 35, 3) := by decide +kernel
theorem dX6_init_65 : decode cX6_init 65 = .ok (.putfield 38, 3) := by decide +kernel
theorem dX6_init_68 : decode cX6_init 68 = .ok (.aload_n 0, 1) := by decide +kernel
theorem dX6_init_69 : decode cX6_init 69 = .ok (.iconst 4, 1) := by decide +kernel
theorem dX6_init_70 : decode cX6_init 70 = .ok (.anewarray 42, 3) := by decide +kernel
theorem dX6_init_73 : decode cX6_init 73 = .ok (.putfield 44, 3) := by decide +kernel
theorem dX6_init_76 : decode cX6_init 76 = .ok (.iconst 0, 1) := by decide +kernel
theorem dX6_init_77 : decode cX6_init 77 = .ok (.istore_n 1, 1) := by decide +kernel
theorem dX6_init_78 : decode cX6_init 78 = .ok (.iload_n 1, 1) := by decide +kernel
theorem dX6_init_79 : decode cX6_init 79 = .ok (.iconst 4, 1) := by decide +kernel
theorem dX6_init_80 : decode cX6_init 80 = .ok (.if_icmp .ge 22, 3) := by decide +kernel
theorem dX6_init_83 : decode cX6_init 83 = .ok (.aload_n 0, 1) := by decide +kernel
theorem dX6_init_84 : decode cX6_init 84 = .ok (.getfield 44, 3) := by decide +kernel
theorem dX6_init_87 : decode cX6_init 87 = .ok (.iload_n 1, 1) := by decide +kernel
theorem dX6_init_88 : decode cX6_init 88 = .ok (.new 42, 3) := by decide +kernel
theorem dX6_init_91 : decode cX6_init 91 = .ok (.dup, 1) := by decide +kernel
theorem dX6_init_92 : decode cX6_init 92 = .ok (.invokespecial 48, 3) := by decide +kernel
theorem dX6_init_95 : decode cX6_init 95 = .ok (.aastore, 1) := by decide +kernel
theorem dX6_init_96 : decode cX6_init 96 = .ok (.iinc 1 1, 3) := by decide +kernel
theorem dX6_init_99 : decode cX6_init 99 = .ok (.goto (-21), 3) := by decide +kernel
theorem dX6_init_102 : decode cX6_init 102 = .ok (.aload_n 0, 1) := by decide +kernel
theorem dX6_init_103 : decode cX6_init 103 = .ok (.bipush 7, 2) := by decide +kernel
theorem dX6_init_105 : decode cX6_init 105 = .ok (.newarray .int, 2) := by decide +kernel
theorem dX6_init_107 : decode cX6_init 107 = .ok (.putfield 49, 3) := by decide +kernel
theorem dX6_init_110 : decode cX6_init 110 = .ok (.return_, 1) := by decide +kernel
theorem dX6_tune_0 : decode cX6_tune 0 = .ok (.iload_n 1, 1) := by decide +kernel
theorem dX6_tune_1 : decode cX6_tune 1 = .ok (.invokestatic 53, 3) := by decide +kernel
theorem dX6_tune_4 : decode cX6_tune 4 = .ok (.ifCond .eq 13, 3) := by decide +kernel
theorem dX6_tune_7 : decode cX6_tune 7 = .ok (.iload_n 2, 1) := by decide +kernel
theorem dX6_tune_8 : decode cX6_tune 8 = .ok (.iconst 0, 1) := by decide +kernel
theorem dX6_tune_9 : decode cX6_tune 9 = .ok (.bipush 12, 2) := by decide +kernel
theorem dX6_tune_11 : decode cX6_tune 11 = .ok (.invokestatic 57, 3) := by decide +kernel
theorem dX6_tune_14 : decode cX6_tune 14 = .ok (.ifCond .ne 10, 3) := by decide +kernel
theorem dX6_tune_17 : decode cX6_tune 17 = .ok (.aload_n 0, 1) := by decide +kernel
theorem dX6_tune_18 : decode cX6_tune 18 = .ok (.ldc 61, 2) := by decide +kernel
theorem dX6_tune_20 : decode cX6_tune 20 = .ok (.invokevirtual 62, 3) := by decide +kernel
theorem dX6_tune_23 : decode cX6_tune 23 = .ok (.ireturn, 1) := by decide +kernel
theorem dX6_tune_24 : decode cX6_tune 24 = .ok (.aload_n 0, 1) := by decide +kernel
theorem dX6_tune_25 : decode cX6_tune 25 = .ok (.getfield 10, 3) := by decide +kernel
theorem dX6_tune_28 : decode cX6_tune 28 = .ok (.iload_n 1, 1) := by decide +kernel
theorem dX6_tune_29 : decode cX6_tune 29 = .ok (.invokevirtual 66, 3) := by decide +kernel
theorem dX6_tune_32 : decode cX6_tune 32 = .ok (.astore 5, 2) := by decide +kernel
theorem dX6_tune_34 : decode cX6_tune 34 = .ok (.aload 5, 2) := by decide +kernel
theorem dX6_tune_36 : decode cX6_tune 36 = .ok (.getfield 70, 3) := by decide +kernel
theorem dX6_tune_39 : decode cX6_tune 39 = .ok (.istore 6, 2) := by decide +kernel
theorem dX6_tune_41 : decode cX6_tune 41 = .ok (.aload 5, 2) := by decide +kernel
theorem dX6_tune_43 : decode cX6_tune 43 = .ok (.invokevirtual 76, 3) := by decide +kernel
theorem dX6_tune_46 : decode cX6_tune 46 = .ok (.iconst 0, 1) := by decide +kernel
theorem dX6_tune_47 : decode cX6_tune 47 = .ok (.istore 7, 2) := by decide +kernel
theorem dX6_tune_49 : decode cX6_tune 49 = .ok (.iload 7, 2) := by decide +kernel
theorem dX6_tune_51 : decode cX6_tune 51 = .ok (.iload_n 2, 1) := by decide +kernel
theorem dX6_tune_52 : decode cX6_tune 52 = .ok (.if_icmp .ge 32, 3) := by decide +kernel
theorem dX6_tune_55 : decode cX6_tune 55 = .ok (.lload_n 3, 1) := by decide +kernel
theorem dX6_tune_56 : decode cX6_tune 56 = .ok (.iconst 4, 1) := by decide +kernel
theorem dX6_tune_57 : decode cX6_tune 57 = .ok (.iload 7, 2) := by decide +kernel
theorem dX6_tune_59 : decode cX6_tune 59 = .ok (.imul, 1) := by decide +kernel
theorem dX6_tune_60 : decode cX6_tune 60 = .ok (.lushr, 1) := by decide +kernel
theorem dX6_tune_61 : decode cX6_tune 61 = .ok (.ldc2_w 79, 3) := by decide +kernel
theorem dX6_tune_64 : decode cX6_tune 64 = .ok (.land, 1) := by decide +kernel
theorem dX6_tune_65 : decode cX6_tune 65 = .ok (.l2i, 1) := by decide +kernel
theorem dX6_tune_66 : decode cX6_tune 66 = .ok (.istore 8, 2) := by decide +kernel
theorem dX6_tune_68 : decode cX6_tune 68 = .ok (.aload 5, 2) := by decide +kernel
theorem dX6_tune_70 : decode cX6_tune 70 = .ok (.iload 8, 2) := by decide +kernel
theorem dX6_tune_72 : decode cX6_tune 72 = .ok (.bipush 12, 2) := by decide +kernel
theorem dX6_tune_74 : decode cX6_tune 74 = .ok (.irem, 1) := by decide +kernel
theorem dX6_tune_75 : decode cX6_tune 75 = .ok (.invokevirtual 81, 3) := by decide +kernel
theorem dX6_tune_78 : decode cX6_tune 78 = .ok (.iinc 7 1, 3) := by decide +kernel
theorem dX6_tune_81 : decode cX6_tune 81 = .ok (.goto (-32), 3) := by decide +kernel
theorem dX6_tune_84 : decode cX6_tune 84 = .ok (.iload 6, 2) := by decide +kernel
theorem dX6_tune_86 : decode cX6_tune 86 = .ok (.ireturn, 1) := by decide +kernel
theorem dX6_tone_0 : decode cX6_tone 0 = .ok (.iload_n 1, 1) := by decide +kernel
theorem dX6_tone_1 : decode cX6_tone 1 = .ok (.invokestatic 53, 3) := by decide +kernel
theorem dX6_tone_4 : decode cX6_tone 4 = .ok (.ifCond .eq 7, 3) := by decide +kernel
theorem dX6_tone_7 : decode cX6_tone 7 = .ok (.iload_n 2, 1) := by decide +kernel
theorem dX6_tone_8 : decode cX6_tone 8 = .ok (.ifCond .ge 10, 3) := by decide +kernel
theorem dX6_tone_11 : decode cX6_tone 11 = .ok (.aload_n 0, 1) := by decide +kernel
theorem dX6_tone_12 : decode cX6_tone 12 = .ok (.ldc 61, 2) := by decide +kernel
theorem dX6_tone_14 : decode cX6_tone 14 = .ok (.invokevirtual 62, 3) := by decide +kernel
theorem dX6_tone_17 : decode cX6_tone 17 = .ok (.ireturn, 1) := by decide +kernel
theorem dX6_tone_18 : decode cX6_tone 18 = .ok (.aload_n 0, 1) := by decide +kernel
theorem dX6_tone_19 : decode cX6_tone 19 = .ok (.aload_n 0, 1) := by decide +kernel
theorem dX6_tone_20 : decode cX6_tone 20 = .ok (.getfield 10, 3) := by decide +kernel
theorem dX6_tone_23 : decode cX6_tone 23 = .ok (.iload_n 1, 1) := by decide +kernel
theorem dX6_tone_24 : decode cX6_tone 24 = .ok (.invokevirtual 66, 3) := by decide +kernel
theorem dX6_tone_27 : decode cX6_tone 27 = .ok (.iload_n 2, 1) := by decide +kernel
theorem dX6_tone_28 : decode cX6_tone 28 = .ok (.invokevirtual 85, 3) := by decide +kernel
theorem dX6_tone_31 : decode cX6_tone 31 = .ok (.ireturn, 1) := by decide +kernel
theorem dX6_side_0 : decode cX6_side 0 = .ok (.iload_n 1, 1) := by decide +kernel
theorem dX6_side_1 : decode cX6_side 1 = .ok (.invokestatic 53, 3) := by decide +kernel
theorem dX6_side_4 : decode cX6_side 4 = .ok (.ifCond .ne 10, 3) := by decide +kernel
theorem dX6_side_7 : decode cX6_side 7 = .ok (.aload_n 0, 1) := by decide +kernel
theorem dX6_side_8 : decode cX6_side 8 = .ok (.ldc 61, 2) := by decide +kernel
theorem dX6_side_10 : decode cX6_side 10 = .ok (.invokevirtual 62, 3) := by decide +kernel
theorem dX6_side_13 : decode cX6_side 13 = .ok (.ireturn, 1) := by decide +kernel
theorem dX6_side_14 : decode cX6_side 14 = .ok (.aload_n 0, 1) := by decide +kernel
theorem dX6_side_15 : decode cX6_side 15 = .ok (.getfield 10, 3) := by decide +kernel
theorem dX6_side_18 : decode cX6_side 18 = .ok (.iload_n 1, 1) := by decide +kernel
theorem dX6_side_19 : decode cX6_side 19 = .ok (.invokevirtual 66, 3) := by decide +kernel
theorem dX6_side_22 : decode cX6_side 22 = .ok (.astore_n 3, 1) := by decide +kernel
theorem dX6_side_23 : decode cX6_side 23 = .ok (.iload_n 2, 1) := by decide +kernel
theorem dX6_side_24 : decode cX6_side 24 = .ok (.tableswitch 73 0 4 #[36, 41, 46, 59, 64], 36) := by decide +kernel
theorem dX6_side_60 : decode cX6_side 60 = .ok (.aload_n 3, 1) := by decide +kernel
theorem dX6_side_61 : decode cX6_side 61 = .ok (.getfield 70, 3) := by decide +kernel
theorem dX6_side_64 : decode cX6_side 64 = .ok (.ireturn, 1) := by decide +kernel
theorem dX6_side_65 : decode cX6_side 65 = .ok (.aload_n 3, 1) := by decide +kernel
theorem dX6_side_66 : decode cX6_side 66 = .ok (.invokevirtual 89, 3) := by decide +kernel
theorem dX6_side_69 : decode cX6_side 69 = .ok (.ireturn, 1) := by decide +kernel
theorem dX6_side_70 : decode cX6_side 70 = .ok (.aload_n 3, 1) := by decide +kernel
theorem dX6_side_71 : decode cX6_side 71 = .ok (.invokevirtual 93, 3) := by decide +kernel
theorem dX6_side_74 : decode cX6_side 74 = .ok (.ifCond .eq 7, 3) := by decide +kernel
theorem dX6_side_77 : decode cX6_side 77 = .ok (.iconst 1, 1) := by decide +kernel
theorem dX6_side_78 : decode cX6_side 78 = .ok (.goto 4, 3) := by decide +kernel
theorem dX6_side_81 : decode cX6_side 81 = .ok (.iconst 0, 1) := by decide +kernel
theorem dX6_side_82 : decode cX6_side 82 = .ok (.ireturn, 1) := by decide +kernel
theorem dX6_side_83 : decode cX6_side 83 = .ok (.aload_n 3, 1) := by decide +kernel
theorem dX6_side_84 : decode cX6_side 84 = .ok (.invokevirtual 97, 3) := by decide +kernel
theorem dX6_side_87 : decode cX6_side 87 = .ok (.ireturn, 1) := by decide +kernel
theorem dX6_side_88 : decode cX6_side 88 = .ok (.aload_n 0, 1) := by decide +kernel
theorem dX6_side_89 : decode cX6_side 89 = .ok (.getfield 10, 3) := by decide +kernel
theorem dX6_side_92 : decode cX6_side 92 = .ok (.iload_n 1, 1) := by decide +kernel
theorem dX6_side_93 : decode cX6_side 93 = .ok (.invokevirtual 100, 3) := by decide +kernel
theorem dX6_side_96 : decode cX6_side 96 = .ok (.ireturn, 1) := by decide +kernel
theorem dX6_side_97 : decode cX6_side 97 = .ok (.aload_n 0, 1) := by decide +kernel
theorem dX6_side_98 : decode cX6_side 98 = .ok (.ldc 61, 2) := by decide +kernel
theorem dX6_side_100 : decode cX6_side 100 = .ok (.invokevirtual 62, 3) := by decide +kernel
theorem dX6_side_103 : decode cX6_side 103 = .ok (.ireturn, 1) := by decide +kernel
theorem dX6_attache_0 : decode cX6_attache 0 = .ok (.iload_n 1, 1) := by decide +kernel
theorem dX6_attache_1 : decode cX6_attache 1 = .ok (.invokestatic 103, 3) := by decide +kernel
theorem dX6_attache_4 : decode cX6_attache 4 = .ok (.ifCond .eq 10, 3) := by decide +kernel
theorem dX6_attache_7 : decode cX6_attache 7 = .ok (.iload_n 2, 1) := by decide +kernel
theorem dX6_attache_8 : decode cX6_attache 8 = .ok (.invokestatic 53, 3) := by decide +kernel
theorem dX6_attache_11 : decode cX6_attache 11 = .ok (.ifCond .ne 10, 3) := by decide +kernel
theorem dX6_attache_14 : decode cX6_attache 14 = .ok (.aload_n 0, 1) := by decide +kernel
theorem dX6_attache_15 : decode cX6_attache 15 = .ok (.ldc 61, 2) := by decide +kernel
theorem dX6_attache_17 : decode cX6_attache 17 = .ok (.invokevirtual 62, 3) := by decide +kernel
theorem dX6_attache_20 : decode cX6_attache 20 = .ok (.ireturn, 1) := by decide +kernel
theorem dX6_attache_21 : decode cX6_attache 21 = .ok (.aload_n 0, 1) := by decide +kernel
theorem dX6_attache_22 : decode cX6_attache 22 = .ok (.getfield 10, 3) := by decide +kernel
theorem dX6_attache_25 : decode cX6_attache 25 = .ok (.invokevirtual 106, 3) := by decide +kernel
theorem dX6_attache_28 : decode cX6_attache 28 = .ok (.ifCond .eq 10, 3) := by decide +kernel
theorem dX6_attache_31 : decode cX6_attache 31 = .ok (.aload_n 0, 1) := by decide +kernel
theorem dX6_attache_32 : decode cX6_attache 32 = .ok (.ldc 109, 2) := by decide +kernel
theorem dX6_attache_34 : decode cX6_attache 34 = .ok (.invokevirtual 62, 3) := by decide +kernel
theorem dX6_attache_37 : decode cX6_attache 37 = .ok (.ireturn, 1) := by decide +kernel
theorem dX6_attache_38 : decode cX6_attache 38 = .ok (.aload_n 0, 1) := by decide +kernel
theorem dX6_attache_39 : decode cX6_attache 39 = .ok (.getfield 10, 3) := by decide +kernel
theorem dX6_attache_42 : decode cX6_attache 42 = .ok (.getfield 110, 3) := by decide +kernel
theorem dX6_attache_45 : decode cX6_attache 45 = .ok (.istore_n 3, 1) := by decide +kernel
theorem dX6_attache_46 : decode cX6_attache 46 = .ok (.aload_n 0, 1) := by decide +kernel
theorem dX6_attache_47 : decode cX6_attache 47 = .ok (.getfield 10, 3) := by decide +kernel
theorem dX6_attache_50 : decode cX6_attache 50 = .ok (.iload_n 1, 1) := by decide +kernel
theorem dX6_attache_51 : decode cX6_attache 51 = .ok (.iload_n 2, 1) := by decide +kernel
theorem dX6_attache_52 : decode cX6_attache 52 = .ok (.iconst 0, 1) := by decide +kernel
theorem dX6_attache_53 : decode cX6_attache 53 = .ok (.iconst 0, 1) := by decide +kernel
theorem dX6_attache_54 : decode cX6_attache 54 = .ok (.invokevirtual 113, 3) := by decide +kernel
theorem dX6_attache_57 : decode cX6_attache 57 = .ok (.iload_n 3, 1) := by decide +kernel
theorem dX6_attache_58 : decode cX6_attache 58 = .ok (.ireturn, 1) := by decide +kernel
theorem dX6_of_0 : decode cX6_of 0 = .ok (.aload_n 0, 1) := by decide +kernel
theorem dX6_of_1 : decode cX6_of 1 = .ok (.getfield 10, 3) := by decide +kernel
theorem dX6_of_4 : decode cX6_of 4 = .ok (.iload_n 1, 1) := by decide +kernel
theorem dX6_of_5 : decode cX6_of 5 = .ok (.invokevirtual 117, 3) := by decide +kernel
theorem dX6_of_8 : decode cX6_of 8 = .ok (.ifCond .ne 10, 3) := by decide +kernel
theorem dX6_of_11 : decode cX6_of 11 = .ok (.aload_n 0, 1) := by decide +kernel
theorem dX6_of_12 : decode cX6_of 12 = .ok (.ldc 61, 2) := by decide +kernel
theorem dX6_of_14 : decode cX6_of 14 = .ok (.invokevirtual 62, 3) := by decide +kernel
theorem dX6_of_17 : decode cX6_of 17 = .ok (.ireturn, 1) := by decide +kernel
theorem dX6_of_18 : decode cX6_of 18 = .ok (.aload_n 0, 1) := by decide +kernel
theorem dX6_of_19 : decode cX6_of 19 = .ok (.getfield 10, 3) := by decide +kernel
theorem dX6_of_22 : decode cX6_of 22 = .ok (.getfield 120, 3) := by decide +kernel
theorem dX6_of_25 : decode cX6_of 25 = .ok (.iload_n 1, 1) := by decide +kernel
theorem dX6_of_26 : decode cX6_of 26 = .ok (.aaload, 1) := by decide +kernel
theorem dX6_of_27 : decode cX6_of 27 = .ok (.astore_n 3, 1) := by decide +kernel
theorem dX6_of_28 : decode cX6_of 28 = .ok (.iload_n 2, 1) := by decide +kernel
theorem dX6_of_29 : decode cX6_of 29 = .ok (.tableswitch 77 0 5 #[39, 44, 49, 54, 59, 64], 39) := by decide +kernel
theorem dX6_of_68 : decode cX6_of 68 = .ok (.aload_n 3, 1) := by decide +kernel
theorem dX6_of_69 : decode cX6_of 69 = .ok (.getfield 124, 3) := by decide +kernel
theorem dX6_of_72 : decode cX6_of 72 = .ok (.ireturn, 1) := by decide +kernel
theorem dX6_of_73 : decode cX6_of 73 = .ok (.aload_n 3, 1) := by decide +kernel
theorem dX6_of_74 : decode cX6_of 74 = .ok (.getfield 129, 3) := by decide +kernel
theorem dX6_of_77 : decode cX6_of 77 = .ok (.ireturn, 1) := by decide +kernel
theorem dX6_of_78 : decode cX6_of 78 = .ok (.aload_n 3, 1) := by decide +kernel
theorem dX6_of_79 : decode cX6_of 79 = .ok (.getfield 132, 3) := by decide +kernel
theorem dX6_of_82 : decode cX6_of 82 = .ok (.ireturn, 1) := by decide +kernel
theorem dX6_of_83 : decode cX6_of 83 = .ok (.aload_n 3, 1) := by decide +kernel
theorem dX6_of_84 : decode cX6_of 84 = .ok (.getfield 135, 3) := by decide +kernel
theorem dX6_of_87 : decode cX6_of 87 = .ok (.ireturn, 1) := by decide +kernel
theorem dX6_of_88 : decode cX6_of 88 = .ok (.aload_n 3, 1) := by decide +kernel
theorem dX6_of_89 : decode cX6_of 89 = .ok (.getfield 138, 3) := by decide +kernel
theorem dX6_of_92 : decode cX6_of 92 = .ok (.ireturn, 1) := by decide +kernel
theorem dX6_of_93 : decode cX6_of 93 = .ok (.aload_n 3, 1) := by decide +kernel
theorem dX6_of_94 : decode cX6_of 94 = .ok (.aload_n 0, 1) := by decide +kernel
theorem dX6_of_95 : decode cX6_of 95 = .ok (.getfield 10, 3) := by decide +kernel
theorem dX6_of_98 : decode cX6_of 98 = .ok (.aload_n 3, 1) := by decide +kernel
theorem dX6_of_99 : decode cX6_of 99 = .ok (.invokevirtual 141, 3) := by decide +kernel
theorem dX6_of_102 : decode cX6_of 102 = .ok (.invokevirtual 145, 3) := by decide +kernel
theorem dX6_of_105 : decode cX6_of 105 = .ok (.ireturn, 1) := by decide +kernel
theorem dX6_of_106 : decode cX6_of 106 = .ok (.aload_n 0, 1) := by decide +kernel
theorem dX6_of_107 : decode cX6_of 107 = .ok (.ldc 61, 2) := by decide +kernel
theorem dX6_of_109 : decode cX6_of 109 = .ok (.invokevirtual 62, 3) := by decide +kernel
theorem dX6_of_112 : decode cX6_of 112 = .ok (.ireturn, 1) := by decide +kernel
theorem dX6_answer_0 : decode cX6_answer 0 = .ok (.aload_n 0, 1) := by decide +kernel
theorem dX6_answer_1 : decode cX6_answer 1 = .ok (.getfield 10, 3) := by decide +kernel
theorem dX6_answer_4 : decode cX6_answer 4 = .ok (.iload_n 1, 1) := by decide +kernel
theorem dX6_answer_5 : decode cX6_answer 5 = .ok (.invokevirtual 117, 3) := by decide +kernel
theorem dX6_answer_8 : decode cX6_answer 8 = .ok (.ifCond .eq 7, 3) := by decide +kernel
theorem dX6_answer_11 : decode cX6_answer 11 = .ok (.iload_n 2, 1) := by decide +kernel
theorem dX6_answer_12 : decode cX6_answer 12 = .ok (.ifCond .ge 10, 3) := by decide +kernel
theorem dX6_answer_15 : decode cX6_answer 15 = .ok (.aload_n 0, 1) := by decide +kernel
theorem dX6_answer_16 : decode cX6_answer 16 = .ok (.ldc 61, 2) := by decide +kernel
theorem dX6_answer_18 : decode cX6_answer 18 = .ok (.invokevirtual 62, 3) := by decide +kernel
theorem dX6_answer_21 : decode cX6_answer 21 = .ok (.ireturn, 1) := by decide +kernel
theorem dX6_answer_22 : decode cX6_answer 22 = .ok (.aload_n 0, 1) := by decide +kernel
theorem dX6_answer_23 : decode cX6_answer 23 = .ok (.getfield 10, 3) := by decide +kernel
theorem dX6_answer_26 : decode cX6_answer 26 = .ok (.getfield 120, 3) := by decide +kernel
theorem dX6_answer_29 : decode cX6_answer 29 = .ok (.iload_n 1, 1) := by decide +kernel
theorem dX6_answer_30 : decode cX6_answer 30 = .ok (.aaload, 1) := by decide +kernel
theorem dX6_answer_31 : decode cX6_answer 31 = .ok (.astore_n 3, 1) := by decide +kernel
theorem dX6_answer_32 : decode cX6_answer 32 = .ok (.aload_n 0, 1) := by decide +kernel
theorem dX6_answer_33 : decode cX6_answer 33 = .ok (.getfield 10, 3) := by decide +kernel
theorem dX6_answer_36 : decode cX6_answer 36 = .ok (.aload_n 3, 1) := by decide +kernel
theorem dX6_answer_37 : decode cX6_answer 37 = .ok (.invokevirtual 141, 3) := by decide +kernel
theorem dX6_answer_40 : decode cX6_answer 40 = .ok (.astore 4, 2) := by decide +kernel
theorem dX6_answer_42 : decode cX6_answer 42 = .ok (.iload_n 2, 1) := by decide +kernel
theorem dX6_answer_43 : decode cX6_answer 43 = .ok (.aload_n 3, 1) := by decide +kernel
theorem dX6_answer_44 : decode cX6_answer 44 = .ok (.aload 4, 2) := by decide +kernel
theorem dX6_answer_46 : decode cX6_answer 46 = .ok (.invokevirtual 145, 3) := by decide +kernel
theorem dX6_answer_49 : decode cX6_answer 49 = .ok (.if_icmp .lt 10, 3) := by decide +kernel
theorem dX6_answer_52 : decode cX6_answer 52 = .ok (.aload_n 0, 1) := by decide +kernel
theorem dX6_answer_53 : decode cX6_answer 53 = .ok (.ldc 149, 2) := by decide +kernel
theorem dX6_answer_55 : decode cX6_answer 55 = .ok (.invokevirtual 62, 3) := by decide +kernel
theorem dX6_answer_58 : decode cX6_answer 58 = .ok (.ireturn, 1) := by decide +kernel
theorem dX6_answer_59 : decode cX6_answer 59 = .ok (.aload_n 3, 1) := by decide +kernel
theorem dX6_answer_60 : decode cX6_answer 60 = .ok (.aload 4, 2) := by decide +kernel
theorem dX6_answer_62 : decode cX6_answer 62 = .ok (.iload_n 2, 1) := by decide +kernel
theorem dX6_answer_63 : decode cX6_answer 63 = .ok (.invokevirtual 150, 3) := by decide +kernel
theorem dX6_answer_66 : decode cX6_answer 66 = .ok (.ireturn, 1) := by decide +kernel
theorem dX6_set_0 : decode cX6_set 0 = .ok (.aload_n 0, 1) := by decide +kernel
theorem dX6_set_1 : decode cX6_set 1 = .ok (.getfield 10, 3) := by decide +kernel
theorem dX6_set_4 : decode cX6_set 4 = .ok (.iload_n 1, 1) := by decide +kernel
theorem dX6_set_5 : decode cX6_set 5 = .ok (.invokevirtual 117, 3) := by decide +kernel
theorem dX6_set_8 : decode cX6_set 8 = .ok (.ifCond .eq 15, 3) := by decide +kernel
theorem dX6_set_11 : decode cX6_set 11 = .ok (.iload_n 3, 1) := by decide +kernel
theorem dX6_set_12 : decode cX6_set 12 = .ok (.iconst 0, 1) := by decide +kernel
theorem dX6_set_13 : decode cX6_set 13 = .ok (.iload_n 2, 1) := by decide +kernel
theorem dX6_set_14 : decode cX6_set 14 = .ok (.invokestatic 153, 3) := by decide +kernel
theorem dX6_set_17 : decode cX6_set 17 = .ok (.invokestatic 57, 3) := by decide +kernel
theorem dX6_set_20 : decode cX6_set 20 = .ok (.ifCond .ne 10, 3) := by decide +kernel
theorem dX6_set_23 : decode cX6_set 23 = .ok (.aload_n 0, 1) := by decide +kernel
theorem dX6_set_24 : decode cX6_set 24 = .ok (.ldc 61, 2) := by decide +kernel
theorem dX6_set_26 : decode cX6_set 26 = .ok (.invokevirtual 62, 3) := by decide +kernel
theorem dX6_set_29 : decode cX6_set 29 = .ok (.ireturn, 1) := by decide +kernel
theorem dX6_set_30 : decode cX6_set 30 = .ok (.aload_n 0, 1) := by decide +kernel
theorem dX6_set_31 : decode cX6_set 31 = .ok (.getfield 10, 3) := by decide +kernel
theorem dX6_set_34 : decode cX6_set 34 = .ok (.getfield 120, 3) := by decide +kernel
theorem dX6_set_37 : decode cX6_set 37 = .ok (.iload_n 1, 1) := by decide +kernel
theorem dX6_set_38 : decode cX6_set 38 = .ok (.aaload, 1) := by decide +kernel
theorem dX6_set_39 : decode cX6_set 39 = .ok (.astore 4, 2) := by decide +kernel
theorem dX6_set_41 : decode cX6_set 41 = .ok (.iload_n 2, 1) := by decide +kernel
theorem dX6_set_42 : decode cX6_set 42 = .ok (.tableswitch 74 1 3 #[26, 42, 58], 26) := by decide +kernel
theorem dX6_set_68 : decode cX6_set 68 = .ok (.aload 4, 2) := by decide +kernel
theorem dX6_set_70 : decode cX6_set 70 = .ok (.getfield 129, 3) := by decide +kernel
theorem dX6_set_73 : decode cX6_set 73 = .ok (.istore 5, 2) := by decide +kernel
theorem dX6_set_75 : decode cX6_set 75 = .ok (.aload 4, 2) := by decide +kernel
theorem dX6_set_77 : decode cX6_set 77 = .ok (.iload_n 3, 1) := by decide +kernel
theorem dX6_set_78 : decode cX6_set 78 = .ok (.putfield 129, 3) := by decide +kernel
theorem dX6_set_81 : decode cX6_set 81 = .ok (.iload 5, 2) := by decide +kernel
theorem dX6_set_83 : decode cX6_set 83 = .ok (.ireturn, 1) := by decide +kernel
theorem dX6_set_84 : decode cX6_set 84 = .ok (.aload 4, 2) := by decide +kernel
theorem dX6_set_86 : decode cX6_set 86 = .ok (.getfield 132, 3) := by decide +kernel
theorem dX6_set_89 : decode cX6_set 89 = .ok (.istore 5, 2) := by decide +kernel
theorem dX6_set_91 : decode cX6_set 91 = .ok (.aload 4, 2) := by decide +kernel
theorem dX6_set_93 : decode cX6_set 93 = .ok (.iload_n 3, 1) := by decide +kernel
theorem dX6_set_94 : decode cX6_set 94 = .ok (.putfield 132, 3) := by decide +kernel
theorem dX6_set_97 : decode cX6_set 97 = .ok (.iload 5, 2) := by decide +kernel
theorem dX6_set_99 : decode cX6_set 99 = .ok (.ireturn, 1) := by decide +kernel
theorem dX6_set_100 : decode cX6_set 100 = .ok (.aload 4, 2) := by decide +kernel
theorem dX6_set_102 : decode cX6_set 102 = .ok (.getfield 135, 3) := by decide +kernel
theorem dX6_set_105 : decode cX6_set 105 = .ok (.istore 5, 2) := by decide +kernel
theorem dX6_set_107 : decode cX6_set 107 = .ok (.aload 4, 2) := by decide +kernel
theorem dX6_set_109 : decode cX6_set 109 = .ok (.iload_n 3, 1) := by decide +kernel
theorem dX6_set_110 : decode cX6_set 110 = .ok (.putfield 135, 3) := by decide +kernel
theorem dX6_set_113 : decode cX6_set 113 = .ok (.iload 5, 2) := by decide +kernel
theorem dX6_set_115 : decode cX6_set 115 = .ok (.ireturn, 1) := by decide +kernel
theorem dX6_set_116 : decode cX6_set 116 = .ok (.aload 4, 2) := by decide +kernel
theorem dX6_set_118 : decode cX6_set 118 = .ok (.getfield 138, 3) := by decide +kernel
theorem dX6_set_121 : decode cX6_set 121 = .ok (.istore 5, 2) := by decide +kernel
theorem dX6_set_123 : decode cX6_set 123 = .ok (.aload 4, 2) := by decide +kernel
theorem dX6_set_125 : decode cX6_set 125 = .ok (.iload_n 3, 1) := by decide +kernel
theorem dX6_set_126 : decode cX6_set 126 = .ok (.putfield 138, 3) := by decide +kernel
theorem dX6_set_129 : decode cX6_set 129 = .ok (.iload 5, 2) := by decide +kernel
theorem dX6_set_131 : decode cX6_set 131 = .ok (.ireturn, 1) := by decide +kernel
theorem dX6_turn_0 : decode cX6_turn 0 = .ok (.aload_n 0, 1) := by decide +kernel
theorem dX6_turn_1 : decode cX6_turn 1 = .ok (.getfield 10, 3) := by decide +kernel
theorem dX6_turn_4 : decode cX6_turn 4 = .ok (.iload_n 1, 1) := by decide +kernel
theorem dX6_turn_5 : decode cX6_turn 5 = .ok (.invokevirtual 117, 3) := by decide +kernel
theorem dX6_turn_8 : decode cX6_turn 8 = .ok (.ifCond .eq 10, 3) := by decide +kernel
theorem dX6_turn_11 : decode cX6_turn 11 = .ok (.iload_n 2, 1) := by decide +kernel
theorem dX6_turn_12 : decode cX6_turn 12 = .ok (.invokestatic 103, 3) := by decide +kernel
theorem dX6_turn_15 : decode cX6_turn 15 = .ok (.ifCond .ne 10, 3) := by decide +kernel
theorem dX6_turn_18 : decode cX6_turn 18 = .ok (.aload_n 0, 1) := by decide +kernel
theorem dX6_turn_19 : decode cX6_turn 19 = .ok (.ldc 61, 2) := by decide +kernel
theorem dX6_turn_21 : decode cX6_turn 21 = .ok (.invokevirtual 62, 3) := by decide +kernel
theorem dX6_turn_24 : decode cX6_turn 24 = .ok (.ireturn, 1) := by decide +kernel
theorem dX6_turn_25 : decode cX6_turn 25 = .ok (.aload_n 0, 1) := by decide +kernel
theorem dX6_turn_26 : decode cX6_turn 26 = .ok (.getfield 10, 3) := by decide +kernel
theorem dX6_turn_29 : decode cX6_turn 29 = .ok (.getfield 120, 3) := by decide +kernel
theorem dX6_turn_32 : decode cX6_turn 32 = .ok (.iload_n 1, 1) := by decide +kernel
theorem dX6_turn_33 : decode cX6_turn 33 = .ok (.aaload, 1) := by decide +kernel
theorem dX6_turn_34 : decode cX6_turn 34 = .ok (.astore_n 3, 1) := by decide +kernel
theorem dX6_turn_35 : decode cX6_turn 35 = .ok (.aload_n 3, 1) := by decide +kernel
theorem dX6_turn_36 : decode cX6_turn 36 = .ok (.getfield 124, 3) := by decide +kernel
theorem dX6_turn_39 : decode cX6_turn 39 = .ok (.istore 4, 2) := by decide +kernel
theorem dX6_turn_41 : decode cX6_turn 41 = .ok (.aload_n 3, 1) := by decide +kernel
theorem dX6_turn_42 : decode cX6_turn 42 = .ok (.iload_n 2, 1) := by decide +kernel
theorem dX6_turn_43 : decode cX6_turn 43 = .ok (.putfield 124, 3) := by decide +kernel
theorem dX6_turn_46 : decode cX6_turn 46 = .ok (.iload 4, 2) := by decide +kernel
theorem dX6_turn_48 : decode cX6_turn 48 = .ok (.ireturn, 1) := by decide +kernel
theorem dX6_as_0 : decode cX6_as 0 = .ok (.aload_n 0, 1) := by decide +kernel
theorem dX6_as_1 : decode cX6_as 1 = .ok (.getfield 10, 3) := by decide +kernel
theorem dX6_as_4 : decode cX6_as 4 = .ok (.iload_n 1, 1) := by decide +kernel
theorem dX6_as_5 : decode cX6_as 5 = .ok (.invokevirtual 117, 3) := by decide +kernel
theorem dX6_as_8 : decode cX6_as 8 = .ok (.ifCond .eq 10, 3) := by decide +kernel
theorem dX6_as_11 : decode cX6_as 11 = .ok (.iload_n 2, 1) := by decide +kernel
theorem dX6_as_12 : decode cX6_as 12 = .ok (.invokestatic 103, 3) := by decide +kernel
theorem dX6_as_15 : decode cX6_as 15 = .ok (.ifCond .ne 10, 3) := by decide +kernel
theorem dX6_as_18 : decode cX6_as 18 = .ok (.aload_n 0, 1) := by decide +kernel
theorem dX6_as_19 : decode cX6_as 19 = .ok (.ldc 61, 2) := by decide +kernel
theorem dX6_as_21 : decode cX6_as 21 = .ok (.invokevirtual 62, 3) := by decide +kernel
theorem dX6_as_24 : decode cX6_as 24 = .ok (.ireturn, 1) := by decide +kernel
theorem dX6_as_25 : decode cX6_as 25 = .ok (.aload_n 0, 1) := by decide +kernel
theorem dX6_as_26 : decode cX6_as 26 = .ok (.getfield 10, 3) := by decide +kernel
theorem dX6_as_29 : decode cX6_as 29 = .ok (.getfield 120, 3) := by decide +kernel
theorem dX6_as_32 : decode cX6_as 32 = .ok (.iload_n 1, 1) := by decide +kernel
theorem dX6_as_33 : decode cX6_as 33 = .ok (.aaload, 1) := by decide +kernel
theorem dX6_as_34 : decode cX6_as 34 = .ok (.astore_n 3, 1) := by decide +kernel
theorem dX6_as_35 : decode cX6_as 35 = .ok (.aload_n 3, 1) := by decide +kernel
theorem dX6_as_36 : decode cX6_as 36 = .ok (.getfield 124, 3) := by decide +kernel
theorem dX6_as_39 : decode cX6_as 39 = .ok (.iload_n 2, 1) := by decide +kernel
theorem dX6_as_40 : decode cX6_as 40 = .ok (.invokestatic 156, 3) := by decide +kernel
theorem dX6_as_43 : decode cX6_as 43 = .ok (.ifCond .ne 10, 3) := by decide +kernel
theorem dX6_as_46 : decode cX6_as 46 = .ok (.aload_n 0, 1) := by decide +kernel
theorem dX6_as_47 : decode cX6_as 47 = .ok (.ldc 160, 2) := by decide +kernel
theorem dX6_as_49 : decode cX6_as 49 = .ok (.invokevirtual 62, 3) := by decide +kernel
theorem dX6_as_52 : decode cX6_as 52 = .ok (.ireturn, 1) := by decide +kernel
theorem dX6_as_53 : decode cX6_as 53 = .ok (.aload_n 3, 1) := by decide +kernel
theorem dX6_as_54 : decode cX6_as 54 = .ok (.getfield 132, 3) := by decide +kernel
theorem dX6_as_57 : decode cX6_as 57 = .ok (.ireturn, 1) := by decide +kernel
theorem dX6_days_0 : decode cX6_days 0 = .ok (.iload_n 1, 1) := by decide +kernel
theorem dX6_days_1 : decode cX6_days 1 = .ok (.iconst 1, 1) := by decide +kernel
theorem dX6_days_2 : decode cX6_days 2 = .ok (.bipush 60, 2) := by decide +kernel
theorem dX6_days_4 : decode cX6_days 4 = .ok (.invokestatic 57, 3) := by decide +kernel
theorem dX6_days_7 : decode cX6_days 7 = .ok (.ifCond .ne 10, 3) := by decide +kernel
theorem dX6_days_10 : decode cX6_days 10 = .ok (.aload_n 0, 1) := by decide +kernel
theorem dX6_days_11 : decode cX6_days 11 = .ok (.ldc 61, 2) := by decide +kernel
theorem dX6_days_13 : decode cX6_days 13 = .ok (.invokevirtual 62, 3) := by decide +kernel
theorem dX6_days_16 : decode cX6_days 16 = .ok (.ireturn, 1) := by decide +kernel
theorem dX6_days_17 : decode cX6_days 17 = .ok (.aload_n 0, 1) := by decide +kernel
theorem dX6_days_18 : decode cX6_days 18 = .ok (.getfield 10, 3) := by decide +kernel
theorem dX6_days_21 : decode cX6_days 21 = .ok (.getfield 161, 3) := by decide +kernel
theorem dX6_days_24 : decode cX6_days 24 = .ok (.iload_n 1, 1) := by decide +kernel
theorem dX6_days_25 : decode cX6_days 25 = .ok (.iadd, 1) := by decide +kernel
theorem dX6_days_26 : decode cX6_days 26 = .ok (.sipush 9999, 3) := by decide +kernel
theorem dX6_days_29 : decode cX6_days 29 = .ok (.if_icmp .le 10, 3) := by decide +kernel
theorem dX6_days_32 : decode cX6_days 32 = .ok (.aload_n 0, 1) := by decide +kernel
theorem dX6_days_33 : decode cX6_days 33 = .ok (.ldc 164, 2) := by decide +kernel
theorem dX6_days_35 : decode cX6_days 35 = .ok (.invokevirtual 62, 3) := by decide +kernel
theorem dX6_days_38 : decode cX6_days 38 = .ok (.ireturn, 1) := by decide +kernel
theorem dX6_days_39 : decode cX6_days 39 = .ok (.aload_n 0, 1) := by decide +kernel
theorem dX6_days_40 : decode cX6_days 40 = .ok (.getfield 10, 3) := by decide +kernel
theorem dX6_days_43 : decode cX6_days 43 = .ok (.iload_n 1, 1) := by decide +kernel
theorem dX6_days_44 : decode cX6_days 44 = .ok (.invokevirtual 165, 3) := by decide +kernel
theorem dX6_days_47 : decode cX6_days 47 = .ok (.aload_n 0, 1) := by decide +kernel
theorem dX6_days_48 : decode cX6_days 48 = .ok (.getfield 10, 3) := by decide +kernel
theorem dX6_days_51 : decode cX6_days 51 = .ok (.iconst 0, 1) := by decide +kernel
theorem dX6_days_52 : decode cX6_days 52 = .ok (.invokevirtual 66, 3) := by decide +kernel
theorem dX6_days_55 : decode cX6_days 55 = .ok (.invokevirtual 89, 3) := by decide +kernel
theorem dX6_days_58 : decode cX6_days 58 = .ok (.aload_n 0, 1) := by decide +kernel
theorem dX6_days_59 : decode cX6_days 59 = .ok (.getfield 10, 3) := by decide +kernel
theorem dX6_days_62 : decode cX6_days 62 = .ok (.iconst 1, 1) := by decide +kernel
theorem dX6_days_63 : decode cX6_days 63 = .ok (.invokevirtual 66, 3) := by decide +kernel
theorem dX6_days_66 : decode cX6_days 66 = .ok (.invokevirtual 89, 3) := by decide +kernel
theorem dX6_days_69 : decode cX6_days 69 = .ok (.iadd, 1) := by decide +kernel
theorem dX6_days_70 : decode cX6_days 70 = .ok (.ireturn, 1) := by decide +kernel
theorem dX6_now_0 : decode cX6_now 0 = .ok (.iload_n 1, 1) := by decide +kernel
theorem dX6_now_1 : decode cX6_now 1 = .ok (.tableswitch 107 0 5 #[39, 47, 55, 63, 71, 87], 39) := by decide +kernel
theorem dX6_now_40 : decode cX6_now 40 = .ok (.aload_n 0, 1) := by decide +kernel
theorem dX6_now_41 : decode cX6_now 41 = .ok (.getfield 10, 3) := by decide +kernel
theorem dX6_now_44 : decode cX6_now 44 = .ok (.getfield 161, 3) := by decide +kernel
theorem dX6_now_47 : decode cX6_now 47 = .ok (.ireturn, 1) := by decide +kernel
theorem dX6_now_48 : decode cX6_now 48 = .ok (.aload_n 0, 1) := by decide +kernel
theorem dX6_now_49 : decode cX6_now 49 = .ok (.getfield 10, 3) := by decide +kernel
theorem dX6_now_52 : decode cX6_now 52 = .ok (.invokevirtual 168, 3) := by decide +kernel
theorem dX6_now_55 : decode cX6_now 55 = .ok (.ireturn, 1) := by decide +kernel
theorem dX6_now_56 : decode cX6_now 56 = .ok (.aload_n 0, 1) := by decide +kernel
theorem dX6_now_57 : decode cX6_now 57 = .ok (.getfield 10, 3) := by decide +kernel
theorem dX6_now_60 : decode cX6_now 60 = .ok (.invokevirtual 171, 3) := by decide +kernel
theorem dX6_now_63 : decode cX6_now 63 = .ok (.ireturn, 1) := by decide +kernel
theorem dX6_now_64 : decode cX6_now 64 = .ok (.aload_n 0, 1) := by decide +kernel
theorem dX6_now_65 : decode cX6_now 65 = .ok (.getfield 10, 3) := by decide +kernel
theorem dX6_now_68 : decode cX6_now 68 = .ok (.invokevirtual 174, 3) := by decide +kernel
theorem dX6_now_71 : decode cX6_now 71 = .ok (.ireturn, 1) := by decide +kernel
theorem dX6_now_72 : decode cX6_now 72 = .ok (.aload_n 0, 1) := by decide +kernel
theorem dX6_now_73 : decode cX6_now 73 = .ok (.getfield 10, 3) := by decide +kernel
theorem dX6_now_76 : decode cX6_now 76 = .ok (.invokevirtual 177, 3) := by decide +kernel
theorem dX6_now_79 : decode cX6_now 79 = .ok (.ifCond .eq 7, 3) := by decide +kernel
theorem dX6_now_82 : decode cX6_now 82 = .ok (.iconst 1, 1) := by decide +kernel
theorem dX6_now_83 : decode cX6_now 83 = .ok (.goto 4, 3) := by decide +kernel
theorem dX6_now_86 : decode cX6_now 86 = .ok (.iconst 0, 1) := by decide +kernel
theorem dX6_now_87 : decode cX6_now 87 = .ok (.ireturn, 1) := by decide +kernel
theorem dX6_now_88 : decode cX6_now 88 = .ok (.aload_n 0, 1) := by decide +kernel
theorem dX6_now_89 : decode cX6_now 89 = .ok (.getfield 10, 3) := by decide +kernel
theorem dX6_now_92 : decode cX6_now 92 = .ok (.iconst 0, 1) := by decide +kernel
theorem dX6_now_93 : decode cX6_now 93 = .ok (.invokevirtual 66, 3) := by decide +kernel
theorem dX6_now_96 : decode cX6_now 96 = .ok (.aload_n 0, 1) := by decide +kernel
theorem dX6_now_97 : decode cX6_now 97 = .ok (.getfield 10, 3) := by decide +kernel
theorem dX6_now_100 : decode cX6_now 100 = .ok (.iconst 1, 1) := by decide +kernel
theorem dX6_now_101 : decode cX6_now 101 = .ok (.invokevirtual 66, 3) := by decide +kernel
theorem dX6_now_104 : decode cX6_now 104 = .ok (.invokevirtual 180, 3) := by decide +kernel
theorem dX6_now_107 : decode cX6_now 107 = .ok (.ireturn, 1) := by decide +kernel
theorem dX6_now_108 : decode cX6_now 108 = .ok (.aload_n 0, 1) := by decide +kernel
theorem dX6_now_109 : decode cX6_now 109 = .ok (.ldc 61, 2) := by decide +kernel
theorem dX6_now_111 : decode cX6_now 111 = .ok (.invokevirtual 62, 3) := by decide +kernel
theorem dX6_now_114 : decode cX6_now 114 = .ok (.ireturn, 1) := by decide +kernel
theorem dX6_on_0 : decode cX6_on 0 = .ok (.iload_n 1, 1) := by decide +kernel
theorem dX6_on_1 : decode cX6_on 1 = .ok (.invokestatic 53, 3) := by decide +kernel
theorem dX6_on_4 : decode cX6_on 4 = .ok (.ifCond .eq 23, 3) := by decide +kernel
theorem dX6_on_7 : decode cX6_on 7 = .ok (.iload_n 2, 1) := by decide +kernel
theorem dX6_on_8 : decode cX6_on 8 = .ok (.iconst 0, 1) := by decide +kernel
theorem dX6_on_9 : decode cX6_on 9 = .ok (.bipush 11, 2) := by decide +kernel
theorem dX6_on_11 : decode cX6_on 11 = .ok (.invokestatic 57, 3) := by decide +kernel
theorem dX6_on_14 : decode cX6_on 14 = .ok (.ifCond .eq 13, 3) := by decide +kernel
theorem dX6_on_17 : decode cX6_on 17 = .ok (.iload_n 3, 1) := by decide +kernel
theorem dX6_on_18 : decode cX6_on 18 = .ok (.iconst 0, 1) := by decide +kernel
theorem dX6_on_19 : decode cX6_on 19 = .ok (.bipush 60, 2) := by decide +kernel
theorem dX6_on_21 : decode cX6_on 21 = .ok (.invokestatic 57, 3) := by decide +kernel
theorem dX6_on_24 : decode cX6_on 24 = .ok (.ifCond .ne 10, 3) := by decide +kernel
theorem dX6_on_27 : decode cX6_on 27 = .ok (.aload_n 0, 1) := by decide +kernel
theorem dX6_on_28 : decode cX6_on 28 = .ok (.ldc 61, 2) := by decide +kernel
theorem dX6_on_30 : decode cX6_on 30 = .ok (.invokevirtual 62, 3) := by decide +kernel
theorem dX6_on_33 : decode cX6_on 33 = .ok (.ireturn, 1) := by decide +kernel
theorem dX6_on_34 : decode cX6_on 34 = .ok (.aload_n 0, 1) := by decide +kernel
theorem dX6_on_35 : decode cX6_on 35 = .ok (.invokevirtual 183, 3) := by decide +kernel
theorem dX6_on_38 : decode cX6_on 38 = .ok (.aload_n 0, 1) := by decide +kernel
theorem dX6_on_39 : decode cX6_on 39 = .ok (.getfield 23, 3) := by decide +kernel
theorem dX6_on_42 : decode cX6_on 42 = .ok (.iload_n 3, 1) := by decide +kernel
theorem dX6_on_43 : decode cX6_on 43 = .ok (.invokevirtual 165, 3) := by decide +kernel
theorem dX6_on_46 : decode cX6_on 46 = .ok (.aload_n 0, 1) := by decide +kernel
theorem dX6_on_47 : decode cX6_on 47 = .ok (.aload_n 0, 1) := by decide +kernel
theorem dX6_on_48 : decode cX6_on 48 = .ok (.getfield 23, 3) := by decide +kernel
theorem dX6_on_51 : decode cX6_on 51 = .ok (.iload_n 1, 1) := by decide +kernel
theorem dX6_on_52 : decode cX6_on 52 = .ok (.invokevirtual 66, 3) := by decide +kernel
theorem dX6_on_55 : decode cX6_on 55 = .ok (.iload_n 2, 1) := by decide +kernel
theorem dX6_on_56 : decode cX6_on 56 = .ok (.invokevirtual 85, 3) := by decide +kernel
theorem dX6_on_59 : decode cX6_on 59 = .ok (.ireturn, 1) := by decide +kernel
theorem dX6_tension_0 : decode cX6_tension 0 = .ok (.iload_n 1, 1) := by decide +kernel
theorem dX6_tension_1 : decode cX6_tension 1 = .ok (.invokestatic 53, 3) := by decide +kernel
theorem dX6_tension_4 : decode cX6_tension 4 = .ok (.ifCond .eq 13, 3) := by decide +kernel
theorem dX6_tension_7 : decode cX6_tension 7 = .ok (.iload_n 2, 1) := by decide +kernel
theorem dX6_tension_8 : decode cX6_tension 8 = .ok (.iconst 0, 1) := by decide +kernel
theorem dX6_tension_9 : decode cX6_tension 9 = .ok (.bipush 60, 2) := by decide +kernel
theorem dX6_tension_11 : decode cX6_tension 11 = .ok (.invokestatic 57, 3) := by decide +kernel
theorem dX6_tension_14 : decode cX6_tension 14 = .ok (.ifCond .ne 10, 3) := by decide +kernel
theorem dX6_tension_17 : decode cX6_tension 17 = .ok (.aload_n 0, 1) := by decide +kernel
theorem dX6_tension_18 : decode cX6_tension 18 = .ok (.ldc 61, 2) := by decide +kernel
theorem dX6_tension_20 : decode cX6_tension 20 = .ok (.invokevirtual 62, 3) := by decide +kernel
theorem dX6_tension_23 : decode cX6_tension 23 = .ok (.ireturn, 1) := by decide +kernel
theorem dX6_tension_24 : decode cX6_tension 24 = .ok (.aload_n 0, 1) := by decide +kernel
theorem dX6_tension_25 : decode cX6_tension 25 = .ok (.invokevirtual 183, 3) := by decide +kernel
theorem dX6_tension_28 : decode cX6_tension 28 = .ok (.aload_n 0, 1) := by decide +kernel
theorem dX6_tension_29 : decode cX6_tension 29 = .ok (.getfield 23, 3) := by decide +kernel
theorem dX6_tension_32 : decode cX6_tension 32 = .ok (.iload_n 2, 1) := by decide +kernel
theorem dX6_tension_33 : decode cX6_tension 33 = .ok (.invokevirtual 165, 3) := by decide +kernel
theorem dX6_tension_36 : decode cX6_tension 36 = .ok (.aload_n 0, 1) := by decide +kernel
theorem dX6_tension_37 : decode cX6_tension 37 = .ok (.getfield 23, 3) := by decide +kernel
theorem dX6_tension_40 : decode cX6_tension 40 = .ok (.iload_n 1, 1) := by decide +kernel
theorem dX6_tension_41 : decode cX6_tension 41 = .ok (.invokevirtual 66, 3) := by decide +kernel
theorem dX6_tension_44 : decode cX6_tension 44 = .ok (.invokevirtual 89, 3) := by decide +kernel
theorem dX6_tension_47 : decode cX6_tension 47 = .ok (.ireturn, 1) := by decide +kernel
theorem dX6_home_0 : decode cX6_home 0 = .ok (.iload_n 1, 1) := by decide +kernel
theorem dX6_home_1 : decode cX6_home 1 = .ok (.invokestatic 53, 3) := by decide +kernel
theorem dX6_home_4 : decode cX6_home 4 = .ok (.ifCond .ne 10, 3) := by decide +kernel
theorem dX6_home_7 : decode cX6_home 7 = .ok (.aload_n 0, 1) := by decide +kernel
theorem dX6_home_8 : decode cX6_home 8 = .ok (.ldc 61, 2) := by decide +kernel
theorem dX6_home_10 : decode cX6_home 10 = .ok (.invokevirtual 62, 3) := by decide +kernel
theorem dX6_home_13 : decode cX6_home 13 = .ok (.ireturn, 1) := by decide +kernel
theorem dX6_home_14 : decode cX6_home 14 = .ok (.aload_n 0, 1) := by decide +kernel
theorem dX6_home_15 : decode cX6_home 15 = .ok (.invokevirtual 183, 3) := by decide +kernel
theorem dX6_home_18 : decode cX6_home 18 = .ok (.aload_n 0, 1) := by decide +kernel
theorem dX6_home_19 : decode cX6_home 19 = .ok (.getfield 23, 3) := by decide +kernel
theorem dX6_home_22 : decode cX6_home 22 = .ok (.iload_n 1, 1) := by decide +kernel
theorem dX6_home_23 : decode cX6_home 23 = .ok (.sipush 200, 3) := by decide +kernel
theorem dX6_home_26 : decode cX6_home 26 = .ok (.invokevirtual 186, 3) := by decide +kernel
theorem dX6_home_29 : decode cX6_home 29 = .ok (.istore_n 2, 1) := by decide +kernel
theorem dX6_home_30 : decode cX6_home 30 = .ok (.iload_n 2, 1) := by decide +kernel
theorem dX6_home_31 : decode cX6_home 31 = .ok (.sipush 200, 3) := by decide +kernel
theorem dX6_home_34 : decode cX6_home 34 = .ok (.if_icmp .le 12, 3) := by decide +kernel
theorem dX6_home_37 : decode cX6_home 37 = .ok (.aload_n 0, 1) := by decide +kernel
theorem dX6_home_38 : decode cX6_home 38 = .ok (.ldc 149, 2) := by decide +kernel
theorem dX6_home_40 : decode cX6_home 40 = .ok (.invokevirtual 62, 3) := by decide +kernel
theorem dX6_home_43 : decode cX6_home 43 = .ok (.goto 4, 3) := by decide +kernel
theorem dX6_home_46 : decode cX6_home 46 = .ok (.iload_n 2, 1) := by decide +kernel
theorem dX6_home_47 : decode cX6_home 47 = .ok (.ireturn, 1) := by decide +kernel
theorem dX6_alike_0 : decode cX6_alike 0 = .ok (.aload_n 0, 1) := by decide +kernel
theorem dX6_alike_1 : decode cX6_alike 1 = .ok (.invokevirtual 183, 3) := by decide +kernel
theorem dX6_alike_4 : decode cX6_alike 4 = .ok (.aload_n 0, 1) := by decide +kernel
theorem dX6_alike_5 : decode cX6_alike 5 = .ok (.getfield 23, 3) := by decide +kernel
theorem dX6_alike_8 : decode cX6_alike 8 = .ok (.sipush 200, 3) := by decide +kernel
theorem dX6_alike_11 : decode cX6_alike 11 = .ok (.invokevirtual 190, 3) := by decide +kernel
theorem dX6_alike_14 : decode cX6_alike 14 = .ok (.istore_n 1, 1) := by decide +kernel
theorem dX6_alike_15 : decode cX6_alike 15 = .ok (.iload_n 1, 1) := by decide +kernel
theorem dX6_alike_16 : decode cX6_alike 16 = .ok (.sipush 200, 3) := by decide +kernel
theorem dX6_alike_19 : decode cX6_alike 19 = .ok (.if_icmp .le 12, 3) := by decide +kernel
theorem dX6_alike_22 : decode cX6_alike 22 = .ok (.aload_n 0, 1) := by decide +kernel
theorem dX6_alike_23 : decode cX6_alike 23 = .ok (.ldc 149, 2) := by decide +kernel
theorem dX6_alike_25 : decode cX6_alike 25 = .ok (.invokevirtual 62, 3) := by decide +kernel
theorem dX6_alike_28 : decode cX6_alike 28 = .ok (.goto 4, 3) := by decide +kernel
theorem dX6_alike_31 : decode cX6_alike 31 = .ok (.iload_n 1, 1) := by decide +kernel
theorem dX6_alike_32 : decode cX6_alike 32 = .ok (.ireturn, 1) := by decide +kernel
theorem dX6_again_0 : decode cX6_again 0 = .ok (.iload_n 1, 1) := by decide +kernel
theorem dX6_again_1 : decode cX6_again 1 = .ok (.invokestatic 53, 3) := by decide +kernel
theorem dX6_again_4 : decode cX6_again 4 = .ok (.ifCond .ne 10, 3) := by decide +kernel
theorem dX6_again_7 : decode cX6_again 7 = .ok (.aload_n 0, 1) := by decide +kernel
theorem dX6_again_8 : decode cX6_again 8 = .ok (.ldc 61, 2) := by decide +kernel
theorem dX6_again_10 : decode cX6_again 10 = .ok (.invokevirtual 62, 3) := by decide +kernel
theorem dX6_again_13 : decode cX6_again 13 = .ok (.ireturn, 1) := by decide +kernel
theorem dX6_again_14 : decode cX6_again 14 = .ok (.aload_n 0, 1) := by decide +kernel
theorem dX6_again_15 : decode cX6_again 15 = .ok (.invokevirtual 183, 3) := by decide +kernel
theorem dX6_again_18 : decode cX6_again 18 = .ok (.iconst 0, 1) := by decide +kernel
theorem dX6_again_19 : decode cX6_again 19 = .ok (.istore_n 2, 1) := by decide +kernel
theorem dX6_again_20 : decode cX6_again 20 = .ok (.iconst 1, 1) := by decide +kernel
theorem dX6_again_21 : decode cX6_again 21 = .ok (.istore_n 3, 1) := by decide +kernel
theorem dX6_again_22 : decode cX6_again 22 = .ok (.iload_n 3, 1) := by decide +kernel
theorem dX6_again_23 : decode cX6_again 23 = .ok (.sipush 200, 3) := by decide +kernel
theorem dX6_again_26 : decode cX6_again 26 = .ok (.if_icmp .gt 63, 3) := by decide +kernel
theorem dX6_again_29 : decode cX6_again 29 = .ok (.aload_n 0, 1) := by decide +kernel
theorem dX6_again_30 : decode cX6_again 30 = .ok (.getfield 23, 3) := by decide +kernel
theorem dX6_again_33 : decode cX6_again 33 = .ok (.invokevirtual 193, 3) := by decide +kernel
theorem dX6_again_36 : decode cX6_again 36 = .ok (.aload_n 0, 1) := by decide +kernel
theorem dX6_again_37 : decode cX6_again 37 = .ok (.getfield 23, 3) := by decide +kernel
theorem dX6_again_40 : decode cX6_again 40 = .ok (.iload_n 1, 1) := by decide +kernel
theorem dX6_again_41 : decode cX6_again 41 = .ok (.invokevirtual 66, 3) := by decide +kernel
theorem dX6_again_44 : decode cX6_again 44 = .ok (.aload_n 0, 1) := by decide +kernel
theorem dX6_again_45 : decode cX6_again 45 = .ok (.getfield 10, 3) := by decide +kernel
theorem dX6_again_48 : decode cX6_again 48 = .ok (.iload_n 1, 1) := by decide +kernel
theorem dX6_again_49 : decode cX6_again 49 = .ok (.invokevirtual 66, 3) := by decide +kernel
theorem dX6_again_52 : decode cX6_again 52 = .ok (.invokevirtual 196, 3) := by decide +kernel
theorem dX6_again_55 : decode cX6_again 55 = .ok (.istore 4, 2) := by decide +kernel
theorem dX6_again_57 : decode cX6_again 57 = .ok (.iload 4, 2) := by decide +kernel
theorem dX6_again_59 : decode cX6_again 59 = .ok (.ifCond .eq 9, 3) := by decide +kernel
theorem dX6_again_62 : decode cX6_again 62 = .ok (.iload_n 2, 1) := by decide +kernel
theorem dX6_again_63 : decode cX6_again 63 = .ok (.ifCond .eq 5, 3) := by decide +kernel
theorem dX6_again_66 : decode cX6_again 66 = .ok (.iload_n 3, 1) := by decide +kernel
theorem dX6_again_67 : decode cX6_again 67 = .ok (.ireturn, 1) := by decide +kernel
theorem dX6_again_68 : decode cX6_again 68 = .ok (.iload_n 2, 1) := by decide +kernel
theorem dX6_again_69 : decode cX6_again 69 = .ok (.ifCond .ne 8, 3) := by decide +kernel
theorem dX6_again_72 : decode cX6_again 72 = .ok (.iload 4, 2) := by decide +kernel
theorem dX6_again_74 : decode cX6_again 74 = .ok (.ifCond .ne 7, 3) := by decide +kernel
theorem dX6_again_77 : decode cX6_again 77 = .ok (.iconst 1, 1) := by decide +kernel
theorem dX6_again_78 : decode cX6_again 78 = .ok (.goto 4, 3) := by decide +kernel
theorem dX6_again_81 : decode cX6_again 81 = .ok (.iconst 0, 1) := by decide +kernel
theorem dX6_again_82 : decode cX6_again 82 = .ok (.istore_n 2, 1) := by decide +kernel
theorem dX6_again_83 : decode cX6_again 83 = .ok (.iinc 3 1, 3) := by decide +kernel
theorem dX6_again_86 : decode cX6_again 86 = .ok (.goto (-64), 3) := by decide +kernel
theorem dX6_again_89 : decode cX6_again 89 = .ok (.aload_n 0, 1) := by decide +kernel
theorem dX6_again_90 : decode cX6_again 90 = .ok (.ldc 149, 2) := by decide +kernel
theorem dX6_again_92 : decode cX6_again 92 = .ok (.invokevirtual 62, 3) := by decide +kernel
theorem dX6_again_95 : decode cX6_again 95 = .ok (.ireturn, 1) := by decide +kernel
theorem dX6_key_0 : decode cX6_key 0 = .ok (.aload_n 0, 1) := by decide +kernel
theorem dX6_key_1 : decode cX6_key 1 = .ok (.getfield 10, 3) := by decide +kernel
theorem dX6_key_4 : decode cX6_key 4 = .ok (.iload_n 1, 1) := by decide +kernel
theorem dX6_key_5 : decode cX6_key 5 = .ok (.invokevirtual 117, 3) := by decide +kernel
theorem dX6_key_8 : decode cX6_key 8 = .ok (.ifCond .ne 10, 3) := by decide +kernel
theorem dX6_key_11 : decode cX6_key 11 = .ok (.aload_n 0, 1) := by decide +kernel
theorem dX6_key_12 : decode cX6_key 12 = .ok (.ldc 61, 2) := by decide +kernel
theorem dX6_key_14 : decode cX6_key 14 = .ok (.invokevirtual 62, 3) := by decide +kernel
theorem dX6_key_17 : decode cX6_key 17 = .ok (.ireturn, 1) := by decide +kernel
theorem dX6_key_18 : decode cX6_key 18 = .ok (.aload_n 0, 1) := by decide +kernel
theorem dX6_key_19 : decode cX6_key 19 = .ok (.getfield 10, 3) := by decide +kernel
theorem dX6_key_22 : decode cX6_key 22 = .ok (.getfield 120, 3) := by decide +kernel
theorem dX6_key_25 : decode cX6_key 25 = .ok (.iload_n 1, 1) := by decide +kernel
theorem dX6_key_26 : decode cX6_key 26 = .ok (.aaload, 1) := by decide +kernel
theorem dX6_key_27 : decode cX6_key 27 = .ok (.getfield 129, 3) := by decide +kernel
theorem dX6_key_30 : decode cX6_key 30 = .ok (.istore_n 2, 1) := by decide +kernel
theorem dX6_key_31 : decode cX6_key 31 = .ok (.aload_n 0, 1) := by decide +kernel
theorem dX6_key_32 : decode cX6_key 32 = .ok (.iload_n 1, 1) := by decide +kernel
theorem dX6_key_33 : decode cX6_key 33 = .ok (.iload_n 2, 1) := by decide +kernel
theorem dX6_key_34 : decode cX6_key 34 = .ok (.iconst 0, 1) := by decide +kernel
theorem dX6_key_35 : decode cX6_key 35 = .ok (.bipush 12, 2) := by decide +kernel
theorem dX6_key_37 : decode cX6_key 37 = .ok (.bipush 101, 2) := by decide +kernel
theorem dX6_key_39 : decode cX6_key 39 = .ok (.invokevirtual 200, 3) := by decide +kernel
theorem dX6_key_42 : decode cX6_key 42 = .ok (.ireturn, 1) := by decide +kernel
theorem dX6_kind_0 : decode cX6_kind 0 = .ok (.aload_n 0, 1) := by decide +kernel
theorem dX6_kind_1 : decode cX6_kind 1 = .ok (.getfield 10, 3) := by decide +kernel
theorem dX6_kind_4 : decode cX6_kind 4 = .ok (.iload_n 1, 1) := by decide +kernel
theorem dX6_kind_5 : decode cX6_kind 5 = .ok (.invokevirtual 117, 3) := by decide +kernel
theorem dX6_kind_8 : decode cX6_kind 8 = .ok (.ifCond .ne 10, 3) := by decide +kernel
theorem dX6_kind_11 : decode cX6_kind 11 = .ok (.aload_n 0, 1) := by decide +kernel
theorem dX6_kind_12 : decode cX6_kind 12 = .ok (.ldc 61, 2) := by decide +kernel
theorem dX6_kind_14 : decode cX6_kind 14 = .ok (.invokevirtual 62, 3) := by decide +kernel
theorem dX6_kind_17 : decode cX6_kind 17 = .ok (.ireturn, 1) := by decide +kernel
theorem dX6_kind_18 : decode cX6_kind 18 = .ok (.aload_n 0, 1) := by decide +kernel
theorem dX6_kind_19 : decode cX6_kind 19 = .ok (.getfield 10, 3) := by decide +kernel
theorem dX6_kind_22 : decode cX6_kind 22 = .ok (.getfield 120, 3) := by decide +kernel
theorem dX6_kind_25 : decode cX6_kind 25 = .ok (.iload_n 1, 1) := by decide +kernel
theorem dX6_kind_26 : decode cX6_kind 26 = .ok (.aaload, 1) := by decide +kernel
theorem dX6_kind_27 : decode cX6_kind 27 = .ok (.getfield 129, 3) := by decide +kernel
theorem dX6_kind_30 : decode cX6_kind 30 = .ok (.istore_n 2, 1) := by decide +kernel
theorem dX6_kind_31 : decode cX6_kind 31 = .ok (.aload_n 0, 1) := by decide +kernel
theorem dX6_kind_32 : decode cX6_kind 32 = .ok (.iload_n 1, 1) := by decide +kernel
theorem dX6_kind_33 : decode cX6_kind 33 = .ok (.iload_n 2, 1) := by decide +kernel
theorem dX6_kind_34 : decode cX6_kind 34 = .ok (.iconst 1, 1) := by decide +kernel
theorem dX6_kind_35 : decode cX6_kind 35 = .ok (.bipush 6, 2) := by decide +kernel
theorem dX6_kind_37 : decode cX6_kind 37 = .ok (.bipush 101, 2) := by decide +kernel
theorem dX6_kind_39 : decode cX6_kind 39 = .ok (.invokevirtual 200, 3) := by decide +kernel
theorem dX6_kind_42 : decode cX6_kind 42 = .ok (.ireturn, 1) := by decide +kernel
theorem dX6_blot_0 : decode cX6_blot 0 = .ok (.aload_n 0, 1) := by decide +kernel
theorem dX6_blot_1 : decode cX6_blot 1 = .ok (.getfield 10, 3) := by decide +kernel
theorem dX6_blot_4 : decode cX6_blot 4 = .ok (.iload_n 1, 1) := by decide +kernel
theorem dX6_blot_5 : decode cX6_blot 5 = .ok (.invokevirtual 117, 3) := by decide +kernel
theorem dX6_blot_8 : decode cX6_blot 8 = .ok (.ifCond .eq 10, 3) := by decide +kernel
theorem dX6_blot_11 : decode cX6_blot 11 = .ok (.iload_n 2, 1) := by decide +kernel
theorem dX6_blot_12 : decode cX6_blot 12 = .ok (.invokestatic 53, 3) := by decide +kernel
theorem dX6_blot_15 : decode cX6_blot 15 = .ok (.ifCond .ne 10, 3) := by decide +kernel
theorem dX6_blot_18 : decode cX6_blot 18 = .ok (.aload_n 0, 1) := by decide +kernel
theorem dX6_blot_19 : decode cX6_blot 19 = .ok (.ldc 61, 2) := by decide +kernel
theorem dX6_blot_21 : decode cX6_blot 21 = .ok (.invokevirtual 62, 3) := by decide +kernel
theorem dX6_blot_24 : decode cX6_blot 24 = .ok (.ireturn, 1) := by decide +kernel
theorem dX6_blot_25 : decode cX6_blot 25 = .ok (.aload_n 0, 1) := by decide +kernel
theorem dX6_blot_26 : decode cX6_blot 26 = .ok (.invokevirtual 183, 3) := by decide +kernel
theorem dX6_blot_29 : decode cX6_blot 29 = .ok (.aload_n 0, 1) := by decide +kernel
theorem dX6_blot_30 : decode cX6_blot 30 = .ok (.getfield 23, 3) := by decide +kernel
theorem dX6_blot_33 : decode cX6_blot 33 = .ok (.iload_n 2, 1) := by decide +kernel
theorem dX6_blot_34 : decode cX6_blot 34 = .ok (.bipush 100, 2) := by decide +kernel
theorem dX6_blot_36 : decode cX6_blot 36 = .ok (.invokevirtual 186, 3) := by decide +kernel
theorem dX6_blot_39 : decode cX6_blot 39 = .ok (.istore_n 3, 1) := by decide +kernel
theorem dX6_blot_40 : decode cX6_blot 40 = .ok (.aload_n 0, 1) := by decide +kernel
theorem dX6_blot_41 : decode cX6_blot 41 = .ok (.iload_n 1, 1) := by decide +kernel
theorem dX6_blot_42 : decode cX6_blot 42 = .ok (.iload_n 2, 1) := by decide +kernel
theorem dX6_blot_43 : decode cX6_blot 43 = .ok (.iconst 2, 1) := by decide +kernel
theorem dX6_blot_44 : decode cX6_blot 44 = .ok (.bipush 12, 2) := by decide +kernel
theorem dX6_blot_46 : decode cX6_blot 46 = .ok (.iload_n 3, 1) := by decide +kernel
theorem dX6_blot_47 : decode cX6_blot 47 = .ok (.invokevirtual 200, 3) := by decide +kernel
theorem dX6_blot_50 : decode cX6_blot 50 = .ok (.ireturn, 1) := by decide +kernel
theorem dX6_calm_0 : decode cX6_calm 0 = .ok (.aload_n 0, 1) := by decide +kernel
theorem dX6_calm_1 : decode cX6_calm 1 = .ok (.getfield 10, 3) := by decide +kernel
theorem dX6_calm_4 : decode cX6_calm 4 = .ok (.iload_n 1, 1) := by decide +kernel
theorem dX6_calm_5 : decode cX6_calm 5 = .ok (.invokevirtual 117, 3) := by decide +kernel
theorem dX6_calm_8 : decode cX6_calm 8 = .ok (.ifCond .eq 20, 3) := by decide +kernel
theorem dX6_calm_11 : decode cX6_calm 11 = .ok (.iload_n 2, 1) := by decide +kernel
theorem dX6_calm_12 : decode cX6_calm 12 = .ok (.invokestatic 53, 3) := by decide +kernel
theorem dX6_calm_15 : decode cX6_calm 15 = .ok (.ifCond .eq 13, 3) := by decide +kernel
theorem dX6_calm_18 : decode cX6_calm 18 = .ok (.iload_n 3, 1) := by decide +kernel
theorem dX6_calm_19 : decode cX6_calm 19 = .ok (.iconst 0, 1) := by decide +kernel
theorem dX6_calm_20 : decode cX6_calm 20 = .ok (.bipush 20, 2) := by decide +kernel
theorem dX6_calm_22 : decode cX6_calm 22 = .ok (.invokestatic 57, 3) := by decide +kernel
theorem dX6_calm_25 : decode cX6_calm 25 = .ok (.ifCond .ne 10, 3) := by decide +kernel
theorem dX6_calm_28 : decode cX6_calm 28 = .ok (.aload_n 0, 1) := by decide +kernel
theorem dX6_calm_29 : decode cX6_calm 29 = .ok (.ldc 61, 2) := by decide +kernel
theorem dX6_calm_31 : decode cX6_calm 31 = .ok (.invokevirtual 62, 3) := by decide +kernel
theorem dX6_calm_34 : decode cX6_calm 34 = .ok (.ireturn, 1) := by decide +kernel
theorem dX6_calm_35 : decode cX6_calm 35 = .ok (.iconst 0, 1) := by decide +kernel
theorem dX6_calm_36 : decode cX6_calm 36 = .ok (.istore 4, 2) := by decide +kernel
theorem dX6_calm_38 : decode cX6_calm 38 = .ok (.bipush 12, 2) := by decide +kernel
theorem dX6_calm_40 : decode cX6_calm 40 = .ok (.istore 5, 2) := by decide +kernel
theorem dX6_calm_42 : decode cX6_calm 42 = .ok (.iconst 0, 1) := by decide +kernel
theorem dX6_calm_43 : decode cX6_calm 43 = .ok (.istore 6, 2) := by decide +kernel
theorem dX6_calm_45 : decode cX6_calm 45 = .ok (.iload 6, 2) := by decide +kernel
theorem dX6_calm_47 : decode cX6_calm 47 = .ok (.bipush 12, 2) := by decide +kernel
theorem dX6_calm_49 : decode cX6_calm 49 = .ok (.if_icmp .ge 63, 3) := by decide +kernel
theorem dX6_calm_52 : decode cX6_calm 52 = .ok (.aload_n 0, 1) := by decide +kernel
theorem dX6_calm_53 : decode cX6_calm 53 = .ok (.invokevirtual 183, 3) := by decide +kernel
theorem dX6_calm_56 : decode cX6_calm 56 = .ok (.aload_n 0, 1) := by decide +kernel
theorem dX6_calm_57 : decode cX6_calm 57 = .ok (.getfield 23, 3) := by decide +kernel
theorem dX6_calm_60 : decode cX6_calm 60 = .ok (.getfield 120, 3) := by decide +kernel
theorem dX6_calm_63 : decode cX6_calm 63 = .ok (.iload_n 1, 1) := by decide +kernel
theorem dX6_calm_64 : decode cX6_calm 64 = .ok (.aaload, 1) := by decide +kernel
theorem dX6_calm_65 : decode cX6_calm 65 = .ok (.iload 6, 2) := by decide +kernel
theorem dX6_calm_67 : decode cX6_calm 67 = .ok (.putfield 132, 3) := by decide +kernel
theorem dX6_calm_70 : decode cX6_calm 70 = .ok (.aload_n 0, 1) := by decide +kernel
theorem dX6_calm_71 : decode cX6_calm 71 = .ok (.getfield 23, 3) := by decide +kernel
theorem dX6_calm_74 : decode cX6_calm 74 = .ok (.iload_n 3, 1) := by decide +kernel
theorem dX6_calm_75 : decode cX6_calm 75 = .ok (.invokevirtual 165, 3) := by decide +kernel
theorem dX6_calm_78 : decode cX6_calm 78 = .ok (.aload_n 0, 1) := by decide +kernel
theorem dX6_calm_79 : decode cX6_calm 79 = .ok (.getfield 23, 3) := by decide +kernel
theorem dX6_calm_82 : decode cX6_calm 82 = .ok (.iload_n 2, 1) := by decide +kernel
theorem dX6_calm_83 : decode cX6_calm 83 = .ok (.invokevirtual 66, 3) := by decide +kernel
theorem dX6_calm_86 : decode cX6_calm 86 = .ok (.invokevirtual 89, 3) := by decide +kernel
theorem dX6_calm_89 : decode cX6_calm 89 = .ok (.istore 7, 2) := by decide +kernel
theorem dX6_calm_91 : decode cX6_calm 91 = .ok (.iload 7, 2) := by decide +kernel
theorem dX6_calm_93 : decode cX6_calm 93 = .ok (.iload 5, 2) := by decide +kernel
theorem dX6_calm_95 : decode cX6_calm 95 = .ok (.if_icmp .ge 11, 3) := by decide +kernel
theorem dX6_calm_98 : decode cX6_calm 98 = .ok (.iload 7, 2) := by decide +kernel
theorem dX6_calm_100 : decode cX6_calm 100 = .ok (.istore 5, 2) := by decide +kernel
theorem dX6_calm_102 : decode cX6_calm 102 = .ok (.iload 6, 2) := by decide +kernel
theorem dX6_calm_104 : decode cX6_calm 104 = .ok (.istore 4, 2) := by decide +kernel
theorem dX6_calm_106 : decode cX6_calm 106 = .ok (.iinc 6 1, 3) := by decide +kernel
theorem dX6_calm_109 : decode cX6_calm 109 = .ok (.goto (-64), 3) := by decide +kernel
theorem dX6_calm_112 : decode cX6_calm 112 = .ok (.bipush 100, 2) := by decide +kernel
theorem dX6_calm_114 : decode cX6_calm 114 = .ok (.iload 4, 2) := by decide +kernel
theorem dX6_calm_116 : decode cX6_calm 116 = .ok (.imul, 1) := by decide +kernel
theorem dX6_calm_117 : decode cX6_calm 117 = .ok (.iload 5, 2) := by decide +kernel
theorem dX6_calm_119 : decode cX6_calm 119 = .ok (.iadd, 1) := by decide +kernel
theorem dX6_calm_120 : decode cX6_calm 120 = .ok (.ireturn, 1) := by decide +kernel
theorem dX6_swap_0 : decode cX6_swap 0 = .ok (.ldc 149, 2) := by decide +kernel
theorem dX6_swap_2 : decode cX6_swap 2 = .ok (.istore_n 1, 1) := by decide +kernel
theorem dX6_swap_3 : decode cX6_swap 3 = .ok (.bipush 101, 2) := by decide +kernel
theorem dX6_swap_5 : decode cX6_swap 5 = .ok (.istore_n 2, 1) := by decide +kernel
theorem dX6_swap_6 : decode cX6_swap 6 = .ok (.iconst 0, 1) := by decide +kernel
theorem dX6_swap_7 : decode cX6_swap 7 = .ok (.istore_n 3, 1) := by decide +kernel
theorem dX6_swap_8 : decode cX6_swap 8 = .ok (.iload_n 3, 1) := by decide +kernel
theorem dX6_swap_9 : decode cX6_swap 9 = .ok (.aload_n 0, 1) := by decide +kernel
theorem dX6_swap_10 : decode cX6_swap 10 = .ok (.getfield 10, 3) := by decide +kernel
theorem dX6_swap_13 : decode cX6_swap 13 = .ok (.getfield 110, 3) := by decide +kernel
theorem dX6_swap_16 : decode cX6_swap 16 = .ok (.if_icmp .ge 74, 3) := by decide +kernel
theorem dX6_swap_19 : decode cX6_swap 19 = .ok (.iload_n 3, 1) := by decide +kernel
theorem dX6_swap_20 : decode cX6_swap 20 = .ok (.iconst 1, 1) := by decide +kernel
theorem dX6_swap_21 : decode cX6_swap 21 = .ok (.iadd, 1) := by decide +kernel
theorem dX6_swap_22 : decode cX6_swap 22 = .ok (.istore 4, 2) := by decide +kernel
theorem dX6_swap_24 : decode cX6_swap 24 = .ok (.iload 4, 2) := by decide +kernel
theorem dX6_swap_26 : decode cX6_swap 26 = .ok (.aload_n 0, 1) := by decide +kernel
theorem dX6_swap_27 : decode cX6_swap 27 = .ok (.getfield 10, 3) := by decide +kernel
theorem dX6_swap_30 : decode cX6_swap 30 = .ok (.getfield 110, 3) := by decide +kernel
theorem dX6_swap_33 : decode cX6_swap 33 = .ok (.if_icmp .ge 51, 3) := by decide +kernel
theorem dX6_swap_36 : decode cX6_swap 36 = .ok (.aload_n 0, 1) := by decide +kernel
theorem dX6_swap_37 : decode cX6_swap 37 = .ok (.iload_n 3, 1) := by decide +kernel
theorem dX6_swap_38 : decode cX6_swap 38 = .ok (.iload 4, 2) := by decide +kernel
theorem dX6_swap_40 : decode cX6_swap 40 = .ok (.invokevirtual 204, 3) := by decide +kernel
theorem dX6_swap_43 : decode cX6_swap 43 = .ok (.ifCond .ne 6, 3) := by decide +kernel
theorem dX6_swap_46 : decode cX6_swap 46 = .ok (.goto 32, 3) := by decide +kernel
theorem dX6_swap_49 : decode cX6_swap 49 = .ok (.aload_n 0, 1) := by decide +kernel
theorem dX6_swap_50 : decode cX6_swap 50 = .ok (.getfield 23, 3) := by decide +kernel
theorem dX6_swap_53 : decode cX6_swap 53 = .ok (.iload_n 2, 1) := by decide +kernel
theorem dX6_swap_54 : decode cX6_swap 54 = .ok (.iconst 1, 1) := by decide +kernel
theorem dX6_swap_55 : decode cX6_swap 55 = .ok (.isub, 1) := by decide +kernel
theorem dX6_swap_56 : decode cX6_swap 56 = .ok (.invokevirtual 190, 3) := by decide +kernel
theorem dX6_swap_59 : decode cX6_swap 59 = .ok (.istore 5, 2) := by decide +kernel
theorem dX6_swap_61 : decode cX6_swap 61 = .ok (.iload 5, 2) := by decide +kernel
theorem dX6_swap_63 : decode cX6_swap 63 = .ok (.iload_n 2, 1) := by decide +kernel
theorem dX6_swap_64 : decode cX6_swap 64 = .ok (.if_icmp .ge 14, 3) := by decide +kernel
theorem dX6_swap_67 : decode cX6_swap 67 = .ok (.iload 5, 2) := by decide +kernel
theorem dX6_swap_69 : decode cX6_swap 69 = .ok (.istore_n 2, 1) := by decide +kernel
theorem dX6_swap_70 : decode cX6_swap 70 = .ok (.bipush 10, 2) := by decide +kernel
theorem dX6_swap_72 : decode cX6_swap 72 = .ok (.iload_n 3, 1) := by decide +kernel
theorem dX6_swap_73 : decode cX6_swap 73 = .ok (.imul, 1) := by decide +kernel
theorem dX6_swap_74 : decode cX6_swap 74 = .ok (.iload 4, 2) := by decide +kernel
theorem dX6_swap_76 : decode cX6_swap 76 = .ok (.iadd, 1) := by decide +kernel
theorem dX6_swap_77 : decode cX6_swap 77 = .ok (.istore_n 1, 1) := by decide +kernel
theorem dX6_swap_78 : decode cX6_swap 78 = .ok (.iinc 4 1, 3) := by decide +kernel
theorem dX6_swap_81 : decode cX6_swap 81 = .ok (.goto (-57), 3) := by decide +kernel
theorem dX6_swap_84 : decode cX6_swap 84 = .ok (.iinc 3 1, 3) := by decide +kernel
theorem dX6_swap_87 : decode cX6_swap 87 = .ok (.goto (-79), 3) := by decide +kernel
theorem dX6_swap_90 : decode cX6_swap 90 = .ok (.iload_n 1, 1) := by decide +kernel
theorem dX6_swap_91 : decode cX6_swap 91 = .ok (.ldc 149, 2) := by decide +kernel
theorem dX6_swap_93 : decode cX6_swap 93 = .ok (.if_icmp .ne 12, 3) := by decide +kernel
theorem dX6_swap_96 : decode cX6_swap 96 = .ok (.aload_n 0, 1) := by decide +kernel
theorem dX6_swap_97 : decode cX6_swap 97 = .ok (.ldc 149, 2) := by decide +kernel
theorem dX6_swap_99 : decode cX6_swap 99 = .ok (.invokevirtual 62, 3) := by decide +kernel
theorem dX6_swap_102 : decode cX6_swap 102 = .ok (.goto 4, 3) := by decide +kernel
theorem dX6_swap_105 : decode cX6_swap 105 = .ok (.iload_n 1, 1) := by decide +kernel
theorem dX6_swap_106 : decode cX6_swap 106 = .ok (.ireturn, 1) := by decide +kernel
theorem dX6_keys_0 : decode cX6_keys 0 = .ok (.aload_n 0, 1) := by decide +kernel
theorem dX6_keys_1 : decode cX6_keys 1 = .ok (.getfield 10, 3) := by decide +kernel
theorem dX6_keys_4 : decode cX6_keys 4 = .ok (.iload_n 1, 1) := by decide +kernel
theorem dX6_keys_5 : decode cX6_keys 5 = .ok (.invokevirtual 117, 3) := by decide +kernel
theorem dX6_keys_8 : decode cX6_keys 8 = .ok (.ifCond .eq 13, 3) := by decide +kernel
theorem dX6_keys_11 : decode cX6_keys 11 = .ok (.iload_n 2, 1) := by decide +kernel
theorem dX6_keys_12 : decode cX6_keys 12 = .ok (.iconst 0, 1) := by decide +kernel
theorem dX6_keys_13 : decode cX6_keys 13 = .ok (.bipush 60, 2) := by decide +kernel
theorem dX6_keys_15 : decode cX6_keys 15 = .ok (.invokestatic 57, 3) := by decide +kernel
theorem dX6_keys_18 : decode cX6_keys 18 = .ok (.ifCond .ne 10, 3) := by decide +kernel
theorem dX6_keys_21 : decode cX6_keys 21 = .ok (.aload_n 0, 1) := by decide +kernel
theorem dX6_keys_22 : decode cX6_keys 22 = .ok (.ldc 61, 2) := by decide +kernel
theorem dX6_keys_24 : decode cX6_keys 24 = .ok (.invokevirtual 62, 3) := by decide +kernel
theorem dX6_keys_27 : decode cX6_keys 27 = .ok (.ireturn, 1) := by decide +kernel
theorem dX6_keys_28 : decode cX6_keys 28 = .ok (.aload_n 0, 1) := by decide +kernel
theorem dX6_keys_29 : decode cX6_keys 29 = .ok (.getfield 10, 3) := by decide +kernel
theorem dX6_keys_32 : decode cX6_keys 32 = .ok (.getfield 120, 3) := by decide +kernel
theorem dX6_keys_35 : decode cX6_keys 35 = .ok (.iload_n 1, 1) := by decide +kernel
theorem dX6_keys_36 : decode cX6_keys 36 = .ok (.aaload, 1) := by decide +kernel
theorem dX6_keys_37 : decode cX6_keys 37 = .ok (.getfield 129, 3) := by decide +kernel
theorem dX6_keys_40 : decode cX6_keys 40 = .ok (.istore_n 3, 1) := by decide +kernel
theorem dX6_keys_41 : decode cX6_keys 41 = .ok (.iconst 0, 1) := by decide +kernel
theorem dX6_keys_42 : decode cX6_keys 42 = .ok (.istore 4, 2) := by decide +kernel
theorem dX6_keys_44 : decode cX6_keys 44 = .ok (.iconst 0, 1) := by decide +kernel
theorem dX6_keys_45 : decode cX6_keys 45 = .ok (.istore 5, 2) := by decide +kernel
theorem dX6_keys_47 : decode cX6_keys 47 = .ok (.iload 5, 2) := by decide +kernel
theorem dX6_keys_49 : decode cX6_keys 49 = .ok (.bipush 12, 2) := by decide +kernel
theorem dX6_keys_51 : decode cX6_keys 51 = .ok (.if_icmp .ge 52, 3) := by decide +kernel
theorem dX6_keys_54 : decode cX6_keys 54 = .ok (.aload_n 0, 1) := by decide +kernel
theorem dX6_keys_55 : decode cX6_keys 55 = .ok (.invokevirtual 183, 3) := by decide +kernel
theorem dX6_keys_58 : decode cX6_keys 58 = .ok (.aload_n 0, 1) := by decide +kernel
theorem dX6_keys_59 : decode cX6_keys 59 = .ok (.getfield 23, 3) := by decide +kernel
theorem dX6_keys_62 : decode cX6_keys 62 = .ok (.getfield 120, 3) := by decide +kernel
theorem dX6_keys_65 : decode cX6_keys 65 = .ok (.iload_n 1, 1) := by decide +kernel
theorem dX6_keys_66 : decode cX6_keys 66 = .ok (.aaload, 1) := by decide +kernel
theorem dX6_keys_67 : decode cX6_keys 67 = .ok (.iload 5, 2) := by decide +kernel
theorem dX6_keys_69 : decode cX6_keys 69 = .ok (.putfield 132, 3) := by decide +kernel
theorem dX6_keys_72 : decode cX6_keys 72 = .ok (.aload_n 0, 1) := by decide +kernel
theorem dX6_keys_73 : decode cX6_keys 73 = .ok (.getfield 23, 3) := by decide +kernel
theorem dX6_keys_76 : decode cX6_keys 76 = .ok (.iload_n 2, 1) := by decide +kernel
theorem dX6_keys_77 : decode cX6_keys 77 = .ok (.invokevirtual 165, 3) := by decide +kernel
theorem dX6_keys_80 : decode cX6_keys 80 = .ok (.aload_n 0, 1) := by decide +kernel
theorem dX6_keys_81 : decode cX6_keys 81 = .ok (.getfield 23, 3) := by decide +kernel
theorem dX6_keys_84 : decode cX6_keys 84 = .ok (.iload_n 3, 1) := by decide +kernel
theorem dX6_keys_85 : decode cX6_keys 85 = .ok (.invokevirtual 66, 3) := by decide +kernel
theorem dX6_keys_88 : decode cX6_keys 88 = .ok (.invokevirtual 93, 3) := by decide +kernel
theorem dX6_keys_91 : decode cX6_keys 91 = .ok (.ifCond .eq 6, 3) := by decide +kernel
theorem dX6_keys_94 : decode cX6_keys 94 = .ok (.iinc 4 1, 3) := by decide +kernel
theorem dX6_keys_97 : decode cX6_keys 97 = .ok (.iinc 5 1, 3) := by decide +kernel
theorem dX6_keys_100 : decode cX6_keys 100 = .ok (.goto (-53), 3) := by decide +kernel
theorem dX6_keys_103 : decode cX6_keys 103 = .ok (.iload 4, 2) := by decide +kernel
theorem dX6_keys_105 : decode cX6_keys 105 = .ok (.ireturn, 1) := by decide +kernel
theorem dX6_feed_0 : decode cX6_feed 0 = .ok (.iload_n 2, 1) := by decide +kernel
theorem dX6_feed_1 : decode cX6_feed 1 = .ok (.iconst 1, 1) := by decide +kernel
theorem dX6_feed_2 : decode cX6_feed 2 = .ok (.iconst 4, 1) := by decide +kernel
theorem dX6_feed_3 : decode cX6_feed 3 = .ok (.invokestatic 57, 3) := by decide +kernel
theorem dX6_feed_6 : decode cX6_feed 6 = .ok (.ifCond .ne 10, 3) := by decide +kernel
theorem dX6_feed_9 : decode cX6_feed 9 = .ok (.aload_n 0, 1) := by decide +kernel
theorem dX6_feed_10 : decode cX6_feed 10 = .ok (.ldc 61, 2) := by decide +kernel
theorem dX6_feed_12 : decode cX6_feed 12 = .ok (.invokevirtual 62, 3) := by decide +kernel
theorem dX6_feed_15 : decode cX6_feed 15 = .ok (.ireturn, 1) := by decide +kernel
theorem dX6_feed_16 : decode cX6_feed 16 = .ok (.aload_n 0, 1) := by decide +kernel
theorem dX6_feed_17 : decode cX6_feed 17 = .ok (.getfield 29, 3) := by decide +kernel
theorem dX6_feed_20 : decode cX6_feed 20 = .ok (.getfield 207, 3) := by decide +kernel
theorem dX6_feed_23 : decode cX6_feed 23 = .ok (.iload_n 2, 1) := by decide +kernel
theorem dX6_feed_24 : decode cX6_feed 24 = .ok (.iadd, 1) := by decide +kernel
theorem dX6_feed_25 : decode cX6_feed 25 = .ok (.bipush 120, 2) := by decide +kernel
theorem dX6_feed_27 : decode cX6_feed 27 = .ok (.if_icmp .le 10, 3) := by decide +kernel
theorem dX6_feed_30 : decode cX6_feed 30 = .ok (.aload_n 0, 1) := by decide +kernel
theorem dX6_feed_31 : decode cX6_feed 31 = .ok (.ldc 109, 2) := by decide +kernel
theorem dX6_feed_33 : decode cX6_feed 33 = .ok (.invokevirtual 62, 3) := by decide +kernel
theorem dX6_feed_36 : decode cX6_feed 36 = .ok (.ireturn, 1) := by decide +kernel
theorem dX6_feed_37 : decode cX6_feed 37 = .ok (.iload_n 2, 1) := by decide +kernel
theorem dX6_feed_38 : decode cX6_feed 38 = .ok (.iconst 1, 1) := by decide +kernel
theorem dX6_feed_39 : decode cX6_feed 39 = .ok (.isub, 1) := by decide +kernel
theorem dX6_feed_40 : decode cX6_feed 40 = .ok (.istore_n 3, 1) := by decide +kernel
theorem dX6_feed_41 : decode cX6_feed 41 = .ok (.iload_n 3, 1) := by decide +kernel
theorem dX6_feed_42 : decode cX6_feed 42 = .ok (.ifCond .lt 26, 3) := by decide +kernel
theorem dX6_feed_45 : decode cX6_feed 45 = .ok (.aload_n 0, 1) := by decide +kernel
theorem dX6_feed_46 : decode cX6_feed 46 = .ok (.getfield 29, 3) := by decide +kernel
theorem dX6_feed_49 : decode cX6_feed 49 = .ok (.iload_n 1, 1) := by decide +kernel
theorem dX6_feed_50 : decode cX6_feed 50 = .ok (.bipush 8, 2) := by decide +kernel
theorem dX6_feed_52 : decode cX6_feed 52 = .ok (.iload_n 3, 1) := by decide +kernel
theorem dX6_feed_53 : decode cX6_feed 53 = .ok (.imul, 1) := by decide +kernel
theorem dX6_feed_54 : decode cX6_feed 54 = .ok (.iushr, 1) := by decide +kernel
theorem dX6_feed_55 : decode cX6_feed 55 = .ok (.sipush 255, 3) := by decide +kernel
theorem dX6_feed_58 : decode cX6_feed 58 = .ok (.iand, 1) := by decide +kernel
theorem dX6_feed_59 : decode cX6_feed 59 = .ok (.invokevirtual 208, 3) := by decide +kernel
theorem dX6_feed_62 : decode cX6_feed 62 = .ok (.iinc 3 (-1), 3) := by decide +kernel
theorem dX6_feed_65 : decode cX6_feed 65 = .ok (.goto (-24), 3) := by decide +kernel
theorem dX6_feed_68 : decode cX6_feed 68 = .ok (.aload_n 0, 1) := by decide +kernel
theorem dX6_feed_69 : decode cX6_feed 69 = .ok (.getfield 29, 3) := by decide +kernel
theorem dX6_feed_72 : decode cX6_feed 72 = .ok (.getfield 207, 3) := by decide +kernel
theorem dX6_feed_75 : decode cX6_feed 75 = .ok (.ireturn, 1) := by decide +kernel
theorem dX6_wipe_0 : decode cX6_wipe 0 = .ok (.aload_n 0, 1) := by decide +kernel
theorem dX6_wipe_1 : decode cX6_wipe 1 = .ok (.getfield 29, 3) := by decide +kernel
theorem dX6_wipe_4 : decode cX6_wipe 4 = .ok (.getfield 207, 3) := by decide +kernel
theorem dX6_wipe_7 : decode cX6_wipe 7 = .ok (.istore_n 1, 1) := by decide +kernel
theorem dX6_wipe_8 : decode cX6_wipe 8 = .ok (.aload_n 0, 1) := by decide +kernel
theorem dX6_wipe_9 : decode cX6_wipe 9 = .ok (.getfield 29, 3) := by decide +kernel
theorem dX6_wipe_12 : decode cX6_wipe 12 = .ok (.invokevirtual 209, 3) := by decide +kernel
theorem dX6_wipe_15 : decode cX6_wipe 15 = .ok (.iload_n 1, 1) := by decide +kernel
theorem dX6_wipe_16 : decode cX6_wipe 16 = .ok (.ireturn, 1) := by decide +kernel
theorem dX6_affair_0 : decode cX6_affair 0 = .ok (.aload_n 0, 1) := by decide +kernel
theorem dX6_affair_1 : decode cX6_affair 1 = .ok (.invokevirtual 183, 3) := by decide +kernel
theorem dX6_affair_4 : decode cX6_affair 4 = .ok (.aload_n 0, 1) := by decide +kernel
theorem dX6_affair_5 : decode cX6_affair 5 = .ok (.getfield 38, 3) := by decide +kernel
theorem dX6_affair_8 : decode cX6_affair 8 = .ok (.aload_n 0, 1) := by decide +kernel
theorem dX6_affair_9 : decode cX6_affair 9 = .ok (.getfield 23, 3) := by decide +kernel
theorem dX6_affair_12 : decode cX6_affair 12 = .ok (.invokevirtual 210, 3) := by decide +kernel
theorem dX6_affair_15 : decode cX6_affair 15 = .ok (.istore_n 1, 1) := by decide +kernel
theorem dX6_affair_16 : decode cX6_affair 16 = .ok (.aload_n 0, 1) := by decide +kernel
theorem dX6_affair_17 : decode cX6_affair 17 = .ok (.getfield 29, 3) := by decide +kernel
theorem dX6_affair_20 : decode cX6_affair 20 = .ok (.invokevirtual 209, 3) := by decide +kernel
theorem dX6_affair_23 : decode cX6_affair 23 = .ok (.iload_n 1, 1) := by decide +kernel
theorem dX6_affair_24 : decode cX6_affair 24 = .ok (.ifCond .lt 14, 3) := by decide +kernel
theorem dX6_affair_27 : decode cX6_affair 27 = .ok (.aload_n 0, 1) := by decide +kernel
theorem dX6_affair_28 : decode cX6_affair 28 = .ok (.getfield 10, 3) := by decide +kernel
theorem dX6_affair_31 : decode cX6_affair 31 = .ok (.aload_n 0, 1) := by decide +kernel
theorem dX6_affair_32 : decode cX6_affair 32 = .ok (.getfield 23, 3) := by decide +kernel
theorem dX6_affair_35 : decode cX6_affair 35 = .ok (.invokevirtual 214, 3) := by decide +kernel
theorem dX6_affair_38 : decode cX6_affair 38 = .ok (.iload_n 1, 1) := by decide +kernel
theorem dX6_affair_39 : decode cX6_affair 39 = .ok (.ireturn, 1) := by decide +kernel
theorem dX6_sheet_0 : decode cX6_sheet 0 = .ok (.iload_n 1, 1) := by decide +kernel
theorem dX6_sheet_1 : decode cX6_sheet 1 = .ok (.invokestatic 218, 3) := by decide +kernel
theorem dX6_sheet_4 : decode cX6_sheet 4 = .ok (.ifCond .eq 10, 3) := by decide +kernel
theorem dX6_sheet_7 : decode cX6_sheet 7 = .ok (.iload_n 2, 1) := by decide +kernel
theorem dX6_sheet_8 : decode cX6_sheet 8 = .ok (.invokestatic 221, 3) := by decide +kernel
theorem dX6_sheet_11 : decode cX6_sheet 11 = .ok (.ifCond .ne 10, 3) := by decide +kernel
theorem dX6_sheet_14 : decode cX6_sheet 14 = .ok (.aload_n 0, 1) := by decide +kernel
theorem dX6_sheet_15 : decode cX6_sheet 15 = .ok (.ldc 61, 2) := by decide +kernel
theorem dX6_sheet_17 : decode cX6_sheet 17 = .ok (.invokevirtual 62, 3) := by decide +kernel
theorem dX6_sheet_20 : decode cX6_sheet 20 = .ok (.ireturn, 1) := by decide +kernel
theorem dX6_sheet_21 : decode cX6_sheet 21 = .ok (.iload_n 3, 1) := by decide +kernel
theorem dX6_sheet_22 : decode cX6_sheet 22 = .ok (.ifCond .ge 10, 3) := by decide +kernel
theorem dX6_sheet_25 : decode cX6_sheet 25 = .ok (.aload_n 0, 1) := by decide +kernel
theorem dX6_sheet_26 : decode cX6_sheet 26 = .ok (.ldc 224, 2) := by decide +kernel
theorem dX6_sheet_28 : decode cX6_sheet 28 = .ok (.invokevirtual 62, 3) := by decide +kernel
theorem dX6_sheet_31 : decode cX6_sheet 31 = .ok (.ireturn, 1) := by decide +kernel
theorem dX6_sheet_32 : decode cX6_sheet 32 = .ok (.iload_n 3, 1) := by decide +kernel
theorem dX6_sheet_33 : decode cX6_sheet 33 = .ok (.bipush 40, 2) := by decide +kernel
theorem dX6_sheet_35 : decode cX6_sheet 35 = .ok (.if_icmp .le 10, 3) := by decide +kernel
theorem dX6_sheet_38 : decode cX6_sheet 38 = .ok (.aload_n 0, 1) := by decide +kernel
theorem dX6_sheet_39 : decode cX6_sheet 39 = .ok (.ldc 61, 2) := by decide +kernel
theorem dX6_sheet_41 : decode cX6_sheet 41 = .ok (.invokevirtual 62, 3) := by decide +kernel
theorem dX6_sheet_44 : decode cX6_sheet 44 = .ok (.ireturn, 1) := by decide +kernel
theorem dX6_sheet_45 : decode cX6_sheet 45 = .ok (.iload_n 2, 1) := by decide +kernel
theorem dX6_sheet_46 : decode cX6_sheet 46 = .ok (.ifCond .ne 7, 3) := by decide +kernel
theorem dX6_sheet_49 : decode cX6_sheet 49 = .ok (.iconst 0, 1) := by decide +kernel
theorem dX6_sheet_50 : decode cX6_sheet 50 = .ok (.goto 4, 3) := by decide +kernel
theorem dX6_sheet_53 : decode cX6_sheet 53 = .ok (.iload_n 3, 1) := by decide +kernel
theorem dX6_sheet_54 : decode cX6_sheet 54 = .ok (.istore 4, 2) := by decide +kernel
theorem dX6_sheet_56 : decode cX6_sheet 56 = .ok (.aload_n 0, 1) := by decide +kernel
theorem dX6_sheet_57 : decode cX6_sheet 57 = .ok (.getfield 44, 3) := by decide +kernel
theorem dX6_sheet_60 : decode cX6_sheet 60 = .ok (.iload_n 1, 1) := by decide +kernel
theorem dX6_sheet_61 : decode cX6_sheet 61 = .ok (.aaload, 1) := by decide +kernel
theorem dX6_sheet_62 : decode cX6_sheet 62 = .ok (.iload_n 2, 1) := by decide +kernel
theorem dX6_sheet_63 : decode cX6_sheet 63 = .ok (.iload 4, 2) := by decide +kernel
theorem dX6_sheet_65 : decode cX6_sheet 65 = .ok (.invokevirtual 225, 3) := by decide +kernel
theorem dX6_sheet_68 : decode cX6_sheet 68 = .ok (.iload 4, 2) := by decide +kernel
theorem dX6_sheet_70 : decode cX6_sheet 70 = .ok (.ireturn, 1) := by decide +kernel
theorem dX6_write_0 : decode cX6_write 0 = .ok (.aload_n 0, 1) := by decide +kernel
theorem dX6_write_1 : decode cX6_write 1 = .ok (.iload_n 1, 1) := by decide +kernel
theorem dX6_write_2 : decode cX6_write 2 = .ok (.invokevirtual 229, 3) := by decide +kernel
theorem dX6_write_5 : decode cX6_write 5 = .ok (.istore 5, 2) := by decide +kernel
theorem dX6_write_7 : decode cX6_write 7 = .ok (.iload 5, 2) := by decide +kernel
theorem dX6_write_9 : decode cX6_write 9 = .ok (.ifCond .eq 11, 3) := by decide +kernel
theorem dX6_write_12 : decode cX6_write 12 = .ok (.aload_n 0, 1) := by decide +kernel
theorem dX6_write_13 : decode cX6_write 13 = .ok (.iload 5, 2) := by decide +kernel
theorem dX6_write_15 : decode cX6_write 15 = .ok (.invokevirtual 62, 3) := by decide +kernel
theorem dX6_write_18 : decode cX6_write 18 = .ok (.i2l, 1) := by decide +kernel
theorem dX6_write_19 : decode cX6_write 19 = .ok (.lreturn, 1) := by decide +kernel
theorem dX6_write_20 : decode cX6_write 20 = .ok (.aload_n 0, 1) := by decide +kernel
theorem dX6_write_21 : decode cX6_write 21 = .ok (.getfield 44, 3) := by decide +kernel
theorem dX6_write_24 : decode cX6_write 24 = .ok (.iload_n 1, 1) := by decide +kernel
theorem dX6_write_25 : decode cX6_write 25 = .ok (.aaload, 1) := by decide +kernel
theorem dX6_write_26 : decode cX6_write 26 = .ok (.astore 6, 2) := by decide +kernel
theorem dX6_write_28 : decode cX6_write 28 = .ok (.iload_n 2, 1) := by decide +kernel
theorem dX6_write_29 : decode cX6_write 29 = .ok (.iconst 0, 1) := by decide +kernel
theorem dX6_write_30 : decode cX6_write 30 = .ok (.aload 6, 2) := by decide +kernel
theorem dX6_write_32 : decode cX6_write 32 = .ok (.getfield 232, 3) := by decide +kernel
theorem dX6_write_35 : decode cX6_write 35 = .ok (.iconst 1, 1) := by decide +kernel
theorem dX6_write_36 : decode cX6_write 36 = .ok (.isub, 1) := by decide +kernel
theorem dX6_write_37 : decode cX6_write 37 = .ok (.invokestatic 57, 3) := by decide +kernel
theorem dX6_write_40 : decode cX6_write 40 = .ok (.ifCond .ne 11, 3) := by decide +kernel
theorem dX6_write_43 : decode cX6_write 43 = .ok (.aload_n 0, 1) := by decide +kernel
theorem dX6_write_44 : decode cX6_write 44 = .ok (.ldc 61, 2) := by decide +kernel
theorem dX6_write_46 : decode cX6_write 46 = .ok (.invokevirtual 62, 3) := by decide +kernel
theorem dX6_write_49 : decode cX6_write 49 = .ok (.i2l, 1) := by decide +kernel
theorem dX6_write_50 : decode cX6_write 50 = .ok (.lreturn, 1) := by decide +kernel
theorem dX6_write_51 : decode cX6_write 51 = .ok (.aload 6, 2) := by decide +kernel
theorem dX6_write_53 : decode cX6_write 53 = .ok (.getfield 235, 3) := by decide +kernel
theorem dX6_write_56 : decode cX6_write 56 = .ok (.iload_n 2, 1) := by decide +kernel
theorem dX6_write_57 : decode cX6_write 57 = .ok (.laload, 1) := by decide +kernel
theorem dX6_write_58 : decode cX6_write 58 = .ok (.lstore 7, 2) := by decide +kernel
theorem dX6_write_60 : decode cX6_write 60 = .ok (.aload 6, 2) := by decide +kernel
theorem dX6_write_62 : decode cX6_write 62 = .ok (.iload_n 2, 1) := by decide +kernel
theorem dX6_write_63 : decode cX6_write 63 = .ok (.lload_n 3, 1) := by decide +kernel
theorem dX6_write_64 : decode cX6_write 64 = .ok (.invokevirtual 239, 3) := by decide +kernel
theorem dX6_write_67 : decode cX6_write 67 = .ok (.lload 7, 2) := by decide +kernel
theorem dX6_write_69 : decode cX6_write 69 = .ok (.lreturn, 1) := by decide +kernel
theorem dX6_copy_0 : decode cX6_copy 0 = .ok (.iload_n 1, 1) := by decide +kernel
theorem dX6_copy_1 : decode cX6_copy 1 = .ok (.invokestatic 218, 3) := by decide +kernel
theorem dX6_copy_4 : decode cX6_copy 4 = .ok (.ifCond .eq 10, 3) := by decide +kernel
theorem dX6_copy_7 : decode cX6_copy 7 = .ok (.iload_n 3, 1) := by decide +kernel
theorem dX6_copy_8 : decode cX6_copy 8 = .ok (.invokestatic 218, 3) := by decide +kernel
theorem dX6_copy_11 : decode cX6_copy 11 = .ok (.ifCond .ne 10, 3) := by decide +kernel
theorem dX6_copy_14 : decode cX6_copy 14 = .ok (.aload_n 0, 1) := by decide +kernel
theorem dX6_copy_15 : decode cX6_copy 15 = .ok (.ldc 61, 2) := by decide +kernel
theorem dX6_copy_17 : decode cX6_copy 17 = .ok (.invokevirtual 62, 3) := by decide +kernel
theorem dX6_copy_20 : decode cX6_copy 20 = .ok (.ireturn, 1) := by decide +kernel
theorem dX6_copy_21 : decode cX6_copy 21 = .ok (.aload_n 0, 1) := by decide +kernel
theorem dX6_copy_22 : decode cX6_copy 22 = .ok (.getfield 44, 3) := by decide +kernel
theorem dX6_copy_25 : decode cX6_copy 25 = .ok (.iload_n 1, 1) := by decide +kernel
theorem dX6_copy_26 : decode cX6_copy 26 = .ok (.aaload, 1) := by decide +kernel
theorem dX6_copy_27 : decode cX6_copy 27 = .ok (.astore 6, 2) := by decide +kernel
theorem dX6_copy_29 : decode cX6_copy 29 = .ok (.aload_n 0, 1) := by decide +kernel
theorem dX6_copy_30 : decode cX6_copy 30 = .ok (.getfield 44, 3) := by decide +kernel
theorem dX6_copy_33 : decode cX6_copy 33 = .ok (.iload_n 3, 1) := by decide +kernel
theorem dX6_copy_34 : decode cX6_copy 34 = .ok (.aaload, 1) := by decide +kernel
theorem dX6_copy_35 : decode cX6_copy 35 = .ok (.astore 7, 2) := by decide +kernel
theorem dX6_copy_37 : decode cX6_copy 37 = .ok (.aload 6, 2) := by decide +kernel
theorem dX6_copy_39 : decode cX6_copy 39 = .ok (.invokevirtual 243, 3) := by decide +kernel
theorem dX6_copy_42 : decode cX6_copy 42 = .ok (.ifCond .ne 11, 3) := by decide +kernel
theorem dX6_copy_45 : decode cX6_copy 45 = .ok (.aload 7, 2) := by decide +kernel
theorem dX6_copy_47 : decode cX6_copy 47 = .ok (.invokevirtual 243, 3) := by decide +kernel
theorem dX6_copy_50 : decode cX6_copy 50 = .ok (.ifCond .eq 10, 3) := by decide +kernel
theorem dX6_copy_53 : decode cX6_copy 53 = .ok (.aload_n 0, 1) := by decide +kernel
theorem dX6_copy_54 : decode cX6_copy 54 = .ok (.ldc 246, 2) := by decide +kernel
theorem dX6_copy_56 : decode cX6_copy 56 = .ok (.invokevirtual 62, 3) := by decide +kernel
theorem dX6_copy_59 : decode cX6_copy 59 = .ok (.ireturn, 1) := by decide +kernel
theorem dX6_copy_60 : decode cX6_copy 60 = .ok (.aload 6, 2) := by decide +kernel
theorem dX6_copy_62 : decode cX6_copy 62 = .ok (.getfield 247, 3) := by decide +kernel
theorem dX6_copy_65 : decode cX6_copy 65 = .ok (.aload 7, 2) := by decide +kernel
theorem dX6_copy_67 : decode cX6_copy 67 = .ok (.getfield 247, 3) := by decide +kernel
theorem dX6_copy_70 : decode cX6_copy 70 = .ok (.if_icmp .eq 10, 3) := by decide +kernel
theorem dX6_copy_73 : decode cX6_copy 73 = .ok (.aload_n 0, 1) := by decide +kernel
theorem dX6_copy_74 : decode cX6_copy 74 = .ok (.ldc 160, 2) := by decide +kernel
theorem dX6_copy_76 : decode cX6_copy 76 = .ok (.invokevirtual 62, 3) := by decide +kernel
theorem dX6_copy_79 : decode cX6_copy 79 = .ok (.ireturn, 1) := by decide +kernel
theorem dX6_copy_80 : decode cX6_copy 80 = .ok (.aload 6, 2) := by decide +kernel
theorem dX6_copy_82 : decode cX6_copy 82 = .ok (.iload_n 2, 1) := by decide +kernel
theorem dX6_copy_83 : decode cX6_copy 83 = .ok (.iload 5, 2) := by decide +kernel
theorem dX6_copy_85 : decode cX6_copy 85 = .ok (.invokevirtual 250, 3) := by decide +kernel
theorem dX6_copy_88 : decode cX6_copy 88 = .ok (.ifCond .eq 15, 3) := by decide +kernel
theorem dX6_copy_91 : decode cX6_copy 91 = .ok (.aload 7, 2) := by decide +kernel
theorem dX6_copy_93 : decode cX6_copy 93 = .ok (.iload 4, 2) := by decide +kernel
theorem dX6_copy_95 : decode cX6_copy 95 = .ok (.iload 5, 2) := by decide +kernel
theorem dX6_copy_97 : decode cX6_copy 97 = .ok (.invokevirtual 250, 3) := by decide +kernel
theorem dX6_copy_100 : decode cX6_copy 100 = .ok (.ifCond .ne 10, 3) := by decide +kernel
theorem dX6_copy_103 : decode cX6_copy 103 = .ok (.aload_n 0, 1) := by decide +kernel
theorem dX6_copy_104 : decode cX6_copy 104 = .ok (.ldc 61, 2) := by decide +kernel
theorem dX6_copy_106 : decode cX6_copy 106 = .ok (.invokevirtual 62, 3) := by decide +kernel
theorem dX6_copy_109 : decode cX6_copy 109 = .ok (.ireturn, 1) := by decide +kernel
theorem dX6_copy_110 : decode cX6_copy 110 = .ok (.aload 6, 2) := by decide +kernel
theorem dX6_copy_112 : decode cX6_copy 112 = .ok (.getfield 235, 3) := by decide +kernel
theorem dX6_copy_115 : decode cX6_copy 115 = .ok (.iload_n 2, 1) := by decide +kernel
theorem dX6_copy_116 : decode cX6_copy 116 = .ok (.aload 7, 2) := by decide +kernel
theorem dX6_copy_118 : decode cX6_copy 118 = .ok (.getfield 235, 3) := by decide +kernel
theorem dX6_copy_121 : decode cX6_copy 121 = .ok (.iload 4, 2) := by decide +kernel
theorem dX6_copy_123 : decode cX6_copy 123 = .ok (.iload 5, 2) := by decide +kernel
theorem dX6_copy_125 : decode cX6_copy 125 = .ok (.invokestatic 253, 3) := by decide +kernel
theorem dX6_copy_128 : decode cX6_copy 128 = .ok (.iload 5, 2) := by decide +kernel
theorem dX6_copy_130 : decode cX6_copy 130 = .ok (.ireturn, 1) := by decide +kernel
theorem dX6_lays_0 : decode cX6_lays 0 = .ok (.aload_n 0, 1) := by decide +kernel
theorem dX6_lays_1 : decode cX6_lays 1 = .ok (.iload_n 1, 1) := by decide +kernel
theorem dX6_lays_2 : decode cX6_lays 2 = .ok (.iload_n 2, 1) := by decide +kernel
theorem dX6_lays_3 : decode cX6_lays 3 = .ok (.invokevirtual 259, 3) := by decide +kernel
theorem dX6_lays_6 : decode cX6_lays 6 = .ok (.istore_n 3, 1) := by decide +kernel
theorem dX6_lays_7 : decode cX6_lays 7 = .ok (.iload_n 3, 1) := by decide +kernel
theorem dX6_lays_8 : decode cX6_lays 8 = .ok (.ifCond .eq 9, 3) := by decide +kernel
theorem dX6_lays_11 : decode cX6_lays 11 = .ok (.aload_n 0, 1) := by decide +kernel
theorem dX6_lays_12 : decode cX6_lays 12 = .ok (.iload_n 3, 1) := by decide +kernel
theorem dX6_lays_13 : decode cX6_lays 13 = .ok (.invokevirtual 62, 3) := by decide +kernel
theorem dX6_lays_16 : decode cX6_lays 16 = .ok (.ireturn, 1) := by decide +kernel
theorem dX6_lays_17 : decode cX6_lays 17 = .ok (.aload_n 0, 1) := by decide +kernel
theorem dX6_lays_18 : decode cX6_lays 18 = .ok (.getfield 44, 3) := by decide +kernel
theorem dX6_lays_21 : decode cX6_lays 21 = .ok (.iload_n 1, 1) := by decide +kernel
theorem dX6_lays_22 : decode cX6_lays 22 = .ok (.aaload, 1) := by decide +kernel
theorem dX6_lays_23 : decode cX6_lays 23 = .ok (.astore 4, 2) := by decide +kernel
theorem dX6_lays_25 : decode cX6_lays 25 = .ok (.aload_n 0, 1) := by decide +kernel
theorem dX6_lays_26 : decode cX6_lays 26 = .ok (.getfield 10, 3) := by decide +kernel
theorem dX6_lays_29 : decode cX6_lays 29 = .ok (.iload_n 2, 1) := by decide +kernel
theorem dX6_lays_30 : decode cX6_lays 30 = .ok (.invokevirtual 66, 3) := by decide +kernel
theorem dX6_lays_33 : decode cX6_lays 33 = .ok (.astore 5, 2) := by decide +kernel
theorem dX6_lays_35 : decode cX6_lays 35 = .ok (.aload 5, 2) := by decide +kernel
theorem dX6_lays_37 : decode cX6_lays 37 = .ok (.invokevirtual 76, 3) := by decide +kernel
theorem dX6_lays_40 : decode cX6_lays 40 = .ok (.iconst 0, 1) := by decide +kernel
theorem dX6_lays_41 : decode cX6_lays 41 = .ok (.istore 6, 2) := by decide +kernel
theorem dX6_lays_43 : decode cX6_lays 43 = .ok (.iload 6, 2) := by decide +kernel
theorem dX6_lays_45 : decode cX6_lays 45 = .ok (.aload 4, 2) := by decide +kernel
theorem dX6_lays_47 : decode cX6_lays 47 = .ok (.getfield 232, 3) := by decide +kernel
theorem dX6_lays_50 : decode cX6_lays 50 = .ok (.if_icmp .ge 53, 3) := by decide +kernel
theorem dX6_lays_53 : decode cX6_lays 53 = .ok (.iload 6, 2) := by decide +kernel
theorem dX6_lays_55 : decode cX6_lays 55 = .ok (.bipush 12, 2) := by decide +kernel
theorem dX6_lays_57 : decode cX6_lays 57 = .ok (.if_icmp .ge 46, 3) := by decide +kernel
theorem dX6_lays_60 : decode cX6_lays 60 = .ok (.aload 4, 2) := by decide +kernel
theorem dX6_lays_62 : decode cX6_lays 62 = .ok (.getfield 235, 3) := by decide +kernel
theorem dX6_lays_65 : decode cX6_lays 65 = .ok (.iload 6, 2) := by decide +kernel
theorem dX6_lays_67 : decode cX6_lays 67 = .ok (.laload, 1) := by decide +kernel
theorem dX6_lays_68 : decode cX6_lays 68 = .ok (.lstore 7, 2) := by decide +kernel
theorem dX6_lays_70 : decode cX6_lays 70 = .ok (.lload 7, 2) := by decide +kernel
theorem dX6_lays_72 : decode cX6_lays 72 = .ok (.lconst 0, 1) := by decide +kernel
theorem dX6_lays_73 : decode cX6_lays 73 = .ok (.lcmp, 1) := by decide +kernel
theorem dX6_lays_74 : decode cX6_lays 74 = .ok (.ifCond .lt 29, 3) := by decide +kernel
theorem dX6_lays_77 : decode cX6_lays 77 = .ok (.lload 7, 2) := by decide +kernel
theorem dX6_lays_79 : decode cX6_lays 79 = .ok (.ldc2_w 262, 3) := by decide +kernel
theorem dX6_lays_82 : decode cX6_lays 82 = .ok (.lcmp, 1) := by decide +kernel
theorem dX6_lays_83 : decode cX6_lays 83 = .ok (.ifCond .lt 6, 3) := by decide +kernel
theorem dX6_lays_86 : decode cX6_lays 86 = .ok (.goto 17, 3) := by decide +kernel
theorem dX6_lays_89 : decode cX6_lays 89 = .ok (.aload 5, 2) := by decide +kernel
theorem dX6_lays_91 : decode cX6_lays 91 = .ok (.lload 7, 2) := by decide +kernel
theorem dX6_lays_93 : decode cX6_lays 93 = .ok (.l2i, 1) := by decide +kernel
theorem dX6_lays_94 : decode cX6_lays 94 = .ok (.invokevirtual 81, 3) := by decide +kernel
theorem dX6_lays_97 : decode cX6_lays 97 = .ok (.iinc 6 1, 3) := by decide +kernel
theorem dX6_lays_100 : decode cX6_lays 100 = .ok (.goto (-57), 3) := by decide +kernel
theorem dX6_lays_103 : decode cX6_lays 103 = .ok (.aload 5, 2) := by decide +kernel
theorem dX6_lays_105 : decode cX6_lays 105 = .ok (.getfield 70, 3) := by decide +kernel
theorem dX6_lays_108 : decode cX6_lays 108 = .ok (.ireturn, 1) := by decide +kernel
theorem dX6_book_0 : decode cX6_book 0 = .ok (.aload_n 0, 1) := by decide +kernel
theorem dX6_book_1 : decode cX6_book 1 = .ok (.iload_n 1, 1) := by decide +kernel
theorem dX6_book_2 : decode cX6_book 2 = .ok (.iload_n 2, 1) := by decide +kernel
theorem dX6_book_3 : decode cX6_book 3 = .ok (.invokevirtual 259, 3) := by decide +kernel
theorem dX6_book_6 : decode cX6_book 6 = .ok (.istore_n 3, 1) := by decide +kernel
theorem dX6_book_7 : decode cX6_book 7 = .ok (.iload_n 3, 1) := by decide +kernel
theorem dX6_book_8 : decode cX6_book 8 = .ok (.ifCond .eq 9, 3) := by decide +kernel
theorem dX6_book_11 : decode cX6_book 11 = .ok (.aload_n 0, 1) := by decide +kernel
theorem dX6_book_12 : decode cX6_book 12 = .ok (.iload_n 3, 1) := by decide +kernel
theorem dX6_book_13 : decode cX6_book 13 = .ok (.invokevirtual 62, 3) := by decide +kernel
theorem dX6_book_16 : decode cX6_book 16 = .ok (.ireturn, 1) := by decide +kernel
theorem dX6_book_17 : decode cX6_book 17 = .ok (.aload_n 0, 1) := by decide +kernel
theorem dX6_book_18 : decode cX6_book 18 = .ok (.getfield 44, 3) := by decide +kernel
theorem dX6_book_21 : decode cX6_book 21 = .ok (.iload_n 1, 1) := by decide +kernel
theorem dX6_book_22 : decode cX6_book 22 = .ok (.aaload, 1) := by decide +kernel
theorem dX6_book_23 : decode cX6_book 23 = .ok (.astore 4, 2) := by decide +kernel
theorem dX6_book_25 : decode cX6_book 25 = .ok (.aload_n 0, 1) := by decide +kernel
theorem dX6_book_26 : decode cX6_book 26 = .ok (.invokevirtual 183, 3) := by decide +kernel
theorem dX6_book_29 : decode cX6_book 29 = .ok (.iconst 0, 1) := by decide +kernel
theorem dX6_book_30 : decode cX6_book 30 = .ok (.istore 5, 2) := by decide +kernel
theorem dX6_book_32 : decode cX6_book 32 = .ok (.iload 5, 2) := by decide +kernel
theorem dX6_book_34 : decode cX6_book 34 = .ok (.aload 4, 2) := by decide +kernel
theorem dX6_book_36 : decode cX6_book 36 = .ok (.getfield 232, 3) := by decide +kernel
theorem dX6_book_39 : decode cX6_book 39 = .ok (.if_icmp .ge 35, 3) := by decide +kernel
theorem dX6_book_42 : decode cX6_book 42 = .ok (.aload 4, 2) := by decide +kernel
theorem dX6_book_44 : decode cX6_book 44 = .ok (.iload 5, 2) := by decide +kernel
theorem dX6_book_46 : decode cX6_book 46 = .ok (.aload_n 0, 1) := by decide +kernel
theorem dX6_book_47 : decode cX6_book 47 = .ok (.getfield 23, 3) := by decide +kernel
theorem dX6_book_50 : decode cX6_book 50 = .ok (.iload_n 2, 1) := by decide +kernel
theorem dX6_book_51 : decode cX6_book 51 = .ok (.invokevirtual 66, 3) := by decide +kernel
theorem dX6_book_54 : decode cX6_book 54 = .ok (.invokevirtual 89, 3) := by decide +kernel
theorem dX6_book_57 : decode cX6_book 57 = .ok (.i2l, 1) := by decide +kernel
theorem dX6_book_58 : decode cX6_book 58 = .ok (.invokevirtual 239, 3) := by decide +kernel
theorem dX6_book_61 : decode cX6_book 61 = .ok (.aload_n 0, 1) := by decide +kernel
theorem dX6_book_62 : decode cX6_book 62 = .ok (.getfield 23, 3) := by decide +kernel
theorem dX6_book_65 : decode cX6_book 65 = .ok (.invokevirtual 193, 3) := by decide +kernel
theorem dX6_book_68 : decode cX6_book 68 = .ok (.iinc 5 1, 3) := by decide +kernel
theorem dX6_book_71 : decode cX6_book 71 = .ok (.goto (-39), 3) := by decide +kernel
theorem dX6_book_74 : decode cX6_book 74 = .ok (.aload 4, 2) := by decide +kernel
theorem dX6_book_76 : decode cX6_book 76 = .ok (.getfield 232, 3) := by decide +kernel
theorem dX6_book_79 : decode cX6_book 79 = .ok (.ireturn, 1) := by decide +kernel
theorem dX6_read_0 : decode cX6_read 0 = .ok (.aload_n 0, 1) := by decide +kernel
theorem dX6_read_1 : decode cX6_read 1 = .ok (.iload_n 1, 1) := by decide +kernel
theorem dX6_read_2 : decode cX6_read 2 = .ok (.invokevirtual 229, 3) := by decide +kernel
theorem dX6_read_5 : decode cX6_read 5 = .ok (.istore_n 3, 1) := by decide +kernel
theorem dX6_read_6 : decode cX6_read 6 = .ok (.iload_n 3, 1) := by decide +kernel
theorem dX6_read_7 : decode cX6_read 7 = .ok (.ifCond .eq 9, 3) := by decide +kernel
theorem dX6_read_10 : decode cX6_read 10 = .ok (.aload_n 0, 1) := by decide +kernel
theorem dX6_read_11 : decode cX6_read 11 = .ok (.iload_n 3, 1) := by decide +kernel
theorem dX6_read_12 : decode cX6_read 12 = .ok (.invokevirtual 62, 3) := by decide +kernel
theorem dX6_read_15 : decode cX6_read 15 = .ok (.ireturn, 1) := by decide +kernel
theorem dX6_read_16 : decode cX6_read 16 = .ok (.aload_n 0, 1) := by decide +kernel
theorem dX6_read_17 : decode cX6_read 17 = .ok (.getfield 10, 3) := by decide +kernel
theorem dX6_read_20 : decode cX6_read 20 = .ok (.iload_n 2, 1) := by decide +kernel
theorem dX6_read_21 : decode cX6_read 21 = .ok (.invokevirtual 117, 3) := by decide +kernel
theorem dX6_read_24 : decode cX6_read 24 = .ok (.ifCond .ne 10, 3) := by decide +kernel
theorem dX6_read_27 : decode cX6_read 27 = .ok (.aload_n 0, 1) := by decide +kernel
theorem dX6_read_28 : decode cX6_read 28 = .ok (.ldc 61, 2) := by decide +kernel
theorem dX6_read_30 : decode cX6_read 30 = .ok (.invokevirtual 62, 3) := by decide +kernel
theorem dX6_read_33 : decode cX6_read 33 = .ok (.ireturn, 1) := by decide +kernel
theorem dX6_read_34 : decode cX6_read 34 = .ok (.aload_n 0, 1) := by decide +kernel
theorem dX6_read_35 : decode cX6_read 35 = .ok (.invokevirtual 183, 3) := by decide +kernel
theorem dX6_read_38 : decode cX6_read 38 = .ok (.aload_n 0, 1) := by decide +kernel
theorem dX6_read_39 : decode cX6_read 39 = .ok (.getfield 23, 3) := by decide +kernel
theorem dX6_read_42 : decode cX6_read 42 = .ok (.getfield 120, 3) := by decide +kernel
theorem dX6_read_45 : decode cX6_read 45 = .ok (.iload_n 2, 1) := by decide +kernel
theorem dX6_read_46 : decode cX6_read 46 = .ok (.aaload, 1) := by decide +kernel
theorem dX6_read_47 : decode cX6_read 47 = .ok (.astore 4, 2) := by decide +kernel
theorem dX6_read_49 : decode cX6_read 49 = .ok (.iconst 0, 1) := by decide +kernel
theorem dX6_read_50 : decode cX6_read 50 = .ok (.istore 5, 2) := by decide +kernel
theorem dX6_read_52 : decode cX6_read 52 = .ok (.iconst 0, 1) := by decide +kernel
theorem dX6_read_53 : decode cX6_read 53 = .ok (.istore 6, 2) := by decide +kernel
theorem dX6_read_55 : decode cX6_read 55 = .ok (.iload 6, 2) := by decide +kernel
theorem dX6_read_57 : decode cX6_read 57 = .ok (.bipush 6, 2) := by decide +kernel
theorem dX6_read_59 : decode cX6_read 59 = .ok (.if_icmp .ge 57, 3) := by decide +kernel
theorem dX6_read_62 : decode cX6_read 62 = .ok (.aload 4, 2) := by decide +kernel
theorem dX6_read_64 : decode cX6_read 64 = .ok (.iload 6, 2) := by decide +kernel
theorem dX6_read_66 : decode cX6_read 66 = .ok (.putfield 124, 3) := by decide +kernel
theorem dX6_read_69 : decode cX6_read 69 = .ok (.iconst 0, 1) := by decide +kernel
theorem dX6_read_70 : decode cX6_read 70 = .ok (.istore 7, 2) := by decide +kernel
theorem dX6_read_72 : decode cX6_read 72 = .ok (.iload 7, 2) := by decide +kernel
theorem dX6_read_74 : decode cX6_read 74 = .ok (.bipush 12, 2) := by decide +kernel
theorem dX6_read_76 : decode cX6_read 76 = .ok (.if_icmp .ge 34, 3) := by decide +kernel
theorem dX6_read_79 : decode cX6_read 79 = .ok (.aload 4, 2) := by decide +kernel
theorem dX6_read_81 : decode cX6_read 81 = .ok (.iload 7, 2) := by decide +kernel
theorem dX6_read_83 : decode cX6_read 83 = .ok (.putfield 132, 3) := by decide +kernel
theorem dX6_read_86 : decode cX6_read 86 = .ok (.aload_n 0, 1) := by decide +kernel
theorem dX6_read_87 : decode cX6_read 87 = .ok (.aload_n 0, 1) := by decide +kernel
theorem dX6_read_88 : decode cX6_read 88 = .ok (.getfield 44, 3) := by decide +kernel
theorem dX6_read_91 : decode cX6_read 91 = .ok (.iload_n 1, 1) := by decide +kernel
theorem dX6_read_92 : decode cX6_read 92 = .ok (.aaload, 1) := by decide +kernel
theorem dX6_read_93 : decode cX6_read 93 = .ok (.aload 4, 2) := by decide +kernel
theorem dX6_read_95 : decode cX6_read 95 = .ok (.invokevirtual 264, 3) := by decide +kernel
theorem dX6_read_98 : decode cX6_read 98 = .ok (.ifCond .eq 6, 3) := by decide +kernel
theorem dX6_read_101 : decode cX6_read 101 = .ok (.iinc 5 1, 3) := by decide +kernel
theorem dX6_read_104 : decode cX6_read 104 = .ok (.iinc 7 1, 3) := by decide +kernel
theorem dX6_read_107 : decode cX6_read 107 = .ok (.goto (-35), 3) := by decide +kernel
theorem dX6_read_110 : decode cX6_read 110 = .ok (.iinc 6 1, 3) := by decide +kernel
theorem dX6_read_113 : decode cX6_read 113 = .ok (.goto (-58), 3) := by decide +kernel
theorem dX6_read_116 : decode cX6_read 116 = .ok (.iload 5, 2) := by decide +kernel
theorem dX6_read_118 : decode cX6_read 118 = .ok (.ireturn, 1) := by decide +kernel
theorem dX6_image_0 : decode cX6_image 0 = .ok (.aload_n 0, 1) := by decide +kernel
theorem dX6_image_1 : decode cX6_image 1 = .ok (.getfield 16, 3) := by decide +kernel
theorem dX6_image_4 : decode cX6_image 4 = .ok (.aload_n 0, 1) := by decide +kernel
theorem dX6_image_5 : decode cX6_image 5 = .ok (.getfield 10, 3) := by decide +kernel
theorem dX6_image_8 : decode cX6_image 8 = .ok (.invokevirtual 214, 3) := by decide +kernel
theorem dX6_image_11 : decode cX6_image 11 = .ok (.aload_n 0, 1) := by decide +kernel
theorem dX6_image_12 : decode cX6_image 12 = .ok (.iconst 1, 1) := by decide +kernel
theorem dX6_image_13 : decode cX6_image 13 = .ok (.putfield 19, 3) := by decide +kernel
theorem dX6_image_16 : decode cX6_image 16 = .ok (.iconst 1, 1) := by decide +kernel
theorem dX6_image_17 : decode cX6_image 17 = .ok (.ireturn, 1) := by decide +kernel
theorem dX6_undo_0 : decode cX6_undo 0 = .ok (.aload_n 0, 1) := by decide +kernel
theorem dX6_undo_1 : decode cX6_undo 1 = .ok (.getfield 19, 3) := by decide +kernel
theorem dX6_undo_4 : decode cX6_undo 4 = .ok (.ifCond .ne 10, 3) := by decide +kernel
theorem dX6_undo_7 : decode cX6_undo 7 = .ok (.aload_n 0, 1) := by decide +kernel
theorem dX6_undo_8 : decode cX6_undo 8 = .ok (.ldc 149, 2) := by decide +kernel
theorem dX6_undo_10 : decode cX6_undo 10 = .ok (.invokevirtual 62, 3) := by decide +kernel
theorem dX6_undo_13 : decode cX6_undo 13 = .ok (.ireturn, 1) := by decide +kernel
theorem dX6_undo_14 : decode cX6_undo 14 = .ok (.aload_n 0, 1) := by decide +kernel
theorem dX6_undo_15 : decode cX6_undo 15 = .ok (.getfield 10, 3) := by decide +kernel
theorem dX6_undo_18 : decode cX6_undo 18 = .ok (.aload_n 0, 1) := by decide +kernel
theorem dX6_undo_19 : decode cX6_undo 19 = .ok (.getfield 16, 3) := by decide +kernel
theorem dX6_undo_22 : decode cX6_undo 22 = .ok (.invokevirtual 214, 3) := by decide +kernel
theorem dX6_undo_25 : decode cX6_undo 25 = .ok (.aload_n 0, 1) := by decide +kernel
theorem dX6_undo_26 : decode cX6_undo 26 = .ok (.getfield 10, 3) := by decide +kernel
theorem dX6_undo_29 : decode cX6_undo 29 = .ok (.getfield 110, 3) := by decide +kernel
theorem dX6_undo_32 : decode cX6_undo 32 = .ok (.ireturn, 1) := by decide +kernel
theorem dX6_tear_0 : decode cX6_tear 0 = .ok (.aload_n 0, 1) := by decide +kernel
theorem dX6_tear_1 : decode cX6_tear 1 = .ok (.getfield 19, 3) := by decide +kernel
theorem dX6_tear_4 : decode cX6_tear 4 = .ok (.ifCond .eq 7, 3) := by decide +kernel
theorem dX6_tear_7 : decode cX6_tear 7 = .ok (.iconst 1, 1) := by decide +kernel
theorem dX6_tear_8 : decode cX6_tear 8 = .ok (.goto 4, 3) := by decide +kernel
theorem dX6_tear_11 : decode cX6_tear 11 = .ok (.iconst 0, 1) := by decide +kernel
theorem dX6_tear_12 : decode cX6_tear 12 = .ok (.istore_n 1, 1) := by decide +kernel
theorem dX6_tear_13 : decode cX6_tear 13 = .ok (.aload_n 0, 1) := by decide +kernel
theorem dX6_tear_14 : decode cX6_tear 14 = .ok (.iconst 0, 1) := by decide +kernel
theorem dX6_tear_15 : decode cX6_tear 15 = .ok (.putfield 19, 3) := by decide +kernel
theorem dX6_tear_18 : decode cX6_tear 18 = .ok (.iload_n 1, 1) := by decide +kernel
theorem dX6_tear_19 : decode cX6_tear 19 = .ok (.ireturn, 1) := by decide +kernel
theorem dX6_count_0 : decode cX6_count 0 = .ok (.iload_n 1, 1) := by decide +kernel
theorem dX6_count_1 : decode cX6_count 1 = .ok (.tableswitch 63 0 3 #[31, 39, 47, 55], 31) := by decide +kernel
theorem dX6_count_32 : decode cX6_count 32 = .ok (.aload_n 0, 1) := by decide +kernel
theorem dX6_count_33 : decode cX6_count 33 = .ok (.getfield 10, 3) := by decide +kernel
theorem dX6_count_36 : decode cX6_count 36 = .ok (.getfield 110, 3) := by decide +kernel
theorem dX6_count_39 : decode cX6_count 39 = .ok (.ireturn, 1) := by decide +kernel
theorem dX6_count_40 : decode cX6_count 40 = .ok (.aload_n 0, 1) := by decide +kernel
theorem dX6_count_41 : decode cX6_count 41 = .ok (.getfield 29, 3) := by decide +kernel
theorem dX6_count_44 : decode cX6_count 44 = .ok (.getfield 207, 3) := by decide +kernel
theorem dX6_count_47 : decode cX6_count 47 = .ok (.ireturn, 1) := by decide +kernel
theorem dX6_count_48 : decode cX6_count 48 = .ok (.aload_n 0, 1) := by decide +kernel
theorem dX6_count_49 : decode cX6_count 49 = .ok (.getfield 10, 3) := by decide +kernel
theorem dX6_count_52 : decode cX6_count 52 = .ok (.invokevirtual 268, 3) := by decide +kernel
theorem dX6_count_55 : decode cX6_count 55 = .ok (.ireturn, 1) := by decide +kernel
theorem dX6_count_56 : decode cX6_count 56 = .ok (.aload_n 0, 1) := by decide +kernel
theorem dX6_count_57 : decode cX6_count 57 = .ok (.getfield 10, 3) := by decide +kernel
theorem dX6_count_60 : decode cX6_count 60 = .ok (.invokevirtual 271, 3) := by decide +kernel
theorem dX6_count_63 : decode cX6_count 63 = .ok (.ireturn, 1) := by decide +kernel
theorem dX6_count_64 : decode cX6_count 64 = .ok (.aload_n 0, 1) := by decide +kernel
theorem dX6_count_65 : decode cX6_count 65 = .ok (.ldc 61, 2) := by decide +kernel
theorem dX6_count_67 : decode cX6_count 67 = .ok (.invokevirtual 62, 3) := by decide +kernel
theorem dX6_count_70 : decode cX6_count 70 = .ok (.ireturn, 1) := by decide +kernel
theorem dX6_status_0 : decode cX6_status 0 = .ok (.iload_n 1, 1) := by decide +kernel
theorem dX6_status_1 : decode cX6_status 1 = .ok (.iconst (-1), 1) := by decide +kernel
theorem dX6_status_2 : decode cX6_status 2 = .ok (.bipush 6, 2) := by decide +kernel
theorem dX6_status_4 : decode cX6_status 4 = .ok (.invokestatic 57, 3) := by decide +kernel
theorem dX6_status_7 : decode cX6_status 7 = .ok (.ifCond .ne 10, 3) := by decide +kernel
theorem dX6_status_10 : decode cX6_status 10 = .ok (.aload_n 0, 1) := by decide +kernel
theorem dX6_status_11 : decode cX6_status 11 = .ok (.ldc 61, 2) := by decide +kernel
theorem dX6_status_13 : decode cX6_status 13 = .ok (.invokevirtual 62, 3) := by decide +kernel
theorem dX6_status_16 : decode cX6_status 16 = .ok (.ireturn, 1) := by decide +kernel
theorem dX6_status_17 : decode cX6_status 17 = .ok (.iload_n 1, 1) := by decide +kernel
theorem dX6_status_18 : decode cX6_status 18 = .ok (.ifCond .lt 10, 3) := by decide +kernel
theorem dX6_status_21 : decode cX6_status 21 = .ok (.aload_n 0, 1) := by decide +kernel
theorem dX6_status_22 : decode cX6_status 22 = .ok (.getfield 49, 3) := by decide +kernel
theorem dX6_status_25 : decode cX6_status 25 = .ok (.iload_n 1, 1) := by decide +kernel
theorem dX6_status_26 : decode cX6_status 26 = .ok (.iaload, 1) := by decide +kernel
theorem dX6_status_27 : decode cX6_status 27 = .ok (.ireturn, 1) := by decide +kernel
theorem dX6_status_28 : decode cX6_status 28 = .ok (.iconst 0, 1) := by decide +kernel
theorem dX6_status_29 : decode cX6_status 29 = .ok (.istore_n 2, 1) := by decide +kernel
theorem dX6_status_30 : decode cX6_status 30 = .ok (.iconst 0, 1) := by decide +kernel
theorem dX6_status_31 : decode cX6_status 31 = .ok (.istore_n 3, 1) := by decide +kernel
theorem dX6_status_32 : decode cX6_status 32 = .ok (.iload_n 3, 1) := by decide +kernel
theorem dX6_status_33 : decode cX6_status 33 = .ok (.bipush 7, 2) := by decide +kernel
theorem dX6_status_35 : decode cX6_status 35 = .ok (.if_icmp .ge 18, 3) := by decide +kernel
theorem dX6_status_38 : decode cX6_status 38 = .ok (.iload_n 2, 1) := by decide +kernel
theorem dX6_status_39 : decode cX6_status 39 = .ok (.aload_n 0, 1) := by decide +kernel
theorem dX6_status_40 : decode cX6_status 40 = .ok (.getfield 49, 3) := by decide +kernel
theorem dX6_status_43 : decode cX6_status 43 = .ok (.iload_n 3, 1) := by decide +kernel
theorem dX6_status_44 : decode cX6_status 44 = .ok (.iaload, 1) := by decide +kernel
theorem dX6_status_45 : decode cX6_status 45 = .ok (.iadd, 1) := by decide +kernel
theorem dX6_status_46 : decode cX6_status 46 = .ok (.istore_n 2, 1) := by decide +kernel
theorem dX6_status_47 : decode cX6_status 47 = .ok (.iinc 3 1, 3) := by decide +kernel
theorem dX6_status_50 : decode cX6_status 50 = .ok (.goto (-18), 3) := by decide +kernel
theorem dX6_status_53 : decode cX6_status 53 = .ok (.iload_n 2, 1) := by decide +kernel
theorem dX6_status_54 : decode cX6_status 54 = .ok (.ireturn, 1) := by decide +kernel
theorem dX6_found_0 : decode cX6_found 0 = .ok (.ldc 61, 2) := by decide +kernel
theorem dX6_found_2 : decode cX6_found 2 = .ok (.iload_n 1, 1) := by decide +kernel
theorem dX6_found_3 : decode cX6_found 3 = .ok (.isub, 1) := by decide +kernel
theorem dX6_found_4 : decode cX6_found 4 = .ok (.istore_n 2, 1) := by decide +kernel
theorem dX6_found_5 : decode cX6_found 5 = .ok (.iload_n 2, 1) := by decide +kernel
theorem dX6_found_6 : decode cX6_found 6 = .ok (.iconst 0, 1) := by decide +kernel
theorem dX6_found_7 : decode cX6_found 7 = .ok (.bipush 6, 2) := by decide +kernel
theorem dX6_found_9 : decode cX6_found 9 = .ok (.invokestatic 57, 3) := by decide +kernel
theorem dX6_found_12 : decode cX6_found 12 = .ok (.ifCond .eq 13, 3) := by decide +kernel
theorem dX6_found_15 : decode cX6_found 15 = .ok (.aload_n 0, 1) := by decide +kernel
theorem dX6_found_16 : decode cX6_found 16 = .ok (.getfield 49, 3) := by decide +kernel
theorem dX6_found_19 : decode cX6_found 19 = .ok (.iload_n 2, 1) := by decide +kernel
theorem dX6_found_20 : decode cX6_found 20 = .ok (.dup2, 1) := by decide +kernel
theorem dX6_found_21 : decode cX6_found 21 = .ok (.iaload, 1) := by decide +kernel
theorem dX6_found_22 : decode cX6_found 22 = .ok (.iconst 1, 1) := by decide +kernel
theorem dX6_found_23 : decode cX6_found 23 = .ok (.iadd, 1) := by decide +kernel
theorem dX6_found_24 : decode cX6_found 24 = .ok (.iastore, 1) := by decide +kernel
theorem dX6_found_25 : decode cX6_found 25 = .ok (.iload_n 1, 1) := by decide +kernel
theorem dX6_found_26 : decode cX6_found 26 = .ok (.ireturn, 1) := by decide +kernel
theorem dX6_toneOrNone_0 : decode cX6_toneOrNone 0 = .ok (.iload_n 2, 1) := by decide +kernel
theorem dX6_toneOrNone_1 : decode cX6_toneOrNone 1 = .ok (.aload_n 1, 1) := by decide +kernel
theorem dX6_toneOrNone_2 : decode cX6_toneOrNone 2 = .ok (.getfield 70, 3) := by decide +kernel
theorem dX6_toneOrNone_5 : decode cX6_toneOrNone 5 = .ok (.if_icmp .ge 11, 3) := by decide +kernel
theorem dX6_toneOrNone_8 : decode cX6_toneOrNone 8 = .ok (.aload_n 1, 1) := by decide +kernel
theorem dX6_toneOrNone_9 : decode cX6_toneOrNone 9 = .ok (.iload_n 2, 1) := by decide +kernel
theorem dX6_toneOrNone_10 : decode cX6_toneOrNone 10 = .ok (.invokevirtual 274, 3) := by decide +kernel
theorem dX6_toneOrNone_13 : decode cX6_toneOrNone 13 = .ok (.goto 9, 3) := by decide +kernel
theorem dX6_toneOrNone_16 : decode cX6_toneOrNone 16 = .ok (.aload_n 0, 1) := by decide +kernel
theorem dX6_toneOrNone_17 : decode cX6_toneOrNone 17 = .ok (.ldc 149, 2) := by decide +kernel
theorem dX6_toneOrNone_19 : decode cX6_toneOrNone 19 = .ok (.invokevirtual 62, 3) := by decide +kernel
theorem dX6_toneOrNone_22 : decode cX6_toneOrNone 22 = .ok (.ireturn, 1) := by decide +kernel
theorem dX6_startTrial_0 : decode cX6_startTrial 0 = .ok (.aload_n 0, 1) := by decide +kernel
theorem dX6_startTrial_1 : decode cX6_startTrial 1 = .ok (.getfield 23, 3) := by decide +kernel
theorem dX6_startTrial_4 : decode cX6_startTrial 4 = .ok (.aload_n 0, 1) := by decide +kernel
theorem dX6_startTrial_5 : decode cX6_startTrial 5 = .ok (.getfield 10, 3) := by decide +kernel
theorem dX6_startTrial_8 : decode cX6_startTrial 8 = .ok (.invokevirtual 214, 3) := by decide +kernel
theorem dX6_startTrial_11 : decode cX6_startTrial 11 = .ok (.return_, 1) := by decide +kernel
theorem dX6_soonestHome_0 : decode cX6_soonestHome 0 = .ok (.ldc 149, 2) := by decide +kernel
theorem dX6_soonestHome_2 : decode cX6_soonestHome 2 = .ok (.istore 6, 2) := by decide +kernel
theorem dX6_soonestHome_4 : decode cX6_soonestHome 4 = .ok (.iload 5, 2) := by decide +kernel
theorem dX6_soonestHome_6 : decode cX6_soonestHome 6 = .ok (.istore 7, 2) := by decide +kernel
theorem dX6_soonestHome_8 : decode cX6_soonestHome 8 = .ok (.iconst 0, 1) := by decide +kernel
theorem dX6_soonestHome_9 : decode cX6_soonestHome 9 = .ok (.istore 8, 2) := by decide +kernel
theorem dX6_soonestHome_11 : decode cX6_soonestHome 11 = .ok (.iload 8, 2) := by decide +kernel
theorem dX6_soonestHome_13 : decode cX6_soonestHome 13 = .ok (.iload 4, 2) := by decide +kernel
theorem dX6_soonestHome_15 : decode cX6_soonestHome 15 = .ok (.if_icmp .ge 57, 3) := by decide +kernel
theorem dX6_soonestHome_18 : decode cX6_soonestHome 18 = .ok (.aload_n 0, 1) := by decide +kernel
theorem dX6_soonestHome_19 : decode cX6_soonestHome 19 = .ok (.invokevirtual 183, 3) := by decide +kernel
theorem dX6_soonestHome_22 : decode cX6_soonestHome 22 = .ok (.aload_n 0, 1) := by decide +kernel
theorem dX6_soonestHome_23 : decode cX6_soonestHome 23 = .ok (.getfield 23, 3) := by decide +kernel
theorem dX6_soonestHome_26 : decode cX6_soonestHome 26 = .ok (.getfield 120, 3) := by decide +kernel
theorem dX6_soonestHome_29 : decode cX6_soonestHome 29 = .ok (.iload_n 1, 1) := by decide +kernel
theorem dX6_soonestHome_30 : decode cX6_soonestHome 30 = .ok (.aaload, 1) := by decide +kernel
theorem dX6_soonestHome_31 : decode cX6_soonestHome 31 = .ok (.iload_n 3, 1) := by decide +kernel
theorem dX6_soonestHome_32 : decode cX6_soonestHome 32 = .ok (.iload 8, 2) := by decide +kernel
theorem dX6_soonestHome_34 : decode cX6_soonestHome 34 = .ok (.invokevirtual 277, 3) := by decide +kernel
theorem dX6_soonestHome_37 : decode cX6_soonestHome 37 = .ok (.aload_n 0, 1) := by decide +kernel
theorem dX6_soonestHome_38 : decode cX6_soonestHome 38 = .ok (.getfield 23, 3) := by decide +kernel
theorem dX6_soonestHome_41 : decode cX6_soonestHome 41 = .ok (.iload_n 2, 1) := by decide +kernel
theorem dX6_soonestHome_42 : decode cX6_soonestHome 42 = .ok (.iload 7, 2) := by decide +kernel
theorem dX6_soonestHome_44 : decode cX6_soonestHome 44 = .ok (.iconst 1, 1) := by decide +kernel
theorem dX6_soonestHome_45 : decode cX6_soonestHome 45 = .ok (.isub, 1) := by decide +kernel
theorem dX6_soonestHome_46 : decode cX6_soonestHome 46 = .ok (.invokevirtual 186, 3) := by decide +kernel
theorem dX6_soonestHome_49 : decode cX6_soonestHome 49 = .ok (.istore 9, 2) := by decide +kernel
theorem dX6_soonestHome_51 : decode cX6_soonestHome 51 = .ok (.iload 9, 2) := by decide +kernel
theorem dX6_soonestHome_53 : decode cX6_soonestHome 53 = .ok (.iload 7, 2) := by decide +kernel
theorem dX6_soonestHome_55 : decode cX6_soonestHome 55 = .ok (.if_icmp .ge 11, 3) := by decide +kernel
theorem dX6_soonestHome_58 : decode cX6_soonestHome 58 = .ok (.iload 9, 2) := by decide +kernel
theorem dX6_soonestHome_60 : decode cX6_soonestHome 60 = .ok (.istore 7, 2) := by decide +kernel
theorem dX6_soonestHome_62 : decode cX6_soonestHome 62 = .ok (.iload 8, 2) := by decide +kernel
theorem dX6_soonestHome_64 : decode cX6_soonestHome 64 = .ok (.istore 6, 2) := by decide +kernel
theorem dX6_soonestHome_66 : decode cX6_soonestHome 66 = .ok (.iinc 8 1, 3) := by decide +kernel
theorem dX6_soonestHome_69 : decode cX6_soonestHome 69 = .ok (.goto (-58), 3) := by decide +kernel
theorem dX6_soonestHome_72 : decode cX6_soonestHome 72 = .ok (.iload 6, 2) := by decide +kernel
theorem dX6_soonestHome_74 : decode cX6_soonestHome 74 = .ok (.ldc 149, 2) := by decide +kernel
theorem dX6_soonestHome_76 : decode cX6_soonestHome 76 = .ok (.if_icmp .ne 12, 3) := by decide +kernel
theorem dX6_soonestHome_79 : decode cX6_soonestHome 79 = .ok (.aload_n 0, 1) := by decide +kernel
theorem dX6_soonestHome_80 : decode cX6_soonestHome 80 = .ok (.ldc 149, 2) := by decide +kernel
theorem dX6_soonestHome_82 : decode cX6_soonestHome 82 = .ok (.invokevirtual 62, 3) := by decide +kernel
theorem dX6_soonestHome_85 : decode cX6_soonestHome 85 = .ok (.goto 5, 3) := by decide +kernel
theorem dX6_soonestHome_88 : decode cX6_soonestHome 88 = .ok (.iload 6, 2) := by decide +kernel
theorem dX6_soonestHome_90 : decode cX6_soonestHome 90 = .ok (.ireturn, 1) := by decide +kernel
theorem dX6_startTrialSwapped_0 : decode cX6_startTrialSwapped 0 = .ok (.aload_n 0, 1) := by decide +kernel
theorem dX6_startTrialSwapped_1 : decode cX6_startTrialSwapped 1 = .ok (.getfield 10, 3) := by decide +kernel
theorem dX6_startTrialSwapped_4 : decode cX6_startTrialSwapped 4 = .ok (.getfield 120, 3) := by decide +kernel
theorem dX6_startTrialSwapped_7 : decode cX6_startTrialSwapped 7 = .ok (.iload_n 1, 1) := by decide +kernel
theorem dX6_startTrialSwapped_8 : decode cX6_startTrialSwapped 8 = .ok (.aaload, 1) := by decide +kernel
theorem dX6_startTrialSwapped_9 : decode cX6_startTrialSwapped 9 = .ok (.getfield 129, 3) := by decide +kernel
theorem dX6_startTrialSwapped_12 : decode cX6_startTrialSwapped 12 = .ok (.istore_n 3, 1) := by decide +kernel
theorem dX6_startTrialSwapped_13 : decode cX6_startTrialSwapped 13 = .ok (.aload_n 0, 1) := by decide +kernel
theorem dX6_startTrialSwapped_14 : decode cX6_startTrialSwapped 14 = .ok (.getfield 10, 3) := by decide +kernel
theorem dX6_startTrialSwapped_17 : decode cX6_startTrialSwapped 17 = .ok (.getfield 120, 3) := by decide +kernel
theorem dX6_startTrialSwapped_20 : decode cX6_startTrialSwapped 20 = .ok (.iload_n 2, 1) := by decide +kernel
theorem dX6_startTrialSwapped_21 : decode cX6_startTrialSwapped 21 = .ok (.aaload, 1) := by decide +kernel
theorem dX6_startTrialSwapped_22 : decode cX6_startTrialSwapped 22 = .ok (.getfield 129, 3) := by decide +kernel
theorem dX6_startTrialSwapped_25 : decode cX6_startTrialSwapped 25 = .ok (.istore 4, 2) := by decide +kernel
theorem dX6_startTrialSwapped_27 : decode cX6_startTrialSwapped 27 = .ok (.iload_n 3, 1) := by decide +kernel
theorem dX6_startTrialSwapped_28 : decode cX6_startTrialSwapped 28 = .ok (.iload 4, 2) := by decide +kernel
theorem dX6_startTrialSwapped_30 : decode cX6_startTrialSwapped 30 = .ok (.if_icmp .ne 5, 3) := by decide +kernel
theorem dX6_startTrialSwapped_33 : decode cX6_startTrialSwapped 33 = .ok (.iconst 0, 1) := by decide +kernel
theorem dX6_startTrialSwapped_34 : decode cX6_startTrialSwapped 34 = .ok (.ireturn, 1) := by decide +kernel
theorem dX6_startTrialSwapped_35 : decode cX6_startTrialSwapped 35 = .ok (.aload_n 0, 1) := by decide +kernel
theorem dX6_startTrialSwapped_36 : decode cX6_startTrialSwapped 36 = .ok (.invokevirtual 183, 3) := by decide +kernel
theorem dX6_startTrialSwapped_39 : decode cX6_startTrialSwapped 39 = .ok (.aload_n 0, 1) := by decide +kernel
theorem dX6_startTrialSwapped_40 : decode cX6_startTrialSwapped 40 = .ok (.getfield 23, 3) := by decide +kernel
theorem dX6_startTrialSwapped_43 : decode cX6_startTrialSwapped 43 = .ok (.getfield 120, 3) := by decide +kernel
theorem dX6_startTrialSwapped_46 : decode cX6_startTrialSwapped 46 = .ok (.iload_n 1, 1) := by decide +kernel
theorem dX6_startTrialSwapped_47 : decode cX6_startTrialSwapped 47 = .ok (.aaload, 1) := by decide +kernel
theorem dX6_startTrialSwapped_48 : decode cX6_startTrialSwapped 48 = .ok (.iload 4, 2) := by decide +kernel
theorem dX6_startTrialSwapped_50 : decode cX6_startTrialSwapped 50 = .ok (.putfield 129, 3) := by decide +kernel
theorem dX6_startTrialSwapped_53 : decode cX6_startTrialSwapped 53 = .ok (.aload_n 0, 1) := by decide +kernel
theorem dX6_startTrialSwapped_54 : decode cX6_startTrialSwapped 54 = .ok (.getfield 23, 3) := by decide +kernel
theorem dX6_startTrialSwapped_57 : decode cX6_startTrialSwapped 57 = .ok (.getfield 120, 3) := by decide +kernel
theorem dX6_startTrialSwapped_60 : decode cX6_startTrialSwapped 60 = .ok (.iload_n 2, 1) := by decide +kernel
theorem dX6_startTrialSwapped_61 : decode cX6_startTrialSwapped 61 = .ok (.aaload, 1) := by decide +kernel
theorem dX6_startTrialSwapped_62 : decode cX6_startTrialSwapped 62 = .ok (.iload_n 3, 1) := by decide +kernel
theorem dX6_startTrialSwapped_63 : decode cX6_startTrialSwapped 63 = .ok (.putfield 129, 3) := by decide +kernel
theorem dX6_startTrialSwapped_66 : decode cX6_startTrialSwapped 66 = .ok (.iconst 1, 1) := by decide +kernel
theorem dX6_startTrialSwapped_67 : decode cX6_startTrialSwapped 67 = .ok (.ireturn, 1) := by decide +kernel
theorem dX6_isJustWritten_0 : decode cX6_isJustWritten 0 = .ok (.aload_n 0, 1) := by decide +kernel
theorem dX6_isJustWritten_1 : decode cX6_isJustWritten 1 = .ok (.getfield 10, 3) := by decide +kernel
theorem dX6_isJustWritten_4 : decode cX6_isJustWritten 4 = .ok (.aload_n 2, 1) := by decide +kernel
theorem dX6_isJustWritten_5 : decode cX6_isJustWritten 5 = .ok (.invokevirtual 141, 3) := by decide +kernel
theorem dX6_isJustWritten_8 : decode cX6_isJustWritten 8 = .ok (.astore_n 3, 1) := by decide +kernel
theorem dX6_isJustWritten_9 : decode cX6_isJustWritten 9 = .ok (.aload_n 1, 1) := by decide +kernel
theorem dX6_isJustWritten_10 : decode cX6_isJustWritten 10 = .ok (.getfield 232, 3) := by decide +kernel
theorem dX6_isJustWritten_13 : decode cX6_isJustWritten 13 = .ok (.aload_n 2, 1) := by decide +kernel
theorem dX6_isJustWritten_14 : decode cX6_isJustWritten 14 = .ok (.aload_n 3, 1) := by decide +kernel
theorem dX6_isJustWritten_15 : decode cX6_isJustWritten 15 = .ok (.invokevirtual 145, 3) := by decide +kernel
theorem dX6_isJustWritten_18 : decode cX6_isJustWritten 18 = .ok (.if_icmp .eq 5, 3) := by decide +kernel
theorem dX6_isJustWritten_21 : decode cX6_isJustWritten 21 = .ok (.iconst 0, 1) := by decide +kernel
theorem dX6_isJustWritten_22 : decode cX6_isJustWritten 22 = .ok (.ireturn, 1) := by decide +kernel
theorem dX6_isJustWritten_23 : decode cX6_isJustWritten 23 = .ok (.iconst 0, 1) := by decide +kernel
theorem dX6_isJustWritten_24 : decode cX6_isJustWritten 24 = .ok (.istore 4, 2) := by decide +kernel
theorem dX6_isJustWritten_26 : decode cX6_isJustWritten 26 = .ok (.iload 4, 2) := by decide +kernel
theorem dX6_isJustWritten_28 : decode cX6_isJustWritten 28 = .ok (.aload_n 1, 1) := by decide +kernel
theorem dX6_isJustWritten_29 : decode cX6_isJustWritten 29 = .ok (.getfield 232, 3) := by decide +kernel
theorem dX6_isJustWritten_32 : decode cX6_isJustWritten 32 = .ok (.if_icmp .ge 30, 3) := by decide +kernel
theorem dX6_isJustWritten_35 : decode cX6_isJustWritten 35 = .ok (.aload_n 1, 1) := by decide +kernel
theorem dX6_isJustWritten_36 : decode cX6_isJustWritten 36 = .ok (.getfield 235, 3) := by decide +kernel
theorem dX6_isJustWritten_39 : decode cX6_isJustWritten 39 = .ok (.iload 4, 2) := by decide +kernel
theorem dX6_isJustWritten_41 : decode cX6_isJustWritten 41 = .ok (.laload, 1) := by decide +kernel
theorem dX6_isJustWritten_42 : decode cX6_isJustWritten 42 = .ok (.aload_n 2, 1) := by decide +kernel
theorem dX6_isJustWritten_43 : decode cX6_isJustWritten 43 = .ok (.aload_n 3, 1) := by decide +kernel
theorem dX6_isJustWritten_44 : decode cX6_isJustWritten 44 = .ok (.iload 4, 2) := by decide +kernel
theorem dX6_isJustWritten_46 : decode cX6_isJustWritten 46 = .ok (.invokevirtual 150, 3) := by decide +kernel
theorem dX6_isJustWritten_49 : decode cX6_isJustWritten 49 = .ok (.i2l, 1) := by decide +kernel
theorem dX6_isJustWritten_50 : decode cX6_isJustWritten 50 = .ok (.lcmp, 1) := by decide +kernel
theorem dX6_isJustWritten_51 : decode cX6_isJustWritten 51 = .ok (.ifCond .eq 5, 3) := by decide +kernel
theorem dX6_isJustWritten_54 : decode cX6_isJustWritten 54 = .ok (.iconst 0, 1) := by decide +kernel
theorem dX6_isJustWritten_55 : decode cX6_isJustWritten 55 = .ok (.ireturn, 1) := by decide +kernel
theorem dX6_isJustWritten_56 : decode cX6_isJustWritten 56 = .ok (.iinc 4 1, 3) := by decide +kernel
theorem dX6_isJustWritten_59 : decode cX6_isJustWritten 59 = .ok (.goto (-33), 3) := by decide +kernel
theorem dX6_isJustWritten_62 : decode cX6_isJustWritten 62 = .ok (.iconst 1, 1) := by decide +kernel
theorem dX6_isJustWritten_63 : decode cX6_isJustWritten 63 = .ok (.ireturn, 1) := by decide +kernel
theorem dX6_faultOfSheet_0 : decode cX6_faultOfSheet 0 = .ok (.iload_n 1, 1) := by decide +kernel
theorem dX6_faultOfSheet_1 : decode cX6_faultOfSheet 1 = .ok (.invokestatic 218, 3) := by decide +kernel
theorem dX6_faultOfSheet_4 : decode cX6_faultOfSheet 4 = .ok (.ifCond .ne 6, 3) := by decide +kernel
theorem dX6_faultOfSheet_7 : decode cX6_faultOfSheet 7 = .ok (.ldc 61, 2) := by decide +kernel
theorem dX6_faultOfSheet_9 : decode cX6_faultOfSheet 9 = .ok (.ireturn, 1) := by decide +kernel
theorem dX6_faultOfSheet_10 : decode cX6_faultOfSheet 10 = .ok (.aload_n 0, 1) := by decide +kernel
theorem dX6_faultOfSheet_11 : decode cX6_faultOfSheet 11 = .ok (.getfield 44, 3) := by decide +kernel
theorem dX6_faultOfSheet_14 : decode cX6_faultOfSheet 14 = .ok (.iload_n 1, 1) := by decide +kernel
theorem dX6_faultOfSheet_15 : decode cX6_faultOfSheet 15 = .ok (.aaload, 1) := by decide +kernel
theorem dX6_faultOfSheet_16 : decode cX6_faultOfSheet 16 = .ok (.invokevirtual 243, 3) := by decide +kernel
theorem dX6_faultOfSheet_19 : decode cX6_faultOfSheet 19 = .ok (.ifCond .eq 8, 3) := by decide +kernel
theorem dX6_faultOfSheet_22 : decode cX6_faultOfSheet 22 = .ok (.ldc 246, 2) := by decide +kernel
theorem dX6_faultOfSheet_24 : decode cX6_faultOfSheet 24 = .ok (.goto 4, 3) := by decide +kernel
theorem dX6_faultOfSheet_27 : decode cX6_faultOfSheet 27 = .ok (.iconst 0, 1) := by decide +kernel
theorem dX6_faultOfSheet_28 : decode cX6_faultOfSheet 28 = .ok (.ireturn, 1) := by decide +kernel
theorem dX6_faultOfSheetAndSide_0 : decode cX6_faultOfSheetAndSide 0 = .ok (.aload_n 0, 1) := by decide +kernel
theorem dX6_faultOfSheetAndSide_1 : decode cX6_faultOfSheetAndSide 1 = .ok (.iload_n 1, 1) := by decide +kernel
theorem dX6_faultOfSheetAndSide_2 : decode cX6_faultOfSheetAndSide 2 = .ok (.invokevirtual 229, 3) := by decide +kernel
theorem dX6_faultOfSheetAndSide_5 : decode cX6_faultOfSheetAndSide 5 = .ok (.istore_n 3, 1) := by decide +kernel
theorem dX6_faultOfSheetAndSide_6 : decode cX6_faultOfSheetAndSide 6 = .ok (.iload_n 3, 1) := by decide +kernel
theorem dX6_faultOfSheetAndSide_7 : decode cX6_faultOfSheetAndSide 7 = .ok (.ifCond .eq 5, 3) := by decide +kernel
theorem dX6_faultOfSheetAndSide_10 : decode cX6_faultOfSheetAndSide 10 = .ok (.iload_n 3, 1) := by decide +kernel
theorem dX6_faultOfSheetAndSide_11 : decode cX6_faultOfSheetAndSide 11 = .ok (.ireturn, 1) := by decide +kernel
theorem dX6_faultOfSheetAndSide_12 : decode cX6_faultOfSheetAndSide 12 = .ok (.iload_n 2, 1) := by decide +kernel
theorem dX6_faultOfSheetAndSide_13 : decode cX6_faultOfSheetAndSide 13 = .ok (.invokestatic 53, 3) := by decide +kernel
theorem dX6_faultOfSheetAndSide_16 : decode cX6_faultOfSheetAndSide 16 = .ok (.ifCond .eq 7, 3) := by decide +kernel
theorem dX6_faultOfSheetAndSide_19 : decode cX6_faultOfSheetAndSide 19 = .ok (.iconst 0, 1) := by decide +kernel
theorem dX6_faultOfSheetAndSide_20 : decode cX6_faultOfSheetAndSide 20 = .ok (.goto 5, 3) := by decide +kernel
theorem dX6_faultOfSheetAndSide_23 : decode cX6_faultOfSheetAndSide 23 = .ok (.ldc 61, 2) := by decide +kernel
theorem dX6_faultOfSheetAndSide_25 : decode cX6_faultOfSheetAndSide 25 = .ok (.ireturn, 1) := by decide +kernel
theorem dX6_mostToSet_0 : decode cX6_mostToSet 0 = .ok (.iload_n 0, 1) := by decide +kernel
theorem dX6_mostToSet_1 : decode cX6_mostToSet 1 = .ok (.tableswitch 44 1 4 #[31, 33, 36, 40], 31) := by decide +kernel
theorem dX6_mostToSet_32 : decode cX6_mostToSet 32 = .ok (.iconst 1, 1) := by decide +kernel
theorem dX6_mostToSet_33 : decode cX6_mostToSet 33 = .ok (.ireturn, 1) := by decide +kernel
theorem dX6_mostToSet_34 : decode cX6_mostToSet 34 = .ok (.bipush 11, 2) := by decide +kernel
theorem dX6_mostToSet_36 : decode cX6_mostToSet 36 = .ok (.ireturn, 1) := by decide +kernel
theorem dX6_mostToSet_37 : decode cX6_mostToSet 37 = .ok (.sipush 4095, 3) := by decide +kernel
theorem dX6_mostToSet_40 : decode cX6_mostToSet 40 = .ok (.ireturn, 1) := by decide +kernel
theorem dX6_mostToSet_41 : decode cX6_mostToSet 41 = .ok (.sipush 9999, 3) := by decide +kernel
theorem dX6_mostToSet_44 : decode cX6_mostToSet 44 = .ok (.ireturn, 1) := by decide +kernel
theorem dX6_mostToSet_45 : decode cX6_mostToSet 45 = .ok (.iconst (-1), 1) := by decide +kernel
theorem dX6_mostToSet_46 : decode cX6_mostToSet 46 = .ok (.ireturn, 1) := by decide +kernel
theorem dX6_isWithin_0 : decode cX6_isWithin 0 = .ok (.iload_n 0, 1) := by decide +kernel
theorem dX6_isWithin_1 : decode cX6_isWithin 1 = .ok (.iload_n 1, 1) := by decide +kernel
theorem dX6_isWithin_2 : decode cX6_isWithin 2 = .ok (.if_icmp .lt 12, 3) := by decide +kernel
theorem dX6_isWithin_5 : decode cX6_isWithin 5 = .ok (.iload_n 0, 1) := by decide +kernel
theorem dX6_isWithin_6 : decode cX6_isWithin 6 = .ok (.iload_n 2, 1) := by decide +kernel
theorem dX6_isWithin_7 : decode cX6_isWithin 7 = .ok (.if_icmp .gt 7, 3) := by decide +kernel
theorem dX6_isWithin_10 : decode cX6_isWithin 10 = .ok (.iconst 1, 1) := by decide +kernel
theorem dX6_isWithin_11 : decode cX6_isWithin 11 = .ok (.goto 4, 3) := by decide +kernel
theorem dX6_isWithin_14 : decode cX6_isWithin 14 = .ok (.iconst 0, 1) := by decide +kernel
theorem dX6_isWithin_15 : decode cX6_isWithin 15 = .ok (.ireturn, 1) := by decide +kernel
theorem dX6_isSide_0 : decode cX6_isSide 0 = .ok (.iload_n 0, 1) := by decide +kernel
theorem dX6_isSide_1 : decode cX6_isSide 1 = .ok (.iconst 0, 1) := by decide +kernel
theorem dX6_isSide_2 : decode cX6_isSide 2 = .ok (.iconst 1, 1) := by decide +kernel
theorem dX6_isSide_3 : decode cX6_isSide 3 = .ok (.invokestatic 57, 3) := by decide +kernel
theorem dX6_isSide_6 : decode cX6_isSide 6 = .ok (.ireturn, 1) := by decide +kernel
theorem dX6_isKind_0 : decode cX6_isKind 0 = .ok (.iload_n 0, 1) := by decide +kernel
theorem dX6_isKind_1 : decode cX6_isKind 1 = .ok (.iconst 0, 1) := by decide +kernel
theorem dX6_isKind_2 : decode cX6_isKind 2 = .ok (.iconst 5, 1) := by decide +kernel
theorem dX6_isKind_3 : decode cX6_isKind 3 = .ok (.invokestatic 57, 3) := by decide +kernel
theorem dX6_isKind_6 : decode cX6_isKind 6 = .ok (.ireturn, 1) := by decide +kernel
theorem dX6_isSheet_0 : decode cX6_isSheet 0 = .ok (.iload_n 0, 1) := by decide +kernel
theorem dX6_isSheet_1 : decode cX6_isSheet 1 = .ok (.iconst 0, 1) := by decide +kernel
theorem dX6_isSheet_2 : decode cX6_isSheet 2 = .ok (.iconst 3, 1) := by decide +kernel
theorem dX6_isSheet_3 : decode cX6_isSheet 3 = .ok (.invokestatic 57, 3) := by decide +kernel
theorem dX6_isSheet_6 : decode cX6_isSheet 6 = .ok (.ireturn, 1) := by decide +kernel
theorem dX6_isBits_0 : decode cX6_isBits 0 = .ok (.iload_n 0, 1) := by decide +kernel
theorem dX6_isBits_1 : decode cX6_isBits 1 = .ok (.ifCond .eq 21, 3) := by decide +kernel
theorem dX6_isBits_4 : decode cX6_isBits 4 = .ok (.iload_n 0, 1) := by decide +kernel
theorem dX6_isBits_5 : decode cX6_isBits 5 = .ok (.bipush 8, 2) := by decide +kernel
theorem dX6_isBits_7 : decode cX6_isBits 7 = .ok (.if_icmp .eq 15, 3) := by decide +kernel
theorem dX6_isBits_10 : decode cX6_isBits 10 = .ok (.iload_n 0, 1) := by decide +kernel
theorem dX6_isBits_11 : decode cX6_isBits 11 = .ok (.bipush 16, 2) := by decide +kernel
theorem dX6_isBits_13 : decode cX6_isBits 13 = .ok (.if_icmp .eq 9, 3) := by decide +kernel
theorem dX6_isBits_16 : decode cX6_isBits 16 = .ok (.iload_n 0, 1) := by decide +kernel
theorem dX6_isBits_17 : decode cX6_isBits 17 = .ok (.bipush 64, 2) := by decide +kernel
theorem dX6_isBits_19 : decode cX6_isBits 19 = .ok (.if_icmp .ne 7, 3) := by decide +kernel
theorem dX6_isBits_22 : decode cX6_isBits 22 = .ok (.iconst 1, 1) := by decide +kernel
theorem dX6_isBits_23 : decode cX6_isBits 23 = .ok (.goto 4, 3) := by decide +kernel
theorem dX6_isBits_26 : decode cX6_isBits 26 = .ok (.iconst 0, 1) := by decide +kernel
theorem dX6_isBits_27 : decode cX6_isBits 27 = .ok (.ireturn, 1) := by decide +kernel
theorem dX6_isOfKind_0 : decode cX6_isOfKind 0 = .ok (.iload_n 0, 1) := by decide +kernel
theorem dX6_isOfKind_1 : decode cX6_isOfKind 1 = .ok (.istore_n 2, 1) := by decide +kernel
theorem dX6_isOfKind_2 : decode cX6_isOfKind 2 = .ok (.iconst 0, 1) := by decide +kernel
theorem dX6_isOfKind_3 : decode cX6_isOfKind 3 = .ok (.istore_n 3, 1) := by decide +kernel
theorem dX6_isOfKind_4 : decode cX6_isOfKind 4 = .ok (.iload_n 3, 1) := by decide +kernel
theorem dX6_isOfKind_5 : decode cX6_isOfKind 5 = .ok (.bipush 6, 2) := by decide +kernel
theorem dX6_isOfKind_7 : decode cX6_isOfKind 7 = .ok (.if_icmp .ge 29, 3) := by decide +kernel
theorem dX6_isOfKind_10 : decode cX6_isOfKind 10 = .ok (.iload_n 2, 1) := by decide +kernel
theorem dX6_isOfKind_11 : decode cX6_isOfKind 11 = .ok (.invokestatic 103, 3) := by decide +kernel
theorem dX6_isOfKind_14 : decode cX6_isOfKind 14 = .ok (.ifCond .eq 22, 3) := by decide +kernel
theorem dX6_isOfKind_17 : decode cX6_isOfKind 17 = .ok (.iload_n 2, 1) := by decide +kernel
theorem dX6_isOfKind_18 : decode cX6_isOfKind 18 = .ok (.iload_n 1, 1) := by decide +kernel
theorem dX6_isOfKind_19 : decode cX6_isOfKind 19 = .ok (.if_icmp .ne 5, 3) := by decide +kernel
theorem dX6_isOfKind_22 : decode cX6_isOfKind 22 = .ok (.iconst 1, 1) := by decide +kernel
theorem dX6_isOfKind_23 : decode cX6_isOfKind 23 = .ok (.ireturn, 1) := by decide +kernel
theorem dX6_isOfKind_24 : decode cX6_isOfKind 24 = .ok (.getstatic 280, 3) := by decide +kernel
theorem dX6_isOfKind_27 : decode cX6_isOfKind 27 = .ok (.iload_n 2, 1) := by decide +kernel
theorem dX6_isOfKind_28 : decode cX6_isOfKind 28 = .ok (.iaload, 1) := by decide +kernel
theorem dX6_isOfKind_29 : decode cX6_isOfKind 29 = .ok (.istore_n 2, 1) := by decide +kernel
theorem dX6_isOfKind_30 : decode cX6_isOfKind 30 = .ok (.iinc 3 1, 3) := by decide +kernel
theorem dX6_isOfKind_33 : decode cX6_isOfKind 33 = .ok (.goto (-29), 3) := by decide +kernel
theorem dX6_isOfKind_36 : decode cX6_isOfKind 36 = .ok (.iconst 0, 1) := by decide +kernel
theorem dX6_isOfKind_37 : decode cX6_isOfKind 37 = .ok (.ireturn, 1) := by decide +kernel
