theorem dX0_init_0 : decode cX0_init 0 = .ok (.aload_n 0, 1) := by decide +kernel
theorem dX0_init_1 : decode cX0_init 1 = .ok (.invokespecial 3, 3) := by decide +kernel
theorem dX0_init_4 : decode cX0_init 4 = .ok (.return_, 1) := by decide +kernel
theorem dX0_become_0 : decode cX0_become 0 = .ok (.aload_n 0, 1) := by decide +kernel
theorem dX0_become_1 : decode cX0_become 1 = .ok (.aload_n 1, 1) := by decide +kernel
theorem dX0_become_2 : decode cX0_become 2 = .ok (.getfield 9, 3) := by decide +kernel
theorem dX0_become_5 : decode cX0_become 5 = .ok (.putfield 9, 3) := by decide +kernel
theorem dX0_become_8 : decode cX0_become 8 = .ok (.aload_n 0, 1) := by decide +kernel
theorem dX0_become_9 : decode cX0_become 9 = .ok (.aload_n 1, 1) := by decide +kernel
theorem dX0_become_10 : decode cX0_become 10 = .ok (.getfield 15, 3) := by decide +kernel
theorem dX0_become_13 : decode cX0_become 13 = .ok (.putfield 15, 3) := by decide +kernel
theorem dX0_become_16 : decode cX0_become 16 = .ok (.aload_n 0, 1) := by decide +kernel
theorem dX0_become_17 : decode cX0_become 17 = .ok (.aload_n 1, 1) := by decide +kernel
theorem dX0_become_18 : decode cX0_become 18 = .ok (.getfield 18, 3) := by decide +kernel
theorem dX0_become_21 : decode cX0_become 21 = .ok (.putfield 18, 3) := by decide +kernel
theorem dX0_become_24 : decode cX0_become 24 = .ok (.aload_n 0, 1) := by decide +kernel
theorem dX0_become_25 : decode cX0_become 25 = .ok (.aload_n 1, 1) := by decide +kernel
theorem dX0_become_26 : decode cX0_become 26 = .ok (.getfield 21, 3) := by decide +kernel
theorem dX0_become_29 : decode cX0_become 29 = .ok (.putfield 21, 3) := by decide +kernel
theorem dX0_become_32 : decode cX0_become 32 = .ok (.aload_n 0, 1) := by decide +kernel
theorem dX0_become_33 : decode cX0_become 33 = .ok (.aload_n 1, 1) := by decide +kernel
theorem dX0_become_34 : decode cX0_become 34 = .ok (.getfield 24, 3) := by decide +kernel
theorem dX0_become_37 : decode cX0_become 37 = .ok (.putfield 24, 3) := by decide +kernel
theorem dX0_become_40 : decode cX0_become 40 = .ok (.return_, 1) := by decide +kernel
theorem dX0_change_0 : decode cX0_change 0 = .ok (.iload_n 1, 1) := by decide +kernel
theorem dX0_change_1 : decode cX0_change 1 = .ok (.lookupswitch 43 #[(0, 27), (1, 35)], 27) := by decide +kernel
theorem dX0_change_28 : decode cX0_change 28 = .ok (.aload_n 0, 1) := by decide +kernel
theorem dX0_change_29 : decode cX0_change 29 = .ok (.iload_n 2, 1) := by decide +kernel
theorem dX0_change_30 : decode cX0_change 30 = .ok (.putfield 18, 3) := by decide +kernel
theorem dX0_change_33 : decode cX0_change 33 = .ok (.goto 23, 3) := by decide +kernel
theorem dX0_change_36 : decode cX0_change 36 = .ok (.aload_n 0, 1) := by decide +kernel
theorem dX0_change_37 : decode cX0_change 37 = .ok (.iload_n 2, 1) := by decide +kernel
theorem dX0_change_38 : decode cX0_change 38 = .ok (.putfield 9, 3) := by decide +kernel
theorem dX0_change_41 : decode cX0_change 41 = .ok (.goto 15, 3) := by decide +kernel
theorem dX0_change_44 : decode cX0_change 44 = .ok (.aload_n 0, 1) := by decide +kernel
theorem dX0_change_45 : decode cX0_change 45 = .ok (.dup, 1) := by decide +kernel
theorem dX0_change_46 : decode cX0_change 46 = .ok (.getfield 21, 3) := by decide +kernel
theorem dX0_change_49 : decode cX0_change 49 = .ok (.iconst 1, 1) := by decide +kernel
theorem dX0_change_50 : decode cX0_change 50 = .ok (.iload_n 2, 1) := by decide +kernel
theorem dX0_change_51 : decode cX0_change 51 = .ok (.ishl, 1) := by decide +kernel
theorem dX0_change_52 : decode cX0_change 52 = .ok (.ixor, 1) := by decide +kernel
theorem dX0_change_53 : decode cX0_change 53 = .ok (.putfield 21, 3) := by decide +kernel
theorem dX0_change_56 : decode cX0_change 56 = .ok (.return_, 1) := by decide +kernel
theorem dX0_lengthTo_0 : decode cX0_lengthTo 0 = .ok (.aload_n 0, 1) := by decide +kernel
theorem dX0_lengthTo_1 : decode cX0_lengthTo 1 = .ok (.getfield 9, 3) := by decide +kernel
theorem dX0_lengthTo_4 : decode cX0_lengthTo 4 = .ok (.iconst 3, 1) := by decide +kernel
theorem dX0_lengthTo_5 : decode cX0_lengthTo 5 = .ok (.if_icmp .ne 19, 3) := by decide +kernel
theorem dX0_lengthTo_8 : decode cX0_lengthTo 8 = .ok (.aload_n 1, 1) := by decide +kernel
theorem dX0_lengthTo_9 : decode cX0_lengthTo 9 = .ok (.getfield 27, 3) := by decide +kernel
theorem dX0_lengthTo_12 : decode cX0_lengthTo 12 = .ok (.bipush 6, 2) := by decide +kernel
theorem dX0_lengthTo_14 : decode cX0_lengthTo 14 = .ok (.if_icmp .le 10, 3) := by decide +kernel
theorem dX0_lengthTo_17 : decode cX0_lengthTo 17 = .ok (.aload_n 1, 1) := by decide +kernel
theorem dX0_lengthTo_18 : decode cX0_lengthTo 18 = .ok (.getfield 27, 3) := by decide +kernel
theorem dX0_lengthTo_21 : decode cX0_lengthTo 21 = .ok (.iconst 1, 1) := by decide +kernel
theorem dX0_lengthTo_22 : decode cX0_lengthTo 22 = .ok (.isub, 1) := by decide +kernel
theorem dX0_lengthTo_23 : decode cX0_lengthTo 23 = .ok (.ireturn, 1) := by decide +kernel
theorem dX0_lengthTo_24 : decode cX0_lengthTo 24 = .ok (.aload_n 1, 1) := by decide +kernel
theorem dX0_lengthTo_25 : decode cX0_lengthTo 25 = .ok (.getfield 27, 3) := by decide +kernel
theorem dX0_lengthTo_28 : decode cX0_lengthTo 28 = .ok (.ireturn, 1) := by decide +kernel
theorem dX0_toneTo_0 : decode cX0_toneTo 0 = .ok (.aload_n 0, 1) := by decide +kernel
theorem dX0_toneTo_1 : decode cX0_toneTo 1 = .ok (.aload_n 1, 1) := by decide +kernel
theorem dX0_toneTo_2 : decode cX0_toneTo 2 = .ok (.iload_n 2, 1) := by decide +kernel
theorem dX0_toneTo_3 : decode cX0_toneTo 3 = .ok (.invokevirtual 32, 3) := by decide +kernel
theorem dX0_toneTo_6 : decode cX0_toneTo 6 = .ok (.aload_n 0, 1) := by decide +kernel
theorem dX0_toneTo_7 : decode cX0_toneTo 7 = .ok (.getfield 18, 3) := by decide +kernel
theorem dX0_toneTo_10 : decode cX0_toneTo 10 = .ok (.iadd, 1) := by decide +kernel
theorem dX0_toneTo_11 : decode cX0_toneTo 11 = .ok (.istore_n 3, 1) := by decide +kernel
theorem dX0_toneTo_12 : decode cX0_toneTo 12 = .ok (.aload_n 0, 1) := by decide +kernel
theorem dX0_toneTo_13 : decode cX0_toneTo 13 = .ok (.iload_n 2, 1) := by decide +kernel
theorem dX0_toneTo_14 : decode cX0_toneTo 14 = .ok (.invokevirtual 36, 3) := by decide +kernel
theorem dX0_toneTo_17 : decode cX0_toneTo 17 = .ok (.ifCond .eq 6, 3) := by decide +kernel
theorem dX0_toneTo_20 : decode cX0_toneTo 20 = .ok (.iinc 3 6, 3) := by decide +kernel
theorem dX0_toneTo_23 : decode cX0_toneTo 23 = .ok (.iload_n 3, 1) := by decide +kernel
theorem dX0_toneTo_24 : decode cX0_toneTo 24 = .ok (.bipush 12, 2) := by decide +kernel
theorem dX0_toneTo_26 : decode cX0_toneTo 26 = .ok (.invokestatic 40, 3) := by decide +kernel
theorem dX0_toneTo_29 : decode cX0_toneTo 29 = .ok (.ireturn, 1) := by decide +kernel
theorem dX0_writeTo_0 : decode cX0_writeTo 0 = .ok (.aload_n 0, 1) := by decide +kernel
theorem dX0_writeTo_1 : decode cX0_writeTo 1 = .ok (.aload_n 1, 1) := by decide +kernel
theorem dX0_writeTo_2 : decode cX0_writeTo 2 = .ok (.invokevirtual 46, 3) := by decide +kernel
theorem dX0_writeTo_5 : decode cX0_writeTo 5 = .ok (.istore_n 3, 1) := by decide +kernel
theorem dX0_writeTo_6 : decode cX0_writeTo 6 = .ok (.aload_n 2, 1) := by decide +kernel
theorem dX0_writeTo_7 : decode cX0_writeTo 7 = .ok (.invokevirtual 50, 3) := by decide +kernel
theorem dX0_writeTo_10 : decode cX0_writeTo 10 = .ok (.iconst 0, 1) := by decide +kernel
theorem dX0_writeTo_11 : decode cX0_writeTo 11 = .ok (.istore 4, 2) := by decide +kernel
theorem dX0_writeTo_13 : decode cX0_writeTo 13 = .ok (.iload 4, 2) := by decide +kernel
theorem dX0_writeTo_15 : decode cX0_writeTo 15 = .ok (.iload_n 3, 1) := by decide +kernel
theorem dX0_writeTo_16 : decode cX0_writeTo 16 = .ok (.if_icmp .ge 20, 3) := by decide +kernel
theorem dX0_writeTo_19 : decode cX0_writeTo 19 = .ok (.aload_n 2, 1) := by decide +kernel
theorem dX0_writeTo_20 : decode cX0_writeTo 20 = .ok (.aload_n 0, 1) := by decide +kernel
theorem dX0_writeTo_21 : decode cX0_writeTo 21 = .ok (.aload_n 1, 1) := by decide +kernel
theorem dX0_writeTo_22 : decode cX0_writeTo 22 = .ok (.iload 4, 2) := by decide +kernel
theorem dX0_writeTo_24 : decode cX0_writeTo 24 = .ok (.invokevirtual 53, 3) := by decide +kernel
theorem dX0_writeTo_27 : decode cX0_writeTo 27 = .ok (.invokevirtual 56, 3) := by decide +kernel
theorem dX0_writeTo_30 : decode cX0_writeTo 30 = .ok (.iinc 4 1, 3) := by decide +kernel
theorem dX0_writeTo_33 : decode cX0_writeTo 33 = .ok (.goto (-20), 3) := by decide +kernel
theorem dX0_writeTo_36 : decode cX0_writeTo 36 = .ok (.aload_n 0, 1) := by decide +kernel
theorem dX0_writeTo_37 : decode cX0_writeTo 37 = .ok (.aload_n 0, 1) := by decide +kernel
theorem dX0_writeTo_38 : decode cX0_writeTo 38 = .ok (.getfield 24, 3) := by decide +kernel
theorem dX0_writeTo_41 : decode cX0_writeTo 41 = .ok (.iconst 1, 1) := by decide +kernel
theorem dX0_writeTo_42 : decode cX0_writeTo 42 = .ok (.iadd, 1) := by decide +kernel
theorem dX0_writeTo_43 : decode cX0_writeTo 43 = .ok (.sipush 9999, 3) := by decide +kernel
theorem dX0_writeTo_46 : decode cX0_writeTo 46 = .ok (.invokestatic 60, 3) := by decide +kernel
theorem dX0_writeTo_49 : decode cX0_writeTo 49 = .ok (.putfield 24, 3) := by decide +kernel
theorem dX0_writeTo_52 : decode cX0_writeTo 52 = .ok (.return_, 1) := by decide +kernel
theorem dX0_isBlotted_0 : decode cX0_isBlotted 0 = .ok (.iload_n 1, 1) := by decide +kernel
theorem dX0_isBlotted_1 : decode cX0_isBlotted 1 = .ok (.ifCond .lt 25, 3) := by decide +kernel
theorem dX0_isBlotted_4 : decode cX0_isBlotted 4 = .ok (.iload_n 1, 1) := by decide +kernel
theorem dX0_isBlotted_5 : decode cX0_isBlotted 5 = .ok (.bipush 12, 2) := by decide +kernel
theorem dX0_isBlotted_7 : decode cX0_isBlotted 7 = .ok (.if_icmp .ge 19, 3) := by decide +kernel
theorem dX0_isBlotted_10 : decode cX0_isBlotted 10 = .ok (.aload_n 0, 1) := by decide +kernel
theorem dX0_isBlotted_11 : decode cX0_isBlotted 11 = .ok (.getfield 21, 3) := by decide +kernel
theorem dX0_isBlotted_14 : decode cX0_isBlotted 14 = .ok (.iload_n 1, 1) := by decide +kernel
theorem dX0_isBlotted_15 : decode cX0_isBlotted 15 = .ok (.ishr, 1) := by decide +kernel
theorem dX0_isBlotted_16 : decode cX0_isBlotted 16 = .ok (.iconst 1, 1) := by decide +kernel
theorem dX0_isBlotted_17 : decode cX0_isBlotted 17 = .ok (.iand, 1) := by decide +kernel
theorem dX0_isBlotted_18 : decode cX0_isBlotted 18 = .ok (.iconst 1, 1) := by decide +kernel
theorem dX0_isBlotted_19 : decode cX0_isBlotted 19 = .ok (.if_icmp .ne 7, 3) := by decide +kernel
theorem dX0_isBlotted_22 : decode cX0_isBlotted 22 = .ok (.iconst 1, 1) := by decide +kernel
theorem dX0_isBlotted_23 : decode cX0_isBlotted 23 = .ok (.goto 4, 3) := by decide +kernel
theorem dX0_isBlotted_26 : decode cX0_isBlotted 26 = .ok (.iconst 0, 1) := by decide +kernel
theorem dX0_isBlotted_27 : decode cX0_isBlotted 27 = .ok (.ireturn, 1) := by decide +kernel
theorem dX0_turnedAbout_0 : decode cX0_turnedAbout 0 = .ok (.iload_n 2, 1) := by decide +kernel
theorem dX0_turnedAbout_1 : decode cX0_turnedAbout 1 = .ok (.ifCond .lt 11, 3) := by decide +kernel
theorem dX0_turnedAbout_4 : decode cX0_turnedAbout 4 = .ok (.iload_n 2, 1) := by decide +kernel
theorem dX0_turnedAbout_5 : decode cX0_turnedAbout 5 = .ok (.aload_n 1, 1) := by decide +kernel
theorem dX0_turnedAbout_6 : decode cX0_turnedAbout 6 = .ok (.getfield 27, 3) := by decide +kernel
theorem dX0_turnedAbout_9 : decode cX0_turnedAbout 9 = .ok (.if_icmp .lt 5, 3) := by decide +kernel
theorem dX0_turnedAbout_12 : decode cX0_turnedAbout 12 = .ok (.iconst 0, 1) := by decide +kernel
theorem dX0_turnedAbout_13 : decode cX0_turnedAbout 13 = .ok (.ireturn, 1) := by decide +kernel
theorem dX0_turnedAbout_14 : decode cX0_turnedAbout 14 = .ok (.aload_n 1, 1) := by decide +kernel
theorem dX0_turnedAbout_15 : decode cX0_turnedAbout 15 = .ok (.getfield 63, 3) := by decide +kernel
theorem dX0_turnedAbout_18 : decode cX0_turnedAbout 18 = .ok (.astore_n 3, 1) := by decide +kernel
theorem dX0_turnedAbout_19 : decode cX0_turnedAbout 19 = .ok (.aload_n 1, 1) := by decide +kernel
theorem dX0_turnedAbout_20 : decode cX0_turnedAbout 20 = .ok (.getfield 27, 3) := by decide +kernel
theorem dX0_turnedAbout_23 : decode cX0_turnedAbout 23 = .ok (.iconst 1, 1) := by decide +kernel
theorem dX0_turnedAbout_24 : decode cX0_turnedAbout 24 = .ok (.isub, 1) := by decide +kernel
theorem dX0_turnedAbout_25 : decode cX0_turnedAbout 25 = .ok (.istore 4, 2) := by decide +kernel
theorem dX0_turnedAbout_27 : decode cX0_turnedAbout 27 = .ok (.aload_n 0, 1) := by decide +kernel
theorem dX0_turnedAbout_28 : decode cX0_turnedAbout 28 = .ok (.getfield 9, 3) := by decide +kernel
theorem dX0_turnedAbout_31 : decode cX0_turnedAbout 31 = .ok (.tableswitch 79 1 5 #[33, 43, 50, 54, 68], 33) := by decide +kernel
theorem dX0_turnedAbout_64 : decode cX0_turnedAbout 64 = .ok (.iconst 2, 1) := by decide +kernel
theorem dX0_turnedAbout_65 : decode cX0_turnedAbout 65 = .ok (.aload_n 3, 1) := by decide +kernel
theorem dX0_turnedAbout_66 : decode cX0_turnedAbout 66 = .ok (.iconst 0, 1) := by decide +kernel
theorem dX0_turnedAbout_67 : decode cX0_turnedAbout 67 = .ok (.iaload, 1) := by decide +kernel
theorem dX0_turnedAbout_68 : decode cX0_turnedAbout 68 = .ok (.imul, 1) := by decide +kernel
theorem dX0_turnedAbout_69 : decode cX0_turnedAbout 69 = .ok (.aload_n 3, 1) := by decide +kernel
theorem dX0_turnedAbout_70 : decode cX0_turnedAbout 70 = .ok (.iload_n 2, 1) := by decide +kernel
theorem dX0_turnedAbout_71 : decode cX0_turnedAbout 71 = .ok (.iaload, 1) := by decide +kernel
theorem dX0_turnedAbout_72 : decode cX0_turnedAbout 72 = .ok (.isub, 1) := by decide +kernel
theorem dX0_turnedAbout_73 : decode cX0_turnedAbout 73 = .ok (.ireturn, 1) := by decide +kernel
theorem dX0_turnedAbout_74 : decode cX0_turnedAbout 74 = .ok (.aload_n 3, 1) := by decide +kernel
theorem dX0_turnedAbout_75 : decode cX0_turnedAbout 75 = .ok (.iload 4, 2) := by decide +kernel
theorem dX0_turnedAbout_77 : decode cX0_turnedAbout 77 = .ok (.iload_n 2, 1) := by decide +kernel
theorem dX0_turnedAbout_78 : decode cX0_turnedAbout 78 = .ok (.isub, 1) := by decide +kernel
theorem dX0_turnedAbout_79 : decode cX0_turnedAbout 79 = .ok (.iaload, 1) := by decide +kernel
theorem dX0_turnedAbout_80 : decode cX0_turnedAbout 80 = .ok (.ireturn, 1) := by decide +kernel
theorem dX0_turnedAbout_81 : decode cX0_turnedAbout 81 = .ok (.aload_n 3, 1) := by decide +kernel
theorem dX0_turnedAbout_82 : decode cX0_turnedAbout 82 = .ok (.iconst 0, 1) := by decide +kernel
theorem dX0_turnedAbout_83 : decode cX0_turnedAbout 83 = .ok (.iaload, 1) := by decide +kernel
theorem dX0_turnedAbout_84 : decode cX0_turnedAbout 84 = .ok (.ireturn, 1) := by decide +kernel
theorem dX0_turnedAbout_85 : decode cX0_turnedAbout 85 = .ok (.iconst 2, 1) := by decide +kernel
theorem dX0_turnedAbout_86 : decode cX0_turnedAbout 86 = .ok (.aload_n 3, 1) := by decide +kernel
theorem dX0_turnedAbout_87 : decode cX0_turnedAbout 87 = .ok (.iload 4, 2) := by decide +kernel
theorem dX0_turnedAbout_89 : decode cX0_turnedAbout 89 = .ok (.iaload, 1) := by decide +kernel
theorem dX0_turnedAbout_90 : decode cX0_turnedAbout 90 = .ok (.imul, 1) := by decide +kernel
theorem dX0_turnedAbout_91 : decode cX0_turnedAbout 91 = .ok (.aload_n 3, 1) := by decide +kernel
theorem dX0_turnedAbout_92 : decode cX0_turnedAbout 92 = .ok (.iload 4, 2) := by decide +kernel
theorem dX0_turnedAbout_94 : decode cX0_turnedAbout 94 = .ok (.iload_n 2, 1) := by decide +kernel
theorem dX0_turnedAbout_95 : decode cX0_turnedAbout 95 = .ok (.isub, 1) := by decide +kernel
theorem dX0_turnedAbout_96 : decode cX0_turnedAbout 96 = .ok (.iaload, 1) := by decide +kernel
theorem dX0_turnedAbout_97 : decode cX0_turnedAbout 97 = .ok (.isub, 1) := by decide +kernel
theorem dX0_turnedAbout_98 : decode cX0_turnedAbout 98 = .ok (.ireturn, 1) := by decide +kernel
theorem dX0_turnedAbout_99 : decode cX0_turnedAbout 99 = .ok (.aload_n 3, 1) := by decide +kernel
theorem dX0_turnedAbout_100 : decode cX0_turnedAbout 100 = .ok (.iload 4, 2) := by decide +kernel
theorem dX0_turnedAbout_102 : decode cX0_turnedAbout 102 = .ok (.iload_n 2, 1) := by decide +kernel
theorem dX0_turnedAbout_103 : decode cX0_turnedAbout 103 = .ok (.isub, 1) := by decide +kernel
theorem dX0_turnedAbout_104 : decode cX0_turnedAbout 104 = .ok (.iaload, 1) := by decide +kernel
theorem dX0_turnedAbout_105 : decode cX0_turnedAbout 105 = .ok (.iload_n 2, 1) := by decide +kernel
theorem dX0_turnedAbout_106 : decode cX0_turnedAbout 106 = .ok (.iconst 1, 1) := by decide +kernel
theorem dX0_turnedAbout_107 : decode cX0_turnedAbout 107 = .ok (.iand, 1) := by decide +kernel
theorem dX0_turnedAbout_108 : decode cX0_turnedAbout 108 = .ok (.iadd, 1) := by decide +kernel
theorem dX0_turnedAbout_109 : decode cX0_turnedAbout 109 = .ok (.ireturn, 1) := by decide +kernel
theorem dX0_turnedAbout_110 : decode cX0_turnedAbout 110 = .ok (.aload_n 3, 1) := by decide +kernel
theorem dX0_turnedAbout_111 : decode cX0_turnedAbout 111 = .ok (.iload_n 2, 1) := by decide +kernel
theorem dX0_turnedAbout_112 : decode cX0_turnedAbout 112 = .ok (.iaload, 1) := by decide +kernel
theorem dX0_turnedAbout_113 : decode cX0_turnedAbout 113 = .ok (.ireturn, 1) := by decide +kernel
theorem dX1_init_0 : decode cX1_init 0 = .ok (.aload_n 0, 1) := by decide +kernel
theorem dX1_init_1 : decode cX1_init 1 = .ok (.invokespecial 3, 3) := by decide +kernel
theorem dX1_init_4 : decode cX1_init 4 = .ok (.aload_n 0, 1) := by decide +kernel
theorem dX1_init_5 : decode cX1_init 5 = .ok (.new 9, 3) := by decide +kernel
theorem dX1_init_8 : decode cX1_init 8 = .ok (.dup, 1) := by decide +kernel
theorem dX1_init_9 : decode cX1_init 9 = .ok (.invokespecial 11, 3) := by decide +kernel
theorem dX1_init_12 : decode cX1_init 12 = .ok (.putfield 12, 3) := by decide +kernel
theorem dX1_init_15 : decode cX1_init 15 = .ok (.aload_n 0, 1) := by decide +kernel
theorem dX1_init_16 : decode cX1_init 16 = .ok (.new 9, 3) := by decide +kernel
theorem dX1_init_19 : decode cX1_init 19 = .ok (.dup, 1) := by decide +kernel
theorem dX1_init_20 : decode cX1_init 20 = .ok (.invokespecial 11, 3) := by decide +kernel
theorem dX1_init_23 : decode cX1_init 23 = .ok (.putfield 18, 3) := by decide +kernel
theorem dX1_init_26 : decode cX1_init 26 = .ok (.aload_n 0, 1) := by decide +kernel
theorem dX1_init_27 : decode cX1_init 27 = .ok (.bipush 8, 2) := by decide +kernel
theorem dX1_init_29 : decode cX1_init 29 = .ok (.anewarray 21, 3) := by decide +kernel
theorem dX1_init_32 : decode cX1_init 32 = .ok (.putfield 23, 3) := by decide +kernel
theorem dX1_init_35 : decode cX1_init 35 = .ok (.iconst 0, 1) := by decide +kernel
theorem dX1_init_36 : decode cX1_init 36 = .ok (.istore_n 1, 1) := by decide +kernel
theorem dX1_init_37 : decode cX1_init 37 = .ok (.iload_n 1, 1) := by decide +kernel
theorem dX1_init_38 : decode cX1_init 38 = .ok (.bipush 8, 2) := by decide +kernel
theorem dX1_init_40 : decode cX1_init 40 = .ok (.if_icmp .ge 22, 3) := by decide +kernel
theorem dX1_init_43 : decode cX1_init 43 = .ok (.aload_n 0, 1) := by decide +kernel
theorem dX1_init_44 : decode cX1_init 44 = .ok (.getfield 23, 3) := by decide +kernel
theorem dX1_init_47 : decode cX1_init 47 = .ok (.iload_n 1, 1) := by decide +kernel
theorem dX1_init_48 : decode cX1_init 48 = .ok (.new 21, 3) := by decide +kernel
theorem dX1_init_51 : decode cX1_init 51 = .ok (.dup, 1) := by decide +kernel
theorem dX1_init_52 : decode cX1_init 52 = .ok (.invokespecial 27, 3) := by decide +kernel
theorem dX1_init_55 : decode cX1_init 55 = .ok (.aastore, 1) := by decide +kernel
theorem dX1_init_56 : decode cX1_init 56 = .ok (.iinc 1 1, 3) := by decide +kernel
theorem dX1_init_59 : decode cX1_init 59 = .ok (.goto (-22), 3) := by decide +kernel
theorem dX1_init_62 : decode cX1_init 62 = .ok (.aload_n 0, 1) := by decide +kernel
theorem dX1_init_63 : decode cX1_init 63 = .ok (.iconst 0, 1) := by decide +kernel
theorem dX1_init_64 : decode cX1_init 64 = .ok (.putfield 28, 3) := by decide +kernel
theorem dX1_init_67 : decode cX1_init 67 = .ok (.aload_n 0, 1) := by decide +kernel
theorem dX1_init_68 : decode cX1_init 68 = .ok (.iconst 0, 1) := by decide +kernel
theorem dX1_init_69 : decode cX1_init 69 = .ok (.putfield 32, 3) := by decide +kernel
theorem dX1_init_72 : decode cX1_init 72 = .ok (.return_, 1) := by decide +kernel
theorem dX1_become_0 : decode cX1_become 0 = .ok (.aload_n 0, 1) := by decide +kernel
theorem dX1_become_1 : decode cX1_become 1 = .ok (.getfield 12, 3) := by decide +kernel
theorem dX1_become_4 : decode cX1_become 4 = .ok (.aload_n 1, 1) := by decide +kernel
theorem dX1_become_5 : decode cX1_become 5 = .ok (.getfield 12, 3) := by decide +kernel
theorem dX1_become_8 : decode cX1_become 8 = .ok (.invokevirtual 35, 3) := by decide +kernel
theorem dX1_become_11 : decode cX1_become 11 = .ok (.aload_n 0, 1) := by decide +kernel
theorem dX1_become_12 : decode cX1_become 12 = .ok (.getfield 18, 3) := by decide +kernel
theorem dX1_become_15 : decode cX1_become 15 = .ok (.aload_n 1, 1) := by decide +kernel
theorem dX1_become_16 : decode cX1_become 16 = .ok (.getfield 18, 3) := by decide +kernel
theorem dX1_become_19 : decode cX1_become 19 = .ok (.invokevirtual 35, 3) := by decide +kernel
theorem dX1_become_22 : decode cX1_become 22 = .ok (.iconst 0, 1) := by decide +kernel
theorem dX1_become_23 : decode cX1_become 23 = .ok (.istore_n 2, 1) := by decide +kernel
theorem dX1_become_24 : decode cX1_become 24 = .ok (.iload_n 2, 1) := by decide +kernel
theorem dX1_become_25 : decode cX1_become 25 = .ok (.aload_n 1, 1) := by decide +kernel
theorem dX1_become_26 : decode cX1_become 26 = .ok (.getfield 28, 3) := by decide +kernel
theorem dX1_become_29 : decode cX1_become 29 = .ok (.if_icmp .ge 24, 3) := by decide +kernel
theorem dX1_become_32 : decode cX1_become 32 = .ok (.aload_n 0, 1) := by decide +kernel
theorem dX1_become_33 : decode cX1_become 33 = .ok (.getfield 23, 3) := by decide +kernel
theorem dX1_become_36 : decode cX1_become 36 = .ok (.iload_n 2, 1) := by decide +kernel
theorem dX1_become_37 : decode cX1_become 37 = .ok (.aaload, 1) := by decide +kernel
theorem dX1_become_38 : decode cX1_become 38 = .ok (.aload_n 1, 1) := by decide +kernel
theorem dX1_become_39 : decode cX1_become 39 = .ok (.getfield 23, 3) := by decide +kernel
theorem dX1_become_42 : decode cX1_become 42 = .ok (.iload_n 2, 1) := by decide +kernel
theorem dX1_become_43 : decode cX1_become 43 = .ok (.aaload, 1) := by decide +kernel
theorem dX1_become_44 : decode cX1_become 44 = .ok (.invokevirtual 39, 3) := by decide +kernel
theorem dX1_become_47 : decode cX1_become 47 = .ok (.iinc 2 1, 3) := by decide +kernel
theorem dX1_become_50 : decode cX1_become 50 = .ok (.goto (-26), 3) := by decide +kernel
theorem dX1_become_53 : decode cX1_become 53 = .ok (.aload_n 0, 1) := by decide +kernel
theorem dX1_become_54 : decode cX1_become 54 = .ok (.aload_n 1, 1) := by decide +kernel
theorem dX1_become_55 : decode cX1_become 55 = .ok (.getfield 28, 3) := by decide +kernel
theorem dX1_become_58 : decode cX1_become 58 = .ok (.putfield 28, 3) := by decide +kernel
theorem dX1_become_61 : decode cX1_become 61 = .ok (.aload_n 0, 1) := by decide +kernel
theorem dX1_become_62 : decode cX1_become 62 = .ok (.aload_n 1, 1) := by decide +kernel
theorem dX1_become_63 : decode cX1_become 63 = .ok (.getfield 32, 3) := by decide +kernel
theorem dX1_become_66 : decode cX1_become 66 = .ok (.putfield 32, 3) := by decide +kernel
theorem dX1_become_69 : decode cX1_become 69 = .ok (.return_, 1) := by decide +kernel
theorem dX1_tuneOf_0 : decode cX1_tuneOf 0 = .ok (.iload_n 1, 1) := by decide +kernel
theorem dX1_tuneOf_1 : decode cX1_tuneOf 1 = .ok (.ifCond .ne 10, 3) := by decide +kernel
theorem dX1_tuneOf_4 : decode cX1_tuneOf 4 = .ok (.aload_n 0, 1) := by decide +kernel
theorem dX1_tuneOf_5 : decode cX1_tuneOf 5 = .ok (.getfield 12, 3) := by decide +kernel
theorem dX1_tuneOf_8 : decode cX1_tuneOf 8 = .ok (.goto 7, 3) := by decide +kernel
theorem dX1_tuneOf_11 : decode cX1_tuneOf 11 = .ok (.aload_n 0, 1) := by decide +kernel
theorem dX1_tuneOf_12 : decode cX1_tuneOf 12 = .ok (.getfield 18, 3) := by decide +kernel
theorem dX1_tuneOf_15 : decode cX1_tuneOf 15 = .ok (.areturn, 1) := by decide +kernel
theorem dX1_heardBy_0 : decode cX1_heardBy 0 = .ok (.aload_n 0, 1) := by decide +kernel
theorem dX1_heardBy_1 : decode cX1_heardBy 1 = .ok (.iconst 1, 1) := by decide +kernel
theorem dX1_heardBy_2 : decode cX1_heardBy 2 = .ok (.aload_n 1, 1) := by decide +kernel
theorem dX1_heardBy_3 : decode cX1_heardBy 3 = .ok (.getfield 42, 3) := by decide +kernel
theorem dX1_heardBy_6 : decode cX1_heardBy 6 = .ok (.isub, 1) := by decide +kernel
theorem dX1_heardBy_7 : decode cX1_heardBy 7 = .ok (.invokevirtual 45, 3) := by decide +kernel
theorem dX1_heardBy_10 : decode cX1_heardBy 10 = .ok (.areturn, 1) := by decide +kernel
theorem dX1_has_0 : decode cX1_has 0 = .ok (.iload_n 1, 1) := by decide +kernel
theorem dX1_has_1 : decode cX1_has 1 = .ok (.ifCond .lt 15, 3) := by decide +kernel
theorem dX1_has_4 : decode cX1_has 4 = .ok (.iload_n 1, 1) := by decide +kernel
theorem dX1_has_5 : decode cX1_has 5 = .ok (.aload_n 0, 1) := by decide +kernel
theorem dX1_has_6 : decode cX1_has 6 = .ok (.getfield 28, 3) := by decide +kernel
theorem dX1_has_9 : decode cX1_has 9 = .ok (.if_icmp .ge 7, 3) := by decide +kernel
theorem dX1_has_12 : decode cX1_has 12 = .ok (.iconst 1, 1) := by decide +kernel
theorem dX1_has_13 : decode cX1_has 13 = .ok (.goto 4, 3) := by decide +kernel
theorem dX1_has_16 : decode cX1_has 16 = .ok (.iconst 0, 1) := by decide +kernel
theorem dX1_has_17 : decode cX1_has 17 = .ok (.ireturn, 1) := by decide +kernel
theorem dX1_isFull_0 : decode cX1_isFull 0 = .ok (.aload_n 0, 1) := by decide +kernel
theorem dX1_isFull_1 : decode cX1_isFull 1 = .ok (.getfield 28, 3) := by decide +kernel
theorem dX1_isFull_4 : decode cX1_isFull 4 = .ok (.bipush 8, 2) := by decide +kernel
theorem dX1_isFull_6 : decode cX1_isFull 6 = .ok (.if_icmp .lt 7, 3) := by decide +kernel
theorem dX1_isFull_9 : decode cX1_isFull 9 = .ok (.iconst 1, 1) := by decide +kernel
theorem dX1_isFull_10 : decode cX1_isFull 10 = .ok (.goto 4, 3) := by decide +kernel
theorem dX1_isFull_13 : decode cX1_isFull 13 = .ok (.iconst 0, 1) := by decide +kernel
theorem dX1_isFull_14 : decode cX1_isFull 14 = .ok (.ireturn, 1) := by decide +kernel
theorem dX1_engage_0 : decode cX1_engage 0 = .ok (.aload_n 0, 1) := by decide +kernel
theorem dX1_engage_1 : decode cX1_engage 1 = .ok (.invokevirtual 49, 3) := by decide +kernel
theorem dX1_engage_4 : decode cX1_engage 4 = .ok (.ifCond .eq 4, 3) := by decide +kernel
theorem dX1_engage_7 : decode cX1_engage 7 = .ok (.return_, 1) := by decide +kernel
theorem dX1_engage_8 : decode cX1_engage 8 = .ok (.aload_n 0, 1) := by decide +kernel
theorem dX1_engage_9 : decode cX1_engage 9 = .ok (.getfield 23, 3) := by decide +kernel
theorem dX1_engage_12 : decode cX1_engage 12 = .ok (.aload_n 0, 1) := by decide +kernel
theorem dX1_engage_13 : decode cX1_engage 13 = .ok (.getfield 28, 3) := by decide +kernel
theorem dX1_engage_16 : decode cX1_engage 16 = .ok (.aaload, 1) := by decide +kernel
theorem dX1_engage_17 : decode cX1_engage 17 = .ok (.astore 5, 2) := by decide +kernel
theorem dX1_engage_19 : decode cX1_engage 19 = .ok (.aload 5, 2) := by decide +kernel
theorem dX1_engage_21 : decode cX1_engage 21 = .ok (.iload_n 1, 1) := by decide +kernel
theorem dX1_engage_22 : decode cX1_engage 22 = .ok (.putfield 53, 3) := by decide +kernel
theorem dX1_engage_25 : decode cX1_engage 25 = .ok (.aload 5, 2) := by decide +kernel
theorem dX1_engage_27 : decode cX1_engage 27 = .ok (.iload_n 2, 1) := by decide +kernel
theorem dX1_engage_28 : decode cX1_engage 28 = .ok (.putfield 42, 3) := by decide +kernel
theorem dX1_engage_31 : decode cX1_engage 31 = .ok (.aload 5, 2) := by decide +kernel
theorem dX1_engage_33 : decode cX1_engage 33 = .ok (.iload_n 3, 1) := by decide +kernel
theorem dX1_engage_34 : decode cX1_engage 34 = .ok (.putfield 56, 3) := by decide +kernel
theorem dX1_engage_37 : decode cX1_engage 37 = .ok (.aload 5, 2) := by decide +kernel
theorem dX1_engage_39 : decode cX1_engage 39 = .ok (.iload 4, 2) := by decide +kernel
theorem dX1_engage_41 : decode cX1_engage 41 = .ok (.putfield 59, 3) := by decide +kernel
theorem dX1_engage_44 : decode cX1_engage 44 = .ok (.aload 5, 2) := by decide +kernel
theorem dX1_engage_46 : decode cX1_engage 46 = .ok (.iconst 0, 1) := by decide +kernel
theorem dX1_engage_47 : decode cX1_engage 47 = .ok (.putfield 62, 3) := by decide +kernel
theorem dX1_engage_50 : decode cX1_engage 50 = .ok (.aload_n 0, 1) := by decide +kernel
theorem dX1_engage_51 : decode cX1_engage 51 = .ok (.dup, 1) := by decide +kernel
theorem dX1_engage_52 : decode cX1_engage 52 = .ok (.getfield 28, 3) := by decide +kernel
theorem dX1_engage_55 : decode cX1_engage 55 = .ok (.iconst 1, 1) := by decide +kernel
theorem dX1_engage_56 : decode cX1_engage 56 = .ok (.iadd, 1) := by decide +kernel
theorem dX1_engage_57 : decode cX1_engage 57 = .ok (.putfield 28, 3) := by decide +kernel
theorem dX1_engage_60 : decode cX1_engage 60 = .ok (.return_, 1) := by decide +kernel
theorem dX1_attachesOf_0 : decode cX1_attachesOf 0 = .ok (.iconst 0, 1) := by decide +kernel
theorem dX1_attachesOf_1 : decode cX1_attachesOf 1 = .ok (.istore_n 2, 1) := by decide +kernel
theorem dX1_attachesOf_2 : decode cX1_attachesOf 2 = .ok (.iconst 0, 1) := by decide +kernel
theorem dX1_attachesOf_3 : decode cX1_attachesOf 3 = .ok (.istore_n 3, 1) := by decide +kernel
theorem dX1_attachesOf_4 : decode cX1_attachesOf 4 = .ok (.iload_n 3, 1) := by decide +kernel
theorem dX1_attachesOf_5 : decode cX1_attachesOf 5 = .ok (.aload_n 0, 1) := by decide +kernel
theorem dX1_attachesOf_6 : decode cX1_attachesOf 6 = .ok (.getfield 28, 3) := by decide +kernel
theorem dX1_attachesOf_9 : decode cX1_attachesOf 9 = .ok (.if_icmp .ge 25, 3) := by decide +kernel
theorem dX1_attachesOf_12 : decode cX1_attachesOf 12 = .ok (.aload_n 0, 1) := by decide +kernel
theorem dX1_attachesOf_13 : decode cX1_attachesOf 13 = .ok (.getfield 23, 3) := by decide +kernel
theorem dX1_attachesOf_16 : decode cX1_attachesOf 16 = .ok (.iload_n 3, 1) := by decide +kernel
theorem dX1_attachesOf_17 : decode cX1_attachesOf 17 = .ok (.aaload, 1) := by decide +kernel
theorem dX1_attachesOf_18 : decode cX1_attachesOf 18 = .ok (.getfield 42, 3) := by decide +kernel
theorem dX1_attachesOf_21 : decode cX1_attachesOf 21 = .ok (.iload_n 1, 1) := by decide +kernel
theorem dX1_attachesOf_22 : decode cX1_attachesOf 22 = .ok (.if_icmp .ne 6, 3) := by decide +kernel
theorem dX1_attachesOf_25 : decode cX1_attachesOf 25 = .ok (.iinc 2 1, 3) := by decide +kernel
theorem dX1_attachesOf_28 : decode cX1_attachesOf 28 = .ok (.iinc 3 1, 3) := by decide +kernel
theorem dX1_attachesOf_31 : decode cX1_attachesOf 31 = .ok (.goto (-27), 3) := by decide +kernel
theorem dX1_attachesOf_34 : decode cX1_attachesOf 34 = .ok (.iload_n 2, 1) := by decide +kernel
theorem dX1_attachesOf_35 : decode cX1_attachesOf 35 = .ok (.ireturn, 1) := by decide +kernel
theorem dX1_writingSide_0 : decode cX1_writingSide 0 = .ok (.aload_n 0, 1) := by decide +kernel
theorem dX1_writingSide_1 : decode cX1_writingSide 1 = .ok (.getfield 32, 3) := by decide +kernel
theorem dX1_writingSide_4 : decode cX1_writingSide 4 = .ok (.iconst 2, 1) := by decide +kernel
theorem dX1_writingSide_5 : decode cX1_writingSide 5 = .ok (.irem, 1) := by decide +kernel
theorem dX1_writingSide_6 : decode cX1_writingSide 6 = .ok (.ireturn, 1) := by decide +kernel
theorem dX1_writer_0 : decode cX1_writer 0 = .ok (.aload_n 0, 1) := by decide +kernel
theorem dX1_writer_1 : decode cX1_writer 1 = .ok (.invokevirtual 65, 3) := by decide +kernel
theorem dX1_writer_4 : decode cX1_writer 4 = .ok (.istore_n 1, 1) := by decide +kernel
theorem dX1_writer_5 : decode cX1_writer 5 = .ok (.aload_n 0, 1) := by decide +kernel
theorem dX1_writer_6 : decode cX1_writer 6 = .ok (.iload_n 1, 1) := by decide +kernel
theorem dX1_writer_7 : decode cX1_writer 7 = .ok (.invokevirtual 69, 3) := by decide +kernel
theorem dX1_writer_10 : decode cX1_writer 10 = .ok (.istore_n 2, 1) := by decide +kernel
theorem dX1_writer_11 : decode cX1_writer 11 = .ok (.iload_n 2, 1) := by decide +kernel
theorem dX1_writer_12 : decode cX1_writer 12 = .ok (.ifCond .ne 5, 3) := by decide +kernel
theorem dX1_writer_15 : decode cX1_writer 15 = .ok (.iconst (-1), 1) := by decide +kernel
theorem dX1_writer_16 : decode cX1_writer 16 = .ok (.ireturn, 1) := by decide +kernel
theorem dX1_writer_17 : decode cX1_writer 17 = .ok (.aload_n 0, 1) := by decide +kernel
theorem dX1_writer_18 : decode cX1_writer 18 = .ok (.getfield 32, 3) := by decide +kernel
theorem dX1_writer_21 : decode cX1_writer 21 = .ok (.iconst 2, 1) := by decide +kernel
theorem dX1_writer_22 : decode cX1_writer 22 = .ok (.idiv, 1) := by decide +kernel
theorem dX1_writer_23 : decode cX1_writer 23 = .ok (.iload_n 2, 1) := by decide +kernel
theorem dX1_writer_24 : decode cX1_writer 24 = .ok (.irem, 1) := by decide +kernel
theorem dX1_writer_25 : decode cX1_writer 25 = .ok (.istore_n 3, 1) := by decide +kernel
theorem dX1_writer_26 : decode cX1_writer 26 = .ok (.iconst 0, 1) := by decide +kernel
theorem dX1_writer_27 : decode cX1_writer 27 = .ok (.istore 4, 2) := by decide +kernel
theorem dX1_writer_29 : decode cX1_writer 29 = .ok (.iload 4, 2) := by decide +kernel
theorem dX1_writer_31 : decode cX1_writer 31 = .ok (.aload_n 0, 1) := by decide +kernel
theorem dX1_writer_32 : decode cX1_writer 32 = .ok (.getfield 28, 3) := by decide +kernel
theorem dX1_writer_35 : decode cX1_writer 35 = .ok (.if_icmp .ge 33, 3) := by decide +kernel
theorem dX1_writer_38 : decode cX1_writer 38 = .ok (.aload_n 0, 1) := by decide +kernel
theorem dX1_writer_39 : decode cX1_writer 39 = .ok (.getfield 23, 3) := by decide +kernel
theorem dX1_writer_42 : decode cX1_writer 42 = .ok (.iload 4, 2) := by decide +kernel
theorem dX1_writer_44 : decode cX1_writer 44 = .ok (.aaload, 1) := by decide +kernel
theorem dX1_writer_45 : decode cX1_writer 45 = .ok (.getfield 42, 3) := by decide +kernel
theorem dX1_writer_48 : decode cX1_writer 48 = .ok (.iload_n 1, 1) := by decide +kernel
theorem dX1_writer_49 : decode cX1_writer 49 = .ok (.if_icmp .ne 13, 3) := by decide +kernel
theorem dX1_writer_52 : decode cX1_writer 52 = .ok (.iload_n 3, 1) := by decide +kernel
theorem dX1_writer_53 : decode cX1_writer 53 = .ok (.ifCond .ne 6, 3) := by decide +kernel
theorem dX1_writer_56 : decode cX1_writer 56 = .ok (.iload 4, 2) := by decide +kernel
theorem dX1_writer_58 : decode cX1_writer 58 = .ok (.ireturn, 1) := by decide +kernel
theorem dX1_writer_59 : decode cX1_writer 59 = .ok (.iinc 3 (-1), 3) := by decide +kernel
theorem dX1_writer_62 : decode cX1_writer 62 = .ok (.iinc 4 1, 3) := by decide +kernel
theorem dX1_writer_65 : decode cX1_writer 65 = .ok (.goto (-36), 3) := by decide +kernel
theorem dX1_writer_68 : decode cX1_writer 68 = .ok (.iconst (-1), 1) := by decide +kernel
theorem dX1_writer_69 : decode cX1_writer 69 = .ok (.ireturn, 1) := by decide +kernel
theorem dX1_passDay_0 : decode cX1_passDay 0 = .ok (.aload_n 0, 1) := by decide +kernel
theorem dX1_passDay_1 : decode cX1_passDay 1 = .ok (.invokevirtual 73, 3) := by decide +kernel
theorem dX1_passDay_4 : decode cX1_passDay 4 = .ok (.istore_n 1, 1) := by decide +kernel
theorem dX1_passDay_5 : decode cX1_passDay 5 = .ok (.aload_n 0, 1) := by decide +kernel
theorem dX1_passDay_6 : decode cX1_passDay 6 = .ok (.iload_n 1, 1) := by decide +kernel
theorem dX1_passDay_7 : decode cX1_passDay 7 = .ok (.invokevirtual 76, 3) := by decide +kernel
theorem dX1_passDay_10 : decode cX1_passDay 10 = .ok (.ifCond .eq 36, 3) := by decide +kernel
theorem dX1_passDay_13 : decode cX1_passDay 13 = .ok (.aload_n 0, 1) := by decide +kernel
theorem dX1_passDay_14 : decode cX1_passDay 14 = .ok (.getfield 23, 3) := by decide +kernel
theorem dX1_passDay_17 : decode cX1_passDay 17 = .ok (.iload_n 1, 1) := by decide +kernel
theorem dX1_passDay_18 : decode cX1_passDay 18 = .ok (.aaload, 1) := by decide +kernel
theorem dX1_passDay_19 : decode cX1_passDay 19 = .ok (.astore_n 2, 1) := by decide +kernel
theorem dX1_passDay_20 : decode cX1_passDay 20 = .ok (.aload_n 0, 1) := by decide +kernel
theorem dX1_passDay_21 : decode cX1_passDay 21 = .ok (.aload_n 2, 1) := by decide +kernel
theorem dX1_passDay_22 : decode cX1_passDay 22 = .ok (.invokevirtual 80, 3) := by decide +kernel
theorem dX1_passDay_25 : decode cX1_passDay 25 = .ok (.astore_n 3, 1) := by decide +kernel
theorem dX1_passDay_26 : decode cX1_passDay 26 = .ok (.aload_n 3, 1) := by decide +kernel
theorem dX1_passDay_27 : decode cX1_passDay 27 = .ok (.getfield 84, 3) := by decide +kernel
theorem dX1_passDay_30 : decode cX1_passDay 30 = .ok (.ifCond .le 16, 3) := by decide +kernel
theorem dX1_passDay_33 : decode cX1_passDay 33 = .ok (.aload_n 2, 1) := by decide +kernel
theorem dX1_passDay_34 : decode cX1_passDay 34 = .ok (.aload_n 3, 1) := by decide +kernel
theorem dX1_passDay_35 : decode cX1_passDay 35 = .ok (.aload_n 0, 1) := by decide +kernel
theorem dX1_passDay_36 : decode cX1_passDay 36 = .ok (.aload_n 2, 1) := by decide +kernel
theorem dX1_passDay_37 : decode cX1_passDay 37 = .ok (.getfield 42, 3) := by decide +kernel
theorem dX1_passDay_40 : decode cX1_passDay 40 = .ok (.invokevirtual 45, 3) := by decide +kernel
theorem dX1_passDay_43 : decode cX1_passDay 43 = .ok (.invokevirtual 87, 3) := by decide +kernel
theorem dX1_passDay_46 : decode cX1_passDay 46 = .ok (.aload_n 0, 1) := by decide +kernel
theorem dX1_passDay_47 : decode cX1_passDay 47 = .ok (.dup, 1) := by decide +kernel
theorem dX1_passDay_48 : decode cX1_passDay 48 = .ok (.getfield 32, 3) := by decide +kernel
theorem dX1_passDay_51 : decode cX1_passDay 51 = .ok (.iconst 1, 1) := by decide +kernel
theorem dX1_passDay_52 : decode cX1_passDay 52 = .ok (.iadd, 1) := by decide +kernel
theorem dX1_passDay_53 : decode cX1_passDay 53 = .ok (.putfield 32, 3) := by decide +kernel
theorem dX1_passDay_56 : decode cX1_passDay 56 = .ok (.return_, 1) := by decide +kernel
theorem dX1_passDays_0 : decode cX1_passDays 0 = .ok (.iconst 0, 1) := by decide +kernel
theorem dX1_passDays_1 : decode cX1_passDays 1 = .ok (.istore_n 2, 1) := by decide +kernel
theorem dX1_passDays_2 : decode cX1_passDays 2 = .ok (.iload_n 2, 1) := by decide +kernel
theorem dX1_passDays_3 : decode cX1_passDays 3 = .ok (.iload_n 1, 1) := by decide +kernel
theorem dX1_passDays_4 : decode cX1_passDays 4 = .ok (.if_icmp .ge 13, 3) := by decide +kernel
theorem dX1_passDays_7 : decode cX1_passDays 7 = .ok (.aload_n 0, 1) := by decide +kernel
theorem dX1_passDays_8 : decode cX1_passDays 8 = .ok (.invokevirtual 91, 3) := by decide +kernel
theorem dX1_passDays_11 : decode cX1_passDays 11 = .ok (.iinc 2 1, 3) := by decide +kernel
theorem dX1_passDays_14 : decode cX1_passDays 14 = .ok (.goto (-12), 3) := by decide +kernel
theorem dX1_passDays_17 : decode cX1_passDays 17 = .ok (.return_, 1) := by decide +kernel
theorem dX1_passDaysUntilHome_0 : decode cX1_passDaysUntilHome 0 = .ok (.aload_n 0, 1) := by decide +kernel
theorem dX1_passDaysUntilHome_1 : decode cX1_passDaysUntilHome 1 = .ok (.iload_n 1, 1) := by decide +kernel
theorem dX1_passDaysUntilHome_2 : decode cX1_passDaysUntilHome 2 = .ok (.invokevirtual 45, 3) := by decide +kernel
theorem dX1_passDaysUntilHome_5 : decode cX1_passDaysUntilHome 5 = .ok (.astore_n 3, 1) := by decide +kernel
theorem dX1_passDaysUntilHome_6 : decode cX1_passDaysUntilHome 6 = .ok (.iconst 0, 1) := by decide +kernel
theorem dX1_passDaysUntilHome_7 : decode cX1_passDaysUntilHome 7 = .ok (.istore 4, 2) := by decide +kernel
theorem dX1_passDaysUntilHome_9 : decode cX1_passDaysUntilHome 9 = .ok (.iload 4, 2) := by decide +kernel
theorem dX1_passDaysUntilHome_11 : decode cX1_passDaysUntilHome 11 = .ok (.iload_n 2, 1) := by decide +kernel
theorem dX1_passDaysUntilHome_12 : decode cX1_passDaysUntilHome 12 = .ok (.if_icmp .gt 23, 3) := by decide +kernel
theorem dX1_passDaysUntilHome_15 : decode cX1_passDaysUntilHome 15 = .ok (.aload_n 3, 1) := by decide +kernel
theorem dX1_passDaysUntilHome_16 : decode cX1_passDaysUntilHome 16 = .ok (.invokevirtual 94, 3) := by decide +kernel
theorem dX1_passDaysUntilHome_19 : decode cX1_passDaysUntilHome 19 = .ok (.ifCond .eq 6, 3) := by decide +kernel
theorem dX1_passDaysUntilHome_22 : decode cX1_passDaysUntilHome 22 = .ok (.iload 4, 2) := by decide +kernel
theorem dX1_passDaysUntilHome_24 : decode cX1_passDaysUntilHome 24 = .ok (.ireturn, 1) := by decide +kernel
theorem dX1_passDaysUntilHome_25 : decode cX1_passDaysUntilHome 25 = .ok (.aload_n 0, 1) := by decide +kernel
theorem dX1_passDaysUntilHome_26 : decode cX1_passDaysUntilHome 26 = .ok (.invokevirtual 91, 3) := by decide +kernel
theorem dX1_passDaysUntilHome_29 : decode cX1_passDaysUntilHome 29 = .ok (.iinc 4 1, 3) := by decide +kernel
theorem dX1_passDaysUntilHome_32 : decode cX1_passDaysUntilHome 32 = .ok (.goto (-23), 3) := by decide +kernel
theorem dX1_passDaysUntilHome_35 : decode cX1_passDaysUntilHome 35 = .ok (.iload_n 2, 1) := by decide +kernel
theorem dX1_passDaysUntilHome_36 : decode cX1_passDaysUntilHome 36 = .ok (.iconst 1, 1) := by decide +kernel
theorem dX1_passDaysUntilHome_37 : decode cX1_passDaysUntilHome 37 = .ok (.iadd, 1) := by decide +kernel
theorem dX1_passDaysUntilHome_38 : decode cX1_passDaysUntilHome 38 = .ok (.ireturn, 1) := by decide +kernel
theorem dX1_passDaysUntilAlike_0 : decode cX1_passDaysUntilAlike 0 = .ok (.iconst 0, 1) := by decide +kernel
theorem dX1_passDaysUntilAlike_1 : decode cX1_passDaysUntilAlike 1 = .ok (.istore_n 2, 1) := by decide +kernel
theorem dX1_passDaysUntilAlike_2 : decode cX1_passDaysUntilAlike 2 = .ok (.iload_n 2, 1) := by decide +kernel
theorem dX1_passDaysUntilAlike_3 : decode cX1_passDaysUntilAlike 3 = .ok (.iload_n 1, 1) := by decide +kernel
theorem dX1_passDaysUntilAlike_4 : decode cX1_passDaysUntilAlike 4 = .ok (.if_icmp .gt 22, 3) := by decide +kernel
theorem dX1_passDaysUntilAlike_7 : decode cX1_passDaysUntilAlike 7 = .ok (.aload_n 0, 1) := by decide +kernel
theorem dX1_passDaysUntilAlike_8 : decode cX1_passDaysUntilAlike 8 = .ok (.invokevirtual 97, 3) := by decide +kernel
theorem dX1_passDaysUntilAlike_11 : decode cX1_passDaysUntilAlike 11 = .ok (.ifCond .eq 5, 3) := by decide +kernel
theorem dX1_passDaysUntilAlike_14 : decode cX1_passDaysUntilAlike 14 = .ok (.iload_n 2, 1) := by decide +kernel
theorem dX1_passDaysUntilAlike_15 : decode cX1_passDaysUntilAlike 15 = .ok (.ireturn, 1) := by decide +kernel
theorem dX1_passDaysUntilAlike_16 : decode cX1_passDaysUntilAlike 16 = .ok (.aload_n 0, 1) := by decide +kernel
theorem dX1_passDaysUntilAlike_17 : decode cX1_passDaysUntilAlike 17 = .ok (.invokevirtual 91, 3) := by decide +kernel
theorem dX1_passDaysUntilAlike_20 : decode cX1_passDaysUntilAlike 20 = .ok (.iinc 2 1, 3) := by decide +kernel
theorem dX1_passDaysUntilAlike_23 : decode cX1_passDaysUntilAlike 23 = .ok (.goto (-21), 3) := by decide +kernel
theorem dX1_passDaysUntilAlike_26 : decode cX1_passDaysUntilAlike 26 = .ok (.iload_n 1, 1) := by decide +kernel
theorem dX1_passDaysUntilAlike_27 : decode cX1_passDaysUntilAlike 27 = .ok (.iconst 1, 1) := by decide +kernel
theorem dX1_passDaysUntilAlike_28 : decode cX1_passDaysUntilAlike 28 = .ok (.iadd, 1) := by decide +kernel
theorem dX1_passDaysUntilAlike_29 : decode cX1_passDaysUntilAlike 29 = .ok (.ireturn, 1) := by decide +kernel
theorem dX1_isAlike_0 : decode cX1_isAlike 0 = .ok (.aload_n 0, 1) := by decide +kernel
theorem dX1_isAlike_1 : decode cX1_isAlike 1 = .ok (.getfield 12, 3) := by decide +kernel
theorem dX1_isAlike_4 : decode cX1_isAlike 4 = .ok (.getfield 84, 3) := by decide +kernel
theorem dX1_isAlike_7 : decode cX1_isAlike 7 = .ok (.ifCond .le 21, 3) := by decide +kernel
theorem dX1_isAlike_10 : decode cX1_isAlike 10 = .ok (.aload_n 0, 1) := by decide +kernel
theorem dX1_isAlike_11 : decode cX1_isAlike 11 = .ok (.getfield 12, 3) := by decide +kernel
theorem dX1_isAlike_14 : decode cX1_isAlike 14 = .ok (.aload_n 0, 1) := by decide +kernel
theorem dX1_isAlike_15 : decode cX1_isAlike 15 = .ok (.getfield 18, 3) := by decide +kernel
theorem dX1_isAlike_18 : decode cX1_isAlike 18 = .ok (.invokevirtual 100, 3) := by decide +kernel
theorem dX1_isAlike_21 : decode cX1_isAlike 21 = .ok (.ifCond .eq 7, 3) := by decide +kernel
theorem dX1_isAlike_24 : decode cX1_isAlike 24 = .ok (.iconst 1, 1) := by decide +kernel
theorem dX1_isAlike_25 : decode cX1_isAlike 25 = .ok (.goto 4, 3) := by decide +kernel
theorem dX1_isAlike_28 : decode cX1_isAlike 28 = .ok (.iconst 0, 1) := by decide +kernel
theorem dX1_isAlike_29 : decode cX1_isAlike 29 = .ok (.ireturn, 1) := by decide +kernel
theorem dX1_homeSides_0 : decode cX1_homeSides 0 = .ok (.aload_n 0, 1) := by decide +kernel
theorem dX1_homeSides_1 : decode cX1_homeSides 1 = .ok (.getfield 12, 3) := by decide +kernel
theorem dX1_homeSides_4 : decode cX1_homeSides 4 = .ok (.invokevirtual 94, 3) := by decide +kernel
theorem dX1_homeSides_7 : decode cX1_homeSides 7 = .ok (.ifCond .eq 7, 3) := by decide +kernel
theorem dX1_homeSides_10 : decode cX1_homeSides 10 = .ok (.iconst 1, 1) := by decide +kernel
theorem dX1_homeSides_11 : decode cX1_homeSides 11 = .ok (.goto 4, 3) := by decide +kernel
theorem dX1_homeSides_14 : decode cX1_homeSides 14 = .ok (.iconst 0, 1) := by decide +kernel
theorem dX1_homeSides_15 : decode cX1_homeSides 15 = .ok (.aload_n 0, 1) := by decide +kernel
theorem dX1_homeSides_16 : decode cX1_homeSides 16 = .ok (.getfield 18, 3) := by decide +kernel
theorem dX1_homeSides_19 : decode cX1_homeSides 19 = .ok (.invokevirtual 94, 3) := by decide +kernel
theorem dX1_homeSides_22 : decode cX1_homeSides 22 = .ok (.ifCond .eq 7, 3) := by decide +kernel
theorem dX1_homeSides_25 : decode cX1_homeSides 25 = .ok (.iconst 2, 1) := by decide +kernel
theorem dX1_homeSides_26 : decode cX1_homeSides 26 = .ok (.goto 4, 3) := by decide +kernel
theorem dX1_homeSides_29 : decode cX1_homeSides 29 = .ok (.iconst 0, 1) := by decide +kernel
theorem dX1_homeSides_30 : decode cX1_homeSides 30 = .ok (.ior, 1) := by decide +kernel
theorem dX1_homeSides_31 : decode cX1_homeSides 31 = .ok (.ireturn, 1) := by decide +kernel
theorem dX1_wroteTogether_0 : decode cX1_wroteTogether 0 = .ok (.iconst 0, 1) := by decide +kernel
theorem dX1_wroteTogether_1 : decode cX1_wroteTogether 1 = .ok (.istore_n 1, 1) := by decide +kernel
theorem dX1_wroteTogether_2 : decode cX1_wroteTogether 2 = .ok (.iconst 0, 1) := by decide +kernel
theorem dX1_wroteTogether_3 : decode cX1_wroteTogether 3 = .ok (.istore_n 2, 1) := by decide +kernel
theorem dX1_wroteTogether_4 : decode cX1_wroteTogether 4 = .ok (.iload_n 2, 1) := by decide +kernel
theorem dX1_wroteTogether_5 : decode cX1_wroteTogether 5 = .ok (.aload_n 0, 1) := by decide +kernel
theorem dX1_wroteTogether_6 : decode cX1_wroteTogether 6 = .ok (.getfield 28, 3) := by decide +kernel
theorem dX1_wroteTogether_9 : decode cX1_wroteTogether 9 = .ok (.if_icmp .ge 21, 3) := by decide +kernel
theorem dX1_wroteTogether_12 : decode cX1_wroteTogether 12 = .ok (.iload_n 1, 1) := by decide +kernel
theorem dX1_wroteTogether_13 : decode cX1_wroteTogether 13 = .ok (.aload_n 0, 1) := by decide +kernel
theorem dX1_wroteTogether_14 : decode cX1_wroteTogether 14 = .ok (.getfield 23, 3) := by decide +kernel
theorem dX1_wroteTogether_17 : decode cX1_wroteTogether 17 = .ok (.iload_n 2, 1) := by decide +kernel
theorem dX1_wroteTogether_18 : decode cX1_wroteTogether 18 = .ok (.aaload, 1) := by decide +kernel
theorem dX1_wroteTogether_19 : decode cX1_wroteTogether 19 = .ok (.getfield 62, 3) := by decide +kernel
theorem dX1_wroteTogether_22 : decode cX1_wroteTogether 22 = .ok (.iadd, 1) := by decide +kernel
theorem dX1_wroteTogether_23 : decode cX1_wroteTogether 23 = .ok (.istore_n 1, 1) := by decide +kernel
theorem dX1_wroteTogether_24 : decode cX1_wroteTogether 24 = .ok (.iinc 2 1, 3) := by decide +kernel
theorem dX1_wroteTogether_27 : decode cX1_wroteTogether 27 = .ok (.goto (-23), 3) := by decide +kernel
theorem dX1_wroteTogether_30 : decode cX1_wroteTogether 30 = .ok (.iload_n 1, 1) := by decide +kernel
theorem dX1_wroteTogether_31 : decode cX1_wroteTogether 31 = .ok (.ireturn, 1) := by decide +kernel
theorem dX1_blotsTogether_0 : decode cX1_blotsTogether 0 = .ok (.iconst 0, 1) := by decide +kernel
theorem dX1_blotsTogether_1 : decode cX1_blotsTogether 1 = .ok (.istore_n 1, 1) := by decide +kernel
theorem dX1_blotsTogether_2 : decode cX1_blotsTogether 2 = .ok (.iconst 0, 1) := by decide +kernel
theorem dX1_blotsTogether_3 : decode cX1_blotsTogether 3 = .ok (.istore_n 2, 1) := by decide +kernel
theorem dX1_blotsTogether_4 : decode cX1_blotsTogether 4 = .ok (.iload_n 2, 1) := by decide +kernel
theorem dX1_blotsTogether_5 : decode cX1_blotsTogether 5 = .ok (.aload_n 0, 1) := by decide +kernel
theorem dX1_blotsTogether_6 : decode cX1_blotsTogether 6 = .ok (.getfield 28, 3) := by decide +kernel
theorem dX1_blotsTogether_9 : decode cX1_blotsTogether 9 = .ok (.if_icmp .ge 24, 3) := by decide +kernel
theorem dX1_blotsTogether_12 : decode cX1_blotsTogether 12 = .ok (.iload_n 1, 1) := by decide +kernel
theorem dX1_blotsTogether_13 : decode cX1_blotsTogether 13 = .ok (.aload_n 0, 1) := by decide +kernel
theorem dX1_blotsTogether_14 : decode cX1_blotsTogether 14 = .ok (.getfield 23, 3) := by decide +kernel
theorem dX1_blotsTogether_17 : decode cX1_blotsTogether 17 = .ok (.iload_n 2, 1) := by decide +kernel
theorem dX1_blotsTogether_18 : decode cX1_blotsTogether 18 = .ok (.aaload, 1) := by decide +kernel
theorem dX1_blotsTogether_19 : decode cX1_blotsTogether 19 = .ok (.getfield 59, 3) := by decide +kernel
theorem dX1_blotsTogether_22 : decode cX1_blotsTogether 22 = .ok (.invokestatic 104, 3) := by decide +kernel
theorem dX1_blotsTogether_25 : decode cX1_blotsTogether 25 = .ok (.iadd, 1) := by decide +kernel
theorem dX1_blotsTogether_26 : decode cX1_blotsTogether 26 = .ok (.istore_n 1, 1) := by decide +kernel
theorem dX1_blotsTogether_27 : decode cX1_blotsTogether 27 = .ok (.iinc 2 1, 3) := by decide +kernel
theorem dX1_blotsTogether_30 : decode cX1_blotsTogether 30 = .ok (.goto (-26), 3) := by decide +kernel
theorem dX1_blotsTogether_33 : decode cX1_blotsTogether 33 = .ok (.iload_n 1, 1) := by decide +kernel
theorem dX1_blotsTogether_34 : decode cX1_blotsTogether 34 = .ok (.ireturn, 1) := by decide +kernel
theorem dX2_init_0 : decode cX2_init 0 = .ok (.aload_n 0, 1) := by decide +kernel
theorem dX2_init_1 : decode cX2_init 1 = .ok (.invokespecial 3, 3) := by decide +kernel
theorem dX2_init_4 : decode cX2_init 4 = .ok (.aload_n 0, 1) := by decide +kernel
theorem dX2_init_5 : decode cX2_init 5 = .ok (.aload_n 1, 1) := by decide +kernel
theorem dX2_init_6 : decode cX2_init 6 = .ok (.putfield 9, 3) := by decide +kernel
theorem dX2_init_9 : decode cX2_init 9 = .ok (.aload_n 0, 1) := by decide +kernel
theorem dX2_init_10 : decode cX2_init 10 = .ok (.iconst 0, 1) := by decide +kernel
theorem dX2_init_11 : decode cX2_init 11 = .ok (.putfield 15, 3) := by decide +kernel
theorem dX2_init_14 : decode cX2_init 14 = .ok (.aload_n 0, 1) := by decide +kernel
theorem dX2_init_15 : decode cX2_init 15 = .ok (.iconst 0, 1) := by decide +kernel
theorem dX2_init_16 : decode cX2_init 16 = .ok (.putfield 19, 3) := by decide +kernel
theorem dX2_init_19 : decode cX2_init 19 = .ok (.aload_n 0, 1) := by decide +kernel
theorem dX2_init_20 : decode cX2_init 20 = .ok (.iconst 0, 1) := by decide +kernel
theorem dX2_init_21 : decode cX2_init 21 = .ok (.putfield 22, 3) := by decide +kernel
theorem dX2_init_24 : decode cX2_init 24 = .ok (.aload_n 0, 1) := by decide +kernel
theorem dX2_init_25 : decode cX2_init 25 = .ok (.iconst 0, 1) := by decide +kernel
theorem dX2_init_26 : decode cX2_init 26 = .ok (.putfield 25, 3) := by decide +kernel
theorem dX2_init_29 : decode cX2_init 29 = .ok (.return_, 1) := by decide +kernel
theorem dX2_tellTo_0 : decode cX2_tellTo 0 = .ok (.aload_n 0, 1) := by decide +kernel
theorem dX2_tellTo_1 : decode cX2_tellTo 1 = .ok (.iconst 0, 1) := by decide +kernel
theorem dX2_tellTo_2 : decode cX2_tellTo 2 = .ok (.putfield 22, 3) := by decide +kernel
theorem dX2_tellTo_5 : decode cX2_tellTo 5 = .ok (.aload_n 0, 1) := by decide +kernel
theorem dX2_tellTo_6 : decode cX2_tellTo 6 = .ok (.invokevirtual 28, 3) := by decide +kernel
theorem dX2_tellTo_9 : decode cX2_tellTo 9 = .ok (.iconst 1, 1) := by decide +kernel
theorem dX2_tellTo_10 : decode cX2_tellTo 10 = .ok (.istore_n 2, 1) := by decide +kernel
theorem dX2_tellTo_11 : decode cX2_tellTo 11 = .ok (.iload_n 2, 1) := by decide +kernel
theorem dX2_tellTo_12 : decode cX2_tellTo 12 = .ok (.bipush 120, 2) := by decide +kernel
theorem dX2_tellTo_14 : decode cX2_tellTo 14 = .ok (.if_icmp .gt 44, 3) := by decide +kernel
theorem dX2_tellTo_17 : decode cX2_tellTo 17 = .ok (.aload_n 0, 1) := by decide +kernel
theorem dX2_tellTo_18 : decode cX2_tellTo 18 = .ok (.aload_n 1, 1) := by decide +kernel
theorem dX2_tellTo_19 : decode cX2_tellTo 19 = .ok (.invokevirtual 31, 3) := by decide +kernel
theorem dX2_tellTo_22 : decode cX2_tellTo 22 = .ok (.ifCond .ne 6, 3) := by decide +kernel
theorem dX2_tellTo_25 : decode cX2_tellTo 25 = .ok (.goto 33, 3) := by decide +kernel
theorem dX2_tellTo_28 : decode cX2_tellTo 28 = .ok (.aload_n 0, 1) := by decide +kernel
theorem dX2_tellTo_29 : decode cX2_tellTo 29 = .ok (.getfield 15, 3) := by decide +kernel
theorem dX2_tellTo_32 : decode cX2_tellTo 32 = .ok (.ifCond .ne 5, 3) := by decide +kernel
theorem dX2_tellTo_35 : decode cX2_tellTo 35 = .ok (.iload_n 2, 1) := by decide +kernel
theorem dX2_tellTo_36 : decode cX2_tellTo 36 = .ok (.ireturn, 1) := by decide +kernel
theorem dX2_tellTo_37 : decode cX2_tellTo 37 = .ok (.aload_n 0, 1) := by decide +kernel
theorem dX2_tellTo_38 : decode cX2_tellTo 38 = .ok (.getfield 15, 3) := by decide +kernel
theorem dX2_tellTo_41 : decode cX2_tellTo 41 = .ok (.iconst 3, 1) := by decide +kernel
theorem dX2_tellTo_42 : decode cX2_tellTo 42 = .ok (.if_icmp .eq 6, 3) := by decide +kernel
theorem dX2_tellTo_45 : decode cX2_tellTo 45 = .ok (.goto 13, 3) := by decide +kernel
theorem dX2_tellTo_48 : decode cX2_tellTo 48 = .ok (.aload_n 0, 1) := by decide +kernel
theorem dX2_tellTo_49 : decode cX2_tellTo 49 = .ok (.invokevirtual 28, 3) := by decide +kernel
theorem dX2_tellTo_52 : decode cX2_tellTo 52 = .ok (.iinc 2 1, 3) := by decide +kernel
theorem dX2_tellTo_55 : decode cX2_tellTo 55 = .ok (.goto (-44), 3) := by decide +kernel
theorem dX2_tellTo_58 : decode cX2_tellTo 58 = .ok (.iconst (-1), 1) := by decide +kernel
theorem dX2_tellTo_59 : decode cX2_tellTo 59 = .ok (.aload_n 0, 1) := by decide +kernel
theorem dX2_tellTo_60 : decode cX2_tellTo 60 = .ok (.getfield 19, 3) := by decide +kernel
theorem dX2_tellTo_63 : decode cX2_tellTo 63 = .ok (.isub, 1) := by decide +kernel
theorem dX2_tellTo_64 : decode cX2_tellTo 64 = .ok (.ireturn, 1) := by decide +kernel
theorem dX2_tellItem_0 : decode cX2_tellItem 0 = .ok (.aload_n 0, 1) := by decide +kernel
theorem dX2_tellItem_1 : decode cX2_tellItem 1 = .ok (.ldc 35, 2) := by decide +kernel
theorem dX2_tellItem_3 : decode cX2_tellItem 3 = .ok (.invokevirtual 37, 3) := by decide +kernel
theorem dX2_tellItem_6 : decode cX2_tellItem 6 = .ok (.ifCond .eq 9, 3) := by decide +kernel
theorem dX2_tellItem_9 : decode cX2_tellItem 9 = .ok (.aload_n 0, 1) := by decide +kernel
theorem dX2_tellItem_10 : decode cX2_tellItem 10 = .ok (.aload_n 1, 1) := by decide +kernel
theorem dX2_tellItem_11 : decode cX2_tellItem 11 = .ok (.invokevirtual 41, 3) := by decide +kernel
theorem dX2_tellItem_14 : decode cX2_tellItem 14 = .ok (.ireturn, 1) := by decide +kernel
theorem dX2_tellItem_15 : decode cX2_tellItem 15 = .ok (.aload_n 0, 1) := by decide +kernel
theorem dX2_tellItem_16 : decode cX2_tellItem 16 = .ok (.invokevirtual 44, 3) := by decide +kernel
theorem dX2_tellItem_19 : decode cX2_tellItem 19 = .ok (.istore_n 2, 1) := by decide +kernel
theorem dX2_tellItem_20 : decode cX2_tellItem 20 = .ok (.iload_n 2, 1) := by decide +kernel
theorem dX2_tellItem_21 : decode cX2_tellItem 21 = .ok (.iconst (-1), 1) := by decide +kernel
theorem dX2_tellItem_22 : decode cX2_tellItem 22 = .ok (.if_icmp .eq 10, 3) := by decide +kernel
theorem dX2_tellItem_25 : decode cX2_tellItem 25 = .ok (.aload_n 1, 1) := by decide +kernel
theorem dX2_tellItem_26 : decode cX2_tellItem 26 = .ok (.invokevirtual 48, 3) := by decide +kernel
theorem dX2_tellItem_29 : decode cX2_tellItem 29 = .ok (.ifCond .eq 5, 3) := by decide +kernel
theorem dX2_tellItem_32 : decode cX2_tellItem 32 = .ok (.iconst 0, 1) := by decide +kernel
theorem dX2_tellItem_33 : decode cX2_tellItem 33 = .ok (.ireturn, 1) := by decide +kernel
theorem dX2_tellItem_34 : decode cX2_tellItem 34 = .ok (.aload_n 0, 1) := by decide +kernel
theorem dX2_tellItem_35 : decode cX2_tellItem 35 = .ok (.aload_n 1, 1) := by decide +kernel
theorem dX2_tellItem_36 : decode cX2_tellItem 36 = .ok (.iload_n 2, 1) := by decide +kernel
theorem dX2_tellItem_37 : decode cX2_tellItem 37 = .ok (.invokevirtual 54, 3) := by decide +kernel
theorem dX2_tellItem_40 : decode cX2_tellItem 40 = .ok (.ireturn, 1) := by decide +kernel
theorem dX2_tellTune_0 : decode cX2_tellTune 0 = .ok (.aload_n 0, 1) := by decide +kernel
theorem dX2_tellTune_1 : decode cX2_tellTune 1 = .ok (.invokevirtual 28, 3) := by decide +kernel
theorem dX2_tellTune_4 : decode cX2_tellTune 4 = .ok (.aload_n 0, 1) := by decide +kernel
theorem dX2_tellTune_5 : decode cX2_tellTune 5 = .ok (.iconst 1, 1) := by decide +kernel
theorem dX2_tellTune_6 : decode cX2_tellTune 6 = .ok (.invokevirtual 58, 3) := by decide +kernel
theorem dX2_tellTune_9 : decode cX2_tellTune 9 = .ok (.ifCond .ne 5, 3) := by decide +kernel
theorem dX2_tellTune_12 : decode cX2_tellTune 12 = .ok (.iconst 0, 1) := by decide +kernel
theorem dX2_tellTune_13 : decode cX2_tellTune 13 = .ok (.ireturn, 1) := by decide +kernel
theorem dX2_tellTune_14 : decode cX2_tellTune 14 = .ok (.aload_n 1, 1) := by decide +kernel
theorem dX2_tellTune_15 : decode cX2_tellTune 15 = .ok (.aload_n 0, 1) := by decide +kernel
theorem dX2_tellTune_16 : decode cX2_tellTune 16 = .ok (.getfield 25, 3) := by decide +kernel
theorem dX2_tellTune_19 : decode cX2_tellTune 19 = .ok (.invokevirtual 62, 3) := by decide +kernel
theorem dX2_tellTune_22 : decode cX2_tellTune 22 = .ok (.astore_n 2, 1) := by decide +kernel
theorem dX2_tellTune_23 : decode cX2_tellTune 23 = .ok (.aload_n 2, 1) := by decide +kernel
theorem dX2_tellTune_24 : decode cX2_tellTune 24 = .ok (.invokevirtual 66, 3) := by decide +kernel
theorem dX2_tellTune_27 : decode cX2_tellTune 27 = .ok (.aload_n 0, 1) := by decide +kernel
theorem dX2_tellTune_28 : decode cX2_tellTune 28 = .ok (.invokevirtual 28, 3) := by decide +kernel
theorem dX2_tellTune_31 : decode cX2_tellTune 31 = .ok (.iconst 0, 1) := by decide +kernel
theorem dX2_tellTune_32 : decode cX2_tellTune 32 = .ok (.istore_n 3, 1) := by decide +kernel
theorem dX2_tellTune_33 : decode cX2_tellTune 33 = .ok (.iload_n 3, 1) := by decide +kernel
theorem dX2_tellTune_34 : decode cX2_tellTune 34 = .ok (.bipush 12, 2) := by decide +kernel
theorem dX2_tellTune_36 : decode cX2_tellTune 36 = .ok (.if_icmp .ge 30, 3) := by decide +kernel
theorem dX2_tellTune_39 : decode cX2_tellTune 39 = .ok (.aload_n 0, 1) := by decide +kernel
theorem dX2_tellTune_40 : decode cX2_tellTune 40 = .ok (.bipush 11, 2) := by decide +kernel
theorem dX2_tellTune_42 : decode cX2_tellTune 42 = .ok (.invokevirtual 58, 3) := by decide +kernel
theorem dX2_tellTune_45 : decode cX2_tellTune 45 = .ok (.ifCond .eq 21, 3) := by decide +kernel
theorem dX2_tellTune_48 : decode cX2_tellTune 48 = .ok (.aload_n 2, 1) := by decide +kernel
theorem dX2_tellTune_49 : decode cX2_tellTune 49 = .ok (.aload_n 0, 1) := by decide +kernel
theorem dX2_tellTune_50 : decode cX2_tellTune 50 = .ok (.getfield 25, 3) := by decide +kernel
theorem dX2_tellTune_53 : decode cX2_tellTune 53 = .ok (.invokevirtual 71, 3) := by decide +kernel
theorem dX2_tellTune_56 : decode cX2_tellTune 56 = .ok (.aload_n 0, 1) := by decide +kernel
theorem dX2_tellTune_57 : decode cX2_tellTune 57 = .ok (.invokevirtual 28, 3) := by decide +kernel
theorem dX2_tellTune_60 : decode cX2_tellTune 60 = .ok (.iinc 3 1, 3) := by decide +kernel
theorem dX2_tellTune_63 : decode cX2_tellTune 63 = .ok (.goto (-30), 3) := by decide +kernel
theorem dX2_tellTune_66 : decode cX2_tellTune 66 = .ok (.aload_n 2, 1) := by decide +kernel
theorem dX2_tellTune_67 : decode cX2_tellTune 67 = .ok (.getfield 75, 3) := by decide +kernel
theorem dX2_tellTune_70 : decode cX2_tellTune 70 = .ok (.ifCond .le 15, 3) := by decide +kernel
theorem dX2_tellTune_73 : decode cX2_tellTune 73 = .ok (.aload_n 0, 1) := by decide +kernel
theorem dX2_tellTune_74 : decode cX2_tellTune 74 = .ok (.getfield 15, 3) := by decide +kernel
theorem dX2_tellTune_77 : decode cX2_tellTune 77 = .ok (.iconst 2, 1) := by decide +kernel
theorem dX2_tellTune_78 : decode cX2_tellTune 78 = .ok (.if_icmp .eq 7, 3) := by decide +kernel
theorem dX2_tellTune_81 : decode cX2_tellTune 81 = .ok (.iconst 1, 1) := by decide +kernel
theorem dX2_tellTune_82 : decode cX2_tellTune 82 = .ok (.goto 4, 3) := by decide +kernel
theorem dX2_tellTune_85 : decode cX2_tellTune 85 = .ok (.iconst 0, 1) := by decide +kernel
theorem dX2_tellTune_86 : decode cX2_tellTune 86 = .ok (.ireturn, 1) := by decide +kernel
theorem dX2_tellAttache_0 : decode cX2_tellAttache 0 = .ok (.aload_n 0, 1) := by decide +kernel
theorem dX2_tellAttache_1 : decode cX2_tellAttache 1 = .ok (.invokevirtual 28, 3) := by decide +kernel
theorem dX2_tellAttache_4 : decode cX2_tellAttache 4 = .ok (.aload_n 0, 1) := by decide +kernel
theorem dX2_tellAttache_5 : decode cX2_tellAttache 5 = .ok (.ldc 78, 2) := by decide +kernel
theorem dX2_tellAttache_7 : decode cX2_tellAttache 7 = .ok (.invokevirtual 37, 3) := by decide +kernel
theorem dX2_tellAttache_10 : decode cX2_tellAttache 10 = .ok (.ifCond .ne 5, 3) := by decide +kernel
theorem dX2_tellAttache_13 : decode cX2_tellAttache 13 = .ok (.iconst 0, 1) := by decide +kernel
theorem dX2_tellAttache_14 : decode cX2_tellAttache 14 = .ok (.ireturn, 1) := by decide +kernel
theorem dX2_tellAttache_15 : decode cX2_tellAttache 15 = .ok (.aload_n 0, 1) := by decide +kernel
theorem dX2_tellAttache_16 : decode cX2_tellAttache 16 = .ok (.invokevirtual 28, 3) := by decide +kernel
theorem dX2_tellAttache_19 : decode cX2_tellAttache 19 = .ok (.aload_n 0, 1) := by decide +kernel
theorem dX2_tellAttache_20 : decode cX2_tellAttache 20 = .ok (.iconst 1, 1) := by decide +kernel
theorem dX2_tellAttache_21 : decode cX2_tellAttache 21 = .ok (.invokevirtual 58, 3) := by decide +kernel
theorem dX2_tellAttache_24 : decode cX2_tellAttache 24 = .ok (.ifCond .ne 5, 3) := by decide +kernel
theorem dX2_tellAttache_27 : decode cX2_tellAttache 27 = .ok (.iconst 0, 1) := by decide +kernel
theorem dX2_tellAttache_28 : decode cX2_tellAttache 28 = .ok (.ireturn, 1) := by decide +kernel
theorem dX2_tellAttache_29 : decode cX2_tellAttache 29 = .ok (.aload_n 0, 1) := by decide +kernel
theorem dX2_tellAttache_30 : decode cX2_tellAttache 30 = .ok (.getfield 25, 3) := by decide +kernel
theorem dX2_tellAttache_33 : decode cX2_tellAttache 33 = .ok (.istore_n 3, 1) := by decide +kernel
theorem dX2_tellAttache_34 : decode cX2_tellAttache 34 = .ok (.iconst 0, 1) := by decide +kernel
theorem dX2_tellAttache_35 : decode cX2_tellAttache 35 = .ok (.istore 4, 2) := by decide +kernel
theorem dX2_tellAttache_37 : decode cX2_tellAttache 37 = .ok (.iconst 0, 1) := by decide +kernel
theorem dX2_tellAttache_38 : decode cX2_tellAttache 38 = .ok (.istore 5, 2) := by decide +kernel
theorem dX2_tellAttache_40 : decode cX2_tellAttache 40 = .ok (.aload_n 0, 1) := by decide +kernel
theorem dX2_tellAttache_41 : decode cX2_tellAttache 41 = .ok (.invokevirtual 28, 3) := by decide +kernel
theorem dX2_tellAttache_44 : decode cX2_tellAttache 44 = .ok (.aload_n 0, 1) := by decide +kernel
theorem dX2_tellAttache_45 : decode cX2_tellAttache 45 = .ok (.ldc 80, 2) := by decide +kernel
theorem dX2_tellAttache_47 : decode cX2_tellAttache 47 = .ok (.invokevirtual 37, 3) := by decide +kernel
theorem dX2_tellAttache_50 : decode cX2_tellAttache 50 = .ok (.ifCond .eq 28, 3) := by decide +kernel
theorem dX2_tellAttache_53 : decode cX2_tellAttache 53 = .ok (.aload_n 0, 1) := by decide +kernel
theorem dX2_tellAttache_54 : decode cX2_tellAttache 54 = .ok (.invokevirtual 28, 3) := by decide +kernel
theorem dX2_tellAttache_57 : decode cX2_tellAttache 57 = .ok (.aload_n 0, 1) := by decide +kernel
theorem dX2_tellAttache_58 : decode cX2_tellAttache 58 = .ok (.bipush 11, 2) := by decide +kernel
theorem dX2_tellAttache_60 : decode cX2_tellAttache 60 = .ok (.invokevirtual 58, 3) := by decide +kernel
theorem dX2_tellAttache_63 : decode cX2_tellAttache 63 = .ok (.ifCond .ne 5, 3) := by decide +kernel
theorem dX2_tellAttache_66 : decode cX2_tellAttache 66 = .ok (.iconst 0, 1) := by decide +kernel
theorem dX2_tellAttache_67 : decode cX2_tellAttache 67 = .ok (.ireturn, 1) := by decide +kernel
theorem dX2_tellAttache_68 : decode cX2_tellAttache 68 = .ok (.aload_n 0, 1) := by decide +kernel
theorem dX2_tellAttache_69 : decode cX2_tellAttache 69 = .ok (.getfield 25, 3) := by decide +kernel
theorem dX2_tellAttache_72 : decode cX2_tellAttache 72 = .ok (.istore 4, 2) := by decide +kernel
theorem dX2_tellAttache_74 : decode cX2_tellAttache 74 = .ok (.aload_n 0, 1) := by decide +kernel
theorem dX2_tellAttache_75 : decode cX2_tellAttache 75 = .ok (.invokevirtual 28, 3) := by decide +kernel
theorem dX2_tellAttache_78 : decode cX2_tellAttache 78 = .ok (.aload_n 0, 1) := by decide +kernel
theorem dX2_tellAttache_79 : decode cX2_tellAttache 79 = .ok (.ldc 82, 2) := by decide +kernel
theorem dX2_tellAttache_81 : decode cX2_tellAttache 81 = .ok (.invokevirtual 37, 3) := by decide +kernel
theorem dX2_tellAttache_84 : decode cX2_tellAttache 84 = .ok (.ifCond .eq 30, 3) := by decide +kernel
theorem dX2_tellAttache_87 : decode cX2_tellAttache 87 = .ok (.aload_n 0, 1) := by decide +kernel
theorem dX2_tellAttache_88 : decode cX2_tellAttache 88 = .ok (.invokevirtual 28, 3) := by decide +kernel
theorem dX2_tellAttache_91 : decode cX2_tellAttache 91 = .ok (.aload_n 0, 1) := by decide +kernel
theorem dX2_tellAttache_92 : decode cX2_tellAttache 92 = .ok (.bipush 11, 2) := by decide +kernel
theorem dX2_tellAttache_94 : decode cX2_tellAttache 94 = .ok (.invokevirtual 58, 3) := by decide +kernel
theorem dX2_tellAttache_97 : decode cX2_tellAttache 97 = .ok (.ifCond .ne 5, 3) := by decide +kernel
theorem dX2_tellAttache_100 : decode cX2_tellAttache 100 = .ok (.iconst 0, 1) := by decide +kernel
theorem dX2_tellAttache_101 : decode cX2_tellAttache 101 = .ok (.ireturn, 1) := by decide +kernel
theorem dX2_tellAttache_102 : decode cX2_tellAttache 102 = .ok (.iconst 1, 1) := by decide +kernel
theorem dX2_tellAttache_103 : decode cX2_tellAttache 103 = .ok (.aload_n 0, 1) := by decide +kernel
theorem dX2_tellAttache_104 : decode cX2_tellAttache 104 = .ok (.getfield 25, 3) := by decide +kernel
theorem dX2_tellAttache_107 : decode cX2_tellAttache 107 = .ok (.ishl, 1) := by decide +kernel
theorem dX2_tellAttache_108 : decode cX2_tellAttache 108 = .ok (.istore 5, 2) := by decide +kernel
theorem dX2_tellAttache_110 : decode cX2_tellAttache 110 = .ok (.aload_n 0, 1) := by decide +kernel
theorem dX2_tellAttache_111 : decode cX2_tellAttache 111 = .ok (.invokevirtual 28, 3) := by decide +kernel
theorem dX2_tellAttache_114 : decode cX2_tellAttache 114 = .ok (.aload_n 1, 1) := by decide +kernel
theorem dX2_tellAttache_115 : decode cX2_tellAttache 115 = .ok (.iload_n 2, 1) := by decide +kernel
theorem dX2_tellAttache_116 : decode cX2_tellAttache 116 = .ok (.iload_n 3, 1) := by decide +kernel
theorem dX2_tellAttache_117 : decode cX2_tellAttache 117 = .ok (.iload 4, 2) := by decide +kernel
theorem dX2_tellAttache_119 : decode cX2_tellAttache 119 = .ok (.iload 5, 2) := by decide +kernel
theorem dX2_tellAttache_121 : decode cX2_tellAttache 121 = .ok (.invokevirtual 84, 3) := by decide +kernel
theorem dX2_tellAttache_124 : decode cX2_tellAttache 124 = .ok (.iconst 1, 1) := by decide +kernel
theorem dX2_tellAttache_125 : decode cX2_tellAttache 125 = .ok (.ireturn, 1) := by decide +kernel
theorem dX2_kindNamed_0 : decode cX2_kindNamed 0 = .ok (.iconst 0, 1) := by decide +kernel
theorem dX2_kindNamed_1 : decode cX2_kindNamed 1 = .ok (.istore_n 1, 1) := by decide +kernel
theorem dX2_kindNamed_2 : decode cX2_kindNamed 2 = .ok (.iload_n 1, 1) := by decide +kernel
theorem dX2_kindNamed_3 : decode cX2_kindNamed 3 = .ok (.bipush 6, 2) := by decide +kernel
theorem dX2_kindNamed_5 : decode cX2_kindNamed 5 = .ok (.if_icmp .ge 22, 3) := by decide +kernel
theorem dX2_kindNamed_8 : decode cX2_kindNamed 8 = .ok (.aload_n 0, 1) := by decide +kernel
theorem dX2_kindNamed_9 : decode cX2_kindNamed 9 = .ok (.iload_n 1, 1) := by decide +kernel
theorem dX2_kindNamed_10 : decode cX2_kindNamed 10 = .ok (.invokestatic 88, 3) := by decide +kernel
theorem dX2_kindNamed_13 : decode cX2_kindNamed 13 = .ok (.invokevirtual 37, 3) := by decide +kernel
theorem dX2_kindNamed_16 : decode cX2_kindNamed 16 = .ok (.ifCond .eq 5, 3) := by decide +kernel
theorem dX2_kindNamed_19 : decode cX2_kindNamed 19 = .ok (.iload_n 1, 1) := by decide +kernel
theorem dX2_kindNamed_20 : decode cX2_kindNamed 20 = .ok (.ireturn, 1) := by decide +kernel
theorem dX2_kindNamed_21 : decode cX2_kindNamed 21 = .ok (.iinc 1 1, 3) := by decide +kernel
theorem dX2_kindNamed_24 : decode cX2_kindNamed 24 = .ok (.goto (-22), 3) := by decide +kernel
theorem dX2_kindNamed_27 : decode cX2_kindNamed 27 = .ok (.iconst (-1), 1) := by decide +kernel
theorem dX2_kindNamed_28 : decode cX2_kindNamed 28 = .ok (.ireturn, 1) := by decide +kernel
theorem dX2_nameOf_0 : decode cX2_nameOf 0 = .ok (.iload_n 0, 1) := by decide +kernel
theorem dX2_nameOf_1 : decode cX2_nameOf 1 = .ok (.tableswitch 50 1 5 #[35, 38, 41, 44, 47], 35) := by decide +kernel
theorem dX2_nameOf_36 : decode cX2_nameOf 36 = .ok (.ldc 92, 2) := by decide +kernel
theorem dX2_nameOf_38 : decode cX2_nameOf 38 = .ok (.areturn, 1) := by decide +kernel
theorem dX2_nameOf_39 : decode cX2_nameOf 39 = .ok (.ldc 94, 2) := by decide +kernel
theorem dX2_nameOf_41 : decode cX2_nameOf 41 = .ok (.areturn, 1) := by decide +kernel
theorem dX2_nameOf_42 : decode cX2_nameOf 42 = .ok (.ldc 96, 2) := by decide +kernel
theorem dX2_nameOf_44 : decode cX2_nameOf 44 = .ok (.areturn, 1) := by decide +kernel
theorem dX2_nameOf_45 : decode cX2_nameOf 45 = .ok (.ldc 98, 2) := by decide +kernel
theorem dX2_nameOf_47 : decode cX2_nameOf 47 = .ok (.areturn, 1) := by decide +kernel
theorem dX2_nameOf_48 : decode cX2_nameOf 48 = .ok (.ldc 100, 2) := by decide +kernel
theorem dX2_nameOf_50 : decode cX2_nameOf 50 = .ok (.areturn, 1) := by decide +kernel
theorem dX2_nameOf_51 : decode cX2_nameOf 51 = .ok (.ldc 102, 2) := by decide +kernel
theorem dX2_nameOf_53 : decode cX2_nameOf 53 = .ok (.areturn, 1) := by decide +kernel
theorem dX2_isNumberTo_0 : decode cX2_isNumberTo 0 = .ok (.aload_n 0, 1) := by decide +kernel
theorem dX2_isNumberTo_1 : decode cX2_isNumberTo 1 = .ok (.getfield 15, 3) := by decide +kernel
theorem dX2_isNumberTo_4 : decode cX2_isNumberTo 4 = .ok (.iconst 2, 1) := by decide +kernel
theorem dX2_isNumberTo_5 : decode cX2_isNumberTo 5 = .ok (.if_icmp .ne 15, 3) := by decide +kernel
theorem dX2_isNumberTo_8 : decode cX2_isNumberTo 8 = .ok (.aload_n 0, 1) := by decide +kernel
theorem dX2_isNumberTo_9 : decode cX2_isNumberTo 9 = .ok (.getfield 25, 3) := by decide +kernel
theorem dX2_isNumberTo_12 : decode cX2_isNumberTo 12 = .ok (.iload_n 1, 1) := by decide +kernel
theorem dX2_isNumberTo_13 : decode cX2_isNumberTo 13 = .ok (.if_icmp .gt 7, 3) := by decide +kernel
theorem dX2_isNumberTo_16 : decode cX2_isNumberTo 16 = .ok (.iconst 1, 1) := by decide +kernel
theorem dX2_isNumberTo_17 : decode cX2_isNumberTo 17 = .ok (.goto 4, 3) := by decide +kernel
theorem dX2_isNumberTo_20 : decode cX2_isNumberTo 20 = .ok (.iconst 0, 1) := by decide +kernel
theorem dX2_isNumberTo_21 : decode cX2_isNumberTo 21 = .ok (.ireturn, 1) := by decide +kernel
theorem dX2_isWord_0 : decode cX2_isWord 0 = .ok (.aload_n 0, 1) := by decide +kernel
theorem dX2_isWord_1 : decode cX2_isWord 1 = .ok (.getfield 15, 3) := by decide +kernel
theorem dX2_isWord_4 : decode cX2_isWord 4 = .ok (.iconst 1, 1) := by decide +kernel
theorem dX2_isWord_5 : decode cX2_isWord 5 = .ok (.if_icmp .ne 19, 3) := by decide +kernel
theorem dX2_isWord_8 : decode cX2_isWord 8 = .ok (.aload_n 0, 1) := by decide +kernel
theorem dX2_isWord_9 : decode cX2_isWord 9 = .ok (.getfield 22, 3) := by decide +kernel
theorem dX2_isWord_12 : decode cX2_isWord 12 = .ok (.aload_n 0, 1) := by decide +kernel
theorem dX2_isWord_13 : decode cX2_isWord 13 = .ok (.getfield 19, 3) := by decide +kernel
theorem dX2_isWord_16 : decode cX2_isWord 16 = .ok (.isub, 1) := by decide +kernel
theorem dX2_isWord_17 : decode cX2_isWord 17 = .ok (.aload_n 1, 1) := by decide +kernel
theorem dX2_isWord_18 : decode cX2_isWord 18 = .ok (.invokevirtual 104, 3) := by decide +kernel
theorem dX2_isWord_21 : decode cX2_isWord 21 = .ok (.if_icmp .eq 5, 3) := by decide +kernel
theorem dX2_isWord_24 : decode cX2_isWord 24 = .ok (.iconst 0, 1) := by decide +kernel
theorem dX2_isWord_25 : decode cX2_isWord 25 = .ok (.ireturn, 1) := by decide +kernel
theorem dX2_isWord_26 : decode cX2_isWord 26 = .ok (.iconst 0, 1) := by decide +kernel
theorem dX2_isWord_27 : decode cX2_isWord 27 = .ok (.istore_n 2, 1) := by decide +kernel
theorem dX2_isWord_28 : decode cX2_isWord 28 = .ok (.iload_n 2, 1) := by decide +kernel
theorem dX2_isWord_29 : decode cX2_isWord 29 = .ok (.aload_n 1, 1) := by decide +kernel
theorem dX2_isWord_30 : decode cX2_isWord 30 = .ok (.invokevirtual 104, 3) := by decide +kernel
theorem dX2_isWord_33 : decode cX2_isWord 33 = .ok (.if_icmp .ge 32, 3) := by decide +kernel
theorem dX2_isWord_36 : decode cX2_isWord 36 = .ok (.aload_n 0, 1) := by decide +kernel
theorem dX2_isWord_37 : decode cX2_isWord 37 = .ok (.getfield 9, 3) := by decide +kernel
theorem dX2_isWord_40 : decode cX2_isWord 40 = .ok (.aload_n 0, 1) := by decide +kernel
theorem dX2_isWord_41 : decode cX2_isWord 41 = .ok (.getfield 19, 3) := by decide +kernel
theorem dX2_isWord_44 : decode cX2_isWord 44 = .ok (.iload_n 2, 1) := by decide +kernel
theorem dX2_isWord_45 : decode cX2_isWord 45 = .ok (.iadd, 1) := by decide +kernel
theorem dX2_isWord_46 : decode cX2_isWord 46 = .ok (.invokevirtual 108, 3) := by decide +kernel
theorem dX2_isWord_49 : decode cX2_isWord 49 = .ok (.aload_n 1, 1) := by decide +kernel
theorem dX2_isWord_50 : decode cX2_isWord 50 = .ok (.iload_n 2, 1) := by decide +kernel
theorem dX2_isWord_51 : decode cX2_isWord 51 = .ok (.invokevirtual 114, 3) := by decide +kernel
theorem dX2_isWord_54 : decode cX2_isWord 54 = .ok (.if_icmp .eq 5, 3) := by decide +kernel
theorem dX2_isWord_57 : decode cX2_isWord 57 = .ok (.iconst 0, 1) := by decide +kernel
theorem dX2_isWord_58 : decode cX2_isWord 58 = .ok (.ireturn, 1) := by decide +kernel
theorem dX2_isWord_59 : decode cX2_isWord 59 = .ok (.iinc 2 1, 3) := by decide +kernel
theorem dX2_isWord_62 : decode cX2_isWord 62 = .ok (.goto (-34), 3) := by decide +kernel
theorem dX2_isWord_65 : decode cX2_isWord 65 = .ok (.iconst 1, 1) := by decide +kernel
theorem dX2_isWord_66 : decode cX2_isWord 66 = .ok (.ireturn, 1) := by decide +kernel
theorem dX2_advance_0 : decode cX2_advance 0 = .ok (.aload_n 0, 1) := by decide +kernel
theorem dX2_advance_1 : decode cX2_advance 1 = .ok (.aload_n 0, 1) := by decide +kernel
theorem dX2_advance_2 : decode cX2_advance 2 = .ok (.getfield 22, 3) := by decide +kernel
theorem dX2_advance_5 : decode cX2_advance 5 = .ok (.putfield 19, 3) := by decide +kernel
theorem dX2_advance_8 : decode cX2_advance 8 = .ok (.aload_n 0, 1) := by decide +kernel
theorem dX2_advance_9 : decode cX2_advance 9 = .ok (.getfield 19, 3) := by decide +kernel
theorem dX2_advance_12 : decode cX2_advance 12 = .ok (.aload_n 0, 1) := by decide +kernel
theorem dX2_advance_13 : decode cX2_advance 13 = .ok (.getfield 9, 3) := by decide +kernel
theorem dX2_advance_16 : decode cX2_advance 16 = .ok (.getfield 118, 3) := by decide +kernel
theorem dX2_advance_19 : decode cX2_advance 19 = .ok (.if_icmp .ge 32, 3) := by decide +kernel
theorem dX2_advance_22 : decode cX2_advance 22 = .ok (.aload_n 0, 1) := by decide +kernel
theorem dX2_advance_23 : decode cX2_advance 23 = .ok (.getfield 9, 3) := by decide +kernel
theorem dX2_advance_26 : decode cX2_advance 26 = .ok (.aload_n 0, 1) := by decide +kernel
theorem dX2_advance_27 : decode cX2_advance 27 = .ok (.getfield 19, 3) := by decide +kernel
theorem dX2_advance_30 : decode cX2_advance 30 = .ok (.invokevirtual 108, 3) := by decide +kernel
theorem dX2_advance_33 : decode cX2_advance 33 = .ok (.bipush 32, 2) := by decide +kernel
theorem dX2_advance_35 : decode cX2_advance 35 = .ok (.if_icmp .ne 16, 3) := by decide +kernel
theorem dX2_advance_38 : decode cX2_advance 38 = .ok (.aload_n 0, 1) := by decide +kernel
theorem dX2_advance_39 : decode cX2_advance 39 = .ok (.dup, 1) := by decide +kernel
theorem dX2_advance_40 : decode cX2_advance 40 = .ok (.getfield 19, 3) := by decide +kernel
theorem dX2_advance_43 : decode cX2_advance 43 = .ok (.iconst 1, 1) := by decide +kernel
theorem dX2_advance_44 : decode cX2_advance 44 = .ok (.iadd, 1) := by decide +kernel
theorem dX2_advance_45 : decode cX2_advance 45 = .ok (.putfield 19, 3) := by decide +kernel
theorem dX2_advance_48 : decode cX2_advance 48 = .ok (.goto (-40), 3) := by decide +kernel
theorem dX2_advance_51 : decode cX2_advance 51 = .ok (.aload_n 0, 1) := by decide +kernel
theorem dX2_advance_52 : decode cX2_advance 52 = .ok (.aload_n 0, 1) := by decide +kernel
theorem dX2_advance_53 : decode cX2_advance 53 = .ok (.getfield 19, 3) := by decide +kernel
theorem dX2_advance_56 : decode cX2_advance 56 = .ok (.putfield 22, 3) := by decide +kernel
theorem dX2_advance_59 : decode cX2_advance 59 = .ok (.aload_n 0, 1) := by decide +kernel
theorem dX2_advance_60 : decode cX2_advance 60 = .ok (.getfield 19, 3) := by decide +kernel
theorem dX2_advance_63 : decode cX2_advance 63 = .ok (.aload_n 0, 1) := by decide +kernel
theorem dX2_advance_64 : decode cX2_advance 64 = .ok (.getfield 9, 3) := by decide +kernel
theorem dX2_advance_67 : decode cX2_advance 67 = .ok (.getfield 118, 3) := by decide +kernel
theorem dX2_advance_70 : decode cX2_advance 70 = .ok (.if_icmp .lt 11, 3) := by decide +kernel
theorem dX2_advance_73 : decode cX2_advance 73 = .ok (.aload_n 0, 1) := by decide +kernel
theorem dX2_advance_74 : decode cX2_advance 74 = .ok (.iconst 0, 1) := by decide +kernel
theorem dX2_advance_75 : decode cX2_advance 75 = .ok (.putfield 15, 3) := by decide +kernel
theorem dX2_advance_78 : decode cX2_advance 78 = .ok (.goto 86, 3) := by decide +kernel
theorem dX2_advance_81 : decode cX2_advance 81 = .ok (.aload_n 0, 1) := by decide +kernel
theorem dX2_advance_82 : decode cX2_advance 82 = .ok (.getfield 9, 3) := by decide +kernel
theorem dX2_advance_85 : decode cX2_advance 85 = .ok (.aload_n 0, 1) := by decide +kernel
theorem dX2_advance_86 : decode cX2_advance 86 = .ok (.getfield 19, 3) := by decide +kernel
theorem dX2_advance_89 : decode cX2_advance 89 = .ok (.invokevirtual 108, 3) := by decide +kernel
theorem dX2_advance_92 : decode cX2_advance 92 = .ok (.invokestatic 119, 3) := by decide +kernel
theorem dX2_advance_95 : decode cX2_advance 95 = .ok (.ifCond .eq 10, 3) := by decide +kernel
theorem dX2_advance_98 : decode cX2_advance 98 = .ok (.aload_n 0, 1) := by decide +kernel
theorem dX2_advance_99 : decode cX2_advance 99 = .ok (.invokevirtual 122, 3) := by decide +kernel
theorem dX2_advance_102 : decode cX2_advance 102 = .ok (.goto 62, 3) := by decide +kernel
theorem dX2_advance_105 : decode cX2_advance 105 = .ok (.aload_n 0, 1) := by decide +kernel
theorem dX2_advance_106 : decode cX2_advance 106 = .ok (.getfield 9, 3) := by decide +kernel
theorem dX2_advance_109 : decode cX2_advance 109 = .ok (.aload_n 0, 1) := by decide +kernel
theorem dX2_advance_110 : decode cX2_advance 110 = .ok (.getfield 19, 3) := by decide +kernel
theorem dX2_advance_113 : decode cX2_advance 113 = .ok (.invokevirtual 108, 3) := by decide +kernel
theorem dX2_advance_116 : decode cX2_advance 116 = .ok (.invokestatic 125, 3) := by decide +kernel
theorem dX2_advance_119 : decode cX2_advance 119 = .ok (.ifCond .eq 10, 3) := by decide +kernel
theorem dX2_advance_122 : decode cX2_advance 122 = .ok (.aload_n 0, 1) := by decide +kernel
theorem dX2_advance_123 : decode cX2_advance 123 = .ok (.invokevirtual 128, 3) := by decide +kernel
theorem dX2_advance_126 : decode cX2_advance 126 = .ok (.goto 38, 3) := by decide +kernel
theorem dX2_advance_129 : decode cX2_advance 129 = .ok (.aload_n 0, 1) := by decide +kernel
theorem dX2_advance_130 : decode cX2_advance 130 = .ok (.aload_n 0, 1) := by decide +kernel
theorem dX2_advance_131 : decode cX2_advance 131 = .ok (.getfield 9, 3) := by decide +kernel
theorem dX2_advance_134 : decode cX2_advance 134 = .ok (.aload_n 0, 1) := by decide +kernel
theorem dX2_advance_135 : decode cX2_advance 135 = .ok (.getfield 19, 3) := by decide +kernel
theorem dX2_advance_138 : decode cX2_advance 138 = .ok (.invokevirtual 108, 3) := by decide +kernel
theorem dX2_advance_141 : decode cX2_advance 141 = .ok (.bipush 59, 2) := by decide +kernel
theorem dX2_advance_143 : decode cX2_advance 143 = .ok (.if_icmp .ne 7, 3) := by decide +kernel
theorem dX2_advance_146 : decode cX2_advance 146 = .ok (.iconst 3, 1) := by decide +kernel
theorem dX2_advance_147 : decode cX2_advance 147 = .ok (.goto 4, 3) := by decide +kernel
theorem dX2_advance_150 : decode cX2_advance 150 = .ok (.iconst 4, 1) := by decide +kernel
theorem dX2_advance_151 : decode cX2_advance 151 = .ok (.putfield 15, 3) := by decide +kernel
theorem dX2_advance_154 : decode cX2_advance 154 = .ok (.aload_n 0, 1) := by decide +kernel
theorem dX2_advance_155 : decode cX2_advance 155 = .ok (.aload_n 0, 1) := by decide +kernel
theorem dX2_advance_156 : decode cX2_advance 156 = .ok (.getfield 19, 3) := by decide +kernel
theorem dX2_advance_159 : decode cX2_advance 159 = .ok (.iconst 1, 1) := by decide +kernel
theorem dX2_advance_160 : decode cX2_advance 160 = .ok (.iadd, 1) := by decide +kernel
theorem dX2_advance_161 : decode cX2_advance 161 = .ok (.putfield 22, 3) := by decide +kernel
theorem dX2_advance_164 : decode cX2_advance 164 = .ok (.return_, 1) := by decide +kernel
theorem dX2_isLetter_0 : decode cX2_isLetter 0 = .ok (.iload_n 0, 1) := by decide +kernel
theorem dX2_isLetter_1 : decode cX2_isLetter 1 = .ok (.bipush 97, 2) := by decide +kernel
theorem dX2_isLetter_3 : decode cX2_isLetter 3 = .ok (.if_icmp .lt 13, 3) := by decide +kernel
theorem dX2_isLetter_6 : decode cX2_isLetter 6 = .ok (.iload_n 0, 1) := by decide +kernel
theorem dX2_isLetter_7 : decode cX2_isLetter 7 = .ok (.bipush 122, 2) := by decide +kernel
theorem dX2_isLetter_9 : decode cX2_isLetter 9 = .ok (.if_icmp .gt 7, 3) := by decide +kernel
theorem dX2_isLetter_12 : decode cX2_isLetter 12 = .ok (.iconst 1, 1) := by decide +kernel
theorem dX2_isLetter_13 : decode cX2_isLetter 13 = .ok (.goto 4, 3) := by decide +kernel
theorem dX2_isLetter_16 : decode cX2_isLetter 16 = .ok (.iconst 0, 1) := by decide +kernel
theorem dX2_isLetter_17 : decode cX2_isLetter 17 = .ok (.ireturn, 1) := by decide +kernel
theorem dX2_isDigit_0 : decode cX2_isDigit 0 = .ok (.iload_n 0, 1) := by decide +kernel
theorem dX2_isDigit_1 : decode cX2_isDigit 1 = .ok (.bipush 48, 2) := by decide +kernel
theorem dX2_isDigit_3 : decode cX2_isDigit 3 = .ok (.if_icmp .lt 13, 3) := by decide +kernel
theorem dX2_isDigit_6 : decode cX2_isDigit 6 = .ok (.iload_n 0, 1) := by decide +kernel
theorem dX2_isDigit_7 : decode cX2_isDigit 7 = .ok (.bipush 57, 2) := by decide +kernel
theorem dX2_isDigit_9 : decode cX2_isDigit 9 = .ok (.if_icmp .gt 7, 3) := by decide +kernel
theorem dX2_isDigit_12 : decode cX2_isDigit 12 = .ok (.iconst 1, 1) := by decide +kernel
theorem dX2_isDigit_13 : decode cX2_isDigit 13 = .ok (.goto 4, 3) := by decide +kernel
theorem dX2_isDigit_16 : decode cX2_isDigit 16 = .ok (.iconst 0, 1) := by decide +kernel
theorem dX2_isDigit_17 : decode cX2_isDigit 17 = .ok (.ireturn, 1) := by decide +kernel
theorem dX2_takeWord_0 : decode cX2_takeWord 0 = .ok (.aload_n 0, 1) := by decide +kernel
theorem dX2_takeWord_1 : decode cX2_takeWord 1 = .ok (.iconst 1, 1) := by decide +kernel
theorem dX2_takeWord_2 : decode cX2_takeWord 2 = .ok (.putfield 15, 3) := by decide +kernel
theorem dX2_takeWord_5 : decode cX2_takeWord 5 = .ok (.aload_n 0, 1) := by decide +kernel
theorem dX2_takeWord_6 : decode cX2_takeWord 6 = .ok (.getfield 22, 3) := by decide +kernel
theorem dX2_takeWord_9 : decode cX2_takeWord 9 = .ok (.aload_n 0, 1) := by decide +kernel
theorem dX2_takeWord_10 : decode cX2_takeWord 10 = .ok (.getfield 9, 3) := by decide +kernel
theorem dX2_takeWord_13 : decode cX2_takeWord 13 = .ok (.getfield 118, 3) := by decide +kernel
theorem dX2_takeWord_16 : decode cX2_takeWord 16 = .ok (.if_icmp .ge 33, 3) := by decide +kernel
theorem dX2_takeWord_19 : decode cX2_takeWord 19 = .ok (.aload_n 0, 1) := by decide +kernel
theorem dX2_takeWord_20 : decode cX2_takeWord 20 = .ok (.getfield 9, 3) := by decide +kernel
theorem dX2_takeWord_23 : decode cX2_takeWord 23 = .ok (.aload_n 0, 1) := by decide +kernel
theorem dX2_takeWord_24 : decode cX2_takeWord 24 = .ok (.getfield 22, 3) := by decide +kernel
theorem dX2_takeWord_27 : decode cX2_takeWord 27 = .ok (.invokevirtual 108, 3) := by decide +kernel
theorem dX2_takeWord_30 : decode cX2_takeWord 30 = .ok (.invokestatic 119, 3) := by decide +kernel
theorem dX2_takeWord_33 : decode cX2_takeWord 33 = .ok (.ifCond .eq 16, 3) := by decide +kernel
theorem dX2_takeWord_36 : decode cX2_takeWord 36 = .ok (.aload_n 0, 1) := by decide +kernel
theorem dX2_takeWord_37 : decode cX2_takeWord 37 = .ok (.dup, 1) := by decide +kernel
theorem dX2_takeWord_38 : decode cX2_takeWord 38 = .ok (.getfield 22, 3) := by decide +kernel
theorem dX2_takeWord_41 : decode cX2_takeWord 41 = .ok (.iconst 1, 1) := by decide +kernel
theorem dX2_takeWord_42 : decode cX2_takeWord 42 = .ok (.iadd, 1) := by decide +kernel
theorem dX2_takeWord_43 : decode cX2_takeWord 43 = .ok (.putfield 22, 3) := by decide +kernel
theorem dX2_takeWord_46 : decode cX2_takeWord 46 = .ok (.goto (-41), 3) := by decide +kernel
theorem dX2_takeWord_49 : decode cX2_takeWord 49 = .ok (.return_, 1) := by decide +kernel
theorem dX2_takeNumber_0 : decode cX2_takeNumber 0 = .ok (.aload_n 0, 1) := by decide +kernel
theorem dX2_takeNumber_1 : decode cX2_takeNumber 1 = .ok (.iconst 2, 1) := by decide +kernel
theorem dX2_takeNumber_2 : decode cX2_takeNumber 2 = .ok (.putfield 15, 3) := by decide +kernel
theorem dX2_takeNumber_5 : decode cX2_takeNumber 5 = .ok (.aload_n 0, 1) := by decide +kernel
theorem dX2_takeNumber_6 : decode cX2_takeNumber 6 = .ok (.iconst 0, 1) := by decide +kernel
theorem dX2_takeNumber_7 : decode cX2_takeNumber 7 = .ok (.putfield 25, 3) := by decide +kernel
theorem dX2_takeNumber_10 : decode cX2_takeNumber 10 = .ok (.aload_n 0, 1) := by decide +kernel
theorem dX2_takeNumber_11 : decode cX2_takeNumber 11 = .ok (.getfield 22, 3) := by decide +kernel
theorem dX2_takeNumber_14 : decode cX2_takeNumber 14 = .ok (.aload_n 0, 1) := by decide +kernel
theorem dX2_takeNumber_15 : decode cX2_takeNumber 15 = .ok (.getfield 9, 3) := by decide +kernel
theorem dX2_takeNumber_18 : decode cX2_takeNumber 18 = .ok (.getfield 118, 3) := by decide +kernel
theorem dX2_takeNumber_21 : decode cX2_takeNumber 21 = .ok (.if_icmp .ge 65, 3) := by decide +kernel
theorem dX2_takeNumber_24 : decode cX2_takeNumber 24 = .ok (.aload_n 0, 1) := by decide +kernel
theorem dX2_takeNumber_25 : decode cX2_takeNumber 25 = .ok (.getfield 9, 3) := by decide +kernel
theorem dX2_takeNumber_28 : decode cX2_takeNumber 28 = .ok (.aload_n 0, 1) := by decide +kernel
theorem dX2_takeNumber_29 : decode cX2_takeNumber 29 = .ok (.getfield 22, 3) := by decide +kernel
theorem dX2_takeNumber_32 : decode cX2_takeNumber 32 = .ok (.invokevirtual 108, 3) := by decide +kernel
theorem dX2_takeNumber_35 : decode cX2_takeNumber 35 = .ok (.invokestatic 125, 3) := by decide +kernel
theorem dX2_takeNumber_38 : decode cX2_takeNumber 38 = .ok (.ifCond .eq 48, 3) := by decide +kernel
theorem dX2_takeNumber_41 : decode cX2_takeNumber 41 = .ok (.aload_n 0, 1) := by decide +kernel
theorem dX2_takeNumber_42 : decode cX2_takeNumber 42 = .ok (.bipush 10, 2) := by decide +kernel
theorem dX2_takeNumber_44 : decode cX2_takeNumber 44 = .ok (.aload_n 0, 1) := by decide +kernel
theorem dX2_takeNumber_45 : decode cX2_takeNumber 45 = .ok (.getfield 25, 3) := by decide +kernel
theorem dX2_takeNumber_48 : decode cX2_takeNumber 48 = .ok (.imul, 1) := by decide +kernel
theorem dX2_takeNumber_49 : decode cX2_takeNumber 49 = .ok (.aload_n 0, 1) := by decide +kernel
theorem dX2_takeNumber_50 : decode cX2_takeNumber 50 = .ok (.getfield 9, 3) := by decide +kernel
theorem dX2_takeNumber_53 : decode cX2_takeNumber 53 = .ok (.aload_n 0, 1) := by decide +kernel
theorem dX2_takeNumber_54 : decode cX2_takeNumber 54 = .ok (.getfield 22, 3) := by decide +kernel
theorem dX2_takeNumber_57 : decode cX2_takeNumber 57 = .ok (.invokevirtual 108, 3) := by decide +kernel
theorem dX2_takeNumber_60 : decode cX2_takeNumber 60 = .ok (.iadd, 1) := by decide +kernel
theorem dX2_takeNumber_61 : decode cX2_takeNumber 61 = .ok (.bipush 48, 2) := by decide +kernel
theorem dX2_takeNumber_63 : decode cX2_takeNumber 63 = .ok (.isub, 1) := by decide +kernel
theorem dX2_takeNumber_64 : decode cX2_takeNumber 64 = .ok (.sipush 1000, 3) := by decide +kernel
theorem dX2_takeNumber_67 : decode cX2_takeNumber 67 = .ok (.invokestatic 131, 3) := by decide +kernel
theorem dX2_takeNumber_70 : decode cX2_takeNumber 70 = .ok (.putfield 25, 3) := by decide +kernel
theorem dX2_takeNumber_73 : decode cX2_takeNumber 73 = .ok (.aload_n 0, 1) := by decide +kernel
theorem dX2_takeNumber_74 : decode cX2_takeNumber 74 = .ok (.dup, 1) := by decide +kernel
theorem dX2_takeNumber_75 : decode cX2_takeNumber 75 = .ok (.getfield 22, 3) := by decide +kernel
theorem dX2_takeNumber_78 : decode cX2_takeNumber 78 = .ok (.iconst 1, 1) := by decide +kernel
theorem dX2_takeNumber_79 : decode cX2_takeNumber 79 = .ok (.iadd, 1) := by decide +kernel
theorem dX2_takeNumber_80 : decode cX2_takeNumber 80 = .ok (.putfield 22, 3) := by decide +kernel
theorem dX2_takeNumber_83 : decode cX2_takeNumber 83 = .ok (.goto (-73), 3) := by decide +kernel
theorem dX2_takeNumber_86 : decode cX2_takeNumber 86 = .ok (.return_, 1) := by decide +kernel
theorem dX3_init_0 : decode cX3_init 0 = .ok (.aload_n 0, 1) := by decide +kernel
theorem dX3_init_1 : decode cX3_init 1 = .ok (.invokespecial 3, 3) := by decide +kernel
theorem dX3_init_4 : decode cX3_init 4 = .ok (.aload_n 0, 1) := by decide +kernel
theorem dX3_init_5 : decode cX3_init 5 = .ok (.bipush 40, 2) := by decide +kernel
theorem dX3_init_7 : decode cX3_init 7 = .ok (.newarray .long, 2) := by decide +kernel
theorem dX3_init_9 : decode cX3_init 9 = .ok (.putfield 9, 3) := by decide +kernel
theorem dX3_init_12 : decode cX3_init 12 = .ok (.aload_n 0, 1) := by decide +kernel
theorem dX3_init_13 : decode cX3_init 13 = .ok (.iconst 0, 1) := by decide +kernel
theorem dX3_init_14 : decode cX3_init 14 = .ok (.putfield 15, 3) := by decide +kernel
theorem dX3_init_17 : decode cX3_init 17 = .ok (.aload_n 0, 1) := by decide +kernel
theorem dX3_init_18 : decode cX3_init 18 = .ok (.iconst 0, 1) := by decide +kernel
theorem dX3_init_19 : decode cX3_init 19 = .ok (.putfield 19, 3) := by decide +kernel
theorem dX3_init_22 : decode cX3_init 22 = .ok (.return_, 1) := by decide +kernel
theorem dX3_begin_0 : decode cX3_begin 0 = .ok (.aload_n 0, 1) := by decide +kernel
theorem dX3_begin_1 : decode cX3_begin 1 = .ok (.iload_n 1, 1) := by decide +kernel
theorem dX3_begin_2 : decode cX3_begin 2 = .ok (.putfield 15, 3) := by decide +kernel
theorem dX3_begin_5 : decode cX3_begin 5 = .ok (.aload_n 0, 1) := by decide +kernel
theorem dX3_begin_6 : decode cX3_begin 6 = .ok (.iload_n 2, 1) := by decide +kernel
theorem dX3_begin_7 : decode cX3_begin 7 = .ok (.putfield 19, 3) := by decide +kernel
theorem dX3_begin_10 : decode cX3_begin 10 = .ok (.iconst 0, 1) := by decide +kernel
theorem dX3_begin_11 : decode cX3_begin 11 = .ok (.istore_n 3, 1) := by decide +kernel
theorem dX3_begin_12 : decode cX3_begin 12 = .ok (.iload_n 3, 1) := by decide +kernel
theorem dX3_begin_13 : decode cX3_begin 13 = .ok (.bipush 40, 2) := by decide +kernel
theorem dX3_begin_15 : decode cX3_begin 15 = .ok (.if_icmp .ge 16, 3) := by decide +kernel
theorem dX3_begin_18 : decode cX3_begin 18 = .ok (.aload_n 0, 1) := by decide +kernel
theorem dX3_begin_19 : decode cX3_begin 19 = .ok (.getfield 9, 3) := by decide +kernel
theorem dX3_begin_22 : decode cX3_begin 22 = .ok (.iload_n 3, 1) := by decide +kernel
theorem dX3_begin_23 : decode cX3_begin 23 = .ok (.lconst 0, 1) := by decide +kernel
theorem dX3_begin_24 : decode cX3_begin 24 = .ok (.lastore, 1) := by decide +kernel
theorem dX3_begin_25 : decode cX3_begin 25 = .ok (.iinc 3 1, 3) := by decide +kernel
theorem dX3_begin_28 : decode cX3_begin 28 = .ok (.goto (-16), 3) := by decide +kernel
theorem dX3_begin_31 : decode cX3_begin 31 = .ok (.return_, 1) := by decide +kernel
theorem dX3_isMissing_0 : decode cX3_isMissing 0 = .ok (.aload_n 0, 1) := by decide +kernel
theorem dX3_isMissing_1 : decode cX3_isMissing 1 = .ok (.getfield 15, 3) := by decide +kernel
theorem dX3_isMissing_4 : decode cX3_isMissing 4 = .ok (.ifCond .ne 7, 3) := by decide +kernel
theorem dX3_isMissing_7 : decode cX3_isMissing 7 = .ok (.iconst 1, 1) := by decide +kernel
theorem dX3_isMissing_8 : decode cX3_isMissing 8 = .ok (.goto 4, 3) := by decide +kernel
theorem dX3_isMissing_11 : decode cX3_isMissing 11 = .ok (.iconst 0, 1) := by decide +kernel
theorem dX3_isMissing_12 : decode cX3_isMissing 12 = .ok (.ireturn, 1) := by decide +kernel
theorem dX3_hasRow_0 : decode cX3_hasRow 0 = .ok (.iload_n 1, 1) := by decide +kernel
theorem dX3_hasRow_1 : decode cX3_hasRow 1 = .ok (.ifCond .lt 29, 3) := by decide +kernel
theorem dX3_hasRow_4 : decode cX3_hasRow 4 = .ok (.iload_n 2, 1) := by decide +kernel
theorem dX3_hasRow_5 : decode cX3_hasRow 5 = .ok (.ifCond .lt 25, 3) := by decide +kernel
theorem dX3_hasRow_8 : decode cX3_hasRow 8 = .ok (.iload_n 2, 1) := by decide +kernel
theorem dX3_hasRow_9 : decode cX3_hasRow 9 = .ok (.aload_n 0, 1) := by decide +kernel
theorem dX3_hasRow_10 : decode cX3_hasRow 10 = .ok (.getfield 19, 3) := by decide +kernel
theorem dX3_hasRow_13 : decode cX3_hasRow 13 = .ok (.if_icmp .gt 17, 3) := by decide +kernel
theorem dX3_hasRow_16 : decode cX3_hasRow 16 = .ok (.iload_n 1, 1) := by decide +kernel
theorem dX3_hasRow_17 : decode cX3_hasRow 17 = .ok (.aload_n 0, 1) := by decide +kernel
theorem dX3_hasRow_18 : decode cX3_hasRow 18 = .ok (.getfield 19, 3) := by decide +kernel
theorem dX3_hasRow_21 : decode cX3_hasRow 21 = .ok (.iload_n 2, 1) := by decide +kernel
theorem dX3_hasRow_22 : decode cX3_hasRow 22 = .ok (.isub, 1) := by decide +kernel
theorem dX3_hasRow_23 : decode cX3_hasRow 23 = .ok (.if_icmp .gt 7, 3) := by decide +kernel
theorem dX3_hasRow_26 : decode cX3_hasRow 26 = .ok (.iconst 1, 1) := by decide +kernel
theorem dX3_hasRow_27 : decode cX3_hasRow 27 = .ok (.goto 4, 3) := by decide +kernel
theorem dX3_hasRow_30 : decode cX3_hasRow 30 = .ok (.iconst 0, 1) := by decide +kernel
theorem dX3_hasRow_31 : decode cX3_hasRow 31 = .ok (.ireturn, 1) := by decide +kernel
theorem dX3_put_0 : decode cX3_put 0 = .ok (.iload_n 1, 1) := by decide +kernel
theorem dX3_put_1 : decode cX3_put 1 = .ok (.ifCond .lt 22, 3) := by decide +kernel
theorem dX3_put_4 : decode cX3_put 4 = .ok (.iload_n 1, 1) := by decide +kernel
theorem dX3_put_5 : decode cX3_put 5 = .ok (.aload_n 0, 1) := by decide +kernel
theorem dX3_put_6 : decode cX3_put 6 = .ok (.getfield 19, 3) := by decide +kernel
theorem dX3_put_9 : decode cX3_put 9 = .ok (.if_icmp .ge 14, 3) := by decide +kernel
theorem dX3_put_12 : decode cX3_put 12 = .ok (.aload_n 0, 1) := by decide +kernel
theorem dX3_put_13 : decode cX3_put 13 = .ok (.getfield 9, 3) := by decide +kernel
theorem dX3_put_16 : decode cX3_put 16 = .ok (.iload_n 1, 1) := by decide +kernel
theorem dX3_put_17 : decode cX3_put 17 = .ok (.aload_n 0, 1) := by decide +kernel
theorem dX3_put_18 : decode cX3_put 18 = .ok (.lload_n 2, 1) := by decide +kernel
theorem dX3_put_19 : decode cX3_put 19 = .ok (.invokevirtual 22, 3) := by decide +kernel
theorem dX3_put_22 : decode cX3_put 22 = .ok (.lastore, 1) := by decide +kernel
theorem dX3_put_23 : decode cX3_put 23 = .ok (.return_, 1) := by decide +kernel
theorem dX3_lowestBits_0 : decode cX3_lowestBits 0 = .ok (.aload_n 0, 1) := by decide +kernel
theorem dX3_lowestBits_1 : decode cX3_lowestBits 1 = .ok (.getfield 15, 3) := by decide +kernel
theorem dX3_lowestBits_4 : decode cX3_lowestBits 4 = .ok (.lookupswitch 38 #[(8, 28), (16, 33)], 28) := by decide +kernel
theorem dX3_lowestBits_32 : decode cX3_lowestBits 32 = .ok (.lload_n 1, 1) := by decide +kernel
theorem dX3_lowestBits_33 : decode cX3_lowestBits 33 = .ok (.l2i, 1) := by decide +kernel
theorem dX3_lowestBits_34 : decode cX3_lowestBits 34 = .ok (.i2b, 1) := by decide +kernel
theorem dX3_lowestBits_35 : decode cX3_lowestBits 35 = .ok (.i2l, 1) := by decide +kernel
theorem dX3_lowestBits_36 : decode cX3_lowestBits 36 = .ok (.lreturn, 1) := by decide +kernel
theorem dX3_lowestBits_37 : decode cX3_lowestBits 37 = .ok (.lload_n 1, 1) := by decide +kernel
theorem dX3_lowestBits_38 : decode cX3_lowestBits 38 = .ok (.l2i, 1) := by decide +kernel
theorem dX3_lowestBits_39 : decode cX3_lowestBits 39 = .ok (.i2s, 1) := by decide +kernel
theorem dX3_lowestBits_40 : decode cX3_lowestBits 40 = .ok (.i2l, 1) := by decide +kernel
theorem dX3_lowestBits_41 : decode cX3_lowestBits 41 = .ok (.lreturn, 1) := by decide +kernel
theorem dX3_lowestBits_42 : decode cX3_lowestBits 42 = .ok (.lload_n 1, 1) := by decide +kernel
theorem dX3_lowestBits_43 : decode cX3_lowestBits 43 = .ok (.lreturn, 1) := by decide +kernel
theorem dX4_init_0 : decode cX4_init 0 = .ok (.aload_n 0, 1) := by decide +kernel
theorem dX4_init_1 : decode cX4_init 1 = .ok (.invokespecial 3, 3) := by decide +kernel
theorem dX4_init_4 : decode cX4_init 4 = .ok (.aload_n 0, 1) := by decide +kernel
theorem dX4_init_5 : decode cX4_init 5 = .ok (.bipush 120, 2) := by decide +kernel
theorem dX4_init_7 : decode cX4_init 7 = .ok (.newarray .int, 2) := by decide +kernel
theorem dX4_init_9 : decode cX4_init 9 = .ok (.putfield 9, 3) := by decide +kernel
theorem dX4_init_12 : decode cX4_init 12 = .ok (.aload_n 0, 1) := by decide +kernel
theorem dX4_init_13 : decode cX4_init 13 = .ok (.iconst 0, 1) := by decide +kernel
theorem dX4_init_14 : decode cX4_init 14 = .ok (.putfield 15, 3) := by decide +kernel
theorem dX4_init_17 : decode cX4_init 17 = .ok (.return_, 1) := by decide +kernel
theorem dX4_clear_0 : decode cX4_clear 0 = .ok (.aload_n 0, 1) := by decide +kernel
theorem dX4_clear_1 : decode cX4_clear 1 = .ok (.iconst 0, 1) := by decide +kernel
theorem dX4_clear_2 : decode cX4_clear 2 = .ok (.putfield 15, 3) := by decide +kernel
theorem dX4_clear_5 : decode cX4_clear 5 = .ok (.return_, 1) := by decide +kernel
theorem dX4_append_0 : decode cX4_append 0 = .ok (.aload_n 0, 1) := by decide +kernel
theorem dX4_append_1 : decode cX4_append 1 = .ok (.getfield 15, 3) := by decide +kernel
theorem dX4_append_4 : decode cX4_append 4 = .ok (.bipush 120, 2) := by decide +kernel
theorem dX4_append_6 : decode cX4_append 6 = .ok (.if_icmp .ge 23, 3) := by decide +kernel
theorem dX4_append_9 : decode cX4_append 9 = .ok (.aload_n 0, 1) := by decide +kernel
theorem dX4_append_10 : decode cX4_append 10 = .ok (.getfield 9, 3) := by decide +kernel
theorem dX4_append_13 : decode cX4_append 13 = .ok (.aload_n 0, 1) := by decide +kernel
theorem dX4_append_14 : decode cX4_append 14 = .ok (.getfield 15, 3) := by decide +kernel
theorem dX4_append_17 : decode cX4_append 17 = .ok (.iload_n 1, 1) := by decide +kernel
theorem dX4_append_18 : decode cX4_append 18 = .ok (.iastore, 1) := by decide +kernel
theorem dX4_append_19 : decode cX4_append 19 = .ok (.aload_n 0, 1) := by decide +kernel
theorem dX4_append_20 : decode cX4_append 20 = .ok (.dup, 1) := by decide +kernel
theorem dX4_append_21 : decode cX4_append 21 = .ok (.getfield 15, 3) := by decide +kernel
theorem dX4_append_24 : decode cX4_append 24 = .ok (.iconst 1, 1) := by decide +kernel
theorem dX4_append_25 : decode cX4_append 25 = .ok (.iadd, 1) := by decide +kernel
theorem dX4_append_26 : decode cX4_append 26 = .ok (.putfield 15, 3) := by decide +kernel
theorem dX4_append_29 : decode cX4_append 29 = .ok (.return_, 1) := by decide +kernel
theorem dX4_byteAt_0 : decode cX4_byteAt 0 = .ok (.iload_n 1, 1) := by decide +kernel
theorem dX4_byteAt_1 : decode cX4_byteAt 1 = .ok (.ifCond .lt 20, 3) := by decide +kernel
theorem dX4_byteAt_4 : decode cX4_byteAt 4 = .ok (.iload_n 1, 1) := by decide +kernel
theorem dX4_byteAt_5 : decode cX4_byteAt 5 = .ok (.aload_n 0, 1) := by decide +kernel
theorem dX4_byteAt_6 : decode cX4_byteAt 6 = .ok (.getfield 15, 3) := by decide +kernel
theorem dX4_byteAt_9 : decode cX4_byteAt 9 = .ok (.if_icmp .ge 12, 3) := by decide +kernel
theorem dX4_byteAt_12 : decode cX4_byteAt 12 = .ok (.aload_n 0, 1) := by decide +kernel
theorem dX4_byteAt_13 : decode cX4_byteAt 13 = .ok (.getfield 9, 3) := by decide +kernel
theorem dX4_byteAt_16 : decode cX4_byteAt 16 = .ok (.iload_n 1, 1) := by decide +kernel
theorem dX4_byteAt_17 : decode cX4_byteAt 17 = .ok (.iaload, 1) := by decide +kernel
theorem dX4_byteAt_18 : decode cX4_byteAt 18 = .ok (.goto 4, 3) := by decide +kernel
theorem dX4_byteAt_21 : decode cX4_byteAt 21 = .ok (.iconst (-1), 1) := by decide +kernel
theorem dX4_byteAt_22 : decode cX4_byteAt 22 = .ok (.ireturn, 1) := by decide +kernel
theorem dX5_init_0 : decode cX5_init 0 = .ok (.aload_n 0, 1) := by decide +kernel
theorem dX5_init_1 : decode cX5_init 1 = .ok (.invokespecial 3, 3) := by decide +kernel
theorem dX5_init_4 : decode cX5_init 4 = .ok (.aload_n 0, 1) := by decide +kernel
theorem dX5_init_5 : decode cX5_init 5 = .ok (.bipush 12, 2) := by decide +kernel
theorem dX5_init_7 : decode cX5_init 7 = .ok (.newarray .int, 2) := by decide +kernel
theorem dX5_init_9 : decode cX5_init 9 = .ok (.putfield 9, 3) := by decide +kernel
theorem dX5_init_12 : decode cX5_init 12 = .ok (.aload_n 0, 1) := by decide +kernel
theorem dX5_init_13 : decode cX5_init 13 = .ok (.iconst 0, 1) := by decide +kernel
theorem dX5_init_14 : decode cX5_init 14 = .ok (.putfield 15, 3) := by decide +kernel
theorem dX5_init_17 : decode cX5_init 17 = .ok (.return_, 1) := by decide +kernel
theorem dX5_clear_0 : decode cX5_clear 0 = .ok (.aload_n 0, 1) := by decide +kernel
theorem dX5_clear_1 : decode cX5_clear 1 = .ok (.iconst 0, 1) := by decide +kernel
theorem dX5_clear_2 : decode cX5_clear 2 = .ok (.putfield 15, 3) := by decide +kernel
theorem dX5_clear_5 : decode cX5_clear 5 = .ok (.return_, 1) := by decide +kernel
theorem dX5_append_0 : decode cX5_append 0 = .ok (.aload_n 0, 1) := by decide +kernel
theorem dX5_append_1 : decode cX5_append 1 = .ok (.getfield 15, 3) := by decide +kernel
theorem dX5_append_4 : decode cX5_append 4 = .ok (.bipush 12, 2) := by decide +kernel
theorem dX5_append_6 : decode cX5_append 6 = .ok (.if_icmp .ge 23, 3) := by decide +kernel
theorem dX5_append_9 : decode cX5_append 9 = .ok (.aload_n 0, 1) := by decide +kernel
theorem dX5_append_10 : decode cX5_append 10 = .ok (.getfield 9, 3) := by decide +kernel
theorem dX5_append_13 : decode cX5_append 13 = .ok (.aload_n 0, 1) := by decide +kernel
theorem dX5_append_14 : decode cX5_append 14 = .ok (.getfield 15, 3) := by decide +kernel
theorem dX5_append_17 : decode cX5_append 17 = .ok (.iload_n 1, 1) := by decide +kernel
theorem dX5_append_18 : decode cX5_append 18 = .ok (.iastore, 1) := by decide +kernel
theorem dX5_append_19 : decode cX5_append 19 = .ok (.aload_n 0, 1) := by decide +kernel
theorem dX5_append_20 : decode cX5_append 20 = .ok (.dup, 1) := by decide +kernel
theorem dX5_append_21 : decode cX5_append 21 = .ok (.getfield 15, 3) := by decide +kernel
theorem dX5_append_24 : decode cX5_append 24 = .ok (.iconst 1, 1) := by decide +kernel
theorem dX5_append_25 : decode cX5_append 25 = .ok (.iadd, 1) := by decide +kernel
theorem dX5_append_26 : decode cX5_append 26 = .ok (.putfield 15, 3) := by decide +kernel
theorem dX5_append_29 : decode cX5_append 29 = .ok (.return_, 1) := by decide +kernel
theorem dX5_become_0 : decode cX5_become 0 = .ok (.aload_n 1, 1) := by decide +kernel
theorem dX5_become_1 : decode cX5_become 1 = .ok (.getfield 9, 3) := by decide +kernel
theorem dX5_become_4 : decode cX5_become 4 = .ok (.iconst 0, 1) := by decide +kernel
theorem dX5_become_5 : decode cX5_become 5 = .ok (.aload_n 0, 1) := by decide +kernel
theorem dX5_become_6 : decode cX5_become 6 = .ok (.getfield 9, 3) := by decide +kernel
theorem dX5_become_9 : decode cX5_become 9 = .ok (.iconst 0, 1) := by decide +kernel
theorem dX5_become_10 : decode cX5_become 10 = .ok (.bipush 12, 2) := by decide +kernel
theorem dX5_become_12 : decode cX5_become 12 = .ok (.invokestatic 19, 3) := by decide +kernel
theorem dX5_become_15 : decode cX5_become 15 = .ok (.aload_n 0, 1) := by decide +kernel
theorem dX5_become_16 : decode cX5_become 16 = .ok (.aload_n 1, 1) := by decide +kernel
theorem dX5_become_17 : decode cX5_become 17 = .ok (.getfield 15, 3) := by decide +kernel
theorem dX5_become_20 : decode cX5_become 20 = .ok (.putfield 15, 3) := by decide +kernel
theorem dX5_become_23 : decode cX5_become 23 = .ok (.return_, 1) := by decide +kernel
theorem dX5_toneAt_0 : decode cX5_toneAt 0 = .ok (.iload_n 1, 1) := by decide +kernel
theorem dX5_toneAt_1 : decode cX5_toneAt 1 = .ok (.ifCond .lt 20, 3) := by decide +kernel
theorem dX5_toneAt_4 : decode cX5_toneAt 4 = .ok (.iload_n 1, 1) := by decide +kernel
theorem dX5_toneAt_5 : decode cX5_toneAt 5 = .ok (.aload_n 0, 1) := by decide +kernel
theorem dX5_toneAt_6 : decode cX5_toneAt 6 = .ok (.getfield 15, 3) := by decide +kernel
theorem dX5_toneAt_9 : decode cX5_toneAt 9 = .ok (.if_icmp .ge 12, 3) := by decide +kernel
theorem dX5_toneAt_12 : decode cX5_toneAt 12 = .ok (.aload_n 0, 1) := by decide +kernel
theorem dX5_toneAt_13 : decode cX5_toneAt 13 = .ok (.getfield 9, 3) := by decide +kernel
theorem dX5_toneAt_16 : decode cX5_toneAt 16 = .ok (.iload_n 1, 1) := by decide +kernel
theorem dX5_toneAt_17 : decode cX5_toneAt 17 = .ok (.iaload, 1) := by decide +kernel
theorem dX5_toneAt_18 : decode cX5_toneAt 18 = .ok (.goto 4, 3) := by decide +kernel
theorem dX5_toneAt_21 : decode cX5_toneAt 21 = .ok (.iconst 0, 1) := by decide +kernel
theorem dX5_toneAt_22 : decode cX5_toneAt 22 = .ok (.ireturn, 1) := by decide +kernel
theorem dX5_isHome_0 : decode cX5_isHome 0 = .ok (.aload_n 0, 1) := by decide +kernel
theorem dX5_isHome_1 : decode cX5_isHome 1 = .ok (.getfield 15, 3) := by decide +kernel
theorem dX5_isHome_4 : decode cX5_isHome 4 = .ok (.ifCond .le 21, 3) := by decide +kernel
theorem dX5_isHome_7 : decode cX5_isHome 7 = .ok (.aload_n 0, 1) := by decide +kernel
theorem dX5_isHome_8 : decode cX5_isHome 8 = .ok (.getfield 9, 3) := by decide +kernel
theorem dX5_isHome_11 : decode cX5_isHome 11 = .ok (.aload_n 0, 1) := by decide +kernel
theorem dX5_isHome_12 : decode cX5_isHome 12 = .ok (.getfield 15, 3) := by decide +kernel
theorem dX5_isHome_15 : decode cX5_isHome 15 = .ok (.iconst 1, 1) := by decide +kernel
theorem dX5_isHome_16 : decode cX5_isHome 16 = .ok (.isub, 1) := by decide +kernel
theorem dX5_isHome_17 : decode cX5_isHome 17 = .ok (.iaload, 1) := by decide +kernel
theorem dX5_isHome_18 : decode cX5_isHome 18 = .ok (.ifCond .ne 7, 3) := by decide +kernel
theorem dX5_isHome_21 : decode cX5_isHome 21 = .ok (.iconst 1, 1) := by decide +kernel
theorem dX5_isHome_22 : decode cX5_isHome 22 = .ok (.goto 4, 3) := by decide +kernel
theorem dX5_isHome_25 : decode cX5_isHome 25 = .ok (.iconst 0, 1) := by decide +kernel
theorem dX5_isHome_26 : decode cX5_isHome 26 = .ok (.ireturn, 1) := by decide +kernel
theorem dX5_isSameAs_0 : decode cX5_isSameAs 0 = .ok (.aload_n 0, 1) := by decide +kernel
theorem dX5_isSameAs_1 : decode cX5_isSameAs 1 = .ok (.aload_n 1, 1) := by decide +kernel
theorem dX5_isSameAs_2 : decode cX5_isSameAs 2 = .ok (.invokevirtual 25, 3) := by decide +kernel
theorem dX5_isSameAs_5 : decode cX5_isSameAs 5 = .ok (.ifCond .ne 7, 3) := by decide +kernel
theorem dX5_isSameAs_8 : decode cX5_isSameAs 8 = .ok (.iconst 1, 1) := by decide +kernel
theorem dX5_isSameAs_9 : decode cX5_isSameAs 9 = .ok (.goto 4, 3) := by decide +kernel
theorem dX5_isSameAs_12 : decode cX5_isSameAs 12 = .ok (.iconst 0, 1) := by decide +kernel
theorem dX5_isSameAs_13 : decode cX5_isSameAs 13 = .ok (.ireturn, 1) := by decide +kernel
theorem dX5_placesUnlike_0 : decode cX5_placesUnlike 0 = .ok (.aload_n 0, 1) := by decide +kernel
theorem dX5_placesUnlike_1 : decode cX5_placesUnlike 1 = .ok (.getfield 15, 3) := by decide +kernel
theorem dX5_placesUnlike_4 : decode cX5_placesUnlike 4 = .ok (.aload_n 1, 1) := by decide +kernel
theorem dX5_placesUnlike_5 : decode cX5_placesUnlike 5 = .ok (.getfield 15, 3) := by decide +kernel
theorem dX5_placesUnlike_8 : decode cX5_placesUnlike 8 = .ok (.invokestatic 29, 3) := by decide +kernel
theorem dX5_placesUnlike_11 : decode cX5_placesUnlike 11 = .ok (.istore_n 2, 1) := by decide +kernel
theorem dX5_placesUnlike_12 : decode cX5_placesUnlike 12 = .ok (.aload_n 0, 1) := by decide +kernel
theorem dX5_placesUnlike_13 : decode cX5_placesUnlike 13 = .ok (.getfield 15, 3) := by decide +kernel
theorem dX5_placesUnlike_16 : decode cX5_placesUnlike 16 = .ok (.aload_n 1, 1) := by decide +kernel
theorem dX5_placesUnlike_17 : decode cX5_placesUnlike 17 = .ok (.getfield 15, 3) := by decide +kernel
theorem dX5_placesUnlike_20 : decode cX5_placesUnlike 20 = .ok (.invokestatic 35, 3) := by decide +kernel
theorem dX5_placesUnlike_23 : decode cX5_placesUnlike 23 = .ok (.iload_n 2, 1) := by decide +kernel
theorem dX5_placesUnlike_24 : decode cX5_placesUnlike 24 = .ok (.isub, 1) := by decide +kernel
theorem dX5_placesUnlike_25 : decode cX5_placesUnlike 25 = .ok (.istore_n 3, 1) := by decide +kernel
theorem dX5_placesUnlike_26 : decode cX5_placesUnlike 26 = .ok (.iconst 0, 1) := by decide +kernel
theorem dX5_placesUnlike_27 : decode cX5_placesUnlike 27 = .ok (.istore 4, 2) := by decide +kernel
theorem dX5_placesUnlike_29 : decode cX5_placesUnlike 29 = .ok (.iload 4, 2) := by decide +kernel
theorem dX5_placesUnlike_31 : decode cX5_placesUnlike 31 = .ok (.iload_n 2, 1) := by decide +kernel
theorem dX5_placesUnlike_32 : decode cX5_placesUnlike 32 = .ok (.if_icmp .ge 29, 3) := by decide +kernel
theorem dX5_placesUnlike_35 : decode cX5_placesUnlike 35 = .ok (.aload_n 0, 1) := by decide +kernel
theorem dX5_placesUnlike_36 : decode cX5_placesUnlike 36 = .ok (.getfield 9, 3) := by decide +kernel
theorem dX5_placesUnlike_39 : decode cX5_placesUnlike 39 = .ok (.iload 4, 2) := by decide +kernel
theorem dX5_placesUnlike_41 : decode cX5_placesUnlike 41 = .ok (.iaload, 1) := by decide +kernel
theorem dX5_placesUnlike_42 : decode cX5_placesUnlike 42 = .ok (.aload_n 1, 1) := by decide +kernel
theorem dX5_placesUnlike_43 : decode cX5_placesUnlike 43 = .ok (.getfield 9, 3) := by decide +kernel
theorem dX5_placesUnlike_46 : decode cX5_placesUnlike 46 = .ok (.iload 4, 2) := by decide +kernel
theorem dX5_placesUnlike_48 : decode cX5_placesUnlike 48 = .ok (.iaload, 1) := by decide +kernel
theorem dX5_placesUnlike_49 : decode cX5_placesUnlike 49 = .ok (.if_icmp .eq 6, 3) := by decide +kernel
theorem dX5_placesUnlike_52 : decode cX5_placesUnlike 52 = .ok (.iinc 3 1, 3) := by decide +kernel
theorem dX5_placesUnlike_55 : decode cX5_placesUnlike 55 = .ok (.iinc 4 1, 3) := by decide +kernel
theorem dX5_placesUnlike_58 : decode cX5_placesUnlike 58 = .ok (.goto (-29), 3) := by decide +kernel
theorem dX5_placesUnlike_61 : decode cX5_placesUnlike 61 = .ok (.iload_n 3, 1) := by decide +kernel
theorem dX5_placesUnlike_62 : decode cX5_placesUnlike 62 = .ok (.ireturn, 1) := by decide +kernel
theorem dX5_toneSet_0 : decode cX5_toneSet 0 = .ok (.iconst 0, 1) := by decide +kernel
theorem dX5_toneSet_1 : decode cX5_toneSet 1 = .ok (.istore_n 1, 1) := by decide +kernel
theorem dX5_toneSet_2 : decode cX5_toneSet 2 = .ok (.iconst 0, 1) := by decide +kernel
theorem dX5_toneSet_3 : decode cX5_toneSet 3 = .ok (.istore_n 2, 1) := by decide +kernel
theorem dX5_toneSet_4 : decode cX5_toneSet 4 = .ok (.iload_n 2, 1) := by decide +kernel
theorem dX5_toneSet_5 : decode cX5_toneSet 5 = .ok (.aload_n 0, 1) := by decide +kernel
theorem dX5_toneSet_6 : decode cX5_toneSet 6 = .ok (.getfield 15, 3) := by decide +kernel
theorem dX5_toneSet_9 : decode cX5_toneSet 9 = .ok (.if_icmp .ge 20, 3) := by decide +kernel
theorem dX5_toneSet_12 : decode cX5_toneSet 12 = .ok (.iload_n 1, 1) := by decide +kernel
theorem dX5_toneSet_13 : decode cX5_toneSet 13 = .ok (.iconst 1, 1) := by decide +kernel
theorem dX5_toneSet_14 : decode cX5_toneSet 14 = .ok (.aload_n 0, 1) := by decide +kernel
theorem dX5_toneSet_15 : decode cX5_toneSet 15 = .ok (.getfield 9, 3) := by decide +kernel
theorem dX5_toneSet_18 : decode cX5_toneSet 18 = .ok (.iload_n 2, 1) := by decide +kernel
theorem dX5_toneSet_19 : decode cX5_toneSet 19 = .ok (.iaload, 1) := by decide +kernel
theorem dX5_toneSet_20 : decode cX5_toneSet 20 = .ok (.ishl, 1) := by decide +kernel
theorem dX5_toneSet_21 : decode cX5_toneSet 21 = .ok (.ior, 1) := by decide +kernel
theorem dX5_toneSet_22 : decode cX5_toneSet 22 = .ok (.istore_n 1, 1) := by decide +kernel
theorem dX5_toneSet_23 : decode cX5_toneSet 23 = .ok (.iinc 2 1, 3) := by decide +kernel
theorem dX5_toneSet_26 : decode cX5_toneSet 26 = .ok (.goto (-22), 3) := by decide +kernel
theorem dX5_toneSet_29 : decode cX5_toneSet 29 = .ok (.iload_n 1, 1) := by decide +kernel
theorem dX5_toneSet_30 : decode cX5_toneSet 30 = .ok (.ireturn, 1) := by decide +kernel
theorem dX5_wideLeaps_0 : decode cX5_wideLeaps 0 = .ok (.iconst 0, 1) := by decide +kernel
theorem dX5_wideLeaps_1 : decode cX5_wideLeaps 1 = .ok (.istore_n 1, 1) := by decide +kernel
theorem dX5_wideLeaps_2 : decode cX5_wideLeaps 2 = .ok (.iconst 1, 1) := by decide +kernel
theorem dX5_wideLeaps_3 : decode cX5_wideLeaps 3 = .ok (.istore_n 2, 1) := by decide +kernel
theorem dX5_wideLeaps_4 : decode cX5_wideLeaps 4 = .ok (.iload_n 2, 1) := by decide +kernel
theorem dX5_wideLeaps_5 : decode cX5_wideLeaps 5 = .ok (.aload_n 0, 1) := by decide +kernel
theorem dX5_wideLeaps_6 : decode cX5_wideLeaps 6 = .ok (.getfield 15, 3) := by decide +kernel
theorem dX5_wideLeaps_9 : decode cX5_wideLeaps 9 = .ok (.if_icmp .ge 33, 3) := by decide +kernel
theorem dX5_wideLeaps_12 : decode cX5_wideLeaps 12 = .ok (.aload_n 0, 1) := by decide +kernel
theorem dX5_wideLeaps_13 : decode cX5_wideLeaps 13 = .ok (.getfield 9, 3) := by decide +kernel
theorem dX5_wideLeaps_16 : decode cX5_wideLeaps 16 = .ok (.iload_n 2, 1) := by decide +kernel
theorem dX5_wideLeaps_17 : decode cX5_wideLeaps 17 = .ok (.iconst 1, 1) := by decide +kernel
theorem dX5_wideLeaps_18 : decode cX5_wideLeaps 18 = .ok (.isub, 1) := by decide +kernel
theorem dX5_wideLeaps_19 : decode cX5_wideLeaps 19 = .ok (.iaload, 1) := by decide +kernel
theorem dX5_wideLeaps_20 : decode cX5_wideLeaps 20 = .ok (.aload_n 0, 1) := by decide +kernel
theorem dX5_wideLeaps_21 : decode cX5_wideLeaps 21 = .ok (.getfield 9, 3) := by decide +kernel
theorem dX5_wideLeaps_24 : decode cX5_wideLeaps 24 = .ok (.iload_n 2, 1) := by decide +kernel
theorem dX5_wideLeaps_25 : decode cX5_wideLeaps 25 = .ok (.iaload, 1) := by decide +kernel
theorem dX5_wideLeaps_26 : decode cX5_wideLeaps 26 = .ok (.invokestatic 38, 3) := by decide +kernel
theorem dX5_wideLeaps_29 : decode cX5_wideLeaps 29 = .ok (.iconst 4, 1) := by decide +kernel
theorem dX5_wideLeaps_30 : decode cX5_wideLeaps 30 = .ok (.if_icmp .lt 6, 3) := by decide +kernel
theorem dX5_wideLeaps_33 : decode cX5_wideLeaps 33 = .ok (.iinc 1 1, 3) := by decide +kernel
theorem dX5_wideLeaps_36 : decode cX5_wideLeaps 36 = .ok (.iinc 2 1, 3) := by decide +kernel
theorem dX5_wideLeaps_39 : decode cX5_wideLeaps 39 = .ok (.goto (-35), 3) := by decide +kernel
theorem dX5_wideLeaps_42 : decode cX5_wideLeaps 42 = .ok (.iload_n 1, 1) := by decide +kernel
theorem dX5_wideLeaps_43 : decode cX5_wideLeaps 43 = .ok (.ireturn, 1) := by decide +kernel
theorem dX5_leapBetween_0 : decode cX5_leapBetween 0 = .ok (.iload_n 0, 1) := by decide +kernel
theorem dX5_leapBetween_1 : decode cX5_leapBetween 1 = .ok (.iload_n 1, 1) := by decide +kernel
theorem dX5_leapBetween_2 : decode cX5_leapBetween 2 = .ok (.isub, 1) := by decide +kernel
theorem dX5_leapBetween_3 : decode cX5_leapBetween 3 = .ok (.invokestatic 41, 3) := by decide +kernel
theorem dX5_leapBetween_6 : decode cX5_leapBetween 6 = .ok (.istore_n 2, 1) := by decide +kernel
theorem dX5_leapBetween_7 : decode cX5_leapBetween 7 = .ok (.iload_n 2, 1) := by decide +kernel
theorem dX5_leapBetween_8 : decode cX5_leapBetween 8 = .ok (.bipush 12, 2) := by decide +kernel
theorem dX5_leapBetween_10 : decode cX5_leapBetween 10 = .ok (.iload_n 2, 1) := by decide +kernel
theorem dX5_leapBetween_11 : decode cX5_leapBetween 11 = .ok (.isub, 1) := by decide +kernel
theorem dX5_leapBetween_12 : decode cX5_leapBetween 12 = .ok (.invokestatic 29, 3) := by decide +kernel
theorem dX5_leapBetween_15 : decode cX5_leapBetween 15 = .ok (.ireturn, 1) := by decide +kernel
