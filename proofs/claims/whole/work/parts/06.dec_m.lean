theorem dX7_init_0 : decode cX7_init 0 = .ok (.aload_n 0, 1) := by decide +kernel
theorem dX7_init_1 : decode cX7_init 1 = .ok (.invokespecial 1, 3) := by decide +kernel
theorem dX7_init_4 : decode cX7_init 4 = .ok (.aload_n 0, 1) := by decide +kernel
theorem dX7_init_5 : decode cX7_init 5 = .ok (.bipush 68, 2) := by decide +kernel
theorem dX7_init_7 : decode cX7_init 7 = .ok (.newarray .int, 2) := by decide +kernel
theorem dX7_init_9 : decode cX7_init 9 = .ok (.putfield 9, 3) := by decide +kernel
theorem dX7_init_12 : decode cX7_init 12 = .ok (.aload_n 0, 1) := by decide +kernel
theorem dX7_init_13 : decode cX7_init 13 = .ok (.bipush 68, 2) := by decide +kernel
theorem dX7_init_15 : decode cX7_init 15 = .ok (.newarray .int, 2) := by decide +kernel
theorem dX7_init_17 : decode cX7_init 17 = .ok (.putfield 13, 3) := by decide +kernel
theorem dX7_init_20 : decode cX7_init 20 = .ok (.aload_n 0, 1) := by decide +kernel
theorem dX7_init_21 : decode cX7_init 21 = .ok (.bipush 68, 2) := by decide +kernel
theorem dX7_init_23 : decode cX7_init 23 = .ok (.newarray .int, 2) := by decide +kernel
theorem dX7_init_25 : decode cX7_init 25 = .ok (.putfield 16, 3) := by decide +kernel
theorem dX7_init_28 : decode cX7_init 28 = .ok (.aload_n 0, 1) := by decide +kernel
theorem dX7_init_29 : decode cX7_init 29 = .ok (.bipush 8, 2) := by decide +kernel
theorem dX7_init_31 : decode cX7_init 31 = .ok (.newarray .int, 2) := by decide +kernel
theorem dX7_init_33 : decode cX7_init 33 = .ok (.putfield 19, 3) := by decide +kernel
theorem dX7_init_36 : decode cX7_init 36 = .ok (.aload_n 0, 1) := by decide +kernel
theorem dX7_init_37 : decode cX7_init 37 = .ok (.bipush 12, 2) := by decide +kernel
theorem dX7_init_39 : decode cX7_init 39 = .ok (.newarray .int, 2) := by decide +kernel
theorem dX7_init_41 : decode cX7_init 41 = .ok (.putfield 22, 3) := by decide +kernel
theorem dX7_init_44 : decode cX7_init 44 = .ok (.aload_n 0, 1) := by decide +kernel
theorem dX7_init_45 : decode cX7_init 45 = .ok (.bipush 120, 2) := by decide +kernel
theorem dX7_init_47 : decode cX7_init 47 = .ok (.newarray .int, 2) := by decide +kernel
theorem dX7_init_49 : decode cX7_init 49 = .ok (.putfield 25, 3) := by decide +kernel
theorem dX7_init_52 : decode cX7_init 52 = .ok (.aload_n 0, 1) := by decide +kernel
theorem dX7_init_53 : decode cX7_init 53 = .ok (.bipush 6, 2) := by decide +kernel
theorem dX7_init_55 : decode cX7_init 55 = .ok (.anewarray 28, 3) := by decide +kernel
theorem dX7_init_58 : decode cX7_init 58 = .ok (.dup, 1) := by decide +kernel
theorem dX7_init_59 : decode cX7_init 59 = .ok (.iconst 0, 1) := by decide +kernel
theorem dX7_init_60 : decode cX7_init 60 = .ok (.ldc 30, 2) := by decide +kernel
theorem dX7_init_62 : decode cX7_init 62 = .ok (.aastore, 1) := by decide +kernel
theorem dX7_init_63 : decode cX7_init 63 = .ok (.dup, 1) := by decide +kernel
theorem dX7_init_64 : decode cX7_init 64 = .ok (.iconst 1, 1) := by decide +kernel
theorem dX7_init_65 : decode cX7_init 65 = .ok (.ldc 32, 2) := by decide +kernel
theorem dX7_init_67 : decode cX7_init 67 = .ok (.aastore, 1) := by decide +kernel
theorem dX7_init_68 : decode cX7_init 68 = .ok (.dup, 1) := by decide +kernel
theorem dX7_init_69 : decode cX7_init 69 = .ok (.iconst 2, 1) := by decide +kernel
theorem dX7_init_70 : decode cX7_init 70 = .ok (.ldc 34, 2) := by decide +kernel
theorem dX7_init_72 : decode cX7_init 72 = .ok (.aastore, 1) := by decide +kernel
theorem dX7_init_73 : decode cX7_init 73 = .ok (.dup, 1) := by decide +kernel
theorem dX7_init_74 : decode cX7_init 74 = .ok (.iconst 3, 1) := by decide +kernel
theorem dX7_init_75 : decode cX7_init 75 = .ok (.ldc 36, 2) := by decide +kernel
theorem dX7_init_77 : decode cX7_init 77 = .ok (.aastore, 1) := by decide +kernel
theorem dX7_init_78 : decode cX7_init 78 = .ok (.dup, 1) := by decide +kernel
theorem dX7_init_79 : decode cX7_init 79 = .ok (.iconst 4, 1) := by decide +kernel
theorem dX7_init_80 : decode cX7_init 80 = .ok (.ldc 38, 2) := by decide +kernel
theorem dX7_init_82 : decode cX7_init 82 = .ok (.aastore, 1) := by decide +kernel
theorem dX7_init_83 : decode cX7_init 83 = .ok (.dup, 1) := by decide +kernel
theorem dX7_init_84 : decode cX7_init 84 = .ok (.iconst 5, 1) := by decide +kernel
theorem dX7_init_85 : decode cX7_init 85 = .ok (.ldc 40, 2) := by decide +kernel
theorem dX7_init_87 : decode cX7_init 87 = .ok (.aastore, 1) := by decide +kernel
theorem dX7_init_88 : decode cX7_init 88 = .ok (.putfield 42, 3) := by decide +kernel
theorem dX7_init_91 : decode cX7_init 91 = .ok (.aload_n 0, 1) := by decide +kernel
theorem dX7_init_92 : decode cX7_init 92 = .ok (.bipush 120, 2) := by decide +kernel
theorem dX7_init_94 : decode cX7_init 94 = .ok (.newarray .int, 2) := by decide +kernel
theorem dX7_init_96 : decode cX7_init 96 = .ok (.putfield 46, 3) := by decide +kernel
theorem dX7_init_99 : decode cX7_init 99 = .ok (.aload_n 0, 1) := by decide +kernel
theorem dX7_init_100 : decode cX7_init 100 = .ok (.bipush 120, 2) := by decide +kernel
theorem dX7_init_102 : decode cX7_init 102 = .ok (.newarray .int, 2) := by decide +kernel
theorem dX7_init_104 : decode cX7_init 104 = .ok (.putfield 49, 3) := by decide +kernel
theorem dX7_init_107 : decode cX7_init 107 = .ok (.aload_n 0, 1) := by decide +kernel
theorem dX7_init_108 : decode cX7_init 108 = .ok (.bipush 120, 2) := by decide +kernel
theorem dX7_init_110 : decode cX7_init 110 = .ok (.newarray .int, 2) := by decide +kernel
theorem dX7_init_112 : decode cX7_init 112 = .ok (.putfield 52, 3) := by decide +kernel
theorem dX7_init_115 : decode cX7_init 115 = .ok (.aload_n 0, 1) := by decide +kernel
theorem dX7_init_116 : decode cX7_init 116 = .ok (.bipush 120, 2) := by decide +kernel
theorem dX7_init_118 : decode cX7_init 118 = .ok (.newarray .long, 2) := by decide +kernel
theorem dX7_init_120 : decode cX7_init 120 = .ok (.putfield 55, 3) := by decide +kernel
theorem dX7_init_123 : decode cX7_init 123 = .ok (.aload_n 0, 1) := by decide +kernel
theorem dX7_init_124 : decode cX7_init 124 = .ok (.iconst 4, 1) := by decide +kernel
theorem dX7_init_125 : decode cX7_init 125 = .ok (.newarray .int, 2) := by decide +kernel
theorem dX7_init_127 : decode cX7_init 127 = .ok (.putfield 59, 3) := by decide +kernel
theorem dX7_init_130 : decode cX7_init 130 = .ok (.aload_n 0, 1) := by decide +kernel
theorem dX7_init_131 : decode cX7_init 131 = .ok (.iconst 4, 1) := by decide +kernel
theorem dX7_init_132 : decode cX7_init 132 = .ok (.newarray .int, 2) := by decide +kernel
theorem dX7_init_134 : decode cX7_init 134 = .ok (.putfield 62, 3) := by decide +kernel
theorem dX7_init_137 : decode cX7_init 137 = .ok (.aload_n 0, 1) := by decide +kernel
theorem dX7_init_138 : decode cX7_init 138 = .ok (.sipush 160, 3) := by decide +kernel
theorem dX7_init_141 : decode cX7_init 141 = .ok (.newarray .long, 2) := by decide +kernel
theorem dX7_init_143 : decode cX7_init 143 = .ok (.putfield 65, 3) := by decide +kernel
theorem dX7_init_146 : decode cX7_init 146 = .ok (.aload_n 0, 1) := by decide +kernel
theorem dX7_init_147 : decode cX7_init 147 = .ok (.bipush 40, 2) := by decide +kernel
theorem dX7_init_149 : decode cX7_init 149 = .ok (.newarray .long, 2) := by decide +kernel
theorem dX7_init_151 : decode cX7_init 151 = .ok (.putfield 68, 3) := by decide +kernel
theorem dX7_init_154 : decode cX7_init 154 = .ok (.return_, 1) := by decide +kernel
theorem dX7_finding_0 : decode cX7_finding 0 = .ok (.aload_n 0, 1) := by decide +kernel
theorem dX7_finding_1 : decode cX7_finding 1 = .ok (.getfield 19, 3) := by decide +kernel
theorem dX7_finding_4 : decode cX7_finding 4 = .ok (.ldc 71, 2) := by decide +kernel
theorem dX7_finding_6 : decode cX7_finding 6 = .ok (.iload_n 1, 1) := by decide +kernel
theorem dX7_finding_7 : decode cX7_finding 7 = .ok (.isub, 1) := by decide +kernel
theorem dX7_finding_8 : decode cX7_finding 8 = .ok (.iconst 1, 1) := by decide +kernel
theorem dX7_finding_9 : decode cX7_finding 9 = .ok (.iadd, 1) := by decide +kernel
theorem dX7_finding_10 : decode cX7_finding 10 = .ok (.dup2, 1) := by decide +kernel
theorem dX7_finding_11 : decode cX7_finding 11 = .ok (.iaload, 1) := by decide +kernel
theorem dX7_finding_12 : decode cX7_finding 12 = .ok (.iconst 1, 1) := by decide +kernel
theorem dX7_finding_13 : decode cX7_finding 13 = .ok (.iadd, 1) := by decide +kernel
theorem dX7_finding_14 : decode cX7_finding 14 = .ok (.iastore, 1) := by decide +kernel
theorem dX7_finding_15 : decode cX7_finding 15 = .ok (.aload_n 0, 1) := by decide +kernel
theorem dX7_finding_16 : decode cX7_finding 16 = .ok (.getfield 19, 3) := by decide +kernel
theorem dX7_finding_19 : decode cX7_finding 19 = .ok (.iconst 0, 1) := by decide +kernel
theorem dX7_finding_20 : decode cX7_finding 20 = .ok (.dup2, 1) := by decide +kernel
theorem dX7_finding_21 : decode cX7_finding 21 = .ok (.iaload, 1) := by decide +kernel
theorem dX7_finding_22 : decode cX7_finding 22 = .ok (.iconst 1, 1) := by decide +kernel
theorem dX7_finding_23 : decode cX7_finding 23 = .ok (.iadd, 1) := by decide +kernel
theorem dX7_finding_24 : decode cX7_finding 24 = .ok (.iastore, 1) := by decide +kernel
theorem dX7_finding_25 : decode cX7_finding 25 = .ok (.iload_n 1, 1) := by decide +kernel
theorem dX7_finding_26 : decode cX7_finding 26 = .ok (.ireturn, 1) := by decide +kernel
theorem dX7_within_0 : decode cX7_within 0 = .ok (.iload_n 0, 1) := by decide +kernel
theorem dX7_within_1 : decode cX7_within 1 = .ok (.iload_n 1, 1) := by decide +kernel
theorem dX7_within_2 : decode cX7_within 2 = .ok (.if_icmp .lt 12, 3) := by decide +kernel
theorem dX7_within_5 : decode cX7_within 5 = .ok (.iload_n 0, 1) := by decide +kernel
theorem dX7_within_6 : decode cX7_within 6 = .ok (.iload_n 2, 1) := by decide +kernel
theorem dX7_within_7 : decode cX7_within 7 = .ok (.if_icmp .gt 7, 3) := by decide +kernel
theorem dX7_within_10 : decode cX7_within 10 = .ok (.iconst 1, 1) := by decide +kernel
theorem dX7_within_11 : decode cX7_within 11 = .ok (.goto 4, 3) := by decide +kernel
theorem dX7_within_14 : decode cX7_within 14 = .ok (.iconst 0, 1) := by decide +kernel
theorem dX7_within_15 : decode cX7_within 15 = .ok (.ireturn, 1) := by decide +kernel
theorem dX7_become_0 : decode cX7_become 0 = .ok (.aload_n 0, 1) := by decide +kernel
theorem dX7_become_1 : decode cX7_become 1 = .ok (.getfield 9, 3) := by decide +kernel
theorem dX7_become_4 : decode cX7_become 4 = .ok (.iload_n 1, 1) := by decide +kernel
theorem dX7_become_5 : decode cX7_become 5 = .ok (.iaload, 1) := by decide +kernel
theorem dX7_become_6 : decode cX7_become 6 = .ok (.istore_n 3, 1) := by decide +kernel
theorem dX7_become_7 : decode cX7_become 7 = .ok (.aload_n 0, 1) := by decide +kernel
theorem dX7_become_8 : decode cX7_become 8 = .ok (.getfield 9, 3) := by decide +kernel
theorem dX7_become_11 : decode cX7_become 11 = .ok (.iload_n 1, 1) := by decide +kernel
theorem dX7_become_12 : decode cX7_become 12 = .ok (.iload_n 2, 1) := by decide +kernel
theorem dX7_become_13 : decode cX7_become 13 = .ok (.iastore, 1) := by decide +kernel
theorem dX7_become_14 : decode cX7_become 14 = .ok (.iload_n 3, 1) := by decide +kernel
theorem dX7_become_15 : decode cX7_become 15 = .ok (.ireturn, 1) := by decide +kernel
theorem dX7_copyRow_0 : decode cX7_copyRow 0 = .ok (.iconst 0, 1) := by decide +kernel
theorem dX7_copyRow_1 : decode cX7_copyRow 1 = .ok (.istore_n 2, 1) := by decide +kernel
theorem dX7_copyRow_2 : decode cX7_copyRow 2 = .ok (.iload_n 2, 1) := by decide +kernel
theorem dX7_copyRow_3 : decode cX7_copyRow 3 = .ok (.bipush 68, 2) := by decide +kernel
theorem dX7_copyRow_5 : decode cX7_copyRow 5 = .ok (.if_icmp .ge 15, 3) := by decide +kernel
theorem dX7_copyRow_8 : decode cX7_copyRow 8 = .ok (.aload_n 1, 1) := by decide +kernel
theorem dX7_copyRow_9 : decode cX7_copyRow 9 = .ok (.iload_n 2, 1) := by decide +kernel
theorem dX7_copyRow_10 : decode cX7_copyRow 10 = .ok (.aload_n 0, 1) := by decide +kernel
theorem dX7_copyRow_11 : decode cX7_copyRow 11 = .ok (.iload_n 2, 1) := by decide +kernel
theorem dX7_copyRow_12 : decode cX7_copyRow 12 = .ok (.iaload, 1) := by decide +kernel
theorem dX7_copyRow_13 : decode cX7_copyRow 13 = .ok (.iastore, 1) := by decide +kernel
theorem dX7_copyRow_14 : decode cX7_copyRow 14 = .ok (.iinc 2 1, 3) := by decide +kernel
theorem dX7_copyRow_17 : decode cX7_copyRow 17 = .ok (.goto (-15), 3) := by decide +kernel
theorem dX7_copyRow_20 : decode cX7_copyRow 20 = .ok (.return_, 1) := by decide +kernel
theorem dX7_putBack_0 : decode cX7_putBack 0 = .ok (.aload_n 0, 1) := by decide +kernel
theorem dX7_putBack_1 : decode cX7_putBack 1 = .ok (.getfield 16, 3) := by decide +kernel
theorem dX7_putBack_4 : decode cX7_putBack 4 = .ok (.aload_n 0, 1) := by decide +kernel
theorem dX7_putBack_5 : decode cX7_putBack 5 = .ok (.getfield 9, 3) := by decide +kernel
theorem dX7_putBack_8 : decode cX7_putBack 8 = .ok (.invokestatic 72, 3) := by decide +kernel
theorem dX7_putBack_11 : decode cX7_putBack 11 = .ok (.iload_n 1, 1) := by decide +kernel
theorem dX7_putBack_12 : decode cX7_putBack 12 = .ok (.ireturn, 1) := by decide +kernel
theorem dX7_orNone_0 : decode cX7_orNone 0 = .ok (.iload_n 1, 1) := by decide +kernel
theorem dX7_orNone_1 : decode cX7_orNone 1 = .ok (.ifCond .ge 12, 3) := by decide +kernel
theorem dX7_orNone_4 : decode cX7_orNone 4 = .ok (.aload_n 0, 1) := by decide +kernel
theorem dX7_orNone_5 : decode cX7_orNone 5 = .ok (.ldc 76, 2) := by decide +kernel
theorem dX7_orNone_7 : decode cX7_orNone 7 = .ok (.invokevirtual 77, 3) := by decide +kernel
theorem dX7_orNone_10 : decode cX7_orNone 10 = .ok (.goto 4, 3) := by decide +kernel
theorem dX7_orNone_13 : decode cX7_orNone 13 = .ok (.iload_n 1, 1) := by decide +kernel
theorem dX7_orNone_14 : decode cX7_orNone 14 = .ok (.ireturn, 1) := by decide +kernel
theorem dX7_bits_0 : decode cX7_bits 0 = .ok (.iconst 0, 1) := by decide +kernel
theorem dX7_bits_1 : decode cX7_bits 1 = .ok (.istore_n 1, 1) := by decide +kernel
theorem dX7_bits_2 : decode cX7_bits 2 = .ok (.iload_n 0, 1) := by decide +kernel
theorem dX7_bits_3 : decode cX7_bits 3 = .ok (.istore_n 2, 1) := by decide +kernel
theorem dX7_bits_4 : decode cX7_bits 4 = .ok (.iload_n 2, 1) := by decide +kernel
theorem dX7_bits_5 : decode cX7_bits 5 = .ok (.ifCond .eq 15, 3) := by decide +kernel
theorem dX7_bits_8 : decode cX7_bits 8 = .ok (.iinc 1 1, 3) := by decide +kernel
theorem dX7_bits_11 : decode cX7_bits 11 = .ok (.iload_n 2, 1) := by decide +kernel
theorem dX7_bits_12 : decode cX7_bits 12 = .ok (.iload_n 2, 1) := by decide +kernel
theorem dX7_bits_13 : decode cX7_bits 13 = .ok (.iconst 1, 1) := by decide +kernel
theorem dX7_bits_14 : decode cX7_bits 14 = .ok (.isub, 1) := by decide +kernel
theorem dX7_bits_15 : decode cX7_bits 15 = .ok (.iand, 1) := by decide +kernel
theorem dX7_bits_16 : decode cX7_bits 16 = .ok (.istore_n 2, 1) := by decide +kernel
theorem dX7_bits_17 : decode cX7_bits 17 = .ok (.goto (-13), 3) := by decide +kernel
theorem dX7_bits_20 : decode cX7_bits 20 = .ok (.iload_n 1, 1) := by decide +kernel
theorem dX7_bits_21 : decode cX7_bits 21 = .ok (.ireturn, 1) := by decide +kernel
theorem dX7_isSide_0 : decode cX7_isSide 0 = .ok (.iload_n 0, 1) := by decide +kernel
theorem dX7_isSide_1 : decode cX7_isSide 1 = .ok (.iconst 0, 1) := by decide +kernel
theorem dX7_isSide_2 : decode cX7_isSide 2 = .ok (.iconst 1, 1) := by decide +kernel
theorem dX7_isSide_3 : decode cX7_isSide 3 = .ok (.invokestatic 81, 3) := by decide +kernel
theorem dX7_isSide_6 : decode cX7_isSide 6 = .ok (.ireturn, 1) := by decide +kernel
theorem dX7_length_0 : decode cX7_length 0 = .ok (.aload_n 0, 1) := by decide +kernel
theorem dX7_length_1 : decode cX7_length 1 = .ok (.getfield 9, 3) := by decide +kernel
theorem dX7_length_4 : decode cX7_length 4 = .ok (.iconst 2, 1) := by decide +kernel
theorem dX7_length_5 : decode cX7_length 5 = .ok (.iload_n 1, 1) := by decide +kernel
theorem dX7_length_6 : decode cX7_length 6 = .ok (.iadd, 1) := by decide +kernel
theorem dX7_length_7 : decode cX7_length 7 = .ok (.iaload, 1) := by decide +kernel
theorem dX7_length_8 : decode cX7_length 8 = .ok (.ireturn, 1) := by decide +kernel
theorem dX7_toneOf_0 : decode cX7_toneOf 0 = .ok (.aload_n 0, 1) := by decide +kernel
theorem dX7_toneOf_1 : decode cX7_toneOf 1 = .ok (.getfield 9, 3) := by decide +kernel
theorem dX7_toneOf_4 : decode cX7_toneOf 4 = .ok (.iconst 4, 1) := by decide +kernel
theorem dX7_toneOf_5 : decode cX7_toneOf 5 = .ok (.bipush 12, 2) := by decide +kernel
theorem dX7_toneOf_7 : decode cX7_toneOf 7 = .ok (.iload_n 1, 1) := by decide +kernel
theorem dX7_toneOf_8 : decode cX7_toneOf 8 = .ok (.imul, 1) := by decide +kernel
theorem dX7_toneOf_9 : decode cX7_toneOf 9 = .ok (.iadd, 1) := by decide +kernel
theorem dX7_toneOf_10 : decode cX7_toneOf 10 = .ok (.iload_n 2, 1) := by decide +kernel
theorem dX7_toneOf_11 : decode cX7_toneOf 11 = .ok (.iadd, 1) := by decide +kernel
theorem dX7_toneOf_12 : decode cX7_toneOf 12 = .ok (.iaload, 1) := by decide +kernel
theorem dX7_toneOf_13 : decode cX7_toneOf 13 = .ok (.ireturn, 1) := by decide +kernel
theorem dX7_laysTune_0 : decode cX7_laysTune 0 = .ok (.iconst 0, 1) := by decide +kernel
theorem dX7_laysTune_1 : decode cX7_laysTune 1 = .ok (.istore 5, 2) := by decide +kernel
theorem dX7_laysTune_3 : decode cX7_laysTune 3 = .ok (.iload 5, 2) := by decide +kernel
theorem dX7_laysTune_5 : decode cX7_laysTune 5 = .ok (.iload_n 2, 1) := by decide +kernel
theorem dX7_laysTune_6 : decode cX7_laysTune 6 = .ok (.if_icmp .ge 37, 3) := by decide +kernel
theorem dX7_laysTune_9 : decode cX7_laysTune 9 = .ok (.aload_n 0, 1) := by decide +kernel
theorem dX7_laysTune_10 : decode cX7_laysTune 10 = .ok (.getfield 9, 3) := by decide +kernel
theorem dX7_laysTune_13 : decode cX7_laysTune 13 = .ok (.iconst 4, 1) := by decide +kernel
theorem dX7_laysTune_14 : decode cX7_laysTune 14 = .ok (.bipush 12, 2) := by decide +kernel
theorem dX7_laysTune_16 : decode cX7_laysTune 16 = .ok (.iload_n 1, 1) := by decide +kernel
theorem dX7_laysTune_17 : decode cX7_laysTune 17 = .ok (.imul, 1) := by decide +kernel
theorem dX7_laysTune_18 : decode cX7_laysTune 18 = .ok (.iadd, 1) := by decide +kernel
theorem dX7_laysTune_19 : decode cX7_laysTune 19 = .ok (.iload 5, 2) := by decide +kernel
theorem dX7_laysTune_21 : decode cX7_laysTune 21 = .ok (.iadd, 1) := by decide +kernel
theorem dX7_laysTune_22 : decode cX7_laysTune 22 = .ok (.lload_n 3, 1) := by decide +kernel
theorem dX7_laysTune_23 : decode cX7_laysTune 23 = .ok (.iconst 4, 1) := by decide +kernel
theorem dX7_laysTune_24 : decode cX7_laysTune 24 = .ok (.iload 5, 2) := by decide +kernel
theorem dX7_laysTune_26 : decode cX7_laysTune 26 = .ok (.imul, 1) := by decide +kernel
theorem dX7_laysTune_27 : decode cX7_laysTune 27 = .ok (.lshr, 1) := by decide +kernel
theorem dX7_laysTune_28 : decode cX7_laysTune 28 = .ok (.ldc2_w 85, 3) := by decide +kernel
theorem dX7_laysTune_31 : decode cX7_laysTune 31 = .ok (.land, 1) := by decide +kernel
theorem dX7_laysTune_32 : decode cX7_laysTune 32 = .ok (.l2i, 1) := by decide +kernel
theorem dX7_laysTune_33 : decode cX7_laysTune 33 = .ok (.bipush 12, 2) := by decide +kernel
theorem dX7_laysTune_35 : decode cX7_laysTune 35 = .ok (.irem, 1) := by decide +kernel
theorem dX7_laysTune_36 : decode cX7_laysTune 36 = .ok (.iastore, 1) := by decide +kernel
theorem dX7_laysTune_37 : decode cX7_laysTune 37 = .ok (.iinc 5 1, 3) := by decide +kernel
theorem dX7_laysTune_40 : decode cX7_laysTune 40 = .ok (.goto (-37), 3) := by decide +kernel
theorem dX7_laysTune_43 : decode cX7_laysTune 43 = .ok (.aload_n 0, 1) := by decide +kernel
theorem dX7_laysTune_44 : decode cX7_laysTune 44 = .ok (.iconst 2, 1) := by decide +kernel
theorem dX7_laysTune_45 : decode cX7_laysTune 45 = .ok (.iload_n 1, 1) := by decide +kernel
theorem dX7_laysTune_46 : decode cX7_laysTune 46 = .ok (.iadd, 1) := by decide +kernel
theorem dX7_laysTune_47 : decode cX7_laysTune 47 = .ok (.iload_n 2, 1) := by decide +kernel
theorem dX7_laysTune_48 : decode cX7_laysTune 48 = .ok (.invokevirtual 87, 3) := by decide +kernel
theorem dX7_laysTune_51 : decode cX7_laysTune 51 = .ok (.ireturn, 1) := by decide +kernel
theorem dX7_tune_0 : decode cX7_tune 0 = .ok (.iload_n 1, 1) := by decide +kernel
theorem dX7_tune_1 : decode cX7_tune 1 = .ok (.invokestatic 91, 3) := by decide +kernel
theorem dX7_tune_4 : decode cX7_tune 4 = .ok (.ifCond .eq 23, 3) := by decide +kernel
theorem dX7_tune_7 : decode cX7_tune 7 = .ok (.iload_n 2, 1) := by decide +kernel
theorem dX7_tune_8 : decode cX7_tune 8 = .ok (.iconst 0, 1) := by decide +kernel
theorem dX7_tune_9 : decode cX7_tune 9 = .ok (.bipush 12, 2) := by decide +kernel
theorem dX7_tune_11 : decode cX7_tune 11 = .ok (.invokestatic 81, 3) := by decide +kernel
theorem dX7_tune_14 : decode cX7_tune 14 = .ok (.ifCond .eq 13, 3) := by decide +kernel
theorem dX7_tune_17 : decode cX7_tune 17 = .ok (.aload_n 0, 1) := by decide +kernel
theorem dX7_tune_18 : decode cX7_tune 18 = .ok (.iload_n 1, 1) := by decide +kernel
theorem dX7_tune_19 : decode cX7_tune 19 = .ok (.iload_n 2, 1) := by decide +kernel
theorem dX7_tune_20 : decode cX7_tune 20 = .ok (.lload_n 3, 1) := by decide +kernel
theorem dX7_tune_21 : decode cX7_tune 21 = .ok (.invokevirtual 95, 3) := by decide +kernel
theorem dX7_tune_24 : decode cX7_tune 24 = .ok (.goto 9, 3) := by decide +kernel
theorem dX7_tune_27 : decode cX7_tune 27 = .ok (.aload_n 0, 1) := by decide +kernel
theorem dX7_tune_28 : decode cX7_tune 28 = .ok (.ldc 71, 2) := by decide +kernel
theorem dX7_tune_30 : decode cX7_tune 30 = .ok (.invokevirtual 77, 3) := by decide +kernel
theorem dX7_tune_33 : decode cX7_tune 33 = .ok (.ireturn, 1) := by decide +kernel
theorem dX7_tone_0 : decode cX7_tone 0 = .ok (.iload_n 1, 1) := by decide +kernel
theorem dX7_tone_1 : decode cX7_tone 1 = .ok (.invokestatic 91, 3) := by decide +kernel
theorem dX7_tone_4 : decode cX7_tone 4 = .ok (.ifCond .eq 7, 3) := by decide +kernel
theorem dX7_tone_7 : decode cX7_tone 7 = .ok (.iload_n 2, 1) := by decide +kernel
theorem dX7_tone_8 : decode cX7_tone 8 = .ok (.ifCond .ge 10, 3) := by decide +kernel
theorem dX7_tone_11 : decode cX7_tone 11 = .ok (.aload_n 0, 1) := by decide +kernel
theorem dX7_tone_12 : decode cX7_tone 12 = .ok (.ldc 71, 2) := by decide +kernel
theorem dX7_tone_14 : decode cX7_tone 14 = .ok (.invokevirtual 77, 3) := by decide +kernel
theorem dX7_tone_17 : decode cX7_tone 17 = .ok (.ireturn, 1) := by decide +kernel
theorem dX7_tone_18 : decode cX7_tone 18 = .ok (.iload_n 2, 1) := by decide +kernel
theorem dX7_tone_19 : decode cX7_tone 19 = .ok (.aload_n 0, 1) := by decide +kernel
theorem dX7_tone_20 : decode cX7_tone 20 = .ok (.iload_n 1, 1) := by decide +kernel
theorem dX7_tone_21 : decode cX7_tone 21 = .ok (.invokevirtual 99, 3) := by decide +kernel
theorem dX7_tone_24 : decode cX7_tone 24 = .ok (.if_icmp .ge 12, 3) := by decide +kernel
theorem dX7_tone_27 : decode cX7_tone 27 = .ok (.aload_n 0, 1) := by decide +kernel
theorem dX7_tone_28 : decode cX7_tone 28 = .ok (.iload_n 1, 1) := by decide +kernel
theorem dX7_tone_29 : decode cX7_tone 29 = .ok (.iload_n 2, 1) := by decide +kernel
theorem dX7_tone_30 : decode cX7_tone 30 = .ok (.invokevirtual 102, 3) := by decide +kernel
theorem dX7_tone_33 : decode cX7_tone 33 = .ok (.goto 9, 3) := by decide +kernel
theorem dX7_tone_36 : decode cX7_tone 36 = .ok (.aload_n 0, 1) := by decide +kernel
theorem dX7_tone_37 : decode cX7_tone 37 = .ok (.ldc 76, 2) := by decide +kernel
theorem dX7_tone_39 : decode cX7_tone 39 = .ok (.invokevirtual 77, 3) := by decide +kernel
theorem dX7_tone_42 : decode cX7_tone 42 = .ok (.ireturn, 1) := by decide +kernel
theorem dX7_tensionOf_0 : decode cX7_tensionOf 0 = .ok (.iconst 0, 1) := by decide +kernel
theorem dX7_tensionOf_1 : decode cX7_tensionOf 1 = .ok (.istore_n 2, 1) := by decide +kernel
theorem dX7_tensionOf_2 : decode cX7_tensionOf 2 = .ok (.iconst 1, 1) := by decide +kernel
theorem dX7_tensionOf_3 : decode cX7_tensionOf 3 = .ok (.istore_n 3, 1) := by decide +kernel
theorem dX7_tensionOf_4 : decode cX7_tensionOf 4 = .ok (.iload_n 3, 1) := by decide +kernel
theorem dX7_tensionOf_5 : decode cX7_tensionOf 5 = .ok (.aload_n 0, 1) := by decide +kernel
theorem dX7_tensionOf_6 : decode cX7_tensionOf 6 = .ok (.iload_n 1, 1) := by decide +kernel
theorem dX7_tensionOf_7 : decode cX7_tensionOf 7 = .ok (.invokevirtual 99, 3) := by decide +kernel
theorem dX7_tensionOf_10 : decode cX7_tensionOf 10 = .ok (.if_icmp .ge 51, 3) := by decide +kernel
theorem dX7_tensionOf_13 : decode cX7_tensionOf 13 = .ok (.aload_n 0, 1) := by decide +kernel
theorem dX7_tensionOf_14 : decode cX7_tensionOf 14 = .ok (.iload_n 1, 1) := by decide +kernel
theorem dX7_tensionOf_15 : decode cX7_tensionOf 15 = .ok (.iload_n 3, 1) := by decide +kernel
theorem dX7_tensionOf_16 : decode cX7_tensionOf 16 = .ok (.invokevirtual 102, 3) := by decide +kernel
theorem dX7_tensionOf_19 : decode cX7_tensionOf 19 = .ok (.aload_n 0, 1) := by decide +kernel
theorem dX7_tensionOf_20 : decode cX7_tensionOf 20 = .ok (.iload_n 1, 1) := by decide +kernel
theorem dX7_tensionOf_21 : decode cX7_tensionOf 21 = .ok (.iload_n 3, 1) := by decide +kernel
theorem dX7_tensionOf_22 : decode cX7_tensionOf 22 = .ok (.iconst 1, 1) := by decide +kernel
theorem dX7_tensionOf_23 : decode cX7_tensionOf 23 = .ok (.isub, 1) := by decide +kernel
theorem dX7_tensionOf_24 : decode cX7_tensionOf 24 = .ok (.invokevirtual 102, 3) := by decide +kernel
theorem dX7_tensionOf_27 : decode cX7_tensionOf 27 = .ok (.isub, 1) := by decide +kernel
theorem dX7_tensionOf_28 : decode cX7_tensionOf 28 = .ok (.invokestatic 105, 3) := by decide +kernel
theorem dX7_tensionOf_31 : decode cX7_tensionOf 31 = .ok (.istore 4, 2) := by decide +kernel
theorem dX7_tensionOf_33 : decode cX7_tensionOf 33 = .ok (.iload_n 2, 1) := by decide +kernel
theorem dX7_tensionOf_34 : decode cX7_tensionOf 34 = .ok (.iload 4, 2) := by decide +kernel
theorem dX7_tensionOf_36 : decode cX7_tensionOf 36 = .ok (.bipush 12, 2) := by decide +kernel
theorem dX7_tensionOf_38 : decode cX7_tensionOf 38 = .ok (.iload 4, 2) := by decide +kernel
theorem dX7_tensionOf_40 : decode cX7_tensionOf 40 = .ok (.isub, 1) := by decide +kernel
theorem dX7_tensionOf_41 : decode cX7_tensionOf 41 = .ok (.invokestatic 110, 3) := by decide +kernel
theorem dX7_tensionOf_44 : decode cX7_tensionOf 44 = .ok (.iconst 4, 1) := by decide +kernel
theorem dX7_tensionOf_45 : decode cX7_tensionOf 45 = .ok (.if_icmp .lt 7, 3) := by decide +kernel
theorem dX7_tensionOf_48 : decode cX7_tensionOf 48 = .ok (.iconst 1, 1) := by decide +kernel
theorem dX7_tensionOf_49 : decode cX7_tensionOf 49 = .ok (.goto 4, 3) := by decide +kernel
theorem dX7_tensionOf_52 : decode cX7_tensionOf 52 = .ok (.iconst 0, 1) := by decide +kernel
theorem dX7_tensionOf_53 : decode cX7_tensionOf 53 = .ok (.iadd, 1) := by decide +kernel
theorem dX7_tensionOf_54 : decode cX7_tensionOf 54 = .ok (.istore_n 2, 1) := by decide +kernel
theorem dX7_tensionOf_55 : decode cX7_tensionOf 55 = .ok (.iinc 3 1, 3) := by decide +kernel
theorem dX7_tensionOf_58 : decode cX7_tensionOf 58 = .ok (.goto (-54), 3) := by decide +kernel
theorem dX7_tensionOf_61 : decode cX7_tensionOf 61 = .ok (.iload_n 2, 1) := by decide +kernel
theorem dX7_tensionOf_62 : decode cX7_tensionOf 62 = .ok (.ireturn, 1) := by decide +kernel
theorem dX7_isHome_0 : decode cX7_isHome 0 = .ok (.aload_n 0, 1) := by decide +kernel
theorem dX7_isHome_1 : decode cX7_isHome 1 = .ok (.iload_n 1, 1) := by decide +kernel
theorem dX7_isHome_2 : decode cX7_isHome 2 = .ok (.invokevirtual 99, 3) := by decide +kernel
theorem dX7_isHome_5 : decode cX7_isHome 5 = .ok (.ifCond .le 22, 3) := by decide +kernel
theorem dX7_isHome_8 : decode cX7_isHome 8 = .ok (.aload_n 0, 1) := by decide +kernel
theorem dX7_isHome_9 : decode cX7_isHome 9 = .ok (.iload_n 1, 1) := by decide +kernel
theorem dX7_isHome_10 : decode cX7_isHome 10 = .ok (.aload_n 0, 1) := by decide +kernel
theorem dX7_isHome_11 : decode cX7_isHome 11 = .ok (.iload_n 1, 1) := by decide +kernel
theorem dX7_isHome_12 : decode cX7_isHome 12 = .ok (.invokevirtual 99, 3) := by decide +kernel
theorem dX7_isHome_15 : decode cX7_isHome 15 = .ok (.iconst 1, 1) := by decide +kernel
theorem dX7_isHome_16 : decode cX7_isHome 16 = .ok (.isub, 1) := by decide +kernel
theorem dX7_isHome_17 : decode cX7_isHome 17 = .ok (.invokevirtual 102, 3) := by decide +kernel
theorem dX7_isHome_20 : decode cX7_isHome 20 = .ok (.ifCond .ne 7, 3) := by decide +kernel
theorem dX7_isHome_23 : decode cX7_isHome 23 = .ok (.iconst 1, 1) := by decide +kernel
theorem dX7_isHome_24 : decode cX7_isHome 24 = .ok (.goto 4, 3) := by decide +kernel
theorem dX7_isHome_27 : decode cX7_isHome 27 = .ok (.iconst 0, 1) := by decide +kernel
theorem dX7_isHome_28 : decode cX7_isHome 28 = .ok (.ireturn, 1) := by decide +kernel
theorem dX7_tonesIn_0 : decode cX7_tonesIn 0 = .ok (.iconst 0, 1) := by decide +kernel
theorem dX7_tonesIn_1 : decode cX7_tonesIn 1 = .ok (.istore_n 2, 1) := by decide +kernel
theorem dX7_tonesIn_2 : decode cX7_tonesIn 2 = .ok (.iconst 0, 1) := by decide +kernel
theorem dX7_tonesIn_3 : decode cX7_tonesIn 3 = .ok (.istore_n 3, 1) := by decide +kernel
theorem dX7_tonesIn_4 : decode cX7_tonesIn 4 = .ok (.iload_n 3, 1) := by decide +kernel
theorem dX7_tonesIn_5 : decode cX7_tonesIn 5 = .ok (.aload_n 0, 1) := by decide +kernel
theorem dX7_tonesIn_6 : decode cX7_tonesIn 6 = .ok (.iload_n 1, 1) := by decide +kernel
theorem dX7_tonesIn_7 : decode cX7_tonesIn 7 = .ok (.invokevirtual 99, 3) := by decide +kernel
theorem dX7_tonesIn_10 : decode cX7_tonesIn 10 = .ok (.if_icmp .ge 20, 3) := by decide +kernel
theorem dX7_tonesIn_13 : decode cX7_tonesIn 13 = .ok (.iload_n 2, 1) := by decide +kernel
theorem dX7_tonesIn_14 : decode cX7_tonesIn 14 = .ok (.iconst 1, 1) := by decide +kernel
theorem dX7_tonesIn_15 : decode cX7_tonesIn 15 = .ok (.aload_n 0, 1) := by decide +kernel
theorem dX7_tonesIn_16 : decode cX7_tonesIn 16 = .ok (.iload_n 1, 1) := by decide +kernel
theorem dX7_tonesIn_17 : decode cX7_tonesIn 17 = .ok (.iload_n 3, 1) := by decide +kernel
theorem dX7_tonesIn_18 : decode cX7_tonesIn 18 = .ok (.invokevirtual 102, 3) := by decide +kernel
theorem dX7_tonesIn_21 : decode cX7_tonesIn 21 = .ok (.ishl, 1) := by decide +kernel
theorem dX7_tonesIn_22 : decode cX7_tonesIn 22 = .ok (.ior, 1) := by decide +kernel
theorem dX7_tonesIn_23 : decode cX7_tonesIn 23 = .ok (.istore_n 2, 1) := by decide +kernel
theorem dX7_tonesIn_24 : decode cX7_tonesIn 24 = .ok (.iinc 3 1, 3) := by decide +kernel
theorem dX7_tonesIn_27 : decode cX7_tonesIn 27 = .ok (.goto (-23), 3) := by decide +kernel
theorem dX7_tonesIn_30 : decode cX7_tonesIn 30 = .ok (.iload_n 2, 1) := by decide +kernel
theorem dX7_tonesIn_31 : decode cX7_tonesIn 31 = .ok (.ireturn, 1) := by decide +kernel
theorem dX7_unlikeNow_0 : decode cX7_unlikeNow 0 = .ok (.iconst 0, 1) := by decide +kernel
theorem dX7_unlikeNow_1 : decode cX7_unlikeNow 1 = .ok (.istore_n 1, 1) := by decide +kernel
theorem dX7_unlikeNow_2 : decode cX7_unlikeNow 2 = .ok (.iconst 0, 1) := by decide +kernel
theorem dX7_unlikeNow_3 : decode cX7_unlikeNow 3 = .ok (.istore_n 2, 1) := by decide +kernel
theorem dX7_unlikeNow_4 : decode cX7_unlikeNow 4 = .ok (.iload_n 2, 1) := by decide +kernel
theorem dX7_unlikeNow_5 : decode cX7_unlikeNow 5 = .ok (.aload_n 0, 1) := by decide +kernel
theorem dX7_unlikeNow_6 : decode cX7_unlikeNow 6 = .ok (.iconst 0, 1) := by decide +kernel
theorem dX7_unlikeNow_7 : decode cX7_unlikeNow 7 = .ok (.invokevirtual 99, 3) := by decide +kernel
theorem dX7_unlikeNow_10 : decode cX7_unlikeNow 10 = .ok (.aload_n 0, 1) := by decide +kernel
theorem dX7_unlikeNow_11 : decode cX7_unlikeNow 11 = .ok (.iconst 1, 1) := by decide +kernel
theorem dX7_unlikeNow_12 : decode cX7_unlikeNow 12 = .ok (.invokevirtual 99, 3) := by decide +kernel
theorem dX7_unlikeNow_15 : decode cX7_unlikeNow 15 = .ok (.invokestatic 113, 3) := by decide +kernel
theorem dX7_unlikeNow_18 : decode cX7_unlikeNow 18 = .ok (.if_icmp .ge 60, 3) := by decide +kernel
theorem dX7_unlikeNow_21 : decode cX7_unlikeNow 21 = .ok (.iload_n 2, 1) := by decide +kernel
theorem dX7_unlikeNow_22 : decode cX7_unlikeNow 22 = .ok (.aload_n 0, 1) := by decide +kernel
theorem dX7_unlikeNow_23 : decode cX7_unlikeNow 23 = .ok (.iconst 0, 1) := by decide +kernel
theorem dX7_unlikeNow_24 : decode cX7_unlikeNow 24 = .ok (.invokevirtual 99, 3) := by decide +kernel
theorem dX7_unlikeNow_27 : decode cX7_unlikeNow 27 = .ok (.if_icmp .ge 16, 3) := by decide +kernel
theorem dX7_unlikeNow_30 : decode cX7_unlikeNow 30 = .ok (.iload_n 2, 1) := by decide +kernel
theorem dX7_unlikeNow_31 : decode cX7_unlikeNow 31 = .ok (.aload_n 0, 1) := by decide +kernel
theorem dX7_unlikeNow_32 : decode cX7_unlikeNow 32 = .ok (.iconst 1, 1) := by decide +kernel
theorem dX7_unlikeNow_33 : decode cX7_unlikeNow 33 = .ok (.invokevirtual 99, 3) := by decide +kernel
theorem dX7_unlikeNow_36 : decode cX7_unlikeNow 36 = .ok (.if_icmp .ge 7, 3) := by decide +kernel
theorem dX7_unlikeNow_39 : decode cX7_unlikeNow 39 = .ok (.iconst 1, 1) := by decide +kernel
theorem dX7_unlikeNow_40 : decode cX7_unlikeNow 40 = .ok (.goto 4, 3) := by decide +kernel
theorem dX7_unlikeNow_43 : decode cX7_unlikeNow 43 = .ok (.iconst 0, 1) := by decide +kernel
theorem dX7_unlikeNow_44 : decode cX7_unlikeNow 44 = .ok (.istore_n 3, 1) := by decide +kernel
theorem dX7_unlikeNow_45 : decode cX7_unlikeNow 45 = .ok (.iload_n 1, 1) := by decide +kernel
theorem dX7_unlikeNow_46 : decode cX7_unlikeNow 46 = .ok (.iload_n 3, 1) := by decide +kernel
theorem dX7_unlikeNow_47 : decode cX7_unlikeNow 47 = .ok (.ifCond .eq 22, 3) := by decide +kernel
theorem dX7_unlikeNow_50 : decode cX7_unlikeNow 50 = .ok (.aload_n 0, 1) := by decide +kernel
theorem dX7_unlikeNow_51 : decode cX7_unlikeNow 51 = .ok (.iconst 0, 1) := by decide +kernel
theorem dX7_unlikeNow_52 : decode cX7_unlikeNow 52 = .ok (.iload_n 2, 1) := by decide +kernel
theorem dX7_unlikeNow_53 : decode cX7_unlikeNow 53 = .ok (.invokevirtual 102, 3) := by decide +kernel
theorem dX7_unlikeNow_56 : decode cX7_unlikeNow 56 = .ok (.aload_n 0, 1) := by decide +kernel
theorem dX7_unlikeNow_57 : decode cX7_unlikeNow 57 = .ok (.iconst 1, 1) := by decide +kernel
theorem dX7_unlikeNow_58 : decode cX7_unlikeNow 58 = .ok (.iload_n 2, 1) := by decide +kernel
theorem dX7_unlikeNow_59 : decode cX7_unlikeNow 59 = .ok (.invokevirtual 102, 3) := by decide +kernel
theorem dX7_unlikeNow_62 : decode cX7_unlikeNow 62 = .ok (.if_icmp .ne 7, 3) := by decide +kernel
theorem dX7_unlikeNow_65 : decode cX7_unlikeNow 65 = .ok (.iconst 0, 1) := by decide +kernel
theorem dX7_unlikeNow_66 : decode cX7_unlikeNow 66 = .ok (.goto 4, 3) := by decide +kernel
theorem dX7_unlikeNow_69 : decode cX7_unlikeNow 69 = .ok (.iconst 1, 1) := by decide +kernel
theorem dX7_unlikeNow_70 : decode cX7_unlikeNow 70 = .ok (.iadd, 1) := by decide +kernel
theorem dX7_unlikeNow_71 : decode cX7_unlikeNow 71 = .ok (.istore_n 1, 1) := by decide +kernel
theorem dX7_unlikeNow_72 : decode cX7_unlikeNow 72 = .ok (.iinc 2 1, 3) := by decide +kernel
theorem dX7_unlikeNow_75 : decode cX7_unlikeNow 75 = .ok (.goto (-71), 3) := by decide +kernel
theorem dX7_unlikeNow_78 : decode cX7_unlikeNow 78 = .ok (.iload_n 1, 1) := by decide +kernel
theorem dX7_unlikeNow_79 : decode cX7_unlikeNow 79 = .ok (.ireturn, 1) := by decide +kernel
theorem dX7_areAlike_0 : decode cX7_areAlike 0 = .ok (.aload_n 0, 1) := by decide +kernel
theorem dX7_areAlike_1 : decode cX7_areAlike 1 = .ok (.iconst 0, 1) := by decide +kernel
theorem dX7_areAlike_2 : decode cX7_areAlike 2 = .ok (.invokevirtual 99, 3) := by decide +kernel
theorem dX7_areAlike_5 : decode cX7_areAlike 5 = .ok (.ifCond .le 14, 3) := by decide +kernel
theorem dX7_areAlike_8 : decode cX7_areAlike 8 = .ok (.aload_n 0, 1) := by decide +kernel
theorem dX7_areAlike_9 : decode cX7_areAlike 9 = .ok (.invokevirtual 116, 3) := by decide +kernel
theorem dX7_areAlike_12 : decode cX7_areAlike 12 = .ok (.ifCond .ne 7, 3) := by decide +kernel
theorem dX7_areAlike_15 : decode cX7_areAlike 15 = .ok (.iconst 1, 1) := by decide +kernel
theorem dX7_areAlike_16 : decode cX7_areAlike 16 = .ok (.goto 4, 3) := by decide +kernel
theorem dX7_areAlike_19 : decode cX7_areAlike 19 = .ok (.iconst 0, 1) := by decide +kernel
theorem dX7_areAlike_20 : decode cX7_areAlike 20 = .ok (.ireturn, 1) := by decide +kernel
theorem dX7_manyOf_0 : decode cX7_manyOf 0 = .ok (.iconst 0, 1) := by decide +kernel
theorem dX7_manyOf_1 : decode cX7_manyOf 1 = .ok (.istore_n 2, 1) := by decide +kernel
theorem dX7_manyOf_2 : decode cX7_manyOf 2 = .ok (.iconst 0, 1) := by decide +kernel
theorem dX7_manyOf_3 : decode cX7_manyOf 3 = .ok (.istore_n 3, 1) := by decide +kernel
theorem dX7_manyOf_4 : decode cX7_manyOf 4 = .ok (.iload_n 3, 1) := by decide +kernel
theorem dX7_manyOf_5 : decode cX7_manyOf 5 = .ok (.aload_n 0, 1) := by decide +kernel
theorem dX7_manyOf_6 : decode cX7_manyOf 6 = .ok (.getfield 9, 3) := by decide +kernel
theorem dX7_manyOf_9 : decode cX7_manyOf 9 = .ok (.iconst 1, 1) := by decide +kernel
theorem dX7_manyOf_10 : decode cX7_manyOf 10 = .ok (.iaload, 1) := by decide +kernel
theorem dX7_manyOf_11 : decode cX7_manyOf 11 = .ok (.if_icmp .ge 27, 3) := by decide +kernel
theorem dX7_manyOf_14 : decode cX7_manyOf 14 = .ok (.iload_n 2, 1) := by decide +kernel
theorem dX7_manyOf_15 : decode cX7_manyOf 15 = .ok (.aload_n 0, 1) := by decide +kernel
theorem dX7_manyOf_16 : decode cX7_manyOf 16 = .ok (.iload_n 3, 1) := by decide +kernel
theorem dX7_manyOf_17 : decode cX7_manyOf 17 = .ok (.iconst 1, 1) := by decide +kernel
theorem dX7_manyOf_18 : decode cX7_manyOf 18 = .ok (.invokevirtual 120, 3) := by decide +kernel
theorem dX7_manyOf_21 : decode cX7_manyOf 21 = .ok (.iload_n 1, 1) := by decide +kernel
theorem dX7_manyOf_22 : decode cX7_manyOf 22 = .ok (.if_icmp .ne 7, 3) := by decide +kernel
theorem dX7_manyOf_25 : decode cX7_manyOf 25 = .ok (.iconst 1, 1) := by decide +kernel
theorem dX7_manyOf_26 : decode cX7_manyOf 26 = .ok (.goto 4, 3) := by decide +kernel
theorem dX7_manyOf_29 : decode cX7_manyOf 29 = .ok (.iconst 0, 1) := by decide +kernel
theorem dX7_manyOf_30 : decode cX7_manyOf 30 = .ok (.iadd, 1) := by decide +kernel
theorem dX7_manyOf_31 : decode cX7_manyOf 31 = .ok (.istore_n 2, 1) := by decide +kernel
theorem dX7_manyOf_32 : decode cX7_manyOf 32 = .ok (.iinc 3 1, 3) := by decide +kernel
theorem dX7_manyOf_35 : decode cX7_manyOf 35 = .ok (.goto (-31), 3) := by decide +kernel
theorem dX7_manyOf_38 : decode cX7_manyOf 38 = .ok (.iload_n 2, 1) := by decide +kernel
theorem dX7_manyOf_39 : decode cX7_manyOf 39 = .ok (.ireturn, 1) := by decide +kernel
theorem dX7_side_0 : decode cX7_side 0 = .ok (.iload_n 1, 1) := by decide +kernel
theorem dX7_side_1 : decode cX7_side 1 = .ok (.invokestatic 91, 3) := by decide +kernel
theorem dX7_side_4 : decode cX7_side 4 = .ok (.ifCond .ne 10, 3) := by decide +kernel
theorem dX7_side_7 : decode cX7_side 7 = .ok (.aload_n 0, 1) := by decide +kernel
theorem dX7_side_8 : decode cX7_side 8 = .ok (.ldc 71, 2) := by decide +kernel
theorem dX7_side_10 : decode cX7_side 10 = .ok (.invokevirtual 77, 3) := by decide +kernel
theorem dX7_side_13 : decode cX7_side 13 = .ok (.ireturn, 1) := by decide +kernel
theorem dX7_side_14 : decode cX7_side 14 = .ok (.iload_n 2, 1) := by decide +kernel
theorem dX7_side_15 : decode cX7_side 15 = .ok (.tableswitch 71 0 4 #[33, 39, 45, 59, 65], 33) := by decide +kernel
theorem dX7_side_48 : decode cX7_side 48 = .ok (.aload_n 0, 1) := by decide +kernel
theorem dX7_side_49 : decode cX7_side 49 = .ok (.iload_n 1, 1) := by decide +kernel
theorem dX7_side_50 : decode cX7_side 50 = .ok (.invokevirtual 99, 3) := by decide +kernel
theorem dX7_side_53 : decode cX7_side 53 = .ok (.ireturn, 1) := by decide +kernel
theorem dX7_side_54 : decode cX7_side 54 = .ok (.aload_n 0, 1) := by decide +kernel
theorem dX7_side_55 : decode cX7_side 55 = .ok (.iload_n 1, 1) := by decide +kernel
theorem dX7_side_56 : decode cX7_side 56 = .ok (.invokevirtual 123, 3) := by decide +kernel
theorem dX7_side_59 : decode cX7_side 59 = .ok (.ireturn, 1) := by decide +kernel
theorem dX7_side_60 : decode cX7_side 60 = .ok (.aload_n 0, 1) := by decide +kernel
theorem dX7_side_61 : decode cX7_side 61 = .ok (.iload_n 1, 1) := by decide +kernel
theorem dX7_side_62 : decode cX7_side 62 = .ok (.invokevirtual 126, 3) := by decide +kernel
theorem dX7_side_65 : decode cX7_side 65 = .ok (.ifCond .eq 7, 3) := by decide +kernel
theorem dX7_side_68 : decode cX7_side 68 = .ok (.iconst 1, 1) := by decide +kernel
theorem dX7_side_69 : decode cX7_side 69 = .ok (.goto 4, 3) := by decide +kernel
theorem dX7_side_72 : decode cX7_side 72 = .ok (.iconst 0, 1) := by decide +kernel
theorem dX7_side_73 : decode cX7_side 73 = .ok (.ireturn, 1) := by decide +kernel
theorem dX7_side_74 : decode cX7_side 74 = .ok (.aload_n 0, 1) := by decide +kernel
theorem dX7_side_75 : decode cX7_side 75 = .ok (.iload_n 1, 1) := by decide +kernel
theorem dX7_side_76 : decode cX7_side 76 = .ok (.invokevirtual 129, 3) := by decide +kernel
theorem dX7_side_79 : decode cX7_side 79 = .ok (.ireturn, 1) := by decide +kernel
theorem dX7_side_80 : decode cX7_side 80 = .ok (.aload_n 0, 1) := by decide +kernel
theorem dX7_side_81 : decode cX7_side 81 = .ok (.iload_n 1, 1) := by decide +kernel
theorem dX7_side_82 : decode cX7_side 82 = .ok (.invokevirtual 132, 3) := by decide +kernel
theorem dX7_side_85 : decode cX7_side 85 = .ok (.ireturn, 1) := by decide +kernel
theorem dX7_side_86 : decode cX7_side 86 = .ok (.aload_n 0, 1) := by decide +kernel
theorem dX7_side_87 : decode cX7_side 87 = .ok (.ldc 71, 2) := by decide +kernel
theorem dX7_side_89 : decode cX7_side 89 = .ok (.invokevirtual 77, 3) := by decide +kernel
theorem dX7_side_92 : decode cX7_side 92 = .ok (.ireturn, 1) := by decide +kernel
theorem dX7_isAttache_0 : decode cX7_isAttache 0 = .ok (.iload_n 1, 1) := by decide +kernel
theorem dX7_isAttache_1 : decode cX7_isAttache 1 = .ok (.iconst 0, 1) := by decide +kernel
theorem dX7_isAttache_2 : decode cX7_isAttache 2 = .ok (.aload_n 0, 1) := by decide +kernel
theorem dX7_isAttache_3 : decode cX7_isAttache 3 = .ok (.getfield 9, 3) := by decide +kernel
theorem dX7_isAttache_6 : decode cX7_isAttache 6 = .ok (.iconst 1, 1) := by decide +kernel
theorem dX7_isAttache_7 : decode cX7_isAttache 7 = .ok (.iaload, 1) := by decide +kernel
theorem dX7_isAttache_8 : decode cX7_isAttache 8 = .ok (.iconst 1, 1) := by decide +kernel
theorem dX7_isAttache_9 : decode cX7_isAttache 9 = .ok (.isub, 1) := by decide +kernel
theorem dX7_isAttache_10 : decode cX7_isAttache 10 = .ok (.invokestatic 81, 3) := by decide +kernel
theorem dX7_isAttache_13 : decode cX7_isAttache 13 = .ok (.ireturn, 1) := by decide +kernel
theorem dX7_attacheAt_0 : decode cX7_attacheAt 0 = .ok (.bipush 28, 2) := by decide +kernel
theorem dX7_attacheAt_2 : decode cX7_attacheAt 2 = .ok (.iconst 5, 1) := by decide +kernel
theorem dX7_attacheAt_3 : decode cX7_attacheAt 3 = .ok (.iload_n 0, 1) := by decide +kernel
theorem dX7_attacheAt_4 : decode cX7_attacheAt 4 = .ok (.imul, 1) := by decide +kernel
theorem dX7_attacheAt_5 : decode cX7_attacheAt 5 = .ok (.iadd, 1) := by decide +kernel
theorem dX7_attacheAt_6 : decode cX7_attacheAt 6 = .ok (.iload_n 1, 1) := by decide +kernel
theorem dX7_attacheAt_7 : decode cX7_attacheAt 7 = .ok (.iadd, 1) := by decide +kernel
theorem dX7_attacheAt_8 : decode cX7_attacheAt 8 = .ok (.ireturn, 1) := by decide +kernel
theorem dX7_attacheIs_0 : decode cX7_attacheIs 0 = .ok (.aload_n 0, 1) := by decide +kernel
theorem dX7_attacheIs_1 : decode cX7_attacheIs 1 = .ok (.getfield 9, 3) := by decide +kernel
theorem dX7_attacheIs_4 : decode cX7_attacheIs 4 = .ok (.iload_n 1, 1) := by decide +kernel
theorem dX7_attacheIs_5 : decode cX7_attacheIs 5 = .ok (.iload_n 2, 1) := by decide +kernel
theorem dX7_attacheIs_6 : decode cX7_attacheIs 6 = .ok (.invokestatic 135, 3) := by decide +kernel
theorem dX7_attacheIs_9 : decode cX7_attacheIs 9 = .ok (.iaload, 1) := by decide +kernel
theorem dX7_attacheIs_10 : decode cX7_attacheIs 10 = .ok (.ireturn, 1) := by decide +kernel
theorem dX7_isKind_0 : decode cX7_isKind 0 = .ok (.iload_n 0, 1) := by decide +kernel
theorem dX7_isKind_1 : decode cX7_isKind 1 = .ok (.iconst 0, 1) := by decide +kernel
theorem dX7_isKind_2 : decode cX7_isKind 2 = .ok (.iconst 5, 1) := by decide +kernel
theorem dX7_isKind_3 : decode cX7_isKind 3 = .ok (.invokestatic 81, 3) := by decide +kernel
theorem dX7_isKind_6 : decode cX7_isKind 6 = .ok (.ireturn, 1) := by decide +kernel
theorem dX7_isTone_0 : decode cX7_isTone 0 = .ok (.lload_n 0, 1) := by decide +kernel
theorem dX7_isTone_1 : decode cX7_isTone 1 = .ok (.lconst 0, 1) := by decide +kernel
theorem dX7_isTone_2 : decode cX7_isTone 2 = .ok (.lcmp, 1) := by decide +kernel
theorem dX7_isTone_3 : decode cX7_isTone 3 = .ok (.ifCond .lt 15, 3) := by decide +kernel
theorem dX7_isTone_6 : decode cX7_isTone 6 = .ok (.lload_n 0, 1) := by decide +kernel
theorem dX7_isTone_7 : decode cX7_isTone 7 = .ok (.ldc2_w 138, 3) := by decide +kernel
theorem dX7_isTone_10 : decode cX7_isTone 10 = .ok (.lcmp, 1) := by decide +kernel
theorem dX7_isTone_11 : decode cX7_isTone 11 = .ok (.ifCond .ge 7, 3) := by decide +kernel
theorem dX7_isTone_14 : decode cX7_isTone 14 = .ok (.iconst 1, 1) := by decide +kernel
theorem dX7_isTone_15 : decode cX7_isTone 15 = .ok (.goto 4, 3) := by decide +kernel
theorem dX7_isTone_18 : decode cX7_isTone 18 = .ok (.iconst 0, 1) := by decide +kernel
theorem dX7_isTone_19 : decode cX7_isTone 19 = .ok (.ireturn, 1) := by decide +kernel
theorem dX7_comes_0 : decode cX7_comes 0 = .ok (.aload_n 0, 1) := by decide +kernel
theorem dX7_comes_1 : decode cX7_comes 1 = .ok (.getfield 9, 3) := by decide +kernel
theorem dX7_comes_4 : decode cX7_comes 4 = .ok (.iconst 1, 1) := by decide +kernel
theorem dX7_comes_5 : decode cX7_comes 5 = .ok (.iaload, 1) := by decide +kernel
theorem dX7_comes_6 : decode cX7_comes 6 = .ok (.istore 5, 2) := by decide +kernel
theorem dX7_comes_8 : decode cX7_comes 8 = .ok (.aload_n 0, 1) := by decide +kernel
theorem dX7_comes_9 : decode cX7_comes 9 = .ok (.getfield 9, 3) := by decide +kernel
theorem dX7_comes_12 : decode cX7_comes 12 = .ok (.iload 5, 2) := by decide +kernel
theorem dX7_comes_14 : decode cX7_comes 14 = .ok (.iconst 0, 1) := by decide +kernel
theorem dX7_comes_15 : decode cX7_comes 15 = .ok (.invokestatic 135, 3) := by decide +kernel
theorem dX7_comes_18 : decode cX7_comes 18 = .ok (.iload_n 1, 1) := by decide +kernel
theorem dX7_comes_19 : decode cX7_comes 19 = .ok (.iastore, 1) := by decide +kernel
theorem dX7_comes_20 : decode cX7_comes 20 = .ok (.aload_n 0, 1) := by decide +kernel
theorem dX7_comes_21 : decode cX7_comes 21 = .ok (.getfield 9, 3) := by decide +kernel
theorem dX7_comes_24 : decode cX7_comes 24 = .ok (.iload 5, 2) := by decide +kernel
theorem dX7_comes_26 : decode cX7_comes 26 = .ok (.iconst 1, 1) := by decide +kernel
theorem dX7_comes_27 : decode cX7_comes 27 = .ok (.invokestatic 135, 3) := by decide +kernel
theorem dX7_comes_30 : decode cX7_comes 30 = .ok (.iload_n 2, 1) := by decide +kernel
theorem dX7_comes_31 : decode cX7_comes 31 = .ok (.iastore, 1) := by decide +kernel
theorem dX7_comes_32 : decode cX7_comes 32 = .ok (.aload_n 0, 1) := by decide +kernel
theorem dX7_comes_33 : decode cX7_comes 33 = .ok (.getfield 9, 3) := by decide +kernel
theorem dX7_comes_36 : decode cX7_comes 36 = .ok (.iload 5, 2) := by decide +kernel
theorem dX7_comes_38 : decode cX7_comes 38 = .ok (.iconst 2, 1) := by decide +kernel
theorem dX7_comes_39 : decode cX7_comes 39 = .ok (.invokestatic 135, 3) := by decide +kernel
theorem dX7_comes_42 : decode cX7_comes 42 = .ok (.iload_n 3, 1) := by decide +kernel
theorem dX7_comes_43 : decode cX7_comes 43 = .ok (.iastore, 1) := by decide +kernel
theorem dX7_comes_44 : decode cX7_comes 44 = .ok (.aload_n 0, 1) := by decide +kernel
theorem dX7_comes_45 : decode cX7_comes 45 = .ok (.getfield 9, 3) := by decide +kernel
theorem dX7_comes_48 : decode cX7_comes 48 = .ok (.iload 5, 2) := by decide +kernel
theorem dX7_comes_50 : decode cX7_comes 50 = .ok (.iconst 3, 1) := by decide +kernel
theorem dX7_comes_51 : decode cX7_comes 51 = .ok (.invokestatic 135, 3) := by decide +kernel
theorem dX7_comes_54 : decode cX7_comes 54 = .ok (.iload 4, 2) := by decide +kernel
theorem dX7_comes_56 : decode cX7_comes 56 = .ok (.iastore, 1) := by decide +kernel
theorem dX7_comes_57 : decode cX7_comes 57 = .ok (.aload_n 0, 1) := by decide +kernel
theorem dX7_comes_58 : decode cX7_comes 58 = .ok (.getfield 9, 3) := by decide +kernel
theorem dX7_comes_61 : decode cX7_comes 61 = .ok (.iload 5, 2) := by decide +kernel
theorem dX7_comes_63 : decode cX7_comes 63 = .ok (.iconst 4, 1) := by decide +kernel
theorem dX7_comes_64 : decode cX7_comes 64 = .ok (.invokestatic 135, 3) := by decide +kernel
theorem dX7_comes_67 : decode cX7_comes 67 = .ok (.iconst 0, 1) := by decide +kernel
theorem dX7_comes_68 : decode cX7_comes 68 = .ok (.iastore, 1) := by decide +kernel
theorem dX7_comes_69 : decode cX7_comes 69 = .ok (.aload_n 0, 1) := by decide +kernel
theorem dX7_comes_70 : decode cX7_comes 70 = .ok (.getfield 9, 3) := by decide +kernel
theorem dX7_comes_73 : decode cX7_comes 73 = .ok (.iconst 1, 1) := by decide +kernel
theorem dX7_comes_74 : decode cX7_comes 74 = .ok (.dup2, 1) := by decide +kernel
theorem dX7_comes_75 : decode cX7_comes 75 = .ok (.iaload, 1) := by decide +kernel
theorem dX7_comes_76 : decode cX7_comes 76 = .ok (.iconst 1, 1) := by decide +kernel
theorem dX7_comes_77 : decode cX7_comes 77 = .ok (.iadd, 1) := by decide +kernel
theorem dX7_comes_78 : decode cX7_comes 78 = .ok (.iastore, 1) := by decide +kernel
theorem dX7_comes_79 : decode cX7_comes 79 = .ok (.iload 5, 2) := by decide +kernel
theorem dX7_comes_81 : decode cX7_comes 81 = .ok (.ireturn, 1) := by decide +kernel
theorem dX7_attache_0 : decode cX7_attache 0 = .ok (.iload_n 1, 1) := by decide +kernel
theorem dX7_attache_1 : decode cX7_attache 1 = .ok (.invokestatic 140, 3) := by decide +kernel
theorem dX7_attache_4 : decode cX7_attache 4 = .ok (.ifCond .eq 10, 3) := by decide +kernel
theorem dX7_attache_7 : decode cX7_attache 7 = .ok (.iload_n 2, 1) := by decide +kernel
theorem dX7_attache_8 : decode cX7_attache 8 = .ok (.invokestatic 91, 3) := by decide +kernel
theorem dX7_attache_11 : decode cX7_attache 11 = .ok (.ifCond .ne 10, 3) := by decide +kernel
theorem dX7_attache_14 : decode cX7_attache 14 = .ok (.aload_n 0, 1) := by decide +kernel
theorem dX7_attache_15 : decode cX7_attache 15 = .ok (.ldc 71, 2) := by decide +kernel
theorem dX7_attache_17 : decode cX7_attache 17 = .ok (.invokevirtual 77, 3) := by decide +kernel
theorem dX7_attache_20 : decode cX7_attache 20 = .ok (.ireturn, 1) := by decide +kernel
theorem dX7_attache_21 : decode cX7_attache 21 = .ok (.aload_n 0, 1) := by decide +kernel
theorem dX7_attache_22 : decode cX7_attache 22 = .ok (.getfield 9, 3) := by decide +kernel
theorem dX7_attache_25 : decode cX7_attache 25 = .ok (.iconst 1, 1) := by decide +kernel
theorem dX7_attache_26 : decode cX7_attache 26 = .ok (.iaload, 1) := by decide +kernel
theorem dX7_attache_27 : decode cX7_attache 27 = .ok (.bipush 8, 2) := by decide +kernel
theorem dX7_attache_29 : decode cX7_attache 29 = .ok (.if_icmp .ne 12, 3) := by decide +kernel
theorem dX7_attache_32 : decode cX7_attache 32 = .ok (.aload_n 0, 1) := by decide +kernel
theorem dX7_attache_33 : decode cX7_attache 33 = .ok (.ldc 143, 2) := by decide +kernel
theorem dX7_attache_35 : decode cX7_attache 35 = .ok (.invokevirtual 77, 3) := by decide +kernel
theorem dX7_attache_38 : decode cX7_attache 38 = .ok (.goto 11, 3) := by decide +kernel
theorem dX7_attache_41 : decode cX7_attache 41 = .ok (.aload_n 0, 1) := by decide +kernel
theorem dX7_attache_42 : decode cX7_attache 42 = .ok (.iload_n 1, 1) := by decide +kernel
theorem dX7_attache_43 : decode cX7_attache 43 = .ok (.iload_n 2, 1) := by decide +kernel
theorem dX7_attache_44 : decode cX7_attache 44 = .ok (.iconst 0, 1) := by decide +kernel
theorem dX7_attache_45 : decode cX7_attache 45 = .ok (.iconst 0, 1) := by decide +kernel
theorem dX7_attache_46 : decode cX7_attache 46 = .ok (.invokevirtual 144, 3) := by decide +kernel
theorem dX7_attache_49 : decode cX7_attache 49 = .ok (.ireturn, 1) := by decide +kernel
theorem dX7_longOf_0 : decode cX7_longOf 0 = .ok (.iload_n 0, 1) := by decide +kernel
theorem dX7_longOf_1 : decode cX7_longOf 1 = .ok (.iconst 3, 1) := by decide +kernel
theorem dX7_longOf_2 : decode cX7_longOf 2 = .ok (.if_icmp .ne 15, 3) := by decide +kernel
theorem dX7_longOf_5 : decode cX7_longOf 5 = .ok (.iload_n 1, 1) := by decide +kernel
theorem dX7_longOf_6 : decode cX7_longOf 6 = .ok (.bipush 6, 2) := by decide +kernel
theorem dX7_longOf_8 : decode cX7_longOf 8 = .ok (.if_icmp .le 9, 3) := by decide +kernel
theorem dX7_longOf_11 : decode cX7_longOf 11 = .ok (.iload_n 1, 1) := by decide +kernel
theorem dX7_longOf_12 : decode cX7_longOf 12 = .ok (.iconst 1, 1) := by decide +kernel
theorem dX7_longOf_13 : decode cX7_longOf 13 = .ok (.isub, 1) := by decide +kernel
theorem dX7_longOf_14 : decode cX7_longOf 14 = .ok (.goto 4, 3) := by decide +kernel
theorem dX7_longOf_17 : decode cX7_longOf 17 = .ok (.iload_n 1, 1) := by decide +kernel
theorem dX7_longOf_18 : decode cX7_longOf 18 = .ok (.ireturn, 1) := by decide +kernel
theorem dX7_answers_0 : decode cX7_answers 0 = .ok (.aload_n 0, 1) := by decide +kernel
theorem dX7_answers_1 : decode cX7_answers 1 = .ok (.iload 4, 2) := by decide +kernel
theorem dX7_answers_3 : decode cX7_answers 3 = .ok (.invokevirtual 99, 3) := by decide +kernel
theorem dX7_answers_6 : decode cX7_answers 6 = .ok (.iconst 1, 1) := by decide +kernel
theorem dX7_answers_7 : decode cX7_answers 7 = .ok (.isub, 1) := by decide +kernel
theorem dX7_answers_8 : decode cX7_answers 8 = .ok (.istore 6, 2) := by decide +kernel
theorem dX7_answers_10 : decode cX7_answers 10 = .ok (.iload_n 2, 1) := by decide +kernel
theorem dX7_answers_11 : decode cX7_answers 11 = .ok (.bipush 6, 2) := by decide +kernel
theorem dX7_answers_13 : decode cX7_answers 13 = .ok (.iload_n 3, 1) := by decide +kernel
theorem dX7_answers_14 : decode cX7_answers 14 = .ok (.iload 5, 2) := by decide +kernel
theorem dX7_answers_16 : decode cX7_answers 16 = .ok (.ishr, 1) := by decide +kernel
theorem dX7_answers_17 : decode cX7_answers 17 = .ok (.iconst 1, 1) := by decide +kernel
theorem dX7_answers_18 : decode cX7_answers 18 = .ok (.iand, 1) := by decide +kernel
theorem dX7_answers_19 : decode cX7_answers 19 = .ok (.imul, 1) := by decide +kernel
theorem dX7_answers_20 : decode cX7_answers 20 = .ok (.iadd, 1) := by decide +kernel
theorem dX7_answers_21 : decode cX7_answers 21 = .ok (.istore 7, 2) := by decide +kernel
theorem dX7_answers_23 : decode cX7_answers 23 = .ok (.iload_n 1, 1) := by decide +kernel
theorem dX7_answers_24 : decode cX7_answers 24 = .ok (.tableswitch 150 1 5 #[36, 62, 81, 96, 126], 36) := by decide +kernel
theorem dX7_answers_60 : decode cX7_answers 60 = .ok (.iload 7, 2) := by decide +kernel
theorem dX7_answers_62 : decode cX7_answers 62 = .ok (.iconst 2, 1) := by decide +kernel
theorem dX7_answers_63 : decode cX7_answers 63 = .ok (.aload_n 0, 1) := by decide +kernel
theorem dX7_answers_64 : decode cX7_answers 64 = .ok (.iload 4, 2) := by decide +kernel
theorem dX7_answers_66 : decode cX7_answers 66 = .ok (.iconst 0, 1) := by decide +kernel
theorem dX7_answers_67 : decode cX7_answers 67 = .ok (.invokevirtual 102, 3) := by decide +kernel
theorem dX7_answers_70 : decode cX7_answers 70 = .ok (.imul, 1) := by decide +kernel
theorem dX7_answers_71 : decode cX7_answers 71 = .ok (.aload_n 0, 1) := by decide +kernel
theorem dX7_answers_72 : decode cX7_answers 72 = .ok (.iload 4, 2) := by decide +kernel
theorem dX7_answers_74 : decode cX7_answers 74 = .ok (.iload 5, 2) := by decide +kernel
theorem dX7_answers_76 : decode cX7_answers 76 = .ok (.invokevirtual 102, 3) := by decide +kernel
theorem dX7_answers_79 : decode cX7_answers 79 = .ok (.isub, 1) := by decide +kernel
theorem dX7_answers_80 : decode cX7_answers 80 = .ok (.iadd, 1) := by decide +kernel
theorem dX7_answers_81 : decode cX7_answers 81 = .ok (.istore 7, 2) := by decide +kernel
theorem dX7_answers_83 : decode cX7_answers 83 = .ok (.goto 104, 3) := by decide +kernel
theorem dX7_answers_86 : decode cX7_answers 86 = .ok (.iload 7, 2) := by decide +kernel
theorem dX7_answers_88 : decode cX7_answers 88 = .ok (.aload_n 0, 1) := by decide +kernel
theorem dX7_answers_89 : decode cX7_answers 89 = .ok (.iload 4, 2) := by decide +kernel
theorem dX7_answers_91 : decode cX7_answers 91 = .ok (.iload 6, 2) := by decide +kernel
theorem dX7_answers_93 : decode cX7_answers 93 = .ok (.iload 5, 2) := by decide +kernel
theorem dX7_answers_95 : decode cX7_answers 95 = .ok (.isub, 1) := by decide +kernel
theorem dX7_answers_96 : decode cX7_answers 96 = .ok (.invokevirtual 102, 3) := by decide +kernel
theorem dX7_answers_99 : decode cX7_answers 99 = .ok (.iadd, 1) := by decide +kernel
theorem dX7_answers_100 : decode cX7_answers 100 = .ok (.istore 7, 2) := by decide +kernel
theorem dX7_answers_102 : decode cX7_answers 102 = .ok (.goto 85, 3) := by decide +kernel
theorem dX7_answers_105 : decode cX7_answers 105 = .ok (.iload 7, 2) := by decide +kernel
theorem dX7_answers_107 : decode cX7_answers 107 = .ok (.aload_n 0, 1) := by decide +kernel
theorem dX7_answers_108 : decode cX7_answers 108 = .ok (.iload 4, 2) := by decide +kernel
theorem dX7_answers_110 : decode cX7_answers 110 = .ok (.iconst 0, 1) := by decide +kernel
theorem dX7_answers_111 : decode cX7_answers 111 = .ok (.invokevirtual 102, 3) := by decide +kernel
theorem dX7_answers_114 : decode cX7_answers 114 = .ok (.iadd, 1) := by decide +kernel
theorem dX7_answers_115 : decode cX7_answers 115 = .ok (.istore 7, 2) := by decide +kernel
theorem dX7_answers_117 : decode cX7_answers 117 = .ok (.goto 70, 3) := by decide +kernel
theorem dX7_answers_120 : decode cX7_answers 120 = .ok (.iload 7, 2) := by decide +kernel
theorem dX7_answers_122 : decode cX7_answers 122 = .ok (.iconst 2, 1) := by decide +kernel
theorem dX7_answers_123 : decode cX7_answers 123 = .ok (.aload_n 0, 1) := by decide +kernel
theorem dX7_answers_124 : decode cX7_answers 124 = .ok (.iload 4, 2) := by decide +kernel
theorem dX7_answers_126 : decode cX7_answers 126 = .ok (.iload 6, 2) := by decide +kernel
theorem dX7_answers_128 : decode cX7_answers 128 = .ok (.invokevirtual 102, 3) := by decide +kernel
theorem dX7_answers_131 : decode cX7_answers 131 = .ok (.imul, 1) := by decide +kernel
theorem dX7_answers_132 : decode cX7_answers 132 = .ok (.aload_n 0, 1) := by decide +kernel
theorem dX7_answers_133 : decode cX7_answers 133 = .ok (.iload 4, 2) := by decide +kernel
theorem dX7_answers_135 : decode cX7_answers 135 = .ok (.iload 6, 2) := by decide +kernel
theorem dX7_answers_137 : decode cX7_answers 137 = .ok (.iload 5, 2) := by decide +kernel
theorem dX7_answers_139 : decode cX7_answers 139 = .ok (.isub, 1) := by decide +kernel
theorem dX7_answers_140 : decode cX7_answers 140 = .ok (.invokevirtual 102, 3) := by decide +kernel
theorem dX7_answers_143 : decode cX7_answers 143 = .ok (.isub, 1) := by decide +kernel
theorem dX7_answers_144 : decode cX7_answers 144 = .ok (.iadd, 1) := by decide +kernel
theorem dX7_answers_145 : decode cX7_answers 145 = .ok (.istore 7, 2) := by decide +kernel
theorem dX7_answers_147 : decode cX7_answers 147 = .ok (.goto 40, 3) := by decide +kernel
theorem dX7_answers_150 : decode cX7_answers 150 = .ok (.iload 7, 2) := by decide +kernel
theorem dX7_answers_152 : decode cX7_answers 152 = .ok (.aload_n 0, 1) := by decide +kernel
theorem dX7_answers_153 : decode cX7_answers 153 = .ok (.iload 4, 2) := by decide +kernel
theorem dX7_answers_155 : decode cX7_answers 155 = .ok (.iload 6, 2) := by decide +kernel
theorem dX7_answers_157 : decode cX7_answers 157 = .ok (.iload 5, 2) := by decide +kernel
theorem dX7_answers_159 : decode cX7_answers 159 = .ok (.isub, 1) := by decide +kernel
theorem dX7_answers_160 : decode cX7_answers 160 = .ok (.invokevirtual 102, 3) := by decide +kernel
theorem dX7_answers_163 : decode cX7_answers 163 = .ok (.iload 5, 2) := by decide +kernel
theorem dX7_answers_165 : decode cX7_answers 165 = .ok (.iconst 2, 1) := by decide +kernel
theorem dX7_answers_166 : decode cX7_answers 166 = .ok (.irem, 1) := by decide +kernel
theorem dX7_answers_167 : decode cX7_answers 167 = .ok (.iadd, 1) := by decide +kernel
theorem dX7_answers_168 : decode cX7_answers 168 = .ok (.iadd, 1) := by decide +kernel
theorem dX7_answers_169 : decode cX7_answers 169 = .ok (.istore 7, 2) := by decide +kernel
theorem dX7_answers_171 : decode cX7_answers 171 = .ok (.goto 16, 3) := by decide +kernel
theorem dX7_answers_174 : decode cX7_answers 174 = .ok (.iload 7, 2) := by decide +kernel
theorem dX7_answers_176 : decode cX7_answers 176 = .ok (.aload_n 0, 1) := by decide +kernel
theorem dX7_answers_177 : decode cX7_answers 177 = .ok (.iload 4, 2) := by decide +kernel
theorem dX7_answers_179 : decode cX7_answers 179 = .ok (.iload 5, 2) := by decide +kernel
theorem dX7_answers_181 : decode cX7_answers 181 = .ok (.invokevirtual 102, 3) := by decide +kernel
theorem dX7_answers_184 : decode cX7_answers 184 = .ok (.iadd, 1) := by decide +kernel
theorem dX7_answers_185 : decode cX7_answers 185 = .ok (.istore 7, 2) := by decide +kernel
theorem dX7_answers_187 : decode cX7_answers 187 = .ok (.iload 7, 2) := by decide +kernel
theorem dX7_answers_189 : decode cX7_answers 189 = .ok (.bipush 12, 2) := by decide +kernel
theorem dX7_answers_191 : decode cX7_answers 191 = .ok (.iadd, 1) := by decide +kernel
theorem dX7_answers_192 : decode cX7_answers 192 = .ok (.bipush 12, 2) := by decide +kernel
theorem dX7_answers_194 : decode cX7_answers 194 = .ok (.irem, 1) := by decide +kernel
theorem dX7_answers_195 : decode cX7_answers 195 = .ok (.ireturn, 1) := by decide +kernel
theorem dX7_answerAt_0 : decode cX7_answerAt 0 = .ok (.aload_n 0, 1) := by decide +kernel
theorem dX7_answerAt_1 : decode cX7_answerAt 1 = .ok (.aload_n 0, 1) := by decide +kernel
theorem dX7_answerAt_2 : decode cX7_answerAt 2 = .ok (.iload_n 1, 1) := by decide +kernel
theorem dX7_answerAt_3 : decode cX7_answerAt 3 = .ok (.iconst 0, 1) := by decide +kernel
theorem dX7_answerAt_4 : decode cX7_answerAt 4 = .ok (.invokevirtual 120, 3) := by decide +kernel
theorem dX7_answerAt_7 : decode cX7_answerAt 7 = .ok (.aload_n 0, 1) := by decide +kernel
theorem dX7_answerAt_8 : decode cX7_answerAt 8 = .ok (.iload_n 1, 1) := by decide +kernel
theorem dX7_answerAt_9 : decode cX7_answerAt 9 = .ok (.iconst 2, 1) := by decide +kernel
theorem dX7_answerAt_10 : decode cX7_answerAt 10 = .ok (.invokevirtual 120, 3) := by decide +kernel
theorem dX7_answerAt_13 : decode cX7_answerAt 13 = .ok (.aload_n 0, 1) := by decide +kernel
theorem dX7_answerAt_14 : decode cX7_answerAt 14 = .ok (.iload_n 1, 1) := by decide +kernel
theorem dX7_answerAt_15 : decode cX7_answerAt 15 = .ok (.iconst 3, 1) := by decide +kernel
theorem dX7_answerAt_16 : decode cX7_answerAt 16 = .ok (.invokevirtual 120, 3) := by decide +kernel
theorem dX7_answerAt_19 : decode cX7_answerAt 19 = .ok (.iconst 1, 1) := by decide +kernel
theorem dX7_answerAt_20 : decode cX7_answerAt 20 = .ok (.aload_n 0, 1) := by decide +kernel
theorem dX7_answerAt_21 : decode cX7_answerAt 21 = .ok (.iload_n 1, 1) := by decide +kernel
theorem dX7_answerAt_22 : decode cX7_answerAt 22 = .ok (.iconst 1, 1) := by decide +kernel
theorem dX7_answerAt_23 : decode cX7_answerAt 23 = .ok (.invokevirtual 120, 3) := by decide +kernel
theorem dX7_answerAt_26 : decode cX7_answerAt 26 = .ok (.isub, 1) := by decide +kernel
theorem dX7_answerAt_27 : decode cX7_answerAt 27 = .ok (.iload_n 2, 1) := by decide +kernel
theorem dX7_answerAt_28 : decode cX7_answerAt 28 = .ok (.invokevirtual 148, 3) := by decide +kernel
theorem dX7_answerAt_31 : decode cX7_answerAt 31 = .ok (.ireturn, 1) := by decide +kernel
theorem dX7_longNow_0 : decode cX7_longNow 0 = .ok (.aload_n 0, 1) := by decide +kernel
theorem dX7_longNow_1 : decode cX7_longNow 1 = .ok (.iload_n 1, 1) := by decide +kernel
theorem dX7_longNow_2 : decode cX7_longNow 2 = .ok (.iconst 0, 1) := by decide +kernel
theorem dX7_longNow_3 : decode cX7_longNow 3 = .ok (.invokevirtual 120, 3) := by decide +kernel
theorem dX7_longNow_6 : decode cX7_longNow 6 = .ok (.aload_n 0, 1) := by decide +kernel
theorem dX7_longNow_7 : decode cX7_longNow 7 = .ok (.iconst 1, 1) := by decide +kernel
theorem dX7_longNow_8 : decode cX7_longNow 8 = .ok (.aload_n 0, 1) := by decide +kernel
theorem dX7_longNow_9 : decode cX7_longNow 9 = .ok (.iload_n 1, 1) := by decide +kernel
theorem dX7_longNow_10 : decode cX7_longNow 10 = .ok (.iconst 1, 1) := by decide +kernel
theorem dX7_longNow_11 : decode cX7_longNow 11 = .ok (.invokevirtual 120, 3) := by decide +kernel
theorem dX7_longNow_14 : decode cX7_longNow 14 = .ok (.isub, 1) := by decide +kernel
theorem dX7_longNow_15 : decode cX7_longNow 15 = .ok (.invokevirtual 99, 3) := by decide +kernel
theorem dX7_longNow_18 : decode cX7_longNow 18 = .ok (.invokestatic 152, 3) := by decide +kernel
theorem dX7_longNow_21 : decode cX7_longNow 21 = .ok (.ireturn, 1) := by decide +kernel
theorem dX7_of_0 : decode cX7_of 0 = .ok (.aload_n 0, 1) := by decide +kernel
theorem dX7_of_1 : decode cX7_of 1 = .ok (.iload_n 1, 1) := by decide +kernel
theorem dX7_of_2 : decode cX7_of 2 = .ok (.invokevirtual 155, 3) := by decide +kernel
theorem dX7_of_5 : decode cX7_of 5 = .ok (.ifCond .eq 12, 3) := by decide +kernel
theorem dX7_of_8 : decode cX7_of 8 = .ok (.iload_n 2, 1) := by decide +kernel
theorem dX7_of_9 : decode cX7_of 9 = .ok (.iconst 0, 1) := by decide +kernel
theorem dX7_of_10 : decode cX7_of 10 = .ok (.iconst 5, 1) := by decide +kernel
theorem dX7_of_11 : decode cX7_of 11 = .ok (.invokestatic 81, 3) := by decide +kernel
theorem dX7_of_14 : decode cX7_of 14 = .ok (.ifCond .ne 10, 3) := by decide +kernel
theorem dX7_of_17 : decode cX7_of 17 = .ok (.aload_n 0, 1) := by decide +kernel
theorem dX7_of_18 : decode cX7_of 18 = .ok (.ldc 71, 2) := by decide +kernel
theorem dX7_of_20 : decode cX7_of 20 = .ok (.invokevirtual 77, 3) := by decide +kernel
theorem dX7_of_23 : decode cX7_of 23 = .ok (.ireturn, 1) := by decide +kernel
theorem dX7_of_24 : decode cX7_of 24 = .ok (.iload_n 2, 1) := by decide +kernel
theorem dX7_of_25 : decode cX7_of 25 = .ok (.iconst 5, 1) := by decide +kernel
theorem dX7_of_26 : decode cX7_of 26 = .ok (.if_icmp .ge 12, 3) := by decide +kernel
theorem dX7_of_29 : decode cX7_of 29 = .ok (.aload_n 0, 1) := by decide +kernel
theorem dX7_of_30 : decode cX7_of 30 = .ok (.iload_n 1, 1) := by decide +kernel
theorem dX7_of_31 : decode cX7_of 31 = .ok (.iload_n 2, 1) := by decide +kernel
theorem dX7_of_32 : decode cX7_of 32 = .ok (.invokevirtual 120, 3) := by decide +kernel
theorem dX7_of_35 : decode cX7_of 35 = .ok (.goto 8, 3) := by decide +kernel
theorem dX7_of_38 : decode cX7_of 38 = .ok (.aload_n 0, 1) := by decide +kernel
theorem dX7_of_39 : decode cX7_of 39 = .ok (.iload_n 1, 1) := by decide +kernel
theorem dX7_of_40 : decode cX7_of 40 = .ok (.invokevirtual 158, 3) := by decide +kernel
theorem dX7_of_43 : decode cX7_of 43 = .ok (.ireturn, 1) := by decide +kernel
theorem dX7_answer_0 : decode cX7_answer 0 = .ok (.aload_n 0, 1) := by decide +kernel
theorem dX7_answer_1 : decode cX7_answer 1 = .ok (.iload_n 1, 1) := by decide +kernel
theorem dX7_answer_2 : decode cX7_answer 2 = .ok (.invokevirtual 155, 3) := by decide +kernel
theorem dX7_answer_5 : decode cX7_answer 5 = .ok (.ifCond .eq 7, 3) := by decide +kernel
theorem dX7_answer_8 : decode cX7_answer 8 = .ok (.iload_n 2, 1) := by decide +kernel
theorem dX7_answer_9 : decode cX7_answer 9 = .ok (.ifCond .ge 10, 3) := by decide +kernel
theorem dX7_answer_12 : decode cX7_answer 12 = .ok (.aload_n 0, 1) := by decide +kernel
theorem dX7_answer_13 : decode cX7_answer 13 = .ok (.ldc 71, 2) := by decide +kernel
theorem dX7_answer_15 : decode cX7_answer 15 = .ok (.invokevirtual 77, 3) := by decide +kernel
theorem dX7_answer_18 : decode cX7_answer 18 = .ok (.ireturn, 1) := by decide +kernel
theorem dX7_answer_19 : decode cX7_answer 19 = .ok (.iload_n 2, 1) := by decide +kernel
theorem dX7_answer_20 : decode cX7_answer 20 = .ok (.aload_n 0, 1) := by decide +kernel
theorem dX7_answer_21 : decode cX7_answer 21 = .ok (.iload_n 1, 1) := by decide +kernel
theorem dX7_answer_22 : decode cX7_answer 22 = .ok (.invokevirtual 158, 3) := by decide +kernel
theorem dX7_answer_25 : decode cX7_answer 25 = .ok (.if_icmp .ge 12, 3) := by decide +kernel
theorem dX7_answer_28 : decode cX7_answer 28 = .ok (.aload_n 0, 1) := by decide +kernel
theorem dX7_answer_29 : decode cX7_answer 29 = .ok (.iload_n 1, 1) := by decide +kernel
theorem dX7_answer_30 : decode cX7_answer 30 = .ok (.iload_n 2, 1) := by decide +kernel
theorem dX7_answer_31 : decode cX7_answer 31 = .ok (.invokevirtual 161, 3) := by decide +kernel
theorem dX7_answer_34 : decode cX7_answer 34 = .ok (.goto 9, 3) := by decide +kernel
theorem dX7_answer_37 : decode cX7_answer 37 = .ok (.aload_n 0, 1) := by decide +kernel
theorem dX7_answer_38 : decode cX7_answer 38 = .ok (.ldc 76, 2) := by decide +kernel
theorem dX7_answer_40 : decode cX7_answer 40 = .ok (.invokevirtual 77, 3) := by decide +kernel
theorem dX7_answer_43 : decode cX7_answer 43 = .ok (.ireturn, 1) := by decide +kernel
theorem dX7_set_0 : decode cX7_set 0 = .ok (.iload_n 2, 1) := by decide +kernel
theorem dX7_set_1 : decode cX7_set 1 = .ok (.iconst 1, 1) := by decide +kernel
theorem dX7_set_2 : decode cX7_set 2 = .ok (.if_icmp .ne 7, 3) := by decide +kernel
theorem dX7_set_5 : decode cX7_set 5 = .ok (.iconst 1, 1) := by decide +kernel
theorem dX7_set_6 : decode cX7_set 6 = .ok (.goto 36, 3) := by decide +kernel
theorem dX7_set_9 : decode cX7_set 9 = .ok (.iload_n 2, 1) := by decide +kernel
theorem dX7_set_10 : decode cX7_set 10 = .ok (.iconst 2, 1) := by decide +kernel
theorem dX7_set_11 : decode cX7_set 11 = .ok (.if_icmp .ne 8, 3) := by decide +kernel
theorem dX7_set_14 : decode cX7_set 14 = .ok (.bipush 11, 2) := by decide +kernel
theorem dX7_set_16 : decode cX7_set 16 = .ok (.goto 26, 3) := by decide +kernel
theorem dX7_set_19 : decode cX7_set 19 = .ok (.iload_n 2, 1) := by decide +kernel
theorem dX7_set_20 : decode cX7_set 20 = .ok (.iconst 3, 1) := by decide +kernel
theorem dX7_set_21 : decode cX7_set 21 = .ok (.if_icmp .ne 9, 3) := by decide +kernel
theorem dX7_set_24 : decode cX7_set 24 = .ok (.sipush 4095, 3) := by decide +kernel
theorem dX7_set_27 : decode cX7_set 27 = .ok (.goto 15, 3) := by decide +kernel
theorem dX7_set_30 : decode cX7_set 30 = .ok (.iload_n 2, 1) := by decide +kernel
theorem dX7_set_31 : decode cX7_set 31 = .ok (.iconst 4, 1) := by decide +kernel
theorem dX7_set_32 : decode cX7_set 32 = .ok (.if_icmp .ne 9, 3) := by decide +kernel
theorem dX7_set_35 : decode cX7_set 35 = .ok (.sipush 9999, 3) := by decide +kernel
theorem dX7_set_38 : decode cX7_set 38 = .ok (.goto 4, 3) := by decide +kernel
theorem dX7_set_41 : decode cX7_set 41 = .ok (.iconst (-1), 1) := by decide +kernel
theorem dX7_set_42 : decode cX7_set 42 = .ok (.istore 4, 2) := by decide +kernel
theorem dX7_set_44 : decode cX7_set 44 = .ok (.aload_n 0, 1) := by decide +kernel
theorem dX7_set_45 : decode cX7_set 45 = .ok (.iload_n 1, 1) := by decide +kernel
theorem dX7_set_46 : decode cX7_set 46 = .ok (.invokevirtual 155, 3) := by decide +kernel
theorem dX7_set_49 : decode cX7_set 49 = .ok (.ifCond .eq 26, 3) := by decide +kernel
theorem dX7_set_52 : decode cX7_set 52 = .ok (.iload_n 3, 1) := by decide +kernel
theorem dX7_set_53 : decode cX7_set 53 = .ok (.iconst 0, 1) := by decide +kernel
theorem dX7_set_54 : decode cX7_set 54 = .ok (.iload 4, 2) := by decide +kernel
theorem dX7_set_56 : decode cX7_set 56 = .ok (.invokestatic 81, 3) := by decide +kernel
theorem dX7_set_59 : decode cX7_set 59 = .ok (.ifCond .eq 16, 3) := by decide +kernel
theorem dX7_set_62 : decode cX7_set 62 = .ok (.aload_n 0, 1) := by decide +kernel
theorem dX7_set_63 : decode cX7_set 63 = .ok (.iload_n 1, 1) := by decide +kernel
theorem dX7_set_64 : decode cX7_set 64 = .ok (.iload_n 2, 1) := by decide +kernel
theorem dX7_set_65 : decode cX7_set 65 = .ok (.invokestatic 135, 3) := by decide +kernel
theorem dX7_set_68 : decode cX7_set 68 = .ok (.iload_n 3, 1) := by decide +kernel
theorem dX7_set_69 : decode cX7_set 69 = .ok (.invokevirtual 87, 3) := by decide +kernel
theorem dX7_set_72 : decode cX7_set 72 = .ok (.goto 9, 3) := by decide +kernel
theorem dX7_set_75 : decode cX7_set 75 = .ok (.aload_n 0, 1) := by decide +kernel
theorem dX7_set_76 : decode cX7_set 76 = .ok (.ldc 71, 2) := by decide +kernel
theorem dX7_set_78 : decode cX7_set 78 = .ok (.invokevirtual 77, 3) := by decide +kernel
theorem dX7_set_81 : decode cX7_set 81 = .ok (.ireturn, 1) := by decide +kernel
theorem dX7_turn_0 : decode cX7_turn 0 = .ok (.aload_n 0, 1) := by decide +kernel
theorem dX7_turn_1 : decode cX7_turn 1 = .ok (.iload_n 1, 1) := by decide +kernel
theorem dX7_turn_2 : decode cX7_turn 2 = .ok (.invokevirtual 155, 3) := by decide +kernel
theorem dX7_turn_5 : decode cX7_turn 5 = .ok (.ifCond .eq 23, 3) := by decide +kernel
theorem dX7_turn_8 : decode cX7_turn 8 = .ok (.iload_n 2, 1) := by decide +kernel
theorem dX7_turn_9 : decode cX7_turn 9 = .ok (.invokestatic 140, 3) := by decide +kernel
theorem dX7_turn_12 : decode cX7_turn 12 = .ok (.ifCond .eq 16, 3) := by decide +kernel
theorem dX7_turn_15 : decode cX7_turn 15 = .ok (.aload_n 0, 1) := by decide +kernel
theorem dX7_turn_16 : decode cX7_turn 16 = .ok (.iload_n 1, 1) := by decide +kernel
theorem dX7_turn_17 : decode cX7_turn 17 = .ok (.iconst 0, 1) := by decide +kernel
theorem dX7_turn_18 : decode cX7_turn 18 = .ok (.invokestatic 135, 3) := by decide +kernel
theorem dX7_turn_21 : decode cX7_turn 21 = .ok (.iload_n 2, 1) := by decide +kernel
theorem dX7_turn_22 : decode cX7_turn 22 = .ok (.invokevirtual 87, 3) := by decide +kernel
theorem dX7_turn_25 : decode cX7_turn 25 = .ok (.goto 9, 3) := by decide +kernel
theorem dX7_turn_28 : decode cX7_turn 28 = .ok (.aload_n 0, 1) := by decide +kernel
theorem dX7_turn_29 : decode cX7_turn 29 = .ok (.ldc 71, 2) := by decide +kernel
theorem dX7_turn_31 : decode cX7_turn 31 = .ok (.invokevirtual 77, 3) := by decide +kernel
theorem dX7_turn_34 : decode cX7_turn 34 = .ok (.ireturn, 1) := by decide +kernel
theorem dX7_as_0 : decode cX7_as 0 = .ok (.aload_n 0, 1) := by decide +kernel
theorem dX7_as_1 : decode cX7_as 1 = .ok (.iload_n 1, 1) := by decide +kernel
theorem dX7_as_2 : decode cX7_as 2 = .ok (.invokevirtual 155, 3) := by decide +kernel
theorem dX7_as_5 : decode cX7_as 5 = .ok (.ifCond .eq 10, 3) := by decide +kernel
theorem dX7_as_8 : decode cX7_as 8 = .ok (.iload_n 2, 1) := by decide +kernel
theorem dX7_as_9 : decode cX7_as 9 = .ok (.invokestatic 140, 3) := by decide +kernel
theorem dX7_as_12 : decode cX7_as 12 = .ok (.ifCond .ne 10, 3) := by decide +kernel
theorem dX7_as_15 : decode cX7_as 15 = .ok (.aload_n 0, 1) := by decide +kernel
theorem dX7_as_16 : decode cX7_as 16 = .ok (.ldc 71, 2) := by decide +kernel
theorem dX7_as_18 : decode cX7_as 18 = .ok (.invokevirtual 77, 3) := by decide +kernel
theorem dX7_as_21 : decode cX7_as 21 = .ok (.ireturn, 1) := by decide +kernel
theorem dX7_as_22 : decode cX7_as 22 = .ok (.aload_n 0, 1) := by decide +kernel
theorem dX7_as_23 : decode cX7_as 23 = .ok (.iload_n 1, 1) := by decide +kernel
theorem dX7_as_24 : decode cX7_as 24 = .ok (.iconst 0, 1) := by decide +kernel
theorem dX7_as_25 : decode cX7_as 25 = .ok (.invokevirtual 120, 3) := by decide +kernel
theorem dX7_as_28 : decode cX7_as 28 = .ok (.istore_n 3, 1) := by decide +kernel
theorem dX7_as_29 : decode cX7_as 29 = .ok (.iload_n 2, 1) := by decide +kernel
theorem dX7_as_30 : decode cX7_as 30 = .ok (.ifCond .eq 28, 3) := by decide +kernel
theorem dX7_as_33 : decode cX7_as 33 = .ok (.iload_n 2, 1) := by decide +kernel
theorem dX7_as_34 : decode cX7_as 34 = .ok (.iload_n 3, 1) := by decide +kernel
theorem dX7_as_35 : decode cX7_as 35 = .ok (.if_icmp .eq 23, 3) := by decide +kernel
theorem dX7_as_38 : decode cX7_as 38 = .ok (.iload_n 2, 1) := by decide +kernel
theorem dX7_as_39 : decode cX7_as 39 = .ok (.iconst 1, 1) := by decide +kernel
theorem dX7_as_40 : decode cX7_as 40 = .ok (.if_icmp .ne 8, 3) := by decide +kernel
theorem dX7_as_43 : decode cX7_as 43 = .ok (.iload_n 3, 1) := by decide +kernel
theorem dX7_as_44 : decode cX7_as 44 = .ok (.iconst 4, 1) := by decide +kernel
theorem dX7_as_45 : decode cX7_as 45 = .ok (.if_icmp .eq 13, 3) := by decide +kernel
theorem dX7_as_48 : decode cX7_as 48 = .ok (.iload_n 2, 1) := by decide +kernel
theorem dX7_as_49 : decode cX7_as 49 = .ok (.iconst 2, 1) := by decide +kernel
theorem dX7_as_50 : decode cX7_as 50 = .ok (.if_icmp .ne 12, 3) := by decide +kernel
theorem dX7_as_53 : decode cX7_as 53 = .ok (.iload_n 3, 1) := by decide +kernel
theorem dX7_as_54 : decode cX7_as 54 = .ok (.iconst 5, 1) := by decide +kernel
theorem dX7_as_55 : decode cX7_as 55 = .ok (.if_icmp .ne 7, 3) := by decide +kernel
theorem dX7_as_58 : decode cX7_as 58 = .ok (.iconst 1, 1) := by decide +kernel
theorem dX7_as_59 : decode cX7_as 59 = .ok (.goto 4, 3) := by decide +kernel
theorem dX7_as_62 : decode cX7_as 62 = .ok (.iconst 0, 1) := by decide +kernel
theorem dX7_as_63 : decode cX7_as 63 = .ok (.istore 4, 2) := by decide +kernel
theorem dX7_as_65 : decode cX7_as 65 = .ok (.iload 4, 2) := by decide +kernel
theorem dX7_as_67 : decode cX7_as 67 = .ok (.ifCond .eq 12, 3) := by decide +kernel
theorem dX7_as_70 : decode cX7_as 70 = .ok (.aload_n 0, 1) := by decide +kernel
theorem dX7_as_71 : decode cX7_as 71 = .ok (.iload_n 1, 1) := by decide +kernel
theorem dX7_as_72 : decode cX7_as 72 = .ok (.iconst 2, 1) := by decide +kernel
theorem dX7_as_73 : decode cX7_as 73 = .ok (.invokevirtual 120, 3) := by decide +kernel
theorem dX7_as_76 : decode cX7_as 76 = .ok (.goto 9, 3) := by decide +kernel
theorem dX7_as_79 : decode cX7_as 79 = .ok (.aload_n 0, 1) := by decide +kernel
theorem dX7_as_80 : decode cX7_as 80 = .ok (.ldc 164, 2) := by decide +kernel
theorem dX7_as_82 : decode cX7_as 82 = .ok (.invokevirtual 77, 3) := by decide +kernel
theorem dX7_as_85 : decode cX7_as 85 = .ok (.ireturn, 1) := by decide +kernel
theorem dX7_whose_0 : decode cX7_whose 0 = .ok (.aload_n 0, 1) := by decide +kernel
theorem dX7_whose_1 : decode cX7_whose 1 = .ok (.getfield 9, 3) := by decide +kernel
theorem dX7_whose_4 : decode cX7_whose 4 = .ok (.iconst 0, 1) := by decide +kernel
theorem dX7_whose_5 : decode cX7_whose 5 = .ok (.iaload, 1) := by decide +kernel
theorem dX7_whose_6 : decode cX7_whose 6 = .ok (.iconst 2, 1) := by decide +kernel
theorem dX7_whose_7 : decode cX7_whose 7 = .ok (.irem, 1) := by decide +kernel
theorem dX7_whose_8 : decode cX7_whose 8 = .ok (.istore_n 1, 1) := by decide +kernel
theorem dX7_whose_9 : decode cX7_whose 9 = .ok (.aload_n 0, 1) := by decide +kernel
theorem dX7_whose_10 : decode cX7_whose 10 = .ok (.iload_n 1, 1) := by decide +kernel
theorem dX7_whose_11 : decode cX7_whose 11 = .ok (.invokevirtual 132, 3) := by decide +kernel
theorem dX7_whose_14 : decode cX7_whose 14 = .ok (.istore_n 2, 1) := by decide +kernel
theorem dX7_whose_15 : decode cX7_whose 15 = .ok (.iload_n 2, 1) := by decide +kernel
theorem dX7_whose_16 : decode cX7_whose 16 = .ok (.ifCond .ne 7, 3) := by decide +kernel
theorem dX7_whose_19 : decode cX7_whose 19 = .ok (.iconst (-1), 1) := by decide +kernel
theorem dX7_whose_20 : decode cX7_whose 20 = .ok (.goto 13, 3) := by decide +kernel
theorem dX7_whose_23 : decode cX7_whose 23 = .ok (.aload_n 0, 1) := by decide +kernel
theorem dX7_whose_24 : decode cX7_whose 24 = .ok (.getfield 9, 3) := by decide +kernel
theorem dX7_whose_27 : decode cX7_whose 27 = .ok (.iconst 0, 1) := by decide +kernel
theorem dX7_whose_28 : decode cX7_whose 28 = .ok (.iaload, 1) := by decide +kernel
theorem dX7_whose_29 : decode cX7_whose 29 = .ok (.iconst 2, 1) := by decide +kernel
theorem dX7_whose_30 : decode cX7_whose 30 = .ok (.idiv, 1) := by decide +kernel
theorem dX7_whose_31 : decode cX7_whose 31 = .ok (.iload_n 2, 1) := by decide +kernel
theorem dX7_whose_32 : decode cX7_whose 32 = .ok (.irem, 1) := by decide +kernel
theorem dX7_whose_33 : decode cX7_whose 33 = .ok (.istore_n 3, 1) := by decide +kernel
theorem dX7_whose_34 : decode cX7_whose 34 = .ok (.iconst 0, 1) := by decide +kernel
theorem dX7_whose_35 : decode cX7_whose 35 = .ok (.istore 4, 2) := by decide +kernel
theorem dX7_whose_37 : decode cX7_whose 37 = .ok (.iload 4, 2) := by decide +kernel
theorem dX7_whose_39 : decode cX7_whose 39 = .ok (.aload_n 0, 1) := by decide +kernel
theorem dX7_whose_40 : decode cX7_whose 40 = .ok (.getfield 9, 3) := by decide +kernel
theorem dX7_whose_43 : decode cX7_whose 43 = .ok (.iconst 1, 1) := by decide +kernel
theorem dX7_whose_44 : decode cX7_whose 44 = .ok (.iaload, 1) := by decide +kernel
theorem dX7_whose_45 : decode cX7_whose 45 = .ok (.if_icmp .ge 34, 3) := by decide +kernel
theorem dX7_whose_48 : decode cX7_whose 48 = .ok (.iload_n 2, 1) := by decide +kernel
theorem dX7_whose_49 : decode cX7_whose 49 = .ok (.ifCond .le 30, 3) := by decide +kernel
theorem dX7_whose_52 : decode cX7_whose 52 = .ok (.aload_n 0, 1) := by decide +kernel
theorem dX7_whose_53 : decode cX7_whose 53 = .ok (.iload 4, 2) := by decide +kernel
theorem dX7_whose_55 : decode cX7_whose 55 = .ok (.iconst 1, 1) := by decide +kernel
theorem dX7_whose_56 : decode cX7_whose 56 = .ok (.invokevirtual 120, 3) := by decide +kernel
theorem dX7_whose_59 : decode cX7_whose 59 = .ok (.iload_n 1, 1) := by decide +kernel
theorem dX7_whose_60 : decode cX7_whose 60 = .ok (.if_icmp .ne 13, 3) := by decide +kernel
theorem dX7_whose_63 : decode cX7_whose 63 = .ok (.iload_n 3, 1) := by decide +kernel
theorem dX7_whose_64 : decode cX7_whose 64 = .ok (.ifCond .ne 6, 3) := by decide +kernel
theorem dX7_whose_67 : decode cX7_whose 67 = .ok (.iload 4, 2) := by decide +kernel
theorem dX7_whose_69 : decode cX7_whose 69 = .ok (.ireturn, 1) := by decide +kernel
theorem dX7_whose_70 : decode cX7_whose 70 = .ok (.iinc 3 (-1), 3) := by decide +kernel
theorem dX7_whose_73 : decode cX7_whose 73 = .ok (.iinc 4 1, 3) := by decide +kernel
theorem dX7_whose_76 : decode cX7_whose 76 = .ok (.goto (-39), 3) := by decide +kernel
theorem dX7_whose_79 : decode cX7_whose 79 = .ok (.iconst (-1), 1) := by decide +kernel
theorem dX7_whose_80 : decode cX7_whose 80 = .ok (.ireturn, 1) := by decide +kernel
theorem dX7_writes_0 : decode cX7_writes 0 = .ok (.aload_n 0, 1) := by decide +kernel
theorem dX7_writes_1 : decode cX7_writes 1 = .ok (.iload_n 1, 1) := by decide +kernel
theorem dX7_writes_2 : decode cX7_writes 2 = .ok (.invokevirtual 158, 3) := by decide +kernel
theorem dX7_writes_5 : decode cX7_writes 5 = .ok (.istore_n 2, 1) := by decide +kernel
theorem dX7_writes_6 : decode cX7_writes 6 = .ok (.aload_n 0, 1) := by decide +kernel
theorem dX7_writes_7 : decode cX7_writes 7 = .ok (.iload_n 1, 1) := by decide +kernel
theorem dX7_writes_8 : decode cX7_writes 8 = .ok (.iconst 1, 1) := by decide +kernel
theorem dX7_writes_9 : decode cX7_writes 9 = .ok (.invokevirtual 120, 3) := by decide +kernel
theorem dX7_writes_12 : decode cX7_writes 12 = .ok (.istore_n 3, 1) := by decide +kernel
theorem dX7_writes_13 : decode cX7_writes 13 = .ok (.iconst 0, 1) := by decide +kernel
theorem dX7_writes_14 : decode cX7_writes 14 = .ok (.istore 4, 2) := by decide +kernel
theorem dX7_writes_16 : decode cX7_writes 16 = .ok (.iload 4, 2) := by decide +kernel
theorem dX7_writes_18 : decode cX7_writes 18 = .ok (.iload_n 2, 1) := by decide +kernel
theorem dX7_writes_19 : decode cX7_writes 19 = .ok (.if_icmp .ge 23, 3) := by decide +kernel
theorem dX7_writes_22 : decode cX7_writes 22 = .ok (.aload_n 0, 1) := by decide +kernel
theorem dX7_writes_23 : decode cX7_writes 23 = .ok (.getfield 22, 3) := by decide +kernel
theorem dX7_writes_26 : decode cX7_writes 26 = .ok (.iload 4, 2) := by decide +kernel
theorem dX7_writes_28 : decode cX7_writes 28 = .ok (.aload_n 0, 1) := by decide +kernel
theorem dX7_writes_29 : decode cX7_writes 29 = .ok (.iload_n 1, 1) := by decide +kernel
theorem dX7_writes_30 : decode cX7_writes 30 = .ok (.iload 4, 2) := by decide +kernel
theorem dX7_writes_32 : decode cX7_writes 32 = .ok (.invokevirtual 161, 3) := by decide +kernel
theorem dX7_writes_35 : decode cX7_writes 35 = .ok (.iastore, 1) := by decide +kernel
theorem dX7_writes_36 : decode cX7_writes 36 = .ok (.iinc 4 1, 3) := by decide +kernel
theorem dX7_writes_39 : decode cX7_writes 39 = .ok (.goto (-23), 3) := by decide +kernel
theorem dX7_writes_42 : decode cX7_writes 42 = .ok (.iconst 0, 1) := by decide +kernel
theorem dX7_writes_43 : decode cX7_writes 43 = .ok (.istore 4, 2) := by decide +kernel
theorem dX7_writes_45 : decode cX7_writes 45 = .ok (.iload 4, 2) := by decide +kernel
theorem dX7_writes_47 : decode cX7_writes 47 = .ok (.iload_n 2, 1) := by decide +kernel
theorem dX7_writes_48 : decode cX7_writes 48 = .ok (.if_icmp .ge 30, 3) := by decide +kernel
theorem dX7_writes_51 : decode cX7_writes 51 = .ok (.aload_n 0, 1) := by decide +kernel
theorem dX7_writes_52 : decode cX7_writes 52 = .ok (.getfield 9, 3) := by decide +kernel
theorem dX7_writes_55 : decode cX7_writes 55 = .ok (.iconst 4, 1) := by decide +kernel
theorem dX7_writes_56 : decode cX7_writes 56 = .ok (.bipush 12, 2) := by decide +kernel
theorem dX7_writes_58 : decode cX7_writes 58 = .ok (.iload_n 3, 1) := by decide +kernel
theorem dX7_writes_59 : decode cX7_writes 59 = .ok (.imul, 1) := by decide +kernel
theorem dX7_writes_60 : decode cX7_writes 60 = .ok (.iadd, 1) := by decide +kernel
theorem dX7_writes_61 : decode cX7_writes 61 = .ok (.iload 4, 2) := by decide +kernel
theorem dX7_writes_63 : decode cX7_writes 63 = .ok (.iadd, 1) := by decide +kernel
theorem dX7_writes_64 : decode cX7_writes 64 = .ok (.aload_n 0, 1) := by decide +kernel
theorem dX7_writes_65 : decode cX7_writes 65 = .ok (.getfield 22, 3) := by decide +kernel
theorem dX7_writes_68 : decode cX7_writes 68 = .ok (.iload 4, 2) := by decide +kernel
theorem dX7_writes_70 : decode cX7_writes 70 = .ok (.iaload, 1) := by decide +kernel
theorem dX7_writes_71 : decode cX7_writes 71 = .ok (.iastore, 1) := by decide +kernel
theorem dX7_writes_72 : decode cX7_writes 72 = .ok (.iinc 4 1, 3) := by decide +kernel
theorem dX7_writes_75 : decode cX7_writes 75 = .ok (.goto (-30), 3) := by decide +kernel
theorem dX7_writes_78 : decode cX7_writes 78 = .ok (.aload_n 0, 1) := by decide +kernel
theorem dX7_writes_79 : decode cX7_writes 79 = .ok (.getfield 9, 3) := by decide +kernel
theorem dX7_writes_82 : decode cX7_writes 82 = .ok (.iconst 2, 1) := by decide +kernel
theorem dX7_writes_83 : decode cX7_writes 83 = .ok (.iload_n 3, 1) := by decide +kernel
theorem dX7_writes_84 : decode cX7_writes 84 = .ok (.iadd, 1) := by decide +kernel
theorem dX7_writes_85 : decode cX7_writes 85 = .ok (.iload_n 2, 1) := by decide +kernel
theorem dX7_writes_86 : decode cX7_writes 86 = .ok (.iastore, 1) := by decide +kernel
theorem dX7_writes_87 : decode cX7_writes 87 = .ok (.aload_n 0, 1) := by decide +kernel
theorem dX7_writes_88 : decode cX7_writes 88 = .ok (.getfield 9, 3) := by decide +kernel
theorem dX7_writes_91 : decode cX7_writes 91 = .ok (.iload_n 1, 1) := by decide +kernel
theorem dX7_writes_92 : decode cX7_writes 92 = .ok (.iconst 4, 1) := by decide +kernel
theorem dX7_writes_93 : decode cX7_writes 93 = .ok (.invokestatic 135, 3) := by decide +kernel
theorem dX7_writes_96 : decode cX7_writes 96 = .ok (.sipush 9999, 3) := by decide +kernel
theorem dX7_writes_99 : decode cX7_writes 99 = .ok (.aload_n 0, 1) := by decide +kernel
theorem dX7_writes_100 : decode cX7_writes 100 = .ok (.iload_n 1, 1) := by decide +kernel
theorem dX7_writes_101 : decode cX7_writes 101 = .ok (.iconst 4, 1) := by decide +kernel
theorem dX7_writes_102 : decode cX7_writes 102 = .ok (.invokevirtual 120, 3) := by decide +kernel
theorem dX7_writes_105 : decode cX7_writes 105 = .ok (.iconst 1, 1) := by decide +kernel
theorem dX7_writes_106 : decode cX7_writes 106 = .ok (.iadd, 1) := by decide +kernel
theorem dX7_writes_107 : decode cX7_writes 107 = .ok (.invokestatic 110, 3) := by decide +kernel
theorem dX7_writes_110 : decode cX7_writes 110 = .ok (.iastore, 1) := by decide +kernel
theorem dX7_writes_111 : decode cX7_writes 111 = .ok (.return_, 1) := by decide +kernel
theorem dX7_day_0 : decode cX7_day 0 = .ok (.aload_n 0, 1) := by decide +kernel
theorem dX7_day_1 : decode cX7_day 1 = .ok (.invokevirtual 165, 3) := by decide +kernel
theorem dX7_day_4 : decode cX7_day 4 = .ok (.istore_n 1, 1) := by decide +kernel
theorem dX7_day_5 : decode cX7_day 5 = .ok (.iload_n 1, 1) := by decide +kernel
theorem dX7_day_6 : decode cX7_day 6 = .ok (.ifCond .lt 16, 3) := by decide +kernel
theorem dX7_day_9 : decode cX7_day 9 = .ok (.aload_n 0, 1) := by decide +kernel
theorem dX7_day_10 : decode cX7_day 10 = .ok (.iload_n 1, 1) := by decide +kernel
theorem dX7_day_11 : decode cX7_day 11 = .ok (.invokevirtual 158, 3) := by decide +kernel
theorem dX7_day_14 : decode cX7_day 14 = .ok (.ifCond .le 8, 3) := by decide +kernel
theorem dX7_day_17 : decode cX7_day 17 = .ok (.aload_n 0, 1) := by decide +kernel
theorem dX7_day_18 : decode cX7_day 18 = .ok (.iload_n 1, 1) := by decide +kernel
theorem dX7_day_19 : decode cX7_day 19 = .ok (.invokevirtual 168, 3) := by decide +kernel
theorem dX7_day_22 : decode cX7_day 22 = .ok (.aload_n 0, 1) := by decide +kernel
theorem dX7_day_23 : decode cX7_day 23 = .ok (.getfield 9, 3) := by decide +kernel
theorem dX7_day_26 : decode cX7_day 26 = .ok (.iconst 0, 1) := by decide +kernel
theorem dX7_day_27 : decode cX7_day 27 = .ok (.dup2, 1) := by decide +kernel
theorem dX7_day_28 : decode cX7_day 28 = .ok (.iaload, 1) := by decide +kernel
theorem dX7_day_29 : decode cX7_day 29 = .ok (.iconst 1, 1) := by decide +kernel
theorem dX7_day_30 : decode cX7_day 30 = .ok (.iadd, 1) := by decide +kernel
theorem dX7_day_31 : decode cX7_day 31 = .ok (.iastore, 1) := by decide +kernel
theorem dX7_day_32 : decode cX7_day 32 = .ok (.return_, 1) := by decide +kernel
theorem dX7_daysGo_0 : decode cX7_daysGo 0 = .ok (.iconst 0, 1) := by decide +kernel
theorem dX7_daysGo_1 : decode cX7_daysGo 1 = .ok (.istore_n 2, 1) := by decide +kernel
theorem dX7_daysGo_2 : decode cX7_daysGo 2 = .ok (.iload_n 2, 1) := by decide +kernel
theorem dX7_daysGo_3 : decode cX7_daysGo 3 = .ok (.iload_n 1, 1) := by decide +kernel
theorem dX7_daysGo_4 : decode cX7_daysGo 4 = .ok (.if_icmp .ge 13, 3) := by decide +kernel
theorem dX7_daysGo_7 : decode cX7_daysGo 7 = .ok (.aload_n 0, 1) := by decide +kernel
theorem dX7_daysGo_8 : decode cX7_daysGo 8 = .ok (.invokevirtual 172, 3) := by decide +kernel
theorem dX7_daysGo_11 : decode cX7_daysGo 11 = .ok (.iinc 2 1, 3) := by decide +kernel
theorem dX7_daysGo_14 : decode cX7_daysGo 14 = .ok (.goto (-12), 3) := by decide +kernel
theorem dX7_daysGo_17 : decode cX7_daysGo 17 = .ok (.return_, 1) := by decide +kernel
theorem dX7_days_0 : decode cX7_days 0 = .ok (.iload_n 1, 1) := by decide +kernel
theorem dX7_days_1 : decode cX7_days 1 = .ok (.iconst 1, 1) := by decide +kernel
theorem dX7_days_2 : decode cX7_days 2 = .ok (.bipush 60, 2) := by decide +kernel
theorem dX7_days_4 : decode cX7_days 4 = .ok (.invokestatic 81, 3) := by decide +kernel
theorem dX7_days_7 : decode cX7_days 7 = .ok (.ifCond .ne 10, 3) := by decide +kernel
theorem dX7_days_10 : decode cX7_days 10 = .ok (.aload_n 0, 1) := by decide +kernel
theorem dX7_days_11 : decode cX7_days 11 = .ok (.ldc 71, 2) := by decide +kernel
theorem dX7_days_13 : decode cX7_days 13 = .ok (.invokevirtual 77, 3) := by decide +kernel
theorem dX7_days_16 : decode cX7_days 16 = .ok (.ireturn, 1) := by decide +kernel
theorem dX7_days_17 : decode cX7_days 17 = .ok (.aload_n 0, 1) := by decide +kernel
theorem dX7_days_18 : decode cX7_days 18 = .ok (.getfield 9, 3) := by decide +kernel
theorem dX7_days_21 : decode cX7_days 21 = .ok (.iconst 0, 1) := by decide +kernel
theorem dX7_days_22 : decode cX7_days 22 = .ok (.iaload, 1) := by decide +kernel
theorem dX7_days_23 : decode cX7_days 23 = .ok (.iload_n 1, 1) := by decide +kernel
theorem dX7_days_24 : decode cX7_days 24 = .ok (.iadd, 1) := by decide +kernel
theorem dX7_days_25 : decode cX7_days 25 = .ok (.sipush 9999, 3) := by decide +kernel
theorem dX7_days_28 : decode cX7_days 28 = .ok (.if_icmp .le 10, 3) := by decide +kernel
theorem dX7_days_31 : decode cX7_days 31 = .ok (.aload_n 0, 1) := by decide +kernel
theorem dX7_days_32 : decode cX7_days 32 = .ok (.ldc 175, 2) := by decide +kernel
theorem dX7_days_34 : decode cX7_days 34 = .ok (.invokevirtual 77, 3) := by decide +kernel
theorem dX7_days_37 : decode cX7_days 37 = .ok (.ireturn, 1) := by decide +kernel
theorem dX7_days_38 : decode cX7_days 38 = .ok (.aload_n 0, 1) := by decide +kernel
theorem dX7_days_39 : decode cX7_days 39 = .ok (.iload_n 1, 1) := by decide +kernel
theorem dX7_days_40 : decode cX7_days 40 = .ok (.invokevirtual 176, 3) := by decide +kernel
theorem dX7_days_43 : decode cX7_days 43 = .ok (.aload_n 0, 1) := by decide +kernel
theorem dX7_days_44 : decode cX7_days 44 = .ok (.iconst 0, 1) := by decide +kernel
theorem dX7_days_45 : decode cX7_days 45 = .ok (.invokevirtual 123, 3) := by decide +kernel
theorem dX7_days_48 : decode cX7_days 48 = .ok (.aload_n 0, 1) := by decide +kernel
theorem dX7_days_49 : decode cX7_days 49 = .ok (.iconst 1, 1) := by decide +kernel
theorem dX7_days_50 : decode cX7_days 50 = .ok (.invokevirtual 123, 3) := by decide +kernel
theorem dX7_days_53 : decode cX7_days 53 = .ok (.iadd, 1) := by decide +kernel
theorem dX7_days_54 : decode cX7_days 54 = .ok (.ireturn, 1) := by decide +kernel
theorem dX7_now_0 : decode cX7_now 0 = .ok (.iload_n 1, 1) := by decide +kernel
theorem dX7_now_1 : decode cX7_now 1 = .ok (.tableswitch 106 0 5 #[39, 46, 55, 60, 88, 101], 39) := by decide +kernel
theorem dX7_now_40 : decode cX7_now 40 = .ok (.aload_n 0, 1) := by decide +kernel
theorem dX7_now_41 : decode cX7_now 41 = .ok (.getfield 9, 3) := by decide +kernel
theorem dX7_now_44 : decode cX7_now 44 = .ok (.iconst 0, 1) := by decide +kernel
theorem dX7_now_45 : decode cX7_now 45 = .ok (.iaload, 1) := by decide +kernel
theorem dX7_now_46 : decode cX7_now 46 = .ok (.ireturn, 1) := by decide +kernel
theorem dX7_now_47 : decode cX7_now 47 = .ok (.aload_n 0, 1) := by decide +kernel
theorem dX7_now_48 : decode cX7_now 48 = .ok (.getfield 9, 3) := by decide +kernel
theorem dX7_now_51 : decode cX7_now 51 = .ok (.iconst 0, 1) := by decide +kernel
theorem dX7_now_52 : decode cX7_now 52 = .ok (.iaload, 1) := by decide +kernel
theorem dX7_now_53 : decode cX7_now 53 = .ok (.iconst 2, 1) := by decide +kernel
theorem dX7_now_54 : decode cX7_now 54 = .ok (.irem, 1) := by decide +kernel
theorem dX7_now_55 : decode cX7_now 55 = .ok (.ireturn, 1) := by decide +kernel
theorem dX7_now_56 : decode cX7_now 56 = .ok (.aload_n 0, 1) := by decide +kernel
theorem dX7_now_57 : decode cX7_now 57 = .ok (.invokevirtual 165, 3) := by decide +kernel
theorem dX7_now_60 : decode cX7_now 60 = .ok (.ireturn, 1) := by decide +kernel
theorem dX7_now_61 : decode cX7_now 61 = .ok (.aload_n 0, 1) := by decide +kernel
theorem dX7_now_62 : decode cX7_now 62 = .ok (.iconst 0, 1) := by decide +kernel
theorem dX7_now_63 : decode cX7_now 63 = .ok (.invokevirtual 126, 3) := by decide +kernel
theorem dX7_now_66 : decode cX7_now 66 = .ok (.ifCond .eq 7, 3) := by decide +kernel
theorem dX7_now_69 : decode cX7_now 69 = .ok (.iconst 1, 1) := by decide +kernel
theorem dX7_now_70 : decode cX7_now 70 = .ok (.goto 4, 3) := by decide +kernel
theorem dX7_now_73 : decode cX7_now 73 = .ok (.iconst 0, 1) := by decide +kernel
theorem dX7_now_74 : decode cX7_now 74 = .ok (.aload_n 0, 1) := by decide +kernel
theorem dX7_now_75 : decode cX7_now 75 = .ok (.iconst 1, 1) := by decide +kernel
theorem dX7_now_76 : decode cX7_now 76 = .ok (.invokevirtual 126, 3) := by decide +kernel
theorem dX7_now_79 : decode cX7_now 79 = .ok (.ifCond .eq 7, 3) := by decide +kernel
theorem dX7_now_82 : decode cX7_now 82 = .ok (.iconst 2, 1) := by decide +kernel
theorem dX7_now_83 : decode cX7_now 83 = .ok (.goto 4, 3) := by decide +kernel
theorem dX7_now_86 : decode cX7_now 86 = .ok (.iconst 0, 1) := by decide +kernel
theorem dX7_now_87 : decode cX7_now 87 = .ok (.iadd, 1) := by decide +kernel
theorem dX7_now_88 : decode cX7_now 88 = .ok (.ireturn, 1) := by decide +kernel
theorem dX7_now_89 : decode cX7_now 89 = .ok (.aload_n 0, 1) := by decide +kernel
theorem dX7_now_90 : decode cX7_now 90 = .ok (.invokevirtual 179, 3) := by decide +kernel
theorem dX7_now_93 : decode cX7_now 93 = .ok (.ifCond .eq 7, 3) := by decide +kernel
theorem dX7_now_96 : decode cX7_now 96 = .ok (.iconst 1, 1) := by decide +kernel
theorem dX7_now_97 : decode cX7_now 97 = .ok (.goto 4, 3) := by decide +kernel
theorem dX7_now_100 : decode cX7_now 100 = .ok (.iconst 0, 1) := by decide +kernel
theorem dX7_now_101 : decode cX7_now 101 = .ok (.ireturn, 1) := by decide +kernel
theorem dX7_now_102 : decode cX7_now 102 = .ok (.aload_n 0, 1) := by decide +kernel
theorem dX7_now_103 : decode cX7_now 103 = .ok (.invokevirtual 116, 3) := by decide +kernel
theorem dX7_now_106 : decode cX7_now 106 = .ok (.ireturn, 1) := by decide +kernel
theorem dX7_now_107 : decode cX7_now 107 = .ok (.aload_n 0, 1) := by decide +kernel
theorem dX7_now_108 : decode cX7_now 108 = .ok (.ldc 71, 2) := by decide +kernel
theorem dX7_now_110 : decode cX7_now 110 = .ok (.invokevirtual 77, 3) := by decide +kernel
theorem dX7_now_113 : decode cX7_now 113 = .ok (.ireturn, 1) := by decide +kernel
theorem dX7_isOn_0 : decode cX7_isOn 0 = .ok (.iload_n 0, 1) := by decide +kernel
theorem dX7_isOn_1 : decode cX7_isOn 1 = .ok (.iconst 0, 1) := by decide +kernel
theorem dX7_isOn_2 : decode cX7_isOn 2 = .ok (.bipush 60, 2) := by decide +kernel
theorem dX7_isOn_4 : decode cX7_isOn 4 = .ok (.invokestatic 81, 3) := by decide +kernel
theorem dX7_isOn_7 : decode cX7_isOn 7 = .ok (.ireturn, 1) := by decide +kernel
theorem dX7_on_0 : decode cX7_on 0 = .ok (.iload_n 1, 1) := by decide +kernel
theorem dX7_on_1 : decode cX7_on 1 = .ok (.invokestatic 91, 3) := by decide +kernel
theorem dX7_on_4 : decode cX7_on 4 = .ok (.ifCond .eq 20, 3) := by decide +kernel
theorem dX7_on_7 : decode cX7_on 7 = .ok (.iload_n 2, 1) := by decide +kernel
theorem dX7_on_8 : decode cX7_on 8 = .ok (.iconst 0, 1) := by decide +kernel
theorem dX7_on_9 : decode cX7_on 9 = .ok (.bipush 11, 2) := by decide +kernel
theorem dX7_on_11 : decode cX7_on 11 = .ok (.invokestatic 81, 3) := by decide +kernel
theorem dX7_on_14 : decode cX7_on 14 = .ok (.ifCond .eq 10, 3) := by decide +kernel
theorem dX7_on_17 : decode cX7_on 17 = .ok (.iload_n 3, 1) := by decide +kernel
theorem dX7_on_18 : decode cX7_on 18 = .ok (.invokestatic 183, 3) := by decide +kernel
theorem dX7_on_21 : decode cX7_on 21 = .ok (.ifCond .ne 10, 3) := by decide +kernel
theorem dX7_on_24 : decode cX7_on 24 = .ok (.aload_n 0, 1) := by decide +kernel
theorem dX7_on_25 : decode cX7_on 25 = .ok (.ldc 71, 2) := by decide +kernel
theorem dX7_on_27 : decode cX7_on 27 = .ok (.invokevirtual 77, 3) := by decide +kernel
theorem dX7_on_30 : decode cX7_on 30 = .ok (.ireturn, 1) := by decide +kernel
theorem dX7_on_31 : decode cX7_on 31 = .ok (.aload_n 0, 1) := by decide +kernel
theorem dX7_on_32 : decode cX7_on 32 = .ok (.getfield 9, 3) := by decide +kernel
theorem dX7_on_35 : decode cX7_on 35 = .ok (.aload_n 0, 1) := by decide +kernel
theorem dX7_on_36 : decode cX7_on 36 = .ok (.getfield 16, 3) := by decide +kernel
theorem dX7_on_39 : decode cX7_on 39 = .ok (.invokestatic 72, 3) := by decide +kernel
theorem dX7_on_42 : decode cX7_on 42 = .ok (.aload_n 0, 1) := by decide +kernel
theorem dX7_on_43 : decode cX7_on 43 = .ok (.iload_n 3, 1) := by decide +kernel
theorem dX7_on_44 : decode cX7_on 44 = .ok (.invokevirtual 176, 3) := by decide +kernel
theorem dX7_on_47 : decode cX7_on 47 = .ok (.aload_n 0, 1) := by decide +kernel
theorem dX7_on_48 : decode cX7_on 48 = .ok (.aload_n 0, 1) := by decide +kernel
theorem dX7_on_49 : decode cX7_on 49 = .ok (.iload_n 2, 1) := by decide +kernel
theorem dX7_on_50 : decode cX7_on 50 = .ok (.aload_n 0, 1) := by decide +kernel
theorem dX7_on_51 : decode cX7_on 51 = .ok (.iload_n 1, 1) := by decide +kernel
theorem dX7_on_52 : decode cX7_on 52 = .ok (.invokevirtual 99, 3) := by decide +kernel
theorem dX7_on_55 : decode cX7_on 55 = .ok (.if_icmp .ge 12, 3) := by decide +kernel
theorem dX7_on_58 : decode cX7_on 58 = .ok (.aload_n 0, 1) := by decide +kernel
theorem dX7_on_59 : decode cX7_on 59 = .ok (.iload_n 1, 1) := by decide +kernel
theorem dX7_on_60 : decode cX7_on 60 = .ok (.iload_n 2, 1) := by decide +kernel
theorem dX7_on_61 : decode cX7_on 61 = .ok (.invokevirtual 102, 3) := by decide +kernel
theorem dX7_on_64 : decode cX7_on 64 = .ok (.goto 4, 3) := by decide +kernel
theorem dX7_on_67 : decode cX7_on 67 = .ok (.iconst (-1), 1) := by decide +kernel
theorem dX7_on_68 : decode cX7_on 68 = .ok (.invokevirtual 186, 3) := by decide +kernel
theorem dX7_on_71 : decode cX7_on 71 = .ok (.invokevirtual 189, 3) := by decide +kernel
theorem dX7_on_74 : decode cX7_on 74 = .ok (.ireturn, 1) := by decide +kernel
theorem dX7_tensionOn_0 : decode cX7_tensionOn 0 = .ok (.aload_n 0, 1) := by decide +kernel
theorem dX7_tensionOn_1 : decode cX7_tensionOn 1 = .ok (.getfield 9, 3) := by decide +kernel
theorem dX7_tensionOn_4 : decode cX7_tensionOn 4 = .ok (.aload_n 0, 1) := by decide +kernel
theorem dX7_tensionOn_5 : decode cX7_tensionOn 5 = .ok (.getfield 16, 3) := by decide +kernel
theorem dX7_tensionOn_8 : decode cX7_tensionOn 8 = .ok (.invokestatic 72, 3) := by decide +kernel
theorem dX7_tensionOn_11 : decode cX7_tensionOn 11 = .ok (.aload_n 0, 1) := by decide +kernel
theorem dX7_tensionOn_12 : decode cX7_tensionOn 12 = .ok (.iload_n 2, 1) := by decide +kernel
theorem dX7_tensionOn_13 : decode cX7_tensionOn 13 = .ok (.invokevirtual 176, 3) := by decide +kernel
theorem dX7_tensionOn_16 : decode cX7_tensionOn 16 = .ok (.aload_n 0, 1) := by decide +kernel
theorem dX7_tensionOn_17 : decode cX7_tensionOn 17 = .ok (.aload_n 0, 1) := by decide +kernel
theorem dX7_tensionOn_18 : decode cX7_tensionOn 18 = .ok (.iload_n 1, 1) := by decide +kernel
theorem dX7_tensionOn_19 : decode cX7_tensionOn 19 = .ok (.invokevirtual 123, 3) := by decide +kernel
theorem dX7_tensionOn_22 : decode cX7_tensionOn 22 = .ok (.invokevirtual 186, 3) := by decide +kernel
theorem dX7_tensionOn_25 : decode cX7_tensionOn 25 = .ok (.ireturn, 1) := by decide +kernel
theorem dX7_tension_0 : decode cX7_tension 0 = .ok (.iload_n 1, 1) := by decide +kernel
theorem dX7_tension_1 : decode cX7_tension 1 = .ok (.invokestatic 91, 3) := by decide +kernel
theorem dX7_tension_4 : decode cX7_tension 4 = .ok (.ifCond .eq 19, 3) := by decide +kernel
theorem dX7_tension_7 : decode cX7_tension 7 = .ok (.iload_n 2, 1) := by decide +kernel
theorem dX7_tension_8 : decode cX7_tension 8 = .ok (.invokestatic 183, 3) := by decide +kernel
theorem dX7_tension_11 : decode cX7_tension 11 = .ok (.ifCond .eq 12, 3) := by decide +kernel
theorem dX7_tension_14 : decode cX7_tension 14 = .ok (.aload_n 0, 1) := by decide +kernel
theorem dX7_tension_15 : decode cX7_tension 15 = .ok (.iload_n 1, 1) := by decide +kernel
theorem dX7_tension_16 : decode cX7_tension 16 = .ok (.iload_n 2, 1) := by decide +kernel
theorem dX7_tension_17 : decode cX7_tension 17 = .ok (.invokevirtual 192, 3) := by decide +kernel
theorem dX7_tension_20 : decode cX7_tension 20 = .ok (.goto 9, 3) := by decide +kernel
theorem dX7_tension_23 : decode cX7_tension 23 = .ok (.aload_n 0, 1) := by decide +kernel
theorem dX7_tension_24 : decode cX7_tension 24 = .ok (.ldc 71, 2) := by decide +kernel
theorem dX7_tension_26 : decode cX7_tension 26 = .ok (.invokevirtual 77, 3) := by decide +kernel
theorem dX7_tension_29 : decode cX7_tension 29 = .ok (.ireturn, 1) := by decide +kernel
theorem dX7_soonest_0 : decode cX7_soonest 0 = .ok (.aload_n 0, 1) := by decide +kernel
theorem dX7_soonest_1 : decode cX7_soonest 1 = .ok (.getfield 9, 3) := by decide +kernel
theorem dX7_soonest_4 : decode cX7_soonest 4 = .ok (.aload_n 0, 1) := by decide +kernel
theorem dX7_soonest_5 : decode cX7_soonest 5 = .ok (.getfield 16, 3) := by decide +kernel
theorem dX7_soonest_8 : decode cX7_soonest 8 = .ok (.invokestatic 72, 3) := by decide +kernel
theorem dX7_soonest_11 : decode cX7_soonest 11 = .ok (.iconst (-1), 1) := by decide +kernel
theorem dX7_soonest_12 : decode cX7_soonest 12 = .ok (.istore_n 3, 1) := by decide +kernel
theorem dX7_soonest_13 : decode cX7_soonest 13 = .ok (.iconst 0, 1) := by decide +kernel
theorem dX7_soonest_14 : decode cX7_soonest 14 = .ok (.istore 4, 2) := by decide +kernel
theorem dX7_soonest_16 : decode cX7_soonest 16 = .ok (.iload 4, 2) := by decide +kernel
theorem dX7_soonest_18 : decode cX7_soonest 18 = .ok (.iload_n 2, 1) := by decide +kernel
theorem dX7_soonest_19 : decode cX7_soonest 19 = .ok (.if_icmp .gt 46, 3) := by decide +kernel
theorem dX7_soonest_22 : decode cX7_soonest 22 = .ok (.iload_n 3, 1) := by decide +kernel
theorem dX7_soonest_23 : decode cX7_soonest 23 = .ok (.ifCond .ge 42, 3) := by decide +kernel
theorem dX7_soonest_26 : decode cX7_soonest 26 = .ok (.iload_n 1, 1) := by decide +kernel
theorem dX7_soonest_27 : decode cX7_soonest 27 = .ok (.ifCond .ge 13, 3) := by decide +kernel
theorem dX7_soonest_30 : decode cX7_soonest 30 = .ok (.aload_n 0, 1) := by decide +kernel
theorem dX7_soonest_31 : decode cX7_soonest 31 = .ok (.invokevirtual 179, 3) := by decide +kernel
theorem dX7_soonest_34 : decode cX7_soonest 34 = .ok (.ifCond .eq 19, 3) := by decide +kernel
theorem dX7_soonest_37 : decode cX7_soonest 37 = .ok (.goto 11, 3) := by decide +kernel
theorem dX7_soonest_40 : decode cX7_soonest 40 = .ok (.aload_n 0, 1) := by decide +kernel
theorem dX7_soonest_41 : decode cX7_soonest 41 = .ok (.iload_n 1, 1) := by decide +kernel
theorem dX7_soonest_42 : decode cX7_soonest 42 = .ok (.invokevirtual 126, 3) := by decide +kernel
theorem dX7_soonest_45 : decode cX7_soonest 45 = .ok (.ifCond .eq 8, 3) := by decide +kernel
theorem dX7_soonest_48 : decode cX7_soonest 48 = .ok (.iload 4, 2) := by decide +kernel
theorem dX7_soonest_50 : decode cX7_soonest 50 = .ok (.goto 4, 3) := by decide +kernel
theorem dX7_soonest_53 : decode cX7_soonest 53 = .ok (.iconst (-1), 1) := by decide +kernel
theorem dX7_soonest_54 : decode cX7_soonest 54 = .ok (.istore_n 3, 1) := by decide +kernel
theorem dX7_soonest_55 : decode cX7_soonest 55 = .ok (.aload_n 0, 1) := by decide +kernel
theorem dX7_soonest_56 : decode cX7_soonest 56 = .ok (.invokevirtual 172, 3) := by decide +kernel
theorem dX7_soonest_59 : decode cX7_soonest 59 = .ok (.iinc 4 1, 3) := by decide +kernel
theorem dX7_soonest_62 : decode cX7_soonest 62 = .ok (.goto (-46), 3) := by decide +kernel
theorem dX7_soonest_65 : decode cX7_soonest 65 = .ok (.aload_n 0, 1) := by decide +kernel
theorem dX7_soonest_66 : decode cX7_soonest 66 = .ok (.iload_n 3, 1) := by decide +kernel
theorem dX7_soonest_67 : decode cX7_soonest 67 = .ok (.invokevirtual 186, 3) := by decide +kernel
theorem dX7_soonest_70 : decode cX7_soonest 70 = .ok (.ireturn, 1) := by decide +kernel
theorem dX7_home_0 : decode cX7_home 0 = .ok (.iload_n 1, 1) := by decide +kernel
theorem dX7_home_1 : decode cX7_home 1 = .ok (.invokestatic 91, 3) := by decide +kernel
theorem dX7_home_4 : decode cX7_home 4 = .ok (.ifCond .eq 18, 3) := by decide +kernel
theorem dX7_home_7 : decode cX7_home 7 = .ok (.aload_n 0, 1) := by decide +kernel
theorem dX7_home_8 : decode cX7_home 8 = .ok (.aload_n 0, 1) := by decide +kernel
theorem dX7_home_9 : decode cX7_home 9 = .ok (.iload_n 1, 1) := by decide +kernel
theorem dX7_home_10 : decode cX7_home 10 = .ok (.sipush 200, 3) := by decide +kernel
theorem dX7_home_13 : decode cX7_home 13 = .ok (.invokevirtual 195, 3) := by decide +kernel
theorem dX7_home_16 : decode cX7_home 16 = .ok (.invokevirtual 189, 3) := by decide +kernel
theorem dX7_home_19 : decode cX7_home 19 = .ok (.goto 9, 3) := by decide +kernel
theorem dX7_home_22 : decode cX7_home 22 = .ok (.aload_n 0, 1) := by decide +kernel
theorem dX7_home_23 : decode cX7_home 23 = .ok (.ldc 71, 2) := by decide +kernel
theorem dX7_home_25 : decode cX7_home 25 = .ok (.invokevirtual 77, 3) := by decide +kernel
theorem dX7_home_28 : decode cX7_home 28 = .ok (.ireturn, 1) := by decide +kernel
theorem dX7_alike_0 : decode cX7_alike 0 = .ok (.aload_n 0, 1) := by decide +kernel
theorem dX7_alike_1 : decode cX7_alike 1 = .ok (.aload_n 0, 1) := by decide +kernel
theorem dX7_alike_2 : decode cX7_alike 2 = .ok (.iconst (-1), 1) := by decide +kernel
theorem dX7_alike_3 : decode cX7_alike 3 = .ok (.sipush 200, 3) := by decide +kernel
theorem dX7_alike_6 : decode cX7_alike 6 = .ok (.invokevirtual 195, 3) := by decide +kernel
theorem dX7_alike_9 : decode cX7_alike 9 = .ok (.invokevirtual 189, 3) := by decide +kernel
theorem dX7_alike_12 : decode cX7_alike 12 = .ok (.ireturn, 1) := by decide +kernel
theorem dX7_isAsAside_0 : decode cX7_isAsAside 0 = .ok (.aload_n 0, 1) := by decide +kernel
theorem dX7_isAsAside_1 : decode cX7_isAsAside 1 = .ok (.iload_n 1, 1) := by decide +kernel
theorem dX7_isAsAside_2 : decode cX7_isAsAside 2 = .ok (.invokevirtual 99, 3) := by decide +kernel
theorem dX7_isAsAside_5 : decode cX7_isAsAside 5 = .ok (.aload_n 0, 1) := by decide +kernel
theorem dX7_isAsAside_6 : decode cX7_isAsAside 6 = .ok (.getfield 16, 3) := by decide +kernel
theorem dX7_isAsAside_9 : decode cX7_isAsAside 9 = .ok (.iconst 2, 1) := by decide +kernel
theorem dX7_isAsAside_10 : decode cX7_isAsAside 10 = .ok (.iload_n 1, 1) := by decide +kernel
theorem dX7_isAsAside_11 : decode cX7_isAsAside 11 = .ok (.iadd, 1) := by decide +kernel
theorem dX7_isAsAside_12 : decode cX7_isAsAside 12 = .ok (.iaload, 1) := by decide +kernel
theorem dX7_isAsAside_13 : decode cX7_isAsAside 13 = .ok (.if_icmp .ne 7, 3) := by decide +kernel
theorem dX7_isAsAside_16 : decode cX7_isAsAside 16 = .ok (.iconst 1, 1) := by decide +kernel
theorem dX7_isAsAside_17 : decode cX7_isAsAside 17 = .ok (.goto 4, 3) := by decide +kernel
theorem dX7_isAsAside_20 : decode cX7_isAsAside 20 = .ok (.iconst 0, 1) := by decide +kernel
theorem dX7_isAsAside_21 : decode cX7_isAsAside 21 = .ok (.istore_n 2, 1) := by decide +kernel
theorem dX7_isAsAside_22 : decode cX7_isAsAside 22 = .ok (.iconst 0, 1) := by decide +kernel
theorem dX7_isAsAside_23 : decode cX7_isAsAside 23 = .ok (.istore_n 3, 1) := by decide +kernel
theorem dX7_isAsAside_24 : decode cX7_isAsAside 24 = .ok (.iload_n 3, 1) := by decide +kernel
theorem dX7_isAsAside_25 : decode cX7_isAsAside 25 = .ok (.aload_n 0, 1) := by decide +kernel
theorem dX7_isAsAside_26 : decode cX7_isAsAside 26 = .ok (.iload_n 1, 1) := by decide +kernel
theorem dX7_isAsAside_27 : decode cX7_isAsAside 27 = .ok (.invokevirtual 99, 3) := by decide +kernel
theorem dX7_isAsAside_30 : decode cX7_isAsAside 30 = .ok (.if_icmp .ge 41, 3) := by decide +kernel
theorem dX7_isAsAside_33 : decode cX7_isAsAside 33 = .ok (.iload_n 2, 1) := by decide +kernel
theorem dX7_isAsAside_34 : decode cX7_isAsAside 34 = .ok (.ifCond .eq 37, 3) := by decide +kernel
theorem dX7_isAsAside_37 : decode cX7_isAsAside 37 = .ok (.aload_n 0, 1) := by decide +kernel
theorem dX7_isAsAside_38 : decode cX7_isAsAside 38 = .ok (.iload_n 1, 1) := by decide +kernel
theorem dX7_isAsAside_39 : decode cX7_isAsAside 39 = .ok (.iload_n 3, 1) := by decide +kernel
theorem dX7_isAsAside_40 : decode cX7_isAsAside 40 = .ok (.invokevirtual 102, 3) := by decide +kernel
theorem dX7_isAsAside_43 : decode cX7_isAsAside 43 = .ok (.aload_n 0, 1) := by decide +kernel
theorem dX7_isAsAside_44 : decode cX7_isAsAside 44 = .ok (.getfield 16, 3) := by decide +kernel
theorem dX7_isAsAside_47 : decode cX7_isAsAside 47 = .ok (.iconst 4, 1) := by decide +kernel
theorem dX7_isAsAside_48 : decode cX7_isAsAside 48 = .ok (.bipush 12, 2) := by decide +kernel
theorem dX7_isAsAside_50 : decode cX7_isAsAside 50 = .ok (.iload_n 1, 1) := by decide +kernel
theorem dX7_isAsAside_51 : decode cX7_isAsAside 51 = .ok (.imul, 1) := by decide +kernel
theorem dX7_isAsAside_52 : decode cX7_isAsAside 52 = .ok (.iadd, 1) := by decide +kernel
theorem dX7_isAsAside_53 : decode cX7_isAsAside 53 = .ok (.iload_n 3, 1) := by decide +kernel
theorem dX7_isAsAside_54 : decode cX7_isAsAside 54 = .ok (.iadd, 1) := by decide +kernel
theorem dX7_isAsAside_55 : decode cX7_isAsAside 55 = .ok (.iaload, 1) := by decide +kernel
theorem dX7_isAsAside_56 : decode cX7_isAsAside 56 = .ok (.if_icmp .ne 7, 3) := by decide +kernel
theorem dX7_isAsAside_59 : decode cX7_isAsAside 59 = .ok (.iconst 1, 1) := by decide +kernel
theorem dX7_isAsAside_60 : decode cX7_isAsAside 60 = .ok (.goto 4, 3) := by decide +kernel
theorem dX7_isAsAside_63 : decode cX7_isAsAside 63 = .ok (.iconst 0, 1) := by decide +kernel
theorem dX7_isAsAside_64 : decode cX7_isAsAside 64 = .ok (.istore_n 2, 1) := by decide +kernel
theorem dX7_isAsAside_65 : decode cX7_isAsAside 65 = .ok (.iinc 3 1, 3) := by decide +kernel
theorem dX7_isAsAside_68 : decode cX7_isAsAside 68 = .ok (.goto (-44), 3) := by decide +kernel
theorem dX7_isAsAside_71 : decode cX7_isAsAside 71 = .ok (.iload_n 2, 1) := by decide +kernel
theorem dX7_isAsAside_72 : decode cX7_isAsAside 72 = .ok (.ireturn, 1) := by decide +kernel
theorem dX7_again_0 : decode cX7_again 0 = .ok (.iload_n 1, 1) := by decide +kernel
theorem dX7_again_1 : decode cX7_again 1 = .ok (.invokestatic 91, 3) := by decide +kernel
theorem dX7_again_4 : decode cX7_again 4 = .ok (.ifCond .ne 10, 3) := by decide +kernel
theorem dX7_again_7 : decode cX7_again 7 = .ok (.aload_n 0, 1) := by decide +kernel
theorem dX7_again_8 : decode cX7_again 8 = .ok (.ldc 71, 2) := by decide +kernel
theorem dX7_again_10 : decode cX7_again 10 = .ok (.invokevirtual 77, 3) := by decide +kernel
theorem dX7_again_13 : decode cX7_again 13 = .ok (.ireturn, 1) := by decide +kernel
theorem dX7_again_14 : decode cX7_again 14 = .ok (.aload_n 0, 1) := by decide +kernel
theorem dX7_again_15 : decode cX7_again 15 = .ok (.getfield 9, 3) := by decide +kernel
theorem dX7_again_18 : decode cX7_again 18 = .ok (.aload_n 0, 1) := by decide +kernel
theorem dX7_again_19 : decode cX7_again 19 = .ok (.getfield 16, 3) := by decide +kernel
theorem dX7_again_22 : decode cX7_again 22 = .ok (.invokestatic 72, 3) := by decide +kernel
theorem dX7_again_25 : decode cX7_again 25 = .ok (.iconst 0, 1) := by decide +kernel
theorem dX7_again_26 : decode cX7_again 26 = .ok (.istore_n 2, 1) := by decide +kernel
theorem dX7_again_27 : decode cX7_again 27 = .ok (.iconst (-1), 1) := by decide +kernel
theorem dX7_again_28 : decode cX7_again 28 = .ok (.istore_n 3, 1) := by decide +kernel
theorem dX7_again_29 : decode cX7_again 29 = .ok (.iconst 1, 1) := by decide +kernel
theorem dX7_again_30 : decode cX7_again 30 = .ok (.istore 4, 2) := by decide +kernel
theorem dX7_again_32 : decode cX7_again 32 = .ok (.iload 4, 2) := by decide +kernel
theorem dX7_again_34 : decode cX7_again 34 = .ok (.sipush 200, 3) := by decide +kernel
theorem dX7_again_37 : decode cX7_again 37 = .ok (.if_icmp .gt 55, 3) := by decide +kernel
theorem dX7_again_40 : decode cX7_again 40 = .ok (.iload_n 3, 1) := by decide +kernel
theorem dX7_again_41 : decode cX7_again 41 = .ok (.ifCond .ge 51, 3) := by decide +kernel
theorem dX7_again_44 : decode cX7_again 44 = .ok (.aload_n 0, 1) := by decide +kernel
theorem dX7_again_45 : decode cX7_again 45 = .ok (.invokevirtual 172, 3) := by decide +kernel
theorem dX7_again_48 : decode cX7_again 48 = .ok (.aload_n 0, 1) := by decide +kernel
theorem dX7_again_49 : decode cX7_again 49 = .ok (.iload_n 1, 1) := by decide +kernel
theorem dX7_again_50 : decode cX7_again 50 = .ok (.invokevirtual 198, 3) := by decide +kernel
theorem dX7_again_53 : decode cX7_again 53 = .ok (.istore 5, 2) := by decide +kernel
theorem dX7_again_55 : decode cX7_again 55 = .ok (.iload 5, 2) := by decide +kernel
theorem dX7_again_57 : decode cX7_again 57 = .ok (.ifCond .eq 12, 3) := by decide +kernel
theorem dX7_again_60 : decode cX7_again 60 = .ok (.iload_n 2, 1) := by decide +kernel
theorem dX7_again_61 : decode cX7_again 61 = .ok (.ifCond .eq 8, 3) := by decide +kernel
theorem dX7_again_64 : decode cX7_again 64 = .ok (.iload 4, 2) := by decide +kernel
theorem dX7_again_66 : decode cX7_again 66 = .ok (.goto 4, 3) := by decide +kernel
theorem dX7_again_69 : decode cX7_again 69 = .ok (.iconst (-1), 1) := by decide +kernel
theorem dX7_again_70 : decode cX7_again 70 = .ok (.istore_n 3, 1) := by decide +kernel
theorem dX7_again_71 : decode cX7_again 71 = .ok (.iload_n 2, 1) := by decide +kernel
theorem dX7_again_72 : decode cX7_again 72 = .ok (.ifCond .ne 8, 3) := by decide +kernel
theorem dX7_again_75 : decode cX7_again 75 = .ok (.iload 5, 2) := by decide +kernel
theorem dX7_again_77 : decode cX7_again 77 = .ok (.ifCond .ne 7, 3) := by decide +kernel
theorem dX7_again_80 : decode cX7_again 80 = .ok (.iconst 1, 1) := by decide +kernel
theorem dX7_again_81 : decode cX7_again 81 = .ok (.goto 4, 3) := by decide +kernel
theorem dX7_again_84 : decode cX7_again 84 = .ok (.iconst 0, 1) := by decide +kernel
theorem dX7_again_85 : decode cX7_again 85 = .ok (.istore_n 2, 1) := by decide +kernel
theorem dX7_again_86 : decode cX7_again 86 = .ok (.iinc 4 1, 3) := by decide +kernel
theorem dX7_again_89 : decode cX7_again 89 = .ok (.goto (-57), 3) := by decide +kernel
theorem dX7_again_92 : decode cX7_again 92 = .ok (.aload_n 0, 1) := by decide +kernel
theorem dX7_again_93 : decode cX7_again 93 = .ok (.aload_n 0, 1) := by decide +kernel
theorem dX7_again_94 : decode cX7_again 94 = .ok (.iload_n 3, 1) := by decide +kernel
theorem dX7_again_95 : decode cX7_again 95 = .ok (.invokevirtual 186, 3) := by decide +kernel
theorem dX7_again_98 : decode cX7_again 98 = .ok (.invokevirtual 189, 3) := by decide +kernel
theorem dX7_again_101 : decode cX7_again 101 = .ok (.ireturn, 1) := by decide +kernel
theorem dX7_bestOf_0 : decode cX7_bestOf 0 = .ok (.iload_n 1, 1) := by decide +kernel
theorem dX7_bestOf_1 : decode cX7_bestOf 1 = .ok (.iload_n 2, 1) := by decide +kernel
theorem dX7_bestOf_2 : decode cX7_bestOf 2 = .ok (.invokestatic 135, 3) := by decide +kernel
theorem dX7_bestOf_5 : decode cX7_bestOf 5 = .ok (.istore 4, 2) := by decide +kernel
theorem dX7_bestOf_7 : decode cX7_bestOf 7 = .ok (.aload_n 0, 1) := by decide +kernel
theorem dX7_bestOf_8 : decode cX7_bestOf 8 = .ok (.getfield 9, 3) := by decide +kernel
theorem dX7_bestOf_11 : decode cX7_bestOf 11 = .ok (.iload 4, 2) := by decide +kernel
theorem dX7_bestOf_13 : decode cX7_bestOf 13 = .ok (.iaload, 1) := by decide +kernel
theorem dX7_bestOf_14 : decode cX7_bestOf 14 = .ok (.istore 5, 2) := by decide +kernel
theorem dX7_bestOf_16 : decode cX7_bestOf 16 = .ok (.iconst (-1), 1) := by decide +kernel
theorem dX7_bestOf_17 : decode cX7_bestOf 17 = .ok (.istore 6, 2) := by decide +kernel
theorem dX7_bestOf_19 : decode cX7_bestOf 19 = .ok (.bipush 101, 2) := by decide +kernel
theorem dX7_bestOf_21 : decode cX7_bestOf 21 = .ok (.istore 7, 2) := by decide +kernel
theorem dX7_bestOf_23 : decode cX7_bestOf 23 = .ok (.iconst 0, 1) := by decide +kernel
theorem dX7_bestOf_24 : decode cX7_bestOf 24 = .ok (.istore 8, 2) := by decide +kernel
theorem dX7_bestOf_26 : decode cX7_bestOf 26 = .ok (.iload 8, 2) := by decide +kernel
theorem dX7_bestOf_28 : decode cX7_bestOf 28 = .ok (.iload_n 3, 1) := by decide +kernel
theorem dX7_bestOf_29 : decode cX7_bestOf 29 = .ok (.if_icmp .gt 79, 3) := by decide +kernel
theorem dX7_bestOf_32 : decode cX7_bestOf 32 = .ok (.aload_n 0, 1) := by decide +kernel
theorem dX7_bestOf_33 : decode cX7_bestOf 33 = .ok (.getfield 9, 3) := by decide +kernel
theorem dX7_bestOf_36 : decode cX7_bestOf 36 = .ok (.iload 4, 2) := by decide +kernel
theorem dX7_bestOf_38 : decode cX7_bestOf 38 = .ok (.iload 8, 2) := by decide +kernel
theorem dX7_bestOf_40 : decode cX7_bestOf 40 = .ok (.iastore, 1) := by decide +kernel
theorem dX7_bestOf_41 : decode cX7_bestOf 41 = .ok (.aload_n 0, 1) := by decide +kernel
theorem dX7_bestOf_42 : decode cX7_bestOf 42 = .ok (.aload_n 0, 1) := by decide +kernel
theorem dX7_bestOf_43 : decode cX7_bestOf 43 = .ok (.iload_n 1, 1) := by decide +kernel
theorem dX7_bestOf_44 : decode cX7_bestOf 44 = .ok (.iconst 1, 1) := by decide +kernel
theorem dX7_bestOf_45 : decode cX7_bestOf 45 = .ok (.invokevirtual 120, 3) := by decide +kernel
theorem dX7_bestOf_48 : decode cX7_bestOf 48 = .ok (.bipush 100, 2) := by decide +kernel
theorem dX7_bestOf_50 : decode cX7_bestOf 50 = .ok (.invokevirtual 195, 3) := by decide +kernel
theorem dX7_bestOf_53 : decode cX7_bestOf 53 = .ok (.istore 9, 2) := by decide +kernel
theorem dX7_bestOf_55 : decode cX7_bestOf 55 = .ok (.iload 9, 2) := by decide +kernel
theorem dX7_bestOf_57 : decode cX7_bestOf 57 = .ok (.ifCond .lt 14, 3) := by decide +kernel
theorem dX7_bestOf_60 : decode cX7_bestOf 60 = .ok (.iload 9, 2) := by decide +kernel
theorem dX7_bestOf_62 : decode cX7_bestOf 62 = .ok (.iload 7, 2) := by decide +kernel
theorem dX7_bestOf_64 : decode cX7_bestOf 64 = .ok (.if_icmp .ge 7, 3) := by decide +kernel
theorem dX7_bestOf_67 : decode cX7_bestOf 67 = .ok (.iconst 1, 1) := by decide +kernel
theorem dX7_bestOf_68 : decode cX7_bestOf 68 = .ok (.goto 4, 3) := by decide +kernel
theorem dX7_bestOf_71 : decode cX7_bestOf 71 = .ok (.iconst 0, 1) := by decide +kernel
theorem dX7_bestOf_72 : decode cX7_bestOf 72 = .ok (.istore 10, 2) := by decide +kernel
theorem dX7_bestOf_74 : decode cX7_bestOf 74 = .ok (.iload 10, 2) := by decide +kernel
theorem dX7_bestOf_76 : decode cX7_bestOf 76 = .ok (.ifCond .eq 8, 3) := by decide +kernel
theorem dX7_bestOf_79 : decode cX7_bestOf 79 = .ok (.iload 8, 2) := by decide +kernel
theorem dX7_bestOf_81 : decode cX7_bestOf 81 = .ok (.goto 5, 3) := by decide +kernel
theorem dX7_bestOf_84 : decode cX7_bestOf 84 = .ok (.iload 6, 2) := by decide +kernel
theorem dX7_bestOf_86 : decode cX7_bestOf 86 = .ok (.istore 6, 2) := by decide +kernel
theorem dX7_bestOf_88 : decode cX7_bestOf 88 = .ok (.iload 10, 2) := by decide +kernel
theorem dX7_bestOf_90 : decode cX7_bestOf 90 = .ok (.ifCond .eq 8, 3) := by decide +kernel
theorem dX7_bestOf_93 : decode cX7_bestOf 93 = .ok (.iload 9, 2) := by decide +kernel
theorem dX7_bestOf_95 : decode cX7_bestOf 95 = .ok (.goto 5, 3) := by decide +kernel
theorem dX7_bestOf_98 : decode cX7_bestOf 98 = .ok (.iload 7, 2) := by decide +kernel
theorem dX7_bestOf_100 : decode cX7_bestOf 100 = .ok (.istore 7, 2) := by decide +kernel
theorem dX7_bestOf_102 : decode cX7_bestOf 102 = .ok (.iinc 8 1, 3) := by decide +kernel
theorem dX7_bestOf_105 : decode cX7_bestOf 105 = .ok (.goto (-79), 3) := by decide +kernel
theorem dX7_bestOf_108 : decode cX7_bestOf 108 = .ok (.aload_n 0, 1) := by decide +kernel
theorem dX7_bestOf_109 : decode cX7_bestOf 109 = .ok (.getfield 9, 3) := by decide +kernel
theorem dX7_bestOf_112 : decode cX7_bestOf 112 = .ok (.iload 4, 2) := by decide +kernel
theorem dX7_bestOf_114 : decode cX7_bestOf 114 = .ok (.iload 5, 2) := by decide +kernel
theorem dX7_bestOf_116 : decode cX7_bestOf 116 = .ok (.iastore, 1) := by decide +kernel
theorem dX7_bestOf_117 : decode cX7_bestOf 117 = .ok (.iload 6, 2) := by decide +kernel
theorem dX7_bestOf_119 : decode cX7_bestOf 119 = .ok (.ireturn, 1) := by decide +kernel
theorem dX7_key_0 : decode cX7_key 0 = .ok (.aload_n 0, 1) := by decide +kernel
theorem dX7_key_1 : decode cX7_key 1 = .ok (.iload_n 1, 1) := by decide +kernel
theorem dX7_key_2 : decode cX7_key 2 = .ok (.invokevirtual 155, 3) := by decide +kernel
theorem dX7_key_5 : decode cX7_key 5 = .ok (.ifCond .eq 18, 3) := by decide +kernel
theorem dX7_key_8 : decode cX7_key 8 = .ok (.aload_n 0, 1) := by decide +kernel
theorem dX7_key_9 : decode cX7_key 9 = .ok (.aload_n 0, 1) := by decide +kernel
theorem dX7_key_10 : decode cX7_key 10 = .ok (.iload_n 1, 1) := by decide +kernel
theorem dX7_key_11 : decode cX7_key 11 = .ok (.iconst 2, 1) := by decide +kernel
theorem dX7_key_12 : decode cX7_key 12 = .ok (.bipush 11, 2) := by decide +kernel
theorem dX7_key_14 : decode cX7_key 14 = .ok (.invokevirtual 201, 3) := by decide +kernel
theorem dX7_key_17 : decode cX7_key 17 = .ok (.invokevirtual 189, 3) := by decide +kernel
theorem dX7_key_20 : decode cX7_key 20 = .ok (.goto 9, 3) := by decide +kernel
theorem dX7_key_23 : decode cX7_key 23 = .ok (.aload_n 0, 1) := by decide +kernel
theorem dX7_key_24 : decode cX7_key 24 = .ok (.ldc 71, 2) := by decide +kernel
theorem dX7_key_26 : decode cX7_key 26 = .ok (.invokevirtual 77, 3) := by decide +kernel
theorem dX7_key_29 : decode cX7_key 29 = .ok (.ireturn, 1) := by decide +kernel
theorem dX7_kind_0 : decode cX7_kind 0 = .ok (.aload_n 0, 1) := by decide +kernel
theorem dX7_kind_1 : decode cX7_kind 1 = .ok (.iload_n 1, 1) := by decide +kernel
theorem dX7_kind_2 : decode cX7_kind 2 = .ok (.invokevirtual 155, 3) := by decide +kernel
theorem dX7_kind_5 : decode cX7_kind 5 = .ok (.ifCond .eq 17, 3) := by decide +kernel
theorem dX7_kind_8 : decode cX7_kind 8 = .ok (.aload_n 0, 1) := by decide +kernel
theorem dX7_kind_9 : decode cX7_kind 9 = .ok (.aload_n 0, 1) := by decide +kernel
theorem dX7_kind_10 : decode cX7_kind 10 = .ok (.iload_n 1, 1) := by decide +kernel
theorem dX7_kind_11 : decode cX7_kind 11 = .ok (.iconst 0, 1) := by decide +kernel
theorem dX7_kind_12 : decode cX7_kind 12 = .ok (.iconst 5, 1) := by decide +kernel
theorem dX7_kind_13 : decode cX7_kind 13 = .ok (.invokevirtual 201, 3) := by decide +kernel
theorem dX7_kind_16 : decode cX7_kind 16 = .ok (.invokevirtual 189, 3) := by decide +kernel
theorem dX7_kind_19 : decode cX7_kind 19 = .ok (.goto 9, 3) := by decide +kernel
theorem dX7_kind_22 : decode cX7_kind 22 = .ok (.aload_n 0, 1) := by decide +kernel
theorem dX7_kind_23 : decode cX7_kind 23 = .ok (.ldc 71, 2) := by decide +kernel
theorem dX7_kind_25 : decode cX7_kind 25 = .ok (.invokevirtual 77, 3) := by decide +kernel
theorem dX7_kind_28 : decode cX7_kind 28 = .ok (.ireturn, 1) := by decide +kernel
theorem dX7_blot_0 : decode cX7_blot 0 = .ok (.aload_n 0, 1) := by decide +kernel
theorem dX7_blot_1 : decode cX7_blot 1 = .ok (.iload_n 1, 1) := by decide +kernel
theorem dX7_blot_2 : decode cX7_blot 2 = .ok (.invokevirtual 155, 3) := by decide +kernel
theorem dX7_blot_5 : decode cX7_blot 5 = .ok (.ifCond .eq 10, 3) := by decide +kernel
theorem dX7_blot_8 : decode cX7_blot 8 = .ok (.iload_n 2, 1) := by decide +kernel
theorem dX7_blot_9 : decode cX7_blot 9 = .ok (.invokestatic 91, 3) := by decide +kernel
theorem dX7_blot_12 : decode cX7_blot 12 = .ok (.ifCond .ne 10, 3) := by decide +kernel
theorem dX7_blot_15 : decode cX7_blot 15 = .ok (.aload_n 0, 1) := by decide +kernel
theorem dX7_blot_16 : decode cX7_blot 16 = .ok (.ldc 71, 2) := by decide +kernel
theorem dX7_blot_18 : decode cX7_blot 18 = .ok (.invokevirtual 77, 3) := by decide +kernel
theorem dX7_blot_21 : decode cX7_blot 21 = .ok (.ireturn, 1) := by decide +kernel
theorem dX7_blot_22 : decode cX7_blot 22 = .ok (.iload_n 1, 1) := by decide +kernel
theorem dX7_blot_23 : decode cX7_blot 23 = .ok (.iconst 3, 1) := by decide +kernel
theorem dX7_blot_24 : decode cX7_blot 24 = .ok (.invokestatic 135, 3) := by decide +kernel
theorem dX7_blot_27 : decode cX7_blot 27 = .ok (.istore_n 3, 1) := by decide +kernel
theorem dX7_blot_28 : decode cX7_blot 28 = .ok (.aload_n 0, 1) := by decide +kernel
theorem dX7_blot_29 : decode cX7_blot 29 = .ok (.iload_n 2, 1) := by decide +kernel
theorem dX7_blot_30 : decode cX7_blot 30 = .ok (.bipush 100, 2) := by decide +kernel
theorem dX7_blot_32 : decode cX7_blot 32 = .ok (.invokevirtual 195, 3) := by decide +kernel
theorem dX7_blot_35 : decode cX7_blot 35 = .ok (.istore 4, 2) := by decide +kernel
theorem dX7_blot_37 : decode cX7_blot 37 = .ok (.iload 4, 2) := by decide +kernel
theorem dX7_blot_39 : decode cX7_blot 39 = .ok (.ifCond .ge 8, 3) := by decide +kernel
theorem dX7_blot_42 : decode cX7_blot 42 = .ok (.bipush 101, 2) := by decide +kernel
theorem dX7_blot_44 : decode cX7_blot 44 = .ok (.goto 5, 3) := by decide +kernel
theorem dX7_blot_47 : decode cX7_blot 47 = .ok (.iload 4, 2) := by decide +kernel
theorem dX7_blot_49 : decode cX7_blot 49 = .ok (.istore 5, 2) := by decide +kernel
theorem dX7_blot_51 : decode cX7_blot 51 = .ok (.iconst (-1), 1) := by decide +kernel
theorem dX7_blot_52 : decode cX7_blot 52 = .ok (.istore 6, 2) := by decide +kernel
theorem dX7_blot_54 : decode cX7_blot 54 = .ok (.iconst 0, 1) := by decide +kernel
theorem dX7_blot_55 : decode cX7_blot 55 = .ok (.istore 7, 2) := by decide +kernel
theorem dX7_blot_57 : decode cX7_blot 57 = .ok (.iload 7, 2) := by decide +kernel
theorem dX7_blot_59 : decode cX7_blot 59 = .ok (.bipush 12, 2) := by decide +kernel
theorem dX7_blot_61 : decode cX7_blot 61 = .ok (.if_icmp .ge 91, 3) := by decide +kernel
theorem dX7_blot_64 : decode cX7_blot 64 = .ok (.aload_n 0, 1) := by decide +kernel
theorem dX7_blot_65 : decode cX7_blot 65 = .ok (.getfield 9, 3) := by decide +kernel
theorem dX7_blot_68 : decode cX7_blot 68 = .ok (.iload_n 3, 1) := by decide +kernel
theorem dX7_blot_69 : decode cX7_blot 69 = .ok (.dup2, 1) := by decide +kernel
theorem dX7_blot_70 : decode cX7_blot 70 = .ok (.iaload, 1) := by decide +kernel
theorem dX7_blot_71 : decode cX7_blot 71 = .ok (.iconst 1, 1) := by decide +kernel
theorem dX7_blot_72 : decode cX7_blot 72 = .ok (.iload 7, 2) := by decide +kernel
theorem dX7_blot_74 : decode cX7_blot 74 = .ok (.ishl, 1) := by decide +kernel
theorem dX7_blot_75 : decode cX7_blot 75 = .ok (.ixor, 1) := by decide +kernel
theorem dX7_blot_76 : decode cX7_blot 76 = .ok (.iastore, 1) := by decide +kernel
theorem dX7_blot_77 : decode cX7_blot 77 = .ok (.aload_n 0, 1) := by decide +kernel
theorem dX7_blot_78 : decode cX7_blot 78 = .ok (.iload_n 2, 1) := by decide +kernel
theorem dX7_blot_79 : decode cX7_blot 79 = .ok (.bipush 100, 2) := by decide +kernel
theorem dX7_blot_81 : decode cX7_blot 81 = .ok (.invokevirtual 195, 3) := by decide +kernel
theorem dX7_blot_84 : decode cX7_blot 84 = .ok (.istore 8, 2) := by decide +kernel
theorem dX7_blot_86 : decode cX7_blot 86 = .ok (.aload_n 0, 1) := by decide +kernel
theorem dX7_blot_87 : decode cX7_blot 87 = .ok (.getfield 9, 3) := by decide +kernel
theorem dX7_blot_90 : decode cX7_blot 90 = .ok (.iload_n 3, 1) := by decide +kernel
theorem dX7_blot_91 : decode cX7_blot 91 = .ok (.dup2, 1) := by decide +kernel
theorem dX7_blot_92 : decode cX7_blot 92 = .ok (.iaload, 1) := by decide +kernel
theorem dX7_blot_93 : decode cX7_blot 93 = .ok (.iconst 1, 1) := by decide +kernel
theorem dX7_blot_94 : decode cX7_blot 94 = .ok (.iload 7, 2) := by decide +kernel
theorem dX7_blot_96 : decode cX7_blot 96 = .ok (.ishl, 1) := by decide +kernel
theorem dX7_blot_97 : decode cX7_blot 97 = .ok (.ixor, 1) := by decide +kernel
theorem dX7_blot_98 : decode cX7_blot 98 = .ok (.iastore, 1) := by decide +kernel
theorem dX7_blot_99 : decode cX7_blot 99 = .ok (.iload 8, 2) := by decide +kernel
theorem dX7_blot_101 : decode cX7_blot 101 = .ok (.ifCond .lt 14, 3) := by decide +kernel
theorem dX7_blot_104 : decode cX7_blot 104 = .ok (.iload 8, 2) := by decide +kernel
theorem dX7_blot_106 : decode cX7_blot 106 = .ok (.iload 5, 2) := by decide +kernel
theorem dX7_blot_108 : decode cX7_blot 108 = .ok (.if_icmp .ge 7, 3) := by decide +kernel
theorem dX7_blot_111 : decode cX7_blot 111 = .ok (.iconst 1, 1) := by decide +kernel
theorem dX7_blot_112 : decode cX7_blot 112 = .ok (.goto 4, 3) := by decide +kernel
theorem dX7_blot_115 : decode cX7_blot 115 = .ok (.iconst 0, 1) := by decide +kernel
theorem dX7_blot_116 : decode cX7_blot 116 = .ok (.istore 9, 2) := by decide +kernel
theorem dX7_blot_118 : decode cX7_blot 118 = .ok (.iload 9, 2) := by decide +kernel
theorem dX7_blot_120 : decode cX7_blot 120 = .ok (.ifCond .eq 8, 3) := by decide +kernel
theorem dX7_blot_123 : decode cX7_blot 123 = .ok (.iload 7, 2) := by decide +kernel
theorem dX7_blot_125 : decode cX7_blot 125 = .ok (.goto 5, 3) := by decide +kernel
theorem dX7_blot_128 : decode cX7_blot 128 = .ok (.iload 6, 2) := by decide +kernel
theorem dX7_blot_130 : decode cX7_blot 130 = .ok (.istore 6, 2) := by decide +kernel
theorem dX7_blot_132 : decode cX7_blot 132 = .ok (.iload 9, 2) := by decide +kernel
theorem dX7_blot_134 : decode cX7_blot 134 = .ok (.ifCond .eq 8, 3) := by decide +kernel
theorem dX7_blot_137 : decode cX7_blot 137 = .ok (.iload 8, 2) := by decide +kernel
theorem dX7_blot_139 : decode cX7_blot 139 = .ok (.goto 5, 3) := by decide +kernel
theorem dX7_blot_142 : decode cX7_blot 142 = .ok (.iload 5, 2) := by decide +kernel
theorem dX7_blot_144 : decode cX7_blot 144 = .ok (.istore 5, 2) := by decide +kernel
theorem dX7_blot_146 : decode cX7_blot 146 = .ok (.iinc 7 1, 3) := by decide +kernel
theorem dX7_blot_149 : decode cX7_blot 149 = .ok (.goto (-92), 3) := by decide +kernel
theorem dX7_blot_152 : decode cX7_blot 152 = .ok (.aload_n 0, 1) := by decide +kernel
theorem dX7_blot_153 : decode cX7_blot 153 = .ok (.iload 6, 2) := by decide +kernel
theorem dX7_blot_155 : decode cX7_blot 155 = .ok (.invokevirtual 189, 3) := by decide +kernel
theorem dX7_blot_158 : decode cX7_blot 158 = .ok (.ireturn, 1) := by decide +kernel
theorem dX7_calm_0 : decode cX7_calm 0 = .ok (.aload_n 0, 1) := by decide +kernel
theorem dX7_calm_1 : decode cX7_calm 1 = .ok (.iload_n 1, 1) := by decide +kernel
theorem dX7_calm_2 : decode cX7_calm 2 = .ok (.invokevirtual 155, 3) := by decide +kernel
theorem dX7_calm_5 : decode cX7_calm 5 = .ok (.ifCond .eq 20, 3) := by decide +kernel
theorem dX7_calm_8 : decode cX7_calm 8 = .ok (.iload_n 2, 1) := by decide +kernel
theorem dX7_calm_9 : decode cX7_calm 9 = .ok (.invokestatic 91, 3) := by decide +kernel
theorem dX7_calm_12 : decode cX7_calm 12 = .ok (.ifCond .eq 13, 3) := by decide +kernel
theorem dX7_calm_15 : decode cX7_calm 15 = .ok (.iload_n 3, 1) := by decide +kernel
theorem dX7_calm_16 : decode cX7_calm 16 = .ok (.iconst 0, 1) := by decide +kernel
theorem dX7_calm_17 : decode cX7_calm 17 = .ok (.bipush 20, 2) := by decide +kernel
theorem dX7_calm_19 : decode cX7_calm 19 = .ok (.invokestatic 81, 3) := by decide +kernel
theorem dX7_calm_22 : decode cX7_calm 22 = .ok (.ifCond .ne 10, 3) := by decide +kernel
theorem dX7_calm_25 : decode cX7_calm 25 = .ok (.aload_n 0, 1) := by decide +kernel
theorem dX7_calm_26 : decode cX7_calm 26 = .ok (.ldc 71, 2) := by decide +kernel
theorem dX7_calm_28 : decode cX7_calm 28 = .ok (.invokevirtual 77, 3) := by decide +kernel
theorem dX7_calm_31 : decode cX7_calm 31 = .ok (.ireturn, 1) := by decide +kernel
theorem dX7_calm_32 : decode cX7_calm 32 = .ok (.iload_n 1, 1) := by decide +kernel
theorem dX7_calm_33 : decode cX7_calm 33 = .ok (.iconst 2, 1) := by decide +kernel
theorem dX7_calm_34 : decode cX7_calm 34 = .ok (.invokestatic 135, 3) := by decide +kernel
theorem dX7_calm_37 : decode cX7_calm 37 = .ok (.istore 4, 2) := by decide +kernel
theorem dX7_calm_39 : decode cX7_calm 39 = .ok (.aload_n 0, 1) := by decide +kernel
theorem dX7_calm_40 : decode cX7_calm 40 = .ok (.getfield 9, 3) := by decide +kernel
theorem dX7_calm_43 : decode cX7_calm 43 = .ok (.iload 4, 2) := by decide +kernel
theorem dX7_calm_45 : decode cX7_calm 45 = .ok (.iaload, 1) := by decide +kernel
theorem dX7_calm_46 : decode cX7_calm 46 = .ok (.istore 5, 2) := by decide +kernel
theorem dX7_calm_48 : decode cX7_calm 48 = .ok (.iconst 0, 1) := by decide +kernel
theorem dX7_calm_49 : decode cX7_calm 49 = .ok (.istore 6, 2) := by decide +kernel
theorem dX7_calm_51 : decode cX7_calm 51 = .ok (.bipush 12, 2) := by decide +kernel
theorem dX7_calm_53 : decode cX7_calm 53 = .ok (.istore 7, 2) := by decide +kernel
theorem dX7_calm_55 : decode cX7_calm 55 = .ok (.iconst 0, 1) := by decide +kernel
theorem dX7_calm_56 : decode cX7_calm 56 = .ok (.istore 8, 2) := by decide +kernel
theorem dX7_calm_58 : decode cX7_calm 58 = .ok (.iload 8, 2) := by decide +kernel
theorem dX7_calm_60 : decode cX7_calm 60 = .ok (.bipush 12, 2) := by decide +kernel
theorem dX7_calm_62 : decode cX7_calm 62 = .ok (.if_icmp .ge 51, 3) := by decide +kernel
theorem dX7_calm_65 : decode cX7_calm 65 = .ok (.aload_n 0, 1) := by decide +kernel
theorem dX7_calm_66 : decode cX7_calm 66 = .ok (.getfield 9, 3) := by decide +kernel
theorem dX7_calm_69 : decode cX7_calm 69 = .ok (.iload 4, 2) := by decide +kernel
theorem dX7_calm_71 : decode cX7_calm 71 = .ok (.iload 8, 2) := by decide +kernel
theorem dX7_calm_73 : decode cX7_calm 73 = .ok (.iastore, 1) := by decide +kernel
theorem dX7_calm_74 : decode cX7_calm 74 = .ok (.aload_n 0, 1) := by decide +kernel
theorem dX7_calm_75 : decode cX7_calm 75 = .ok (.iload_n 2, 1) := by decide +kernel
theorem dX7_calm_76 : decode cX7_calm 76 = .ok (.iload_n 3, 1) := by decide +kernel
theorem dX7_calm_77 : decode cX7_calm 77 = .ok (.invokevirtual 192, 3) := by decide +kernel
theorem dX7_calm_80 : decode cX7_calm 80 = .ok (.istore 9, 2) := by decide +kernel
theorem dX7_calm_82 : decode cX7_calm 82 = .ok (.iload 9, 2) := by decide +kernel
theorem dX7_calm_84 : decode cX7_calm 84 = .ok (.iload 7, 2) := by decide +kernel
theorem dX7_calm_86 : decode cX7_calm 86 = .ok (.if_icmp .ge 8, 3) := by decide +kernel
theorem dX7_calm_89 : decode cX7_calm 89 = .ok (.iload 8, 2) := by decide +kernel
theorem dX7_calm_91 : decode cX7_calm 91 = .ok (.goto 5, 3) := by decide +kernel
theorem dX7_calm_94 : decode cX7_calm 94 = .ok (.iload 6, 2) := by decide +kernel
theorem dX7_calm_96 : decode cX7_calm 96 = .ok (.istore 6, 2) := by decide +kernel
theorem dX7_calm_98 : decode cX7_calm 98 = .ok (.iload 7, 2) := by decide +kernel
theorem dX7_calm_100 : decode cX7_calm 100 = .ok (.iload 9, 2) := by decide +kernel
theorem dX7_calm_102 : decode cX7_calm 102 = .ok (.invokestatic 110, 3) := by decide +kernel
theorem dX7_calm_105 : decode cX7_calm 105 = .ok (.istore 7, 2) := by decide +kernel
theorem dX7_calm_107 : decode cX7_calm 107 = .ok (.iinc 8 1, 3) := by decide +kernel
theorem dX7_calm_110 : decode cX7_calm 110 = .ok (.goto (-52), 3) := by decide +kernel
theorem dX7_calm_113 : decode cX7_calm 113 = .ok (.aload_n 0, 1) := by decide +kernel
theorem dX7_calm_114 : decode cX7_calm 114 = .ok (.getfield 9, 3) := by decide +kernel
theorem dX7_calm_117 : decode cX7_calm 117 = .ok (.iload 4, 2) := by decide +kernel
theorem dX7_calm_119 : decode cX7_calm 119 = .ok (.iload 5, 2) := by decide +kernel
theorem dX7_calm_121 : decode cX7_calm 121 = .ok (.iastore, 1) := by decide +kernel
theorem dX7_calm_122 : decode cX7_calm 122 = .ok (.bipush 100, 2) := by decide +kernel
theorem dX7_calm_124 : decode cX7_calm 124 = .ok (.iload 6, 2) := by decide +kernel
theorem dX7_calm_126 : decode cX7_calm 126 = .ok (.imul, 1) := by decide +kernel
theorem dX7_calm_127 : decode cX7_calm 127 = .ok (.iload 7, 2) := by decide +kernel
theorem dX7_calm_129 : decode cX7_calm 129 = .ok (.iadd, 1) := by decide +kernel
theorem dX7_calm_130 : decode cX7_calm 130 = .ok (.ireturn, 1) := by decide +kernel
theorem dX7_changeSides_0 : decode cX7_changeSides 0 = .ok (.aload_n 0, 1) := by decide +kernel
theorem dX7_changeSides_1 : decode cX7_changeSides 1 = .ok (.getfield 9, 3) := by decide +kernel
theorem dX7_changeSides_4 : decode cX7_changeSides 4 = .ok (.iload_n 1, 1) := by decide +kernel
theorem dX7_changeSides_5 : decode cX7_changeSides 5 = .ok (.iconst 1, 1) := by decide +kernel
theorem dX7_changeSides_6 : decode cX7_changeSides 6 = .ok (.invokestatic 135, 3) := by decide +kernel
theorem dX7_changeSides_9 : decode cX7_changeSides 9 = .ok (.iconst 1, 1) := by decide +kernel
theorem dX7_changeSides_10 : decode cX7_changeSides 10 = .ok (.aload_n 0, 1) := by decide +kernel
theorem dX7_changeSides_11 : decode cX7_changeSides 11 = .ok (.iload_n 1, 1) := by decide +kernel
theorem dX7_changeSides_12 : decode cX7_changeSides 12 = .ok (.iconst 1, 1) := by decide +kernel
theorem dX7_changeSides_13 : decode cX7_changeSides 13 = .ok (.invokevirtual 120, 3) := by decide +kernel
theorem dX7_changeSides_16 : decode cX7_changeSides 16 = .ok (.isub, 1) := by decide +kernel
theorem dX7_changeSides_17 : decode cX7_changeSides 17 = .ok (.iastore, 1) := by decide +kernel
theorem dX7_changeSides_18 : decode cX7_changeSides 18 = .ok (.aload_n 0, 1) := by decide +kernel
theorem dX7_changeSides_19 : decode cX7_changeSides 19 = .ok (.getfield 9, 3) := by decide +kernel
theorem dX7_changeSides_22 : decode cX7_changeSides 22 = .ok (.iload_n 2, 1) := by decide +kernel
theorem dX7_changeSides_23 : decode cX7_changeSides 23 = .ok (.iconst 1, 1) := by decide +kernel
theorem dX7_changeSides_24 : decode cX7_changeSides 24 = .ok (.invokestatic 135, 3) := by decide +kernel
theorem dX7_changeSides_27 : decode cX7_changeSides 27 = .ok (.iconst 1, 1) := by decide +kernel
theorem dX7_changeSides_28 : decode cX7_changeSides 28 = .ok (.aload_n 0, 1) := by decide +kernel
theorem dX7_changeSides_29 : decode cX7_changeSides 29 = .ok (.iload_n 2, 1) := by decide +kernel
theorem dX7_changeSides_30 : decode cX7_changeSides 30 = .ok (.iconst 1, 1) := by decide +kernel
theorem dX7_changeSides_31 : decode cX7_changeSides 31 = .ok (.invokevirtual 120, 3) := by decide +kernel
theorem dX7_changeSides_34 : decode cX7_changeSides 34 = .ok (.isub, 1) := by decide +kernel
theorem dX7_changeSides_35 : decode cX7_changeSides 35 = .ok (.iastore, 1) := by decide +kernel
theorem dX7_changeSides_36 : decode cX7_changeSides 36 = .ok (.return_, 1) := by decide +kernel
theorem dX7_swap_0 : decode cX7_swap 0 = .ok (.iconst (-1), 1) := by decide +kernel
theorem dX7_swap_1 : decode cX7_swap 1 = .ok (.istore_n 1, 1) := by decide +kernel
theorem dX7_swap_2 : decode cX7_swap 2 = .ok (.bipush 101, 2) := by decide +kernel
theorem dX7_swap_4 : decode cX7_swap 4 = .ok (.istore_n 2, 1) := by decide +kernel
theorem dX7_swap_5 : decode cX7_swap 5 = .ok (.iconst 0, 1) := by decide +kernel
theorem dX7_swap_6 : decode cX7_swap 6 = .ok (.istore_n 3, 1) := by decide +kernel
theorem dX7_swap_7 : decode cX7_swap 7 = .ok (.iload_n 3, 1) := by decide +kernel
theorem dX7_swap_8 : decode cX7_swap 8 = .ok (.aload_n 0, 1) := by decide +kernel
theorem dX7_swap_9 : decode cX7_swap 9 = .ok (.getfield 9, 3) := by decide +kernel
theorem dX7_swap_12 : decode cX7_swap 12 = .ok (.iconst 1, 1) := by decide +kernel
theorem dX7_swap_13 : decode cX7_swap 13 = .ok (.iaload, 1) := by decide +kernel
theorem dX7_swap_14 : decode cX7_swap 14 = .ok (.if_icmp .ge 117, 3) := by decide +kernel
theorem dX7_swap_17 : decode cX7_swap 17 = .ok (.iload_n 3, 1) := by decide +kernel
theorem dX7_swap_18 : decode cX7_swap 18 = .ok (.iconst 1, 1) := by decide +kernel
theorem dX7_swap_19 : decode cX7_swap 19 = .ok (.iadd, 1) := by decide +kernel
theorem dX7_swap_20 : decode cX7_swap 20 = .ok (.istore 4, 2) := by decide +kernel
theorem dX7_swap_22 : decode cX7_swap 22 = .ok (.iload 4, 2) := by decide +kernel
theorem dX7_swap_24 : decode cX7_swap 24 = .ok (.aload_n 0, 1) := by decide +kernel
theorem dX7_swap_25 : decode cX7_swap 25 = .ok (.getfield 9, 3) := by decide +kernel
theorem dX7_swap_28 : decode cX7_swap 28 = .ok (.iconst 1, 1) := by decide +kernel
theorem dX7_swap_29 : decode cX7_swap 29 = .ok (.iaload, 1) := by decide +kernel
theorem dX7_swap_30 : decode cX7_swap 30 = .ok (.if_icmp .ge 95, 3) := by decide +kernel
theorem dX7_swap_33 : decode cX7_swap 33 = .ok (.aload_n 0, 1) := by decide +kernel
theorem dX7_swap_34 : decode cX7_swap 34 = .ok (.iload_n 3, 1) := by decide +kernel
theorem dX7_swap_35 : decode cX7_swap 35 = .ok (.iconst 1, 1) := by decide +kernel
theorem dX7_swap_36 : decode cX7_swap 36 = .ok (.invokevirtual 120, 3) := by decide +kernel
theorem dX7_swap_39 : decode cX7_swap 39 = .ok (.aload_n 0, 1) := by decide +kernel
theorem dX7_swap_40 : decode cX7_swap 40 = .ok (.iload 4, 2) := by decide +kernel
theorem dX7_swap_42 : decode cX7_swap 42 = .ok (.iconst 1, 1) := by decide +kernel
theorem dX7_swap_43 : decode cX7_swap 43 = .ok (.invokevirtual 120, 3) := by decide +kernel
theorem dX7_swap_46 : decode cX7_swap 46 = .ok (.if_icmp .eq 73, 3) := by decide +kernel
theorem dX7_swap_49 : decode cX7_swap 49 = .ok (.aload_n 0, 1) := by decide +kernel
theorem dX7_swap_50 : decode cX7_swap 50 = .ok (.iload_n 3, 1) := by decide +kernel
theorem dX7_swap_51 : decode cX7_swap 51 = .ok (.iload 4, 2) := by decide +kernel
theorem dX7_swap_53 : decode cX7_swap 53 = .ok (.invokevirtual 205, 3) := by decide +kernel
theorem dX7_swap_56 : decode cX7_swap 56 = .ok (.aload_n 0, 1) := by decide +kernel
theorem dX7_swap_57 : decode cX7_swap 57 = .ok (.iconst (-1), 1) := by decide +kernel
theorem dX7_swap_58 : decode cX7_swap 58 = .ok (.bipush 100, 2) := by decide +kernel
theorem dX7_swap_60 : decode cX7_swap 60 = .ok (.invokevirtual 195, 3) := by decide +kernel
theorem dX7_swap_63 : decode cX7_swap 63 = .ok (.istore 5, 2) := by decide +kernel
theorem dX7_swap_65 : decode cX7_swap 65 = .ok (.aload_n 0, 1) := by decide +kernel
theorem dX7_swap_66 : decode cX7_swap 66 = .ok (.iload_n 3, 1) := by decide +kernel
theorem dX7_swap_67 : decode cX7_swap 67 = .ok (.iload 4, 2) := by decide +kernel
theorem dX7_swap_69 : decode cX7_swap 69 = .ok (.invokevirtual 205, 3) := by decide +kernel
theorem dX7_swap_72 : decode cX7_swap 72 = .ok (.iload 5, 2) := by decide +kernel
theorem dX7_swap_74 : decode cX7_swap 74 = .ok (.ifCond .lt 13, 3) := by decide +kernel
theorem dX7_swap_77 : decode cX7_swap 77 = .ok (.iload 5, 2) := by decide +kernel
theorem dX7_swap_79 : decode cX7_swap 79 = .ok (.iload_n 2, 1) := by decide +kernel
theorem dX7_swap_80 : decode cX7_swap 80 = .ok (.if_icmp .ge 7, 3) := by decide +kernel
theorem dX7_swap_83 : decode cX7_swap 83 = .ok (.iconst 1, 1) := by decide +kernel
theorem dX7_swap_84 : decode cX7_swap 84 = .ok (.goto 4, 3) := by decide +kernel
theorem dX7_swap_87 : decode cX7_swap 87 = .ok (.iconst 0, 1) := by decide +kernel
theorem dX7_swap_88 : decode cX7_swap 88 = .ok (.istore 6, 2) := by decide +kernel
theorem dX7_swap_90 : decode cX7_swap 90 = .ok (.iload 6, 2) := by decide +kernel
theorem dX7_swap_92 : decode cX7_swap 92 = .ok (.ifCond .eq 13, 3) := by decide +kernel
theorem dX7_swap_95 : decode cX7_swap 95 = .ok (.bipush 10, 2) := by decide +kernel
theorem dX7_swap_97 : decode cX7_swap 97 = .ok (.iload_n 3, 1) := by decide +kernel
theorem dX7_swap_98 : decode cX7_swap 98 = .ok (.imul, 1) := by decide +kernel
theorem dX7_swap_99 : decode cX7_swap 99 = .ok (.iload 4, 2) := by decide +kernel
theorem dX7_swap_101 : decode cX7_swap 101 = .ok (.iadd, 1) := by decide +kernel
theorem dX7_swap_102 : decode cX7_swap 102 = .ok (.goto 4, 3) := by decide +kernel
theorem dX7_swap_105 : decode cX7_swap 105 = .ok (.iload_n 1, 1) := by decide +kernel
theorem dX7_swap_106 : decode cX7_swap 106 = .ok (.istore_n 1, 1) := by decide +kernel
theorem dX7_swap_107 : decode cX7_swap 107 = .ok (.iload 6, 2) := by decide +kernel
theorem dX7_swap_109 : decode cX7_swap 109 = .ok (.ifCond .eq 8, 3) := by decide +kernel
theorem dX7_swap_112 : decode cX7_swap 112 = .ok (.iload 5, 2) := by decide +kernel
theorem dX7_swap_114 : decode cX7_swap 114 = .ok (.goto 4, 3) := by decide +kernel
theorem dX7_swap_117 : decode cX7_swap 117 = .ok (.iload_n 2, 1) := by decide +kernel
theorem dX7_swap_118 : decode cX7_swap 118 = .ok (.istore_n 2, 1) := by decide +kernel
theorem dX7_swap_119 : decode cX7_swap 119 = .ok (.iinc 4 1, 3) := by decide +kernel
theorem dX7_swap_122 : decode cX7_swap 122 = .ok (.goto (-100), 3) := by decide +kernel
theorem dX7_swap_125 : decode cX7_swap 125 = .ok (.iinc 3 1, 3) := by decide +kernel
theorem dX7_swap_128 : decode cX7_swap 128 = .ok (.goto (-121), 3) := by decide +kernel
theorem dX7_swap_131 : decode cX7_swap 131 = .ok (.aload_n 0, 1) := by decide +kernel
theorem dX7_swap_132 : decode cX7_swap 132 = .ok (.iload_n 1, 1) := by decide +kernel
theorem dX7_swap_133 : decode cX7_swap 133 = .ok (.invokevirtual 189, 3) := by decide +kernel
theorem dX7_swap_136 : decode cX7_swap 136 = .ok (.ireturn, 1) := by decide +kernel
theorem dX7_isHomeOn_0 : decode cX7_isHomeOn 0 = .ok (.aload_n 0, 1) := by decide +kernel
theorem dX7_isHomeOn_1 : decode cX7_isHomeOn 1 = .ok (.getfield 9, 3) := by decide +kernel
theorem dX7_isHomeOn_4 : decode cX7_isHomeOn 4 = .ok (.aload_n 0, 1) := by decide +kernel
theorem dX7_isHomeOn_5 : decode cX7_isHomeOn 5 = .ok (.getfield 16, 3) := by decide +kernel
theorem dX7_isHomeOn_8 : decode cX7_isHomeOn 8 = .ok (.invokestatic 72, 3) := by decide +kernel
theorem dX7_isHomeOn_11 : decode cX7_isHomeOn 11 = .ok (.aload_n 0, 1) := by decide +kernel
theorem dX7_isHomeOn_12 : decode cX7_isHomeOn 12 = .ok (.iload_n 2, 1) := by decide +kernel
theorem dX7_isHomeOn_13 : decode cX7_isHomeOn 13 = .ok (.invokevirtual 176, 3) := by decide +kernel
theorem dX7_isHomeOn_16 : decode cX7_isHomeOn 16 = .ok (.aload_n 0, 1) := by decide +kernel
theorem dX7_isHomeOn_17 : decode cX7_isHomeOn 17 = .ok (.iload_n 1, 1) := by decide +kernel
theorem dX7_isHomeOn_18 : decode cX7_isHomeOn 18 = .ok (.invokevirtual 126, 3) := by decide +kernel
theorem dX7_isHomeOn_21 : decode cX7_isHomeOn 21 = .ok (.istore_n 3, 1) := by decide +kernel
theorem dX7_isHomeOn_22 : decode cX7_isHomeOn 22 = .ok (.aload_n 0, 1) := by decide +kernel
theorem dX7_isHomeOn_23 : decode cX7_isHomeOn 23 = .ok (.getfield 16, 3) := by decide +kernel
theorem dX7_isHomeOn_26 : decode cX7_isHomeOn 26 = .ok (.aload_n 0, 1) := by decide +kernel
theorem dX7_isHomeOn_27 : decode cX7_isHomeOn 27 = .ok (.getfield 9, 3) := by decide +kernel
theorem dX7_isHomeOn_30 : decode cX7_isHomeOn 30 = .ok (.invokestatic 72, 3) := by decide +kernel
theorem dX7_isHomeOn_33 : decode cX7_isHomeOn 33 = .ok (.iload_n 3, 1) := by decide +kernel
theorem dX7_isHomeOn_34 : decode cX7_isHomeOn 34 = .ok (.ireturn, 1) := by decide +kernel
theorem dX7_keys_0 : decode cX7_keys 0 = .ok (.aload_n 0, 1) := by decide +kernel
theorem dX7_keys_1 : decode cX7_keys 1 = .ok (.iload_n 1, 1) := by decide +kernel
theorem dX7_keys_2 : decode cX7_keys 2 = .ok (.invokevirtual 155, 3) := by decide +kernel
theorem dX7_keys_5 : decode cX7_keys 5 = .ok (.ifCond .eq 10, 3) := by decide +kernel
theorem dX7_keys_8 : decode cX7_keys 8 = .ok (.iload_n 2, 1) := by decide +kernel
theorem dX7_keys_9 : decode cX7_keys 9 = .ok (.invokestatic 183, 3) := by decide +kernel
theorem dX7_keys_12 : decode cX7_keys 12 = .ok (.ifCond .ne 10, 3) := by decide +kernel
theorem dX7_keys_15 : decode cX7_keys 15 = .ok (.aload_n 0, 1) := by decide +kernel
theorem dX7_keys_16 : decode cX7_keys 16 = .ok (.ldc 71, 2) := by decide +kernel
theorem dX7_keys_18 : decode cX7_keys 18 = .ok (.invokevirtual 77, 3) := by decide +kernel
theorem dX7_keys_21 : decode cX7_keys 21 = .ok (.ireturn, 1) := by decide +kernel
theorem dX7_keys_22 : decode cX7_keys 22 = .ok (.iload_n 1, 1) := by decide +kernel
theorem dX7_keys_23 : decode cX7_keys 23 = .ok (.iconst 2, 1) := by decide +kernel
theorem dX7_keys_24 : decode cX7_keys 24 = .ok (.invokestatic 135, 3) := by decide +kernel
theorem dX7_keys_27 : decode cX7_keys 27 = .ok (.istore_n 3, 1) := by decide +kernel
theorem dX7_keys_28 : decode cX7_keys 28 = .ok (.aload_n 0, 1) := by decide +kernel
theorem dX7_keys_29 : decode cX7_keys 29 = .ok (.getfield 9, 3) := by decide +kernel
theorem dX7_keys_32 : decode cX7_keys 32 = .ok (.iload_n 3, 1) := by decide +kernel
theorem dX7_keys_33 : decode cX7_keys 33 = .ok (.iaload, 1) := by decide +kernel
theorem dX7_keys_34 : decode cX7_keys 34 = .ok (.istore 4, 2) := by decide +kernel
theorem dX7_keys_36 : decode cX7_keys 36 = .ok (.iconst 0, 1) := by decide +kernel
theorem dX7_keys_37 : decode cX7_keys 37 = .ok (.istore 5, 2) := by decide +kernel
theorem dX7_keys_39 : decode cX7_keys 39 = .ok (.iconst 0, 1) := by decide +kernel
theorem dX7_keys_40 : decode cX7_keys 40 = .ok (.istore 6, 2) := by decide +kernel
theorem dX7_keys_42 : decode cX7_keys 42 = .ok (.iload 6, 2) := by decide +kernel
theorem dX7_keys_44 : decode cX7_keys 44 = .ok (.bipush 12, 2) := by decide +kernel
theorem dX7_keys_46 : decode cX7_keys 46 = .ok (.if_icmp .ge 41, 3) := by decide +kernel
theorem dX7_keys_49 : decode cX7_keys 49 = .ok (.aload_n 0, 1) := by decide +kernel
theorem dX7_keys_50 : decode cX7_keys 50 = .ok (.getfield 9, 3) := by decide +kernel
theorem dX7_keys_53 : decode cX7_keys 53 = .ok (.iload_n 3, 1) := by decide +kernel
theorem dX7_keys_54 : decode cX7_keys 54 = .ok (.iload 6, 2) := by decide +kernel
theorem dX7_keys_56 : decode cX7_keys 56 = .ok (.iastore, 1) := by decide +kernel
theorem dX7_keys_57 : decode cX7_keys 57 = .ok (.iload 5, 2) := by decide +kernel
theorem dX7_keys_59 : decode cX7_keys 59 = .ok (.aload_n 0, 1) := by decide +kernel
theorem dX7_keys_60 : decode cX7_keys 60 = .ok (.aload_n 0, 1) := by decide +kernel
theorem dX7_keys_61 : decode cX7_keys 61 = .ok (.iload_n 1, 1) := by decide +kernel
theorem dX7_keys_62 : decode cX7_keys 62 = .ok (.iconst 1, 1) := by decide +kernel
theorem dX7_keys_63 : decode cX7_keys 63 = .ok (.invokevirtual 120, 3) := by decide +kernel
theorem dX7_keys_66 : decode cX7_keys 66 = .ok (.iload_n 2, 1) := by decide +kernel
theorem dX7_keys_67 : decode cX7_keys 67 = .ok (.invokevirtual 209, 3) := by decide +kernel
theorem dX7_keys_70 : decode cX7_keys 70 = .ok (.ifCond .eq 7, 3) := by decide +kernel
theorem dX7_keys_73 : decode cX7_keys 73 = .ok (.iconst 1, 1) := by decide +kernel
theorem dX7_keys_74 : decode cX7_keys 74 = .ok (.goto 4, 3) := by decide +kernel
theorem dX7_keys_77 : decode cX7_keys 77 = .ok (.iconst 0, 1) := by decide +kernel
theorem dX7_keys_78 : decode cX7_keys 78 = .ok (.iadd, 1) := by decide +kernel
theorem dX7_keys_79 : decode cX7_keys 79 = .ok (.istore 5, 2) := by decide +kernel
theorem dX7_keys_81 : decode cX7_keys 81 = .ok (.iinc 6 1, 3) := by decide +kernel
theorem dX7_keys_84 : decode cX7_keys 84 = .ok (.goto (-42), 3) := by decide +kernel
theorem dX7_keys_87 : decode cX7_keys 87 = .ok (.aload_n 0, 1) := by decide +kernel
theorem dX7_keys_88 : decode cX7_keys 88 = .ok (.getfield 9, 3) := by decide +kernel
theorem dX7_keys_91 : decode cX7_keys 91 = .ok (.iload_n 3, 1) := by decide +kernel
theorem dX7_keys_92 : decode cX7_keys 92 = .ok (.iload 4, 2) := by decide +kernel
theorem dX7_keys_94 : decode cX7_keys 94 = .ok (.iastore, 1) := by decide +kernel
theorem dX7_keys_95 : decode cX7_keys 95 = .ok (.iload 5, 2) := by decide +kernel
theorem dX7_keys_97 : decode cX7_keys 97 = .ok (.ireturn, 1) := by decide +kernel
theorem dX7_feed_0 : decode cX7_feed 0 = .ok (.iload_n 2, 1) := by decide +kernel
theorem dX7_feed_1 : decode cX7_feed 1 = .ok (.iconst 1, 1) := by decide +kernel
theorem dX7_feed_2 : decode cX7_feed 2 = .ok (.iconst 4, 1) := by decide +kernel
theorem dX7_feed_3 : decode cX7_feed 3 = .ok (.invokestatic 81, 3) := by decide +kernel
theorem dX7_feed_6 : decode cX7_feed 6 = .ok (.ifCond .ne 10, 3) := by decide +kernel
theorem dX7_feed_9 : decode cX7_feed 9 = .ok (.aload_n 0, 1) := by decide +kernel
theorem dX7_feed_10 : decode cX7_feed 10 = .ok (.ldc 71, 2) := by decide +kernel
theorem dX7_feed_12 : decode cX7_feed 12 = .ok (.invokevirtual 77, 3) := by decide +kernel
theorem dX7_feed_15 : decode cX7_feed 15 = .ok (.ireturn, 1) := by decide +kernel
theorem dX7_feed_16 : decode cX7_feed 16 = .ok (.aload_n 0, 1) := by decide +kernel
theorem dX7_feed_17 : decode cX7_feed 17 = .ok (.getfield 213, 3) := by decide +kernel
theorem dX7_feed_20 : decode cX7_feed 20 = .ok (.iload_n 2, 1) := by decide +kernel
theorem dX7_feed_21 : decode cX7_feed 21 = .ok (.iadd, 1) := by decide +kernel
theorem dX7_feed_22 : decode cX7_feed 22 = .ok (.bipush 120, 2) := by decide +kernel
theorem dX7_feed_24 : decode cX7_feed 24 = .ok (.if_icmp .le 10, 3) := by decide +kernel
theorem dX7_feed_27 : decode cX7_feed 27 = .ok (.aload_n 0, 1) := by decide +kernel
theorem dX7_feed_28 : decode cX7_feed 28 = .ok (.ldc 143, 2) := by decide +kernel
theorem dX7_feed_30 : decode cX7_feed 30 = .ok (.invokevirtual 77, 3) := by decide +kernel
theorem dX7_feed_33 : decode cX7_feed 33 = .ok (.ireturn, 1) := by decide +kernel
theorem dX7_feed_34 : decode cX7_feed 34 = .ok (.iload_n 2, 1) := by decide +kernel
theorem dX7_feed_35 : decode cX7_feed 35 = .ok (.iconst 1, 1) := by decide +kernel
theorem dX7_feed_36 : decode cX7_feed 36 = .ok (.isub, 1) := by decide +kernel
theorem dX7_feed_37 : decode cX7_feed 37 = .ok (.istore_n 3, 1) := by decide +kernel
theorem dX7_feed_38 : decode cX7_feed 38 = .ok (.iload_n 3, 1) := by decide +kernel
theorem dX7_feed_39 : decode cX7_feed 39 = .ok (.ifCond .lt 38, 3) := by decide +kernel
theorem dX7_feed_42 : decode cX7_feed 42 = .ok (.aload_n 0, 1) := by decide +kernel
theorem dX7_feed_43 : decode cX7_feed 43 = .ok (.getfield 25, 3) := by decide +kernel
theorem dX7_feed_46 : decode cX7_feed 46 = .ok (.aload_n 0, 1) := by decide +kernel
theorem dX7_feed_47 : decode cX7_feed 47 = .ok (.getfield 213, 3) := by decide +kernel
theorem dX7_feed_50 : decode cX7_feed 50 = .ok (.iload_n 1, 1) := by decide +kernel
theorem dX7_feed_51 : decode cX7_feed 51 = .ok (.bipush 8, 2) := by decide +kernel
theorem dX7_feed_53 : decode cX7_feed 53 = .ok (.iload_n 3, 1) := by decide +kernel
theorem dX7_feed_54 : decode cX7_feed 54 = .ok (.imul, 1) := by decide +kernel
theorem dX7_feed_55 : decode cX7_feed 55 = .ok (.ishr, 1) := by decide +kernel
theorem dX7_feed_56 : decode cX7_feed 56 = .ok (.sipush 255, 3) := by decide +kernel
theorem dX7_feed_59 : decode cX7_feed 59 = .ok (.iand, 1) := by decide +kernel
theorem dX7_feed_60 : decode cX7_feed 60 = .ok (.iastore, 1) := by decide +kernel
theorem dX7_feed_61 : decode cX7_feed 61 = .ok (.aload_n 0, 1) := by decide +kernel
theorem dX7_feed_62 : decode cX7_feed 62 = .ok (.dup, 1) := by decide +kernel
theorem dX7_feed_63 : decode cX7_feed 63 = .ok (.getfield 213, 3) := by decide +kernel
theorem dX7_feed_66 : decode cX7_feed 66 = .ok (.iconst 1, 1) := by decide +kernel
theorem dX7_feed_67 : decode cX7_feed 67 = .ok (.iadd, 1) := by decide +kernel
theorem dX7_feed_68 : decode cX7_feed 68 = .ok (.putfield 213, 3) := by decide +kernel
theorem dX7_feed_71 : decode cX7_feed 71 = .ok (.iinc 3 (-1), 3) := by decide +kernel
theorem dX7_feed_74 : decode cX7_feed 74 = .ok (.goto (-36), 3) := by decide +kernel
theorem dX7_feed_77 : decode cX7_feed 77 = .ok (.aload_n 0, 1) := by decide +kernel
theorem dX7_feed_78 : decode cX7_feed 78 = .ok (.getfield 213, 3) := by decide +kernel
theorem dX7_feed_81 : decode cX7_feed 81 = .ok (.ireturn, 1) := by decide +kernel
theorem dX7_wipe_0 : decode cX7_wipe 0 = .ok (.aload_n 0, 1) := by decide +kernel
theorem dX7_wipe_1 : decode cX7_wipe 1 = .ok (.getfield 213, 3) := by decide +kernel
theorem dX7_wipe_4 : decode cX7_wipe 4 = .ok (.istore_n 1, 1) := by decide +kernel
theorem dX7_wipe_5 : decode cX7_wipe 5 = .ok (.aload_n 0, 1) := by decide +kernel
theorem dX7_wipe_6 : decode cX7_wipe 6 = .ok (.iconst 0, 1) := by decide +kernel
theorem dX7_wipe_7 : decode cX7_wipe 7 = .ok (.putfield 213, 3) := by decide +kernel
theorem dX7_wipe_10 : decode cX7_wipe 10 = .ok (.iload_n 1, 1) := by decide +kernel
theorem dX7_wipe_11 : decode cX7_wipe 11 = .ok (.ireturn, 1) := by decide +kernel
theorem dX7_byteAt_0 : decode cX7_byteAt 0 = .ok (.iload_n 1, 1) := by decide +kernel
theorem dX7_byteAt_1 : decode cX7_byteAt 1 = .ok (.aload_n 0, 1) := by decide +kernel
theorem dX7_byteAt_2 : decode cX7_byteAt 2 = .ok (.getfield 213, 3) := by decide +kernel
theorem dX7_byteAt_5 : decode cX7_byteAt 5 = .ok (.if_icmp .ge 12, 3) := by decide +kernel
theorem dX7_byteAt_8 : decode cX7_byteAt 8 = .ok (.aload_n 0, 1) := by decide +kernel
theorem dX7_byteAt_9 : decode cX7_byteAt 9 = .ok (.getfield 25, 3) := by decide +kernel
theorem dX7_byteAt_12 : decode cX7_byteAt 12 = .ok (.iload_n 1, 1) := by decide +kernel
theorem dX7_byteAt_13 : decode cX7_byteAt 13 = .ok (.iaload, 1) := by decide +kernel
theorem dX7_byteAt_14 : decode cX7_byteAt 14 = .ok (.goto 4, 3) := by decide +kernel
theorem dX7_byteAt_17 : decode cX7_byteAt 17 = .ok (.iconst (-1), 1) := by decide +kernel
theorem dX7_byteAt_18 : decode cX7_byteAt 18 = .ok (.ireturn, 1) := by decide +kernel
theorem dX7_next_0 : decode cX7_next 0 = .ok (.aload_n 0, 1) := by decide +kernel
theorem dX7_next_1 : decode cX7_next 1 = .ok (.aload_n 0, 1) := by decide +kernel
theorem dX7_next_2 : decode cX7_next 2 = .ok (.getfield 217, 3) := by decide +kernel
theorem dX7_next_5 : decode cX7_next 5 = .ok (.putfield 220, 3) := by decide +kernel
theorem dX7_next_8 : decode cX7_next 8 = .ok (.aload_n 0, 1) := by decide +kernel
theorem dX7_next_9 : decode cX7_next 9 = .ok (.aload_n 0, 1) := by decide +kernel
theorem dX7_next_10 : decode cX7_next 10 = .ok (.getfield 220, 3) := by decide +kernel
theorem dX7_next_13 : decode cX7_next 13 = .ok (.invokevirtual 223, 3) := by decide +kernel
theorem dX7_next_16 : decode cX7_next 16 = .ok (.bipush 32, 2) := by decide +kernel
theorem dX7_next_18 : decode cX7_next 18 = .ok (.if_icmp .ne 16, 3) := by decide +kernel
theorem dX7_next_21 : decode cX7_next 21 = .ok (.aload_n 0, 1) := by decide +kernel
theorem dX7_next_22 : decode cX7_next 22 = .ok (.dup, 1) := by decide +kernel
theorem dX7_next_23 : decode cX7_next 23 = .ok (.getfield 220, 3) := by decide +kernel
theorem dX7_next_26 : decode cX7_next 26 = .ok (.iconst 1, 1) := by decide +kernel
theorem dX7_next_27 : decode cX7_next 27 = .ok (.iadd, 1) := by decide +kernel
theorem dX7_next_28 : decode cX7_next 28 = .ok (.putfield 220, 3) := by decide +kernel
theorem dX7_next_31 : decode cX7_next 31 = .ok (.goto (-23), 3) := by decide +kernel
theorem dX7_next_34 : decode cX7_next 34 = .ok (.aload_n 0, 1) := by decide +kernel
theorem dX7_next_35 : decode cX7_next 35 = .ok (.aload_n 0, 1) := by decide +kernel
theorem dX7_next_36 : decode cX7_next 36 = .ok (.getfield 220, 3) := by decide +kernel
theorem dX7_next_39 : decode cX7_next 39 = .ok (.invokevirtual 223, 3) := by decide +kernel
theorem dX7_next_42 : decode cX7_next 42 = .ok (.istore_n 1, 1) := by decide +kernel
theorem dX7_next_43 : decode cX7_next 43 = .ok (.aload_n 0, 1) := by decide +kernel
theorem dX7_next_44 : decode cX7_next 44 = .ok (.aload_n 0, 1) := by decide +kernel
theorem dX7_next_45 : decode cX7_next 45 = .ok (.getfield 220, 3) := by decide +kernel
theorem dX7_next_48 : decode cX7_next 48 = .ok (.putfield 217, 3) := by decide +kernel
theorem dX7_next_51 : decode cX7_next 51 = .ok (.aload_n 0, 1) := by decide +kernel
theorem dX7_next_52 : decode cX7_next 52 = .ok (.iconst 0, 1) := by decide +kernel
theorem dX7_next_53 : decode cX7_next 53 = .ok (.putfield 226, 3) := by decide +kernel
theorem dX7_next_56 : decode cX7_next 56 = .ok (.iload_n 1, 1) := by decide +kernel
theorem dX7_next_57 : decode cX7_next 57 = .ok (.ifCond .ge 11, 3) := by decide +kernel
theorem dX7_next_60 : decode cX7_next 60 = .ok (.aload_n 0, 1) := by decide +kernel
theorem dX7_next_61 : decode cX7_next 61 = .ok (.iconst 0, 1) := by decide +kernel
theorem dX7_next_62 : decode cX7_next 62 = .ok (.putfield 229, 3) := by decide +kernel
theorem dX7_next_65 : decode cX7_next 65 = .ok (.goto 141, 3) := by decide +kernel
theorem dX7_next_68 : decode cX7_next 68 = .ok (.iload_n 1, 1) := by decide +kernel
theorem dX7_next_69 : decode cX7_next 69 = .ok (.bipush 97, 2) := by decide +kernel
theorem dX7_next_71 : decode cX7_next 71 = .ok (.bipush 122, 2) := by decide +kernel
theorem dX7_next_73 : decode cX7_next 73 = .ok (.invokestatic 81, 3) := by decide +kernel
theorem dX7_next_76 : decode cX7_next 76 = .ok (.ifCond .eq 39, 3) := by decide +kernel
theorem dX7_next_79 : decode cX7_next 79 = .ok (.aload_n 0, 1) := by decide +kernel
theorem dX7_next_80 : decode cX7_next 80 = .ok (.iconst 1, 1) := by decide +kernel
theorem dX7_next_81 : decode cX7_next 81 = .ok (.putfield 229, 3) := by decide +kernel
theorem dX7_next_84 : decode cX7_next 84 = .ok (.aload_n 0, 1) := by decide +kernel
theorem dX7_next_85 : decode cX7_next 85 = .ok (.aload_n 0, 1) := by decide +kernel
theorem dX7_next_86 : decode cX7_next 86 = .ok (.getfield 217, 3) := by decide +kernel
theorem dX7_next_89 : decode cX7_next 89 = .ok (.invokevirtual 223, 3) := by decide +kernel
theorem dX7_next_92 : decode cX7_next 92 = .ok (.bipush 97, 2) := by decide +kernel
theorem dX7_next_94 : decode cX7_next 94 = .ok (.bipush 122, 2) := by decide +kernel
theorem dX7_next_96 : decode cX7_next 96 = .ok (.invokestatic 81, 3) := by decide +kernel
theorem dX7_next_99 : decode cX7_next 99 = .ok (.ifCond .eq 107, 3) := by decide +kernel
theorem dX7_next_102 : decode cX7_next 102 = .ok (.aload_n 0, 1) := by decide +kernel
theorem dX7_next_103 : decode cX7_next 103 = .ok (.dup, 1) := by decide +kernel
theorem dX7_next_104 : decode cX7_next 104 = .ok (.getfield 217, 3) := by decide +kernel
theorem dX7_next_107 : decode cX7_next 107 = .ok (.iconst 1, 1) := by decide +kernel
theorem dX7_next_108 : decode cX7_next 108 = .ok (.iadd, 1) := by decide +kernel
theorem dX7_next_109 : decode cX7_next 109 = .ok (.putfield 217, 3) := by decide +kernel
theorem dX7_next_112 : decode cX7_next 112 = .ok (.goto (-28), 3) := by decide +kernel
theorem dX7_next_115 : decode cX7_next 115 = .ok (.iload_n 1, 1) := by decide +kernel
theorem dX7_next_116 : decode cX7_next 116 = .ok (.bipush 48, 2) := by decide +kernel
theorem dX7_next_118 : decode cX7_next 118 = .ok (.bipush 57, 2) := by decide +kernel
theorem dX7_next_120 : decode cX7_next 120 = .ok (.invokestatic 81, 3) := by decide +kernel
theorem dX7_next_123 : decode cX7_next 123 = .ok (.ifCond .eq 68, 3) := by decide +kernel
theorem dX7_next_126 : decode cX7_next 126 = .ok (.aload_n 0, 1) := by decide +kernel
theorem dX7_next_127 : decode cX7_next 127 = .ok (.iconst 2, 1) := by decide +kernel
theorem dX7_next_128 : decode cX7_next 128 = .ok (.putfield 229, 3) := by decide +kernel
theorem dX7_next_131 : decode cX7_next 131 = .ok (.aload_n 0, 1) := by decide +kernel
theorem dX7_next_132 : decode cX7_next 132 = .ok (.aload_n 0, 1) := by decide +kernel
theorem dX7_next_133 : decode cX7_next 133 = .ok (.getfield 217, 3) := by decide +kernel
theorem dX7_next_136 : decode cX7_next 136 = .ok (.invokevirtual 223, 3) := by decide +kernel
theorem dX7_next_139 : decode cX7_next 139 = .ok (.bipush 48, 2) := by decide +kernel
theorem dX7_next_141 : decode cX7_next 141 = .ok (.bipush 57, 2) := by decide +kernel
theorem dX7_next_143 : decode cX7_next 143 = .ok (.invokestatic 81, 3) := by decide +kernel
theorem dX7_next_146 : decode cX7_next 146 = .ok (.ifCond .eq 60, 3) := by decide +kernel
theorem dX7_next_149 : decode cX7_next 149 = .ok (.aload_n 0, 1) := by decide +kernel
theorem dX7_next_150 : decode cX7_next 150 = .ok (.sipush 10000, 3) := by decide +kernel
theorem dX7_next_153 : decode cX7_next 153 = .ok (.bipush 10, 2) := by decide +kernel
theorem dX7_next_155 : decode cX7_next 155 = .ok (.aload_n 0, 1) := by decide +kernel
theorem dX7_next_156 : decode cX7_next 156 = .ok (.getfield 226, 3) := by decide +kernel
theorem dX7_next_159 : decode cX7_next 159 = .ok (.imul, 1) := by decide +kernel
theorem dX7_next_160 : decode cX7_next 160 = .ok (.aload_n 0, 1) := by decide +kernel
theorem dX7_next_161 : decode cX7_next 161 = .ok (.aload_n 0, 1) := by decide +kernel
theorem dX7_next_162 : decode cX7_next 162 = .ok (.getfield 217, 3) := by decide +kernel
theorem dX7_next_165 : decode cX7_next 165 = .ok (.invokevirtual 223, 3) := by decide +kernel
theorem dX7_next_168 : decode cX7_next 168 = .ok (.iadd, 1) := by decide +kernel
theorem dX7_next_169 : decode cX7_next 169 = .ok (.bipush 48, 2) := by decide +kernel
theorem dX7_next_171 : decode cX7_next 171 = .ok (.isub, 1) := by decide +kernel
theorem dX7_next_172 : decode cX7_next 172 = .ok (.invokestatic 110, 3) := by decide +kernel
theorem dX7_next_175 : decode cX7_next 175 = .ok (.putfield 226, 3) := by decide +kernel
theorem dX7_next_178 : decode cX7_next 178 = .ok (.aload_n 0, 1) := by decide +kernel
theorem dX7_next_179 : decode cX7_next 179 = .ok (.dup, 1) := by decide +kernel
theorem dX7_next_180 : decode cX7_next 180 = .ok (.getfield 217, 3) := by decide +kernel
theorem dX7_next_183 : decode cX7_next 183 = .ok (.iconst 1, 1) := by decide +kernel
theorem dX7_next_184 : decode cX7_next 184 = .ok (.iadd, 1) := by decide +kernel
theorem dX7_next_185 : decode cX7_next 185 = .ok (.putfield 217, 3) := by decide +kernel
theorem dX7_next_188 : decode cX7_next 188 = .ok (.goto (-57), 3) := by decide +kernel
theorem dX7_next_191 : decode cX7_next 191 = .ok (.aload_n 0, 1) := by decide +kernel
theorem dX7_next_192 : decode cX7_next 192 = .ok (.iconst 3, 1) := by decide +kernel
theorem dX7_next_193 : decode cX7_next 193 = .ok (.putfield 229, 3) := by decide +kernel
theorem dX7_next_196 : decode cX7_next 196 = .ok (.aload_n 0, 1) := by decide +kernel
theorem dX7_next_197 : decode cX7_next 197 = .ok (.dup, 1) := by decide +kernel
theorem dX7_next_198 : decode cX7_next 198 = .ok (.getfield 217, 3) := by decide +kernel
theorem dX7_next_201 : decode cX7_next 201 = .ok (.iconst 1, 1) := by decide +kernel
theorem dX7_next_202 : decode cX7_next 202 = .ok (.iadd, 1) := by decide +kernel
theorem dX7_next_203 : decode cX7_next 203 = .ok (.putfield 217, 3) := by decide +kernel
theorem dX7_next_206 : decode cX7_next 206 = .ok (.return_, 1) := by decide +kernel
theorem dX7_isWord_0 : decode cX7_isWord 0 = .ok (.aload_n 0, 1) := by decide +kernel
theorem dX7_isWord_1 : decode cX7_isWord 1 = .ok (.getfield 229, 3) := by decide +kernel
theorem dX7_isWord_4 : decode cX7_isWord 4 = .ok (.iconst 1, 1) := by decide +kernel
theorem dX7_isWord_5 : decode cX7_isWord 5 = .ok (.if_icmp .ne 23, 3) := by decide +kernel
theorem dX7_isWord_8 : decode cX7_isWord 8 = .ok (.aload_n 0, 1) := by decide +kernel
theorem dX7_isWord_9 : decode cX7_isWord 9 = .ok (.getfield 217, 3) := by decide +kernel
theorem dX7_isWord_12 : decode cX7_isWord 12 = .ok (.aload_n 0, 1) := by decide +kernel
theorem dX7_isWord_13 : decode cX7_isWord 13 = .ok (.getfield 220, 3) := by decide +kernel
theorem dX7_isWord_16 : decode cX7_isWord 16 = .ok (.isub, 1) := by decide +kernel
theorem dX7_isWord_17 : decode cX7_isWord 17 = .ok (.aload_n 1, 1) := by decide +kernel
theorem dX7_isWord_18 : decode cX7_isWord 18 = .ok (.invokevirtual 232, 3) := by decide +kernel
theorem dX7_isWord_21 : decode cX7_isWord 21 = .ok (.if_icmp .ne 7, 3) := by decide +kernel
theorem dX7_isWord_24 : decode cX7_isWord 24 = .ok (.iconst 1, 1) := by decide +kernel
theorem dX7_isWord_25 : decode cX7_isWord 25 = .ok (.goto 4, 3) := by decide +kernel
theorem dX7_isWord_28 : decode cX7_isWord 28 = .ok (.iconst 0, 1) := by decide +kernel
theorem dX7_isWord_29 : decode cX7_isWord 29 = .ok (.istore_n 2, 1) := by decide +kernel
theorem dX7_isWord_30 : decode cX7_isWord 30 = .ok (.iconst 0, 1) := by decide +kernel
theorem dX7_isWord_31 : decode cX7_isWord 31 = .ok (.istore_n 3, 1) := by decide +kernel
theorem dX7_isWord_32 : decode cX7_isWord 32 = .ok (.iload_n 3, 1) := by decide +kernel
theorem dX7_isWord_33 : decode cX7_isWord 33 = .ok (.aload_n 1, 1) := by decide +kernel
theorem dX7_isWord_34 : decode cX7_isWord 34 = .ok (.invokevirtual 232, 3) := by decide +kernel
theorem dX7_isWord_37 : decode cX7_isWord 37 = .ok (.if_icmp .ge 38, 3) := by decide +kernel
theorem dX7_isWord_40 : decode cX7_isWord 40 = .ok (.iload_n 2, 1) := by decide +kernel
theorem dX7_isWord_41 : decode cX7_isWord 41 = .ok (.ifCond .eq 34, 3) := by decide +kernel
theorem dX7_isWord_44 : decode cX7_isWord 44 = .ok (.aload_n 0, 1) := by decide +kernel
theorem dX7_isWord_45 : decode cX7_isWord 45 = .ok (.getfield 25, 3) := by decide +kernel
theorem dX7_isWord_48 : decode cX7_isWord 48 = .ok (.aload_n 0, 1) := by decide +kernel
theorem dX7_isWord_49 : decode cX7_isWord 49 = .ok (.getfield 220, 3) := by decide +kernel
theorem dX7_isWord_52 : decode cX7_isWord 52 = .ok (.iload_n 3, 1) := by decide +kernel
theorem dX7_isWord_53 : decode cX7_isWord 53 = .ok (.iadd, 1) := by decide +kernel
theorem dX7_isWord_54 : decode cX7_isWord 54 = .ok (.iaload, 1) := by decide +kernel
theorem dX7_isWord_55 : decode cX7_isWord 55 = .ok (.aload_n 1, 1) := by decide +kernel
theorem dX7_isWord_56 : decode cX7_isWord 56 = .ok (.iload_n 3, 1) := by decide +kernel
theorem dX7_isWord_57 : decode cX7_isWord 57 = .ok (.invokevirtual 234, 3) := by decide +kernel
theorem dX7_isWord_60 : decode cX7_isWord 60 = .ok (.if_icmp .ne 7, 3) := by decide +kernel
theorem dX7_isWord_63 : decode cX7_isWord 63 = .ok (.iconst 1, 1) := by decide +kernel
theorem dX7_isWord_64 : decode cX7_isWord 64 = .ok (.goto 4, 3) := by decide +kernel
theorem dX7_isWord_67 : decode cX7_isWord 67 = .ok (.iconst 0, 1) := by decide +kernel
theorem dX7_isWord_68 : decode cX7_isWord 68 = .ok (.istore_n 2, 1) := by decide +kernel
theorem dX7_isWord_69 : decode cX7_isWord 69 = .ok (.iinc 3 1, 3) := by decide +kernel
theorem dX7_isWord_72 : decode cX7_isWord 72 = .ok (.goto (-40), 3) := by decide +kernel
theorem dX7_isWord_75 : decode cX7_isWord 75 = .ok (.iload_n 2, 1) := by decide +kernel
theorem dX7_isWord_76 : decode cX7_isWord 76 = .ok (.ireturn, 1) := by decide +kernel
theorem dX7_must_0 : decode cX7_must 0 = .ok (.aload_n 0, 1) := by decide +kernel
theorem dX7_must_1 : decode cX7_must 1 = .ok (.aload_n 0, 1) := by decide +kernel
theorem dX7_must_2 : decode cX7_must 2 = .ok (.getfield 238, 3) := by decide +kernel
theorem dX7_must_5 : decode cX7_must 5 = .ok (.ifCond .ne 7, 3) := by decide +kernel
theorem dX7_must_8 : decode cX7_must 8 = .ok (.iload_n 1, 1) := by decide +kernel
theorem dX7_must_9 : decode cX7_must 9 = .ok (.ifCond .ne 7, 3) := by decide +kernel
theorem dX7_must_12 : decode cX7_must 12 = .ok (.iconst 1, 1) := by decide +kernel
theorem dX7_must_13 : decode cX7_must 13 = .ok (.goto 4, 3) := by decide +kernel
theorem dX7_must_16 : decode cX7_must 16 = .ok (.iconst 0, 1) := by decide +kernel
theorem dX7_must_17 : decode cX7_must 17 = .ok (.putfield 238, 3) := by decide +kernel
theorem dX7_must_20 : decode cX7_must 20 = .ok (.aload_n 0, 1) := by decide +kernel
theorem dX7_must_21 : decode cX7_must 21 = .ok (.getfield 238, 3) := by decide +kernel
theorem dX7_must_24 : decode cX7_must 24 = .ok (.ifCond .ne 7, 3) := by decide +kernel
theorem dX7_must_27 : decode cX7_must 27 = .ok (.aload_n 0, 1) := by decide +kernel
theorem dX7_must_28 : decode cX7_must 28 = .ok (.invokevirtual 242, 3) := by decide +kernel
theorem dX7_must_31 : decode cX7_must 31 = .ok (.return_, 1) := by decide +kernel
theorem dX7_number_0 : decode cX7_number 0 = .ok (.aload_n 0, 1) := by decide +kernel
theorem dX7_number_1 : decode cX7_number 1 = .ok (.getfield 226, 3) := by decide +kernel
theorem dX7_number_4 : decode cX7_number 4 = .ok (.istore_n 3, 1) := by decide +kernel
theorem dX7_number_5 : decode cX7_number 5 = .ok (.aload_n 0, 1) := by decide +kernel
theorem dX7_number_6 : decode cX7_number 6 = .ok (.aload_n 0, 1) := by decide +kernel
theorem dX7_number_7 : decode cX7_number 7 = .ok (.getfield 229, 3) := by decide +kernel
theorem dX7_number_10 : decode cX7_number 10 = .ok (.iconst 2, 1) := by decide +kernel
theorem dX7_number_11 : decode cX7_number 11 = .ok (.if_icmp .ne 16, 3) := by decide +kernel
theorem dX7_number_14 : decode cX7_number 14 = .ok (.iload_n 3, 1) := by decide +kernel
theorem dX7_number_15 : decode cX7_number 15 = .ok (.iload_n 1, 1) := by decide +kernel
theorem dX7_number_16 : decode cX7_number 16 = .ok (.iload_n 2, 1) := by decide +kernel
theorem dX7_number_17 : decode cX7_number 17 = .ok (.invokestatic 81, 3) := by decide +kernel
theorem dX7_number_20 : decode cX7_number 20 = .ok (.ifCond .eq 7, 3) := by decide +kernel
theorem dX7_number_23 : decode cX7_number 23 = .ok (.iconst 1, 1) := by decide +kernel
theorem dX7_number_24 : decode cX7_number 24 = .ok (.goto 4, 3) := by decide +kernel
theorem dX7_number_27 : decode cX7_number 27 = .ok (.iconst 0, 1) := by decide +kernel
theorem dX7_number_28 : decode cX7_number 28 = .ok (.invokevirtual 245, 3) := by decide +kernel
theorem dX7_number_31 : decode cX7_number 31 = .ok (.iload_n 3, 1) := by decide +kernel
theorem dX7_number_32 : decode cX7_number 32 = .ok (.ireturn, 1) := by decide +kernel
theorem dX7_addItem_0 : decode cX7_addItem 0 = .ok (.aload_n 0, 1) := by decide +kernel
theorem dX7_addItem_1 : decode cX7_addItem 1 = .ok (.getfield 46, 3) := by decide +kernel
theorem dX7_addItem_4 : decode cX7_addItem 4 = .ok (.aload_n 0, 1) := by decide +kernel
theorem dX7_addItem_5 : decode cX7_addItem 5 = .ok (.getfield 249, 3) := by decide +kernel
theorem dX7_addItem_8 : decode cX7_addItem 8 = .ok (.iload_n 1, 1) := by decide +kernel
theorem dX7_addItem_9 : decode cX7_addItem 9 = .ok (.iastore, 1) := by decide +kernel
theorem dX7_addItem_10 : decode cX7_addItem 10 = .ok (.aload_n 0, 1) := by decide +kernel
theorem dX7_addItem_11 : decode cX7_addItem 11 = .ok (.getfield 49, 3) := by decide +kernel
theorem dX7_addItem_14 : decode cX7_addItem 14 = .ok (.aload_n 0, 1) := by decide +kernel
theorem dX7_addItem_15 : decode cX7_addItem 15 = .ok (.getfield 249, 3) := by decide +kernel
theorem dX7_addItem_18 : decode cX7_addItem 18 = .ok (.iload_n 2, 1) := by decide +kernel
theorem dX7_addItem_19 : decode cX7_addItem 19 = .ok (.iastore, 1) := by decide +kernel
theorem dX7_addItem_20 : decode cX7_addItem 20 = .ok (.aload_n 0, 1) := by decide +kernel
theorem dX7_addItem_21 : decode cX7_addItem 21 = .ok (.getfield 52, 3) := by decide +kernel
theorem dX7_addItem_24 : decode cX7_addItem 24 = .ok (.aload_n 0, 1) := by decide +kernel
theorem dX7_addItem_25 : decode cX7_addItem 25 = .ok (.getfield 249, 3) := by decide +kernel
theorem dX7_addItem_28 : decode cX7_addItem 28 = .ok (.iload_n 3, 1) := by decide +kernel
theorem dX7_addItem_29 : decode cX7_addItem 29 = .ok (.iastore, 1) := by decide +kernel
theorem dX7_addItem_30 : decode cX7_addItem 30 = .ok (.aload_n 0, 1) := by decide +kernel
theorem dX7_addItem_31 : decode cX7_addItem 31 = .ok (.getfield 55, 3) := by decide +kernel
theorem dX7_addItem_34 : decode cX7_addItem 34 = .ok (.aload_n 0, 1) := by decide +kernel
theorem dX7_addItem_35 : decode cX7_addItem 35 = .ok (.getfield 249, 3) := by decide +kernel
theorem dX7_addItem_38 : decode cX7_addItem 38 = .ok (.lload 4, 2) := by decide +kernel
theorem dX7_addItem_40 : decode cX7_addItem 40 = .ok (.lastore, 1) := by decide +kernel
theorem dX7_addItem_41 : decode cX7_addItem 41 = .ok (.aload_n 0, 1) := by decide +kernel
theorem dX7_addItem_42 : decode cX7_addItem 42 = .ok (.dup, 1) := by decide +kernel
theorem dX7_addItem_43 : decode cX7_addItem 43 = .ok (.getfield 249, 3) := by decide +kernel
theorem dX7_addItem_46 : decode cX7_addItem 46 = .ok (.iconst 1, 1) := by decide +kernel
theorem dX7_addItem_47 : decode cX7_addItem 47 = .ok (.iadd, 1) := by decide +kernel
theorem dX7_addItem_48 : decode cX7_addItem 48 = .ok (.putfield 249, 3) := by decide +kernel
theorem dX7_addItem_51 : decode cX7_addItem 51 = .ok (.return_, 1) := by decide +kernel
theorem dX7_perhaps_0 : decode cX7_perhaps 0 = .ok (.aload_n 0, 1) := by decide +kernel
theorem dX7_perhaps_1 : decode cX7_perhaps 1 = .ok (.getfield 238, 3) := by decide +kernel
theorem dX7_perhaps_4 : decode cX7_perhaps 4 = .ok (.ifCond .ne 11, 3) := by decide +kernel
theorem dX7_perhaps_7 : decode cX7_perhaps 7 = .ok (.aload_n 0, 1) := by decide +kernel
theorem dX7_perhaps_8 : decode cX7_perhaps 8 = .ok (.aload_n 1, 1) := by decide +kernel
theorem dX7_perhaps_9 : decode cX7_perhaps 9 = .ok (.invokevirtual 252, 3) := by decide +kernel
theorem dX7_perhaps_12 : decode cX7_perhaps 12 = .ok (.ifCond .ne 5, 3) := by decide +kernel
theorem dX7_perhaps_15 : decode cX7_perhaps 15 = .ok (.iload_n 2, 1) := by decide +kernel
theorem dX7_perhaps_16 : decode cX7_perhaps 16 = .ok (.ireturn, 1) := by decide +kernel
theorem dX7_perhaps_17 : decode cX7_perhaps 17 = .ok (.aload_n 0, 1) := by decide +kernel
theorem dX7_perhaps_18 : decode cX7_perhaps 18 = .ok (.iconst 1, 1) := by decide +kernel
theorem dX7_perhaps_19 : decode cX7_perhaps 19 = .ok (.invokevirtual 245, 3) := by decide +kernel
theorem dX7_perhaps_22 : decode cX7_perhaps 22 = .ok (.aload_n 0, 1) := by decide +kernel
theorem dX7_perhaps_23 : decode cX7_perhaps 23 = .ok (.iconst 0, 1) := by decide +kernel
theorem dX7_perhaps_24 : decode cX7_perhaps 24 = .ok (.bipush 11, 2) := by decide +kernel
theorem dX7_perhaps_26 : decode cX7_perhaps 26 = .ok (.invokevirtual 256, 3) := by decide +kernel
theorem dX7_perhaps_29 : decode cX7_perhaps 29 = .ok (.ireturn, 1) := by decide +kernel
theorem dX7_readAttache_0 : decode cX7_readAttache 0 = .ok (.aload_n 0, 1) := by decide +kernel
theorem dX7_readAttache_1 : decode cX7_readAttache 1 = .ok (.aload_n 0, 1) := by decide +kernel
theorem dX7_readAttache_2 : decode cX7_readAttache 2 = .ok (.getfield 259, 3) := by decide +kernel
theorem dX7_readAttache_5 : decode cX7_readAttache 5 = .ok (.bipush 8, 2) := by decide +kernel
theorem dX7_readAttache_7 : decode cX7_readAttache 7 = .ok (.if_icmp .ge 7, 3) := by decide +kernel
theorem dX7_readAttache_10 : decode cX7_readAttache 10 = .ok (.iconst 1, 1) := by decide +kernel
theorem dX7_readAttache_11 : decode cX7_readAttache 11 = .ok (.goto 4, 3) := by decide +kernel
theorem dX7_readAttache_14 : decode cX7_readAttache 14 = .ok (.iconst 0, 1) := by decide +kernel
theorem dX7_readAttache_15 : decode cX7_readAttache 15 = .ok (.invokevirtual 245, 3) := by decide +kernel
theorem dX7_readAttache_18 : decode cX7_readAttache 18 = .ok (.aload_n 0, 1) := by decide +kernel
theorem dX7_readAttache_19 : decode cX7_readAttache 19 = .ok (.aload_n 0, 1) := by decide +kernel
theorem dX7_readAttache_20 : decode cX7_readAttache 20 = .ok (.ldc_w 262, 3) := by decide +kernel
theorem dX7_readAttache_23 : decode cX7_readAttache 23 = .ok (.invokevirtual 252, 3) := by decide +kernel
theorem dX7_readAttache_26 : decode cX7_readAttache 26 = .ok (.invokevirtual 245, 3) := by decide +kernel
theorem dX7_readAttache_29 : decode cX7_readAttache 29 = .ok (.aload_n 0, 1) := by decide +kernel
theorem dX7_readAttache_30 : decode cX7_readAttache 30 = .ok (.iconst 0, 1) := by decide +kernel
theorem dX7_readAttache_31 : decode cX7_readAttache 31 = .ok (.iconst 1, 1) := by decide +kernel
theorem dX7_readAttache_32 : decode cX7_readAttache 32 = .ok (.invokevirtual 256, 3) := by decide +kernel
theorem dX7_readAttache_35 : decode cX7_readAttache 35 = .ok (.istore_n 2, 1) := by decide +kernel
theorem dX7_readAttache_36 : decode cX7_readAttache 36 = .ok (.aload_n 0, 1) := by decide +kernel
theorem dX7_readAttache_37 : decode cX7_readAttache 37 = .ok (.ldc_w 264, 3) := by decide +kernel
theorem dX7_readAttache_40 : decode cX7_readAttache 40 = .ok (.iconst 0, 1) := by decide +kernel
theorem dX7_readAttache_41 : decode cX7_readAttache 41 = .ok (.invokevirtual 266, 3) := by decide +kernel
theorem dX7_readAttache_44 : decode cX7_readAttache 44 = .ok (.istore_n 3, 1) := by decide +kernel
theorem dX7_readAttache_45 : decode cX7_readAttache 45 = .ok (.aload_n 0, 1) := by decide +kernel
theorem dX7_readAttache_46 : decode cX7_readAttache 46 = .ok (.ldc_w 270, 3) := by decide +kernel
theorem dX7_readAttache_49 : decode cX7_readAttache 49 = .ok (.iconst (-1), 1) := by decide +kernel
theorem dX7_readAttache_50 : decode cX7_readAttache 50 = .ok (.invokevirtual 266, 3) := by decide +kernel
theorem dX7_readAttache_53 : decode cX7_readAttache 53 = .ok (.istore 4, 2) := by decide +kernel
theorem dX7_readAttache_55 : decode cX7_readAttache 55 = .ok (.aload_n 0, 1) := by decide +kernel
theorem dX7_readAttache_56 : decode cX7_readAttache 56 = .ok (.iload_n 1, 1) := by decide +kernel
theorem dX7_readAttache_57 : decode cX7_readAttache 57 = .ok (.iload_n 2, 1) := by decide +kernel
theorem dX7_readAttache_58 : decode cX7_readAttache 58 = .ok (.iload_n 3, 1) := by decide +kernel
theorem dX7_readAttache_59 : decode cX7_readAttache 59 = .ok (.iload 4, 2) := by decide +kernel
theorem dX7_readAttache_61 : decode cX7_readAttache 61 = .ok (.ifCond .ge 7, 3) := by decide +kernel
theorem dX7_readAttache_64 : decode cX7_readAttache 64 = .ok (.lconst 0, 1) := by decide +kernel
theorem dX7_readAttache_65 : decode cX7_readAttache 65 = .ok (.goto 10, 3) := by decide +kernel
theorem dX7_readAttache_68 : decode cX7_readAttache 68 = .ok (.lconst 1, 1) := by decide +kernel
theorem dX7_readAttache_69 : decode cX7_readAttache 69 = .ok (.iload 4, 2) := by decide +kernel
theorem dX7_readAttache_71 : decode cX7_readAttache 71 = .ok (.bipush 31, 2) := by decide +kernel
theorem dX7_readAttache_73 : decode cX7_readAttache 73 = .ok (.iand, 1) := by decide +kernel
theorem dX7_readAttache_74 : decode cX7_readAttache 74 = .ok (.lshl, 1) := by decide +kernel
theorem dX7_readAttache_75 : decode cX7_readAttache 75 = .ok (.invokevirtual 272, 3) := by decide +kernel
theorem dX7_readAttache_78 : decode cX7_readAttache 78 = .ok (.aload_n 0, 1) := by decide +kernel
theorem dX7_readAttache_79 : decode cX7_readAttache 79 = .ok (.dup, 1) := by decide +kernel
theorem dX7_readAttache_80 : decode cX7_readAttache 80 = .ok (.getfield 259, 3) := by decide +kernel
theorem dX7_readAttache_83 : decode cX7_readAttache 83 = .ok (.iconst 1, 1) := by decide +kernel
theorem dX7_readAttache_84 : decode cX7_readAttache 84 = .ok (.iadd, 1) := by decide +kernel
theorem dX7_readAttache_85 : decode cX7_readAttache 85 = .ok (.putfield 259, 3) := by decide +kernel
theorem dX7_readAttache_88 : decode cX7_readAttache 88 = .ok (.return_, 1) := by decide +kernel
theorem dX7_readTune_0 : decode cX7_readTune 0 = .ok (.aload_n 0, 1) := by decide +kernel
theorem dX7_readTune_1 : decode cX7_readTune 1 = .ok (.iconst 1, 1) := by decide +kernel
theorem dX7_readTune_2 : decode cX7_readTune 2 = .ok (.invokevirtual 245, 3) := by decide +kernel
theorem dX7_readTune_5 : decode cX7_readTune 5 = .ok (.aload_n 0, 1) := by decide +kernel
theorem dX7_readTune_6 : decode cX7_readTune 6 = .ok (.iconst 0, 1) := by decide +kernel
theorem dX7_readTune_7 : decode cX7_readTune 7 = .ok (.iconst 1, 1) := by decide +kernel
theorem dX7_readTune_8 : decode cX7_readTune 8 = .ok (.invokevirtual 256, 3) := by decide +kernel
theorem dX7_readTune_11 : decode cX7_readTune 11 = .ok (.istore_n 1, 1) := by decide +kernel
theorem dX7_readTune_12 : decode cX7_readTune 12 = .ok (.aload_n 0, 1) := by decide +kernel
theorem dX7_readTune_13 : decode cX7_readTune 13 = .ok (.iconst 0, 1) := by decide +kernel
theorem dX7_readTune_14 : decode cX7_readTune 14 = .ok (.bipush 11, 2) := by decide +kernel
theorem dX7_readTune_16 : decode cX7_readTune 16 = .ok (.invokevirtual 256, 3) := by decide +kernel
theorem dX7_readTune_19 : decode cX7_readTune 19 = .ok (.i2l, 1) := by decide +kernel
theorem dX7_readTune_20 : decode cX7_readTune 20 = .ok (.lstore_n 2, 1) := by decide +kernel
theorem dX7_readTune_21 : decode cX7_readTune 21 = .ok (.iconst 1, 1) := by decide +kernel
theorem dX7_readTune_22 : decode cX7_readTune 22 = .ok (.istore 4, 2) := by decide +kernel
theorem dX7_readTune_24 : decode cX7_readTune 24 = .ok (.aload_n 0, 1) := by decide +kernel
theorem dX7_readTune_25 : decode cX7_readTune 25 = .ok (.getfield 238, 3) := by decide +kernel
theorem dX7_readTune_28 : decode cX7_readTune 28 = .ok (.ifCond .ne 78, 3) := by decide +kernel
theorem dX7_readTune_31 : decode cX7_readTune 31 = .ok (.aload_n 0, 1) := by decide +kernel
theorem dX7_readTune_32 : decode cX7_readTune 32 = .ok (.getfield 229, 3) := by decide +kernel
theorem dX7_readTune_35 : decode cX7_readTune 35 = .ok (.iconst 2, 1) := by decide +kernel
theorem dX7_readTune_36 : decode cX7_readTune 36 = .ok (.if_icmp .ne 70, 3) := by decide +kernel
theorem dX7_readTune_39 : decode cX7_readTune 39 = .ok (.iload 4, 2) := by decide +kernel
theorem dX7_readTune_41 : decode cX7_readTune 41 = .ok (.bipush 12, 2) := by decide +kernel
theorem dX7_readTune_43 : decode cX7_readTune 43 = .ok (.if_icmp .ge 7, 3) := by decide +kernel
theorem dX7_readTune_46 : decode cX7_readTune 46 = .ok (.iconst 1, 1) := by decide +kernel
theorem dX7_readTune_47 : decode cX7_readTune 47 = .ok (.goto 4, 3) := by decide +kernel
theorem dX7_readTune_50 : decode cX7_readTune 50 = .ok (.iconst 0, 1) := by decide +kernel
theorem dX7_readTune_51 : decode cX7_readTune 51 = .ok (.istore 5, 2) := by decide +kernel
theorem dX7_readTune_53 : decode cX7_readTune 53 = .ok (.lload_n 2, 1) := by decide +kernel
theorem dX7_readTune_54 : decode cX7_readTune 54 = .ok (.iload 5, 2) := by decide +kernel
theorem dX7_readTune_56 : decode cX7_readTune 56 = .ok (.ifCond .eq 16, 3) := by decide +kernel
theorem dX7_readTune_59 : decode cX7_readTune 59 = .ok (.aload_n 0, 1) := by decide +kernel
theorem dX7_readTune_60 : decode cX7_readTune 60 = .ok (.getfield 226, 3) := by decide +kernel
theorem dX7_readTune_63 : decode cX7_readTune 63 = .ok (.i2l, 1) := by decide +kernel
theorem dX7_readTune_64 : decode cX7_readTune 64 = .ok (.iconst 4, 1) := by decide +kernel
theorem dX7_readTune_65 : decode cX7_readTune 65 = .ok (.iload 4, 2) := by decide +kernel
theorem dX7_readTune_67 : decode cX7_readTune 67 = .ok (.imul, 1) := by decide +kernel
theorem dX7_readTune_68 : decode cX7_readTune 68 = .ok (.lshl, 1) := by decide +kernel
theorem dX7_readTune_69 : decode cX7_readTune 69 = .ok (.goto 4, 3) := by decide +kernel
theorem dX7_readTune_72 : decode cX7_readTune 72 = .ok (.lconst 0, 1) := by decide +kernel
theorem dX7_readTune_73 : decode cX7_readTune 73 = .ok (.lor, 1) := by decide +kernel
theorem dX7_readTune_74 : decode cX7_readTune 74 = .ok (.lstore_n 2, 1) := by decide +kernel
theorem dX7_readTune_75 : decode cX7_readTune 75 = .ok (.aload_n 0, 1) := by decide +kernel
theorem dX7_readTune_76 : decode cX7_readTune 76 = .ok (.iload 5, 2) := by decide +kernel
theorem dX7_readTune_78 : decode cX7_readTune 78 = .ok (.ifCond .eq 18, 3) := by decide +kernel
theorem dX7_readTune_81 : decode cX7_readTune 81 = .ok (.aload_n 0, 1) := by decide +kernel
theorem dX7_readTune_82 : decode cX7_readTune 82 = .ok (.getfield 226, 3) := by decide +kernel
theorem dX7_readTune_85 : decode cX7_readTune 85 = .ok (.i2l, 1) := by decide +kernel
theorem dX7_readTune_86 : decode cX7_readTune 86 = .ok (.invokestatic 276, 3) := by decide +kernel
theorem dX7_readTune_89 : decode cX7_readTune 89 = .ok (.ifCond .eq 7, 3) := by decide +kernel
theorem dX7_readTune_92 : decode cX7_readTune 92 = .ok (.iconst 1, 1) := by decide +kernel
theorem dX7_readTune_93 : decode cX7_readTune 93 = .ok (.goto 4, 3) := by decide +kernel
theorem dX7_readTune_96 : decode cX7_readTune 96 = .ok (.iconst 0, 1) := by decide +kernel
theorem dX7_readTune_97 : decode cX7_readTune 97 = .ok (.invokevirtual 245, 3) := by decide +kernel
theorem dX7_readTune_100 : decode cX7_readTune 100 = .ok (.iinc 4 1, 3) := by decide +kernel
theorem dX7_readTune_103 : decode cX7_readTune 103 = .ok (.goto (-79), 3) := by decide +kernel
theorem dX7_readTune_106 : decode cX7_readTune 106 = .ok (.aload_n 0, 1) := by decide +kernel
theorem dX7_readTune_107 : decode cX7_readTune 107 = .ok (.iconst (-1), 1) := by decide +kernel
theorem dX7_readTune_108 : decode cX7_readTune 108 = .ok (.iload_n 1, 1) := by decide +kernel
theorem dX7_readTune_109 : decode cX7_readTune 109 = .ok (.iload 4, 2) := by decide +kernel
theorem dX7_readTune_111 : decode cX7_readTune 111 = .ok (.lload_n 2, 1) := by decide +kernel
theorem dX7_readTune_112 : decode cX7_readTune 112 = .ok (.invokevirtual 272, 3) := by decide +kernel
theorem dX7_readTune_115 : decode cX7_readTune 115 = .ok (.return_, 1) := by decide +kernel
theorem dX7_readItem_0 : decode cX7_readItem 0 = .ok (.iconst (-1), 1) := by decide +kernel
theorem dX7_readItem_1 : decode cX7_readItem 1 = .ok (.istore_n 1, 1) := by decide +kernel
theorem dX7_readItem_2 : decode cX7_readItem 2 = .ok (.iconst 0, 1) := by decide +kernel
theorem dX7_readItem_3 : decode cX7_readItem 3 = .ok (.istore_n 2, 1) := by decide +kernel
theorem dX7_readItem_4 : decode cX7_readItem 4 = .ok (.iload_n 2, 1) := by decide +kernel
theorem dX7_readItem_5 : decode cX7_readItem 5 = .ok (.aload_n 0, 1) := by decide +kernel
theorem dX7_readItem_6 : decode cX7_readItem 6 = .ok (.getfield 42, 3) := by decide +kernel
theorem dX7_readItem_9 : decode cX7_readItem 9 = .ok (.arraylength, 1) := by decide +kernel
theorem dX7_readItem_10 : decode cX7_readItem 10 = .ok (.if_icmp .ge 28, 3) := by decide +kernel
theorem dX7_readItem_13 : decode cX7_readItem 13 = .ok (.aload_n 0, 1) := by decide +kernel
theorem dX7_readItem_14 : decode cX7_readItem 14 = .ok (.aload_n 0, 1) := by decide +kernel
theorem dX7_readItem_15 : decode cX7_readItem 15 = .ok (.getfield 42, 3) := by decide +kernel
theorem dX7_readItem_18 : decode cX7_readItem 18 = .ok (.iload_n 2, 1) := by decide +kernel
theorem dX7_readItem_19 : decode cX7_readItem 19 = .ok (.aaload, 1) := by decide +kernel
theorem dX7_readItem_20 : decode cX7_readItem 20 = .ok (.invokevirtual 252, 3) := by decide +kernel
theorem dX7_readItem_23 : decode cX7_readItem 23 = .ok (.ifCond .eq 7, 3) := by decide +kernel
theorem dX7_readItem_26 : decode cX7_readItem 26 = .ok (.iload_n 2, 1) := by decide +kernel
theorem dX7_readItem_27 : decode cX7_readItem 27 = .ok (.goto 4, 3) := by decide +kernel
theorem dX7_readItem_30 : decode cX7_readItem 30 = .ok (.iload_n 1, 1) := by decide +kernel
theorem dX7_readItem_31 : decode cX7_readItem 31 = .ok (.istore_n 1, 1) := by decide +kernel
theorem dX7_readItem_32 : decode cX7_readItem 32 = .ok (.iinc 2 1, 3) := by decide +kernel
theorem dX7_readItem_35 : decode cX7_readItem 35 = .ok (.goto (-31), 3) := by decide +kernel
theorem dX7_readItem_38 : decode cX7_readItem 38 = .ok (.iload_n 1, 1) := by decide +kernel
theorem dX7_readItem_39 : decode cX7_readItem 39 = .ok (.ifCond .lt 11, 3) := by decide +kernel
theorem dX7_readItem_42 : decode cX7_readItem 42 = .ok (.aload_n 0, 1) := by decide +kernel
theorem dX7_readItem_43 : decode cX7_readItem 43 = .ok (.iload_n 1, 1) := by decide +kernel
theorem dX7_readItem_44 : decode cX7_readItem 44 = .ok (.invokevirtual 280, 3) := by decide +kernel
theorem dX7_readItem_47 : decode cX7_readItem 47 = .ok (.goto 25, 3) := by decide +kernel
theorem dX7_readItem_50 : decode cX7_readItem 50 = .ok (.aload_n 0, 1) := by decide +kernel
theorem dX7_readItem_51 : decode cX7_readItem 51 = .ok (.ldc_w 283, 3) := by decide +kernel
theorem dX7_readItem_54 : decode cX7_readItem 54 = .ok (.invokevirtual 252, 3) := by decide +kernel
theorem dX7_readItem_57 : decode cX7_readItem 57 = .ok (.ifCond .eq 10, 3) := by decide +kernel
theorem dX7_readItem_60 : decode cX7_readItem 60 = .ok (.aload_n 0, 1) := by decide +kernel
theorem dX7_readItem_61 : decode cX7_readItem 61 = .ok (.invokevirtual 285, 3) := by decide +kernel
theorem dX7_readItem_64 : decode cX7_readItem 64 = .ok (.goto 8, 3) := by decide +kernel
theorem dX7_readItem_67 : decode cX7_readItem 67 = .ok (.aload_n 0, 1) := by decide +kernel
theorem dX7_readItem_68 : decode cX7_readItem 68 = .ok (.iconst 0, 1) := by decide +kernel
theorem dX7_readItem_69 : decode cX7_readItem 69 = .ok (.invokevirtual 245, 3) := by decide +kernel
theorem dX7_readItem_72 : decode cX7_readItem 72 = .ok (.return_, 1) := by decide +kernel
theorem dX7_isToldSo_0 : decode cX7_isToldSo 0 = .ok (.aload_n 0, 1) := by decide +kernel
theorem dX7_isToldSo_1 : decode cX7_isToldSo 1 = .ok (.getfield 46, 3) := by decide +kernel
theorem dX7_isToldSo_4 : decode cX7_isToldSo 4 = .ok (.iload_n 1, 1) := by decide +kernel
theorem dX7_isToldSo_5 : decode cX7_isToldSo 5 = .ok (.iaload, 1) := by decide +kernel
theorem dX7_isToldSo_6 : decode cX7_isToldSo 6 = .ok (.ifCond .ge 28, 3) := by decide +kernel
theorem dX7_isToldSo_9 : decode cX7_isToldSo 9 = .ok (.aload_n 0, 1) := by decide +kernel
theorem dX7_isToldSo_10 : decode cX7_isToldSo 10 = .ok (.aload_n 0, 1) := by decide +kernel
theorem dX7_isToldSo_11 : decode cX7_isToldSo 11 = .ok (.getfield 49, 3) := by decide +kernel
theorem dX7_isToldSo_14 : decode cX7_isToldSo 14 = .ok (.iload_n 1, 1) := by decide +kernel
theorem dX7_isToldSo_15 : decode cX7_isToldSo 15 = .ok (.iaload, 1) := by decide +kernel
theorem dX7_isToldSo_16 : decode cX7_isToldSo 16 = .ok (.aload_n 0, 1) := by decide +kernel
theorem dX7_isToldSo_17 : decode cX7_isToldSo 17 = .ok (.getfield 52, 3) := by decide +kernel
theorem dX7_isToldSo_20 : decode cX7_isToldSo 20 = .ok (.iload_n 1, 1) := by decide +kernel
theorem dX7_isToldSo_21 : decode cX7_isToldSo 21 = .ok (.iaload, 1) := by decide +kernel
theorem dX7_isToldSo_22 : decode cX7_isToldSo 22 = .ok (.aload_n 0, 1) := by decide +kernel
theorem dX7_isToldSo_23 : decode cX7_isToldSo 23 = .ok (.getfield 55, 3) := by decide +kernel
theorem dX7_isToldSo_26 : decode cX7_isToldSo 26 = .ok (.iload_n 1, 1) := by decide +kernel
theorem dX7_isToldSo_27 : decode cX7_isToldSo 27 = .ok (.laload, 1) := by decide +kernel
theorem dX7_isToldSo_28 : decode cX7_isToldSo 28 = .ok (.invokevirtual 95, 3) := by decide +kernel
theorem dX7_isToldSo_31 : decode cX7_isToldSo 31 = .ok (.goto 32, 3) := by decide +kernel
theorem dX7_isToldSo_34 : decode cX7_isToldSo 34 = .ok (.aload_n 0, 1) := by decide +kernel
theorem dX7_isToldSo_35 : decode cX7_isToldSo 35 = .ok (.aload_n 0, 1) := by decide +kernel
theorem dX7_isToldSo_36 : decode cX7_isToldSo 36 = .ok (.getfield 46, 3) := by decide +kernel
theorem dX7_isToldSo_39 : decode cX7_isToldSo 39 = .ok (.iload_n 1, 1) := by decide +kernel
theorem dX7_isToldSo_40 : decode cX7_isToldSo 40 = .ok (.iaload, 1) := by decide +kernel
theorem dX7_isToldSo_41 : decode cX7_isToldSo 41 = .ok (.aload_n 0, 1) := by decide +kernel
theorem dX7_isToldSo_42 : decode cX7_isToldSo 42 = .ok (.getfield 49, 3) := by decide +kernel
theorem dX7_isToldSo_45 : decode cX7_isToldSo 45 = .ok (.iload_n 1, 1) := by decide +kernel
theorem dX7_isToldSo_46 : decode cX7_isToldSo 46 = .ok (.iaload, 1) := by decide +kernel
theorem dX7_isToldSo_47 : decode cX7_isToldSo 47 = .ok (.aload_n 0, 1) := by decide +kernel
theorem dX7_isToldSo_48 : decode cX7_isToldSo 48 = .ok (.getfield 52, 3) := by decide +kernel
theorem dX7_isToldSo_51 : decode cX7_isToldSo 51 = .ok (.iload_n 1, 1) := by decide +kernel
theorem dX7_isToldSo_52 : decode cX7_isToldSo 52 = .ok (.iaload, 1) := by decide +kernel
theorem dX7_isToldSo_53 : decode cX7_isToldSo 53 = .ok (.aload_n 0, 1) := by decide +kernel
theorem dX7_isToldSo_54 : decode cX7_isToldSo 54 = .ok (.getfield 55, 3) := by decide +kernel
theorem dX7_isToldSo_57 : decode cX7_isToldSo 57 = .ok (.iload_n 1, 1) := by decide +kernel
theorem dX7_isToldSo_58 : decode cX7_isToldSo 58 = .ok (.laload, 1) := by decide +kernel
theorem dX7_isToldSo_59 : decode cX7_isToldSo 59 = .ok (.l2i, 1) := by decide +kernel
theorem dX7_isToldSo_60 : decode cX7_isToldSo 60 = .ok (.invokevirtual 144, 3) := by decide +kernel
theorem dX7_isToldSo_63 : decode cX7_isToldSo 63 = .ok (.ireturn, 1) := by decide +kernel
theorem dX7_affair_0 : decode cX7_affair 0 = .ok (.aload_n 0, 1) := by decide +kernel
theorem dX7_affair_1 : decode cX7_affair 1 = .ok (.iconst 0, 1) := by decide +kernel
theorem dX7_affair_2 : decode cX7_affair 2 = .ok (.putfield 217, 3) := by decide +kernel
theorem dX7_affair_5 : decode cX7_affair 5 = .ok (.aload_n 0, 1) := by decide +kernel
theorem dX7_affair_6 : decode cX7_affair 6 = .ok (.iconst 0, 1) := by decide +kernel
theorem dX7_affair_7 : decode cX7_affair 7 = .ok (.putfield 238, 3) := by decide +kernel
theorem dX7_affair_10 : decode cX7_affair 10 = .ok (.aload_n 0, 1) := by decide +kernel
theorem dX7_affair_11 : decode cX7_affair 11 = .ok (.iconst 0, 1) := by decide +kernel
theorem dX7_affair_12 : decode cX7_affair 12 = .ok (.putfield 249, 3) := by decide +kernel
theorem dX7_affair_15 : decode cX7_affair 15 = .ok (.aload_n 0, 1) := by decide +kernel
theorem dX7_affair_16 : decode cX7_affair 16 = .ok (.aload_n 0, 1) := by decide +kernel
theorem dX7_affair_17 : decode cX7_affair 17 = .ok (.getfield 9, 3) := by decide +kernel
theorem dX7_affair_20 : decode cX7_affair 20 = .ok (.iconst 1, 1) := by decide +kernel
theorem dX7_affair_21 : decode cX7_affair 21 = .ok (.iaload, 1) := by decide +kernel
theorem dX7_affair_22 : decode cX7_affair 22 = .ok (.putfield 259, 3) := by decide +kernel
theorem dX7_affair_25 : decode cX7_affair 25 = .ok (.aload_n 0, 1) := by decide +kernel
theorem dX7_affair_26 : decode cX7_affair 26 = .ok (.invokevirtual 242, 3) := by decide +kernel
theorem dX7_affair_29 : decode cX7_affair 29 = .ok (.aload_n 0, 1) := by decide +kernel
theorem dX7_affair_30 : decode cX7_affair 30 = .ok (.invokevirtual 288, 3) := by decide +kernel
theorem dX7_affair_33 : decode cX7_affair 33 = .ok (.aload_n 0, 1) := by decide +kernel
theorem dX7_affair_34 : decode cX7_affair 34 = .ok (.getfield 238, 3) := by decide +kernel
theorem dX7_affair_37 : decode cX7_affair 37 = .ok (.ifCond .ne 37, 3) := by decide +kernel
theorem dX7_affair_40 : decode cX7_affair 40 = .ok (.aload_n 0, 1) := by decide +kernel
theorem dX7_affair_41 : decode cX7_affair 41 = .ok (.getfield 229, 3) := by decide +kernel
theorem dX7_affair_44 : decode cX7_affair 44 = .ok (.iconst 3, 1) := by decide +kernel
theorem dX7_affair_45 : decode cX7_affair 45 = .ok (.if_icmp .ne 29, 3) := by decide +kernel
theorem dX7_affair_48 : decode cX7_affair 48 = .ok (.aload_n 0, 1) := by decide +kernel
theorem dX7_affair_49 : decode cX7_affair 49 = .ok (.getfield 25, 3) := by decide +kernel
theorem dX7_affair_52 : decode cX7_affair 52 = .ok (.aload_n 0, 1) := by decide +kernel
theorem dX7_affair_53 : decode cX7_affair 53 = .ok (.getfield 220, 3) := by decide +kernel
theorem dX7_affair_56 : decode cX7_affair 56 = .ok (.iaload, 1) := by decide +kernel
theorem dX7_affair_57 : decode cX7_affair 57 = .ok (.bipush 59, 2) := by decide +kernel
theorem dX7_affair_59 : decode cX7_affair 59 = .ok (.if_icmp .ne 15, 3) := by decide +kernel
theorem dX7_affair_62 : decode cX7_affair 62 = .ok (.aload_n 0, 1) := by decide +kernel
theorem dX7_affair_63 : decode cX7_affair 63 = .ok (.iconst 1, 1) := by decide +kernel
theorem dX7_affair_64 : decode cX7_affair 64 = .ok (.invokevirtual 245, 3) := by decide +kernel
theorem dX7_affair_67 : decode cX7_affair 67 = .ok (.aload_n 0, 1) := by decide +kernel
theorem dX7_affair_68 : decode cX7_affair 68 = .ok (.invokevirtual 288, 3) := by decide +kernel
theorem dX7_affair_71 : decode cX7_affair 71 = .ok (.goto (-38), 3) := by decide +kernel
theorem dX7_affair_74 : decode cX7_affair 74 = .ok (.aload_n 0, 1) := by decide +kernel
theorem dX7_affair_75 : decode cX7_affair 75 = .ok (.aload_n 0, 1) := by decide +kernel
theorem dX7_affair_76 : decode cX7_affair 76 = .ok (.getfield 229, 3) := by decide +kernel
theorem dX7_affair_79 : decode cX7_affair 79 = .ok (.ifCond .ne 7, 3) := by decide +kernel
theorem dX7_affair_82 : decode cX7_affair 82 = .ok (.iconst 1, 1) := by decide +kernel
theorem dX7_affair_83 : decode cX7_affair 83 = .ok (.goto 4, 3) := by decide +kernel
theorem dX7_affair_86 : decode cX7_affair 86 = .ok (.iconst 0, 1) := by decide +kernel
theorem dX7_affair_87 : decode cX7_affair 87 = .ok (.invokevirtual 245, 3) := by decide +kernel
theorem dX7_affair_90 : decode cX7_affair 90 = .ok (.aload_n 0, 1) := by decide +kernel
theorem dX7_affair_91 : decode cX7_affair 91 = .ok (.iconst 0, 1) := by decide +kernel
theorem dX7_affair_92 : decode cX7_affair 92 = .ok (.putfield 213, 3) := by decide +kernel
theorem dX7_affair_95 : decode cX7_affair 95 = .ok (.aload_n 0, 1) := by decide +kernel
theorem dX7_affair_96 : decode cX7_affair 96 = .ok (.getfield 238, 3) := by decide +kernel
theorem dX7_affair_99 : decode cX7_affair 99 = .ok (.ifCond .eq 10, 3) := by decide +kernel
theorem dX7_affair_102 : decode cX7_affair 102 = .ok (.iconst (-1), 1) := by decide +kernel
theorem dX7_affair_103 : decode cX7_affair 103 = .ok (.aload_n 0, 1) := by decide +kernel
theorem dX7_affair_104 : decode cX7_affair 104 = .ok (.getfield 220, 3) := by decide +kernel
theorem dX7_affair_107 : decode cX7_affair 107 = .ok (.isub, 1) := by decide +kernel
theorem dX7_affair_108 : decode cX7_affair 108 = .ok (.ireturn, 1) := by decide +kernel
theorem dX7_affair_109 : decode cX7_affair 109 = .ok (.iconst 0, 1) := by decide +kernel
theorem dX7_affair_110 : decode cX7_affair 110 = .ok (.istore_n 1, 1) := by decide +kernel
theorem dX7_affair_111 : decode cX7_affair 111 = .ok (.iconst 0, 1) := by decide +kernel
theorem dX7_affair_112 : decode cX7_affair 112 = .ok (.istore_n 2, 1) := by decide +kernel
theorem dX7_affair_113 : decode cX7_affair 113 = .ok (.iload_n 2, 1) := by decide +kernel
theorem dX7_affair_114 : decode cX7_affair 114 = .ok (.aload_n 0, 1) := by decide +kernel
theorem dX7_affair_115 : decode cX7_affair 115 = .ok (.getfield 249, 3) := by decide +kernel
theorem dX7_affair_118 : decode cX7_affair 118 = .ok (.if_icmp .ge 25, 3) := by decide +kernel
theorem dX7_affair_121 : decode cX7_affair 121 = .ok (.iload_n 1, 1) := by decide +kernel
theorem dX7_affair_122 : decode cX7_affair 122 = .ok (.aload_n 0, 1) := by decide +kernel
theorem dX7_affair_123 : decode cX7_affair 123 = .ok (.iload_n 2, 1) := by decide +kernel
theorem dX7_affair_124 : decode cX7_affair 124 = .ok (.invokevirtual 291, 3) := by decide +kernel
theorem dX7_affair_127 : decode cX7_affair 127 = .ok (.ifCond .ge 7, 3) := by decide +kernel
theorem dX7_affair_130 : decode cX7_affair 130 = .ok (.iconst 0, 1) := by decide +kernel
theorem dX7_affair_131 : decode cX7_affair 131 = .ok (.goto 4, 3) := by decide +kernel
theorem dX7_affair_134 : decode cX7_affair 134 = .ok (.iconst 1, 1) := by decide +kernel
theorem dX7_affair_135 : decode cX7_affair 135 = .ok (.iadd, 1) := by decide +kernel
theorem dX7_affair_136 : decode cX7_affair 136 = .ok (.istore_n 1, 1) := by decide +kernel
theorem dX7_affair_137 : decode cX7_affair 137 = .ok (.iinc 2 1, 3) := by decide +kernel
theorem dX7_affair_140 : decode cX7_affair 140 = .ok (.goto (-27), 3) := by decide +kernel
theorem dX7_affair_143 : decode cX7_affair 143 = .ok (.iload_n 1, 1) := by decide +kernel
theorem dX7_affair_144 : decode cX7_affair 144 = .ok (.ireturn, 1) := by decide +kernel
theorem dX7_isSheet_0 : decode cX7_isSheet 0 = .ok (.iload_n 0, 1) := by decide +kernel
theorem dX7_isSheet_1 : decode cX7_isSheet 1 = .ok (.iconst 0, 1) := by decide +kernel
theorem dX7_isSheet_2 : decode cX7_isSheet 2 = .ok (.iconst 3, 1) := by decide +kernel
theorem dX7_isSheet_3 : decode cX7_isSheet 3 = .ok (.invokestatic 81, 3) := by decide +kernel
theorem dX7_isSheet_6 : decode cX7_isSheet 6 = .ok (.ireturn, 1) := by decide +kernel
theorem dX7_cutTo_0 : decode cX7_cutTo 0 = .ok (.iload_n 2, 1) := by decide +kernel
theorem dX7_cutTo_1 : decode cX7_cutTo 1 = .ok (.bipush 8, 2) := by decide +kernel
theorem dX7_cutTo_3 : decode cX7_cutTo 3 = .ok (.if_icmp .ne 10, 3) := by decide +kernel
theorem dX7_cutTo_6 : decode cX7_cutTo 6 = .ok (.lload_n 0, 1) := by decide +kernel
theorem dX7_cutTo_7 : decode cX7_cutTo 7 = .ok (.l2i, 1) := by decide +kernel
theorem dX7_cutTo_8 : decode cX7_cutTo 8 = .ok (.i2b, 1) := by decide +kernel
theorem dX7_cutTo_9 : decode cX7_cutTo 9 = .ok (.i2l, 1) := by decide +kernel
theorem dX7_cutTo_10 : decode cX7_cutTo 10 = .ok (.goto 17, 3) := by decide +kernel
theorem dX7_cutTo_13 : decode cX7_cutTo 13 = .ok (.iload_n 2, 1) := by decide +kernel
theorem dX7_cutTo_14 : decode cX7_cutTo 14 = .ok (.bipush 16, 2) := by decide +kernel
theorem dX7_cutTo_16 : decode cX7_cutTo 16 = .ok (.if_icmp .ne 10, 3) := by decide +kernel
theorem dX7_cutTo_19 : decode cX7_cutTo 19 = .ok (.lload_n 0, 1) := by decide +kernel
theorem dX7_cutTo_20 : decode cX7_cutTo 20 = .ok (.l2i, 1) := by decide +kernel
theorem dX7_cutTo_21 : decode cX7_cutTo 21 = .ok (.i2s, 1) := by decide +kernel
theorem dX7_cutTo_22 : decode cX7_cutTo 22 = .ok (.i2l, 1) := by decide +kernel
theorem dX7_cutTo_23 : decode cX7_cutTo 23 = .ok (.goto 4, 3) := by decide +kernel
theorem dX7_cutTo_26 : decode cX7_cutTo 26 = .ok (.lload_n 0, 1) := by decide +kernel
theorem dX7_cutTo_27 : decode cX7_cutTo 27 = .ok (.lreturn, 1) := by decide +kernel
theorem dX7_sheet_0 : decode cX7_sheet 0 = .ok (.iload_n 1, 1) := by decide +kernel
theorem dX7_sheet_1 : decode cX7_sheet 1 = .ok (.invokestatic 294, 3) := by decide +kernel
theorem dX7_sheet_4 : decode cX7_sheet 4 = .ok (.ifCond .eq 25, 3) := by decide +kernel
theorem dX7_sheet_7 : decode cX7_sheet 7 = .ok (.iload_n 2, 1) := by decide +kernel
theorem dX7_sheet_8 : decode cX7_sheet 8 = .ok (.ifCond .eq 28, 3) := by decide +kernel
theorem dX7_sheet_11 : decode cX7_sheet 11 = .ok (.iload_n 2, 1) := by decide +kernel
theorem dX7_sheet_12 : decode cX7_sheet 12 = .ok (.bipush 8, 2) := by decide +kernel
theorem dX7_sheet_14 : decode cX7_sheet 14 = .ok (.if_icmp .eq 22, 3) := by decide +kernel
theorem dX7_sheet_17 : decode cX7_sheet 17 = .ok (.iload_n 2, 1) := by decide +kernel
theorem dX7_sheet_18 : decode cX7_sheet 18 = .ok (.bipush 16, 2) := by decide +kernel
theorem dX7_sheet_20 : decode cX7_sheet 20 = .ok (.if_icmp .eq 16, 3) := by decide +kernel
theorem dX7_sheet_23 : decode cX7_sheet 23 = .ok (.iload_n 2, 1) := by decide +kernel
theorem dX7_sheet_24 : decode cX7_sheet 24 = .ok (.bipush 64, 2) := by decide +kernel
theorem dX7_sheet_26 : decode cX7_sheet 26 = .ok (.if_icmp .eq 10, 3) := by decide +kernel
theorem dX7_sheet_29 : decode cX7_sheet 29 = .ok (.aload_n 0, 1) := by decide +kernel
theorem dX7_sheet_30 : decode cX7_sheet 30 = .ok (.ldc 71, 2) := by decide +kernel
theorem dX7_sheet_32 : decode cX7_sheet 32 = .ok (.invokevirtual 77, 3) := by decide +kernel
theorem dX7_sheet_35 : decode cX7_sheet 35 = .ok (.ireturn, 1) := by decide +kernel
theorem dX7_sheet_36 : decode cX7_sheet 36 = .ok (.iload_n 3, 1) := by decide +kernel
theorem dX7_sheet_37 : decode cX7_sheet 37 = .ok (.ifCond .ge 11, 3) := by decide +kernel
theorem dX7_sheet_40 : decode cX7_sheet 40 = .ok (.aload_n 0, 1) := by decide +kernel
theorem dX7_sheet_41 : decode cX7_sheet 41 = .ok (.ldc_w 297, 3) := by decide +kernel
theorem dX7_sheet_44 : decode cX7_sheet 44 = .ok (.invokevirtual 77, 3) := by decide +kernel
theorem dX7_sheet_47 : decode cX7_sheet 47 = .ok (.ireturn, 1) := by decide +kernel
theorem dX7_sheet_48 : decode cX7_sheet 48 = .ok (.iload_n 3, 1) := by decide +kernel
theorem dX7_sheet_49 : decode cX7_sheet 49 = .ok (.bipush 40, 2) := by decide +kernel
theorem dX7_sheet_51 : decode cX7_sheet 51 = .ok (.if_icmp .le 10, 3) := by decide +kernel
theorem dX7_sheet_54 : decode cX7_sheet 54 = .ok (.aload_n 0, 1) := by decide +kernel
theorem dX7_sheet_55 : decode cX7_sheet 55 = .ok (.ldc 71, 2) := by decide +kernel
theorem dX7_sheet_57 : decode cX7_sheet 57 = .ok (.invokevirtual 77, 3) := by decide +kernel
theorem dX7_sheet_60 : decode cX7_sheet 60 = .ok (.ireturn, 1) := by decide +kernel
theorem dX7_sheet_61 : decode cX7_sheet 61 = .ok (.aload_n 0, 1) := by decide +kernel
theorem dX7_sheet_62 : decode cX7_sheet 62 = .ok (.getfield 59, 3) := by decide +kernel
theorem dX7_sheet_65 : decode cX7_sheet 65 = .ok (.iload_n 1, 1) := by decide +kernel
theorem dX7_sheet_66 : decode cX7_sheet 66 = .ok (.iload_n 2, 1) := by decide +kernel
theorem dX7_sheet_67 : decode cX7_sheet 67 = .ok (.iastore, 1) := by decide +kernel
theorem dX7_sheet_68 : decode cX7_sheet 68 = .ok (.aload_n 0, 1) := by decide +kernel
theorem dX7_sheet_69 : decode cX7_sheet 69 = .ok (.getfield 62, 3) := by decide +kernel
theorem dX7_sheet_72 : decode cX7_sheet 72 = .ok (.iload_n 1, 1) := by decide +kernel
theorem dX7_sheet_73 : decode cX7_sheet 73 = .ok (.iload_n 2, 1) := by decide +kernel
theorem dX7_sheet_74 : decode cX7_sheet 74 = .ok (.ifCond .ne 7, 3) := by decide +kernel
theorem dX7_sheet_77 : decode cX7_sheet 77 = .ok (.iconst 0, 1) := by decide +kernel
theorem dX7_sheet_78 : decode cX7_sheet 78 = .ok (.goto 4, 3) := by decide +kernel
theorem dX7_sheet_81 : decode cX7_sheet 81 = .ok (.iload_n 3, 1) := by decide +kernel
theorem dX7_sheet_82 : decode cX7_sheet 82 = .ok (.iastore, 1) := by decide +kernel
theorem dX7_sheet_83 : decode cX7_sheet 83 = .ok (.iconst 0, 1) := by decide +kernel
theorem dX7_sheet_84 : decode cX7_sheet 84 = .ok (.istore 4, 2) := by decide +kernel
theorem dX7_sheet_86 : decode cX7_sheet 86 = .ok (.iload 4, 2) := by decide +kernel
theorem dX7_sheet_88 : decode cX7_sheet 88 = .ok (.bipush 40, 2) := by decide +kernel
theorem dX7_sheet_90 : decode cX7_sheet 90 = .ok (.if_icmp .ge 22, 3) := by decide +kernel
theorem dX7_sheet_93 : decode cX7_sheet 93 = .ok (.aload_n 0, 1) := by decide +kernel
theorem dX7_sheet_94 : decode cX7_sheet 94 = .ok (.getfield 65, 3) := by decide +kernel
theorem dX7_sheet_97 : decode cX7_sheet 97 = .ok (.bipush 40, 2) := by decide +kernel
theorem dX7_sheet_99 : decode cX7_sheet 99 = .ok (.iload_n 1, 1) := by decide +kernel
theorem dX7_sheet_100 : decode cX7_sheet 100 = .ok (.imul, 1) := by decide +kernel
theorem dX7_sheet_101 : decode cX7_sheet 101 = .ok (.iload 4, 2) := by decide +kernel
theorem dX7_sheet_103 : decode cX7_sheet 103 = .ok (.iadd, 1) := by decide +kernel
theorem dX7_sheet_104 : decode cX7_sheet 104 = .ok (.lconst 0, 1) := by decide +kernel
theorem dX7_sheet_105 : decode cX7_sheet 105 = .ok (.lastore, 1) := by decide +kernel
theorem dX7_sheet_106 : decode cX7_sheet 106 = .ok (.iinc 4 1, 3) := by decide +kernel
theorem dX7_sheet_109 : decode cX7_sheet 109 = .ok (.goto (-23), 3) := by decide +kernel
theorem dX7_sheet_112 : decode cX7_sheet 112 = .ok (.aload_n 0, 1) := by decide +kernel
theorem dX7_sheet_113 : decode cX7_sheet 113 = .ok (.getfield 62, 3) := by decide +kernel
theorem dX7_sheet_116 : decode cX7_sheet 116 = .ok (.iload_n 1, 1) := by decide +kernel
theorem dX7_sheet_117 : decode cX7_sheet 117 = .ok (.iaload, 1) := by decide +kernel
theorem dX7_sheet_118 : decode cX7_sheet 118 = .ok (.ireturn, 1) := by decide +kernel
theorem dX7_write_0 : decode cX7_write 0 = .ok (.iload_n 1, 1) := by decide +kernel
theorem dX7_write_1 : decode cX7_write 1 = .ok (.invokestatic 294, 3) := by decide +kernel
theorem dX7_write_4 : decode cX7_write 4 = .ok (.ifCond .ne 11, 3) := by decide +kernel
theorem dX7_write_7 : decode cX7_write 7 = .ok (.aload_n 0, 1) := by decide +kernel
theorem dX7_write_8 : decode cX7_write 8 = .ok (.ldc 71, 2) := by decide +kernel
theorem dX7_write_10 : decode cX7_write 10 = .ok (.invokevirtual 77, 3) := by decide +kernel
theorem dX7_write_13 : decode cX7_write 13 = .ok (.i2l, 1) := by decide +kernel
theorem dX7_write_14 : decode cX7_write 14 = .ok (.lreturn, 1) := by decide +kernel
theorem dX7_write_15 : decode cX7_write 15 = .ok (.aload_n 0, 1) := by decide +kernel
theorem dX7_write_16 : decode cX7_write 16 = .ok (.getfield 59, 3) := by decide +kernel
theorem dX7_write_19 : decode cX7_write 19 = .ok (.iload_n 1, 1) := by decide +kernel
theorem dX7_write_20 : decode cX7_write 20 = .ok (.iaload, 1) := by decide +kernel
theorem dX7_write_21 : decode cX7_write 21 = .ok (.ifCond .ne 12, 3) := by decide +kernel
theorem dX7_write_24 : decode cX7_write 24 = .ok (.aload_n 0, 1) := by decide +kernel
theorem dX7_write_25 : decode cX7_write 25 = .ok (.ldc_w 298, 3) := by decide +kernel
theorem dX7_write_28 : decode cX7_write 28 = .ok (.invokevirtual 77, 3) := by decide +kernel
theorem dX7_write_31 : decode cX7_write 31 = .ok (.i2l, 1) := by decide +kernel
theorem dX7_write_32 : decode cX7_write 32 = .ok (.lreturn, 1) := by decide +kernel
theorem dX7_write_33 : decode cX7_write 33 = .ok (.iload_n 2, 1) := by decide +kernel
theorem dX7_write_34 : decode cX7_write 34 = .ok (.iconst 0, 1) := by decide +kernel
theorem dX7_write_35 : decode cX7_write 35 = .ok (.aload_n 0, 1) := by decide +kernel
theorem dX7_write_36 : decode cX7_write 36 = .ok (.getfield 62, 3) := by decide +kernel
theorem dX7_write_39 : decode cX7_write 39 = .ok (.iload_n 1, 1) := by decide +kernel
theorem dX7_write_40 : decode cX7_write 40 = .ok (.iaload, 1) := by decide +kernel
theorem dX7_write_41 : decode cX7_write 41 = .ok (.iconst 1, 1) := by decide +kernel
theorem dX7_write_42 : decode cX7_write 42 = .ok (.isub, 1) := by decide +kernel
theorem dX7_write_43 : decode cX7_write 43 = .ok (.invokestatic 81, 3) := by decide +kernel
theorem dX7_write_46 : decode cX7_write 46 = .ok (.ifCond .ne 11, 3) := by decide +kernel
theorem dX7_write_49 : decode cX7_write 49 = .ok (.aload_n 0, 1) := by decide +kernel
theorem dX7_write_50 : decode cX7_write 50 = .ok (.ldc 71, 2) := by decide +kernel
theorem dX7_write_52 : decode cX7_write 52 = .ok (.invokevirtual 77, 3) := by decide +kernel
theorem dX7_write_55 : decode cX7_write 55 = .ok (.i2l, 1) := by decide +kernel
theorem dX7_write_56 : decode cX7_write 56 = .ok (.lreturn, 1) := by decide +kernel
theorem dX7_write_57 : decode cX7_write 57 = .ok (.aload_n 0, 1) := by decide +kernel
theorem dX7_write_58 : decode cX7_write 58 = .ok (.getfield 65, 3) := by decide +kernel
theorem dX7_write_61 : decode cX7_write 61 = .ok (.bipush 40, 2) := by decide +kernel
theorem dX7_write_63 : decode cX7_write 63 = .ok (.iload_n 1, 1) := by decide +kernel
theorem dX7_write_64 : decode cX7_write 64 = .ok (.imul, 1) := by decide +kernel
theorem dX7_write_65 : decode cX7_write 65 = .ok (.iload_n 2, 1) := by decide +kernel
theorem dX7_write_66 : decode cX7_write 66 = .ok (.iadd, 1) := by decide +kernel
theorem dX7_write_67 : decode cX7_write 67 = .ok (.laload, 1) := by decide +kernel
theorem dX7_write_68 : decode cX7_write 68 = .ok (.lstore 5, 2) := by decide +kernel
theorem dX7_write_70 : decode cX7_write 70 = .ok (.aload_n 0, 1) := by decide +kernel
theorem dX7_write_71 : decode cX7_write 71 = .ok (.getfield 65, 3) := by decide +kernel
theorem dX7_write_74 : decode cX7_write 74 = .ok (.bipush 40, 2) := by decide +kernel
theorem dX7_write_76 : decode cX7_write 76 = .ok (.iload_n 1, 1) := by decide +kernel
theorem dX7_write_77 : decode cX7_write 77 = .ok (.imul, 1) := by decide +kernel
theorem dX7_write_78 : decode cX7_write 78 = .ok (.iload_n 2, 1) := by decide +kernel
theorem dX7_write_79 : decode cX7_write 79 = .ok (.iadd, 1) := by decide +kernel
theorem dX7_write_80 : decode cX7_write 80 = .ok (.lload_n 3, 1) := by decide +kernel
theorem dX7_write_81 : decode cX7_write 81 = .ok (.aload_n 0, 1) := by decide +kernel
theorem dX7_write_82 : decode cX7_write 82 = .ok (.getfield 59, 3) := by decide +kernel
theorem dX7_write_85 : decode cX7_write 85 = .ok (.iload_n 1, 1) := by decide +kernel
theorem dX7_write_86 : decode cX7_write 86 = .ok (.iaload, 1) := by decide +kernel
theorem dX7_write_87 : decode cX7_write 87 = .ok (.invokestatic 299, 3) := by decide +kernel
theorem dX7_write_90 : decode cX7_write 90 = .ok (.lastore, 1) := by decide +kernel
theorem dX7_write_91 : decode cX7_write 91 = .ok (.lload 5, 2) := by decide +kernel
theorem dX7_write_93 : decode cX7_write 93 = .ok (.lreturn, 1) := by decide +kernel
theorem dX7_copy_0 : decode cX7_copy 0 = .ok (.iload_n 1, 1) := by decide +kernel
theorem dX7_copy_1 : decode cX7_copy 1 = .ok (.invokestatic 294, 3) := by decide +kernel
theorem dX7_copy_4 : decode cX7_copy 4 = .ok (.ifCond .eq 10, 3) := by decide +kernel
theorem dX7_copy_7 : decode cX7_copy 7 = .ok (.iload_n 3, 1) := by decide +kernel
theorem dX7_copy_8 : decode cX7_copy 8 = .ok (.invokestatic 294, 3) := by decide +kernel
theorem dX7_copy_11 : decode cX7_copy 11 = .ok (.ifCond .ne 10, 3) := by decide +kernel
theorem dX7_copy_14 : decode cX7_copy 14 = .ok (.aload_n 0, 1) := by decide +kernel
theorem dX7_copy_15 : decode cX7_copy 15 = .ok (.ldc 71, 2) := by decide +kernel
theorem dX7_copy_17 : decode cX7_copy 17 = .ok (.invokevirtual 77, 3) := by decide +kernel
theorem dX7_copy_20 : decode cX7_copy 20 = .ok (.ireturn, 1) := by decide +kernel
theorem dX7_copy_21 : decode cX7_copy 21 = .ok (.aload_n 0, 1) := by decide +kernel
theorem dX7_copy_22 : decode cX7_copy 22 = .ok (.getfield 59, 3) := by decide +kernel
theorem dX7_copy_25 : decode cX7_copy 25 = .ok (.iload_n 1, 1) := by decide +kernel
theorem dX7_copy_26 : decode cX7_copy 26 = .ok (.iaload, 1) := by decide +kernel
theorem dX7_copy_27 : decode cX7_copy 27 = .ok (.ifCond .eq 12, 3) := by decide +kernel
theorem dX7_copy_30 : decode cX7_copy 30 = .ok (.aload_n 0, 1) := by decide +kernel
theorem dX7_copy_31 : decode cX7_copy 31 = .ok (.getfield 59, 3) := by decide +kernel
theorem dX7_copy_34 : decode cX7_copy 34 = .ok (.iload_n 3, 1) := by decide +kernel
theorem dX7_copy_35 : decode cX7_copy 35 = .ok (.iaload, 1) := by decide +kernel
theorem dX7_copy_36 : decode cX7_copy 36 = .ok (.ifCond .ne 11, 3) := by decide +kernel
theorem dX7_copy_39 : decode cX7_copy 39 = .ok (.aload_n 0, 1) := by decide +kernel
theorem dX7_copy_40 : decode cX7_copy 40 = .ok (.ldc_w 298, 3) := by decide +kernel
theorem dX7_copy_43 : decode cX7_copy 43 = .ok (.invokevirtual 77, 3) := by decide +kernel
theorem dX7_copy_46 : decode cX7_copy 46 = .ok (.ireturn, 1) := by decide +kernel
theorem dX7_copy_47 : decode cX7_copy 47 = .ok (.aload_n 0, 1) := by decide +kernel
theorem dX7_copy_48 : decode cX7_copy 48 = .ok (.getfield 59, 3) := by decide +kernel
theorem dX7_copy_51 : decode cX7_copy 51 = .ok (.iload_n 1, 1) := by decide +kernel
theorem dX7_copy_52 : decode cX7_copy 52 = .ok (.iaload, 1) := by decide +kernel
theorem dX7_copy_53 : decode cX7_copy 53 = .ok (.aload_n 0, 1) := by decide +kernel
theorem dX7_copy_54 : decode cX7_copy 54 = .ok (.getfield 59, 3) := by decide +kernel
theorem dX7_copy_57 : decode cX7_copy 57 = .ok (.iload_n 3, 1) := by decide +kernel
theorem dX7_copy_58 : decode cX7_copy 58 = .ok (.iaload, 1) := by decide +kernel
theorem dX7_copy_59 : decode cX7_copy 59 = .ok (.if_icmp .eq 10, 3) := by decide +kernel
theorem dX7_copy_62 : decode cX7_copy 62 = .ok (.aload_n 0, 1) := by decide +kernel
theorem dX7_copy_63 : decode cX7_copy 63 = .ok (.ldc 164, 2) := by decide +kernel
theorem dX7_copy_65 : decode cX7_copy 65 = .ok (.invokevirtual 77, 3) := by decide +kernel
theorem dX7_copy_68 : decode cX7_copy 68 = .ok (.ireturn, 1) := by decide +kernel
theorem dX7_copy_69 : decode cX7_copy 69 = .ok (.iload_n 2, 1) := by decide +kernel
theorem dX7_copy_70 : decode cX7_copy 70 = .ok (.ifCond .lt 48, 3) := by decide +kernel
theorem dX7_copy_73 : decode cX7_copy 73 = .ok (.iload 4, 2) := by decide +kernel
theorem dX7_copy_75 : decode cX7_copy 75 = .ok (.ifCond .lt 43, 3) := by decide +kernel
theorem dX7_copy_78 : decode cX7_copy 78 = .ok (.iload 5, 2) := by decide +kernel
theorem dX7_copy_80 : decode cX7_copy 80 = .ok (.ifCond .lt 38, 3) := by decide +kernel
theorem dX7_copy_83 : decode cX7_copy 83 = .ok (.iload_n 2, 1) := by decide +kernel
theorem dX7_copy_84 : decode cX7_copy 84 = .ok (.i2l, 1) := by decide +kernel
theorem dX7_copy_85 : decode cX7_copy 85 = .ok (.iload 5, 2) := by decide +kernel
theorem dX7_copy_87 : decode cX7_copy 87 = .ok (.i2l, 1) := by decide +kernel
theorem dX7_copy_88 : decode cX7_copy 88 = .ok (.ladd, 1) := by decide +kernel
theorem dX7_copy_89 : decode cX7_copy 89 = .ok (.aload_n 0, 1) := by decide +kernel
theorem dX7_copy_90 : decode cX7_copy 90 = .ok (.getfield 62, 3) := by decide +kernel
theorem dX7_copy_93 : decode cX7_copy 93 = .ok (.iload_n 1, 1) := by decide +kernel
theorem dX7_copy_94 : decode cX7_copy 94 = .ok (.iaload, 1) := by decide +kernel
theorem dX7_copy_95 : decode cX7_copy 95 = .ok (.i2l, 1) := by decide +kernel
theorem dX7_copy_96 : decode cX7_copy 96 = .ok (.lcmp, 1) := by decide +kernel
theorem dX7_copy_97 : decode cX7_copy 97 = .ok (.ifCond .gt 21, 3) := by decide +kernel
theorem dX7_copy_100 : decode cX7_copy 100 = .ok (.iload 4, 2) := by decide +kernel
theorem dX7_copy_102 : decode cX7_copy 102 = .ok (.i2l, 1) := by decide +kernel
theorem dX7_copy_103 : decode cX7_copy 103 = .ok (.iload 5, 2) := by decide +kernel
theorem dX7_copy_105 : decode cX7_copy 105 = .ok (.i2l, 1) := by decide +kernel
theorem dX7_copy_106 : decode cX7_copy 106 = .ok (.ladd, 1) := by decide +kernel
theorem dX7_copy_107 : decode cX7_copy 107 = .ok (.aload_n 0, 1) := by decide +kernel
theorem dX7_copy_108 : decode cX7_copy 108 = .ok (.getfield 62, 3) := by decide +kernel
theorem dX7_copy_111 : decode cX7_copy 111 = .ok (.iload_n 3, 1) := by decide +kernel
theorem dX7_copy_112 : decode cX7_copy 112 = .ok (.iaload, 1) := by decide +kernel
theorem dX7_copy_113 : decode cX7_copy 113 = .ok (.i2l, 1) := by decide +kernel
theorem dX7_copy_114 : decode cX7_copy 114 = .ok (.lcmp, 1) := by decide +kernel
theorem dX7_copy_115 : decode cX7_copy 115 = .ok (.ifCond .le 10, 3) := by decide +kernel
theorem dX7_copy_118 : decode cX7_copy 118 = .ok (.aload_n 0, 1) := by decide +kernel
theorem dX7_copy_119 : decode cX7_copy 119 = .ok (.ldc 71, 2) := by decide +kernel
theorem dX7_copy_121 : decode cX7_copy 121 = .ok (.invokevirtual 77, 3) := by decide +kernel
theorem dX7_copy_124 : decode cX7_copy 124 = .ok (.ireturn, 1) := by decide +kernel
theorem dX7_copy_125 : decode cX7_copy 125 = .ok (.iconst 0, 1) := by decide +kernel
theorem dX7_copy_126 : decode cX7_copy 126 = .ok (.istore 6, 2) := by decide +kernel
theorem dX7_copy_128 : decode cX7_copy 128 = .ok (.iload 6, 2) := by decide +kernel
theorem dX7_copy_130 : decode cX7_copy 130 = .ok (.iload 5, 2) := by decide +kernel
theorem dX7_copy_132 : decode cX7_copy 132 = .ok (.if_icmp .ge 30, 3) := by decide +kernel
theorem dX7_copy_135 : decode cX7_copy 135 = .ok (.aload_n 0, 1) := by decide +kernel
theorem dX7_copy_136 : decode cX7_copy 136 = .ok (.getfield 68, 3) := by decide +kernel
theorem dX7_copy_139 : decode cX7_copy 139 = .ok (.iload 6, 2) := by decide +kernel
theorem dX7_copy_141 : decode cX7_copy 141 = .ok (.aload_n 0, 1) := by decide +kernel
theorem dX7_copy_142 : decode cX7_copy 142 = .ok (.getfield 65, 3) := by decide +kernel
theorem dX7_copy_145 : decode cX7_copy 145 = .ok (.bipush 40, 2) := by decide +kernel
theorem dX7_copy_147 : decode cX7_copy 147 = .ok (.iload_n 1, 1) := by decide +kernel
theorem dX7_copy_148 : decode cX7_copy 148 = .ok (.imul, 1) := by decide +kernel
theorem dX7_copy_149 : decode cX7_copy 149 = .ok (.iload_n 2, 1) := by decide +kernel
theorem dX7_copy_150 : decode cX7_copy 150 = .ok (.iadd, 1) := by decide +kernel
theorem dX7_copy_151 : decode cX7_copy 151 = .ok (.iload 6, 2) := by decide +kernel
theorem dX7_copy_153 : decode cX7_copy 153 = .ok (.iadd, 1) := by decide +kernel
theorem dX7_copy_154 : decode cX7_copy 154 = .ok (.laload, 1) := by decide +kernel
theorem dX7_copy_155 : decode cX7_copy 155 = .ok (.lastore, 1) := by decide +kernel
theorem dX7_copy_156 : decode cX7_copy 156 = .ok (.iinc 6 1, 3) := by decide +kernel
theorem dX7_copy_159 : decode cX7_copy 159 = .ok (.goto (-31), 3) := by decide +kernel
theorem dX7_copy_162 : decode cX7_copy 162 = .ok (.iconst 0, 1) := by decide +kernel
theorem dX7_copy_163 : decode cX7_copy 163 = .ok (.istore 6, 2) := by decide +kernel
theorem dX7_copy_165 : decode cX7_copy 165 = .ok (.iload 6, 2) := by decide +kernel
theorem dX7_copy_167 : decode cX7_copy 167 = .ok (.iload 5, 2) := by decide +kernel
theorem dX7_copy_169 : decode cX7_copy 169 = .ok (.if_icmp .ge 31, 3) := by decide +kernel
theorem dX7_copy_172 : decode cX7_copy 172 = .ok (.aload_n 0, 1) := by decide +kernel
theorem dX7_copy_173 : decode cX7_copy 173 = .ok (.getfield 65, 3) := by decide +kernel
theorem dX7_copy_176 : decode cX7_copy 176 = .ok (.bipush 40, 2) := by decide +kernel
theorem dX7_copy_178 : decode cX7_copy 178 = .ok (.iload_n 3, 1) := by decide +kernel
theorem dX7_copy_179 : decode cX7_copy 179 = .ok (.imul, 1) := by decide +kernel
theorem dX7_copy_180 : decode cX7_copy 180 = .ok (.iload 4, 2) := by decide +kernel
theorem dX7_copy_182 : decode cX7_copy 182 = .ok (.iadd, 1) := by decide +kernel
theorem dX7_copy_183 : decode cX7_copy 183 = .ok (.iload 6, 2) := by decide +kernel
theorem dX7_copy_185 : decode cX7_copy 185 = .ok (.iadd, 1) := by decide +kernel
theorem dX7_copy_186 : decode cX7_copy 186 = .ok (.aload_n 0, 1) := by decide +kernel
theorem dX7_copy_187 : decode cX7_copy 187 = .ok (.getfield 68, 3) := by decide +kernel
theorem dX7_copy_190 : decode cX7_copy 190 = .ok (.iload 6, 2) := by decide +kernel
theorem dX7_copy_192 : decode cX7_copy 192 = .ok (.laload, 1) := by decide +kernel
theorem dX7_copy_193 : decode cX7_copy 193 = .ok (.lastore, 1) := by decide +kernel
theorem dX7_copy_194 : decode cX7_copy 194 = .ok (.iinc 6 1, 3) := by decide +kernel
theorem dX7_copy_197 : decode cX7_copy 197 = .ok (.goto (-32), 3) := by decide +kernel
theorem dX7_copy_200 : decode cX7_copy 200 = .ok (.iload 5, 2) := by decide +kernel
theorem dX7_copy_202 : decode cX7_copy 202 = .ok (.ireturn, 1) := by decide +kernel
theorem dX7_lacks_0 : decode cX7_lacks 0 = .ok (.iload_n 1, 1) := by decide +kernel
theorem dX7_lacks_1 : decode cX7_lacks 1 = .ok (.invokestatic 294, 3) := by decide +kernel
theorem dX7_lacks_4 : decode cX7_lacks 4 = .ok (.ifCond .ne 8, 3) := by decide +kernel
theorem dX7_lacks_7 : decode cX7_lacks 7 = .ok (.ldc 71, 2) := by decide +kernel
theorem dX7_lacks_9 : decode cX7_lacks 9 = .ok (.goto 28, 3) := by decide +kernel
theorem dX7_lacks_12 : decode cX7_lacks 12 = .ok (.aload_n 0, 1) := by decide +kernel
theorem dX7_lacks_13 : decode cX7_lacks 13 = .ok (.getfield 59, 3) := by decide +kernel
theorem dX7_lacks_16 : decode cX7_lacks 16 = .ok (.iload_n 1, 1) := by decide +kernel
theorem dX7_lacks_17 : decode cX7_lacks 17 = .ok (.iaload, 1) := by decide +kernel
theorem dX7_lacks_18 : decode cX7_lacks 18 = .ok (.ifCond .ne 9, 3) := by decide +kernel
theorem dX7_lacks_21 : decode cX7_lacks 21 = .ok (.ldc_w 298, 3) := by decide +kernel
theorem dX7_lacks_24 : decode cX7_lacks 24 = .ok (.goto 13, 3) := by decide +kernel
theorem dX7_lacks_27 : decode cX7_lacks 27 = .ok (.iload_n 2, 1) := by decide +kernel
theorem dX7_lacks_28 : decode cX7_lacks 28 = .ok (.ifCond .eq 7, 3) := by decide +kernel
theorem dX7_lacks_31 : decode cX7_lacks 31 = .ok (.iconst 0, 1) := by decide +kernel
theorem dX7_lacks_32 : decode cX7_lacks 32 = .ok (.goto 5, 3) := by decide +kernel
theorem dX7_lacks_35 : decode cX7_lacks 35 = .ok (.ldc 71, 2) := by decide +kernel
theorem dX7_lacks_37 : decode cX7_lacks 37 = .ok (.ireturn, 1) := by decide +kernel
theorem dX7_lays_0 : decode cX7_lays 0 = .ok (.aload_n 0, 1) := by decide +kernel
theorem dX7_lays_1 : decode cX7_lays 1 = .ok (.iload_n 1, 1) := by decide +kernel
theorem dX7_lays_2 : decode cX7_lays 2 = .ok (.iload_n 2, 1) := by decide +kernel
theorem dX7_lays_3 : decode cX7_lays 3 = .ok (.invokestatic 91, 3) := by decide +kernel
theorem dX7_lays_6 : decode cX7_lays 6 = .ok (.invokevirtual 303, 3) := by decide +kernel
theorem dX7_lays_9 : decode cX7_lays 9 = .ok (.istore_n 3, 1) := by decide +kernel
theorem dX7_lays_10 : decode cX7_lays 10 = .ok (.iload_n 3, 1) := by decide +kernel
theorem dX7_lays_11 : decode cX7_lays 11 = .ok (.ifCond .eq 9, 3) := by decide +kernel
theorem dX7_lays_14 : decode cX7_lays 14 = .ok (.aload_n 0, 1) := by decide +kernel
theorem dX7_lays_15 : decode cX7_lays 15 = .ok (.iload_n 3, 1) := by decide +kernel
theorem dX7_lays_16 : decode cX7_lays 16 = .ok (.invokevirtual 77, 3) := by decide +kernel
theorem dX7_lays_19 : decode cX7_lays 19 = .ok (.ireturn, 1) := by decide +kernel
theorem dX7_lays_20 : decode cX7_lays 20 = .ok (.iconst 0, 1) := by decide +kernel
theorem dX7_lays_21 : decode cX7_lays 21 = .ok (.istore 4, 2) := by decide +kernel
theorem dX7_lays_23 : decode cX7_lays 23 = .ok (.iload 4, 2) := by decide +kernel
theorem dX7_lays_25 : decode cX7_lays 25 = .ok (.aload_n 0, 1) := by decide +kernel
theorem dX7_lays_26 : decode cX7_lays 26 = .ok (.getfield 62, 3) := by decide +kernel
theorem dX7_lays_29 : decode cX7_lays 29 = .ok (.iload_n 1, 1) := by decide +kernel
theorem dX7_lays_30 : decode cX7_lays 30 = .ok (.iaload, 1) := by decide +kernel
theorem dX7_lays_31 : decode cX7_lays 31 = .ok (.if_icmp .ge 61, 3) := by decide +kernel
theorem dX7_lays_34 : decode cX7_lays 34 = .ok (.iload 4, 2) := by decide +kernel
theorem dX7_lays_36 : decode cX7_lays 36 = .ok (.bipush 12, 2) := by decide +kernel
theorem dX7_lays_38 : decode cX7_lays 38 = .ok (.if_icmp .ge 54, 3) := by decide +kernel
theorem dX7_lays_41 : decode cX7_lays 41 = .ok (.aload_n 0, 1) := by decide +kernel
theorem dX7_lays_42 : decode cX7_lays 42 = .ok (.getfield 65, 3) := by decide +kernel
theorem dX7_lays_45 : decode cX7_lays 45 = .ok (.bipush 40, 2) := by decide +kernel
theorem dX7_lays_47 : decode cX7_lays 47 = .ok (.iload_n 1, 1) := by decide +kernel
theorem dX7_lays_48 : decode cX7_lays 48 = .ok (.imul, 1) := by decide +kernel
theorem dX7_lays_49 : decode cX7_lays 49 = .ok (.iload 4, 2) := by decide +kernel
theorem dX7_lays_51 : decode cX7_lays 51 = .ok (.iadd, 1) := by decide +kernel
theorem dX7_lays_52 : decode cX7_lays 52 = .ok (.laload, 1) := by decide +kernel
theorem dX7_lays_53 : decode cX7_lays 53 = .ok (.invokestatic 276, 3) := by decide +kernel
theorem dX7_lays_56 : decode cX7_lays 56 = .ok (.ifCond .eq 36, 3) := by decide +kernel
theorem dX7_lays_59 : decode cX7_lays 59 = .ok (.aload_n 0, 1) := by decide +kernel
theorem dX7_lays_60 : decode cX7_lays 60 = .ok (.getfield 9, 3) := by decide +kernel
theorem dX7_lays_63 : decode cX7_lays 63 = .ok (.iconst 4, 1) := by decide +kernel
theorem dX7_lays_64 : decode cX7_lays 64 = .ok (.bipush 12, 2) := by decide +kernel
theorem dX7_lays_66 : decode cX7_lays 66 = .ok (.iload_n 2, 1) := by decide +kernel
theorem dX7_lays_67 : decode cX7_lays 67 = .ok (.imul, 1) := by decide +kernel
theorem dX7_lays_68 : decode cX7_lays 68 = .ok (.iadd, 1) := by decide +kernel
theorem dX7_lays_69 : decode cX7_lays 69 = .ok (.iload 4, 2) := by decide +kernel
theorem dX7_lays_71 : decode cX7_lays 71 = .ok (.iadd, 1) := by decide +kernel
theorem dX7_lays_72 : decode cX7_lays 72 = .ok (.aload_n 0, 1) := by decide +kernel
theorem dX7_lays_73 : decode cX7_lays 73 = .ok (.getfield 65, 3) := by decide +kernel
theorem dX7_lays_76 : decode cX7_lays 76 = .ok (.bipush 40, 2) := by decide +kernel
theorem dX7_lays_78 : decode cX7_lays 78 = .ok (.iload_n 1, 1) := by decide +kernel
theorem dX7_lays_79 : decode cX7_lays 79 = .ok (.imul, 1) := by decide +kernel
theorem dX7_lays_80 : decode cX7_lays 80 = .ok (.iload 4, 2) := by decide +kernel
theorem dX7_lays_82 : decode cX7_lays 82 = .ok (.iadd, 1) := by decide +kernel
theorem dX7_lays_83 : decode cX7_lays 83 = .ok (.laload, 1) := by decide +kernel
theorem dX7_lays_84 : decode cX7_lays 84 = .ok (.l2i, 1) := by decide +kernel
theorem dX7_lays_85 : decode cX7_lays 85 = .ok (.iastore, 1) := by decide +kernel
theorem dX7_lays_86 : decode cX7_lays 86 = .ok (.iinc 4 1, 3) := by decide +kernel
theorem dX7_lays_89 : decode cX7_lays 89 = .ok (.goto (-66), 3) := by decide +kernel
theorem dX7_lays_92 : decode cX7_lays 92 = .ok (.aload_n 0, 1) := by decide +kernel
theorem dX7_lays_93 : decode cX7_lays 93 = .ok (.getfield 9, 3) := by decide +kernel
theorem dX7_lays_96 : decode cX7_lays 96 = .ok (.iconst 2, 1) := by decide +kernel
theorem dX7_lays_97 : decode cX7_lays 97 = .ok (.iload_n 2, 1) := by decide +kernel
theorem dX7_lays_98 : decode cX7_lays 98 = .ok (.iadd, 1) := by decide +kernel
theorem dX7_lays_99 : decode cX7_lays 99 = .ok (.iload 4, 2) := by decide +kernel
theorem dX7_lays_101 : decode cX7_lays 101 = .ok (.iastore, 1) := by decide +kernel
theorem dX7_lays_102 : decode cX7_lays 102 = .ok (.iload 4, 2) := by decide +kernel
theorem dX7_lays_104 : decode cX7_lays 104 = .ok (.ireturn, 1) := by decide +kernel
theorem dX7_book_0 : decode cX7_book 0 = .ok (.aload_n 0, 1) := by decide +kernel
theorem dX7_book_1 : decode cX7_book 1 = .ok (.iload_n 1, 1) := by decide +kernel
theorem dX7_book_2 : decode cX7_book 2 = .ok (.iload_n 2, 1) := by decide +kernel
theorem dX7_book_3 : decode cX7_book 3 = .ok (.invokestatic 91, 3) := by decide +kernel
theorem dX7_book_6 : decode cX7_book 6 = .ok (.invokevirtual 303, 3) := by decide +kernel
theorem dX7_book_9 : decode cX7_book 9 = .ok (.istore_n 3, 1) := by decide +kernel
theorem dX7_book_10 : decode cX7_book 10 = .ok (.iload_n 3, 1) := by decide +kernel
theorem dX7_book_11 : decode cX7_book 11 = .ok (.ifCond .eq 9, 3) := by decide +kernel
theorem dX7_book_14 : decode cX7_book 14 = .ok (.aload_n 0, 1) := by decide +kernel
theorem dX7_book_15 : decode cX7_book 15 = .ok (.iload_n 3, 1) := by decide +kernel
theorem dX7_book_16 : decode cX7_book 16 = .ok (.invokevirtual 77, 3) := by decide +kernel
theorem dX7_book_19 : decode cX7_book 19 = .ok (.ireturn, 1) := by decide +kernel
theorem dX7_book_20 : decode cX7_book 20 = .ok (.aload_n 0, 1) := by decide +kernel
theorem dX7_book_21 : decode cX7_book 21 = .ok (.getfield 9, 3) := by decide +kernel
theorem dX7_book_24 : decode cX7_book 24 = .ok (.aload_n 0, 1) := by decide +kernel
theorem dX7_book_25 : decode cX7_book 25 = .ok (.getfield 16, 3) := by decide +kernel
theorem dX7_book_28 : decode cX7_book 28 = .ok (.invokestatic 72, 3) := by decide +kernel
theorem dX7_book_31 : decode cX7_book 31 = .ok (.iconst 0, 1) := by decide +kernel
theorem dX7_book_32 : decode cX7_book 32 = .ok (.istore 4, 2) := by decide +kernel
theorem dX7_book_34 : decode cX7_book 34 = .ok (.iload 4, 2) := by decide +kernel
theorem dX7_book_36 : decode cX7_book 36 = .ok (.aload_n 0, 1) := by decide +kernel
theorem dX7_book_37 : decode cX7_book 37 = .ok (.getfield 62, 3) := by decide +kernel
theorem dX7_book_40 : decode cX7_book 40 = .ok (.iload_n 1, 1) := by decide +kernel
theorem dX7_book_41 : decode cX7_book 41 = .ok (.iaload, 1) := by decide +kernel
theorem dX7_book_42 : decode cX7_book 42 = .ok (.if_icmp .ge 31, 3) := by decide +kernel
theorem dX7_book_45 : decode cX7_book 45 = .ok (.aload_n 0, 1) := by decide +kernel
theorem dX7_book_46 : decode cX7_book 46 = .ok (.getfield 65, 3) := by decide +kernel
theorem dX7_book_49 : decode cX7_book 49 = .ok (.bipush 40, 2) := by decide +kernel
theorem dX7_book_51 : decode cX7_book 51 = .ok (.iload_n 1, 1) := by decide +kernel
theorem dX7_book_52 : decode cX7_book 52 = .ok (.imul, 1) := by decide +kernel
theorem dX7_book_53 : decode cX7_book 53 = .ok (.iload 4, 2) := by decide +kernel
theorem dX7_book_55 : decode cX7_book 55 = .ok (.iadd, 1) := by decide +kernel
theorem dX7_book_56 : decode cX7_book 56 = .ok (.aload_n 0, 1) := by decide +kernel
theorem dX7_book_57 : decode cX7_book 57 = .ok (.iload_n 2, 1) := by decide +kernel
theorem dX7_book_58 : decode cX7_book 58 = .ok (.invokevirtual 123, 3) := by decide +kernel
theorem dX7_book_61 : decode cX7_book 61 = .ok (.i2l, 1) := by decide +kernel
theorem dX7_book_62 : decode cX7_book 62 = .ok (.lastore, 1) := by decide +kernel
theorem dX7_book_63 : decode cX7_book 63 = .ok (.aload_n 0, 1) := by decide +kernel
theorem dX7_book_64 : decode cX7_book 64 = .ok (.invokevirtual 172, 3) := by decide +kernel
theorem dX7_book_67 : decode cX7_book 67 = .ok (.iinc 4 1, 3) := by decide +kernel
theorem dX7_book_70 : decode cX7_book 70 = .ok (.goto (-36), 3) := by decide +kernel
theorem dX7_book_73 : decode cX7_book 73 = .ok (.aload_n 0, 1) := by decide +kernel
theorem dX7_book_74 : decode cX7_book 74 = .ok (.aload_n 0, 1) := by decide +kernel
theorem dX7_book_75 : decode cX7_book 75 = .ok (.getfield 62, 3) := by decide +kernel
theorem dX7_book_78 : decode cX7_book 78 = .ok (.iload_n 1, 1) := by decide +kernel
theorem dX7_book_79 : decode cX7_book 79 = .ok (.iaload, 1) := by decide +kernel
theorem dX7_book_80 : decode cX7_book 80 = .ok (.invokevirtual 186, 3) := by decide +kernel
theorem dX7_book_83 : decode cX7_book 83 = .ok (.ireturn, 1) := by decide +kernel
theorem dX7_isAnswerOf_0 : decode cX7_isAnswerOf 0 = .ok (.aload_n 0, 1) := by decide +kernel
theorem dX7_isAnswerOf_1 : decode cX7_isAnswerOf 1 = .ok (.getfield 62, 3) := by decide +kernel
theorem dX7_isAnswerOf_4 : decode cX7_isAnswerOf 4 = .ok (.iload_n 1, 1) := by decide +kernel
theorem dX7_isAnswerOf_5 : decode cX7_isAnswerOf 5 = .ok (.iaload, 1) := by decide +kernel
theorem dX7_isAnswerOf_6 : decode cX7_isAnswerOf 6 = .ok (.iload_n 2, 1) := by decide +kernel
theorem dX7_isAnswerOf_7 : decode cX7_isAnswerOf 7 = .ok (.aload_n 0, 1) := by decide +kernel
theorem dX7_isAnswerOf_8 : decode cX7_isAnswerOf 8 = .ok (.iload 5, 2) := by decide +kernel
theorem dX7_isAnswerOf_10 : decode cX7_isAnswerOf 10 = .ok (.invokevirtual 99, 3) := by decide +kernel
theorem dX7_isAnswerOf_13 : decode cX7_isAnswerOf 13 = .ok (.invokestatic 152, 3) := by decide +kernel
theorem dX7_isAnswerOf_16 : decode cX7_isAnswerOf 16 = .ok (.if_icmp .ne 7, 3) := by decide +kernel
theorem dX7_isAnswerOf_19 : decode cX7_isAnswerOf 19 = .ok (.iconst 1, 1) := by decide +kernel
theorem dX7_isAnswerOf_20 : decode cX7_isAnswerOf 20 = .ok (.goto 4, 3) := by decide +kernel
theorem dX7_isAnswerOf_23 : decode cX7_isAnswerOf 23 = .ok (.iconst 0, 1) := by decide +kernel
theorem dX7_isAnswerOf_24 : decode cX7_isAnswerOf 24 = .ok (.istore 6, 2) := by decide +kernel
theorem dX7_isAnswerOf_26 : decode cX7_isAnswerOf 26 = .ok (.iconst 0, 1) := by decide +kernel
theorem dX7_isAnswerOf_27 : decode cX7_isAnswerOf 27 = .ok (.istore 7, 2) := by decide +kernel
theorem dX7_isAnswerOf_29 : decode cX7_isAnswerOf 29 = .ok (.iload 7, 2) := by decide +kernel
theorem dX7_isAnswerOf_31 : decode cX7_isAnswerOf 31 = .ok (.aload_n 0, 1) := by decide +kernel
theorem dX7_isAnswerOf_32 : decode cX7_isAnswerOf 32 = .ok (.getfield 62, 3) := by decide +kernel
theorem dX7_isAnswerOf_35 : decode cX7_isAnswerOf 35 = .ok (.iload_n 1, 1) := by decide +kernel
theorem dX7_isAnswerOf_36 : decode cX7_isAnswerOf 36 = .ok (.iaload, 1) := by decide +kernel
theorem dX7_isAnswerOf_37 : decode cX7_isAnswerOf 37 = .ok (.if_icmp .ge 50, 3) := by decide +kernel
theorem dX7_isAnswerOf_40 : decode cX7_isAnswerOf 40 = .ok (.iload 6, 2) := by decide +kernel
theorem dX7_isAnswerOf_42 : decode cX7_isAnswerOf 42 = .ok (.ifCond .eq 45, 3) := by decide +kernel
theorem dX7_isAnswerOf_45 : decode cX7_isAnswerOf 45 = .ok (.aload_n 0, 1) := by decide +kernel
theorem dX7_isAnswerOf_46 : decode cX7_isAnswerOf 46 = .ok (.getfield 65, 3) := by decide +kernel
theorem dX7_isAnswerOf_49 : decode cX7_isAnswerOf 49 = .ok (.bipush 40, 2) := by decide +kernel
theorem dX7_isAnswerOf_51 : decode cX7_isAnswerOf 51 = .ok (.iload_n 1, 1) := by decide +kernel
theorem dX7_isAnswerOf_52 : decode cX7_isAnswerOf 52 = .ok (.imul, 1) := by decide +kernel
theorem dX7_isAnswerOf_53 : decode cX7_isAnswerOf 53 = .ok (.iload 7, 2) := by decide +kernel
theorem dX7_isAnswerOf_55 : decode cX7_isAnswerOf 55 = .ok (.iadd, 1) := by decide +kernel
theorem dX7_isAnswerOf_56 : decode cX7_isAnswerOf 56 = .ok (.laload, 1) := by decide +kernel
theorem dX7_isAnswerOf_57 : decode cX7_isAnswerOf 57 = .ok (.aload_n 0, 1) := by decide +kernel
theorem dX7_isAnswerOf_58 : decode cX7_isAnswerOf 58 = .ok (.iload_n 2, 1) := by decide +kernel
theorem dX7_isAnswerOf_59 : decode cX7_isAnswerOf 59 = .ok (.iload_n 3, 1) := by decide +kernel
theorem dX7_isAnswerOf_60 : decode cX7_isAnswerOf 60 = .ok (.iload 4, 2) := by decide +kernel
theorem dX7_isAnswerOf_62 : decode cX7_isAnswerOf 62 = .ok (.iload 5, 2) := by decide +kernel
theorem dX7_isAnswerOf_64 : decode cX7_isAnswerOf 64 = .ok (.iload 7, 2) := by decide +kernel
theorem dX7_isAnswerOf_66 : decode cX7_isAnswerOf 66 = .ok (.invokevirtual 148, 3) := by decide +kernel
theorem dX7_isAnswerOf_69 : decode cX7_isAnswerOf 69 = .ok (.i2l, 1) := by decide +kernel
theorem dX7_isAnswerOf_70 : decode cX7_isAnswerOf 70 = .ok (.lcmp, 1) := by decide +kernel
theorem dX7_isAnswerOf_71 : decode cX7_isAnswerOf 71 = .ok (.ifCond .ne 7, 3) := by decide +kernel
theorem dX7_isAnswerOf_74 : decode cX7_isAnswerOf 74 = .ok (.iconst 1, 1) := by decide +kernel
theorem dX7_isAnswerOf_75 : decode cX7_isAnswerOf 75 = .ok (.goto 4, 3) := by decide +kernel
theorem dX7_isAnswerOf_78 : decode cX7_isAnswerOf 78 = .ok (.iconst 0, 1) := by decide +kernel
theorem dX7_isAnswerOf_79 : decode cX7_isAnswerOf 79 = .ok (.istore 6, 2) := by decide +kernel
theorem dX7_isAnswerOf_81 : decode cX7_isAnswerOf 81 = .ok (.iinc 7 1, 3) := by decide +kernel
theorem dX7_isAnswerOf_84 : decode cX7_isAnswerOf 84 = .ok (.goto (-55), 3) := by decide +kernel
theorem dX7_isAnswerOf_87 : decode cX7_isAnswerOf 87 = .ok (.iload 6, 2) := by decide +kernel
theorem dX7_isAnswerOf_89 : decode cX7_isAnswerOf 89 = .ok (.ireturn, 1) := by decide +kernel
theorem dX7_read_0 : decode cX7_read 0 = .ok (.aload_n 0, 1) := by decide +kernel
theorem dX7_read_1 : decode cX7_read 1 = .ok (.iload_n 1, 1) := by decide +kernel
theorem dX7_read_2 : decode cX7_read 2 = .ok (.aload_n 0, 1) := by decide +kernel
theorem dX7_read_3 : decode cX7_read 3 = .ok (.iload_n 2, 1) := by decide +kernel
theorem dX7_read_4 : decode cX7_read 4 = .ok (.invokevirtual 155, 3) := by decide +kernel
theorem dX7_read_7 : decode cX7_read 7 = .ok (.invokevirtual 303, 3) := by decide +kernel
theorem dX7_read_10 : decode cX7_read 10 = .ok (.istore_n 3, 1) := by decide +kernel
theorem dX7_read_11 : decode cX7_read 11 = .ok (.iload_n 3, 1) := by decide +kernel
theorem dX7_read_12 : decode cX7_read 12 = .ok (.ifCond .eq 9, 3) := by decide +kernel
theorem dX7_read_15 : decode cX7_read 15 = .ok (.aload_n 0, 1) := by decide +kernel
theorem dX7_read_16 : decode cX7_read 16 = .ok (.iload_n 3, 1) := by decide +kernel
theorem dX7_read_17 : decode cX7_read 17 = .ok (.invokevirtual 77, 3) := by decide +kernel
theorem dX7_read_20 : decode cX7_read 20 = .ok (.ireturn, 1) := by decide +kernel
theorem dX7_read_21 : decode cX7_read 21 = .ok (.iconst 0, 1) := by decide +kernel
theorem dX7_read_22 : decode cX7_read 22 = .ok (.istore 4, 2) := by decide +kernel
theorem dX7_read_24 : decode cX7_read 24 = .ok (.iconst 0, 1) := by decide +kernel
theorem dX7_read_25 : decode cX7_read 25 = .ok (.istore 5, 2) := by decide +kernel
theorem dX7_read_27 : decode cX7_read 27 = .ok (.iload 5, 2) := by decide +kernel
theorem dX7_read_29 : decode cX7_read 29 = .ok (.iconst 5, 1) := by decide +kernel
theorem dX7_read_30 : decode cX7_read 30 = .ok (.if_icmp .gt 61, 3) := by decide +kernel
theorem dX7_read_33 : decode cX7_read 33 = .ok (.iconst 0, 1) := by decide +kernel
theorem dX7_read_34 : decode cX7_read 34 = .ok (.istore 6, 2) := by decide +kernel
theorem dX7_read_36 : decode cX7_read 36 = .ok (.iload 6, 2) := by decide +kernel
theorem dX7_read_38 : decode cX7_read 38 = .ok (.bipush 12, 2) := by decide +kernel
theorem dX7_read_40 : decode cX7_read 40 = .ok (.if_icmp .ge 45, 3) := by decide +kernel
theorem dX7_read_43 : decode cX7_read 43 = .ok (.iload 4, 2) := by decide +kernel
theorem dX7_read_45 : decode cX7_read 45 = .ok (.aload_n 0, 1) := by decide +kernel
theorem dX7_read_46 : decode cX7_read 46 = .ok (.iload_n 1, 1) := by decide +kernel
theorem dX7_read_47 : decode cX7_read 47 = .ok (.iload 5, 2) := by decide +kernel
theorem dX7_read_49 : decode cX7_read 49 = .ok (.iload 6, 2) := by decide +kernel
theorem dX7_read_51 : decode cX7_read 51 = .ok (.aload_n 0, 1) := by decide +kernel
theorem dX7_read_52 : decode cX7_read 52 = .ok (.iload_n 2, 1) := by decide +kernel
theorem dX7_read_53 : decode cX7_read 53 = .ok (.iconst 3, 1) := by decide +kernel
theorem dX7_read_54 : decode cX7_read 54 = .ok (.invokevirtual 120, 3) := by decide +kernel
theorem dX7_read_57 : decode cX7_read 57 = .ok (.iconst 1, 1) := by decide +kernel
theorem dX7_read_58 : decode cX7_read 58 = .ok (.aload_n 0, 1) := by decide +kernel
theorem dX7_read_59 : decode cX7_read 59 = .ok (.iload_n 2, 1) := by decide +kernel
theorem dX7_read_60 : decode cX7_read 60 = .ok (.iconst 1, 1) := by decide +kernel
theorem dX7_read_61 : decode cX7_read 61 = .ok (.invokevirtual 120, 3) := by decide +kernel
theorem dX7_read_64 : decode cX7_read 64 = .ok (.isub, 1) := by decide +kernel
theorem dX7_read_65 : decode cX7_read 65 = .ok (.invokevirtual 307, 3) := by decide +kernel
theorem dX7_read_68 : decode cX7_read 68 = .ok (.ifCond .eq 7, 3) := by decide +kernel
theorem dX7_read_71 : decode cX7_read 71 = .ok (.iconst 1, 1) := by decide +kernel
theorem dX7_read_72 : decode cX7_read 72 = .ok (.goto 4, 3) := by decide +kernel
theorem dX7_read_75 : decode cX7_read 75 = .ok (.iconst 0, 1) := by decide +kernel
theorem dX7_read_76 : decode cX7_read 76 = .ok (.iadd, 1) := by decide +kernel
theorem dX7_read_77 : decode cX7_read 77 = .ok (.istore 4, 2) := by decide +kernel
theorem dX7_read_79 : decode cX7_read 79 = .ok (.iinc 6 1, 3) := by decide +kernel
theorem dX7_read_82 : decode cX7_read 82 = .ok (.goto (-46), 3) := by decide +kernel
theorem dX7_read_85 : decode cX7_read 85 = .ok (.iinc 5 1, 3) := by decide +kernel
theorem dX7_read_88 : decode cX7_read 88 = .ok (.goto (-61), 3) := by decide +kernel
theorem dX7_read_91 : decode cX7_read 91 = .ok (.iload 4, 2) := by decide +kernel
theorem dX7_read_93 : decode cX7_read 93 = .ok (.ireturn, 1) := by decide +kernel
theorem dX7_image_0 : decode cX7_image 0 = .ok (.aload_n 0, 1) := by decide +kernel
theorem dX7_image_1 : decode cX7_image 1 = .ok (.getfield 9, 3) := by decide +kernel
theorem dX7_image_4 : decode cX7_image 4 = .ok (.aload_n 0, 1) := by decide +kernel
theorem dX7_image_5 : decode cX7_image 5 = .ok (.getfield 13, 3) := by decide +kernel
theorem dX7_image_8 : decode cX7_image 8 = .ok (.invokestatic 72, 3) := by decide +kernel
theorem dX7_image_11 : decode cX7_image 11 = .ok (.aload_n 0, 1) := by decide +kernel
theorem dX7_image_12 : decode cX7_image 12 = .ok (.iconst 1, 1) := by decide +kernel
theorem dX7_image_13 : decode cX7_image 13 = .ok (.putfield 311, 3) := by decide +kernel
theorem dX7_image_16 : decode cX7_image 16 = .ok (.iconst 1, 1) := by decide +kernel
theorem dX7_image_17 : decode cX7_image 17 = .ok (.ireturn, 1) := by decide +kernel
theorem dX7_undo_0 : decode cX7_undo 0 = .ok (.aload_n 0, 1) := by decide +kernel
theorem dX7_undo_1 : decode cX7_undo 1 = .ok (.getfield 311, 3) := by decide +kernel
theorem dX7_undo_4 : decode cX7_undo 4 = .ok (.ifCond .ne 10, 3) := by decide +kernel
theorem dX7_undo_7 : decode cX7_undo 7 = .ok (.aload_n 0, 1) := by decide +kernel
theorem dX7_undo_8 : decode cX7_undo 8 = .ok (.ldc 76, 2) := by decide +kernel
theorem dX7_undo_10 : decode cX7_undo 10 = .ok (.invokevirtual 77, 3) := by decide +kernel
theorem dX7_undo_13 : decode cX7_undo 13 = .ok (.ireturn, 1) := by decide +kernel
theorem dX7_undo_14 : decode cX7_undo 14 = .ok (.aload_n 0, 1) := by decide +kernel
theorem dX7_undo_15 : decode cX7_undo 15 = .ok (.getfield 13, 3) := by decide +kernel
theorem dX7_undo_18 : decode cX7_undo 18 = .ok (.aload_n 0, 1) := by decide +kernel
theorem dX7_undo_19 : decode cX7_undo 19 = .ok (.getfield 9, 3) := by decide +kernel
theorem dX7_undo_22 : decode cX7_undo 22 = .ok (.invokestatic 72, 3) := by decide +kernel
theorem dX7_undo_25 : decode cX7_undo 25 = .ok (.aload_n 0, 1) := by decide +kernel
theorem dX7_undo_26 : decode cX7_undo 26 = .ok (.getfield 9, 3) := by decide +kernel
theorem dX7_undo_29 : decode cX7_undo 29 = .ok (.iconst 1, 1) := by decide +kernel
theorem dX7_undo_30 : decode cX7_undo 30 = .ok (.iaload, 1) := by decide +kernel
theorem dX7_undo_31 : decode cX7_undo 31 = .ok (.ireturn, 1) := by decide +kernel
theorem dX7_tear_0 : decode cX7_tear 0 = .ok (.aload_n 0, 1) := by decide +kernel
theorem dX7_tear_1 : decode cX7_tear 1 = .ok (.getfield 311, 3) := by decide +kernel
theorem dX7_tear_4 : decode cX7_tear 4 = .ok (.ifCond .eq 7, 3) := by decide +kernel
theorem dX7_tear_7 : decode cX7_tear 7 = .ok (.iconst 1, 1) := by decide +kernel
theorem dX7_tear_8 : decode cX7_tear 8 = .ok (.goto 4, 3) := by decide +kernel
theorem dX7_tear_11 : decode cX7_tear 11 = .ok (.iconst 0, 1) := by decide +kernel
theorem dX7_tear_12 : decode cX7_tear 12 = .ok (.istore_n 1, 1) := by decide +kernel
theorem dX7_tear_13 : decode cX7_tear 13 = .ok (.aload_n 0, 1) := by decide +kernel
theorem dX7_tear_14 : decode cX7_tear 14 = .ok (.iconst 0, 1) := by decide +kernel
theorem dX7_tear_15 : decode cX7_tear 15 = .ok (.putfield 311, 3) := by decide +kernel
theorem dX7_tear_18 : decode cX7_tear 18 = .ok (.iload_n 1, 1) := by decide +kernel
theorem dX7_tear_19 : decode cX7_tear 19 = .ok (.ireturn, 1) := by decide +kernel
theorem dX7_count_0 : decode cX7_count 0 = .ok (.iconst 0, 1) := by decide +kernel
theorem dX7_count_1 : decode cX7_count 1 = .ok (.istore_n 2, 1) := by decide +kernel
theorem dX7_count_2 : decode cX7_count 2 = .ok (.iconst 0, 1) := by decide +kernel
theorem dX7_count_3 : decode cX7_count 3 = .ok (.istore_n 3, 1) := by decide +kernel
theorem dX7_count_4 : decode cX7_count 4 = .ok (.iconst 0, 1) := by decide +kernel
theorem dX7_count_5 : decode cX7_count 5 = .ok (.istore 4, 2) := by decide +kernel
theorem dX7_count_7 : decode cX7_count 7 = .ok (.iload 4, 2) := by decide +kernel
theorem dX7_count_9 : decode cX7_count 9 = .ok (.aload_n 0, 1) := by decide +kernel
theorem dX7_count_10 : decode cX7_count 10 = .ok (.getfield 9, 3) := by decide +kernel
theorem dX7_count_13 : decode cX7_count 13 = .ok (.iconst 1, 1) := by decide +kernel
theorem dX7_count_14 : decode cX7_count 14 = .ok (.iaload, 1) := by decide +kernel
theorem dX7_count_15 : decode cX7_count 15 = .ok (.if_icmp .ge 32, 3) := by decide +kernel
theorem dX7_count_18 : decode cX7_count 18 = .ok (.iload_n 2, 1) := by decide +kernel
theorem dX7_count_19 : decode cX7_count 19 = .ok (.aload_n 0, 1) := by decide +kernel
theorem dX7_count_20 : decode cX7_count 20 = .ok (.iload 4, 2) := by decide +kernel
theorem dX7_count_22 : decode cX7_count 22 = .ok (.iconst 4, 1) := by decide +kernel
theorem dX7_count_23 : decode cX7_count 23 = .ok (.invokevirtual 120, 3) := by decide +kernel
theorem dX7_count_26 : decode cX7_count 26 = .ok (.iadd, 1) := by decide +kernel
theorem dX7_count_27 : decode cX7_count 27 = .ok (.istore_n 2, 1) := by decide +kernel
theorem dX7_count_28 : decode cX7_count 28 = .ok (.iload_n 3, 1) := by decide +kernel
theorem dX7_count_29 : decode cX7_count 29 = .ok (.aload_n 0, 1) := by decide +kernel
theorem dX7_count_30 : decode cX7_count 30 = .ok (.iload 4, 2) := by decide +kernel
theorem dX7_count_32 : decode cX7_count 32 = .ok (.iconst 3, 1) := by decide +kernel
theorem dX7_count_33 : decode cX7_count 33 = .ok (.invokevirtual 120, 3) := by decide +kernel
theorem dX7_count_36 : decode cX7_count 36 = .ok (.invokestatic 314, 3) := by decide +kernel
theorem dX7_count_39 : decode cX7_count 39 = .ok (.iadd, 1) := by decide +kernel
theorem dX7_count_40 : decode cX7_count 40 = .ok (.istore_n 3, 1) := by decide +kernel
theorem dX7_count_41 : decode cX7_count 41 = .ok (.iinc 4 1, 3) := by decide +kernel
theorem dX7_count_44 : decode cX7_count 44 = .ok (.goto (-37), 3) := by decide +kernel
theorem dX7_count_47 : decode cX7_count 47 = .ok (.iload_n 1, 1) := by decide +kernel
theorem dX7_count_48 : decode cX7_count 48 = .ok (.ifCond .ne 12, 3) := by decide +kernel
theorem dX7_count_51 : decode cX7_count 51 = .ok (.aload_n 0, 1) := by decide +kernel
theorem dX7_count_52 : decode cX7_count 52 = .ok (.getfield 9, 3) := by decide +kernel
theorem dX7_count_55 : decode cX7_count 55 = .ok (.iconst 1, 1) := by decide +kernel
theorem dX7_count_56 : decode cX7_count 56 = .ok (.iaload, 1) := by decide +kernel
theorem dX7_count_57 : decode cX7_count 57 = .ok (.goto 39, 3) := by decide +kernel
theorem dX7_count_60 : decode cX7_count 60 = .ok (.iload_n 1, 1) := by decide +kernel
theorem dX7_count_61 : decode cX7_count 61 = .ok (.iconst 1, 1) := by decide +kernel
theorem dX7_count_62 : decode cX7_count 62 = .ok (.if_icmp .ne 10, 3) := by decide +kernel
theorem dX7_count_65 : decode cX7_count 65 = .ok (.aload_n 0, 1) := by decide +kernel
theorem dX7_count_66 : decode cX7_count 66 = .ok (.getfield 213, 3) := by decide +kernel
theorem dX7_count_69 : decode cX7_count 69 = .ok (.goto 27, 3) := by decide +kernel
theorem dX7_count_72 : decode cX7_count 72 = .ok (.iload_n 1, 1) := by decide +kernel
theorem dX7_count_73 : decode cX7_count 73 = .ok (.iconst 2, 1) := by decide +kernel
theorem dX7_count_74 : decode cX7_count 74 = .ok (.if_icmp .ne 7, 3) := by decide +kernel
theorem dX7_count_77 : decode cX7_count 77 = .ok (.iload_n 2, 1) := by decide +kernel
theorem dX7_count_78 : decode cX7_count 78 = .ok (.goto 18, 3) := by decide +kernel
theorem dX7_count_81 : decode cX7_count 81 = .ok (.iload_n 1, 1) := by decide +kernel
theorem dX7_count_82 : decode cX7_count 82 = .ok (.iconst 3, 1) := by decide +kernel
theorem dX7_count_83 : decode cX7_count 83 = .ok (.if_icmp .ne 7, 3) := by decide +kernel
theorem dX7_count_86 : decode cX7_count 86 = .ok (.iload_n 3, 1) := by decide +kernel
theorem dX7_count_87 : decode cX7_count 87 = .ok (.goto 9, 3) := by decide +kernel
theorem dX7_count_90 : decode cX7_count 90 = .ok (.aload_n 0, 1) := by decide +kernel
theorem dX7_count_91 : decode cX7_count 91 = .ok (.ldc 71, 2) := by decide +kernel
theorem dX7_count_93 : decode cX7_count 93 = .ok (.invokevirtual 77, 3) := by decide +kernel
theorem dX7_count_96 : decode cX7_count 96 = .ok (.ireturn, 1) := by decide +kernel
theorem dX7_status_0 : decode cX7_status 0 = .ok (.iload_n 1, 1) := by decide +kernel
theorem dX7_status_1 : decode cX7_status 1 = .ok (.iconst (-1), 1) := by decide +kernel
theorem dX7_status_2 : decode cX7_status 2 = .ok (.bipush 6, 2) := by decide +kernel
theorem dX7_status_4 : decode cX7_status 4 = .ok (.invokestatic 81, 3) := by decide +kernel
theorem dX7_status_7 : decode cX7_status 7 = .ok (.ifCond .eq 14, 3) := by decide +kernel
theorem dX7_status_10 : decode cX7_status 10 = .ok (.aload_n 0, 1) := by decide +kernel
theorem dX7_status_11 : decode cX7_status 11 = .ok (.getfield 19, 3) := by decide +kernel
theorem dX7_status_14 : decode cX7_status 14 = .ok (.iload_n 1, 1) := by decide +kernel
theorem dX7_status_15 : decode cX7_status 15 = .ok (.iconst 1, 1) := by decide +kernel
theorem dX7_status_16 : decode cX7_status 16 = .ok (.iadd, 1) := by decide +kernel
theorem dX7_status_17 : decode cX7_status 17 = .ok (.iaload, 1) := by decide +kernel
theorem dX7_status_18 : decode cX7_status 18 = .ok (.goto 9, 3) := by decide +kernel
theorem dX7_status_21 : decode cX7_status 21 = .ok (.aload_n 0, 1) := by decide +kernel
theorem dX7_status_22 : decode cX7_status 22 = .ok (.ldc 71, 2) := by decide +kernel
theorem dX7_status_24 : decode cX7_status 24 = .ok (.invokevirtual 77, 3) := by decide +kernel
theorem dX7_status_27 : decode cX7_status 27 = .ok (.ireturn, 1) := by decide +kernel
