theorem dL_part_0 : decode cL_part 0 = .ok (.iload_n 0, 1) := by decide +kernel
theorem dL_part_1 : decode cL_part 1 = .ok (.ldc 7, 2) := by decide +kernel
theorem dL_part_3 : decode cL_part 3 = .ok (.iand, 1) := by decide +kernel
theorem dL_part_4 : decode cL_part 4 = .ok (.iload_n 1, 1) := by decide +kernel
theorem dL_part_5 : decode cL_part 5 = .ok (.irem, 1) := by decide +kernel
theorem dL_part_6 : decode cL_part 6 = .ok (.ireturn, 1) := by decide +kernel
theorem dL_take_0 : decode cL_take 0 = .ok (.aload_n 0, 1) := by decide +kernel
theorem dL_take_1 : decode cL_take 1 = .ok (.arraylength, 1) := by decide +kernel
theorem dL_take_2 : decode cL_take 2 = .ok (.ifCond .ne 13, 3) := by decide +kernel
theorem dL_take_5 : decode cL_take 5 = .ok (.sipush 7919, 3) := by decide +kernel
theorem dL_take_8 : decode cL_take 8 = .ok (.iload_n 1, 1) := by decide +kernel
theorem dL_take_9 : decode cL_take 9 = .ok (.imul, 1) := by decide +kernel
theorem dL_take_10 : decode cL_take 10 = .ok (.iconst 3, 1) := by decide +kernel
theorem dL_take_11 : decode cL_take 11 = .ok (.iadd, 1) := by decide +kernel
theorem dL_take_12 : decode cL_take 12 = .ok (.goto 27, 3) := by decide +kernel
theorem dL_take_15 : decode cL_take 15 = .ok (.aload_n 0, 1) := by decide +kernel
theorem dL_take_16 : decode cL_take 16 = .ok (.iload_n 1, 1) := by decide +kernel
theorem dL_take_17 : decode cL_take 17 = .ok (.aload_n 0, 1) := by decide +kernel
theorem dL_take_18 : decode cL_take 18 = .ok (.arraylength, 1) := by decide +kernel
theorem dL_take_19 : decode cL_take 19 = .ok (.irem, 1) := by decide +kernel
theorem dL_take_20 : decode cL_take 20 = .ok (.iaload, 1) := by decide +kernel
theorem dL_take_21 : decode cL_take 21 = .ok (.iload_n 1, 1) := by decide +kernel
theorem dL_take_22 : decode cL_take 22 = .ok (.bipush 7, 2) := by decide +kernel
theorem dL_take_24 : decode cL_take 24 = .ok (.irem, 1) := by decide +kernel
theorem dL_take_25 : decode cL_take 25 = .ok (.ishr, 1) := by decide +kernel
theorem dL_take_26 : decode cL_take 26 = .ok (.iload_n 1, 1) := by decide +kernel
theorem dL_take_27 : decode cL_take 27 = .ok (.aload_n 0, 1) := by decide +kernel
theorem dL_take_28 : decode cL_take 28 = .ok (.arraylength, 1) := by decide +kernel
theorem dL_take_29 : decode cL_take 29 = .ok (.idiv, 1) := by decide +kernel
theorem dL_take_30 : decode cL_take 30 = .ok (.bipush 31, 2) := by decide +kernel
theorem dL_take_32 : decode cL_take 32 = .ok (.imul, 1) := by decide +kernel
theorem dL_take_33 : decode cL_take 33 = .ok (.ixor, 1) := by decide +kernel
theorem dL_take_34 : decode cL_take 34 = .ok (.iload_n 1, 1) := by decide +kernel
theorem dL_take_35 : decode cL_take 35 = .ok (.ldc 8, 2) := by decide +kernel
theorem dL_take_37 : decode cL_take 37 = .ok (.imul, 1) := by decide +kernel
theorem dL_take_38 : decode cL_take 38 = .ok (.ixor, 1) := by decide +kernel
theorem dL_take_39 : decode cL_take 39 = .ok (.ireturn, 1) := by decide +kernel
theorem dL_mixed_0 : decode cL_mixed 0 = .ok (.ldc2_w 9, 3) := by decide +kernel
theorem dL_mixed_3 : decode cL_mixed 3 = .ok (.lload_n 0, 1) := by decide +kernel
theorem dL_mixed_4 : decode cL_mixed 4 = .ok (.lmul, 1) := by decide +kernel
theorem dL_mixed_5 : decode cL_mixed 5 = .ok (.lload_n 2, 1) := by decide +kernel
theorem dL_mixed_6 : decode cL_mixed 6 = .ok (.ladd, 1) := by decide +kernel
theorem dL_mixed_7 : decode cL_mixed 7 = .ok (.lreturn, 1) := by decide +kernel
theorem dL_stations_0 : decode cL_stations 0 = .ok (.ldc2_w 11, 3) := by decide +kernel
theorem dL_stations_3 : decode cL_stations 3 = .ok (.lstore_n 2, 1) := by decide +kernel
theorem dL_stations_4 : decode cL_stations 4 = .ok (.iconst 0, 1) := by decide +kernel
theorem dL_stations_5 : decode cL_stations 5 = .ok (.istore 4, 2) := by decide +kernel
theorem dL_stations_7 : decode cL_stations 7 = .ok (.iload 4, 2) := by decide +kernel
theorem dL_stations_9 : decode cL_stations 9 = .ok (.aload_n 0, 1) := by decide +kernel
theorem dL_stations_10 : decode cL_stations 10 = .ok (.iload_n 1, 1) := by decide +kernel
theorem dL_stations_11 : decode cL_stations 11 = .ok (.iconst 4, 1) := by decide +kernel
theorem dL_stations_12 : decode cL_stations 12 = .ok (.invokevirtual 13, 3) := by decide +kernel
theorem dL_stations_15 : decode cL_stations 15 = .ok (.if_icmp .ge 112, 3) := by decide +kernel
theorem dL_stations_18 : decode cL_stations 18 = .ok (.bipush 10, 2) := by decide +kernel
theorem dL_stations_20 : decode cL_stations 20 = .ok (.iload_n 1, 1) := by decide +kernel
theorem dL_stations_21 : decode cL_stations 21 = .ok (.imul, 1) := by decide +kernel
theorem dL_stations_22 : decode cL_stations 22 = .ok (.iload 4, 2) := by decide +kernel
theorem dL_stations_24 : decode cL_stations 24 = .ok (.iadd, 1) := by decide +kernel
theorem dL_stations_25 : decode cL_stations 25 = .ok (.istore 5, 2) := by decide +kernel
theorem dL_stations_27 : decode cL_stations 27 = .ok (.iconst 0, 1) := by decide +kernel
theorem dL_stations_28 : decode cL_stations 28 = .ok (.istore 6, 2) := by decide +kernel
theorem dL_stations_30 : decode cL_stations 30 = .ok (.iload 6, 2) := by decide +kernel
theorem dL_stations_32 : decode cL_stations 32 = .ok (.bipush 9, 2) := by decide +kernel
theorem dL_stations_34 : decode cL_stations 34 = .ok (.if_icmp .ge 23, 3) := by decide +kernel
theorem dL_stations_37 : decode cL_stations 37 = .ok (.lload_n 2, 1) := by decide +kernel
theorem dL_stations_38 : decode cL_stations 38 = .ok (.aload_n 0, 1) := by decide +kernel
theorem dL_stations_39 : decode cL_stations 39 = .ok (.iload 5, 2) := by decide +kernel
theorem dL_stations_41 : decode cL_stations 41 = .ok (.iload 6, 2) := by decide +kernel
theorem dL_stations_43 : decode cL_stations 43 = .ok (.invokevirtual 19, 3) := by decide +kernel
theorem dL_stations_46 : decode cL_stations 46 = .ok (.i2l, 1) := by decide +kernel
theorem dL_stations_47 : decode cL_stations 47 = .ok (.invokestatic 22, 3) := by decide +kernel
theorem dL_stations_50 : decode cL_stations 50 = .ok (.lstore_n 2, 1) := by decide +kernel
theorem dL_stations_51 : decode cL_stations 51 = .ok (.iinc 6 1, 3) := by decide +kernel
theorem dL_stations_54 : decode cL_stations 54 = .ok (.goto (-24), 3) := by decide +kernel
theorem dL_stations_57 : decode cL_stations 57 = .ok (.iconst 0, 1) := by decide +kernel
theorem dL_stations_58 : decode cL_stations 58 = .ok (.istore 6, 2) := by decide +kernel
theorem dL_stations_60 : decode cL_stations 60 = .ok (.iload 6, 2) := by decide +kernel
theorem dL_stations_62 : decode cL_stations 62 = .ok (.aload_n 0, 1) := by decide +kernel
theorem dL_stations_63 : decode cL_stations 63 = .ok (.iload 5, 2) := by decide +kernel
theorem dL_stations_65 : decode cL_stations 65 = .ok (.iconst 2, 1) := by decide +kernel
theorem dL_stations_66 : decode cL_stations 66 = .ok (.invokevirtual 19, 3) := by decide +kernel
theorem dL_stations_69 : decode cL_stations 69 = .ok (.if_icmp .gt 23, 3) := by decide +kernel
theorem dL_stations_72 : decode cL_stations 72 = .ok (.lload_n 2, 1) := by decide +kernel
theorem dL_stations_73 : decode cL_stations 73 = .ok (.aload_n 0, 1) := by decide +kernel
theorem dL_stations_74 : decode cL_stations 74 = .ok (.iload 5, 2) := by decide +kernel
theorem dL_stations_76 : decode cL_stations 76 = .ok (.iload 6, 2) := by decide +kernel
theorem dL_stations_78 : decode cL_stations 78 = .ok (.invokevirtual 28, 3) := by decide +kernel
theorem dL_stations_81 : decode cL_stations 81 = .ok (.i2l, 1) := by decide +kernel
theorem dL_stations_82 : decode cL_stations 82 = .ok (.invokestatic 22, 3) := by decide +kernel
theorem dL_stations_85 : decode cL_stations 85 = .ok (.lstore_n 2, 1) := by decide +kernel
theorem dL_stations_86 : decode cL_stations 86 = .ok (.iinc 6 1, 3) := by decide +kernel
theorem dL_stations_89 : decode cL_stations 89 = .ok (.goto (-29), 3) := by decide +kernel
theorem dL_stations_92 : decode cL_stations 92 = .ok (.iconst 0, 1) := by decide +kernel
theorem dL_stations_93 : decode cL_stations 93 = .ok (.istore 6, 2) := by decide +kernel
theorem dL_stations_95 : decode cL_stations 95 = .ok (.iload 6, 2) := by decide +kernel
theorem dL_stations_97 : decode cL_stations 97 = .ok (.iconst 4, 1) := by decide +kernel
theorem dL_stations_98 : decode cL_stations 98 = .ok (.if_icmp .ge 23, 3) := by decide +kernel
theorem dL_stations_101 : decode cL_stations 101 = .ok (.lload_n 2, 1) := by decide +kernel
theorem dL_stations_102 : decode cL_stations 102 = .ok (.aload_n 0, 1) := by decide +kernel
theorem dL_stations_103 : decode cL_stations 103 = .ok (.iload 5, 2) := by decide +kernel
theorem dL_stations_105 : decode cL_stations 105 = .ok (.iload 6, 2) := by decide +kernel
theorem dL_stations_107 : decode cL_stations 107 = .ok (.invokevirtual 31, 3) := by decide +kernel
theorem dL_stations_110 : decode cL_stations 110 = .ok (.i2l, 1) := by decide +kernel
theorem dL_stations_111 : decode cL_stations 111 = .ok (.invokestatic 22, 3) := by decide +kernel
theorem dL_stations_114 : decode cL_stations 114 = .ok (.lstore_n 2, 1) := by decide +kernel
theorem dL_stations_115 : decode cL_stations 115 = .ok (.iinc 6 1, 3) := by decide +kernel
theorem dL_stations_118 : decode cL_stations 118 = .ok (.goto (-23), 3) := by decide +kernel
theorem dL_stations_121 : decode cL_stations 121 = .ok (.iinc 4 1, 3) := by decide +kernel
theorem dL_stations_124 : decode cL_stations 124 = .ok (.goto (-117), 3) := by decide +kernel
theorem dL_stations_127 : decode cL_stations 127 = .ok (.lload_n 2, 1) := by decide +kernel
theorem dL_stations_128 : decode cL_stations 128 = .ok (.lreturn, 1) := by decide +kernel
theorem dL_state_0 : decode cL_state 0 = .ok (.ldc2_w 34, 3) := by decide +kernel
theorem dL_state_3 : decode cL_state 3 = .ok (.lstore_n 1, 1) := by decide +kernel
theorem dL_state_4 : decode cL_state 4 = .ok (.iconst 0, 1) := by decide +kernel
theorem dL_state_5 : decode cL_state 5 = .ok (.istore_n 3, 1) := by decide +kernel
theorem dL_state_6 : decode cL_state 6 = .ok (.iload_n 3, 1) := by decide +kernel
theorem dL_state_7 : decode cL_state 7 = .ok (.bipush 19, 2) := by decide +kernel
theorem dL_state_9 : decode cL_state 9 = .ok (.if_icmp .ge 20, 3) := by decide +kernel
theorem dL_state_12 : decode cL_state 12 = .ok (.lload_n 1, 1) := by decide +kernel
theorem dL_state_13 : decode cL_state 13 = .ok (.aload_n 0, 1) := by decide +kernel
theorem dL_state_14 : decode cL_state 14 = .ok (.iload_n 3, 1) := by decide +kernel
theorem dL_state_15 : decode cL_state 15 = .ok (.invokevirtual 36, 3) := by decide +kernel
theorem dL_state_18 : decode cL_state 18 = .ok (.i2l, 1) := by decide +kernel
theorem dL_state_19 : decode cL_state 19 = .ok (.invokestatic 22, 3) := by decide +kernel
theorem dL_state_22 : decode cL_state 22 = .ok (.lstore_n 1, 1) := by decide +kernel
theorem dL_state_23 : decode cL_state 23 = .ok (.iinc 3 1, 3) := by decide +kernel
theorem dL_state_26 : decode cL_state 26 = .ok (.goto (-20), 3) := by decide +kernel
theorem dL_state_29 : decode cL_state 29 = .ok (.iconst 0, 1) := by decide +kernel
theorem dL_state_30 : decode cL_state 30 = .ok (.istore_n 3, 1) := by decide +kernel
theorem dL_state_31 : decode cL_state 31 = .ok (.iload_n 3, 1) := by decide +kernel
theorem dL_state_32 : decode cL_state 32 = .ok (.iconst 2, 1) := by decide +kernel
theorem dL_state_33 : decode cL_state 33 = .ok (.if_icmp .ge 81, 3) := by decide +kernel
theorem dL_state_36 : decode cL_state 36 = .ok (.iconst 0, 1) := by decide +kernel
theorem dL_state_37 : decode cL_state 37 = .ok (.istore 4, 2) := by decide +kernel
theorem dL_state_39 : decode cL_state 39 = .ok (.iload 4, 2) := by decide +kernel
theorem dL_state_41 : decode cL_state 41 = .ok (.bipush 9, 2) := by decide +kernel
theorem dL_state_43 : decode cL_state 43 = .ok (.if_icmp .ge 22, 3) := by decide +kernel
theorem dL_state_46 : decode cL_state 46 = .ok (.lload_n 1, 1) := by decide +kernel
theorem dL_state_47 : decode cL_state 47 = .ok (.aload_n 0, 1) := by decide +kernel
theorem dL_state_48 : decode cL_state 48 = .ok (.iload_n 3, 1) := by decide +kernel
theorem dL_state_49 : decode cL_state 49 = .ok (.iload 4, 2) := by decide +kernel
theorem dL_state_51 : decode cL_state 51 = .ok (.invokevirtual 13, 3) := by decide +kernel
theorem dL_state_54 : decode cL_state 54 = .ok (.i2l, 1) := by decide +kernel
theorem dL_state_55 : decode cL_state 55 = .ok (.invokestatic 22, 3) := by decide +kernel
theorem dL_state_58 : decode cL_state 58 = .ok (.lstore_n 1, 1) := by decide +kernel
theorem dL_state_59 : decode cL_state 59 = .ok (.iinc 4 1, 3) := by decide +kernel
theorem dL_state_62 : decode cL_state 62 = .ok (.goto (-23), 3) := by decide +kernel
theorem dL_state_65 : decode cL_state 65 = .ok (.iconst 0, 1) := by decide +kernel
theorem dL_state_66 : decode cL_state 66 = .ok (.istore 4, 2) := by decide +kernel
theorem dL_state_68 : decode cL_state 68 = .ok (.iload 4, 2) := by decide +kernel
theorem dL_state_70 : decode cL_state 70 = .ok (.aload_n 0, 1) := by decide +kernel
theorem dL_state_71 : decode cL_state 71 = .ok (.iload_n 3, 1) := by decide +kernel
theorem dL_state_72 : decode cL_state 72 = .ok (.iconst 0, 1) := by decide +kernel
theorem dL_state_73 : decode cL_state 73 = .ok (.invokevirtual 13, 3) := by decide +kernel
theorem dL_state_76 : decode cL_state 76 = .ok (.if_icmp .ge 22, 3) := by decide +kernel
theorem dL_state_79 : decode cL_state 79 = .ok (.lload_n 1, 1) := by decide +kernel
theorem dL_state_80 : decode cL_state 80 = .ok (.aload_n 0, 1) := by decide +kernel
theorem dL_state_81 : decode cL_state 81 = .ok (.iload_n 3, 1) := by decide +kernel
theorem dL_state_82 : decode cL_state 82 = .ok (.iload 4, 2) := by decide +kernel
theorem dL_state_84 : decode cL_state 84 = .ok (.invokevirtual 40, 3) := by decide +kernel
theorem dL_state_87 : decode cL_state 87 = .ok (.i2l, 1) := by decide +kernel
theorem dL_state_88 : decode cL_state 88 = .ok (.invokestatic 22, 3) := by decide +kernel
theorem dL_state_91 : decode cL_state 91 = .ok (.lstore_n 1, 1) := by decide +kernel
theorem dL_state_92 : decode cL_state 92 = .ok (.iinc 4 1, 3) := by decide +kernel
theorem dL_state_95 : decode cL_state 95 = .ok (.goto (-27), 3) := by decide +kernel
theorem dL_state_98 : decode cL_state 98 = .ok (.lload_n 1, 1) := by decide +kernel
theorem dL_state_99 : decode cL_state 99 = .ok (.aload_n 0, 1) := by decide +kernel
theorem dL_state_100 : decode cL_state 100 = .ok (.iload_n 3, 1) := by decide +kernel
theorem dL_state_101 : decode cL_state 101 = .ok (.invokestatic 43, 3) := by decide +kernel
theorem dL_state_104 : decode cL_state 104 = .ok (.invokestatic 22, 3) := by decide +kernel
theorem dL_state_107 : decode cL_state 107 = .ok (.lstore_n 1, 1) := by decide +kernel
theorem dL_state_108 : decode cL_state 108 = .ok (.iinc 3 1, 3) := by decide +kernel
theorem dL_state_111 : decode cL_state 111 = .ok (.goto (-80), 3) := by decide +kernel
theorem dL_state_114 : decode cL_state 114 = .ok (.iconst 0, 1) := by decide +kernel
theorem dL_state_115 : decode cL_state 115 = .ok (.istore_n 3, 1) := by decide +kernel
theorem dL_state_116 : decode cL_state 116 = .ok (.iload_n 3, 1) := by decide +kernel
theorem dL_state_117 : decode cL_state 117 = .ok (.bipush 14, 2) := by decide +kernel
theorem dL_state_119 : decode cL_state 119 = .ok (.aload_n 0, 1) := by decide +kernel
theorem dL_state_120 : decode cL_state 120 = .ok (.iconst 1, 1) := by decide +kernel
theorem dL_state_121 : decode cL_state 121 = .ok (.invokevirtual 36, 3) := by decide +kernel
theorem dL_state_124 : decode cL_state 124 = .ok (.imul, 1) := by decide +kernel
theorem dL_state_125 : decode cL_state 125 = .ok (.if_icmp .ge 27, 3) := by decide +kernel
theorem dL_state_128 : decode cL_state 128 = .ok (.lload_n 1, 1) := by decide +kernel
theorem dL_state_129 : decode cL_state 129 = .ok (.aload_n 0, 1) := by decide +kernel
theorem dL_state_130 : decode cL_state 130 = .ok (.iload_n 3, 1) := by decide +kernel
theorem dL_state_131 : decode cL_state 131 = .ok (.bipush 14, 2) := by decide +kernel
theorem dL_state_133 : decode cL_state 133 = .ok (.idiv, 1) := by decide +kernel
theorem dL_state_134 : decode cL_state 134 = .ok (.iload_n 3, 1) := by decide +kernel
theorem dL_state_135 : decode cL_state 135 = .ok (.bipush 14, 2) := by decide +kernel
theorem dL_state_137 : decode cL_state 137 = .ok (.irem, 1) := by decide +kernel
theorem dL_state_138 : decode cL_state 138 = .ok (.invokevirtual 47, 3) := by decide +kernel
theorem dL_state_141 : decode cL_state 141 = .ok (.i2l, 1) := by decide +kernel
theorem dL_state_142 : decode cL_state 142 = .ok (.invokestatic 22, 3) := by decide +kernel
theorem dL_state_145 : decode cL_state 145 = .ok (.lstore_n 1, 1) := by decide +kernel
theorem dL_state_146 : decode cL_state 146 = .ok (.iinc 3 1, 3) := by decide +kernel
theorem dL_state_149 : decode cL_state 149 = .ok (.goto (-33), 3) := by decide +kernel
theorem dL_state_152 : decode cL_state 152 = .ok (.iconst 0, 1) := by decide +kernel
theorem dL_state_153 : decode cL_state 153 = .ok (.istore_n 3, 1) := by decide +kernel
theorem dL_state_154 : decode cL_state 154 = .ok (.iload_n 3, 1) := by decide +kernel
theorem dL_state_155 : decode cL_state 155 = .ok (.bipush 7, 2) := by decide +kernel
theorem dL_state_157 : decode cL_state 157 = .ok (.aload_n 0, 1) := by decide +kernel
theorem dL_state_158 : decode cL_state 158 = .ok (.bipush 17, 2) := by decide +kernel
theorem dL_state_160 : decode cL_state 160 = .ok (.invokevirtual 36, 3) := by decide +kernel
