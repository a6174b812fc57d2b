theorem dL_isTold_39 : decode cL_isTold 39 = .ok (.if_icmp .ne 15, 3) := by decide +kernel
theorem dL_isTold_42 : decode cL_isTold 42 = .ok (.aload_n 0, 1) := by decide +kernel
theorem dL_isTold_43 : decode cL_isTold 43 = .ok (.iconst 1, 1) := by decide +kernel
theorem dL_isTold_44 : decode cL_isTold 44 = .ok (.invokevirtual 36, 3) := by decide +kernel
theorem dL_isTold_47 : decode cL_isTold 47 = .ok (.ifCond .ne 7, 3) := by decide +kernel
theorem dL_isTold_50 : decode cL_isTold 50 = .ok (.iconst 1, 1) := by decide +kernel
theorem dL_isTold_51 : decode cL_isTold 51 = .ok (.goto 4, 3) := by decide +kernel
theorem dL_isTold_54 : decode cL_isTold 54 = .ok (.iconst 0, 1) := by decide +kernel
theorem dL_isTold_55 : decode cL_isTold 55 = .ok (.ireturn, 1) := by decide +kernel
theorem dL_built_0 : decode cL_built 0 = .ok (.new 14, 3) := by decide +kernel
theorem dL_built_3 : decode cL_built 3 = .ok (.dup, 1) := by decide +kernel
theorem dL_built_4 : decode cL_built 4 = .ok (.invokespecial 134, 3) := by decide +kernel
theorem dL_built_7 : decode cL_built 7 = .ok (.astore_n 0, 1) := by decide +kernel
theorem dL_built_8 : decode cL_built 8 = .ok (.aload_n 0, 1) := by decide +kernel
theorem dL_built_9 : decode cL_built 9 = .ok (.iconst 0, 1) := by decide +kernel
theorem dL_built_10 : decode cL_built 10 = .ok (.iconst 0, 1) := by decide +kernel
theorem dL_built_11 : decode cL_built 11 = .ok (.invokevirtual 62, 3) := by decide +kernel
theorem dL_built_14 : decode cL_built 14 = .ok (.aload_n 0, 1) := by decide +kernel
theorem dL_built_15 : decode cL_built 15 = .ok (.iconst 0, 1) := by decide +kernel
theorem dL_built_16 : decode cL_built 16 = .ok (.iconst 3, 1) := by decide +kernel
theorem dL_built_17 : decode cL_built 17 = .ok (.invokevirtual 62, 3) := by decide +kernel
theorem dL_built_20 : decode cL_built 20 = .ok (.iadd, 1) := by decide +kernel
theorem dL_built_21 : decode cL_built 21 = .ok (.aload_n 0, 1) := by decide +kernel
theorem dL_built_22 : decode cL_built 22 = .ok (.iconst 1, 1) := by decide +kernel
theorem dL_built_23 : decode cL_built 23 = .ok (.iconst 0, 1) := by decide +kernel
theorem dL_built_24 : decode cL_built 24 = .ok (.invokevirtual 62, 3) := by decide +kernel
theorem dL_built_27 : decode cL_built 27 = .ok (.iadd, 1) := by decide +kernel
theorem dL_built_28 : decode cL_built 28 = .ok (.aload_n 0, 1) := by decide +kernel
theorem dL_built_29 : decode cL_built 29 = .ok (.iconst 1, 1) := by decide +kernel
theorem dL_built_30 : decode cL_built 30 = .ok (.iconst 2, 1) := by decide +kernel
theorem dL_built_31 : decode cL_built 31 = .ok (.invokevirtual 62, 3) := by decide +kernel
theorem dL_built_34 : decode cL_built 34 = .ok (.iadd, 1) := by decide +kernel
theorem dL_built_35 : decode cL_built 35 = .ok (.istore_n 1, 1) := by decide +kernel
theorem dL_built_36 : decode cL_built 36 = .ok (.iload_n 1, 1) := by decide +kernel
theorem dL_built_37 : decode cL_built 37 = .ok (.iconst 2, 1) := by decide +kernel
theorem dL_built_38 : decode cL_built 38 = .ok (.if_icmp .ne 7, 3) := by decide +kernel
theorem dL_built_41 : decode cL_built 41 = .ok (.aload_n 0, 1) := by decide +kernel
theorem dL_built_42 : decode cL_built 42 = .ok (.goto 10, 3) := by decide +kernel
theorem dL_built_45 : decode cL_built 45 = .ok (.new 14, 3) := by decide +kernel
theorem dL_built_48 : decode cL_built 48 = .ok (.dup, 1) := by decide +kernel
theorem dL_built_49 : decode cL_built 49 = .ok (.invokespecial 134, 3) := by decide +kernel
theorem dL_built_52 : decode cL_built 52 = .ok (.areturn, 1) := by decide +kernel
theorem dL_isEvent_0 : decode cL_isEvent 0 = .ok (.aload_n 0, 1) := by decide +kernel
theorem dL_isEvent_1 : decode cL_isEvent 1 = .ok (.iload_n 1, 1) := by decide +kernel
theorem dL_isEvent_2 : decode cL_isEvent 2 = .ok (.iconst 0, 1) := by decide +kernel
theorem dL_isEvent_3 : decode cL_isEvent 3 = .ok (.invokevirtual 53, 3) := by decide +kernel
theorem dL_isEvent_6 : decode cL_isEvent 6 = .ok (.iload_n 2, 1) := by decide +kernel
theorem dL_isEvent_7 : decode cL_isEvent 7 = .ok (.if_icmp .ne 58, 3) := by decide +kernel
theorem dL_isEvent_10 : decode cL_isEvent 10 = .ok (.aload_n 0, 1) := by decide +kernel
theorem dL_isEvent_11 : decode cL_isEvent 11 = .ok (.iload_n 1, 1) := by decide +kernel
theorem dL_isEvent_12 : decode cL_isEvent 12 = .ok (.iconst 1, 1) := by decide +kernel
theorem dL_isEvent_13 : decode cL_isEvent 13 = .ok (.invokevirtual 53, 3) := by decide +kernel
theorem dL_isEvent_16 : decode cL_isEvent 16 = .ok (.iload_n 3, 1) := by decide +kernel
theorem dL_isEvent_17 : decode cL_isEvent 17 = .ok (.if_icmp .ne 48, 3) := by decide +kernel
theorem dL_isEvent_20 : decode cL_isEvent 20 = .ok (.iload 4, 2) := by decide +kernel
theorem dL_isEvent_22 : decode cL_isEvent 22 = .ok (.ifCond .lt 28, 3) := by decide +kernel
theorem dL_isEvent_25 : decode cL_isEvent 25 = .ok (.aload_n 0, 1) := by decide +kernel
theorem dL_isEvent_26 : decode cL_isEvent 26 = .ok (.iload_n 1, 1) := by decide +kernel
theorem dL_isEvent_27 : decode cL_isEvent 27 = .ok (.iconst 3, 1) := by decide +kernel
theorem dL_isEvent_28 : decode cL_isEvent 28 = .ok (.invokevirtual 53, 3) := by decide +kernel
theorem dL_isEvent_31 : decode cL_isEvent 31 = .ok (.iload 4, 2) := by decide +kernel
theorem dL_isEvent_33 : decode cL_isEvent 33 = .ok (.if_icmp .ne 32, 3) := by decide +kernel
theorem dL_isEvent_36 : decode cL_isEvent 36 = .ok (.aload_n 0, 1) := by decide +kernel
theorem dL_isEvent_37 : decode cL_isEvent 37 = .ok (.iload_n 1, 1) := by decide +kernel
theorem dL_isEvent_38 : decode cL_isEvent 38 = .ok (.iconst 2, 1) := by decide +kernel
theorem dL_isEvent_39 : decode cL_isEvent 39 = .ok (.invokevirtual 53, 3) := by decide +kernel
theorem dL_isEvent_42 : decode cL_isEvent 42 = .ok (.iload 4, 2) := by decide +kernel
theorem dL_isEvent_44 : decode cL_isEvent 44 = .ok (.bipush 10, 2) := by decide +kernel
theorem dL_isEvent_46 : decode cL_isEvent 46 = .ok (.idiv, 1) := by decide +kernel
theorem dL_isEvent_47 : decode cL_isEvent 47 = .ok (.if_icmp .ne 18, 3) := by decide +kernel
theorem dL_isEvent_50 : decode cL_isEvent 50 = .ok (.aload_n 0, 1) := by decide +kernel
theorem dL_isEvent_51 : decode cL_isEvent 51 = .ok (.iload_n 1, 1) := by decide +kernel
theorem dL_isEvent_52 : decode cL_isEvent 52 = .ok (.iconst 4, 1) := by decide +kernel
theorem dL_isEvent_53 : decode cL_isEvent 53 = .ok (.invokevirtual 53, 3) := by decide +kernel
theorem dL_isEvent_56 : decode cL_isEvent 56 = .ok (.iload 5, 2) := by decide +kernel
theorem dL_isEvent_58 : decode cL_isEvent 58 = .ok (.if_icmp .ne 7, 3) := by decide +kernel
theorem dL_isEvent_61 : decode cL_isEvent 61 = .ok (.iconst 1, 1) := by decide +kernel
theorem dL_isEvent_62 : decode cL_isEvent 62 = .ok (.goto 4, 3) := by decide +kernel
theorem dL_isEvent_65 : decode cL_isEvent 65 = .ok (.iconst 0, 1) := by decide +kernel
theorem dL_isEvent_66 : decode cL_isEvent 66 = .ok (.ireturn, 1) := by decide +kernel
theorem dL_orders_0 : decode cL_orders 0 = .ok (.invokestatic 193, 3) := by decide +kernel
theorem dL_orders_3 : decode cL_orders 3 = .ok (.astore_n 0, 1) := by decide +kernel
theorem dL_orders_4 : decode cL_orders 4 = .ok (.aload_n 0, 1) := by decide +kernel
theorem dL_orders_5 : decode cL_orders 5 = .ok (.iconst 4, 1) := by decide +kernel
theorem dL_orders_6 : decode cL_orders 6 = .ok (.iconst 1, 1) := by decide +kernel
theorem dL_orders_7 : decode cL_orders 7 = .ok (.iconst 0, 1) := by decide +kernel
theorem dL_orders_8 : decode cL_orders 8 = .ok (.iconst 1, 1) := by decide +kernel
theorem dL_orders_9 : decode cL_orders 9 = .ok (.iconst 2, 1) := by decide +kernel
theorem dL_orders_10 : decode cL_orders 10 = .ok (.invokevirtual 96, 3) := by decide +kernel
theorem dL_orders_13 : decode cL_orders 13 = .ok (.ifCond .ne 95, 3) := by decide +kernel
theorem dL_orders_16 : decode cL_orders 16 = .ok (.aload_n 0, 1) := by decide +kernel
theorem dL_orders_17 : decode cL_orders 17 = .ok (.iconst 0, 1) := by decide +kernel
theorem dL_orders_18 : decode cL_orders 18 = .ok (.iconst 3, 1) := by decide +kernel
theorem dL_orders_19 : decode cL_orders 19 = .ok (.invokevirtual 106, 3) := by decide +kernel
theorem dL_orders_22 : decode cL_orders 22 = .ok (.ifCond .ne 86, 3) := by decide +kernel
theorem dL_orders_25 : decode cL_orders 25 = .ok (.aload_n 0, 1) := by decide +kernel
theorem dL_orders_26 : decode cL_orders 26 = .ok (.bipush 7, 2) := by decide +kernel
theorem dL_orders_28 : decode cL_orders 28 = .ok (.invokevirtual 75, 3) := by decide +kernel
theorem dL_orders_31 : decode cL_orders 31 = .ok (.bipush 10, 2) := by decide +kernel
theorem dL_orders_33 : decode cL_orders 33 = .ok (.if_icmp .ne 75, 3) := by decide +kernel
theorem dL_orders_36 : decode cL_orders 36 = .ok (.aload_n 0, 1) := by decide +kernel
theorem dL_orders_37 : decode cL_orders 37 = .ok (.iconst 1, 1) := by decide +kernel
theorem dL_orders_38 : decode cL_orders 38 = .ok (.invokevirtual 81, 3) := by decide +kernel
theorem dL_orders_41 : decode cL_orders 41 = .ok (.ifCond .ne 67, 3) := by decide +kernel
theorem dL_orders_44 : decode cL_orders 44 = .ok (.aload_n 0, 1) := by decide +kernel
theorem dL_orders_45 : decode cL_orders 45 = .ok (.iconst 1, 1) := by decide +kernel
theorem dL_orders_46 : decode cL_orders 46 = .ok (.invokevirtual 36, 3) := by decide +kernel
theorem dL_orders_49 : decode cL_orders 49 = .ok (.iconst 2, 1) := by decide +kernel
theorem dL_orders_50 : decode cL_orders 50 = .ok (.if_icmp .ne 58, 3) := by decide +kernel
theorem dL_orders_53 : decode cL_orders 53 = .ok (.aload_n 0, 1) := by decide +kernel
theorem dL_orders_54 : decode cL_orders 54 = .ok (.iconst 1, 1) := by decide +kernel
theorem dL_orders_55 : decode cL_orders 55 = .ok (.iconst 5, 1) := by decide +kernel
theorem dL_orders_56 : decode cL_orders 56 = .ok (.invokevirtual 47, 3) := by decide +kernel
theorem dL_orders_59 : decode cL_orders 59 = .ok (.bipush 14, 2) := by decide +kernel
theorem dL_orders_61 : decode cL_orders 61 = .ok (.if_icmp .ne 47, 3) := by decide +kernel
theorem dL_orders_64 : decode cL_orders 64 = .ok (.aload_n 0, 1) := by decide +kernel
theorem dL_orders_65 : decode cL_orders 65 = .ok (.iconst 1, 1) := by decide +kernel
theorem dL_orders_66 : decode cL_orders 66 = .ok (.bipush 9, 2) := by decide +kernel
theorem dL_orders_68 : decode cL_orders 68 = .ok (.invokevirtual 47, 3) := by decide +kernel
theorem dL_orders_71 : decode cL_orders 71 = .ok (.ifCond .ne 37, 3) := by decide +kernel
theorem dL_orders_74 : decode cL_orders 74 = .ok (.aload_n 0, 1) := by decide +kernel
theorem dL_orders_75 : decode cL_orders 75 = .ok (.iconst 2, 1) := by decide +kernel
theorem dL_orders_76 : decode cL_orders 76 = .ok (.invokevirtual 81, 3) := by decide +kernel
theorem dL_orders_79 : decode cL_orders 79 = .ok (.ifCond .ne 29, 3) := by decide +kernel
theorem dL_orders_82 : decode cL_orders 82 = .ok (.aload_n 0, 1) := by decide +kernel
theorem dL_orders_83 : decode cL_orders 83 = .ok (.iconst 1, 1) := by decide +kernel
theorem dL_orders_84 : decode cL_orders 84 = .ok (.invokevirtual 36, 3) := by decide +kernel
theorem dL_orders_87 : decode cL_orders 87 = .ok (.iconst 2, 1) := by decide +kernel
theorem dL_orders_88 : decode cL_orders 88 = .ok (.if_icmp .ne 20, 3) := by decide +kernel
theorem dL_orders_91 : decode cL_orders 91 = .ok (.aload_n 0, 1) := by decide +kernel
theorem dL_orders_92 : decode cL_orders 92 = .ok (.iconst 1, 1) := by decide +kernel
theorem dL_orders_93 : decode cL_orders 93 = .ok (.invokevirtual 81, 3) := by decide +kernel
theorem dL_orders_96 : decode cL_orders 96 = .ok (.ifCond .ne 12, 3) := by decide +kernel
theorem dL_orders_99 : decode cL_orders 99 = .ok (.aload_n 0, 1) := by decide +kernel
theorem dL_orders_100 : decode cL_orders 100 = .ok (.iconst 1, 1) := by decide +kernel
theorem dL_orders_101 : decode cL_orders 101 = .ok (.invokevirtual 36, 3) := by decide +kernel
theorem dL_orders_104 : decode cL_orders 104 = .ok (.iconst 3, 1) := by decide +kernel
theorem dL_orders_105 : decode cL_orders 105 = .ok (.if_icmp .eq 5, 3) := by decide +kernel
theorem dL_orders_108 : decode cL_orders 108 = .ok (.iconst 0, 1) := by decide +kernel
theorem dL_orders_109 : decode cL_orders 109 = .ok (.ireturn, 1) := by decide +kernel
theorem dL_orders_110 : decode cL_orders 110 = .ok (.aload_n 0, 1) := by decide +kernel
theorem dL_orders_111 : decode cL_orders 111 = .ok (.iconst 0, 1) := by decide +kernel
theorem dL_orders_112 : decode cL_orders 112 = .ok (.iconst 2, 1) := by decide +kernel
theorem dL_orders_113 : decode cL_orders 113 = .ok (.invokevirtual 50, 3) := by decide +kernel
theorem dL_orders_116 : decode cL_orders 116 = .ok (.iconst 2, 1) := by decide +kernel
theorem dL_orders_117 : decode cL_orders 117 = .ok (.if_icmp .ne 93, 3) := by decide +kernel
theorem dL_orders_120 : decode cL_orders 120 = .ok (.aload_n 0, 1) := by decide +kernel
theorem dL_orders_121 : decode cL_orders 121 = .ok (.iconst 0, 1) := by decide +kernel
theorem dL_orders_122 : decode cL_orders 122 = .ok (.iconst 3, 1) := by decide +kernel
theorem dL_orders_123 : decode cL_orders 123 = .ok (.invokevirtual 50, 3) := by decide +kernel
theorem dL_orders_126 : decode cL_orders 126 = .ok (.ifCond .ne 84, 3) := by decide +kernel
theorem dL_orders_129 : decode cL_orders 129 = .ok (.aload_n 0, 1) := by decide +kernel
theorem dL_orders_130 : decode cL_orders 130 = .ok (.iconst 1, 1) := by decide +kernel
theorem dL_orders_131 : decode cL_orders 131 = .ok (.iconst 1, 1) := by decide +kernel
theorem dL_orders_132 : decode cL_orders 132 = .ok (.invokevirtual 106, 3) := by decide +kernel
theorem dL_orders_135 : decode cL_orders 135 = .ok (.iconst 1, 1) := by decide +kernel
theorem dL_orders_136 : decode cL_orders 136 = .ok (.if_icmp .ne 74, 3) := by decide +kernel
theorem dL_orders_139 : decode cL_orders 139 = .ok (.aload_n 0, 1) := by decide +kernel
theorem dL_orders_140 : decode cL_orders 140 = .ok (.bipush 40, 2) := by decide +kernel
theorem dL_orders_142 : decode cL_orders 142 = .ok (.invokevirtual 81, 3) := by decide +kernel
theorem dL_orders_145 : decode cL_orders 145 = .ok (.ifCond .lt 65, 3) := by decide +kernel
theorem dL_orders_148 : decode cL_orders 148 = .ok (.aload_n 0, 1) := by decide +kernel
theorem dL_orders_149 : decode cL_orders 149 = .ok (.iconst 1, 1) := by decide +kernel
theorem dL_orders_150 : decode cL_orders 150 = .ok (.invokevirtual 36, 3) := by decide +kernel
theorem dL_orders_153 : decode cL_orders 153 = .ok (.bipush 40, 2) := by decide +kernel
theorem dL_orders_155 : decode cL_orders 155 = .ok (.if_icmp .ne 55, 3) := by decide +kernel
theorem dL_orders_158 : decode cL_orders 158 = .ok (.aload_n 0, 1) := by decide +kernel
theorem dL_orders_159 : decode cL_orders 159 = .ok (.iconst 0, 1) := by decide +kernel
theorem dL_orders_160 : decode cL_orders 160 = .ok (.iconst 2, 1) := by decide +kernel
theorem dL_orders_161 : decode cL_orders 161 = .ok (.invokevirtual 50, 3) := by decide +kernel
theorem dL_orders_164 : decode cL_orders 164 = .ok (.aload_n 0, 1) := by decide +kernel
theorem dL_orders_165 : decode cL_orders 165 = .ok (.iconst 1, 1) := by decide +kernel
theorem dL_orders_166 : decode cL_orders 166 = .ok (.iconst 2, 1) := by decide +kernel
theorem dL_orders_167 : decode cL_orders 167 = .ok (.invokevirtual 50, 3) := by decide +kernel
theorem dL_orders_170 : decode cL_orders 170 = .ok (.iadd, 1) := by decide +kernel
theorem dL_orders_171 : decode cL_orders 171 = .ok (.bipush 39, 2) := by decide +kernel
theorem dL_orders_173 : decode cL_orders 173 = .ok (.if_icmp .ne 37, 3) := by decide +kernel
theorem dL_orders_176 : decode cL_orders 176 = .ok (.aload_n 0, 1) := by decide +kernel
theorem dL_orders_177 : decode cL_orders 177 = .ok (.iconst 1, 1) := by decide +kernel
theorem dL_orders_178 : decode cL_orders 178 = .ok (.iconst 3, 1) := by decide +kernel
theorem dL_orders_179 : decode cL_orders 179 = .ok (.invokevirtual 50, 3) := by decide +kernel
theorem dL_orders_182 : decode cL_orders 182 = .ok (.iconst 1, 1) := by decide +kernel
theorem dL_orders_183 : decode cL_orders 183 = .ok (.if_icmp .lt 27, 3) := by decide +kernel
theorem dL_orders_186 : decode cL_orders 186 = .ok (.aload_n 0, 1) := by decide +kernel
theorem dL_orders_187 : decode cL_orders 187 = .ok (.iconst 1, 1) := by decide +kernel
theorem dL_orders_188 : decode cL_orders 188 = .ok (.invokevirtual 112, 3) := by decide +kernel
theorem dL_orders_191 : decode cL_orders 191 = .ok (.aload_n 0, 1) := by decide +kernel
theorem dL_orders_192 : decode cL_orders 192 = .ok (.iconst 1, 1) := by decide +kernel
theorem dL_orders_193 : decode cL_orders 193 = .ok (.iconst 2, 1) := by decide +kernel
theorem dL_orders_194 : decode cL_orders 194 = .ok (.invokevirtual 50, 3) := by decide +kernel
theorem dL_orders_197 : decode cL_orders 197 = .ok (.if_icmp .ne 13, 3) := by decide +kernel
theorem dL_orders_200 : decode cL_orders 200 = .ok (.aload_n 0, 1) := by decide +kernel
theorem dL_orders_201 : decode cL_orders 201 = .ok (.iconst 1, 1) := by decide +kernel
theorem dL_orders_202 : decode cL_orders 202 = .ok (.invokevirtual 112, 3) := by decide +kernel
theorem dL_orders_205 : decode cL_orders 205 = .ok (.bipush (-5), 2) := by decide +kernel
theorem dL_orders_207 : decode cL_orders 207 = .ok (.if_icmp .eq 5, 3) := by decide +kernel
theorem dL_orders_210 : decode cL_orders 210 = .ok (.iconst 0, 1) := by decide +kernel
theorem dL_orders_211 : decode cL_orders 211 = .ok (.ireturn, 1) := by decide +kernel
theorem dL_orders_212 : decode cL_orders 212 = .ok (.aload_n 0, 1) := by decide +kernel
theorem dL_orders_213 : decode cL_orders 213 = .ok (.iconst 0, 1) := by decide +kernel
theorem dL_orders_214 : decode cL_orders 214 = .ok (.iconst 1, 1) := by decide +kernel
theorem dL_orders_215 : decode cL_orders 215 = .ok (.iconst 0, 1) := by decide +kernel
theorem dL_orders_216 : decode cL_orders 216 = .ok (.iconst 1, 1) := by decide +kernel
