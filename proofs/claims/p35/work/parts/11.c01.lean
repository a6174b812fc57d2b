theorem dL_state_163 : decode cL_state 163 = .ok (.imul, 1) := by decide +kernel
theorem dL_state_164 : decode cL_state 164 = .ok (.if_icmp .ge 27, 3) := by decide +kernel
theorem dL_state_167 : decode cL_state 167 = .ok (.lload_n 1, 1) := by decide +kernel
theorem dL_state_168 : decode cL_state 168 = .ok (.aload_n 0, 1) := by decide +kernel
theorem dL_state_169 : decode cL_state 169 = .ok (.iload_n 3, 1) := by decide +kernel
theorem dL_state_170 : decode cL_state 170 = .ok (.bipush 7, 2) := by decide +kernel
theorem dL_state_172 : decode cL_state 172 = .ok (.idiv, 1) := by decide +kernel
theorem dL_state_173 : decode cL_state 173 = .ok (.iload_n 3, 1) := by decide +kernel
theorem dL_state_174 : decode cL_state 174 = .ok (.bipush 7, 2) := by decide +kernel
theorem dL_state_176 : decode cL_state 176 = .ok (.irem, 1) := by decide +kernel
theorem dL_state_177 : decode cL_state 177 = .ok (.invokevirtual 50, 3) := by decide +kernel
theorem dL_state_180 : decode cL_state 180 = .ok (.i2l, 1) := by decide +kernel
theorem dL_state_181 : decode cL_state 181 = .ok (.invokestatic 22, 3) := by decide +kernel
theorem dL_state_184 : decode cL_state 184 = .ok (.lstore_n 1, 1) := by decide +kernel
theorem dL_state_185 : decode cL_state 185 = .ok (.iinc 3 1, 3) := by decide +kernel
theorem dL_state_188 : decode cL_state 188 = .ok (.goto (-34), 3) := by decide +kernel
theorem dL_state_191 : decode cL_state 191 = .ok (.iconst 0, 1) := by decide +kernel
theorem dL_state_192 : decode cL_state 192 = .ok (.istore_n 3, 1) := by decide +kernel
theorem dL_state_193 : decode cL_state 193 = .ok (.iload_n 3, 1) := by decide +kernel
theorem dL_state_194 : decode cL_state 194 = .ok (.bipush 60, 2) := by decide +kernel
theorem dL_state_196 : decode cL_state 196 = .ok (.if_icmp .ge 25, 3) := by decide +kernel
theorem dL_state_199 : decode cL_state 199 = .ok (.lload_n 1, 1) := by decide +kernel
theorem dL_state_200 : decode cL_state 200 = .ok (.aload_n 0, 1) := by decide +kernel
theorem dL_state_201 : decode cL_state 201 = .ok (.iload_n 3, 1) := by decide +kernel
theorem dL_state_202 : decode cL_state 202 = .ok (.iconst 5, 1) := by decide +kernel
theorem dL_state_203 : decode cL_state 203 = .ok (.idiv, 1) := by decide +kernel
theorem dL_state_204 : decode cL_state 204 = .ok (.iload_n 3, 1) := by decide +kernel
theorem dL_state_205 : decode cL_state 205 = .ok (.iconst 5, 1) := by decide +kernel
theorem dL_state_206 : decode cL_state 206 = .ok (.irem, 1) := by decide +kernel
theorem dL_state_207 : decode cL_state 207 = .ok (.invokevirtual 53, 3) := by decide +kernel
theorem dL_state_210 : decode cL_state 210 = .ok (.i2l, 1) := by decide +kernel
theorem dL_state_211 : decode cL_state 211 = .ok (.invokestatic 22, 3) := by decide +kernel
theorem dL_state_214 : decode cL_state 214 = .ok (.lstore_n 1, 1) := by decide +kernel
theorem dL_state_215 : decode cL_state 215 = .ok (.iinc 3 1, 3) := by decide +kernel
theorem dL_state_218 : decode cL_state 218 = .ok (.goto (-25), 3) := by decide +kernel
theorem dL_state_221 : decode cL_state 221 = .ok (.lload_n 1, 1) := by decide +kernel
theorem dL_state_222 : decode cL_state 222 = .ok (.lreturn, 1) := by decide +kernel
theorem dL_placeOf_0 : decode cL_placeOf 0 = .ok (.aload_n 0, 1) := by decide +kernel
theorem dL_placeOf_1 : decode cL_placeOf 1 = .ok (.iconst 0, 1) := by decide +kernel
theorem dL_placeOf_2 : decode cL_placeOf 2 = .ok (.iconst 4, 1) := by decide +kernel
theorem dL_placeOf_3 : decode cL_placeOf 3 = .ok (.invokevirtual 13, 3) := by decide +kernel
theorem dL_placeOf_6 : decode cL_placeOf 6 = .ok (.aload_n 0, 1) := by decide +kernel
theorem dL_placeOf_7 : decode cL_placeOf 7 = .ok (.iconst 1, 1) := by decide +kernel
theorem dL_placeOf_8 : decode cL_placeOf 8 = .ok (.iconst 4, 1) := by decide +kernel
theorem dL_placeOf_9 : decode cL_placeOf 9 = .ok (.invokevirtual 13, 3) := by decide +kernel
theorem dL_placeOf_12 : decode cL_placeOf 12 = .ok (.iadd, 1) := by decide +kernel
theorem dL_placeOf_13 : decode cL_placeOf 13 = .ok (.istore_n 2, 1) := by decide +kernel
theorem dL_placeOf_14 : decode cL_placeOf 14 = .ok (.iload_n 2, 1) := by decide +kernel
theorem dL_placeOf_15 : decode cL_placeOf 15 = .ok (.ifCond .ne 7, 3) := by decide +kernel
theorem dL_placeOf_18 : decode cL_placeOf 18 = .ok (.iconst 0, 1) := by decide +kernel
theorem dL_placeOf_19 : decode cL_placeOf 19 = .ok (.goto 8, 3) := by decide +kernel
theorem dL_placeOf_22 : decode cL_placeOf 22 = .ok (.iload_n 1, 1) := by decide +kernel
theorem dL_placeOf_23 : decode cL_placeOf 23 = .ok (.iload_n 2, 1) := by decide +kernel
theorem dL_placeOf_24 : decode cL_placeOf 24 = .ok (.invokestatic 56, 3) := by decide +kernel
theorem dL_placeOf_27 : decode cL_placeOf 27 = .ok (.istore_n 3, 1) := by decide +kernel
theorem dL_placeOf_28 : decode cL_placeOf 28 = .ok (.iload_n 3, 1) := by decide +kernel
theorem dL_placeOf_29 : decode cL_placeOf 29 = .ok (.aload_n 0, 1) := by decide +kernel
theorem dL_placeOf_30 : decode cL_placeOf 30 = .ok (.iconst 0, 1) := by decide +kernel
theorem dL_placeOf_31 : decode cL_placeOf 31 = .ok (.iconst 4, 1) := by decide +kernel
theorem dL_placeOf_32 : decode cL_placeOf 32 = .ok (.invokevirtual 13, 3) := by decide +kernel
theorem dL_placeOf_35 : decode cL_placeOf 35 = .ok (.if_icmp .lt 7, 3) := by decide +kernel
theorem dL_placeOf_38 : decode cL_placeOf 38 = .ok (.iload_n 2, 1) := by decide +kernel
theorem dL_placeOf_39 : decode cL_placeOf 39 = .ok (.ifCond .ne 7, 3) := by decide +kernel
theorem dL_placeOf_42 : decode cL_placeOf 42 = .ok (.iload_n 3, 1) := by decide +kernel
theorem dL_placeOf_43 : decode cL_placeOf 43 = .ok (.goto 14, 3) := by decide +kernel
theorem dL_placeOf_46 : decode cL_placeOf 46 = .ok (.bipush 10, 2) := by decide +kernel
theorem dL_placeOf_48 : decode cL_placeOf 48 = .ok (.iload_n 3, 1) := by decide +kernel
theorem dL_placeOf_49 : decode cL_placeOf 49 = .ok (.iadd, 1) := by decide +kernel
theorem dL_placeOf_50 : decode cL_placeOf 50 = .ok (.aload_n 0, 1) := by decide +kernel
theorem dL_placeOf_51 : decode cL_placeOf 51 = .ok (.iconst 0, 1) := by decide +kernel
theorem dL_placeOf_52 : decode cL_placeOf 52 = .ok (.iconst 4, 1) := by decide +kernel
theorem dL_placeOf_53 : decode cL_placeOf 53 = .ok (.invokevirtual 13, 3) := by decide +kernel
theorem dL_placeOf_56 : decode cL_placeOf 56 = .ok (.isub, 1) := by decide +kernel
theorem dL_placeOf_57 : decode cL_placeOf 57 = .ok (.ireturn, 1) := by decide +kernel
theorem dL_lays_0 : decode cL_lays 0 = .ok (.iconst 0, 1) := by decide +kernel
theorem dL_lays_1 : decode cL_lays 1 = .ok (.istore_n 2, 1) := by decide +kernel
theorem dL_lays_2 : decode cL_lays 2 = .ok (.iconst 0, 1) := by decide +kernel
theorem dL_lays_3 : decode cL_lays 3 = .ok (.istore_n 3, 1) := by decide +kernel
theorem dL_lays_4 : decode cL_lays 4 = .ok (.iload_n 3, 1) := by decide +kernel
theorem dL_lays_5 : decode cL_lays 5 = .ok (.iconst 2, 1) := by decide +kernel
theorem dL_lays_6 : decode cL_lays 6 = .ok (.if_icmp .ge 126, 3) := by decide +kernel
theorem dL_lays_9 : decode cL_lays 9 = .ok (.iload_n 1, 1) := by decide +kernel
theorem dL_lays_10 : decode cL_lays 10 = .ok (.iconst 3, 1) := by decide +kernel
theorem dL_lays_11 : decode cL_lays 11 = .ok (.iload_n 3, 1) := by decide +kernel
theorem dL_lays_12 : decode cL_lays 12 = .ok (.imul, 1) := by decide +kernel
theorem dL_lays_13 : decode cL_lays 13 = .ok (.ishr, 1) := by decide +kernel
theorem dL_lays_14 : decode cL_lays 14 = .ok (.istore 4, 2) := by decide +kernel
theorem dL_lays_16 : decode cL_lays 16 = .ok (.aload_n 0, 1) := by decide +kernel
theorem dL_lays_17 : decode cL_lays 17 = .ok (.iload_n 3, 1) := by decide +kernel
theorem dL_lays_18 : decode cL_lays 18 = .ok (.iconst 2, 1) := by decide +kernel
theorem dL_lays_19 : decode cL_lays 19 = .ok (.iload 4, 2) := by decide +kernel
theorem dL_lays_21 : decode cL_lays 21 = .ok (.bipush 11, 2) := by decide +kernel
theorem dL_lays_23 : decode cL_lays 23 = .ok (.invokestatic 56, 3) := by decide +kernel
theorem dL_lays_26 : decode cL_lays 26 = .ok (.iadd, 1) := by decide +kernel
theorem dL_lays_27 : decode cL_lays 27 = .ok (.invokevirtual 59, 3) := by decide +kernel
theorem dL_lays_30 : decode cL_lays 30 = .ok (.istore 5, 2) := by decide +kernel
theorem dL_lays_32 : decode cL_lays 32 = .ok (.iload_n 2, 1) := by decide +kernel
theorem dL_lays_33 : decode cL_lays 33 = .ok (.iload 5, 2) := by decide +kernel
theorem dL_lays_35 : decode cL_lays 35 = .ok (.iadd, 1) := by decide +kernel
theorem dL_lays_36 : decode cL_lays 36 = .ok (.istore_n 2, 1) := by decide +kernel
theorem dL_lays_37 : decode cL_lays 37 = .ok (.iconst 2, 1) := by decide +kernel
theorem dL_lays_38 : decode cL_lays 38 = .ok (.iload 4, 2) := by decide +kernel
theorem dL_lays_40 : decode cL_lays 40 = .ok (.iconst 2, 1) := by decide +kernel
theorem dL_lays_41 : decode cL_lays 41 = .ok (.ishr, 1) := by decide +kernel
theorem dL_lays_42 : decode cL_lays 42 = .ok (.iconst 3, 1) := by decide +kernel
theorem dL_lays_43 : decode cL_lays 43 = .ok (.invokestatic 56, 3) := by decide +kernel
theorem dL_lays_46 : decode cL_lays 46 = .ok (.iadd, 1) := by decide +kernel
theorem dL_lays_47 : decode cL_lays 47 = .ok (.istore 6, 2) := by decide +kernel
theorem dL_lays_49 : decode cL_lays 49 = .ok (.iconst 0, 1) := by decide +kernel
theorem dL_lays_50 : decode cL_lays 50 = .ok (.istore 7, 2) := by decide +kernel
theorem dL_lays_52 : decode cL_lays 52 = .ok (.iload 7, 2) := by decide +kernel
theorem dL_lays_54 : decode cL_lays 54 = .ok (.iload 6, 2) := by decide +kernel
theorem dL_lays_56 : decode cL_lays 56 = .ok (.if_icmp .ge 35, 3) := by decide +kernel
theorem dL_lays_59 : decode cL_lays 59 = .ok (.iload_n 2, 1) := by decide +kernel
theorem dL_lays_60 : decode cL_lays 60 = .ok (.aload_n 0, 1) := by decide +kernel
theorem dL_lays_61 : decode cL_lays 61 = .ok (.iload_n 3, 1) := by decide +kernel
theorem dL_lays_62 : decode cL_lays 62 = .ok (.iload 4, 2) := by decide +kernel
theorem dL_lays_64 : decode cL_lays 64 = .ok (.iconst 3, 1) := by decide +kernel
theorem dL_lays_65 : decode cL_lays 65 = .ok (.iload 7, 2) := by decide +kernel
theorem dL_lays_67 : decode cL_lays 67 = .ok (.imul, 1) := by decide +kernel
theorem dL_lays_68 : decode cL_lays 68 = .ok (.iconst 1, 1) := by decide +kernel
theorem dL_lays_69 : decode cL_lays 69 = .ok (.iadd, 1) := by decide +kernel
theorem dL_lays_70 : decode cL_lays 70 = .ok (.ishr, 1) := by decide +kernel
theorem dL_lays_71 : decode cL_lays 71 = .ok (.aload_n 0, 1) := by decide +kernel
theorem dL_lays_72 : decode cL_lays 72 = .ok (.iload_n 3, 1) := by decide +kernel
theorem dL_lays_73 : decode cL_lays 73 = .ok (.iconst 0, 1) := by decide +kernel
theorem dL_lays_74 : decode cL_lays 74 = .ok (.invokevirtual 13, 3) := by decide +kernel
theorem dL_lays_77 : decode cL_lays 77 = .ok (.invokestatic 56, 3) := by decide +kernel
theorem dL_lays_80 : decode cL_lays 80 = .ok (.invokevirtual 62, 3) := by decide +kernel
theorem dL_lays_83 : decode cL_lays 83 = .ok (.iadd, 1) := by decide +kernel
theorem dL_lays_84 : decode cL_lays 84 = .ok (.istore_n 2, 1) := by decide +kernel
theorem dL_lays_85 : decode cL_lays 85 = .ok (.iinc 7 1, 3) := by decide +kernel
theorem dL_lays_88 : decode cL_lays 88 = .ok (.goto (-36), 3) := by decide +kernel
theorem dL_lays_91 : decode cL_lays 91 = .ok (.aload_n 0, 1) := by decide +kernel
theorem dL_lays_92 : decode cL_lays 92 = .ok (.iload_n 3, 1) := by decide +kernel
theorem dL_lays_93 : decode cL_lays 93 = .ok (.iconst 4, 1) := by decide +kernel
theorem dL_lays_94 : decode cL_lays 94 = .ok (.invokevirtual 13, 3) := by decide +kernel
theorem dL_lays_97 : decode cL_lays 97 = .ok (.iconst 1, 1) := by decide +kernel
theorem dL_lays_98 : decode cL_lays 98 = .ok (.if_icmp .ne 28, 3) := by decide +kernel
theorem dL_lays_101 : decode cL_lays 101 = .ok (.iload_n 2, 1) := by decide +kernel
theorem dL_lays_102 : decode cL_lays 102 = .ok (.aload_n 0, 1) := by decide +kernel
theorem dL_lays_103 : decode cL_lays 103 = .ok (.iload_n 3, 1) := by decide +kernel
theorem dL_lays_104 : decode cL_lays 104 = .ok (.aload_n 0, 1) := by decide +kernel
theorem dL_lays_105 : decode cL_lays 105 = .ok (.bipush 10, 2) := by decide +kernel
theorem dL_lays_107 : decode cL_lays 107 = .ok (.iload_n 3, 1) := by decide +kernel
theorem dL_lays_108 : decode cL_lays 108 = .ok (.imul, 1) := by decide +kernel
theorem dL_lays_109 : decode cL_lays 109 = .ok (.iconst 0, 1) := by decide +kernel
theorem dL_lays_110 : decode cL_lays 110 = .ok (.invokevirtual 19, 3) := by decide +kernel
theorem dL_lays_113 : decode cL_lays 113 = .ok (.ifCond .ne 7, 3) := by decide +kernel
theorem dL_lays_116 : decode cL_lays 116 = .ok (.iconst 1, 1) := by decide +kernel
theorem dL_lays_117 : decode cL_lays 117 = .ok (.goto 4, 3) := by decide +kernel
theorem dL_lays_120 : decode cL_lays 120 = .ok (.iconst 0, 1) := by decide +kernel
theorem dL_lays_121 : decode cL_lays 121 = .ok (.invokevirtual 62, 3) := by decide +kernel
theorem dL_lays_124 : decode cL_lays 124 = .ok (.iadd, 1) := by decide +kernel
theorem dL_lays_125 : decode cL_lays 125 = .ok (.istore_n 2, 1) := by decide +kernel
theorem dL_lays_126 : decode cL_lays 126 = .ok (.iinc 3 1, 3) := by decide +kernel
theorem dL_lays_129 : decode cL_lays 129 = .ok (.goto (-125), 3) := by decide +kernel
theorem dL_lays_132 : decode cL_lays 132 = .ok (.iload_n 2, 1) := by decide +kernel
theorem dL_lays_133 : decode cL_lays 133 = .ok (.ireturn, 1) := by decide +kernel
theorem dL_types_0 : decode cL_types 0 = .ok (.iconst 0, 1) := by decide +kernel
theorem dL_types_1 : decode cL_types 1 = .ok (.istore_n 3, 1) := by decide +kernel
theorem dL_types_2 : decode cL_types 2 = .ok (.bipush 56, 2) := by decide +kernel
theorem dL_types_4 : decode cL_types 4 = .ok (.istore 4, 2) := by decide +kernel
theorem dL_types_6 : decode cL_types 6 = .ok (.iload 4, 2) := by decide +kernel
theorem dL_types_8 : decode cL_types 8 = .ok (.ifCond .lt 33, 3) := by decide +kernel
theorem dL_types_11 : decode cL_types 11 = .ok (.lload_n 1, 1) := by decide +kernel
theorem dL_types_12 : decode cL_types 12 = .ok (.iload 4, 2) := by decide +kernel
theorem dL_types_14 : decode cL_types 14 = .ok (.lshr, 1) := by decide +kernel
theorem dL_types_15 : decode cL_types 15 = .ok (.ldc2_w 117, 3) := by decide +kernel
theorem dL_types_18 : decode cL_types 18 = .ok (.land, 1) := by decide +kernel
theorem dL_types_19 : decode cL_types 19 = .ok (.l2i, 1) := by decide +kernel
theorem dL_types_20 : decode cL_types 20 = .ok (.istore 5, 2) := by decide +kernel
theorem dL_types_22 : decode cL_types 22 = .ok (.iload 5, 2) := by decide +kernel
theorem dL_types_24 : decode cL_types 24 = .ok (.ifCond .le 11, 3) := by decide +kernel
theorem dL_types_27 : decode cL_types 27 = .ok (.aload_n 0, 1) := by decide +kernel
theorem dL_types_28 : decode cL_types 28 = .ok (.iload 5, 2) := by decide +kernel
theorem dL_types_30 : decode cL_types 30 = .ok (.i2c, 1) := by decide +kernel
theorem dL_types_31 : decode cL_types 31 = .ok (.invokevirtual 119, 3) := by decide +kernel
theorem dL_types_34 : decode cL_types 34 = .ok (.istore_n 3, 1) := by decide +kernel
theorem dL_types_35 : decode cL_types 35 = .ok (.iinc 4 (-8), 3) := by decide +kernel
theorem dL_types_38 : decode cL_types 38 = .ok (.goto (-32), 3) := by decide +kernel
theorem dL_types_41 : decode cL_types 41 = .ok (.iload_n 3, 1) := by decide +kernel
theorem dL_types_42 : decode cL_types 42 = .ok (.ireturn, 1) := by decide +kernel
theorem dL_isTold_0 : decode cL_isTold 0 = .ok (.aload_n 0, 1) := by decide +kernel
theorem dL_isTold_1 : decode cL_isTold 1 = .ok (.invokevirtual 123, 3) := by decide +kernel
theorem dL_isTold_4 : decode cL_isTold 4 = .ok (.istore 6, 2) := by decide +kernel
theorem dL_isTold_6 : decode cL_isTold 6 = .ok (.aload_n 0, 1) := by decide +kernel
theorem dL_isTold_7 : decode cL_isTold 7 = .ok (.lload_n 1, 1) := by decide +kernel
theorem dL_isTold_8 : decode cL_isTold 8 = .ok (.invokestatic 127, 3) := by decide +kernel
theorem dL_isTold_11 : decode cL_isTold 11 = .ok (.istore 7, 2) := by decide +kernel
theorem dL_isTold_13 : decode cL_isTold 13 = .ok (.iload 7, 2) := by decide +kernel
theorem dL_isTold_15 : decode cL_isTold 15 = .ok (.aload_n 0, 1) := by decide +kernel
theorem dL_isTold_16 : decode cL_isTold 16 = .ok (.lload_n 3, 1) := by decide +kernel
theorem dL_isTold_17 : decode cL_isTold 17 = .ok (.invokestatic 127, 3) := by decide +kernel
theorem dL_isTold_20 : decode cL_isTold 20 = .ok (.iadd, 1) := by decide +kernel
theorem dL_isTold_21 : decode cL_isTold 21 = .ok (.istore 7, 2) := by decide +kernel
theorem dL_isTold_23 : decode cL_isTold 23 = .ok (.iload 6, 2) := by decide +kernel
theorem dL_isTold_25 : decode cL_isTold 25 = .ok (.ifCond .lt 29, 3) := by decide +kernel
theorem dL_isTold_28 : decode cL_isTold 28 = .ok (.iload 7, 2) := by decide +kernel
theorem dL_isTold_30 : decode cL_isTold 30 = .ok (.ifCond .lt 24, 3) := by decide +kernel
theorem dL_isTold_33 : decode cL_isTold 33 = .ok (.aload_n 0, 1) := by decide +kernel
theorem dL_isTold_34 : decode cL_isTold 34 = .ok (.invokevirtual 131, 3) := by decide +kernel
theorem dL_isTold_37 : decode cL_isTold 37 = .ok (.iload 5, 2) := by decide +kernel
