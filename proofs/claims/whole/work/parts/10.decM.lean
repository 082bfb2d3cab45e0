theorem dX8_init_0 : decode mX8_init.2.1 0 = .ok (.aload_n 0, 1) := by decide +kernel
theorem dX8_init_1 : decode mX8_init.2.1 1 = .ok (.invokespecial 1, 3) := by decide +kernel
theorem dX8_init_4 : decode mX8_init.2.1 4 = .ok (.aload_n 0, 1) := by decide +kernel
theorem dX8_init_5 : decode mX8_init.2.1 5 = .ok (.bipush 6, 2) := by decide +kernel
theorem dX8_init_7 : decode mX8_init.2.1 7 = .ok (.newarray .int, 2) := by decide +kernel
theorem dX8_init_9 : decode mX8_init.2.1 9 = .ok (.putfield 7, 3) := by decide +kernel
theorem dX8_init_12 : decode mX8_init.2.1 12 = .ok (.aload_n 0, 1) := by decide +kernel
theorem dX8_init_13 : decode mX8_init.2.1 13 = .ok (.bipush 6, 2) := by decide +kernel
theorem dX8_init_15 : decode mX8_init.2.1 15 = .ok (.newarray .int, 2) := by decide +kernel
theorem dX8_init_17 : decode mX8_init.2.1 17 = .ok (.putfield 13, 3) := by decide +kernel
theorem dX8_init_20 : decode mX8_init.2.1 20 = .ok (.aload_n 0, 1) := by decide +kernel
theorem dX8_init_21 : decode mX8_init.2.1 21 = .ok (.sipush 200, 3) := by decide +kernel
theorem dX8_init_24 : decode mX8_init.2.1 24 = .ok (.newarray .int, 2) := by decide +kernel
theorem dX8_init_26 : decode mX8_init.2.1 26 = .ok (.putfield 16, 3) := by decide +kernel
theorem dX8_init_29 : decode mX8_init.2.1 29 = .ok (.aload_n 0, 1) := by decide +kernel
theorem dX8_init_30 : decode mX8_init.2.1 30 = .ok (.sipush 200, 3) := by decide +kernel
theorem dX8_init_33 : decode mX8_init.2.1 33 = .ok (.newarray .int, 2) := by decide +kernel
theorem dX8_init_35 : decode mX8_init.2.1 35 = .ok (.putfield 19, 3) := by decide +kernel
theorem dX8_init_38 : decode mX8_init.2.1 38 = .ok (.aload_n 0, 1) := by decide +kernel
theorem dX8_init_39 : decode mX8_init.2.1 39 = .ok (.sipush 200, 3) := by decide +kernel
theorem dX8_init_42 : decode mX8_init.2.1 42 = .ok (.newarray .int, 2) := by decide +kernel
theorem dX8_init_44 : decode mX8_init.2.1 44 = .ok (.putfield 22, 3) := by decide +kernel
theorem dX8_init_47 : decode mX8_init.2.1 47 = .ok (.aload_n 0, 1) := by decide +kernel
theorem dX8_init_48 : decode mX8_init.2.1 48 = .ok (.sipush 200, 3) := by decide +kernel
theorem dX8_init_51 : decode mX8_init.2.1 51 = .ok (.newarray .int, 2) := by decide +kernel
theorem dX8_init_53 : decode mX8_init.2.1 53 = .ok (.putfield 25, 3) := by decide +kernel
theorem dX8_init_56 : decode mX8_init.2.1 56 = .ok (.aload_n 0, 1) := by decide +kernel
theorem dX8_init_57 : decode mX8_init.2.1 57 = .ok (.sipush 200, 3) := by decide +kernel
theorem dX8_init_60 : decode mX8_init.2.1 60 = .ok (.newarray .int, 2) := by decide +kernel
theorem dX8_init_62 : decode mX8_init.2.1 62 = .ok (.putfield 28, 3) := by decide +kernel
theorem dX8_init_65 : decode mX8_init.2.1 65 = .ok (.aload_n 0, 1) := by decide +kernel
theorem dX8_init_66 : decode mX8_init.2.1 66 = .ok (.sipush 200, 3) := by decide +kernel
theorem dX8_init_69 : decode mX8_init.2.1 69 = .ok (.newarray .int, 2) := by decide +kernel
theorem dX8_init_71 : decode mX8_init.2.1 71 = .ok (.putfield 31, 3) := by decide +kernel
theorem dX8_init_74 : decode mX8_init.2.1 74 = .ok (.aload_n 0, 1) := by decide +kernel
theorem dX8_init_75 : decode mX8_init.2.1 75 = .ok (.sipush 200, 3) := by decide +kernel
theorem dX8_init_78 : decode mX8_init.2.1 78 = .ok (.newarray .int, 2) := by decide +kernel
theorem dX8_init_80 : decode mX8_init.2.1 80 = .ok (.putfield 34, 3) := by decide +kernel
theorem dX8_init_83 : decode mX8_init.2.1 83 = .ok (.aload_n 0, 1) := by decide +kernel
theorem dX8_init_84 : decode mX8_init.2.1 84 = .ok (.sipush 200, 3) := by decide +kernel
theorem dX8_init_87 : decode mX8_init.2.1 87 = .ok (.newarray .int, 2) := by decide +kernel
theorem dX8_init_89 : decode mX8_init.2.1 89 = .ok (.putfield 37, 3) := by decide +kernel
theorem dX8_init_92 : decode mX8_init.2.1 92 = .ok (.aload_n 0, 1) := by decide +kernel
theorem dX8_init_93 : decode mX8_init.2.1 93 = .ok (.sipush 200, 3) := by decide +kernel
theorem dX8_init_96 : decode mX8_init.2.1 96 = .ok (.newarray .int, 2) := by decide +kernel
theorem dX8_init_98 : decode mX8_init.2.1 98 = .ok (.putfield 40, 3) := by decide +kernel
theorem dX8_init_101 : decode mX8_init.2.1 101 = .ok (.aload_n 0, 1) := by decide +kernel
theorem dX8_init_102 : decode mX8_init.2.1 102 = .ok (.sipush 9600, 3) := by decide +kernel
theorem dX8_init_105 : decode mX8_init.2.1 105 = .ok (.newarray .int, 2) := by decide +kernel
theorem dX8_init_107 : decode mX8_init.2.1 107 = .ok (.putfield 43, 3) := by decide +kernel
theorem dX8_init_110 : decode mX8_init.2.1 110 = .ok (.aload_n 0, 1) := by decide +kernel
theorem dX8_init_111 : decode mX8_init.2.1 111 = .ok (.sipush 1600, 3) := by decide +kernel
theorem dX8_init_114 : decode mX8_init.2.1 114 = .ok (.newarray .int, 2) := by decide +kernel
theorem dX8_init_116 : decode mX8_init.2.1 116 = .ok (.putfield 46, 3) := by decide +kernel
theorem dX8_init_119 : decode mX8_init.2.1 119 = .ok (.aload_n 0, 1) := by decide +kernel
theorem dX8_init_120 : decode mX8_init.2.1 120 = .ok (.sipush 384, 3) := by decide +kernel
theorem dX8_init_123 : decode mX8_init.2.1 123 = .ok (.newarray .int, 2) := by decide +kernel
theorem dX8_init_125 : decode mX8_init.2.1 125 = .ok (.putfield 49, 3) := by decide +kernel
theorem dX8_init_128 : decode mX8_init.2.1 128 = .ok (.aload_n 0, 1) := by decide +kernel
theorem dX8_init_129 : decode mX8_init.2.1 129 = .ok (.bipush 48, 2) := by decide +kernel
theorem dX8_init_131 : decode mX8_init.2.1 131 = .ok (.newarray .int, 2) := by decide +kernel
theorem dX8_init_133 : decode mX8_init.2.1 133 = .ok (.putfield 52, 3) := by decide +kernel
theorem dX8_init_136 : decode mX8_init.2.1 136 = .ok (.aload_n 0, 1) := by decide +kernel
theorem dX8_init_137 : decode mX8_init.2.1 137 = .ok (.bipush 48, 2) := by decide +kernel
theorem dX8_init_139 : decode mX8_init.2.1 139 = .ok (.newarray .int, 2) := by decide +kernel
theorem dX8_init_141 : decode mX8_init.2.1 141 = .ok (.putfield 55, 3) := by decide +kernel
theorem dX8_init_144 : decode mX8_init.2.1 144 = .ok (.aload_n 0, 1) := by decide +kernel
theorem dX8_init_145 : decode mX8_init.2.1 145 = .ok (.sipush 1600, 3) := by decide +kernel
theorem dX8_init_148 : decode mX8_init.2.1 148 = .ok (.newarray .int, 2) := by decide +kernel
theorem dX8_init_150 : decode mX8_init.2.1 150 = .ok (.putfield 58, 3) := by decide +kernel
theorem dX8_init_153 : decode mX8_init.2.1 153 = .ok (.aload_n 0, 1) := by decide +kernel
theorem dX8_init_154 : decode mX8_init.2.1 154 = .ok (.bipush 8, 2) := by decide +kernel
theorem dX8_init_156 : decode mX8_init.2.1 156 = .ok (.newarray .int, 2) := by decide +kernel
theorem dX8_init_158 : decode mX8_init.2.1 158 = .ok (.putfield 61, 3) := by decide +kernel
theorem dX8_init_161 : decode mX8_init.2.1 161 = .ok (.aload_n 0, 1) := by decide +kernel
theorem dX8_init_162 : decode mX8_init.2.1 162 = .ok (.ldc 64, 2) := by decide +kernel
theorem dX8_init_164 : decode mX8_init.2.1 164 = .ok (.newarray .boolean, 2) := by decide +kernel
theorem dX8_init_166 : decode mX8_init.2.1 166 = .ok (.putfield 65, 3) := by decide +kernel
theorem dX8_init_169 : decode mX8_init.2.1 169 = .ok (.aload_n 0, 1) := by decide +kernel
theorem dX8_init_170 : decode mX8_init.2.1 170 = .ok (.sipush 320, 3) := by decide +kernel
theorem dX8_init_173 : decode mX8_init.2.1 173 = .ok (.newarray .int, 2) := by decide +kernel
theorem dX8_init_175 : decode mX8_init.2.1 175 = .ok (.putfield 69, 3) := by decide +kernel
theorem dX8_init_178 : decode mX8_init.2.1 178 = .ok (.aload_n 0, 1) := by decide +kernel
theorem dX8_init_179 : decode mX8_init.2.1 179 = .ok (.bipush 60, 2) := by decide +kernel
theorem dX8_init_181 : decode mX8_init.2.1 181 = .ok (.newarray .int, 2) := by decide +kernel
theorem dX8_init_183 : decode mX8_init.2.1 183 = .ok (.putfield 72, 3) := by decide +kernel
theorem dX8_init_186 : decode mX8_init.2.1 186 = .ok (.aload_n 0, 1) := by decide +kernel
theorem dX8_init_187 : decode mX8_init.2.1 187 = .ok (.sipush 200, 3) := by decide +kernel
theorem dX8_init_190 : decode mX8_init.2.1 190 = .ok (.newarray .int, 2) := by decide +kernel
theorem dX8_init_192 : decode mX8_init.2.1 192 = .ok (.putfield 75, 3) := by decide +kernel
theorem dX8_init_195 : decode mX8_init.2.1 195 = .ok (.iconst 0, 1) := by decide +kernel
theorem dX8_init_196 : decode mX8_init.2.1 196 = .ok (.istore_n 1, 1) := by decide +kernel
theorem dX8_init_197 : decode mX8_init.2.1 197 = .ok (.iload_n 1, 1) := by decide +kernel
theorem dX8_init_198 : decode mX8_init.2.1 198 = .ok (.bipush 48, 2) := by decide +kernel
theorem dX8_init_200 : decode mX8_init.2.1 200 = .ok (.if_icmp .ge 16, 3) := by decide +kernel
theorem dX8_init_203 : decode mX8_init.2.1 203 = .ok (.aload_n 0, 1) := by decide +kernel
theorem dX8_init_204 : decode mX8_init.2.1 204 = .ok (.getfield 55, 3) := by decide +kernel
theorem dX8_init_207 : decode mX8_init.2.1 207 = .ok (.iload_n 1, 1) := by decide +kernel
theorem dX8_init_208 : decode mX8_init.2.1 208 = .ok (.iconst (-1), 1) := by decide +kernel
theorem dX8_init_209 : decode mX8_init.2.1 209 = .ok (.iastore, 1) := by decide +kernel
theorem dX8_init_210 : decode mX8_init.2.1 210 = .ok (.iinc 1 1, 3) := by decide +kernel
theorem dX8_init_213 : decode mX8_init.2.1 213 = .ok (.goto (-16), 3) := by decide +kernel
theorem dX8_init_216 : decode mX8_init.2.1 216 = .ok (.return_, 1) := by decide +kernel
theorem dX8_in_0 : decode mX8_in.2.1 0 = .ok (.iload_n 0, 1) := by decide +kernel
theorem dX8_in_1 : decode mX8_in.2.1 1 = .ok (.iload_n 1, 1) := by decide +kernel
theorem dX8_in_2 : decode mX8_in.2.1 2 = .ok (.if_icmp .lt 12, 3) := by decide +kernel
theorem dX8_in_5 : decode mX8_in.2.1 5 = .ok (.iload_n 0, 1) := by decide +kernel
theorem dX8_in_6 : decode mX8_in.2.1 6 = .ok (.iload_n 2, 1) := by decide +kernel
theorem dX8_in_7 : decode mX8_in.2.1 7 = .ok (.if_icmp .gt 7, 3) := by decide +kernel
theorem dX8_in_10 : decode mX8_in.2.1 10 = .ok (.iconst 1, 1) := by decide +kernel
theorem dX8_in_11 : decode mX8_in.2.1 11 = .ok (.goto 4, 3) := by decide +kernel
theorem dX8_in_14 : decode mX8_in.2.1 14 = .ok (.iconst 0, 1) := by decide +kernel
theorem dX8_in_15 : decode mX8_in.2.1 15 = .ok (.ireturn, 1) := by decide +kernel
theorem dX8_isMember_0 : decode mX8_isMember.2.1 0 = .ok (.iload_n 1, 1) := by decide +kernel
theorem dX8_isMember_1 : decode mX8_isMember.2.1 1 = .ok (.iconst 0, 1) := by decide +kernel
theorem dX8_isMember_2 : decode mX8_isMember.2.1 2 = .ok (.aload_n 0, 1) := by decide +kernel
theorem dX8_isMember_3 : decode mX8_isMember.2.1 3 = .ok (.getfield 78, 3) := by decide +kernel
theorem dX8_isMember_6 : decode mX8_isMember.2.1 6 = .ok (.iconst 1, 1) := by decide +kernel
theorem dX8_isMember_7 : decode mX8_isMember.2.1 7 = .ok (.isub, 1) := by decide +kernel
theorem dX8_isMember_8 : decode mX8_isMember.2.1 8 = .ok (.invokestatic 82, 3) := by decide +kernel
theorem dX8_isMember_11 : decode mX8_isMember.2.1 11 = .ok (.ireturn, 1) := by decide +kernel
theorem dX8_isCircle_0 : decode mX8_isCircle.2.1 0 = .ok (.iload_n 1, 1) := by decide +kernel
theorem dX8_isCircle_1 : decode mX8_isCircle.2.1 1 = .ok (.iconst 0, 1) := by decide +kernel
theorem dX8_isCircle_2 : decode mX8_isCircle.2.1 2 = .ok (.aload_n 0, 1) := by decide +kernel
theorem dX8_isCircle_3 : decode mX8_isCircle.2.1 3 = .ok (.getfield 86, 3) := by decide +kernel
theorem dX8_isCircle_6 : decode mX8_isCircle.2.1 6 = .ok (.iconst 1, 1) := by decide +kernel
theorem dX8_isCircle_7 : decode mX8_isCircle.2.1 7 = .ok (.isub, 1) := by decide +kernel
theorem dX8_isCircle_8 : decode mX8_isCircle.2.1 8 = .ok (.invokestatic 82, 3) := by decide +kernel
theorem dX8_isCircle_11 : decode mX8_isCircle.2.1 11 = .ok (.ireturn, 1) := by decide +kernel
theorem dX8_isLetter_0 : decode mX8_isLetter.2.1 0 = .ok (.iload_n 1, 1) := by decide +kernel
theorem dX8_isLetter_1 : decode mX8_isLetter.2.1 1 = .ok (.iconst 0, 1) := by decide +kernel
theorem dX8_isLetter_2 : decode mX8_isLetter.2.1 2 = .ok (.aload_n 0, 1) := by decide +kernel
theorem dX8_isLetter_3 : decode mX8_isLetter.2.1 3 = .ok (.getfield 89, 3) := by decide +kernel
theorem dX8_isLetter_6 : decode mX8_isLetter.2.1 6 = .ok (.iconst 1, 1) := by decide +kernel
theorem dX8_isLetter_7 : decode mX8_isLetter.2.1 7 = .ok (.isub, 1) := by decide +kernel
theorem dX8_isLetter_8 : decode mX8_isLetter.2.1 8 = .ok (.invokestatic 82, 3) := by decide +kernel
theorem dX8_isLetter_11 : decode mX8_isLetter.2.1 11 = .ok (.ireturn, 1) := by decide +kernel
theorem dX8_isIn_0 : decode mX8_isIn.2.1 0 = .ok (.aload_n 0, 1) := by decide +kernel
theorem dX8_isIn_1 : decode mX8_isIn.2.1 1 = .ok (.getfield 7, 3) := by decide +kernel
theorem dX8_isIn_4 : decode mX8_isIn.2.1 4 = .ok (.iload_n 2, 1) := by decide +kernel
theorem dX8_isIn_5 : decode mX8_isIn.2.1 5 = .ok (.iaload, 1) := by decide +kernel
theorem dX8_isIn_6 : decode mX8_isIn.2.1 6 = .ok (.iload_n 1, 1) := by decide +kernel
theorem dX8_isIn_7 : decode mX8_isIn.2.1 7 = .ok (.ishr, 1) := by decide +kernel
theorem dX8_isIn_8 : decode mX8_isIn.2.1 8 = .ok (.iconst 1, 1) := by decide +kernel
theorem dX8_isIn_9 : decode mX8_isIn.2.1 9 = .ok (.iand, 1) := by decide +kernel
theorem dX8_isIn_10 : decode mX8_isIn.2.1 10 = .ok (.iconst 1, 1) := by decide +kernel
theorem dX8_isIn_11 : decode mX8_isIn.2.1 11 = .ok (.if_icmp .ne 7, 3) := by decide +kernel
theorem dX8_isIn_14 : decode mX8_isIn.2.1 14 = .ok (.iconst 1, 1) := by decide +kernel
theorem dX8_isIn_15 : decode mX8_isIn.2.1 15 = .ok (.goto 4, 3) := by decide +kernel
theorem dX8_isIn_18 : decode mX8_isIn.2.1 18 = .ok (.iconst 0, 1) := by decide +kernel
theorem dX8_isIn_19 : decode mX8_isIn.2.1 19 = .ok (.ireturn, 1) := by decide +kernel
theorem dX8_eldest_0 : decode mX8_eldest.2.1 0 = .ok (.iconst 0, 1) := by decide +kernel
theorem dX8_eldest_1 : decode mX8_eldest.2.1 1 = .ok (.istore_n 2, 1) := by decide +kernel
theorem dX8_eldest_2 : decode mX8_eldest.2.1 2 = .ok (.aload_n 0, 1) := by decide +kernel
theorem dX8_eldest_3 : decode mX8_eldest.2.1 3 = .ok (.iload_n 2, 1) := by decide +kernel
theorem dX8_eldest_4 : decode mX8_eldest.2.1 4 = .ok (.iload_n 1, 1) := by decide +kernel
theorem dX8_eldest_5 : decode mX8_eldest.2.1 5 = .ok (.invokevirtual 92, 3) := by decide +kernel
theorem dX8_eldest_8 : decode mX8_eldest.2.1 8 = .ok (.ifCond .ne 9, 3) := by decide +kernel
theorem dX8_eldest_11 : decode mX8_eldest.2.1 11 = .ok (.iinc 2 1, 3) := by decide +kernel
theorem dX8_eldest_14 : decode mX8_eldest.2.1 14 = .ok (.goto (-12), 3) := by decide +kernel
theorem dX8_eldest_17 : decode mX8_eldest.2.1 17 = .ok (.iload_n 2, 1) := by decide +kernel
theorem dX8_eldest_18 : decode mX8_eldest.2.1 18 = .ok (.ireturn, 1) := by decide +kernel
theorem dX8_above_0 : decode mX8_above.2.1 0 = .ok (.iload_n 0, 1) := by decide +kernel
theorem dX8_above_1 : decode mX8_above.2.1 1 = .ok (.iconst 1, 1) := by decide +kernel
theorem dX8_above_2 : decode mX8_above.2.1 2 = .ok (.if_icmp .eq 8, 3) := by decide +kernel
theorem dX8_above_5 : decode mX8_above.2.1 5 = .ok (.iload_n 0, 1) := by decide +kernel
theorem dX8_above_6 : decode mX8_above.2.1 6 = .ok (.iconst 3, 1) := by decide +kernel
theorem dX8_above_7 : decode mX8_above.2.1 7 = .ok (.if_icmp .ne 7, 3) := by decide +kernel
theorem dX8_above_10 : decode mX8_above.2.1 10 = .ok (.iconst 0, 1) := by decide +kernel
theorem dX8_above_11 : decode mX8_above.2.1 11 = .ok (.goto 6, 3) := by decide +kernel
theorem dX8_above_14 : decode mX8_above.2.1 14 = .ok (.iload_n 0, 1) := by decide +kernel
theorem dX8_above_15 : decode mX8_above.2.1 15 = .ok (.iconst 1, 1) := by decide +kernel
theorem dX8_above_16 : decode mX8_above.2.1 16 = .ok (.isub, 1) := by decide +kernel
theorem dX8_above_17 : decode mX8_above.2.1 17 = .ok (.ireturn, 1) := by decide +kernel
theorem dX8_isOf_0 : decode mX8_isOf.2.1 0 = .ok (.iload_n 0, 1) := by decide +kernel
theorem dX8_isOf_1 : decode mX8_isOf.2.1 1 = .ok (.istore_n 2, 1) := by decide +kernel
theorem dX8_isOf_2 : decode mX8_isOf.2.1 2 = .ok (.iload_n 2, 1) := by decide +kernel
theorem dX8_isOf_3 : decode mX8_isOf.2.1 3 = .ok (.iload_n 1, 1) := by decide +kernel
theorem dX8_isOf_4 : decode mX8_isOf.2.1 4 = .ok (.if_icmp .eq 15, 3) := by decide +kernel
theorem dX8_isOf_7 : decode mX8_isOf.2.1 7 = .ok (.iload_n 2, 1) := by decide +kernel
theorem dX8_isOf_8 : decode mX8_isOf.2.1 8 = .ok (.ifCond .eq 11, 3) := by decide +kernel
theorem dX8_isOf_11 : decode mX8_isOf.2.1 11 = .ok (.iload_n 2, 1) := by decide +kernel
theorem dX8_isOf_12 : decode mX8_isOf.2.1 12 = .ok (.invokestatic 96, 3) := by decide +kernel
theorem dX8_isOf_15 : decode mX8_isOf.2.1 15 = .ok (.istore_n 2, 1) := by decide +kernel
theorem dX8_isOf_16 : decode mX8_isOf.2.1 16 = .ok (.goto (-14), 3) := by decide +kernel
theorem dX8_isOf_19 : decode mX8_isOf.2.1 19 = .ok (.iload_n 2, 1) := by decide +kernel
theorem dX8_isOf_20 : decode mX8_isOf.2.1 20 = .ok (.iload_n 1, 1) := by decide +kernel
theorem dX8_isOf_21 : decode mX8_isOf.2.1 21 = .ok (.if_icmp .ne 7, 3) := by decide +kernel
theorem dX8_isOf_24 : decode mX8_isOf.2.1 24 = .ok (.iconst 1, 1) := by decide +kernel
theorem dX8_isOf_25 : decode mX8_isOf.2.1 25 = .ok (.goto 4, 3) := by decide +kernel
theorem dX8_isOf_28 : decode mX8_isOf.2.1 28 = .ok (.iconst 0, 1) := by decide +kernel
theorem dX8_isOf_29 : decode mX8_isOf.2.1 29 = .ok (.ireturn, 1) := by decide +kernel
theorem dX8_refused_0 : decode mX8_refused.2.1 0 = .ok (.aload_n 0, 1) := by decide +kernel
theorem dX8_refused_1 : decode mX8_refused.2.1 1 = .ok (.iload_n 1, 1) := by decide +kernel
theorem dX8_refused_2 : decode mX8_refused.2.1 2 = .ok (.putfield 100, 3) := by decide +kernel
theorem dX8_refused_5 : decode mX8_refused.2.1 5 = .ok (.iconst (-1), 1) := by decide +kernel
theorem dX8_refused_6 : decode mX8_refused.2.1 6 = .ok (.ireturn, 1) := by decide +kernel
theorem dX8_done_0 : decode mX8_done.2.1 0 = .ok (.aload_n 0, 1) := by decide +kernel
theorem dX8_done_1 : decode mX8_done.2.1 1 = .ok (.iconst 0, 1) := by decide +kernel
theorem dX8_done_2 : decode mX8_done.2.1 2 = .ok (.putfield 100, 3) := by decide +kernel
theorem dX8_done_5 : decode mX8_done.2.1 5 = .ok (.iload_n 1, 1) := by decide +kernel
theorem dX8_done_6 : decode mX8_done.2.1 6 = .ok (.ireturn, 1) := by decide +kernel
theorem dX8_member_0 : decode mX8_member.2.1 0 = .ok (.aload_n 0, 1) := by decide +kernel
theorem dX8_member_1 : decode mX8_member.2.1 1 = .ok (.getfield 78, 3) := by decide +kernel
theorem dX8_member_4 : decode mX8_member.2.1 4 = .ok (.bipush 8, 2) := by decide +kernel
theorem dX8_member_6 : decode mX8_member.2.1 6 = .ok (.if_icmp .ne 9, 3) := by decide +kernel
theorem dX8_member_9 : decode mX8_member.2.1 9 = .ok (.aload_n 0, 1) := by decide +kernel
theorem dX8_member_10 : decode mX8_member.2.1 10 = .ok (.iconst 2, 1) := by decide +kernel
theorem dX8_member_11 : decode mX8_member.2.1 11 = .ok (.invokevirtual 103, 3) := by decide +kernel
theorem dX8_member_14 : decode mX8_member.2.1 14 = .ok (.ireturn, 1) := by decide +kernel
theorem dX8_member_15 : decode mX8_member.2.1 15 = .ok (.aload_n 0, 1) := by decide +kernel
theorem dX8_member_16 : decode mX8_member.2.1 16 = .ok (.dup, 1) := by decide +kernel
theorem dX8_member_17 : decode mX8_member.2.1 17 = .ok (.getfield 78, 3) := by decide +kernel
theorem dX8_member_20 : decode mX8_member.2.1 20 = .ok (.iconst 1, 1) := by decide +kernel
theorem dX8_member_21 : decode mX8_member.2.1 21 = .ok (.iadd, 1) := by decide +kernel
theorem dX8_member_22 : decode mX8_member.2.1 22 = .ok (.putfield 78, 3) := by decide +kernel
theorem dX8_member_25 : decode mX8_member.2.1 25 = .ok (.aload_n 0, 1) := by decide +kernel
theorem dX8_member_26 : decode mX8_member.2.1 26 = .ok (.aload_n 0, 1) := by decide +kernel
theorem dX8_member_27 : decode mX8_member.2.1 27 = .ok (.getfield 78, 3) := by decide +kernel
theorem dX8_member_30 : decode mX8_member.2.1 30 = .ok (.iconst 1, 1) := by decide +kernel
theorem dX8_member_31 : decode mX8_member.2.1 31 = .ok (.isub, 1) := by decide +kernel
theorem dX8_member_32 : decode mX8_member.2.1 32 = .ok (.invokevirtual 106, 3) := by decide +kernel
theorem dX8_member_35 : decode mX8_member.2.1 35 = .ok (.ireturn, 1) := by decide +kernel
theorem dX8_circle_0 : decode mX8_circle.2.1 0 = .ok (.iconst 0, 1) := by decide +kernel
theorem dX8_circle_1 : decode mX8_circle.2.1 1 = .ok (.istore_n 2, 1) := by decide +kernel
theorem dX8_circle_2 : decode mX8_circle.2.1 2 = .ok (.iconst 0, 1) := by decide +kernel
theorem dX8_circle_3 : decode mX8_circle.2.1 3 = .ok (.istore_n 3, 1) := by decide +kernel
theorem dX8_circle_4 : decode mX8_circle.2.1 4 = .ok (.iload_n 3, 1) := by decide +kernel
theorem dX8_circle_5 : decode mX8_circle.2.1 5 = .ok (.aload_n 0, 1) := by decide +kernel
theorem dX8_circle_6 : decode mX8_circle.2.1 6 = .ok (.getfield 78, 3) := by decide +kernel
theorem dX8_circle_9 : decode mX8_circle.2.1 9 = .ok (.if_icmp .ge 17, 3) := by decide +kernel
theorem dX8_circle_12 : decode mX8_circle.2.1 12 = .ok (.iload_n 2, 1) := by decide +kernel
theorem dX8_circle_13 : decode mX8_circle.2.1 13 = .ok (.iload_n 1, 1) := by decide +kernel
theorem dX8_circle_14 : decode mX8_circle.2.1 14 = .ok (.iload_n 3, 1) := by decide +kernel
theorem dX8_circle_15 : decode mX8_circle.2.1 15 = .ok (.ishr, 1) := by decide +kernel
theorem dX8_circle_16 : decode mX8_circle.2.1 16 = .ok (.iconst 1, 1) := by decide +kernel
theorem dX8_circle_17 : decode mX8_circle.2.1 17 = .ok (.iand, 1) := by decide +kernel
theorem dX8_circle_18 : decode mX8_circle.2.1 18 = .ok (.iadd, 1) := by decide +kernel
theorem dX8_circle_19 : decode mX8_circle.2.1 19 = .ok (.istore_n 2, 1) := by decide +kernel
theorem dX8_circle_20 : decode mX8_circle.2.1 20 = .ok (.iinc 3 1, 3) := by decide +kernel
theorem dX8_circle_23 : decode mX8_circle.2.1 23 = .ok (.goto (-19), 3) := by decide +kernel
theorem dX8_circle_26 : decode mX8_circle.2.1 26 = .ok (.iload_n 2, 1) := by decide +kernel
theorem dX8_circle_27 : decode mX8_circle.2.1 27 = .ok (.iconst 2, 1) := by decide +kernel
theorem dX8_circle_28 : decode mX8_circle.2.1 28 = .ok (.if_icmp .lt 16, 3) := by decide +kernel
theorem dX8_circle_31 : decode mX8_circle.2.1 31 = .ok (.iload_n 1, 1) := by decide +kernel
theorem dX8_circle_32 : decode mX8_circle.2.1 32 = .ok (.ifCond .lt 12, 3) := by decide +kernel
theorem dX8_circle_35 : decode mX8_circle.2.1 35 = .ok (.iload_n 1, 1) := by decide +kernel
theorem dX8_circle_36 : decode mX8_circle.2.1 36 = .ok (.aload_n 0, 1) := by decide +kernel
theorem dX8_circle_37 : decode mX8_circle.2.1 37 = .ok (.getfield 78, 3) := by decide +kernel
theorem dX8_circle_40 : decode mX8_circle.2.1 40 = .ok (.ishr, 1) := by decide +kernel
theorem dX8_circle_41 : decode mX8_circle.2.1 41 = .ok (.ifCond .eq 9, 3) := by decide +kernel
theorem dX8_circle_44 : decode mX8_circle.2.1 44 = .ok (.aload_n 0, 1) := by decide +kernel
theorem dX8_circle_45 : decode mX8_circle.2.1 45 = .ok (.iconst 1, 1) := by decide +kernel
theorem dX8_circle_46 : decode mX8_circle.2.1 46 = .ok (.invokevirtual 103, 3) := by decide +kernel
theorem dX8_circle_49 : decode mX8_circle.2.1 49 = .ok (.ireturn, 1) := by decide +kernel
theorem dX8_circle_50 : decode mX8_circle.2.1 50 = .ok (.aload_n 0, 1) := by decide +kernel
theorem dX8_circle_51 : decode mX8_circle.2.1 51 = .ok (.getfield 86, 3) := by decide +kernel
theorem dX8_circle_54 : decode mX8_circle.2.1 54 = .ok (.bipush 6, 2) := by decide +kernel
theorem dX8_circle_56 : decode mX8_circle.2.1 56 = .ok (.if_icmp .ne 9, 3) := by decide +kernel
theorem dX8_circle_59 : decode mX8_circle.2.1 59 = .ok (.aload_n 0, 1) := by decide +kernel
theorem dX8_circle_60 : decode mX8_circle.2.1 60 = .ok (.iconst 2, 1) := by decide +kernel
theorem dX8_circle_61 : decode mX8_circle.2.1 61 = .ok (.invokevirtual 103, 3) := by decide +kernel
theorem dX8_circle_64 : decode mX8_circle.2.1 64 = .ok (.ireturn, 1) := by decide +kernel
theorem dX8_circle_65 : decode mX8_circle.2.1 65 = .ok (.aload_n 0, 1) := by decide +kernel
theorem dX8_circle_66 : decode mX8_circle.2.1 66 = .ok (.getfield 7, 3) := by decide +kernel
theorem dX8_circle_69 : decode mX8_circle.2.1 69 = .ok (.aload_n 0, 1) := by decide +kernel
theorem dX8_circle_70 : decode mX8_circle.2.1 70 = .ok (.getfield 86, 3) := by decide +kernel
theorem dX8_circle_73 : decode mX8_circle.2.1 73 = .ok (.iload_n 1, 1) := by decide +kernel
theorem dX8_circle_74 : decode mX8_circle.2.1 74 = .ok (.iastore, 1) := by decide +kernel
theorem dX8_circle_75 : decode mX8_circle.2.1 75 = .ok (.aload_n 0, 1) := by decide +kernel
theorem dX8_circle_76 : decode mX8_circle.2.1 76 = .ok (.dup, 1) := by decide +kernel
theorem dX8_circle_77 : decode mX8_circle.2.1 77 = .ok (.getfield 86, 3) := by decide +kernel
theorem dX8_circle_80 : decode mX8_circle.2.1 80 = .ok (.iconst 1, 1) := by decide +kernel
theorem dX8_circle_81 : decode mX8_circle.2.1 81 = .ok (.iadd, 1) := by decide +kernel
theorem dX8_circle_82 : decode mX8_circle.2.1 82 = .ok (.putfield 86, 3) := by decide +kernel
theorem dX8_circle_85 : decode mX8_circle.2.1 85 = .ok (.aload_n 0, 1) := by decide +kernel
theorem dX8_circle_86 : decode mX8_circle.2.1 86 = .ok (.aload_n 0, 1) := by decide +kernel
theorem dX8_circle_87 : decode mX8_circle.2.1 87 = .ok (.getfield 86, 3) := by decide +kernel
theorem dX8_circle_90 : decode mX8_circle.2.1 90 = .ok (.iconst 1, 1) := by decide +kernel
theorem dX8_circle_91 : decode mX8_circle.2.1 91 = .ok (.isub, 1) := by decide +kernel
theorem dX8_circle_92 : decode mX8_circle.2.1 92 = .ok (.invokevirtual 106, 3) := by decide +kernel
theorem dX8_circle_95 : decode mX8_circle.2.1 95 = .ok (.ireturn, 1) := by decide +kernel
theorem dX8_made_0 : decode mX8_made.2.1 0 = .ok (.aload_n 0, 1) := by decide +kernel
theorem dX8_made_1 : decode mX8_made.2.1 1 = .ok (.getfield 89, 3) := by decide +kernel
theorem dX8_made_4 : decode mX8_made.2.1 4 = .ok (.istore 5, 2) := by decide +kernel
theorem dX8_made_6 : decode mX8_made.2.1 6 = .ok (.aload_n 0, 1) := by decide +kernel
theorem dX8_made_7 : decode mX8_made.2.1 7 = .ok (.dup, 1) := by decide +kernel
theorem dX8_made_8 : decode mX8_made.2.1 8 = .ok (.getfield 89, 3) := by decide +kernel
theorem dX8_made_11 : decode mX8_made.2.1 11 = .ok (.iconst 1, 1) := by decide +kernel
theorem dX8_made_12 : decode mX8_made.2.1 12 = .ok (.iadd, 1) := by decide +kernel
theorem dX8_made_13 : decode mX8_made.2.1 13 = .ok (.putfield 89, 3) := by decide +kernel
theorem dX8_made_16 : decode mX8_made.2.1 16 = .ok (.aload_n 0, 1) := by decide +kernel
theorem dX8_made_17 : decode mX8_made.2.1 17 = .ok (.getfield 16, 3) := by decide +kernel
theorem dX8_made_20 : decode mX8_made.2.1 20 = .ok (.iload 5, 2) := by decide +kernel
theorem dX8_made_22 : decode mX8_made.2.1 22 = .ok (.iload_n 1, 1) := by decide +kernel
theorem dX8_made_23 : decode mX8_made.2.1 23 = .ok (.iastore, 1) := by decide +kernel
theorem dX8_made_24 : decode mX8_made.2.1 24 = .ok (.aload_n 0, 1) := by decide +kernel
theorem dX8_made_25 : decode mX8_made.2.1 25 = .ok (.getfield 19, 3) := by decide +kernel
theorem dX8_made_28 : decode mX8_made.2.1 28 = .ok (.iload 5, 2) := by decide +kernel
theorem dX8_made_30 : decode mX8_made.2.1 30 = .ok (.iload_n 3, 1) := by decide +kernel
theorem dX8_made_31 : decode mX8_made.2.1 31 = .ok (.iastore, 1) := by decide +kernel
theorem dX8_made_32 : decode mX8_made.2.1 32 = .ok (.aload_n 0, 1) := by decide +kernel
theorem dX8_made_33 : decode mX8_made.2.1 33 = .ok (.getfield 22, 3) := by decide +kernel
theorem dX8_made_36 : decode mX8_made.2.1 36 = .ok (.iload 5, 2) := by decide +kernel
theorem dX8_made_38 : decode mX8_made.2.1 38 = .ok (.iload_n 2, 1) := by decide +kernel
theorem dX8_made_39 : decode mX8_made.2.1 39 = .ok (.iastore, 1) := by decide +kernel
theorem dX8_made_40 : decode mX8_made.2.1 40 = .ok (.aload_n 0, 1) := by decide +kernel
theorem dX8_made_41 : decode mX8_made.2.1 41 = .ok (.getfield 28, 3) := by decide +kernel
theorem dX8_made_44 : decode mX8_made.2.1 44 = .ok (.iload 5, 2) := by decide +kernel
theorem dX8_made_46 : decode mX8_made.2.1 46 = .ok (.iload 4, 2) := by decide +kernel
theorem dX8_made_48 : decode mX8_made.2.1 48 = .ok (.iastore, 1) := by decide +kernel
theorem dX8_made_49 : decode mX8_made.2.1 49 = .ok (.aload_n 0, 1) := by decide +kernel
theorem dX8_made_50 : decode mX8_made.2.1 50 = .ok (.getfield 31, 3) := by decide +kernel
theorem dX8_made_53 : decode mX8_made.2.1 53 = .ok (.iload 5, 2) := by decide +kernel
theorem dX8_made_55 : decode mX8_made.2.1 55 = .ok (.iconst (-1), 1) := by decide +kernel
theorem dX8_made_56 : decode mX8_made.2.1 56 = .ok (.iastore, 1) := by decide +kernel
theorem dX8_made_57 : decode mX8_made.2.1 57 = .ok (.aload_n 0, 1) := by decide +kernel
theorem dX8_made_58 : decode mX8_made.2.1 58 = .ok (.getfield 34, 3) := by decide +kernel
theorem dX8_made_61 : decode mX8_made.2.1 61 = .ok (.iload 5, 2) := by decide +kernel
theorem dX8_made_63 : decode mX8_made.2.1 63 = .ok (.iconst (-1), 1) := by decide +kernel
theorem dX8_made_64 : decode mX8_made.2.1 64 = .ok (.iastore, 1) := by decide +kernel
theorem dX8_made_65 : decode mX8_made.2.1 65 = .ok (.aload_n 0, 1) := by decide +kernel
theorem dX8_made_66 : decode mX8_made.2.1 66 = .ok (.getfield 52, 3) := by decide +kernel
theorem dX8_made_69 : decode mX8_made.2.1 69 = .ok (.bipush 6, 2) := by decide +kernel
theorem dX8_made_71 : decode mX8_made.2.1 71 = .ok (.iload_n 2, 1) := by decide +kernel
theorem dX8_made_72 : decode mX8_made.2.1 72 = .ok (.imul, 1) := by decide +kernel
theorem dX8_made_73 : decode mX8_made.2.1 73 = .ok (.iload_n 3, 1) := by decide +kernel
theorem dX8_made_74 : decode mX8_made.2.1 74 = .ok (.iadd, 1) := by decide +kernel
theorem dX8_made_75 : decode mX8_made.2.1 75 = .ok (.dup2, 1) := by decide +kernel
theorem dX8_made_76 : decode mX8_made.2.1 76 = .ok (.iaload, 1) := by decide +kernel
theorem dX8_made_77 : decode mX8_made.2.1 77 = .ok (.iconst 1, 1) := by decide +kernel
theorem dX8_made_78 : decode mX8_made.2.1 78 = .ok (.iadd, 1) := by decide +kernel
theorem dX8_made_79 : decode mX8_made.2.1 79 = .ok (.iastore, 1) := by decide +kernel
theorem dX8_made_80 : decode mX8_made.2.1 80 = .ok (.aload_n 0, 1) := by decide +kernel
theorem dX8_made_81 : decode mX8_made.2.1 81 = .ok (.getfield 25, 3) := by decide +kernel
theorem dX8_made_84 : decode mX8_made.2.1 84 = .ok (.iload 5, 2) := by decide +kernel
theorem dX8_made_86 : decode mX8_made.2.1 86 = .ok (.aload_n 0, 1) := by decide +kernel
theorem dX8_made_87 : decode mX8_made.2.1 87 = .ok (.getfield 52, 3) := by decide +kernel
theorem dX8_made_90 : decode mX8_made.2.1 90 = .ok (.bipush 6, 2) := by decide +kernel
theorem dX8_made_92 : decode mX8_made.2.1 92 = .ok (.iload_n 2, 1) := by decide +kernel
theorem dX8_made_93 : decode mX8_made.2.1 93 = .ok (.imul, 1) := by decide +kernel
theorem dX8_made_94 : decode mX8_made.2.1 94 = .ok (.iload_n 3, 1) := by decide +kernel
theorem dX8_made_95 : decode mX8_made.2.1 95 = .ok (.iadd, 1) := by decide +kernel
theorem dX8_made_96 : decode mX8_made.2.1 96 = .ok (.iaload, 1) := by decide +kernel
theorem dX8_made_97 : decode mX8_made.2.1 97 = .ok (.iastore, 1) := by decide +kernel
theorem dX8_made_98 : decode mX8_made.2.1 98 = .ok (.aload_n 0, 1) := by decide +kernel
theorem dX8_made_99 : decode mX8_made.2.1 99 = .ok (.getfield 40, 3) := by decide +kernel
theorem dX8_made_102 : decode mX8_made.2.1 102 = .ok (.iload 5, 2) := by decide +kernel
theorem dX8_made_104 : decode mX8_made.2.1 104 = .ok (.iconst 0, 1) := by decide +kernel
theorem dX8_made_105 : decode mX8_made.2.1 105 = .ok (.iastore, 1) := by decide +kernel
theorem dX8_made_106 : decode mX8_made.2.1 106 = .ok (.iconst 0, 1) := by decide +kernel
theorem dX8_made_107 : decode mX8_made.2.1 107 = .ok (.istore 6, 2) := by decide +kernel
theorem dX8_made_109 : decode mX8_made.2.1 109 = .ok (.iload 6, 2) := by decide +kernel
theorem dX8_made_111 : decode mX8_made.2.1 111 = .ok (.aload_n 0, 1) := by decide +kernel
theorem dX8_made_112 : decode mX8_made.2.1 112 = .ok (.getfield 86, 3) := by decide +kernel
theorem dX8_made_115 : decode mX8_made.2.1 115 = .ok (.if_icmp .ge 114, 3) := by decide +kernel
theorem dX8_made_118 : decode mX8_made.2.1 118 = .ok (.aload_n 0, 1) := by decide +kernel
theorem dX8_made_119 : decode mX8_made.2.1 119 = .ok (.iload_n 2, 1) := by decide +kernel
theorem dX8_made_120 : decode mX8_made.2.1 120 = .ok (.iload 6, 2) := by decide +kernel
theorem dX8_made_122 : decode mX8_made.2.1 122 = .ok (.invokevirtual 92, 3) := by decide +kernel
theorem dX8_made_125 : decode mX8_made.2.1 125 = .ok (.istore 7, 2) := by decide +kernel
theorem dX8_made_127 : decode mX8_made.2.1 127 = .ok (.aload_n 0, 1) := by decide +kernel
theorem dX8_made_128 : decode mX8_made.2.1 128 = .ok (.getfield 40, 3) := by decide +kernel
theorem dX8_made_131 : decode mX8_made.2.1 131 = .ok (.iload 5, 2) := by decide +kernel
theorem dX8_made_133 : decode mX8_made.2.1 133 = .ok (.dup2, 1) := by decide +kernel
theorem dX8_made_134 : decode mX8_made.2.1 134 = .ok (.iaload, 1) := by decide +kernel
theorem dX8_made_135 : decode mX8_made.2.1 135 = .ok (.iload 7, 2) := by decide +kernel
theorem dX8_made_137 : decode mX8_made.2.1 137 = .ok (.ifCond .eq 10, 3) := by decide +kernel
theorem dX8_made_140 : decode mX8_made.2.1 140 = .ok (.iconst 1, 1) := by decide +kernel
theorem dX8_made_141 : decode mX8_made.2.1 141 = .ok (.iload 6, 2) := by decide +kernel
theorem dX8_made_143 : decode mX8_made.2.1 143 = .ok (.ishl, 1) := by decide +kernel
theorem dX8_made_144 : decode mX8_made.2.1 144 = .ok (.goto 4, 3) := by decide +kernel
theorem dX8_made_147 : decode mX8_made.2.1 147 = .ok (.iconst 0, 1) := by decide +kernel
theorem dX8_made_148 : decode mX8_made.2.1 148 = .ok (.ior, 1) := by decide +kernel
theorem dX8_made_149 : decode mX8_made.2.1 149 = .ok (.iastore, 1) := by decide +kernel
theorem dX8_made_150 : decode mX8_made.2.1 150 = .ok (.iconst 0, 1) := by decide +kernel
theorem dX8_made_151 : decode mX8_made.2.1 151 = .ok (.istore 8, 2) := by decide +kernel
theorem dX8_made_153 : decode mX8_made.2.1 153 = .ok (.iload 8, 2) := by decide +kernel
theorem dX8_made_155 : decode mX8_made.2.1 155 = .ok (.bipush 8, 2) := by decide +kernel
theorem dX8_made_157 : decode mX8_made.2.1 157 = .ok (.if_icmp .ge 66, 3) := by decide +kernel
theorem dX8_made_160 : decode mX8_made.2.1 160 = .ok (.aload_n 0, 1) := by decide +kernel
theorem dX8_made_161 : decode mX8_made.2.1 161 = .ok (.getfield 43, 3) := by decide +kernel
theorem dX8_made_164 : decode mX8_made.2.1 164 = .ok (.bipush 48, 2) := by decide +kernel
theorem dX8_made_166 : decode mX8_made.2.1 166 = .ok (.iload 5, 2) := by decide +kernel
theorem dX8_made_168 : decode mX8_made.2.1 168 = .ok (.imul, 1) := by decide +kernel
theorem dX8_made_169 : decode mX8_made.2.1 169 = .ok (.bipush 8, 2) := by decide +kernel
theorem dX8_made_171 : decode mX8_made.2.1 171 = .ok (.iload 6, 2) := by decide +kernel
theorem dX8_made_173 : decode mX8_made.2.1 173 = .ok (.imul, 1) := by decide +kernel
theorem dX8_made_174 : decode mX8_made.2.1 174 = .ok (.iadd, 1) := by decide +kernel
theorem dX8_made_175 : decode mX8_made.2.1 175 = .ok (.iload 8, 2) := by decide +kernel
theorem dX8_made_177 : decode mX8_made.2.1 177 = .ok (.iadd, 1) := by decide +kernel
theorem dX8_made_178 : decode mX8_made.2.1 178 = .ok (.iload 7, 2) := by decide +kernel
theorem dX8_made_180 : decode mX8_made.2.1 180 = .ok (.ifCond .eq 35, 3) := by decide +kernel
theorem dX8_made_183 : decode mX8_made.2.1 183 = .ok (.aload_n 0, 1) := by decide +kernel
theorem dX8_made_184 : decode mX8_made.2.1 184 = .ok (.iload 8, 2) := by decide +kernel
theorem dX8_made_186 : decode mX8_made.2.1 186 = .ok (.iload 6, 2) := by decide +kernel
theorem dX8_made_188 : decode mX8_made.2.1 188 = .ok (.invokevirtual 92, 3) := by decide +kernel
theorem dX8_made_191 : decode mX8_made.2.1 191 = .ok (.ifCond .eq 24, 3) := by decide +kernel
theorem dX8_made_194 : decode mX8_made.2.1 194 = .ok (.aload_n 0, 1) := by decide +kernel
theorem dX8_made_195 : decode mX8_made.2.1 195 = .ok (.getfield 49, 3) := by decide +kernel
theorem dX8_made_198 : decode mX8_made.2.1 198 = .ok (.bipush 48, 2) := by decide +kernel
theorem dX8_made_200 : decode mX8_made.2.1 200 = .ok (.iload_n 2, 1) := by decide +kernel
theorem dX8_made_201 : decode mX8_made.2.1 201 = .ok (.imul, 1) := by decide +kernel
theorem dX8_made_202 : decode mX8_made.2.1 202 = .ok (.bipush 8, 2) := by decide +kernel
theorem dX8_made_204 : decode mX8_made.2.1 204 = .ok (.iload 6, 2) := by decide +kernel
theorem dX8_made_206 : decode mX8_made.2.1 206 = .ok (.imul, 1) := by decide +kernel
theorem dX8_made_207 : decode mX8_made.2.1 207 = .ok (.iadd, 1) := by decide +kernel
theorem dX8_made_208 : decode mX8_made.2.1 208 = .ok (.iload 8, 2) := by decide +kernel
theorem dX8_made_210 : decode mX8_made.2.1 210 = .ok (.iadd, 1) := by decide +kernel
theorem dX8_made_211 : decode mX8_made.2.1 211 = .ok (.iaload, 1) := by decide +kernel
theorem dX8_made_212 : decode mX8_made.2.1 212 = .ok (.goto 4, 3) := by decide +kernel
theorem dX8_made_215 : decode mX8_made.2.1 215 = .ok (.iconst 0, 1) := by decide +kernel
theorem dX8_made_216 : decode mX8_made.2.1 216 = .ok (.iastore, 1) := by decide +kernel
theorem dX8_made_217 : decode mX8_made.2.1 217 = .ok (.iinc 8 1, 3) := by decide +kernel
theorem dX8_made_220 : decode mX8_made.2.1 220 = .ok (.goto (-67), 3) := by decide +kernel
theorem dX8_made_223 : decode mX8_made.2.1 223 = .ok (.iinc 6 1, 3) := by decide +kernel
theorem dX8_made_226 : decode mX8_made.2.1 226 = .ok (.goto (-117), 3) := by decide +kernel
theorem dX8_made_229 : decode mX8_made.2.1 229 = .ok (.iconst 0, 1) := by decide +kernel
theorem dX8_made_230 : decode mX8_made.2.1 230 = .ok (.istore 6, 2) := by decide +kernel
theorem dX8_made_232 : decode mX8_made.2.1 232 = .ok (.iload 6, 2) := by decide +kernel
theorem dX8_made_234 : decode mX8_made.2.1 234 = .ok (.iload 5, 2) := by decide +kernel
theorem dX8_made_236 : decode mX8_made.2.1 236 = .ok (.if_icmp .ge 121, 3) := by decide +kernel
theorem dX8_made_239 : decode mX8_made.2.1 239 = .ok (.aload_n 0, 1) := by decide +kernel
theorem dX8_made_240 : decode mX8_made.2.1 240 = .ok (.getfield 22, 3) := by decide +kernel
theorem dX8_made_243 : decode mX8_made.2.1 243 = .ok (.iload 6, 2) := by decide +kernel
theorem dX8_made_245 : decode mX8_made.2.1 245 = .ok (.iaload, 1) := by decide +kernel
theorem dX8_made_246 : decode mX8_made.2.1 246 = .ok (.iload_n 2, 1) := by decide +kernel
theorem dX8_made_247 : decode mX8_made.2.1 247 = .ok (.if_icmp .eq 20, 3) := by decide +kernel
theorem dX8_made_250 : decode mX8_made.2.1 250 = .ok (.aload_n 0, 1) := by decide +kernel
theorem dX8_made_251 : decode mX8_made.2.1 251 = .ok (.getfield 46, 3) := by decide +kernel
theorem dX8_made_254 : decode mX8_made.2.1 254 = .ok (.sipush 200, 3) := by decide +kernel
theorem dX8_made_257 : decode mX8_made.2.1 257 = .ok (.iload_n 2, 1) := by decide +kernel
theorem dX8_made_258 : decode mX8_made.2.1 258 = .ok (.imul, 1) := by decide +kernel
theorem dX8_made_259 : decode mX8_made.2.1 259 = .ok (.iload 6, 2) := by decide +kernel
theorem dX8_made_261 : decode mX8_made.2.1 261 = .ok (.iadd, 1) := by decide +kernel
theorem dX8_made_262 : decode mX8_made.2.1 262 = .ok (.iaload, 1) := by decide +kernel
theorem dX8_made_263 : decode mX8_made.2.1 263 = .ok (.iconst 3, 1) := by decide +kernel
theorem dX8_made_264 : decode mX8_made.2.1 264 = .ok (.if_icmp .ne 87, 3) := by decide +kernel
theorem dX8_made_267 : decode mX8_made.2.1 267 = .ok (.aload_n 0, 1) := by decide +kernel
theorem dX8_made_268 : decode mX8_made.2.1 268 = .ok (.getfield 65, 3) := by decide +kernel
theorem dX8_made_271 : decode mX8_made.2.1 271 = .ok (.sipush 200, 3) := by decide +kernel
theorem dX8_made_274 : decode mX8_made.2.1 274 = .ok (.iload 5, 2) := by decide +kernel
theorem dX8_made_276 : decode mX8_made.2.1 276 = .ok (.imul, 1) := by decide +kernel
theorem dX8_made_277 : decode mX8_made.2.1 277 = .ok (.iload 6, 2) := by decide +kernel
theorem dX8_made_279 : decode mX8_made.2.1 279 = .ok (.iadd, 1) := by decide +kernel
theorem dX8_made_280 : decode mX8_made.2.1 280 = .ok (.iconst 1, 1) := by decide +kernel
theorem dX8_made_281 : decode mX8_made.2.1 281 = .ok (.bastore, 1) := by decide +kernel
theorem dX8_made_282 : decode mX8_made.2.1 282 = .ok (.iconst 0, 1) := by decide +kernel
theorem dX8_made_283 : decode mX8_made.2.1 283 = .ok (.istore 7, 2) := by decide +kernel
theorem dX8_made_285 : decode mX8_made.2.1 285 = .ok (.iload 7, 2) := by decide +kernel
theorem dX8_made_287 : decode mX8_made.2.1 287 = .ok (.iload 6, 2) := by decide +kernel
theorem dX8_made_289 : decode mX8_made.2.1 289 = .ok (.if_icmp .ge 62, 3) := by decide +kernel
theorem dX8_made_292 : decode mX8_made.2.1 292 = .ok (.aload_n 0, 1) := by decide +kernel
theorem dX8_made_293 : decode mX8_made.2.1 293 = .ok (.getfield 65, 3) := by decide +kernel
theorem dX8_made_296 : decode mX8_made.2.1 296 = .ok (.sipush 200, 3) := by decide +kernel
theorem dX8_made_299 : decode mX8_made.2.1 299 = .ok (.iload 5, 2) := by decide +kernel
theorem dX8_made_301 : decode mX8_made.2.1 301 = .ok (.imul, 1) := by decide +kernel
theorem dX8_made_302 : decode mX8_made.2.1 302 = .ok (.iload 7, 2) := by decide +kernel
theorem dX8_made_304 : decode mX8_made.2.1 304 = .ok (.iadd, 1) := by decide +kernel
theorem dX8_made_305 : decode mX8_made.2.1 305 = .ok (.aload_n 0, 1) := by decide +kernel
theorem dX8_made_306 : decode mX8_made.2.1 306 = .ok (.getfield 65, 3) := by decide +kernel
theorem dX8_made_309 : decode mX8_made.2.1 309 = .ok (.sipush 200, 3) := by decide +kernel
theorem dX8_made_312 : decode mX8_made.2.1 312 = .ok (.iload 5, 2) := by decide +kernel
theorem dX8_made_314 : decode mX8_made.2.1 314 = .ok (.imul, 1) := by decide +kernel
theorem dX8_made_315 : decode mX8_made.2.1 315 = .ok (.iload 7, 2) := by decide +kernel
theorem dX8_made_317 : decode mX8_made.2.1 317 = .ok (.iadd, 1) := by decide +kernel
theorem dX8_made_318 : decode mX8_made.2.1 318 = .ok (.baload, 1) := by decide +kernel
theorem dX8_made_319 : decode mX8_made.2.1 319 = .ok (.ifCond .ne 20, 3) := by decide +kernel
theorem dX8_made_322 : decode mX8_made.2.1 322 = .ok (.aload_n 0, 1) := by decide +kernel
theorem dX8_made_323 : decode mX8_made.2.1 323 = .ok (.getfield 65, 3) := by decide +kernel
theorem dX8_made_326 : decode mX8_made.2.1 326 = .ok (.sipush 200, 3) := by decide +kernel
theorem dX8_made_329 : decode mX8_made.2.1 329 = .ok (.iload 6, 2) := by decide +kernel
theorem dX8_made_331 : decode mX8_made.2.1 331 = .ok (.imul, 1) := by decide +kernel
theorem dX8_made_332 : decode mX8_made.2.1 332 = .ok (.iload 7, 2) := by decide +kernel
theorem dX8_made_334 : decode mX8_made.2.1 334 = .ok (.iadd, 1) := by decide +kernel
theorem dX8_made_335 : decode mX8_made.2.1 335 = .ok (.baload, 1) := by decide +kernel
theorem dX8_made_336 : decode mX8_made.2.1 336 = .ok (.ifCond .eq 7, 3) := by decide +kernel
theorem dX8_made_339 : decode mX8_made.2.1 339 = .ok (.iconst 1, 1) := by decide +kernel
theorem dX8_made_340 : decode mX8_made.2.1 340 = .ok (.goto 4, 3) := by decide +kernel
theorem dX8_made_343 : decode mX8_made.2.1 343 = .ok (.iconst 0, 1) := by decide +kernel
theorem dX8_made_344 : decode mX8_made.2.1 344 = .ok (.bastore, 1) := by decide +kernel
theorem dX8_made_345 : decode mX8_made.2.1 345 = .ok (.iinc 7 1, 3) := by decide +kernel
theorem dX8_made_348 : decode mX8_made.2.1 348 = .ok (.goto (-63), 3) := by decide +kernel
theorem dX8_made_351 : decode mX8_made.2.1 351 = .ok (.iinc 6 1, 3) := by decide +kernel
theorem dX8_made_354 : decode mX8_made.2.1 354 = .ok (.goto (-122), 3) := by decide +kernel
theorem dX8_made_357 : decode mX8_made.2.1 357 = .ok (.iload 5, 2) := by decide +kernel
theorem dX8_made_359 : decode mX8_made.2.1 359 = .ok (.ireturn, 1) := by decide +kernel
theorem dX8_goes_0 : decode mX8_goes.2.1 0 = .ok (.aload_n 0, 1) := by decide +kernel
theorem dX8_goes_1 : decode mX8_goes.2.1 1 = .ok (.getfield 19, 3) := by decide +kernel
theorem dX8_goes_4 : decode mX8_goes.2.1 4 = .ok (.iload_n 1, 1) := by decide +kernel
theorem dX8_goes_5 : decode mX8_goes.2.1 5 = .ok (.iaload, 1) := by decide +kernel
theorem dX8_goes_6 : decode mX8_goes.2.1 6 = .ok (.istore_n 2, 1) := by decide +kernel
theorem dX8_goes_7 : decode mX8_goes.2.1 7 = .ok (.iconst 0, 1) := by decide +kernel
theorem dX8_goes_8 : decode mX8_goes.2.1 8 = .ok (.istore_n 3, 1) := by decide +kernel
theorem dX8_goes_9 : decode mX8_goes.2.1 9 = .ok (.iload_n 3, 1) := by decide +kernel
theorem dX8_goes_10 : decode mX8_goes.2.1 10 = .ok (.aload_n 0, 1) := by decide +kernel
theorem dX8_goes_11 : decode mX8_goes.2.1 11 = .ok (.getfield 78, 3) := by decide +kernel
theorem dX8_goes_14 : decode mX8_goes.2.1 14 = .ok (.if_icmp .ge 41, 3) := by decide +kernel
theorem dX8_goes_17 : decode mX8_goes.2.1 17 = .ok (.aload_n 0, 1) := by decide +kernel
theorem dX8_goes_18 : decode mX8_goes.2.1 18 = .ok (.iload_n 3, 1) := by decide +kernel
theorem dX8_goes_19 : decode mX8_goes.2.1 19 = .ok (.iload_n 2, 1) := by decide +kernel
theorem dX8_goes_20 : decode mX8_goes.2.1 20 = .ok (.invokevirtual 92, 3) := by decide +kernel
theorem dX8_goes_23 : decode mX8_goes.2.1 23 = .ok (.ifCond .eq 26, 3) := by decide +kernel
theorem dX8_goes_26 : decode mX8_goes.2.1 26 = .ok (.iload_n 3, 1) := by decide +kernel
theorem dX8_goes_27 : decode mX8_goes.2.1 27 = .ok (.aload_n 0, 1) := by decide +kernel
theorem dX8_goes_28 : decode mX8_goes.2.1 28 = .ok (.getfield 22, 3) := by decide +kernel
theorem dX8_goes_31 : decode mX8_goes.2.1 31 = .ok (.iload_n 1, 1) := by decide +kernel
theorem dX8_goes_32 : decode mX8_goes.2.1 32 = .ok (.iaload, 1) := by decide +kernel
theorem dX8_goes_33 : decode mX8_goes.2.1 33 = .ok (.if_icmp .eq 16, 3) := by decide +kernel
theorem dX8_goes_36 : decode mX8_goes.2.1 36 = .ok (.aload_n 0, 1) := by decide +kernel
theorem dX8_goes_37 : decode mX8_goes.2.1 37 = .ok (.getfield 46, 3) := by decide +kernel
theorem dX8_goes_40 : decode mX8_goes.2.1 40 = .ok (.sipush 200, 3) := by decide +kernel
theorem dX8_goes_43 : decode mX8_goes.2.1 43 = .ok (.iload_n 3, 1) := by decide +kernel
theorem dX8_goes_44 : decode mX8_goes.2.1 44 = .ok (.imul, 1) := by decide +kernel
theorem dX8_goes_45 : decode mX8_goes.2.1 45 = .ok (.iload_n 1, 1) := by decide +kernel
theorem dX8_goes_46 : decode mX8_goes.2.1 46 = .ok (.iadd, 1) := by decide +kernel
theorem dX8_goes_47 : decode mX8_goes.2.1 47 = .ok (.iconst 1, 1) := by decide +kernel
theorem dX8_goes_48 : decode mX8_goes.2.1 48 = .ok (.iastore, 1) := by decide +kernel
theorem dX8_goes_49 : decode mX8_goes.2.1 49 = .ok (.iinc 3 1, 3) := by decide +kernel
theorem dX8_goes_52 : decode mX8_goes.2.1 52 = .ok (.goto (-43), 3) := by decide +kernel
theorem dX8_goes_55 : decode mX8_goes.2.1 55 = .ok (.aload_n 0, 1) := by decide +kernel
theorem dX8_goes_56 : decode mX8_goes.2.1 56 = .ok (.aload_n 0, 1) := by decide +kernel
theorem dX8_goes_57 : decode mX8_goes.2.1 57 = .ok (.getfield 22, 3) := by decide +kernel
theorem dX8_goes_60 : decode mX8_goes.2.1 60 = .ok (.iload_n 1, 1) := by decide +kernel
theorem dX8_goes_61 : decode mX8_goes.2.1 61 = .ok (.iaload, 1) := by decide +kernel
theorem dX8_goes_62 : decode mX8_goes.2.1 62 = .ok (.iload_n 1, 1) := by decide +kernel
theorem dX8_goes_63 : decode mX8_goes.2.1 63 = .ok (.invokevirtual 109, 3) := by decide +kernel
theorem dX8_goes_66 : decode mX8_goes.2.1 66 = .ok (.return_, 1) := by decide +kernel
theorem dX8_holds_0 : decode mX8_holds.2.1 0 = .ok (.aload_n 0, 1) := by decide +kernel
theorem dX8_holds_1 : decode mX8_holds.2.1 1 = .ok (.getfield 46, 3) := by decide +kernel
theorem dX8_holds_4 : decode mX8_holds.2.1 4 = .ok (.sipush 200, 3) := by decide +kernel
theorem dX8_holds_7 : decode mX8_holds.2.1 7 = .ok (.iload_n 1, 1) := by decide +kernel
theorem dX8_holds_8 : decode mX8_holds.2.1 8 = .ok (.imul, 1) := by decide +kernel
theorem dX8_holds_9 : decode mX8_holds.2.1 9 = .ok (.iload_n 2, 1) := by decide +kernel
theorem dX8_holds_10 : decode mX8_holds.2.1 10 = .ok (.iadd, 1) := by decide +kernel
theorem dX8_holds_11 : decode mX8_holds.2.1 11 = .ok (.iconst 2, 1) := by decide +kernel
theorem dX8_holds_12 : decode mX8_holds.2.1 12 = .ok (.iastore, 1) := by decide +kernel
theorem dX8_holds_13 : decode mX8_holds.2.1 13 = .ok (.iconst 0, 1) := by decide +kernel
theorem dX8_holds_14 : decode mX8_holds.2.1 14 = .ok (.istore_n 3, 1) := by decide +kernel
theorem dX8_holds_15 : decode mX8_holds.2.1 15 = .ok (.iload_n 3, 1) := by decide +kernel
theorem dX8_holds_16 : decode mX8_holds.2.1 16 = .ok (.bipush 40, 2) := by decide +kernel
theorem dX8_holds_18 : decode mX8_holds.2.1 18 = .ok (.if_icmp .ge 38, 3) := by decide +kernel
theorem dX8_holds_21 : decode mX8_holds.2.1 21 = .ok (.aload_n 0, 1) := by decide +kernel
theorem dX8_holds_22 : decode mX8_holds.2.1 22 = .ok (.getfield 69, 3) := by decide +kernel
theorem dX8_holds_25 : decode mX8_holds.2.1 25 = .ok (.bipush 40, 2) := by decide +kernel
theorem dX8_holds_27 : decode mX8_holds.2.1 27 = .ok (.iload_n 1, 1) := by decide +kernel
theorem dX8_holds_28 : decode mX8_holds.2.1 28 = .ok (.imul, 1) := by decide +kernel
theorem dX8_holds_29 : decode mX8_holds.2.1 29 = .ok (.iload_n 3, 1) := by decide +kernel
theorem dX8_holds_30 : decode mX8_holds.2.1 30 = .ok (.iadd, 1) := by decide +kernel
theorem dX8_holds_31 : decode mX8_holds.2.1 31 = .ok (.iaload, 1) := by decide +kernel
theorem dX8_holds_32 : decode mX8_holds.2.1 32 = .ok (.ifCond .ne 18, 3) := by decide +kernel
theorem dX8_holds_35 : decode mX8_holds.2.1 35 = .ok (.aload_n 0, 1) := by decide +kernel
theorem dX8_holds_36 : decode mX8_holds.2.1 36 = .ok (.getfield 69, 3) := by decide +kernel
theorem dX8_holds_39 : decode mX8_holds.2.1 39 = .ok (.bipush 40, 2) := by decide +kernel
theorem dX8_holds_41 : decode mX8_holds.2.1 41 = .ok (.iload_n 1, 1) := by decide +kernel
theorem dX8_holds_42 : decode mX8_holds.2.1 42 = .ok (.imul, 1) := by decide +kernel
theorem dX8_holds_43 : decode mX8_holds.2.1 43 = .ok (.iload_n 3, 1) := by decide +kernel
theorem dX8_holds_44 : decode mX8_holds.2.1 44 = .ok (.iadd, 1) := by decide +kernel
theorem dX8_holds_45 : decode mX8_holds.2.1 45 = .ok (.iload_n 2, 1) := by decide +kernel
theorem dX8_holds_46 : decode mX8_holds.2.1 46 = .ok (.iconst 1, 1) := by decide +kernel
theorem dX8_holds_47 : decode mX8_holds.2.1 47 = .ok (.iadd, 1) := by decide +kernel
theorem dX8_holds_48 : decode mX8_holds.2.1 48 = .ok (.iastore, 1) := by decide +kernel
theorem dX8_holds_49 : decode mX8_holds.2.1 49 = .ok (.return_, 1) := by decide +kernel
theorem dX8_holds_50 : decode mX8_holds.2.1 50 = .ok (.iinc 3 1, 3) := by decide +kernel
theorem dX8_holds_53 : decode mX8_holds.2.1 53 = .ok (.goto (-38), 3) := by decide +kernel
theorem dX8_holds_56 : decode mX8_holds.2.1 56 = .ok (.return_, 1) := by decide +kernel
theorem dX8_counts_0 : decode mX8_counts.2.1 0 = .ok (.aload_n 0, 1) := by decide +kernel
theorem dX8_counts_1 : decode mX8_counts.2.1 1 = .ok (.getfield 55, 3) := by decide +kernel
theorem dX8_counts_4 : decode mX8_counts.2.1 4 = .ok (.bipush 6, 2) := by decide +kernel
theorem dX8_counts_6 : decode mX8_counts.2.1 6 = .ok (.iload_n 2, 1) := by decide +kernel
theorem dX8_counts_7 : decode mX8_counts.2.1 7 = .ok (.imul, 1) := by decide +kernel
theorem dX8_counts_8 : decode mX8_counts.2.1 8 = .ok (.iload_n 3, 1) := by decide +kernel
theorem dX8_counts_9 : decode mX8_counts.2.1 9 = .ok (.iadd, 1) := by decide +kernel
theorem dX8_counts_10 : decode mX8_counts.2.1 10 = .ok (.iaload, 1) := by decide +kernel
theorem dX8_counts_11 : decode mX8_counts.2.1 11 = .ok (.istore 4, 2) := by decide +kernel
theorem dX8_counts_13 : decode mX8_counts.2.1 13 = .ok (.aload_n 0, 1) := by decide +kernel
theorem dX8_counts_14 : decode mX8_counts.2.1 14 = .ok (.getfield 37, 3) := by decide +kernel
theorem dX8_counts_17 : decode mX8_counts.2.1 17 = .ok (.iload_n 1, 1) := by decide +kernel
theorem dX8_counts_18 : decode mX8_counts.2.1 18 = .ok (.iconst 0, 1) := by decide +kernel
theorem dX8_counts_19 : decode mX8_counts.2.1 19 = .ok (.iastore, 1) := by decide +kernel
theorem dX8_counts_20 : decode mX8_counts.2.1 20 = .ok (.iconst 0, 1) := by decide +kernel
theorem dX8_counts_21 : decode mX8_counts.2.1 21 = .ok (.istore 5, 2) := by decide +kernel
theorem dX8_counts_23 : decode mX8_counts.2.1 23 = .ok (.iload 4, 2) := by decide +kernel
theorem dX8_counts_25 : decode mX8_counts.2.1 25 = .ok (.iconst (-1), 1) := by decide +kernel
theorem dX8_counts_26 : decode mX8_counts.2.1 26 = .ok (.if_icmp .eq 131, 3) := by decide +kernel
theorem dX8_counts_29 : decode mX8_counts.2.1 29 = .ok (.iload 5, 2) := by decide +kernel
theorem dX8_counts_31 : decode mX8_counts.2.1 31 = .ok (.bipush 48, 2) := by decide +kernel
theorem dX8_counts_33 : decode mX8_counts.2.1 33 = .ok (.if_icmp .ge 124, 3) := by decide +kernel
theorem dX8_counts_36 : decode mX8_counts.2.1 36 = .ok (.iload 5, 2) := by decide +kernel
theorem dX8_counts_38 : decode mX8_counts.2.1 38 = .ok (.bipush 8, 2) := by decide +kernel
theorem dX8_counts_40 : decode mX8_counts.2.1 40 = .ok (.idiv, 1) := by decide +kernel
theorem dX8_counts_41 : decode mX8_counts.2.1 41 = .ok (.istore 6, 2) := by decide +kernel
theorem dX8_counts_43 : decode mX8_counts.2.1 43 = .ok (.iload 6, 2) := by decide +kernel
theorem dX8_counts_45 : decode mX8_counts.2.1 45 = .ok (.aload_n 0, 1) := by decide +kernel
theorem dX8_counts_46 : decode mX8_counts.2.1 46 = .ok (.getfield 86, 3) := by decide +kernel
theorem dX8_counts_49 : decode mX8_counts.2.1 49 = .ok (.if_icmp .ge 52, 3) := by decide +kernel
theorem dX8_counts_52 : decode mX8_counts.2.1 52 = .ok (.aload_n 0, 1) := by decide +kernel
theorem dX8_counts_53 : decode mX8_counts.2.1 53 = .ok (.getfield 40, 3) := by decide +kernel
theorem dX8_counts_56 : decode mX8_counts.2.1 56 = .ok (.iload_n 1, 1) := by decide +kernel
theorem dX8_counts_57 : decode mX8_counts.2.1 57 = .ok (.iaload, 1) := by decide +kernel
theorem dX8_counts_58 : decode mX8_counts.2.1 58 = .ok (.iload 6, 2) := by decide +kernel
theorem dX8_counts_60 : decode mX8_counts.2.1 60 = .ok (.ishr, 1) := by decide +kernel
theorem dX8_counts_61 : decode mX8_counts.2.1 61 = .ok (.iconst 1, 1) := by decide +kernel
theorem dX8_counts_62 : decode mX8_counts.2.1 62 = .ok (.iand, 1) := by decide +kernel
theorem dX8_counts_63 : decode mX8_counts.2.1 63 = .ok (.iconst 1, 1) := by decide +kernel
theorem dX8_counts_64 : decode mX8_counts.2.1 64 = .ok (.if_icmp .ne 37, 3) := by decide +kernel
theorem dX8_counts_67 : decode mX8_counts.2.1 67 = .ok (.aload_n 0, 1) := by decide +kernel
theorem dX8_counts_68 : decode mX8_counts.2.1 68 = .ok (.getfield 40, 3) := by decide +kernel
theorem dX8_counts_71 : decode mX8_counts.2.1 71 = .ok (.iload 4, 2) := by decide +kernel
theorem dX8_counts_73 : decode mX8_counts.2.1 73 = .ok (.iaload, 1) := by decide +kernel
theorem dX8_counts_74 : decode mX8_counts.2.1 74 = .ok (.iload 6, 2) := by decide +kernel
theorem dX8_counts_76 : decode mX8_counts.2.1 76 = .ok (.ishr, 1) := by decide +kernel
theorem dX8_counts_77 : decode mX8_counts.2.1 77 = .ok (.iconst 1, 1) := by decide +kernel
theorem dX8_counts_78 : decode mX8_counts.2.1 78 = .ok (.iand, 1) := by decide +kernel
theorem dX8_counts_79 : decode mX8_counts.2.1 79 = .ok (.iconst 1, 1) := by decide +kernel
theorem dX8_counts_80 : decode mX8_counts.2.1 80 = .ok (.if_icmp .ne 21, 3) := by decide +kernel
theorem dX8_counts_83 : decode mX8_counts.2.1 83 = .ok (.aload_n 0, 1) := by decide +kernel
theorem dX8_counts_84 : decode mX8_counts.2.1 84 = .ok (.iload 5, 2) := by decide +kernel
theorem dX8_counts_86 : decode mX8_counts.2.1 86 = .ok (.bipush 8, 2) := by decide +kernel
theorem dX8_counts_88 : decode mX8_counts.2.1 88 = .ok (.irem, 1) := by decide +kernel
theorem dX8_counts_89 : decode mX8_counts.2.1 89 = .ok (.iload 6, 2) := by decide +kernel
theorem dX8_counts_91 : decode mX8_counts.2.1 91 = .ok (.invokevirtual 92, 3) := by decide +kernel
theorem dX8_counts_94 : decode mX8_counts.2.1 94 = .ok (.ifCond .eq 7, 3) := by decide +kernel
theorem dX8_counts_97 : decode mX8_counts.2.1 97 = .ok (.iconst 1, 1) := by decide +kernel
theorem dX8_counts_98 : decode mX8_counts.2.1 98 = .ok (.goto 4, 3) := by decide +kernel
theorem dX8_counts_101 : decode mX8_counts.2.1 101 = .ok (.iconst 0, 1) := by decide +kernel
theorem dX8_counts_102 : decode mX8_counts.2.1 102 = .ok (.istore 7, 2) := by decide +kernel
theorem dX8_counts_104 : decode mX8_counts.2.1 104 = .ok (.aload_n 0, 1) := by decide +kernel
theorem dX8_counts_105 : decode mX8_counts.2.1 105 = .ok (.getfield 37, 3) := by decide +kernel
theorem dX8_counts_108 : decode mX8_counts.2.1 108 = .ok (.iload_n 1, 1) := by decide +kernel
theorem dX8_counts_109 : decode mX8_counts.2.1 109 = .ok (.dup2, 1) := by decide +kernel
theorem dX8_counts_110 : decode mX8_counts.2.1 110 = .ok (.iaload, 1) := by decide +kernel
theorem dX8_counts_111 : decode mX8_counts.2.1 111 = .ok (.iload 7, 2) := by decide +kernel
theorem dX8_counts_113 : decode mX8_counts.2.1 113 = .ok (.ifCond .eq 35, 3) := by decide +kernel
theorem dX8_counts_116 : decode mX8_counts.2.1 116 = .ok (.aload_n 0, 1) := by decide +kernel
theorem dX8_counts_117 : decode mX8_counts.2.1 117 = .ok (.getfield 43, 3) := by decide +kernel
theorem dX8_counts_120 : decode mX8_counts.2.1 120 = .ok (.bipush 48, 2) := by decide +kernel
theorem dX8_counts_122 : decode mX8_counts.2.1 122 = .ok (.iload_n 1, 1) := by decide +kernel
theorem dX8_counts_123 : decode mX8_counts.2.1 123 = .ok (.imul, 1) := by decide +kernel
theorem dX8_counts_124 : decode mX8_counts.2.1 124 = .ok (.iload 5, 2) := by decide +kernel
theorem dX8_counts_126 : decode mX8_counts.2.1 126 = .ok (.iadd, 1) := by decide +kernel
theorem dX8_counts_127 : decode mX8_counts.2.1 127 = .ok (.iaload, 1) := by decide +kernel
theorem dX8_counts_128 : decode mX8_counts.2.1 128 = .ok (.aload_n 0, 1) := by decide +kernel
theorem dX8_counts_129 : decode mX8_counts.2.1 129 = .ok (.getfield 43, 3) := by decide +kernel
theorem dX8_counts_132 : decode mX8_counts.2.1 132 = .ok (.bipush 48, 2) := by decide +kernel
theorem dX8_counts_134 : decode mX8_counts.2.1 134 = .ok (.iload 4, 2) := by decide +kernel
theorem dX8_counts_136 : decode mX8_counts.2.1 136 = .ok (.imul, 1) := by decide +kernel
theorem dX8_counts_137 : decode mX8_counts.2.1 137 = .ok (.iload 5, 2) := by decide +kernel
theorem dX8_counts_139 : decode mX8_counts.2.1 139 = .ok (.iadd, 1) := by decide +kernel
theorem dX8_counts_140 : decode mX8_counts.2.1 140 = .ok (.iaload, 1) := by decide +kernel
theorem dX8_counts_141 : decode mX8_counts.2.1 141 = .ok (.if_icmp .ne 7, 3) := by decide +kernel
theorem dX8_counts_144 : decode mX8_counts.2.1 144 = .ok (.iconst 1, 1) := by decide +kernel
theorem dX8_counts_145 : decode mX8_counts.2.1 145 = .ok (.goto 4, 3) := by decide +kernel
theorem dX8_counts_148 : decode mX8_counts.2.1 148 = .ok (.iconst 0, 1) := by decide +kernel
theorem dX8_counts_149 : decode mX8_counts.2.1 149 = .ok (.iadd, 1) := by decide +kernel
theorem dX8_counts_150 : decode mX8_counts.2.1 150 = .ok (.iastore, 1) := by decide +kernel
theorem dX8_counts_151 : decode mX8_counts.2.1 151 = .ok (.iinc 5 1, 3) := by decide +kernel
theorem dX8_counts_154 : decode mX8_counts.2.1 154 = .ok (.goto (-131), 3) := by decide +kernel
theorem dX8_counts_157 : decode mX8_counts.2.1 157 = .ok (.aload_n 0, 1) := by decide +kernel
theorem dX8_counts_158 : decode mX8_counts.2.1 158 = .ok (.getfield 55, 3) := by decide +kernel
theorem dX8_counts_161 : decode mX8_counts.2.1 161 = .ok (.bipush 6, 2) := by decide +kernel
theorem dX8_counts_163 : decode mX8_counts.2.1 163 = .ok (.iload_n 2, 1) := by decide +kernel
theorem dX8_counts_164 : decode mX8_counts.2.1 164 = .ok (.imul, 1) := by decide +kernel
theorem dX8_counts_165 : decode mX8_counts.2.1 165 = .ok (.iload_n 3, 1) := by decide +kernel
theorem dX8_counts_166 : decode mX8_counts.2.1 166 = .ok (.iadd, 1) := by decide +kernel
theorem dX8_counts_167 : decode mX8_counts.2.1 167 = .ok (.iload_n 1, 1) := by decide +kernel
theorem dX8_counts_168 : decode mX8_counts.2.1 168 = .ok (.iastore, 1) := by decide +kernel
theorem dX8_counts_169 : decode mX8_counts.2.1 169 = .ok (.return_, 1) := by decide +kernel
theorem dX8_call_0 : decode mX8_call.2.1 0 = .ok (.aload_n 0, 1) := by decide +kernel
theorem dX8_call_1 : decode mX8_call.2.1 1 = .ok (.iload_n 2, 1) := by decide +kernel
theorem dX8_call_2 : decode mX8_call.2.1 2 = .ok (.invokevirtual 113, 3) := by decide +kernel
theorem dX8_call_5 : decode mX8_call.2.1 5 = .ok (.ifCond .eq 15, 3) := by decide +kernel
theorem dX8_call_8 : decode mX8_call.2.1 8 = .ok (.aload_n 0, 1) := by decide +kernel
theorem dX8_call_9 : decode mX8_call.2.1 9 = .ok (.iload_n 3, 1) := by decide +kernel
theorem dX8_call_10 : decode mX8_call.2.1 10 = .ok (.invokevirtual 117, 3) := by decide +kernel
theorem dX8_call_13 : decode mX8_call.2.1 13 = .ok (.ifCond .eq 7, 3) := by decide +kernel
theorem dX8_call_16 : decode mX8_call.2.1 16 = .ok (.iconst 1, 1) := by decide +kernel
theorem dX8_call_17 : decode mX8_call.2.1 17 = .ok (.goto 4, 3) := by decide +kernel
theorem dX8_call_20 : decode mX8_call.2.1 20 = .ok (.iconst 0, 1) := by decide +kernel
theorem dX8_call_21 : decode mX8_call.2.1 21 = .ok (.istore 6, 2) := by decide +kernel
theorem dX8_call_23 : decode mX8_call.2.1 23 = .ok (.iload 6, 2) := by decide +kernel
theorem dX8_call_25 : decode mX8_call.2.1 25 = .ok (.ifCond .eq 8, 3) := by decide +kernel
theorem dX8_call_28 : decode mX8_call.2.1 28 = .ok (.iload 5, 2) := by decide +kernel
theorem dX8_call_30 : decode mX8_call.2.1 30 = .ok (.ifCond .ne 9, 3) := by decide +kernel
theorem dX8_call_33 : decode mX8_call.2.1 33 = .ok (.aload_n 0, 1) := by decide +kernel
theorem dX8_call_34 : decode mX8_call.2.1 34 = .ok (.iconst 1, 1) := by decide +kernel
theorem dX8_call_35 : decode mX8_call.2.1 35 = .ok (.invokevirtual 103, 3) := by decide +kernel
theorem dX8_call_38 : decode mX8_call.2.1 38 = .ok (.ireturn, 1) := by decide +kernel
theorem dX8_call_39 : decode mX8_call.2.1 39 = .ok (.aload_n 0, 1) := by decide +kernel
theorem dX8_call_40 : decode mX8_call.2.1 40 = .ok (.getfield 120, 3) := by decide +kernel
theorem dX8_call_43 : decode mX8_call.2.1 43 = .ok (.bipush 100, 2) := by decide +kernel
theorem dX8_call_45 : decode mX8_call.2.1 45 = .ok (.if_icmp .ne 9, 3) := by decide +kernel
theorem dX8_call_48 : decode mX8_call.2.1 48 = .ok (.aload_n 0, 1) := by decide +kernel
theorem dX8_call_49 : decode mX8_call.2.1 49 = .ok (.iconst 2, 1) := by decide +kernel
theorem dX8_call_50 : decode mX8_call.2.1 50 = .ok (.invokevirtual 103, 3) := by decide +kernel
theorem dX8_call_53 : decode mX8_call.2.1 53 = .ok (.ireturn, 1) := by decide +kernel
theorem dX8_call_54 : decode mX8_call.2.1 54 = .ok (.iload 4, 2) := by decide +kernel
theorem dX8_call_56 : decode mX8_call.2.1 56 = .ok (.iconst (-1), 1) := by decide +kernel
theorem dX8_call_57 : decode mX8_call.2.1 57 = .ok (.if_icmp .eq 31, 3) := by decide +kernel
theorem dX8_call_60 : decode mX8_call.2.1 60 = .ok (.aload_n 0, 1) := by decide +kernel
theorem dX8_call_61 : decode mX8_call.2.1 61 = .ok (.getfield 22, 3) := by decide +kernel
theorem dX8_call_64 : decode mX8_call.2.1 64 = .ok (.iload 4, 2) := by decide +kernel
theorem dX8_call_66 : decode mX8_call.2.1 66 = .ok (.iaload, 1) := by decide +kernel
theorem dX8_call_67 : decode mX8_call.2.1 67 = .ok (.iload_n 2, 1) := by decide +kernel
theorem dX8_call_68 : decode mX8_call.2.1 68 = .ok (.if_icmp .eq 20, 3) := by decide +kernel
theorem dX8_call_71 : decode mX8_call.2.1 71 = .ok (.aload_n 0, 1) := by decide +kernel
theorem dX8_call_72 : decode mX8_call.2.1 72 = .ok (.getfield 46, 3) := by decide +kernel
theorem dX8_call_75 : decode mX8_call.2.1 75 = .ok (.sipush 200, 3) := by decide +kernel
theorem dX8_call_78 : decode mX8_call.2.1 78 = .ok (.iload_n 2, 1) := by decide +kernel
theorem dX8_call_79 : decode mX8_call.2.1 79 = .ok (.imul, 1) := by decide +kernel
theorem dX8_call_80 : decode mX8_call.2.1 80 = .ok (.iload 4, 2) := by decide +kernel
theorem dX8_call_82 : decode mX8_call.2.1 82 = .ok (.iadd, 1) := by decide +kernel
theorem dX8_call_83 : decode mX8_call.2.1 83 = .ok (.iaload, 1) := by decide +kernel
theorem dX8_call_84 : decode mX8_call.2.1 84 = .ok (.iconst 3, 1) := by decide +kernel
theorem dX8_call_85 : decode mX8_call.2.1 85 = .ok (.if_icmp .ne 7, 3) := by decide +kernel
theorem dX8_call_88 : decode mX8_call.2.1 88 = .ok (.iconst 1, 1) := by decide +kernel
theorem dX8_call_89 : decode mX8_call.2.1 89 = .ok (.goto 4, 3) := by decide +kernel
theorem dX8_call_92 : decode mX8_call.2.1 92 = .ok (.iconst 0, 1) := by decide +kernel
theorem dX8_call_93 : decode mX8_call.2.1 93 = .ok (.istore 7, 2) := by decide +kernel
theorem dX8_call_95 : decode mX8_call.2.1 95 = .ok (.aload_n 0, 1) := by decide +kernel
theorem dX8_call_96 : decode mX8_call.2.1 96 = .ok (.iload_n 2, 1) := by decide +kernel
theorem dX8_call_97 : decode mX8_call.2.1 97 = .ok (.iload_n 3, 1) := by decide +kernel
theorem dX8_call_98 : decode mX8_call.2.1 98 = .ok (.invokevirtual 92, 3) := by decide +kernel
theorem dX8_call_101 : decode mX8_call.2.1 101 = .ok (.ifCond .eq 8, 3) := by decide +kernel
theorem dX8_call_104 : decode mX8_call.2.1 104 = .ok (.iload 7, 2) := by decide +kernel
theorem dX8_call_106 : decode mX8_call.2.1 106 = .ok (.ifCond .ne 9, 3) := by decide +kernel
theorem dX8_call_109 : decode mX8_call.2.1 109 = .ok (.aload_n 0, 1) := by decide +kernel
theorem dX8_call_110 : decode mX8_call.2.1 110 = .ok (.iconst 3, 1) := by decide +kernel
theorem dX8_call_111 : decode mX8_call.2.1 111 = .ok (.invokevirtual 103, 3) := by decide +kernel
theorem dX8_call_114 : decode mX8_call.2.1 114 = .ok (.ireturn, 1) := by decide +kernel
theorem dX8_call_115 : decode mX8_call.2.1 115 = .ok (.aload_n 0, 1) := by decide +kernel
theorem dX8_call_116 : decode mX8_call.2.1 116 = .ok (.dup, 1) := by decide +kernel
theorem dX8_call_117 : decode mX8_call.2.1 117 = .ok (.getfield 120, 3) := by decide +kernel
theorem dX8_call_120 : decode mX8_call.2.1 120 = .ok (.iconst 1, 1) := by decide +kernel
theorem dX8_call_121 : decode mX8_call.2.1 121 = .ok (.iadd, 1) := by decide +kernel
theorem dX8_call_122 : decode mX8_call.2.1 122 = .ok (.putfield 120, 3) := by decide +kernel
theorem dX8_call_125 : decode mX8_call.2.1 125 = .ok (.aload_n 0, 1) := by decide +kernel
theorem dX8_call_126 : decode mX8_call.2.1 126 = .ok (.iload_n 1, 1) := by decide +kernel
theorem dX8_call_127 : decode mX8_call.2.1 127 = .ok (.iload_n 2, 1) := by decide +kernel
theorem dX8_call_128 : decode mX8_call.2.1 128 = .ok (.iload_n 3, 1) := by decide +kernel
theorem dX8_call_129 : decode mX8_call.2.1 129 = .ok (.iload 4, 2) := by decide +kernel
theorem dX8_call_131 : decode mX8_call.2.1 131 = .ok (.invokevirtual 123, 3) := by decide +kernel
theorem dX8_call_134 : decode mX8_call.2.1 134 = .ok (.istore 8, 2) := by decide +kernel
theorem dX8_call_136 : decode mX8_call.2.1 136 = .ok (.aload_n 0, 1) := by decide +kernel
theorem dX8_call_137 : decode mX8_call.2.1 137 = .ok (.iload 8, 2) := by decide +kernel
theorem dX8_call_139 : decode mX8_call.2.1 139 = .ok (.iload_n 2, 1) := by decide +kernel
theorem dX8_call_140 : decode mX8_call.2.1 140 = .ok (.iload_n 3, 1) := by decide +kernel
theorem dX8_call_141 : decode mX8_call.2.1 141 = .ok (.invokevirtual 127, 3) := by decide +kernel
theorem dX8_call_144 : decode mX8_call.2.1 144 = .ok (.aload_n 0, 1) := by decide +kernel
theorem dX8_call_145 : decode mX8_call.2.1 145 = .ok (.iload 8, 2) := by decide +kernel
theorem dX8_call_147 : decode mX8_call.2.1 147 = .ok (.invokevirtual 131, 3) := by decide +kernel
theorem dX8_call_150 : decode mX8_call.2.1 150 = .ok (.aload_n 0, 1) := by decide +kernel
theorem dX8_call_151 : decode mX8_call.2.1 151 = .ok (.iload_n 2, 1) := by decide +kernel
theorem dX8_call_152 : decode mX8_call.2.1 152 = .ok (.invokevirtual 135, 3) := by decide +kernel
theorem dX8_call_155 : decode mX8_call.2.1 155 = .ok (.pop, 1) := by decide +kernel
theorem dX8_call_156 : decode mX8_call.2.1 156 = .ok (.aload_n 0, 1) := by decide +kernel
theorem dX8_call_157 : decode mX8_call.2.1 157 = .ok (.iload 8, 2) := by decide +kernel
theorem dX8_call_159 : decode mX8_call.2.1 159 = .ok (.invokevirtual 106, 3) := by decide +kernel
theorem dX8_call_162 : decode mX8_call.2.1 162 = .ok (.ireturn, 1) := by decide +kernel
theorem dX8_write_0 : decode mX8_write.2.1 0 = .ok (.aload_n 0, 1) := by decide +kernel
theorem dX8_write_1 : decode mX8_write.2.1 1 = .ok (.iload_n 3, 1) := by decide +kernel
theorem dX8_write_2 : decode mX8_write.2.1 2 = .ok (.iload_n 1, 1) := by decide +kernel
theorem dX8_write_3 : decode mX8_write.2.1 3 = .ok (.iload_n 2, 1) := by decide +kernel
theorem dX8_write_4 : decode mX8_write.2.1 4 = .ok (.iconst (-1), 1) := by decide +kernel
theorem dX8_write_5 : decode mX8_write.2.1 5 = .ok (.iload_n 3, 1) := by decide +kernel
theorem dX8_write_6 : decode mX8_write.2.1 6 = .ok (.ifCond .eq 13, 3) := by decide +kernel
theorem dX8_write_9 : decode mX8_write.2.1 9 = .ok (.iload_n 3, 1) := by decide +kernel
theorem dX8_write_10 : decode mX8_write.2.1 10 = .ok (.iconst 4, 1) := by decide +kernel
theorem dX8_write_11 : decode mX8_write.2.1 11 = .ok (.if_icmp .eq 8, 3) := by decide +kernel
theorem dX8_write_14 : decode mX8_write.2.1 14 = .ok (.iload_n 3, 1) := by decide +kernel
theorem dX8_write_15 : decode mX8_write.2.1 15 = .ok (.iconst 5, 1) := by decide +kernel
theorem dX8_write_16 : decode mX8_write.2.1 16 = .ok (.if_icmp .ne 7, 3) := by decide +kernel
theorem dX8_write_19 : decode mX8_write.2.1 19 = .ok (.iconst 1, 1) := by decide +kernel
theorem dX8_write_20 : decode mX8_write.2.1 20 = .ok (.goto 4, 3) := by decide +kernel
theorem dX8_write_23 : decode mX8_write.2.1 23 = .ok (.iconst 0, 1) := by decide +kernel
theorem dX8_write_24 : decode mX8_write.2.1 24 = .ok (.invokevirtual 138, 3) := by decide +kernel
theorem dX8_write_27 : decode mX8_write.2.1 27 = .ok (.ireturn, 1) := by decide +kernel
theorem dX8_reply_0 : decode mX8_reply.2.1 0 = .ok (.aload_n 0, 1) := by decide +kernel
theorem dX8_reply_1 : decode mX8_reply.2.1 1 = .ok (.iconst 1, 1) := by decide +kernel
theorem dX8_reply_2 : decode mX8_reply.2.1 2 = .ok (.iload_n 1, 1) := by decide +kernel
theorem dX8_reply_3 : decode mX8_reply.2.1 3 = .ok (.iload_n 2, 1) := by decide +kernel
theorem dX8_reply_4 : decode mX8_reply.2.1 4 = .ok (.iload_n 3, 1) := by decide +kernel
theorem dX8_reply_5 : decode mX8_reply.2.1 5 = .ok (.aload_n 0, 1) := by decide +kernel
theorem dX8_reply_6 : decode mX8_reply.2.1 6 = .ok (.iload_n 3, 1) := by decide +kernel
theorem dX8_reply_7 : decode mX8_reply.2.1 7 = .ok (.invokevirtual 142, 3) := by decide +kernel
theorem dX8_reply_10 : decode mX8_reply.2.1 10 = .ok (.invokevirtual 138, 3) := by decide +kernel
theorem dX8_reply_13 : decode mX8_reply.2.1 13 = .ok (.ireturn, 1) := by decide +kernel
theorem dX8_seal_0 : decode mX8_seal.2.1 0 = .ok (.aload_n 0, 1) := by decide +kernel
theorem dX8_seal_1 : decode mX8_seal.2.1 1 = .ok (.iconst 2, 1) := by decide +kernel
theorem dX8_seal_2 : decode mX8_seal.2.1 2 = .ok (.iload_n 1, 1) := by decide +kernel
theorem dX8_seal_3 : decode mX8_seal.2.1 3 = .ok (.iload_n 2, 1) := by decide +kernel
theorem dX8_seal_4 : decode mX8_seal.2.1 4 = .ok (.iload_n 3, 1) := by decide +kernel
theorem dX8_seal_5 : decode mX8_seal.2.1 5 = .ok (.iload_n 3, 1) := by decide +kernel
theorem dX8_seal_6 : decode mX8_seal.2.1 6 = .ok (.iconst (-1), 1) := by decide +kernel
theorem dX8_seal_7 : decode mX8_seal.2.1 7 = .ok (.if_icmp .eq 11, 3) := by decide +kernel
theorem dX8_seal_10 : decode mX8_seal.2.1 10 = .ok (.aload_n 0, 1) := by decide +kernel
theorem dX8_seal_11 : decode mX8_seal.2.1 11 = .ok (.iload_n 3, 1) := by decide +kernel
theorem dX8_seal_12 : decode mX8_seal.2.1 12 = .ok (.invokevirtual 142, 3) := by decide +kernel
theorem dX8_seal_15 : decode mX8_seal.2.1 15 = .ok (.ifCond .eq 7, 3) := by decide +kernel
theorem dX8_seal_18 : decode mX8_seal.2.1 18 = .ok (.iconst 1, 1) := by decide +kernel
theorem dX8_seal_19 : decode mX8_seal.2.1 19 = .ok (.goto 4, 3) := by decide +kernel
theorem dX8_seal_22 : decode mX8_seal.2.1 22 = .ok (.iconst 0, 1) := by decide +kernel
theorem dX8_seal_23 : decode mX8_seal.2.1 23 = .ok (.invokevirtual 138, 3) := by decide +kernel
theorem dX8_seal_26 : decode mX8_seal.2.1 26 = .ok (.ireturn, 1) := by decide +kernel
theorem dX8_lacks_0 : decode mX8_lacks.2.1 0 = .ok (.iload_n 3, 1) := by decide +kernel
theorem dX8_lacks_1 : decode mX8_lacks.2.1 1 = .ok (.aload_n 0, 1) := by decide +kernel
theorem dX8_lacks_2 : decode mX8_lacks.2.1 2 = .ok (.getfield 19, 3) := by decide +kernel
theorem dX8_lacks_5 : decode mX8_lacks.2.1 5 = .ok (.iload_n 2, 1) := by decide +kernel
theorem dX8_lacks_6 : decode mX8_lacks.2.1 6 = .ok (.iaload, 1) := by decide +kernel
theorem dX8_lacks_7 : decode mX8_lacks.2.1 7 = .ok (.if_icmp .ne 18, 3) := by decide +kernel
theorem dX8_lacks_10 : decode mX8_lacks.2.1 10 = .ok (.iload 4, 2) := by decide +kernel
theorem dX8_lacks_12 : decode mX8_lacks.2.1 12 = .ok (.aload_n 0, 1) := by decide +kernel
theorem dX8_lacks_13 : decode mX8_lacks.2.1 13 = .ok (.getfield 22, 3) := by decide +kernel
theorem dX8_lacks_16 : decode mX8_lacks.2.1 16 = .ok (.iload_n 2, 1) := by decide +kernel
theorem dX8_lacks_17 : decode mX8_lacks.2.1 17 = .ok (.iaload, 1) := by decide +kernel
theorem dX8_lacks_18 : decode mX8_lacks.2.1 18 = .ok (.if_icmp .ne 7, 3) := by decide +kernel
theorem dX8_lacks_21 : decode mX8_lacks.2.1 21 = .ok (.iconst 1, 1) := by decide +kernel
theorem dX8_lacks_22 : decode mX8_lacks.2.1 22 = .ok (.goto 4, 3) := by decide +kernel
theorem dX8_lacks_25 : decode mX8_lacks.2.1 25 = .ok (.iconst 0, 1) := by decide +kernel
theorem dX8_lacks_26 : decode mX8_lacks.2.1 26 = .ok (.istore 5, 2) := by decide +kernel
theorem dX8_lacks_28 : decode mX8_lacks.2.1 28 = .ok (.iload 5, 2) := by decide +kernel
theorem dX8_lacks_30 : decode mX8_lacks.2.1 30 = .ok (.ifCond .eq 14, 3) := by decide +kernel
theorem dX8_lacks_33 : decode mX8_lacks.2.1 33 = .ok (.aload_n 0, 1) := by decide +kernel
theorem dX8_lacks_34 : decode mX8_lacks.2.1 34 = .ok (.getfield 25, 3) := by decide +kernel
theorem dX8_lacks_37 : decode mX8_lacks.2.1 37 = .ok (.iload_n 2, 1) := by decide +kernel
theorem dX8_lacks_38 : decode mX8_lacks.2.1 38 = .ok (.iaload, 1) := by decide +kernel
theorem dX8_lacks_39 : decode mX8_lacks.2.1 39 = .ok (.iconst 1, 1) := by decide +kernel
theorem dX8_lacks_40 : decode mX8_lacks.2.1 40 = .ok (.isub, 1) := by decide +kernel
theorem dX8_lacks_41 : decode mX8_lacks.2.1 41 = .ok (.goto 20, 3) := by decide +kernel
theorem dX8_lacks_44 : decode mX8_lacks.2.1 44 = .ok (.aload_n 0, 1) := by decide +kernel
theorem dX8_lacks_45 : decode mX8_lacks.2.1 45 = .ok (.getfield 43, 3) := by decide +kernel
theorem dX8_lacks_48 : decode mX8_lacks.2.1 48 = .ok (.bipush 48, 2) := by decide +kernel
theorem dX8_lacks_50 : decode mX8_lacks.2.1 50 = .ok (.iload_n 2, 1) := by decide +kernel
theorem dX8_lacks_51 : decode mX8_lacks.2.1 51 = .ok (.imul, 1) := by decide +kernel
theorem dX8_lacks_52 : decode mX8_lacks.2.1 52 = .ok (.bipush 8, 2) := by decide +kernel
theorem dX8_lacks_54 : decode mX8_lacks.2.1 54 = .ok (.iload_n 3, 1) := by decide +kernel
theorem dX8_lacks_55 : decode mX8_lacks.2.1 55 = .ok (.imul, 1) := by decide +kernel
theorem dX8_lacks_56 : decode mX8_lacks.2.1 56 = .ok (.iadd, 1) := by decide +kernel
theorem dX8_lacks_57 : decode mX8_lacks.2.1 57 = .ok (.iload 4, 2) := by decide +kernel
theorem dX8_lacks_59 : decode mX8_lacks.2.1 59 = .ok (.iadd, 1) := by decide +kernel
theorem dX8_lacks_60 : decode mX8_lacks.2.1 60 = .ok (.iaload, 1) := by decide +kernel
theorem dX8_lacks_61 : decode mX8_lacks.2.1 61 = .ok (.aload_n 0, 1) := by decide +kernel
theorem dX8_lacks_62 : decode mX8_lacks.2.1 62 = .ok (.getfield 49, 3) := by decide +kernel
theorem dX8_lacks_65 : decode mX8_lacks.2.1 65 = .ok (.bipush 48, 2) := by decide +kernel
theorem dX8_lacks_67 : decode mX8_lacks.2.1 67 = .ok (.iload_n 1, 1) := by decide +kernel
theorem dX8_lacks_68 : decode mX8_lacks.2.1 68 = .ok (.imul, 1) := by decide +kernel
theorem dX8_lacks_69 : decode mX8_lacks.2.1 69 = .ok (.bipush 8, 2) := by decide +kernel
theorem dX8_lacks_71 : decode mX8_lacks.2.1 71 = .ok (.iload_n 3, 1) := by decide +kernel
theorem dX8_lacks_72 : decode mX8_lacks.2.1 72 = .ok (.imul, 1) := by decide +kernel
theorem dX8_lacks_73 : decode mX8_lacks.2.1 73 = .ok (.iadd, 1) := by decide +kernel
theorem dX8_lacks_74 : decode mX8_lacks.2.1 74 = .ok (.iload 4, 2) := by decide +kernel
theorem dX8_lacks_76 : decode mX8_lacks.2.1 76 = .ok (.iadd, 1) := by decide +kernel
theorem dX8_lacks_77 : decode mX8_lacks.2.1 77 = .ok (.iaload, 1) := by decide +kernel
theorem dX8_lacks_78 : decode mX8_lacks.2.1 78 = .ok (.isub, 1) := by decide +kernel
theorem dX8_lacks_79 : decode mX8_lacks.2.1 79 = .ok (.ireturn, 1) := by decide +kernel
theorem dX8_lacking_0 : decode mX8_lacking.2.1 0 = .ok (.iconst 0, 1) := by decide +kernel
theorem dX8_lacking_1 : decode mX8_lacking.2.1 1 = .ok (.istore_n 3, 1) := by decide +kernel
theorem dX8_lacking_2 : decode mX8_lacking.2.1 2 = .ok (.iload_n 3, 1) := by decide +kernel
theorem dX8_lacking_3 : decode mX8_lacking.2.1 3 = .ok (.bipush 8, 2) := by decide +kernel
theorem dX8_lacking_5 : decode mX8_lacking.2.1 5 = .ok (.aload_n 0, 1) := by decide +kernel
theorem dX8_lacking_6 : decode mX8_lacking.2.1 6 = .ok (.getfield 86, 3) := by decide +kernel
theorem dX8_lacking_9 : decode mX8_lacking.2.1 9 = .ok (.imul, 1) := by decide +kernel
theorem dX8_lacking_10 : decode mX8_lacking.2.1 10 = .ok (.if_icmp .ge 82, 3) := by decide +kernel
theorem dX8_lacking_13 : decode mX8_lacking.2.1 13 = .ok (.iload_n 3, 1) := by decide +kernel
theorem dX8_lacking_14 : decode mX8_lacking.2.1 14 = .ok (.bipush 8, 2) := by decide +kernel
theorem dX8_lacking_16 : decode mX8_lacking.2.1 16 = .ok (.idiv, 1) := by decide +kernel
theorem dX8_lacking_17 : decode mX8_lacking.2.1 17 = .ok (.istore 4, 2) := by decide +kernel
theorem dX8_lacking_19 : decode mX8_lacking.2.1 19 = .ok (.aload_n 0, 1) := by decide +kernel
theorem dX8_lacking_20 : decode mX8_lacking.2.1 20 = .ok (.getfield 40, 3) := by decide +kernel
theorem dX8_lacking_23 : decode mX8_lacking.2.1 23 = .ok (.iload_n 2, 1) := by decide +kernel
theorem dX8_lacking_24 : decode mX8_lacking.2.1 24 = .ok (.iaload, 1) := by decide +kernel
theorem dX8_lacking_25 : decode mX8_lacking.2.1 25 = .ok (.iload 4, 2) := by decide +kernel
theorem dX8_lacking_27 : decode mX8_lacking.2.1 27 = .ok (.ishr, 1) := by decide +kernel
theorem dX8_lacking_28 : decode mX8_lacking.2.1 28 = .ok (.iconst 1, 1) := by decide +kernel
theorem dX8_lacking_29 : decode mX8_lacking.2.1 29 = .ok (.iand, 1) := by decide +kernel
theorem dX8_lacking_30 : decode mX8_lacking.2.1 30 = .ok (.iconst 1, 1) := by decide +kernel
theorem dX8_lacking_31 : decode mX8_lacking.2.1 31 = .ok (.if_icmp .ne 30, 3) := by decide +kernel
theorem dX8_lacking_34 : decode mX8_lacking.2.1 34 = .ok (.aload_n 0, 1) := by decide +kernel
theorem dX8_lacking_35 : decode mX8_lacking.2.1 35 = .ok (.iload_n 1, 1) := by decide +kernel
theorem dX8_lacking_36 : decode mX8_lacking.2.1 36 = .ok (.iload 4, 2) := by decide +kernel
theorem dX8_lacking_38 : decode mX8_lacking.2.1 38 = .ok (.invokevirtual 92, 3) := by decide +kernel
theorem dX8_lacking_41 : decode mX8_lacking.2.1 41 = .ok (.ifCond .eq 20, 3) := by decide +kernel
theorem dX8_lacking_44 : decode mX8_lacking.2.1 44 = .ok (.aload_n 0, 1) := by decide +kernel
theorem dX8_lacking_45 : decode mX8_lacking.2.1 45 = .ok (.iload_n 3, 1) := by decide +kernel
theorem dX8_lacking_46 : decode mX8_lacking.2.1 46 = .ok (.bipush 8, 2) := by decide +kernel
theorem dX8_lacking_48 : decode mX8_lacking.2.1 48 = .ok (.irem, 1) := by decide +kernel
theorem dX8_lacking_49 : decode mX8_lacking.2.1 49 = .ok (.iload 4, 2) := by decide +kernel
theorem dX8_lacking_51 : decode mX8_lacking.2.1 51 = .ok (.invokevirtual 92, 3) := by decide +kernel
theorem dX8_lacking_54 : decode mX8_lacking.2.1 54 = .ok (.ifCond .eq 7, 3) := by decide +kernel
theorem dX8_lacking_57 : decode mX8_lacking.2.1 57 = .ok (.iconst 1, 1) := by decide +kernel
theorem dX8_lacking_58 : decode mX8_lacking.2.1 58 = .ok (.goto 4, 3) := by decide +kernel
theorem dX8_lacking_61 : decode mX8_lacking.2.1 61 = .ok (.iconst 0, 1) := by decide +kernel
theorem dX8_lacking_62 : decode mX8_lacking.2.1 62 = .ok (.istore 5, 2) := by decide +kernel
theorem dX8_lacking_64 : decode mX8_lacking.2.1 64 = .ok (.iload 5, 2) := by decide +kernel
theorem dX8_lacking_66 : decode mX8_lacking.2.1 66 = .ok (.ifCond .eq 20, 3) := by decide +kernel
theorem dX8_lacking_69 : decode mX8_lacking.2.1 69 = .ok (.aload_n 0, 1) := by decide +kernel
theorem dX8_lacking_70 : decode mX8_lacking.2.1 70 = .ok (.iload_n 1, 1) := by decide +kernel
theorem dX8_lacking_71 : decode mX8_lacking.2.1 71 = .ok (.iload_n 2, 1) := by decide +kernel
theorem dX8_lacking_72 : decode mX8_lacking.2.1 72 = .ok (.iload 4, 2) := by decide +kernel
theorem dX8_lacking_74 : decode mX8_lacking.2.1 74 = .ok (.iload_n 3, 1) := by decide +kernel
theorem dX8_lacking_75 : decode mX8_lacking.2.1 75 = .ok (.bipush 8, 2) := by decide +kernel
theorem dX8_lacking_77 : decode mX8_lacking.2.1 77 = .ok (.irem, 1) := by decide +kernel
theorem dX8_lacking_78 : decode mX8_lacking.2.1 78 = .ok (.invokevirtual 145, 3) := by decide +kernel
theorem dX8_lacking_81 : decode mX8_lacking.2.1 81 = .ok (.ifCond .le 5, 3) := by decide +kernel
theorem dX8_lacking_84 : decode mX8_lacking.2.1 84 = .ok (.iload_n 3, 1) := by decide +kernel
theorem dX8_lacking_85 : decode mX8_lacking.2.1 85 = .ok (.ireturn, 1) := by decide +kernel
theorem dX8_lacking_86 : decode mX8_lacking.2.1 86 = .ok (.iinc 3 1, 3) := by decide +kernel
theorem dX8_lacking_89 : decode mX8_lacking.2.1 89 = .ok (.goto (-87), 3) := by decide +kernel
theorem dX8_lacking_92 : decode mX8_lacking.2.1 92 = .ok (.iconst (-1), 1) := by decide +kernel
theorem dX8_lacking_93 : decode mX8_lacking.2.1 93 = .ok (.ireturn, 1) := by decide +kernel
theorem dX8_hasOrder_0 : decode mX8_hasOrder.2.1 0 = .ok (.aload_n 0, 1) := by decide +kernel
theorem dX8_hasOrder_1 : decode mX8_hasOrder.2.1 1 = .ok (.getfield 22, 3) := by decide +kernel
theorem dX8_hasOrder_4 : decode mX8_hasOrder.2.1 4 = .ok (.iload_n 2, 1) := by decide +kernel
theorem dX8_hasOrder_5 : decode mX8_hasOrder.2.1 5 = .ok (.iaload, 1) := by decide +kernel
theorem dX8_hasOrder_6 : decode mX8_hasOrder.2.1 6 = .ok (.aload_n 0, 1) := by decide +kernel
theorem dX8_hasOrder_7 : decode mX8_hasOrder.2.1 7 = .ok (.aload_n 0, 1) := by decide +kernel
theorem dX8_hasOrder_8 : decode mX8_hasOrder.2.1 8 = .ok (.getfield 19, 3) := by decide +kernel
theorem dX8_hasOrder_11 : decode mX8_hasOrder.2.1 11 = .ok (.iload_n 2, 1) := by decide +kernel
theorem dX8_hasOrder_12 : decode mX8_hasOrder.2.1 12 = .ok (.iaload, 1) := by decide +kernel
theorem dX8_hasOrder_13 : decode mX8_hasOrder.2.1 13 = .ok (.invokevirtual 148, 3) := by decide +kernel
theorem dX8_hasOrder_16 : decode mX8_hasOrder.2.1 16 = .ok (.if_icmp .ne 17, 3) := by decide +kernel
theorem dX8_hasOrder_19 : decode mX8_hasOrder.2.1 19 = .ok (.aload_n 0, 1) := by decide +kernel
theorem dX8_hasOrder_20 : decode mX8_hasOrder.2.1 20 = .ok (.getfield 31, 3) := by decide +kernel
theorem dX8_hasOrder_23 : decode mX8_hasOrder.2.1 23 = .ok (.iload_n 2, 1) := by decide +kernel
theorem dX8_hasOrder_24 : decode mX8_hasOrder.2.1 24 = .ok (.iaload, 1) := by decide +kernel
theorem dX8_hasOrder_25 : decode mX8_hasOrder.2.1 25 = .ok (.iconst (-1), 1) := by decide +kernel
theorem dX8_hasOrder_26 : decode mX8_hasOrder.2.1 26 = .ok (.if_icmp .eq 7, 3) := by decide +kernel
theorem dX8_hasOrder_29 : decode mX8_hasOrder.2.1 29 = .ok (.iconst 1, 1) := by decide +kernel
theorem dX8_hasOrder_30 : decode mX8_hasOrder.2.1 30 = .ok (.goto 4, 3) := by decide +kernel
theorem dX8_hasOrder_33 : decode mX8_hasOrder.2.1 33 = .ok (.iconst 0, 1) := by decide +kernel
theorem dX8_hasOrder_34 : decode mX8_hasOrder.2.1 34 = .ok (.istore_n 3, 1) := by decide +kernel
theorem dX8_hasOrder_35 : decode mX8_hasOrder.2.1 35 = .ok (.iload_n 3, 1) := by decide +kernel
theorem dX8_hasOrder_36 : decode mX8_hasOrder.2.1 36 = .ok (.ifCond .ne 34, 3) := by decide +kernel
theorem dX8_hasOrder_39 : decode mX8_hasOrder.2.1 39 = .ok (.aload_n 0, 1) := by decide +kernel
theorem dX8_hasOrder_40 : decode mX8_hasOrder.2.1 40 = .ok (.getfield 34, 3) := by decide +kernel
theorem dX8_hasOrder_43 : decode mX8_hasOrder.2.1 43 = .ok (.iload_n 2, 1) := by decide +kernel
theorem dX8_hasOrder_44 : decode mX8_hasOrder.2.1 44 = .ok (.iaload, 1) := by decide +kernel
theorem dX8_hasOrder_45 : decode mX8_hasOrder.2.1 45 = .ok (.iconst (-1), 1) := by decide +kernel
theorem dX8_hasOrder_46 : decode mX8_hasOrder.2.1 46 = .ok (.if_icmp .eq 28, 3) := by decide +kernel
theorem dX8_hasOrder_49 : decode mX8_hasOrder.2.1 49 = .ok (.aload_n 0, 1) := by decide +kernel
theorem dX8_hasOrder_50 : decode mX8_hasOrder.2.1 50 = .ok (.getfield 46, 3) := by decide +kernel
theorem dX8_hasOrder_53 : decode mX8_hasOrder.2.1 53 = .ok (.sipush 200, 3) := by decide +kernel
theorem dX8_hasOrder_56 : decode mX8_hasOrder.2.1 56 = .ok (.iload_n 1, 1) := by decide +kernel
theorem dX8_hasOrder_57 : decode mX8_hasOrder.2.1 57 = .ok (.imul, 1) := by decide +kernel
theorem dX8_hasOrder_58 : decode mX8_hasOrder.2.1 58 = .ok (.aload_n 0, 1) := by decide +kernel
theorem dX8_hasOrder_59 : decode mX8_hasOrder.2.1 59 = .ok (.getfield 34, 3) := by decide +kernel
theorem dX8_hasOrder_62 : decode mX8_hasOrder.2.1 62 = .ok (.iload_n 2, 1) := by decide +kernel
theorem dX8_hasOrder_63 : decode mX8_hasOrder.2.1 63 = .ok (.iaload, 1) := by decide +kernel
theorem dX8_hasOrder_64 : decode mX8_hasOrder.2.1 64 = .ok (.iadd, 1) := by decide +kernel
theorem dX8_hasOrder_65 : decode mX8_hasOrder.2.1 65 = .ok (.iaload, 1) := by decide +kernel
theorem dX8_hasOrder_66 : decode mX8_hasOrder.2.1 66 = .ok (.iconst 3, 1) := by decide +kernel
theorem dX8_hasOrder_67 : decode mX8_hasOrder.2.1 67 = .ok (.if_icmp .ne 7, 3) := by decide +kernel
theorem dX8_hasOrder_70 : decode mX8_hasOrder.2.1 70 = .ok (.iconst 1, 1) := by decide +kernel
theorem dX8_hasOrder_71 : decode mX8_hasOrder.2.1 71 = .ok (.goto 4, 3) := by decide +kernel
theorem dX8_hasOrder_74 : decode mX8_hasOrder.2.1 74 = .ok (.iconst 0, 1) := by decide +kernel
theorem dX8_hasOrder_75 : decode mX8_hasOrder.2.1 75 = .ok (.ireturn, 1) := by decide +kernel
theorem dX8_hasLower_0 : decode mX8_hasLower.2.1 0 = .ok (.iconst 1, 1) := by decide +kernel
theorem dX8_hasLower_1 : decode mX8_hasLower.2.1 1 = .ok (.istore_n 3, 1) := by decide +kernel
theorem dX8_hasLower_2 : decode mX8_hasLower.2.1 2 = .ok (.iconst 0, 1) := by decide +kernel
theorem dX8_hasLower_3 : decode mX8_hasLower.2.1 3 = .ok (.istore 4, 2) := by decide +kernel
theorem dX8_hasLower_5 : decode mX8_hasLower.2.1 5 = .ok (.iload 4, 2) := by decide +kernel
theorem dX8_hasLower_7 : decode mX8_hasLower.2.1 7 = .ok (.aload_n 0, 1) := by decide +kernel
theorem dX8_hasLower_8 : decode mX8_hasLower.2.1 8 = .ok (.getfield 89, 3) := by decide +kernel
theorem dX8_hasLower_11 : decode mX8_hasLower.2.1 11 = .ok (.if_icmp .ge 102, 3) := by decide +kernel
theorem dX8_hasLower_14 : decode mX8_hasLower.2.1 14 = .ok (.aload_n 0, 1) := by decide +kernel
theorem dX8_hasLower_15 : decode mX8_hasLower.2.1 15 = .ok (.getfield 16, 3) := by decide +kernel
theorem dX8_hasLower_18 : decode mX8_hasLower.2.1 18 = .ok (.iload 4, 2) := by decide +kernel
theorem dX8_hasLower_20 : decode mX8_hasLower.2.1 20 = .ok (.iaload, 1) := by decide +kernel
theorem dX8_hasLower_21 : decode mX8_hasLower.2.1 21 = .ok (.iconst 2, 1) := by decide +kernel
theorem dX8_hasLower_22 : decode mX8_hasLower.2.1 22 = .ok (.if_icmp .ne 50, 3) := by decide +kernel
theorem dX8_hasLower_25 : decode mX8_hasLower.2.1 25 = .ok (.aload_n 0, 1) := by decide +kernel
theorem dX8_hasLower_26 : decode mX8_hasLower.2.1 26 = .ok (.getfield 19, 3) := by decide +kernel
theorem dX8_hasLower_29 : decode mX8_hasLower.2.1 29 = .ok (.iload 4, 2) := by decide +kernel
theorem dX8_hasLower_31 : decode mX8_hasLower.2.1 31 = .ok (.iaload, 1) := by decide +kernel
theorem dX8_hasLower_32 : decode mX8_hasLower.2.1 32 = .ok (.aload_n 0, 1) := by decide +kernel
theorem dX8_hasLower_33 : decode mX8_hasLower.2.1 33 = .ok (.getfield 19, 3) := by decide +kernel
theorem dX8_hasLower_36 : decode mX8_hasLower.2.1 36 = .ok (.iload_n 2, 1) := by decide +kernel
theorem dX8_hasLower_37 : decode mX8_hasLower.2.1 37 = .ok (.iaload, 1) := by decide +kernel
theorem dX8_hasLower_38 : decode mX8_hasLower.2.1 38 = .ok (.if_icmp .ne 34, 3) := by decide +kernel
theorem dX8_hasLower_41 : decode mX8_hasLower.2.1 41 = .ok (.aload_n 0, 1) := by decide +kernel
theorem dX8_hasLower_42 : decode mX8_hasLower.2.1 42 = .ok (.getfield 31, 3) := by decide +kernel
theorem dX8_hasLower_45 : decode mX8_hasLower.2.1 45 = .ok (.iload 4, 2) := by decide +kernel
theorem dX8_hasLower_47 : decode mX8_hasLower.2.1 47 = .ok (.iaload, 1) := by decide +kernel
theorem dX8_hasLower_48 : decode mX8_hasLower.2.1 48 = .ok (.iconst (-1), 1) := by decide +kernel
theorem dX8_hasLower_49 : decode mX8_hasLower.2.1 49 = .ok (.if_icmp .eq 23, 3) := by decide +kernel
theorem dX8_hasLower_52 : decode mX8_hasLower.2.1 52 = .ok (.aload_n 0, 1) := by decide +kernel
theorem dX8_hasLower_53 : decode mX8_hasLower.2.1 53 = .ok (.getfield 31, 3) := by decide +kernel
theorem dX8_hasLower_56 : decode mX8_hasLower.2.1 56 = .ok (.iload 4, 2) := by decide +kernel
theorem dX8_hasLower_58 : decode mX8_hasLower.2.1 58 = .ok (.iaload, 1) := by decide +kernel
theorem dX8_hasLower_59 : decode mX8_hasLower.2.1 59 = .ok (.aload_n 0, 1) := by decide +kernel
theorem dX8_hasLower_60 : decode mX8_hasLower.2.1 60 = .ok (.getfield 31, 3) := by decide +kernel
theorem dX8_hasLower_63 : decode mX8_hasLower.2.1 63 = .ok (.iload_n 2, 1) := by decide +kernel
theorem dX8_hasLower_64 : decode mX8_hasLower.2.1 64 = .ok (.iaload, 1) := by decide +kernel
theorem dX8_hasLower_65 : decode mX8_hasLower.2.1 65 = .ok (.if_icmp .ge 7, 3) := by decide +kernel
theorem dX8_hasLower_68 : decode mX8_hasLower.2.1 68 = .ok (.iconst 1, 1) := by decide +kernel
theorem dX8_hasLower_69 : decode mX8_hasLower.2.1 69 = .ok (.goto 4, 3) := by decide +kernel
theorem dX8_hasLower_72 : decode mX8_hasLower.2.1 72 = .ok (.iconst 0, 1) := by decide +kernel
theorem dX8_hasLower_73 : decode mX8_hasLower.2.1 73 = .ok (.istore 5, 2) := by decide +kernel
theorem dX8_hasLower_75 : decode mX8_hasLower.2.1 75 = .ok (.iload_n 3, 1) := by decide +kernel
theorem dX8_hasLower_76 : decode mX8_hasLower.2.1 76 = .ok (.ifCond .eq 29, 3) := by decide +kernel
theorem dX8_hasLower_79 : decode mX8_hasLower.2.1 79 = .ok (.iload 5, 2) := by decide +kernel
theorem dX8_hasLower_81 : decode mX8_hasLower.2.1 81 = .ok (.ifCond .eq 20, 3) := by decide +kernel
theorem dX8_hasLower_84 : decode mX8_hasLower.2.1 84 = .ok (.aload_n 0, 1) := by decide +kernel
theorem dX8_hasLower_85 : decode mX8_hasLower.2.1 85 = .ok (.getfield 46, 3) := by decide +kernel
theorem dX8_hasLower_88 : decode mX8_hasLower.2.1 88 = .ok (.sipush 200, 3) := by decide +kernel
theorem dX8_hasLower_91 : decode mX8_hasLower.2.1 91 = .ok (.iload_n 1, 1) := by decide +kernel
theorem dX8_hasLower_92 : decode mX8_hasLower.2.1 92 = .ok (.imul, 1) := by decide +kernel
theorem dX8_hasLower_93 : decode mX8_hasLower.2.1 93 = .ok (.iload 4, 2) := by decide +kernel
theorem dX8_hasLower_95 : decode mX8_hasLower.2.1 95 = .ok (.iadd, 1) := by decide +kernel
theorem dX8_hasLower_96 : decode mX8_hasLower.2.1 96 = .ok (.iaload, 1) := by decide +kernel
theorem dX8_hasLower_97 : decode mX8_hasLower.2.1 97 = .ok (.iconst 3, 1) := by decide +kernel
theorem dX8_hasLower_98 : decode mX8_hasLower.2.1 98 = .ok (.if_icmp .ne 7, 3) := by decide +kernel
theorem dX8_hasLower_101 : decode mX8_hasLower.2.1 101 = .ok (.iconst 1, 1) := by decide +kernel
theorem dX8_hasLower_102 : decode mX8_hasLower.2.1 102 = .ok (.goto 4, 3) := by decide +kernel
theorem dX8_hasLower_105 : decode mX8_hasLower.2.1 105 = .ok (.iconst 0, 1) := by decide +kernel
theorem dX8_hasLower_106 : decode mX8_hasLower.2.1 106 = .ok (.istore_n 3, 1) := by decide +kernel
theorem dX8_hasLower_107 : decode mX8_hasLower.2.1 107 = .ok (.iinc 4 1, 3) := by decide +kernel
theorem dX8_hasLower_110 : decode mX8_hasLower.2.1 110 = .ok (.goto (-105), 3) := by decide +kernel
theorem dX8_hasLower_113 : decode mX8_hasLower.2.1 113 = .ok (.iload_n 3, 1) := by decide +kernel
theorem dX8_hasLower_114 : decode mX8_hasLower.2.1 114 = .ok (.ireturn, 1) := by decide +kernel
theorem dX8_canGive_0 : decode mX8_canGive.2.1 0 = .ok (.aload_n 0, 1) := by decide +kernel
theorem dX8_canGive_1 : decode mX8_canGive.2.1 1 = .ok (.iload_n 1, 1) := by decide +kernel
theorem dX8_canGive_2 : decode mX8_canGive.2.1 2 = .ok (.iload_n 2, 1) := by decide +kernel
theorem dX8_canGive_3 : decode mX8_canGive.2.1 3 = .ok (.invokevirtual 151, 3) := by decide +kernel
theorem dX8_canGive_6 : decode mX8_canGive.2.1 6 = .ok (.iconst (-1), 1) := by decide +kernel
theorem dX8_canGive_7 : decode mX8_canGive.2.1 7 = .ok (.if_icmp .eq 5, 3) := by decide +kernel
theorem dX8_canGive_10 : decode mX8_canGive.2.1 10 = .ok (.iconst 0, 1) := by decide +kernel
theorem dX8_canGive_11 : decode mX8_canGive.2.1 11 = .ok (.ireturn, 1) := by decide +kernel
theorem dX8_canGive_12 : decode mX8_canGive.2.1 12 = .ok (.aload_n 0, 1) := by decide +kernel
theorem dX8_canGive_13 : decode mX8_canGive.2.1 13 = .ok (.getfield 16, 3) := by decide +kernel
theorem dX8_canGive_16 : decode mX8_canGive.2.1 16 = .ok (.iload_n 2, 1) := by decide +kernel
theorem dX8_canGive_17 : decode mX8_canGive.2.1 17 = .ok (.iaload, 1) := by decide +kernel
theorem dX8_canGive_18 : decode mX8_canGive.2.1 18 = .ok (.iconst 2, 1) := by decide +kernel
theorem dX8_canGive_19 : decode mX8_canGive.2.1 19 = .ok (.if_icmp .ne 35, 3) := by decide +kernel
theorem dX8_canGive_22 : decode mX8_canGive.2.1 22 = .ok (.iload_n 1, 1) := by decide +kernel
theorem dX8_canGive_23 : decode mX8_canGive.2.1 23 = .ok (.aload_n 0, 1) := by decide +kernel
theorem dX8_canGive_24 : decode mX8_canGive.2.1 24 = .ok (.aload_n 0, 1) := by decide +kernel
theorem dX8_canGive_25 : decode mX8_canGive.2.1 25 = .ok (.getfield 19, 3) := by decide +kernel
theorem dX8_canGive_28 : decode mX8_canGive.2.1 28 = .ok (.iload_n 2, 1) := by decide +kernel
theorem dX8_canGive_29 : decode mX8_canGive.2.1 29 = .ok (.iaload, 1) := by decide +kernel
theorem dX8_canGive_30 : decode mX8_canGive.2.1 30 = .ok (.invokevirtual 148, 3) := by decide +kernel
theorem dX8_canGive_33 : decode mX8_canGive.2.1 33 = .ok (.if_icmp .eq 21, 3) := by decide +kernel
theorem dX8_canGive_36 : decode mX8_canGive.2.1 36 = .ok (.aload_n 0, 1) := by decide +kernel
theorem dX8_canGive_37 : decode mX8_canGive.2.1 37 = .ok (.iload_n 1, 1) := by decide +kernel
theorem dX8_canGive_38 : decode mX8_canGive.2.1 38 = .ok (.iload_n 2, 1) := by decide +kernel
theorem dX8_canGive_39 : decode mX8_canGive.2.1 39 = .ok (.invokevirtual 155, 3) := by decide +kernel
theorem dX8_canGive_42 : decode mX8_canGive.2.1 42 = .ok (.ifCond .eq 16, 3) := by decide +kernel
theorem dX8_canGive_45 : decode mX8_canGive.2.1 45 = .ok (.aload_n 0, 1) := by decide +kernel
theorem dX8_canGive_46 : decode mX8_canGive.2.1 46 = .ok (.iload_n 1, 1) := by decide +kernel
theorem dX8_canGive_47 : decode mX8_canGive.2.1 47 = .ok (.iload_n 2, 1) := by decide +kernel
theorem dX8_canGive_48 : decode mX8_canGive.2.1 48 = .ok (.invokevirtual 158, 3) := by decide +kernel
theorem dX8_canGive_51 : decode mX8_canGive.2.1 51 = .ok (.ifCond .eq 7, 3) := by decide +kernel
theorem dX8_canGive_54 : decode mX8_canGive.2.1 54 = .ok (.iconst 1, 1) := by decide +kernel
theorem dX8_canGive_55 : decode mX8_canGive.2.1 55 = .ok (.goto 4, 3) := by decide +kernel
theorem dX8_canGive_58 : decode mX8_canGive.2.1 58 = .ok (.iconst 0, 1) := by decide +kernel
theorem dX8_canGive_59 : decode mX8_canGive.2.1 59 = .ok (.ireturn, 1) := by decide +kernel
theorem dX8_next_0 : decode mX8_next.2.1 0 = .ok (.iconst 0, 1) := by decide +kernel
theorem dX8_next_1 : decode mX8_next.2.1 1 = .ok (.istore_n 2, 1) := by decide +kernel
theorem dX8_next_2 : decode mX8_next.2.1 2 = .ok (.iload_n 2, 1) := by decide +kernel
theorem dX8_next_3 : decode mX8_next.2.1 3 = .ok (.aload_n 0, 1) := by decide +kernel
theorem dX8_next_4 : decode mX8_next.2.1 4 = .ok (.getfield 89, 3) := by decide +kernel
theorem dX8_next_7 : decode mX8_next.2.1 7 = .ok (.if_icmp .ge 36, 3) := by decide +kernel
theorem dX8_next_10 : decode mX8_next.2.1 10 = .ok (.aload_n 0, 1) := by decide +kernel
theorem dX8_next_11 : decode mX8_next.2.1 11 = .ok (.getfield 46, 3) := by decide +kernel
theorem dX8_next_14 : decode mX8_next.2.1 14 = .ok (.sipush 200, 3) := by decide +kernel
theorem dX8_next_17 : decode mX8_next.2.1 17 = .ok (.iload_n 1, 1) := by decide +kernel
theorem dX8_next_18 : decode mX8_next.2.1 18 = .ok (.imul, 1) := by decide +kernel
theorem dX8_next_19 : decode mX8_next.2.1 19 = .ok (.iload_n 2, 1) := by decide +kernel
theorem dX8_next_20 : decode mX8_next.2.1 20 = .ok (.iadd, 1) := by decide +kernel
theorem dX8_next_21 : decode mX8_next.2.1 21 = .ok (.iaload, 1) := by decide +kernel
theorem dX8_next_22 : decode mX8_next.2.1 22 = .ok (.iconst 2, 1) := by decide +kernel
theorem dX8_next_23 : decode mX8_next.2.1 23 = .ok (.if_icmp .ne 14, 3) := by decide +kernel
theorem dX8_next_26 : decode mX8_next.2.1 26 = .ok (.aload_n 0, 1) := by decide +kernel
theorem dX8_next_27 : decode mX8_next.2.1 27 = .ok (.iload_n 1, 1) := by decide +kernel
theorem dX8_next_28 : decode mX8_next.2.1 28 = .ok (.iload_n 2, 1) := by decide +kernel
theorem dX8_next_29 : decode mX8_next.2.1 29 = .ok (.invokevirtual 161, 3) := by decide +kernel
theorem dX8_next_32 : decode mX8_next.2.1 32 = .ok (.ifCond .eq 5, 3) := by decide +kernel
theorem dX8_next_35 : decode mX8_next.2.1 35 = .ok (.iload_n 2, 1) := by decide +kernel
theorem dX8_next_36 : decode mX8_next.2.1 36 = .ok (.ireturn, 1) := by decide +kernel
theorem dX8_next_37 : decode mX8_next.2.1 37 = .ok (.iinc 2 1, 3) := by decide +kernel
theorem dX8_next_40 : decode mX8_next.2.1 40 = .ok (.goto (-38), 3) := by decide +kernel
theorem dX8_next_43 : decode mX8_next.2.1 43 = .ok (.iconst (-1), 1) := by decide +kernel
theorem dX8_next_44 : decode mX8_next.2.1 44 = .ok (.ireturn, 1) := by decide +kernel
theorem dX8_gives_0 : decode mX8_gives.2.1 0 = .ok (.iconst 0, 1) := by decide +kernel
theorem dX8_gives_1 : decode mX8_gives.2.1 1 = .ok (.istore_n 2, 1) := by decide +kernel
theorem dX8_gives_2 : decode mX8_gives.2.1 2 = .ok (.aload_n 0, 1) := by decide +kernel
theorem dX8_gives_3 : decode mX8_gives.2.1 3 = .ok (.iload_n 1, 1) := by decide +kernel
theorem dX8_gives_4 : decode mX8_gives.2.1 4 = .ok (.invokevirtual 164, 3) := by decide +kernel
theorem dX8_gives_7 : decode mX8_gives.2.1 7 = .ok (.istore_n 3, 1) := by decide +kernel
theorem dX8_gives_8 : decode mX8_gives.2.1 8 = .ok (.iload_n 3, 1) := by decide +kernel
theorem dX8_gives_9 : decode mX8_gives.2.1 9 = .ok (.iconst (-1), 1) := by decide +kernel
theorem dX8_gives_10 : decode mX8_gives.2.1 10 = .ok (.if_icmp .eq 21, 3) := by decide +kernel
theorem dX8_gives_13 : decode mX8_gives.2.1 13 = .ok (.aload_n 0, 1) := by decide +kernel
theorem dX8_gives_14 : decode mX8_gives.2.1 14 = .ok (.iload_n 1, 1) := by decide +kernel
theorem dX8_gives_15 : decode mX8_gives.2.1 15 = .ok (.iload_n 3, 1) := by decide +kernel
theorem dX8_gives_16 : decode mX8_gives.2.1 16 = .ok (.invokevirtual 167, 3) := by decide +kernel
theorem dX8_gives_19 : decode mX8_gives.2.1 19 = .ok (.iinc 2 1, 3) := by decide +kernel
theorem dX8_gives_22 : decode mX8_gives.2.1 22 = .ok (.aload_n 0, 1) := by decide +kernel
theorem dX8_gives_23 : decode mX8_gives.2.1 23 = .ok (.iload_n 1, 1) := by decide +kernel
theorem dX8_gives_24 : decode mX8_gives.2.1 24 = .ok (.invokevirtual 164, 3) := by decide +kernel
theorem dX8_gives_27 : decode mX8_gives.2.1 27 = .ok (.istore_n 3, 1) := by decide +kernel
theorem dX8_gives_28 : decode mX8_gives.2.1 28 = .ok (.goto (-20), 3) := by decide +kernel
theorem dX8_gives_31 : decode mX8_gives.2.1 31 = .ok (.iload_n 2, 1) := by decide +kernel
theorem dX8_gives_32 : decode mX8_gives.2.1 32 = .ok (.ireturn, 1) := by decide +kernel
theorem dX8_give_0 : decode mX8_give.2.1 0 = .ok (.aload_n 0, 1) := by decide +kernel
theorem dX8_give_1 : decode mX8_give.2.1 1 = .ok (.getfield 19, 3) := by decide +kernel
theorem dX8_give_4 : decode mX8_give.2.1 4 = .ok (.iload_n 2, 1) := by decide +kernel
theorem dX8_give_5 : decode mX8_give.2.1 5 = .ok (.iaload, 1) := by decide +kernel
theorem dX8_give_6 : decode mX8_give.2.1 6 = .ok (.istore_n 3, 1) := by decide +kernel
theorem dX8_give_7 : decode mX8_give.2.1 7 = .ok (.aload_n 0, 1) := by decide +kernel
theorem dX8_give_8 : decode mX8_give.2.1 8 = .ok (.getfield 46, 3) := by decide +kernel
theorem dX8_give_11 : decode mX8_give.2.1 11 = .ok (.sipush 200, 3) := by decide +kernel
theorem dX8_give_14 : decode mX8_give.2.1 14 = .ok (.iload_n 1, 1) := by decide +kernel
theorem dX8_give_15 : decode mX8_give.2.1 15 = .ok (.imul, 1) := by decide +kernel
theorem dX8_give_16 : decode mX8_give.2.1 16 = .ok (.iload_n 2, 1) := by decide +kernel
theorem dX8_give_17 : decode mX8_give.2.1 17 = .ok (.iadd, 1) := by decide +kernel
theorem dX8_give_18 : decode mX8_give.2.1 18 = .ok (.iconst 3, 1) := by decide +kernel
theorem dX8_give_19 : decode mX8_give.2.1 19 = .ok (.iastore, 1) := by decide +kernel
theorem dX8_give_20 : decode mX8_give.2.1 20 = .ok (.aload_n 0, 1) := by decide +kernel
theorem dX8_give_21 : decode mX8_give.2.1 21 = .ok (.getfield 49, 3) := by decide +kernel
theorem dX8_give_24 : decode mX8_give.2.1 24 = .ok (.bipush 48, 2) := by decide +kernel
theorem dX8_give_26 : decode mX8_give.2.1 26 = .ok (.iload_n 1, 1) := by decide +kernel
theorem dX8_give_27 : decode mX8_give.2.1 27 = .ok (.imul, 1) := by decide +kernel
theorem dX8_give_28 : decode mX8_give.2.1 28 = .ok (.bipush 8, 2) := by decide +kernel
theorem dX8_give_30 : decode mX8_give.2.1 30 = .ok (.iload_n 3, 1) := by decide +kernel
theorem dX8_give_31 : decode mX8_give.2.1 31 = .ok (.imul, 1) := by decide +kernel
theorem dX8_give_32 : decode mX8_give.2.1 32 = .ok (.iadd, 1) := by decide +kernel
theorem dX8_give_33 : decode mX8_give.2.1 33 = .ok (.aload_n 0, 1) := by decide +kernel
theorem dX8_give_34 : decode mX8_give.2.1 34 = .ok (.getfield 22, 3) := by decide +kernel
theorem dX8_give_37 : decode mX8_give.2.1 37 = .ok (.iload_n 2, 1) := by decide +kernel
theorem dX8_give_38 : decode mX8_give.2.1 38 = .ok (.iaload, 1) := by decide +kernel
theorem dX8_give_39 : decode mX8_give.2.1 39 = .ok (.iadd, 1) := by decide +kernel
theorem dX8_give_40 : decode mX8_give.2.1 40 = .ok (.dup2, 1) := by decide +kernel
theorem dX8_give_41 : decode mX8_give.2.1 41 = .ok (.iaload, 1) := by decide +kernel
theorem dX8_give_42 : decode mX8_give.2.1 42 = .ok (.iconst 1, 1) := by decide +kernel
theorem dX8_give_43 : decode mX8_give.2.1 43 = .ok (.iadd, 1) := by decide +kernel
theorem dX8_give_44 : decode mX8_give.2.1 44 = .ok (.iastore, 1) := by decide +kernel
theorem dX8_give_45 : decode mX8_give.2.1 45 = .ok (.aload_n 0, 1) := by decide +kernel
theorem dX8_give_46 : decode mX8_give.2.1 46 = .ok (.getfield 58, 3) := by decide +kernel
theorem dX8_give_49 : decode mX8_give.2.1 49 = .ok (.sipush 200, 3) := by decide +kernel
theorem dX8_give_52 : decode mX8_give.2.1 52 = .ok (.iload_n 1, 1) := by decide +kernel
theorem dX8_give_53 : decode mX8_give.2.1 53 = .ok (.imul, 1) := by decide +kernel
theorem dX8_give_54 : decode mX8_give.2.1 54 = .ok (.aload_n 0, 1) := by decide +kernel
theorem dX8_give_55 : decode mX8_give.2.1 55 = .ok (.getfield 61, 3) := by decide +kernel
theorem dX8_give_58 : decode mX8_give.2.1 58 = .ok (.iload_n 1, 1) := by decide +kernel
theorem dX8_give_59 : decode mX8_give.2.1 59 = .ok (.iaload, 1) := by decide +kernel
theorem dX8_give_60 : decode mX8_give.2.1 60 = .ok (.iadd, 1) := by decide +kernel
theorem dX8_give_61 : decode mX8_give.2.1 61 = .ok (.iload_n 2, 1) := by decide +kernel
theorem dX8_give_62 : decode mX8_give.2.1 62 = .ok (.iastore, 1) := by decide +kernel
theorem dX8_give_63 : decode mX8_give.2.1 63 = .ok (.aload_n 0, 1) := by decide +kernel
theorem dX8_give_64 : decode mX8_give.2.1 64 = .ok (.getfield 61, 3) := by decide +kernel
theorem dX8_give_67 : decode mX8_give.2.1 67 = .ok (.iload_n 1, 1) := by decide +kernel
theorem dX8_give_68 : decode mX8_give.2.1 68 = .ok (.dup2, 1) := by decide +kernel
theorem dX8_give_69 : decode mX8_give.2.1 69 = .ok (.iaload, 1) := by decide +kernel
theorem dX8_give_70 : decode mX8_give.2.1 70 = .ok (.iconst 1, 1) := by decide +kernel
theorem dX8_give_71 : decode mX8_give.2.1 71 = .ok (.iadd, 1) := by decide +kernel
theorem dX8_give_72 : decode mX8_give.2.1 72 = .ok (.iastore, 1) := by decide +kernel
theorem dX8_give_73 : decode mX8_give.2.1 73 = .ok (.iconst 0, 1) := by decide +kernel
theorem dX8_give_74 : decode mX8_give.2.1 74 = .ok (.istore 4, 2) := by decide +kernel
theorem dX8_give_76 : decode mX8_give.2.1 76 = .ok (.iload 4, 2) := by decide +kernel
theorem dX8_give_78 : decode mX8_give.2.1 78 = .ok (.bipush 40, 2) := by decide +kernel
theorem dX8_give_80 : decode mX8_give.2.1 80 = .ok (.if_icmp .ge 55, 3) := by decide +kernel
theorem dX8_give_83 : decode mX8_give.2.1 83 = .ok (.aload_n 0, 1) := by decide +kernel
theorem dX8_give_84 : decode mX8_give.2.1 84 = .ok (.getfield 69, 3) := by decide +kernel
theorem dX8_give_87 : decode mX8_give.2.1 87 = .ok (.bipush 40, 2) := by decide +kernel
theorem dX8_give_89 : decode mX8_give.2.1 89 = .ok (.iload_n 1, 1) := by decide +kernel
theorem dX8_give_90 : decode mX8_give.2.1 90 = .ok (.imul, 1) := by decide +kernel
theorem dX8_give_91 : decode mX8_give.2.1 91 = .ok (.iload 4, 2) := by decide +kernel
theorem dX8_give_93 : decode mX8_give.2.1 93 = .ok (.iadd, 1) := by decide +kernel
theorem dX8_give_94 : decode mX8_give.2.1 94 = .ok (.aload_n 0, 1) := by decide +kernel
theorem dX8_give_95 : decode mX8_give.2.1 95 = .ok (.getfield 69, 3) := by decide +kernel
theorem dX8_give_98 : decode mX8_give.2.1 98 = .ok (.bipush 40, 2) := by decide +kernel
theorem dX8_give_100 : decode mX8_give.2.1 100 = .ok (.iload_n 1, 1) := by decide +kernel
theorem dX8_give_101 : decode mX8_give.2.1 101 = .ok (.imul, 1) := by decide +kernel
theorem dX8_give_102 : decode mX8_give.2.1 102 = .ok (.iload 4, 2) := by decide +kernel
theorem dX8_give_104 : decode mX8_give.2.1 104 = .ok (.iadd, 1) := by decide +kernel
theorem dX8_give_105 : decode mX8_give.2.1 105 = .ok (.iaload, 1) := by decide +kernel
theorem dX8_give_106 : decode mX8_give.2.1 106 = .ok (.iload_n 2, 1) := by decide +kernel
theorem dX8_give_107 : decode mX8_give.2.1 107 = .ok (.iconst 1, 1) := by decide +kernel
theorem dX8_give_108 : decode mX8_give.2.1 108 = .ok (.iadd, 1) := by decide +kernel
theorem dX8_give_109 : decode mX8_give.2.1 109 = .ok (.if_icmp .ne 7, 3) := by decide +kernel
theorem dX8_give_112 : decode mX8_give.2.1 112 = .ok (.iconst 0, 1) := by decide +kernel
theorem dX8_give_113 : decode mX8_give.2.1 113 = .ok (.goto 15, 3) := by decide +kernel
theorem dX8_give_116 : decode mX8_give.2.1 116 = .ok (.aload_n 0, 1) := by decide +kernel
theorem dX8_give_117 : decode mX8_give.2.1 117 = .ok (.getfield 69, 3) := by decide +kernel
theorem dX8_give_120 : decode mX8_give.2.1 120 = .ok (.bipush 40, 2) := by decide +kernel
theorem dX8_give_122 : decode mX8_give.2.1 122 = .ok (.iload_n 1, 1) := by decide +kernel
theorem dX8_give_123 : decode mX8_give.2.1 123 = .ok (.imul, 1) := by decide +kernel
theorem dX8_give_124 : decode mX8_give.2.1 124 = .ok (.iload 4, 2) := by decide +kernel
theorem dX8_give_126 : decode mX8_give.2.1 126 = .ok (.iadd, 1) := by decide +kernel
theorem dX8_give_127 : decode mX8_give.2.1 127 = .ok (.iaload, 1) := by decide +kernel
theorem dX8_give_128 : decode mX8_give.2.1 128 = .ok (.iastore, 1) := by decide +kernel
theorem dX8_give_129 : decode mX8_give.2.1 129 = .ok (.iinc 4 1, 3) := by decide +kernel
theorem dX8_give_132 : decode mX8_give.2.1 132 = .ok (.goto (-56), 3) := by decide +kernel
theorem dX8_give_135 : decode mX8_give.2.1 135 = .ok (.aload_n 0, 1) := by decide +kernel
theorem dX8_give_136 : decode mX8_give.2.1 136 = .ok (.getfield 16, 3) := by decide +kernel
theorem dX8_give_139 : decode mX8_give.2.1 139 = .ok (.iload_n 2, 1) := by decide +kernel
theorem dX8_give_140 : decode mX8_give.2.1 140 = .ok (.iaload, 1) := by decide +kernel
theorem dX8_give_141 : decode mX8_give.2.1 141 = .ok (.iconst 2, 1) := by decide +kernel
theorem dX8_give_142 : decode mX8_give.2.1 142 = .ok (.if_icmp .ne 112, 3) := by decide +kernel
theorem dX8_give_145 : decode mX8_give.2.1 145 = .ok (.iload_n 1, 1) := by decide +kernel
theorem dX8_give_146 : decode mX8_give.2.1 146 = .ok (.aload_n 0, 1) := by decide +kernel
theorem dX8_give_147 : decode mX8_give.2.1 147 = .ok (.iload_n 3, 1) := by decide +kernel
theorem dX8_give_148 : decode mX8_give.2.1 148 = .ok (.invokevirtual 148, 3) := by decide +kernel
theorem dX8_give_151 : decode mX8_give.2.1 151 = .ok (.if_icmp .ne 103, 3) := by decide +kernel
theorem dX8_give_154 : decode mX8_give.2.1 154 = .ok (.aload_n 0, 1) := by decide +kernel
theorem dX8_give_155 : decode mX8_give.2.1 155 = .ok (.getfield 31, 3) := by decide +kernel
theorem dX8_give_158 : decode mX8_give.2.1 158 = .ok (.iload_n 2, 1) := by decide +kernel
theorem dX8_give_159 : decode mX8_give.2.1 159 = .ok (.aload_n 0, 1) := by decide +kernel
theorem dX8_give_160 : decode mX8_give.2.1 160 = .ok (.getfield 13, 3) := by decide +kernel
theorem dX8_give_163 : decode mX8_give.2.1 163 = .ok (.iload_n 3, 1) := by decide +kernel
theorem dX8_give_164 : decode mX8_give.2.1 164 = .ok (.iaload, 1) := by decide +kernel
theorem dX8_give_165 : decode mX8_give.2.1 165 = .ok (.iastore, 1) := by decide +kernel
theorem dX8_give_166 : decode mX8_give.2.1 166 = .ok (.aload_n 0, 1) := by decide +kernel
theorem dX8_give_167 : decode mX8_give.2.1 167 = .ok (.getfield 13, 3) := by decide +kernel
theorem dX8_give_170 : decode mX8_give.2.1 170 = .ok (.iload_n 3, 1) := by decide +kernel
theorem dX8_give_171 : decode mX8_give.2.1 171 = .ok (.dup2, 1) := by decide +kernel
theorem dX8_give_172 : decode mX8_give.2.1 172 = .ok (.iaload, 1) := by decide +kernel
theorem dX8_give_173 : decode mX8_give.2.1 173 = .ok (.iconst 1, 1) := by decide +kernel
theorem dX8_give_174 : decode mX8_give.2.1 174 = .ok (.iadd, 1) := by decide +kernel
theorem dX8_give_175 : decode mX8_give.2.1 175 = .ok (.iastore, 1) := by decide +kernel
theorem dX8_give_176 : decode mX8_give.2.1 176 = .ok (.aload_n 0, 1) := by decide +kernel
theorem dX8_give_177 : decode mX8_give.2.1 177 = .ok (.iconst 3, 1) := by decide +kernel
theorem dX8_give_178 : decode mX8_give.2.1 178 = .ok (.iload_n 1, 1) := by decide +kernel
theorem dX8_give_179 : decode mX8_give.2.1 179 = .ok (.iload_n 3, 1) := by decide +kernel
theorem dX8_give_180 : decode mX8_give.2.1 180 = .ok (.iload_n 2, 1) := by decide +kernel
theorem dX8_give_181 : decode mX8_give.2.1 181 = .ok (.invokevirtual 123, 3) := by decide +kernel
theorem dX8_give_184 : decode mX8_give.2.1 184 = .ok (.istore 4, 2) := by decide +kernel
theorem dX8_give_186 : decode mX8_give.2.1 186 = .ok (.aload_n 0, 1) := by decide +kernel
theorem dX8_give_187 : decode mX8_give.2.1 187 = .ok (.getfield 34, 3) := by decide +kernel
theorem dX8_give_190 : decode mX8_give.2.1 190 = .ok (.iload_n 2, 1) := by decide +kernel
theorem dX8_give_191 : decode mX8_give.2.1 191 = .ok (.iload 4, 2) := by decide +kernel
theorem dX8_give_193 : decode mX8_give.2.1 193 = .ok (.iastore, 1) := by decide +kernel
theorem dX8_give_194 : decode mX8_give.2.1 194 = .ok (.aload_n 0, 1) := by decide +kernel
theorem dX8_give_195 : decode mX8_give.2.1 195 = .ok (.getfield 40, 3) := by decide +kernel
theorem dX8_give_198 : decode mX8_give.2.1 198 = .ok (.iload 4, 2) := by decide +kernel
theorem dX8_give_200 : decode mX8_give.2.1 200 = .ok (.aload_n 0, 1) := by decide +kernel
theorem dX8_give_201 : decode mX8_give.2.1 201 = .ok (.getfield 40, 3) := by decide +kernel
theorem dX8_give_204 : decode mX8_give.2.1 204 = .ok (.iload_n 2, 1) := by decide +kernel
theorem dX8_give_205 : decode mX8_give.2.1 205 = .ok (.iaload, 1) := by decide +kernel
theorem dX8_give_206 : decode mX8_give.2.1 206 = .ok (.iastore, 1) := by decide +kernel
theorem dX8_give_207 : decode mX8_give.2.1 207 = .ok (.iconst 0, 1) := by decide +kernel
theorem dX8_give_208 : decode mX8_give.2.1 208 = .ok (.istore 5, 2) := by decide +kernel
theorem dX8_give_210 : decode mX8_give.2.1 210 = .ok (.iload 5, 2) := by decide +kernel
theorem dX8_give_212 : decode mX8_give.2.1 212 = .ok (.bipush 48, 2) := by decide +kernel
theorem dX8_give_214 : decode mX8_give.2.1 214 = .ok (.if_icmp .ge 34, 3) := by decide +kernel
theorem dX8_give_217 : decode mX8_give.2.1 217 = .ok (.aload_n 0, 1) := by decide +kernel
theorem dX8_give_218 : decode mX8_give.2.1 218 = .ok (.getfield 43, 3) := by decide +kernel
theorem dX8_give_221 : decode mX8_give.2.1 221 = .ok (.bipush 48, 2) := by decide +kernel
theorem dX8_give_223 : decode mX8_give.2.1 223 = .ok (.iload 4, 2) := by decide +kernel
theorem dX8_give_225 : decode mX8_give.2.1 225 = .ok (.imul, 1) := by decide +kernel
theorem dX8_give_226 : decode mX8_give.2.1 226 = .ok (.iload 5, 2) := by decide +kernel
theorem dX8_give_228 : decode mX8_give.2.1 228 = .ok (.iadd, 1) := by decide +kernel
theorem dX8_give_229 : decode mX8_give.2.1 229 = .ok (.aload_n 0, 1) := by decide +kernel
theorem dX8_give_230 : decode mX8_give.2.1 230 = .ok (.getfield 43, 3) := by decide +kernel
theorem dX8_give_233 : decode mX8_give.2.1 233 = .ok (.bipush 48, 2) := by decide +kernel
theorem dX8_give_235 : decode mX8_give.2.1 235 = .ok (.iload_n 2, 1) := by decide +kernel
theorem dX8_give_236 : decode mX8_give.2.1 236 = .ok (.imul, 1) := by decide +kernel
theorem dX8_give_237 : decode mX8_give.2.1 237 = .ok (.iload 5, 2) := by decide +kernel
theorem dX8_give_239 : decode mX8_give.2.1 239 = .ok (.iadd, 1) := by decide +kernel
theorem dX8_give_240 : decode mX8_give.2.1 240 = .ok (.iaload, 1) := by decide +kernel
theorem dX8_give_241 : decode mX8_give.2.1 241 = .ok (.iastore, 1) := by decide +kernel
theorem dX8_give_242 : decode mX8_give.2.1 242 = .ok (.iinc 5 1, 3) := by decide +kernel
theorem dX8_give_245 : decode mX8_give.2.1 245 = .ok (.goto (-35), 3) := by decide +kernel
theorem dX8_give_248 : decode mX8_give.2.1 248 = .ok (.aload_n 0, 1) := by decide +kernel
theorem dX8_give_249 : decode mX8_give.2.1 249 = .ok (.iload 4, 2) := by decide +kernel
theorem dX8_give_251 : decode mX8_give.2.1 251 = .ok (.invokevirtual 131, 3) := by decide +kernel
theorem dX8_give_254 : decode mX8_give.2.1 254 = .ok (.return_, 1) := by decide +kernel
theorem dX8_deliver_0 : decode mX8_deliver.2.1 0 = .ok (.aload_n 0, 1) := by decide +kernel
theorem dX8_deliver_1 : decode mX8_deliver.2.1 1 = .ok (.iload_n 1, 1) := by decide +kernel
theorem dX8_deliver_2 : decode mX8_deliver.2.1 2 = .ok (.invokevirtual 142, 3) := by decide +kernel
theorem dX8_deliver_5 : decode mX8_deliver.2.1 5 = .ok (.ifCond .eq 11, 3) := by decide +kernel
theorem dX8_deliver_8 : decode mX8_deliver.2.1 8 = .ok (.aload_n 0, 1) := by decide +kernel
theorem dX8_deliver_9 : decode mX8_deliver.2.1 9 = .ok (.iload_n 2, 1) := by decide +kernel
theorem dX8_deliver_10 : decode mX8_deliver.2.1 10 = .ok (.invokevirtual 113, 3) := by decide +kernel
theorem dX8_deliver_13 : decode mX8_deliver.2.1 13 = .ok (.ifCond .ne 9, 3) := by decide +kernel
theorem dX8_deliver_16 : decode mX8_deliver.2.1 16 = .ok (.aload_n 0, 1) := by decide +kernel
theorem dX8_deliver_17 : decode mX8_deliver.2.1 17 = .ok (.iconst 1, 1) := by decide +kernel
theorem dX8_deliver_18 : decode mX8_deliver.2.1 18 = .ok (.invokevirtual 103, 3) := by decide +kernel
theorem dX8_deliver_21 : decode mX8_deliver.2.1 21 = .ok (.ireturn, 1) := by decide +kernel
theorem dX8_deliver_22 : decode mX8_deliver.2.1 22 = .ok (.aload_n 0, 1) := by decide +kernel
theorem dX8_deliver_23 : decode mX8_deliver.2.1 23 = .ok (.getfield 46, 3) := by decide +kernel
theorem dX8_deliver_26 : decode mX8_deliver.2.1 26 = .ok (.sipush 200, 3) := by decide +kernel
theorem dX8_deliver_29 : decode mX8_deliver.2.1 29 = .ok (.iload_n 2, 1) := by decide +kernel
theorem dX8_deliver_30 : decode mX8_deliver.2.1 30 = .ok (.imul, 1) := by decide +kernel
theorem dX8_deliver_31 : decode mX8_deliver.2.1 31 = .ok (.iload_n 1, 1) := by decide +kernel
theorem dX8_deliver_32 : decode mX8_deliver.2.1 32 = .ok (.iadd, 1) := by decide +kernel
theorem dX8_deliver_33 : decode mX8_deliver.2.1 33 = .ok (.iaload, 1) := by decide +kernel
theorem dX8_deliver_34 : decode mX8_deliver.2.1 34 = .ok (.iconst 1, 1) := by decide +kernel
theorem dX8_deliver_35 : decode mX8_deliver.2.1 35 = .ok (.if_icmp .eq 9, 3) := by decide +kernel
theorem dX8_deliver_38 : decode mX8_deliver.2.1 38 = .ok (.aload_n 0, 1) := by decide +kernel
theorem dX8_deliver_39 : decode mX8_deliver.2.1 39 = .ok (.iconst 3, 1) := by decide +kernel
theorem dX8_deliver_40 : decode mX8_deliver.2.1 40 = .ok (.invokevirtual 103, 3) := by decide +kernel
theorem dX8_deliver_43 : decode mX8_deliver.2.1 43 = .ok (.ireturn, 1) := by decide +kernel
theorem dX8_deliver_44 : decode mX8_deliver.2.1 44 = .ok (.aload_n 0, 1) := by decide +kernel
theorem dX8_deliver_45 : decode mX8_deliver.2.1 45 = .ok (.iload_n 2, 1) := by decide +kernel
theorem dX8_deliver_46 : decode mX8_deliver.2.1 46 = .ok (.iload_n 1, 1) := by decide +kernel
theorem dX8_deliver_47 : decode mX8_deliver.2.1 47 = .ok (.invokevirtual 109, 3) := by decide +kernel
theorem dX8_deliver_50 : decode mX8_deliver.2.1 50 = .ok (.aload_n 0, 1) := by decide +kernel
theorem dX8_deliver_51 : decode mX8_deliver.2.1 51 = .ok (.aload_n 0, 1) := by decide +kernel
theorem dX8_deliver_52 : decode mX8_deliver.2.1 52 = .ok (.iload_n 2, 1) := by decide +kernel
theorem dX8_deliver_53 : decode mX8_deliver.2.1 53 = .ok (.invokevirtual 135, 3) := by decide +kernel
theorem dX8_deliver_56 : decode mX8_deliver.2.1 56 = .ok (.invokevirtual 106, 3) := by decide +kernel
theorem dX8_deliver_59 : decode mX8_deliver.2.1 59 = .ok (.ireturn, 1) := by decide +kernel
theorem dX8_lineOf_0 : decode mX8_lineOf.2.1 0 = .ok (.iconst 0, 1) := by decide +kernel
theorem dX8_lineOf_1 : decode mX8_lineOf.2.1 1 = .ok (.istore_n 2, 1) := by decide +kernel
theorem dX8_lineOf_2 : decode mX8_lineOf.2.1 2 = .ok (.iload_n 2, 1) := by decide +kernel
theorem dX8_lineOf_3 : decode mX8_lineOf.2.1 3 = .ok (.aload_n 0, 1) := by decide +kernel
theorem dX8_lineOf_4 : decode mX8_lineOf.2.1 4 = .ok (.getfield 78, 3) := by decide +kernel
theorem dX8_lineOf_7 : decode mX8_lineOf.2.1 7 = .ok (.if_icmp .ge 27, 3) := by decide +kernel
theorem dX8_lineOf_10 : decode mX8_lineOf.2.1 10 = .ok (.aload_n 0, 1) := by decide +kernel
theorem dX8_lineOf_11 : decode mX8_lineOf.2.1 11 = .ok (.getfield 46, 3) := by decide +kernel
theorem dX8_lineOf_14 : decode mX8_lineOf.2.1 14 = .ok (.sipush 200, 3) := by decide +kernel
theorem dX8_lineOf_17 : decode mX8_lineOf.2.1 17 = .ok (.iload_n 2, 1) := by decide +kernel
theorem dX8_lineOf_18 : decode mX8_lineOf.2.1 18 = .ok (.imul, 1) := by decide +kernel
theorem dX8_lineOf_19 : decode mX8_lineOf.2.1 19 = .ok (.iload_n 1, 1) := by decide +kernel
theorem dX8_lineOf_20 : decode mX8_lineOf.2.1 20 = .ok (.iadd, 1) := by decide +kernel
theorem dX8_lineOf_21 : decode mX8_lineOf.2.1 21 = .ok (.iaload, 1) := by decide +kernel
theorem dX8_lineOf_22 : decode mX8_lineOf.2.1 22 = .ok (.iconst 1, 1) := by decide +kernel
theorem dX8_lineOf_23 : decode mX8_lineOf.2.1 23 = .ok (.if_icmp .ne 5, 3) := by decide +kernel
theorem dX8_lineOf_26 : decode mX8_lineOf.2.1 26 = .ok (.iload_n 2, 1) := by decide +kernel
theorem dX8_lineOf_27 : decode mX8_lineOf.2.1 27 = .ok (.ireturn, 1) := by decide +kernel
theorem dX8_lineOf_28 : decode mX8_lineOf.2.1 28 = .ok (.iinc 2 1, 3) := by decide +kernel
theorem dX8_lineOf_31 : decode mX8_lineOf.2.1 31 = .ok (.goto (-29), 3) := by decide +kernel
theorem dX8_lineOf_34 : decode mX8_lineOf.2.1 34 = .ok (.iconst (-1), 1) := by decide +kernel
theorem dX8_lineOf_35 : decode mX8_lineOf.2.1 35 = .ok (.ireturn, 1) := by decide +kernel
theorem dX8_lined_0 : decode mX8_lined.2.1 0 = .ok (.iconst (-1), 1) := by decide +kernel
theorem dX8_lined_1 : decode mX8_lined.2.1 1 = .ok (.istore_n 3, 1) := by decide +kernel
theorem dX8_lined_2 : decode mX8_lined.2.1 2 = .ok (.iconst 0, 1) := by decide +kernel
theorem dX8_lined_3 : decode mX8_lined.2.1 3 = .ok (.istore 4, 2) := by decide +kernel
theorem dX8_lined_5 : decode mX8_lined.2.1 5 = .ok (.iload 4, 2) := by decide +kernel
theorem dX8_lined_7 : decode mX8_lined.2.1 7 = .ok (.aload_n 0, 1) := by decide +kernel
theorem dX8_lined_8 : decode mX8_lined.2.1 8 = .ok (.getfield 89, 3) := by decide +kernel
theorem dX8_lined_11 : decode mX8_lined.2.1 11 = .ok (.if_icmp .ge 59, 3) := by decide +kernel
theorem dX8_lined_14 : decode mX8_lined.2.1 14 = .ok (.aload_n 0, 1) := by decide +kernel
theorem dX8_lined_15 : decode mX8_lined.2.1 15 = .ok (.getfield 19, 3) := by decide +kernel
theorem dX8_lined_18 : decode mX8_lined.2.1 18 = .ok (.iload 4, 2) := by decide +kernel
theorem dX8_lined_20 : decode mX8_lined.2.1 20 = .ok (.iaload, 1) := by decide +kernel
theorem dX8_lined_21 : decode mX8_lined.2.1 21 = .ok (.iload_n 1, 1) := by decide +kernel
theorem dX8_lined_22 : decode mX8_lined.2.1 22 = .ok (.if_icmp .ne 17, 3) := by decide +kernel
theorem dX8_lined_25 : decode mX8_lined.2.1 25 = .ok (.aload_n 0, 1) := by decide +kernel
theorem dX8_lined_26 : decode mX8_lined.2.1 26 = .ok (.iload 4, 2) := by decide +kernel
theorem dX8_lined_28 : decode mX8_lined.2.1 28 = .ok (.invokevirtual 170, 3) := by decide +kernel
theorem dX8_lined_31 : decode mX8_lined.2.1 31 = .ok (.iconst (-1), 1) := by decide +kernel
theorem dX8_lined_32 : decode mX8_lined.2.1 32 = .ok (.if_icmp .eq 7, 3) := by decide +kernel
theorem dX8_lined_35 : decode mX8_lined.2.1 35 = .ok (.iconst 1, 1) := by decide +kernel
theorem dX8_lined_36 : decode mX8_lined.2.1 36 = .ok (.goto 4, 3) := by decide +kernel
theorem dX8_lined_39 : decode mX8_lined.2.1 39 = .ok (.iconst 0, 1) := by decide +kernel
theorem dX8_lined_40 : decode mX8_lined.2.1 40 = .ok (.istore 5, 2) := by decide +kernel
theorem dX8_lined_42 : decode mX8_lined.2.1 42 = .ok (.iload 5, 2) := by decide +kernel
theorem dX8_lined_44 : decode mX8_lined.2.1 44 = .ok (.ifCond .eq 18, 3) := by decide +kernel
theorem dX8_lined_47 : decode mX8_lined.2.1 47 = .ok (.iload_n 3, 1) := by decide +kernel
theorem dX8_lined_48 : decode mX8_lined.2.1 48 = .ok (.iconst (-1), 1) := by decide +kernel
theorem dX8_lined_49 : decode mX8_lined.2.1 49 = .ok (.if_icmp .eq 8, 3) := by decide +kernel
theorem dX8_lined_52 : decode mX8_lined.2.1 52 = .ok (.iload_n 2, 1) := by decide +kernel
theorem dX8_lined_53 : decode mX8_lined.2.1 53 = .ok (.iconst 1, 1) := by decide +kernel
theorem dX8_lined_54 : decode mX8_lined.2.1 54 = .ok (.if_icmp .ne 8, 3) := by decide +kernel
theorem dX8_lined_57 : decode mX8_lined.2.1 57 = .ok (.iload 4, 2) := by decide +kernel
theorem dX8_lined_59 : decode mX8_lined.2.1 59 = .ok (.goto 4, 3) := by decide +kernel
theorem dX8_lined_62 : decode mX8_lined.2.1 62 = .ok (.iload_n 3, 1) := by decide +kernel
theorem dX8_lined_63 : decode mX8_lined.2.1 63 = .ok (.istore_n 3, 1) := by decide +kernel
theorem dX8_lined_64 : decode mX8_lined.2.1 64 = .ok (.iinc 4 1, 3) := by decide +kernel
theorem dX8_lined_67 : decode mX8_lined.2.1 67 = .ok (.goto (-62), 3) := by decide +kernel
theorem dX8_lined_70 : decode mX8_lined.2.1 70 = .ok (.iload_n 3, 1) := by decide +kernel
theorem dX8_lined_71 : decode mX8_lined.2.1 71 = .ok (.ireturn, 1) := by decide +kernel
theorem dX8_deliverAll_0 : decode mX8_deliverAll.2.1 0 = .ok (.aload_n 0, 1) := by decide +kernel
theorem dX8_deliverAll_1 : decode mX8_deliverAll.2.1 1 = .ok (.iload_n 1, 1) := by decide +kernel
theorem dX8_deliverAll_2 : decode mX8_deliverAll.2.1 2 = .ok (.invokevirtual 117, 3) := by decide +kernel
theorem dX8_deliverAll_5 : decode mX8_deliverAll.2.1 5 = .ok (.ifCond .eq 12, 3) := by decide +kernel
theorem dX8_deliverAll_8 : decode mX8_deliverAll.2.1 8 = .ok (.iload_n 2, 1) := by decide +kernel
theorem dX8_deliverAll_9 : decode mX8_deliverAll.2.1 9 = .ok (.iconst 0, 1) := by decide +kernel
theorem dX8_deliverAll_10 : decode mX8_deliverAll.2.1 10 = .ok (.iconst 1, 1) := by decide +kernel
theorem dX8_deliverAll_11 : decode mX8_deliverAll.2.1 11 = .ok (.invokestatic 82, 3) := by decide +kernel
theorem dX8_deliverAll_14 : decode mX8_deliverAll.2.1 14 = .ok (.ifCond .ne 9, 3) := by decide +kernel
theorem dX8_deliverAll_17 : decode mX8_deliverAll.2.1 17 = .ok (.aload_n 0, 1) := by decide +kernel
theorem dX8_deliverAll_18 : decode mX8_deliverAll.2.1 18 = .ok (.iconst 1, 1) := by decide +kernel
theorem dX8_deliverAll_19 : decode mX8_deliverAll.2.1 19 = .ok (.invokevirtual 103, 3) := by decide +kernel
theorem dX8_deliverAll_22 : decode mX8_deliverAll.2.1 22 = .ok (.ireturn, 1) := by decide +kernel
theorem dX8_deliverAll_23 : decode mX8_deliverAll.2.1 23 = .ok (.iconst 0, 1) := by decide +kernel
theorem dX8_deliverAll_24 : decode mX8_deliverAll.2.1 24 = .ok (.istore_n 3, 1) := by decide +kernel
theorem dX8_deliverAll_25 : decode mX8_deliverAll.2.1 25 = .ok (.aload_n 0, 1) := by decide +kernel
theorem dX8_deliverAll_26 : decode mX8_deliverAll.2.1 26 = .ok (.iload_n 1, 1) := by decide +kernel
theorem dX8_deliverAll_27 : decode mX8_deliverAll.2.1 27 = .ok (.iload_n 2, 1) := by decide +kernel
theorem dX8_deliverAll_28 : decode mX8_deliverAll.2.1 28 = .ok (.invokevirtual 173, 3) := by decide +kernel
theorem dX8_deliverAll_31 : decode mX8_deliverAll.2.1 31 = .ok (.istore 4, 2) := by decide +kernel
theorem dX8_deliverAll_33 : decode mX8_deliverAll.2.1 33 = .ok (.iload 4, 2) := by decide +kernel
theorem dX8_deliverAll_35 : decode mX8_deliverAll.2.1 35 = .ok (.iconst (-1), 1) := by decide +kernel
theorem dX8_deliverAll_36 : decode mX8_deliverAll.2.1 36 = .ok (.if_icmp .eq 40, 3) := by decide +kernel
theorem dX8_deliverAll_39 : decode mX8_deliverAll.2.1 39 = .ok (.aload_n 0, 1) := by decide +kernel
theorem dX8_deliverAll_40 : decode mX8_deliverAll.2.1 40 = .ok (.iload 4, 2) := by decide +kernel
theorem dX8_deliverAll_42 : decode mX8_deliverAll.2.1 42 = .ok (.invokevirtual 170, 3) := by decide +kernel
theorem dX8_deliverAll_45 : decode mX8_deliverAll.2.1 45 = .ok (.istore 5, 2) := by decide +kernel
theorem dX8_deliverAll_47 : decode mX8_deliverAll.2.1 47 = .ok (.aload_n 0, 1) := by decide +kernel
theorem dX8_deliverAll_48 : decode mX8_deliverAll.2.1 48 = .ok (.iload 5, 2) := by decide +kernel
theorem dX8_deliverAll_50 : decode mX8_deliverAll.2.1 50 = .ok (.iload 4, 2) := by decide +kernel
theorem dX8_deliverAll_52 : decode mX8_deliverAll.2.1 52 = .ok (.invokevirtual 109, 3) := by decide +kernel
theorem dX8_deliverAll_55 : decode mX8_deliverAll.2.1 55 = .ok (.aload_n 0, 1) := by decide +kernel
theorem dX8_deliverAll_56 : decode mX8_deliverAll.2.1 56 = .ok (.iload 5, 2) := by decide +kernel
theorem dX8_deliverAll_58 : decode mX8_deliverAll.2.1 58 = .ok (.invokevirtual 135, 3) := by decide +kernel
theorem dX8_deliverAll_61 : decode mX8_deliverAll.2.1 61 = .ok (.pop, 1) := by decide +kernel
theorem dX8_deliverAll_62 : decode mX8_deliverAll.2.1 62 = .ok (.iinc 3 1, 3) := by decide +kernel
theorem dX8_deliverAll_65 : decode mX8_deliverAll.2.1 65 = .ok (.aload_n 0, 1) := by decide +kernel
theorem dX8_deliverAll_66 : decode mX8_deliverAll.2.1 66 = .ok (.iload_n 1, 1) := by decide +kernel
theorem dX8_deliverAll_67 : decode mX8_deliverAll.2.1 67 = .ok (.iload_n 2, 1) := by decide +kernel
theorem dX8_deliverAll_68 : decode mX8_deliverAll.2.1 68 = .ok (.invokevirtual 173, 3) := by decide +kernel
theorem dX8_deliverAll_71 : decode mX8_deliverAll.2.1 71 = .ok (.istore 4, 2) := by decide +kernel
theorem dX8_deliverAll_73 : decode mX8_deliverAll.2.1 73 = .ok (.goto (-40), 3) := by decide +kernel
theorem dX8_deliverAll_76 : decode mX8_deliverAll.2.1 76 = .ok (.aload_n 0, 1) := by decide +kernel
theorem dX8_deliverAll_77 : decode mX8_deliverAll.2.1 77 = .ok (.iload_n 3, 1) := by decide +kernel
theorem dX8_deliverAll_78 : decode mX8_deliverAll.2.1 78 = .ok (.invokevirtual 106, 3) := by decide +kernel
theorem dX8_deliverAll_81 : decode mX8_deliverAll.2.1 81 = .ok (.ireturn, 1) := by decide +kernel
theorem dX8_count_0 : decode mX8_count.2.1 0 = .ok (.iload_n 1, 1) := by decide +kernel
theorem dX8_count_1 : decode mX8_count.2.1 1 = .ok (.ifCond .ne 10, 3) := by decide +kernel
theorem dX8_count_4 : decode mX8_count.2.1 4 = .ok (.aload_n 0, 1) := by decide +kernel
theorem dX8_count_5 : decode mX8_count.2.1 5 = .ok (.getfield 78, 3) := by decide +kernel
theorem dX8_count_8 : decode mX8_count.2.1 8 = .ok (.goto 40, 3) := by decide +kernel
theorem dX8_count_11 : decode mX8_count.2.1 11 = .ok (.iload_n 1, 1) := by decide +kernel
theorem dX8_count_12 : decode mX8_count.2.1 12 = .ok (.iconst 1, 1) := by decide +kernel
theorem dX8_count_13 : decode mX8_count.2.1 13 = .ok (.if_icmp .ne 10, 3) := by decide +kernel
theorem dX8_count_16 : decode mX8_count.2.1 16 = .ok (.aload_n 0, 1) := by decide +kernel
theorem dX8_count_17 : decode mX8_count.2.1 17 = .ok (.getfield 86, 3) := by decide +kernel
theorem dX8_count_20 : decode mX8_count.2.1 20 = .ok (.goto 28, 3) := by decide +kernel
theorem dX8_count_23 : decode mX8_count.2.1 23 = .ok (.iload_n 1, 1) := by decide +kernel
theorem dX8_count_24 : decode mX8_count.2.1 24 = .ok (.iconst 2, 1) := by decide +kernel
theorem dX8_count_25 : decode mX8_count.2.1 25 = .ok (.if_icmp .ne 10, 3) := by decide +kernel
theorem dX8_count_28 : decode mX8_count.2.1 28 = .ok (.aload_n 0, 1) := by decide +kernel
theorem dX8_count_29 : decode mX8_count.2.1 29 = .ok (.getfield 89, 3) := by decide +kernel
theorem dX8_count_32 : decode mX8_count.2.1 32 = .ok (.goto 16, 3) := by decide +kernel
theorem dX8_count_35 : decode mX8_count.2.1 35 = .ok (.iload_n 1, 1) := by decide +kernel
theorem dX8_count_36 : decode mX8_count.2.1 36 = .ok (.iconst 3, 1) := by decide +kernel
theorem dX8_count_37 : decode mX8_count.2.1 37 = .ok (.if_icmp .ne 10, 3) := by decide +kernel
theorem dX8_count_40 : decode mX8_count.2.1 40 = .ok (.aload_n 0, 1) := by decide +kernel
theorem dX8_count_41 : decode mX8_count.2.1 41 = .ok (.getfield 176, 3) := by decide +kernel
theorem dX8_count_44 : decode mX8_count.2.1 44 = .ok (.goto 4, 3) := by decide +kernel
theorem dX8_count_47 : decode mX8_count.2.1 47 = .ok (.iconst (-1), 1) := by decide +kernel
theorem dX8_count_48 : decode mX8_count.2.1 48 = .ok (.ireturn, 1) := by decide +kernel
theorem dX8_countsOf_0 : decode mX8_countsOf.2.1 0 = .ok (.iconst 0, 1) := by decide +kernel
theorem dX8_countsOf_1 : decode mX8_countsOf.2.1 1 = .ok (.istore_n 2, 1) := by decide +kernel
theorem dX8_countsOf_2 : decode mX8_countsOf.2.1 2 = .ok (.iconst 0, 1) := by decide +kernel
theorem dX8_countsOf_3 : decode mX8_countsOf.2.1 3 = .ok (.istore_n 3, 1) := by decide +kernel
theorem dX8_countsOf_4 : decode mX8_countsOf.2.1 4 = .ok (.iload_n 3, 1) := by decide +kernel
theorem dX8_countsOf_5 : decode mX8_countsOf.2.1 5 = .ok (.bipush 8, 2) := by decide +kernel
theorem dX8_countsOf_7 : decode mX8_countsOf.2.1 7 = .ok (.aload_n 0, 1) := by decide +kernel
theorem dX8_countsOf_8 : decode mX8_countsOf.2.1 8 = .ok (.getfield 86, 3) := by decide +kernel
theorem dX8_countsOf_11 : decode mX8_countsOf.2.1 11 = .ok (.imul, 1) := by decide +kernel
theorem dX8_countsOf_12 : decode mX8_countsOf.2.1 12 = .ok (.if_icmp .ge 49, 3) := by decide +kernel
theorem dX8_countsOf_15 : decode mX8_countsOf.2.1 15 = .ok (.iload_n 2, 1) := by decide +kernel
theorem dX8_countsOf_16 : decode mX8_countsOf.2.1 16 = .ok (.aload_n 0, 1) := by decide +kernel
theorem dX8_countsOf_17 : decode mX8_countsOf.2.1 17 = .ok (.getfield 40, 3) := by decide +kernel
theorem dX8_countsOf_20 : decode mX8_countsOf.2.1 20 = .ok (.iload_n 1, 1) := by decide +kernel
theorem dX8_countsOf_21 : decode mX8_countsOf.2.1 21 = .ok (.iaload, 1) := by decide +kernel
theorem dX8_countsOf_22 : decode mX8_countsOf.2.1 22 = .ok (.iload_n 3, 1) := by decide +kernel
theorem dX8_countsOf_23 : decode mX8_countsOf.2.1 23 = .ok (.bipush 8, 2) := by decide +kernel
theorem dX8_countsOf_25 : decode mX8_countsOf.2.1 25 = .ok (.idiv, 1) := by decide +kernel
theorem dX8_countsOf_26 : decode mX8_countsOf.2.1 26 = .ok (.ishr, 1) := by decide +kernel
theorem dX8_countsOf_27 : decode mX8_countsOf.2.1 27 = .ok (.iconst 1, 1) := by decide +kernel
theorem dX8_countsOf_28 : decode mX8_countsOf.2.1 28 = .ok (.iand, 1) := by decide +kernel
theorem dX8_countsOf_29 : decode mX8_countsOf.2.1 29 = .ok (.iconst 1, 1) := by decide +kernel
theorem dX8_countsOf_30 : decode mX8_countsOf.2.1 30 = .ok (.if_icmp .ne 22, 3) := by decide +kernel
theorem dX8_countsOf_33 : decode mX8_countsOf.2.1 33 = .ok (.aload_n 0, 1) := by decide +kernel
theorem dX8_countsOf_34 : decode mX8_countsOf.2.1 34 = .ok (.iload_n 3, 1) := by decide +kernel
theorem dX8_countsOf_35 : decode mX8_countsOf.2.1 35 = .ok (.bipush 8, 2) := by decide +kernel
theorem dX8_countsOf_37 : decode mX8_countsOf.2.1 37 = .ok (.irem, 1) := by decide +kernel
theorem dX8_countsOf_38 : decode mX8_countsOf.2.1 38 = .ok (.iload_n 3, 1) := by decide +kernel
theorem dX8_countsOf_39 : decode mX8_countsOf.2.1 39 = .ok (.bipush 8, 2) := by decide +kernel
theorem dX8_countsOf_41 : decode mX8_countsOf.2.1 41 = .ok (.idiv, 1) := by decide +kernel
theorem dX8_countsOf_42 : decode mX8_countsOf.2.1 42 = .ok (.invokevirtual 92, 3) := by decide +kernel
theorem dX8_countsOf_45 : decode mX8_countsOf.2.1 45 = .ok (.ifCond .eq 7, 3) := by decide +kernel
theorem dX8_countsOf_48 : decode mX8_countsOf.2.1 48 = .ok (.iconst 1, 1) := by decide +kernel
theorem dX8_countsOf_49 : decode mX8_countsOf.2.1 49 = .ok (.goto 4, 3) := by decide +kernel
theorem dX8_countsOf_52 : decode mX8_countsOf.2.1 52 = .ok (.iconst 0, 1) := by decide +kernel
theorem dX8_countsOf_53 : decode mX8_countsOf.2.1 53 = .ok (.iadd, 1) := by decide +kernel
theorem dX8_countsOf_54 : decode mX8_countsOf.2.1 54 = .ok (.istore_n 2, 1) := by decide +kernel
theorem dX8_countsOf_55 : decode mX8_countsOf.2.1 55 = .ok (.iinc 3 1, 3) := by decide +kernel
theorem dX8_countsOf_58 : decode mX8_countsOf.2.1 58 = .ok (.goto (-54), 3) := by decide +kernel
theorem dX8_countsOf_61 : decode mX8_countsOf.2.1 61 = .ok (.iload_n 2, 1) := by decide +kernel
theorem dX8_countsOf_62 : decode mX8_countsOf.2.1 62 = .ok (.ireturn, 1) := by decide +kernel
theorem dX8_told_0 : decode mX8_told.2.1 0 = .ok (.aload_n 0, 1) := by decide +kernel
theorem dX8_told_1 : decode mX8_told.2.1 1 = .ok (.iload_n 1, 1) := by decide +kernel
theorem dX8_told_2 : decode mX8_told.2.1 2 = .ok (.invokevirtual 142, 3) := by decide +kernel
theorem dX8_told_5 : decode mX8_told.2.1 5 = .ok (.ifCond .ne 5, 3) := by decide +kernel
theorem dX8_told_8 : decode mX8_told.2.1 8 = .ok (.iconst (-1), 1) := by decide +kernel
theorem dX8_told_9 : decode mX8_told.2.1 9 = .ok (.ireturn, 1) := by decide +kernel
theorem dX8_told_10 : decode mX8_told.2.1 10 = .ok (.iload_n 2, 1) := by decide +kernel
theorem dX8_told_11 : decode mX8_told.2.1 11 = .ok (.tableswitch 100 0 7 #[45, 52, 59, 66, 73, 80, 87, 93], 45) := by decide +kernel
theorem dX8_told_56 : decode mX8_told.2.1 56 = .ok (.aload_n 0, 1) := by decide +kernel
theorem dX8_told_57 : decode mX8_told.2.1 57 = .ok (.getfield 16, 3) := by decide +kernel
theorem dX8_told_60 : decode mX8_told.2.1 60 = .ok (.iload_n 1, 1) := by decide +kernel
theorem dX8_told_61 : decode mX8_told.2.1 61 = .ok (.iaload, 1) := by decide +kernel
theorem dX8_told_62 : decode mX8_told.2.1 62 = .ok (.ireturn, 1) := by decide +kernel
theorem dX8_told_63 : decode mX8_told.2.1 63 = .ok (.aload_n 0, 1) := by decide +kernel
theorem dX8_told_64 : decode mX8_told.2.1 64 = .ok (.getfield 19, 3) := by decide +kernel
theorem dX8_told_67 : decode mX8_told.2.1 67 = .ok (.iload_n 1, 1) := by decide +kernel
theorem dX8_told_68 : decode mX8_told.2.1 68 = .ok (.iaload, 1) := by decide +kernel
theorem dX8_told_69 : decode mX8_told.2.1 69 = .ok (.ireturn, 1) := by decide +kernel
theorem dX8_told_70 : decode mX8_told.2.1 70 = .ok (.aload_n 0, 1) := by decide +kernel
theorem dX8_told_71 : decode mX8_told.2.1 71 = .ok (.getfield 22, 3) := by decide +kernel
theorem dX8_told_74 : decode mX8_told.2.1 74 = .ok (.iload_n 1, 1) := by decide +kernel
theorem dX8_told_75 : decode mX8_told.2.1 75 = .ok (.iaload, 1) := by decide +kernel
theorem dX8_told_76 : decode mX8_told.2.1 76 = .ok (.ireturn, 1) := by decide +kernel
theorem dX8_told_77 : decode mX8_told.2.1 77 = .ok (.aload_n 0, 1) := by decide +kernel
theorem dX8_told_78 : decode mX8_told.2.1 78 = .ok (.getfield 25, 3) := by decide +kernel
theorem dX8_told_81 : decode mX8_told.2.1 81 = .ok (.iload_n 1, 1) := by decide +kernel
theorem dX8_told_82 : decode mX8_told.2.1 82 = .ok (.iaload, 1) := by decide +kernel
theorem dX8_told_83 : decode mX8_told.2.1 83 = .ok (.ireturn, 1) := by decide +kernel
theorem dX8_told_84 : decode mX8_told.2.1 84 = .ok (.aload_n 0, 1) := by decide +kernel
theorem dX8_told_85 : decode mX8_told.2.1 85 = .ok (.getfield 28, 3) := by decide +kernel
theorem dX8_told_88 : decode mX8_told.2.1 88 = .ok (.iload_n 1, 1) := by decide +kernel
theorem dX8_told_89 : decode mX8_told.2.1 89 = .ok (.iaload, 1) := by decide +kernel
theorem dX8_told_90 : decode mX8_told.2.1 90 = .ok (.ireturn, 1) := by decide +kernel
theorem dX8_told_91 : decode mX8_told.2.1 91 = .ok (.aload_n 0, 1) := by decide +kernel
theorem dX8_told_92 : decode mX8_told.2.1 92 = .ok (.getfield 31, 3) := by decide +kernel
theorem dX8_told_95 : decode mX8_told.2.1 95 = .ok (.iload_n 1, 1) := by decide +kernel
theorem dX8_told_96 : decode mX8_told.2.1 96 = .ok (.iaload, 1) := by decide +kernel
theorem dX8_told_97 : decode mX8_told.2.1 97 = .ok (.ireturn, 1) := by decide +kernel
theorem dX8_told_98 : decode mX8_told.2.1 98 = .ok (.aload_n 0, 1) := by decide +kernel
theorem dX8_told_99 : decode mX8_told.2.1 99 = .ok (.iload_n 1, 1) := by decide +kernel
theorem dX8_told_100 : decode mX8_told.2.1 100 = .ok (.invokevirtual 179, 3) := by decide +kernel
theorem dX8_told_103 : decode mX8_told.2.1 103 = .ok (.ireturn, 1) := by decide +kernel
theorem dX8_told_104 : decode mX8_told.2.1 104 = .ok (.aload_n 0, 1) := by decide +kernel
theorem dX8_told_105 : decode mX8_told.2.1 105 = .ok (.getfield 37, 3) := by decide +kernel
theorem dX8_told_108 : decode mX8_told.2.1 108 = .ok (.iload_n 1, 1) := by decide +kernel
theorem dX8_told_109 : decode mX8_told.2.1 109 = .ok (.iaload, 1) := by decide +kernel
theorem dX8_told_110 : decode mX8_told.2.1 110 = .ok (.ireturn, 1) := by decide +kernel
theorem dX8_told_111 : decode mX8_told.2.1 111 = .ok (.iconst (-1), 1) := by decide +kernel
theorem dX8_told_112 : decode mX8_told.2.1 112 = .ok (.ireturn, 1) := by decide +kernel
theorem dX8_circleTold_0 : decode mX8_circleTold.2.1 0 = .ok (.aload_n 0, 1) := by decide +kernel
theorem dX8_circleTold_1 : decode mX8_circleTold.2.1 1 = .ok (.iload_n 1, 1) := by decide +kernel
theorem dX8_circleTold_2 : decode mX8_circleTold.2.1 2 = .ok (.invokevirtual 117, 3) := by decide +kernel
theorem dX8_circleTold_5 : decode mX8_circleTold.2.1 5 = .ok (.ifCond .eq 12, 3) := by decide +kernel
theorem dX8_circleTold_8 : decode mX8_circleTold.2.1 8 = .ok (.iload_n 2, 1) := by decide +kernel
theorem dX8_circleTold_9 : decode mX8_circleTold.2.1 9 = .ok (.iconst 0, 1) := by decide +kernel
theorem dX8_circleTold_10 : decode mX8_circleTold.2.1 10 = .ok (.iconst 3, 1) := by decide +kernel
theorem dX8_circleTold_11 : decode mX8_circleTold.2.1 11 = .ok (.invokestatic 82, 3) := by decide +kernel
theorem dX8_circleTold_14 : decode mX8_circleTold.2.1 14 = .ok (.ifCond .ne 5, 3) := by decide +kernel
theorem dX8_circleTold_17 : decode mX8_circleTold.2.1 17 = .ok (.iconst (-1), 1) := by decide +kernel
theorem dX8_circleTold_18 : decode mX8_circleTold.2.1 18 = .ok (.ireturn, 1) := by decide +kernel
theorem dX8_circleTold_19 : decode mX8_circleTold.2.1 19 = .ok (.iload_n 2, 1) := by decide +kernel
theorem dX8_circleTold_20 : decode mX8_circleTold.2.1 20 = .ok (.ifCond .ne 12, 3) := by decide +kernel
theorem dX8_circleTold_23 : decode mX8_circleTold.2.1 23 = .ok (.aload_n 0, 1) := by decide +kernel
theorem dX8_circleTold_24 : decode mX8_circleTold.2.1 24 = .ok (.getfield 7, 3) := by decide +kernel
theorem dX8_circleTold_27 : decode mX8_circleTold.2.1 27 = .ok (.iload_n 1, 1) := by decide +kernel
theorem dX8_circleTold_28 : decode mX8_circleTold.2.1 28 = .ok (.iaload, 1) := by decide +kernel
theorem dX8_circleTold_29 : decode mX8_circleTold.2.1 29 = .ok (.goto 43, 3) := by decide +kernel
theorem dX8_circleTold_32 : decode mX8_circleTold.2.1 32 = .ok (.iload_n 2, 1) := by decide +kernel
theorem dX8_circleTold_33 : decode mX8_circleTold.2.1 33 = .ok (.iconst 1, 1) := by decide +kernel
theorem dX8_circleTold_34 : decode mX8_circleTold.2.1 34 = .ok (.if_icmp .ne 11, 3) := by decide +kernel
theorem dX8_circleTold_37 : decode mX8_circleTold.2.1 37 = .ok (.aload_n 0, 1) := by decide +kernel
theorem dX8_circleTold_38 : decode mX8_circleTold.2.1 38 = .ok (.iload_n 1, 1) := by decide +kernel
theorem dX8_circleTold_39 : decode mX8_circleTold.2.1 39 = .ok (.invokevirtual 148, 3) := by decide +kernel
theorem dX8_circleTold_42 : decode mX8_circleTold.2.1 42 = .ok (.goto 30, 3) := by decide +kernel
theorem dX8_circleTold_45 : decode mX8_circleTold.2.1 45 = .ok (.iload_n 2, 1) := by decide +kernel
theorem dX8_circleTold_46 : decode mX8_circleTold.2.1 46 = .ok (.iconst 2, 1) := by decide +kernel
theorem dX8_circleTold_47 : decode mX8_circleTold.2.1 47 = .ok (.if_icmp .ne 12, 3) := by decide +kernel
theorem dX8_circleTold_50 : decode mX8_circleTold.2.1 50 = .ok (.aload_n 0, 1) := by decide +kernel
theorem dX8_circleTold_51 : decode mX8_circleTold.2.1 51 = .ok (.getfield 13, 3) := by decide +kernel
theorem dX8_circleTold_54 : decode mX8_circleTold.2.1 54 = .ok (.iload_n 1, 1) := by decide +kernel
theorem dX8_circleTold_55 : decode mX8_circleTold.2.1 55 = .ok (.iaload, 1) := by decide +kernel
theorem dX8_circleTold_56 : decode mX8_circleTold.2.1 56 = .ok (.goto 16, 3) := by decide +kernel
theorem dX8_circleTold_59 : decode mX8_circleTold.2.1 59 = .ok (.aload_n 0, 1) := by decide +kernel
theorem dX8_circleTold_60 : decode mX8_circleTold.2.1 60 = .ok (.iload_n 1, 1) := by decide +kernel
theorem dX8_circleTold_61 : decode mX8_circleTold.2.1 61 = .ok (.invokevirtual 182, 3) := by decide +kernel
theorem dX8_circleTold_64 : decode mX8_circleTold.2.1 64 = .ok (.ifCond .eq 7, 3) := by decide +kernel
theorem dX8_circleTold_67 : decode mX8_circleTold.2.1 67 = .ok (.iconst 1, 1) := by decide +kernel
theorem dX8_circleTold_68 : decode mX8_circleTold.2.1 68 = .ok (.goto 4, 3) := by decide +kernel
theorem dX8_circleTold_71 : decode mX8_circleTold.2.1 71 = .ok (.iconst 0, 1) := by decide +kernel
theorem dX8_circleTold_72 : decode mX8_circleTold.2.1 72 = .ok (.ireturn, 1) := by decide +kernel
theorem dX8_isCalm_0 : decode mX8_isCalm.2.1 0 = .ok (.iconst 1, 1) := by decide +kernel
theorem dX8_isCalm_1 : decode mX8_isCalm.2.1 1 = .ok (.istore_n 2, 1) := by decide +kernel
theorem dX8_isCalm_2 : decode mX8_isCalm.2.1 2 = .ok (.iconst 0, 1) := by decide +kernel
theorem dX8_isCalm_3 : decode mX8_isCalm.2.1 3 = .ok (.istore_n 3, 1) := by decide +kernel
theorem dX8_isCalm_4 : decode mX8_isCalm.2.1 4 = .ok (.iload_n 3, 1) := by decide +kernel
theorem dX8_isCalm_5 : decode mX8_isCalm.2.1 5 = .ok (.aload_n 0, 1) := by decide +kernel
theorem dX8_isCalm_6 : decode mX8_isCalm.2.1 6 = .ok (.getfield 89, 3) := by decide +kernel
theorem dX8_isCalm_9 : decode mX8_isCalm.2.1 9 = .ok (.if_icmp .ge 74, 3) := by decide +kernel
theorem dX8_isCalm_12 : decode mX8_isCalm.2.1 12 = .ok (.iconst 0, 1) := by decide +kernel
theorem dX8_isCalm_13 : decode mX8_isCalm.2.1 13 = .ok (.istore 4, 2) := by decide +kernel
theorem dX8_isCalm_15 : decode mX8_isCalm.2.1 15 = .ok (.iload 4, 2) := by decide +kernel
theorem dX8_isCalm_17 : decode mX8_isCalm.2.1 17 = .ok (.aload_n 0, 1) := by decide +kernel
theorem dX8_isCalm_18 : decode mX8_isCalm.2.1 18 = .ok (.getfield 78, 3) := by decide +kernel
theorem dX8_isCalm_21 : decode mX8_isCalm.2.1 21 = .ok (.if_icmp .ge 56, 3) := by decide +kernel
theorem dX8_isCalm_24 : decode mX8_isCalm.2.1 24 = .ok (.iload_n 2, 1) := by decide +kernel
theorem dX8_isCalm_25 : decode mX8_isCalm.2.1 25 = .ok (.ifCond .eq 44, 3) := by decide +kernel
theorem dX8_isCalm_28 : decode mX8_isCalm.2.1 28 = .ok (.aload_n 0, 1) := by decide +kernel
theorem dX8_isCalm_29 : decode mX8_isCalm.2.1 29 = .ok (.getfield 19, 3) := by decide +kernel
theorem dX8_isCalm_32 : decode mX8_isCalm.2.1 32 = .ok (.iload_n 3, 1) := by decide +kernel
theorem dX8_isCalm_33 : decode mX8_isCalm.2.1 33 = .ok (.iaload, 1) := by decide +kernel
theorem dX8_isCalm_34 : decode mX8_isCalm.2.1 34 = .ok (.iload_n 1, 1) := by decide +kernel
theorem dX8_isCalm_35 : decode mX8_isCalm.2.1 35 = .ok (.if_icmp .ne 30, 3) := by decide +kernel
theorem dX8_isCalm_38 : decode mX8_isCalm.2.1 38 = .ok (.aload_n 0, 1) := by decide +kernel
theorem dX8_isCalm_39 : decode mX8_isCalm.2.1 39 = .ok (.iload 4, 2) := by decide +kernel
theorem dX8_isCalm_41 : decode mX8_isCalm.2.1 41 = .ok (.iload_n 1, 1) := by decide +kernel
theorem dX8_isCalm_42 : decode mX8_isCalm.2.1 42 = .ok (.invokevirtual 92, 3) := by decide +kernel
theorem dX8_isCalm_45 : decode mX8_isCalm.2.1 45 = .ok (.ifCond .eq 20, 3) := by decide +kernel
theorem dX8_isCalm_48 : decode mX8_isCalm.2.1 48 = .ok (.aload_n 0, 1) := by decide +kernel
theorem dX8_isCalm_49 : decode mX8_isCalm.2.1 49 = .ok (.getfield 46, 3) := by decide +kernel
theorem dX8_isCalm_52 : decode mX8_isCalm.2.1 52 = .ok (.sipush 200, 3) := by decide +kernel
theorem dX8_isCalm_55 : decode mX8_isCalm.2.1 55 = .ok (.iload 4, 2) := by decide +kernel
theorem dX8_isCalm_57 : decode mX8_isCalm.2.1 57 = .ok (.imul, 1) := by decide +kernel
theorem dX8_isCalm_58 : decode mX8_isCalm.2.1 58 = .ok (.iload_n 3, 1) := by decide +kernel
theorem dX8_isCalm_59 : decode mX8_isCalm.2.1 59 = .ok (.iadd, 1) := by decide +kernel
theorem dX8_isCalm_60 : decode mX8_isCalm.2.1 60 = .ok (.iaload, 1) := by decide +kernel
theorem dX8_isCalm_61 : decode mX8_isCalm.2.1 61 = .ok (.iconst 3, 1) := by decide +kernel
theorem dX8_isCalm_62 : decode mX8_isCalm.2.1 62 = .ok (.if_icmp .ne 7, 3) := by decide +kernel
theorem dX8_isCalm_65 : decode mX8_isCalm.2.1 65 = .ok (.iconst 1, 1) := by decide +kernel
theorem dX8_isCalm_66 : decode mX8_isCalm.2.1 66 = .ok (.goto 4, 3) := by decide +kernel
theorem dX8_isCalm_69 : decode mX8_isCalm.2.1 69 = .ok (.iconst 0, 1) := by decide +kernel
theorem dX8_isCalm_70 : decode mX8_isCalm.2.1 70 = .ok (.istore_n 2, 1) := by decide +kernel
theorem dX8_isCalm_71 : decode mX8_isCalm.2.1 71 = .ok (.iinc 4 1, 3) := by decide +kernel
theorem dX8_isCalm_74 : decode mX8_isCalm.2.1 74 = .ok (.goto (-59), 3) := by decide +kernel
theorem dX8_isCalm_77 : decode mX8_isCalm.2.1 77 = .ok (.iinc 3 1, 3) := by decide +kernel
theorem dX8_isCalm_80 : decode mX8_isCalm.2.1 80 = .ok (.goto (-76), 3) := by decide +kernel
theorem dX8_isCalm_83 : decode mX8_isCalm.2.1 83 = .ok (.iload_n 2, 1) := by decide +kernel
theorem dX8_isCalm_84 : decode mX8_isCalm.2.1 84 = .ok (.ireturn, 1) := by decide +kernel
theorem dX8_state_0 : decode mX8_state.2.1 0 = .ok (.aload_n 0, 1) := by decide +kernel
theorem dX8_state_1 : decode mX8_state.2.1 1 = .ok (.iload_n 1, 1) := by decide +kernel
theorem dX8_state_2 : decode mX8_state.2.1 2 = .ok (.invokevirtual 113, 3) := by decide +kernel
theorem dX8_state_5 : decode mX8_state.2.1 5 = .ok (.ifCond .eq 26, 3) := by decide +kernel
theorem dX8_state_8 : decode mX8_state.2.1 8 = .ok (.aload_n 0, 1) := by decide +kernel
theorem dX8_state_9 : decode mX8_state.2.1 9 = .ok (.iload_n 2, 1) := by decide +kernel
theorem dX8_state_10 : decode mX8_state.2.1 10 = .ok (.invokevirtual 142, 3) := by decide +kernel
theorem dX8_state_13 : decode mX8_state.2.1 13 = .ok (.ifCond .eq 18, 3) := by decide +kernel
theorem dX8_state_16 : decode mX8_state.2.1 16 = .ok (.aload_n 0, 1) := by decide +kernel
theorem dX8_state_17 : decode mX8_state.2.1 17 = .ok (.getfield 46, 3) := by decide +kernel
theorem dX8_state_20 : decode mX8_state.2.1 20 = .ok (.sipush 200, 3) := by decide +kernel
theorem dX8_state_23 : decode mX8_state.2.1 23 = .ok (.iload_n 1, 1) := by decide +kernel
theorem dX8_state_24 : decode mX8_state.2.1 24 = .ok (.imul, 1) := by decide +kernel
theorem dX8_state_25 : decode mX8_state.2.1 25 = .ok (.iload_n 2, 1) := by decide +kernel
theorem dX8_state_26 : decode mX8_state.2.1 26 = .ok (.iadd, 1) := by decide +kernel
theorem dX8_state_27 : decode mX8_state.2.1 27 = .ok (.iaload, 1) := by decide +kernel
theorem dX8_state_28 : decode mX8_state.2.1 28 = .ok (.goto 4, 3) := by decide +kernel
theorem dX8_state_31 : decode mX8_state.2.1 31 = .ok (.iconst (-1), 1) := by decide +kernel
theorem dX8_state_32 : decode mX8_state.2.1 32 = .ok (.ireturn, 1) := by decide +kernel
theorem dX8_given_0 : decode mX8_given.2.1 0 = .ok (.aload_n 0, 1) := by decide +kernel
theorem dX8_given_1 : decode mX8_given.2.1 1 = .ok (.iload_n 1, 1) := by decide +kernel
theorem dX8_given_2 : decode mX8_given.2.1 2 = .ok (.invokevirtual 113, 3) := by decide +kernel
theorem dX8_given_5 : decode mX8_given.2.1 5 = .ok (.ifCond .eq 38, 3) := by decide +kernel
theorem dX8_given_8 : decode mX8_given.2.1 8 = .ok (.aload_n 0, 1) := by decide +kernel
theorem dX8_given_9 : decode mX8_given.2.1 9 = .ok (.iload_n 2, 1) := by decide +kernel
theorem dX8_given_10 : decode mX8_given.2.1 10 = .ok (.invokevirtual 117, 3) := by decide +kernel
theorem dX8_given_13 : decode mX8_given.2.1 13 = .ok (.ifCond .eq 30, 3) := by decide +kernel
theorem dX8_given_16 : decode mX8_given.2.1 16 = .ok (.aload_n 0, 1) := by decide +kernel
theorem dX8_given_17 : decode mX8_given.2.1 17 = .ok (.iload_n 3, 1) := by decide +kernel
theorem dX8_given_18 : decode mX8_given.2.1 18 = .ok (.invokevirtual 113, 3) := by decide +kernel
theorem dX8_given_21 : decode mX8_given.2.1 21 = .ok (.ifCond .eq 22, 3) := by decide +kernel
theorem dX8_given_24 : decode mX8_given.2.1 24 = .ok (.aload_n 0, 1) := by decide +kernel
theorem dX8_given_25 : decode mX8_given.2.1 25 = .ok (.getfield 49, 3) := by decide +kernel
theorem dX8_given_28 : decode mX8_given.2.1 28 = .ok (.bipush 48, 2) := by decide +kernel
theorem dX8_given_30 : decode mX8_given.2.1 30 = .ok (.iload_n 1, 1) := by decide +kernel
theorem dX8_given_31 : decode mX8_given.2.1 31 = .ok (.imul, 1) := by decide +kernel
theorem dX8_given_32 : decode mX8_given.2.1 32 = .ok (.bipush 8, 2) := by decide +kernel
theorem dX8_given_34 : decode mX8_given.2.1 34 = .ok (.iload_n 2, 1) := by decide +kernel
theorem dX8_given_35 : decode mX8_given.2.1 35 = .ok (.imul, 1) := by decide +kernel
theorem dX8_given_36 : decode mX8_given.2.1 36 = .ok (.iadd, 1) := by decide +kernel
theorem dX8_given_37 : decode mX8_given.2.1 37 = .ok (.iload_n 3, 1) := by decide +kernel
theorem dX8_given_38 : decode mX8_given.2.1 38 = .ok (.iadd, 1) := by decide +kernel
theorem dX8_given_39 : decode mX8_given.2.1 39 = .ok (.iaload, 1) := by decide +kernel
theorem dX8_given_40 : decode mX8_given.2.1 40 = .ok (.goto 4, 3) := by decide +kernel
theorem dX8_given_43 : decode mX8_given.2.1 43 = .ok (.iconst (-1), 1) := by decide +kernel
theorem dX8_given_44 : decode mX8_given.2.1 44 = .ok (.ireturn, 1) := by decide +kernel
theorem dX8_read_0 : decode mX8_read.2.1 0 = .ok (.aload_n 0, 1) := by decide +kernel
theorem dX8_read_1 : decode mX8_read.2.1 1 = .ok (.iload_n 1, 1) := by decide +kernel
theorem dX8_read_2 : decode mX8_read.2.1 2 = .ok (.invokevirtual 113, 3) := by decide +kernel
theorem dX8_read_5 : decode mX8_read.2.1 5 = .ok (.ifCond .eq 34, 3) := by decide +kernel
theorem dX8_read_8 : decode mX8_read.2.1 8 = .ok (.iload_n 2, 1) := by decide +kernel
theorem dX8_read_9 : decode mX8_read.2.1 9 = .ok (.iconst 0, 1) := by decide +kernel
theorem dX8_read_10 : decode mX8_read.2.1 10 = .ok (.aload_n 0, 1) := by decide +kernel
theorem dX8_read_11 : decode mX8_read.2.1 11 = .ok (.getfield 61, 3) := by decide +kernel
theorem dX8_read_14 : decode mX8_read.2.1 14 = .ok (.iload_n 1, 1) := by decide +kernel
theorem dX8_read_15 : decode mX8_read.2.1 15 = .ok (.iaload, 1) := by decide +kernel
theorem dX8_read_16 : decode mX8_read.2.1 16 = .ok (.iconst 1, 1) := by decide +kernel
theorem dX8_read_17 : decode mX8_read.2.1 17 = .ok (.isub, 1) := by decide +kernel
theorem dX8_read_18 : decode mX8_read.2.1 18 = .ok (.invokestatic 82, 3) := by decide +kernel
theorem dX8_read_21 : decode mX8_read.2.1 21 = .ok (.ifCond .eq 18, 3) := by decide +kernel
theorem dX8_read_24 : decode mX8_read.2.1 24 = .ok (.aload_n 0, 1) := by decide +kernel
theorem dX8_read_25 : decode mX8_read.2.1 25 = .ok (.getfield 58, 3) := by decide +kernel
theorem dX8_read_28 : decode mX8_read.2.1 28 = .ok (.sipush 200, 3) := by decide +kernel
theorem dX8_read_31 : decode mX8_read.2.1 31 = .ok (.iload_n 1, 1) := by decide +kernel
theorem dX8_read_32 : decode mX8_read.2.1 32 = .ok (.imul, 1) := by decide +kernel
theorem dX8_read_33 : decode mX8_read.2.1 33 = .ok (.iload_n 2, 1) := by decide +kernel
theorem dX8_read_34 : decode mX8_read.2.1 34 = .ok (.iadd, 1) := by decide +kernel
theorem dX8_read_35 : decode mX8_read.2.1 35 = .ok (.iaload, 1) := by decide +kernel
theorem dX8_read_36 : decode mX8_read.2.1 36 = .ok (.goto 4, 3) := by decide +kernel
theorem dX8_read_39 : decode mX8_read.2.1 39 = .ok (.iconst (-1), 1) := by decide +kernel
theorem dX8_read_40 : decode mX8_read.2.1 40 = .ok (.ireturn, 1) := by decide +kernel
theorem dX8_why_0 : decode mX8_why.2.1 0 = .ok (.aload_n 0, 1) := by decide +kernel
theorem dX8_why_1 : decode mX8_why.2.1 1 = .ok (.iload_n 1, 1) := by decide +kernel
theorem dX8_why_2 : decode mX8_why.2.1 2 = .ok (.invokevirtual 113, 3) := by decide +kernel
theorem dX8_why_5 : decode mX8_why.2.1 5 = .ok (.ifCond .eq 36, 3) := by decide +kernel
theorem dX8_why_8 : decode mX8_why.2.1 8 = .ok (.aload_n 0, 1) := by decide +kernel
theorem dX8_why_9 : decode mX8_why.2.1 9 = .ok (.iload_n 2, 1) := by decide +kernel
theorem dX8_why_10 : decode mX8_why.2.1 10 = .ok (.invokevirtual 142, 3) := by decide +kernel
theorem dX8_why_13 : decode mX8_why.2.1 13 = .ok (.ifCond .eq 28, 3) := by decide +kernel
theorem dX8_why_16 : decode mX8_why.2.1 16 = .ok (.iload_n 3, 1) := by decide +kernel
theorem dX8_why_17 : decode mX8_why.2.1 17 = .ok (.iconst 0, 1) := by decide +kernel
theorem dX8_why_18 : decode mX8_why.2.1 18 = .ok (.iconst 2, 1) := by decide +kernel
theorem dX8_why_19 : decode mX8_why.2.1 19 = .ok (.invokestatic 82, 3) := by decide +kernel
theorem dX8_why_22 : decode mX8_why.2.1 22 = .ok (.ifCond .eq 19, 3) := by decide +kernel
theorem dX8_why_25 : decode mX8_why.2.1 25 = .ok (.aload_n 0, 1) := by decide +kernel
theorem dX8_why_26 : decode mX8_why.2.1 26 = .ok (.getfield 46, 3) := by decide +kernel
theorem dX8_why_29 : decode mX8_why.2.1 29 = .ok (.sipush 200, 3) := by decide +kernel
theorem dX8_why_32 : decode mX8_why.2.1 32 = .ok (.iload_n 1, 1) := by decide +kernel
theorem dX8_why_33 : decode mX8_why.2.1 33 = .ok (.imul, 1) := by decide +kernel
theorem dX8_why_34 : decode mX8_why.2.1 34 = .ok (.iload_n 2, 1) := by decide +kernel
theorem dX8_why_35 : decode mX8_why.2.1 35 = .ok (.iadd, 1) := by decide +kernel
theorem dX8_why_36 : decode mX8_why.2.1 36 = .ok (.iaload, 1) := by decide +kernel
theorem dX8_why_37 : decode mX8_why.2.1 37 = .ok (.iconst 2, 1) := by decide +kernel
theorem dX8_why_38 : decode mX8_why.2.1 38 = .ok (.if_icmp .eq 5, 3) := by decide +kernel
theorem dX8_why_41 : decode mX8_why.2.1 41 = .ok (.iconst (-1), 1) := by decide +kernel
theorem dX8_why_42 : decode mX8_why.2.1 42 = .ok (.ireturn, 1) := by decide +kernel
theorem dX8_why_43 : decode mX8_why.2.1 43 = .ok (.aload_n 0, 1) := by decide +kernel
theorem dX8_why_44 : decode mX8_why.2.1 44 = .ok (.iload_n 1, 1) := by decide +kernel
theorem dX8_why_45 : decode mX8_why.2.1 45 = .ok (.iload_n 2, 1) := by decide +kernel
theorem dX8_why_46 : decode mX8_why.2.1 46 = .ok (.invokevirtual 151, 3) := by decide +kernel
theorem dX8_why_49 : decode mX8_why.2.1 49 = .ok (.istore 4, 2) := by decide +kernel
theorem dX8_why_51 : decode mX8_why.2.1 51 = .ok (.iload 4, 2) := by decide +kernel
theorem dX8_why_53 : decode mX8_why.2.1 53 = .ok (.iconst (-1), 1) := by decide +kernel
theorem dX8_why_54 : decode mX8_why.2.1 54 = .ok (.if_icmp .eq 45, 3) := by decide +kernel
theorem dX8_why_57 : decode mX8_why.2.1 57 = .ok (.iload_n 3, 1) := by decide +kernel
theorem dX8_why_58 : decode mX8_why.2.1 58 = .ok (.ifCond .ne 11, 3) := by decide +kernel
theorem dX8_why_61 : decode mX8_why.2.1 61 = .ok (.iload 4, 2) := by decide +kernel
theorem dX8_why_63 : decode mX8_why.2.1 63 = .ok (.bipush 8, 2) := by decide +kernel
theorem dX8_why_65 : decode mX8_why.2.1 65 = .ok (.idiv, 1) := by decide +kernel
theorem dX8_why_66 : decode mX8_why.2.1 66 = .ok (.goto 32, 3) := by decide +kernel
theorem dX8_why_69 : decode mX8_why.2.1 69 = .ok (.iload_n 3, 1) := by decide +kernel
theorem dX8_why_70 : decode mX8_why.2.1 70 = .ok (.iconst 1, 1) := by decide +kernel
theorem dX8_why_71 : decode mX8_why.2.1 71 = .ok (.if_icmp .ne 11, 3) := by decide +kernel
theorem dX8_why_74 : decode mX8_why.2.1 74 = .ok (.iload 4, 2) := by decide +kernel
theorem dX8_why_76 : decode mX8_why.2.1 76 = .ok (.bipush 8, 2) := by decide +kernel
theorem dX8_why_78 : decode mX8_why.2.1 78 = .ok (.irem, 1) := by decide +kernel
theorem dX8_why_79 : decode mX8_why.2.1 79 = .ok (.goto 19, 3) := by decide +kernel
theorem dX8_why_82 : decode mX8_why.2.1 82 = .ok (.aload_n 0, 1) := by decide +kernel
theorem dX8_why_83 : decode mX8_why.2.1 83 = .ok (.iload_n 1, 1) := by decide +kernel
theorem dX8_why_84 : decode mX8_why.2.1 84 = .ok (.iload_n 2, 1) := by decide +kernel
theorem dX8_why_85 : decode mX8_why.2.1 85 = .ok (.iload 4, 2) := by decide +kernel
theorem dX8_why_87 : decode mX8_why.2.1 87 = .ok (.bipush 8, 2) := by decide +kernel
theorem dX8_why_89 : decode mX8_why.2.1 89 = .ok (.idiv, 1) := by decide +kernel
theorem dX8_why_90 : decode mX8_why.2.1 90 = .ok (.iload 4, 2) := by decide +kernel
theorem dX8_why_92 : decode mX8_why.2.1 92 = .ok (.bipush 8, 2) := by decide +kernel
theorem dX8_why_94 : decode mX8_why.2.1 94 = .ok (.irem, 1) := by decide +kernel
theorem dX8_why_95 : decode mX8_why.2.1 95 = .ok (.invokevirtual 145, 3) := by decide +kernel
theorem dX8_why_98 : decode mX8_why.2.1 98 = .ok (.ireturn, 1) := by decide +kernel
theorem dX8_why_99 : decode mX8_why.2.1 99 = .ok (.iload_n 3, 1) := by decide +kernel
theorem dX8_why_100 : decode mX8_why.2.1 100 = .ok (.iconst 2, 1) := by decide +kernel
theorem dX8_why_101 : decode mX8_why.2.1 101 = .ok (.if_icmp .ge 8, 3) := by decide +kernel
theorem dX8_why_104 : decode mX8_why.2.1 104 = .ok (.bipush (-2), 2) := by decide +kernel
theorem dX8_why_106 : decode mX8_why.2.1 106 = .ok (.goto 17, 3) := by decide +kernel
theorem dX8_why_109 : decode mX8_why.2.1 109 = .ok (.aload_n 0, 1) := by decide +kernel
theorem dX8_why_110 : decode mX8_why.2.1 110 = .ok (.iload_n 1, 1) := by decide +kernel
theorem dX8_why_111 : decode mX8_why.2.1 111 = .ok (.iload_n 2, 1) := by decide +kernel
theorem dX8_why_112 : decode mX8_why.2.1 112 = .ok (.invokevirtual 155, 3) := by decide +kernel
theorem dX8_why_115 : decode mX8_why.2.1 115 = .ok (.ifCond .eq 7, 3) := by decide +kernel
theorem dX8_why_118 : decode mX8_why.2.1 118 = .ok (.iconst 1, 1) := by decide +kernel
theorem dX8_why_119 : decode mX8_why.2.1 119 = .ok (.goto 4, 3) := by decide +kernel
theorem dX8_why_122 : decode mX8_why.2.1 122 = .ok (.iconst 0, 1) := by decide +kernel
theorem dX8_why_123 : decode mX8_why.2.1 123 = .ok (.ireturn, 1) := by decide +kernel
theorem dX8_late_0 : decode mX8_late.2.1 0 = .ok (.aload_n 0, 1) := by decide +kernel
theorem dX8_late_1 : decode mX8_late.2.1 1 = .ok (.iload_n 1, 1) := by decide +kernel
theorem dX8_late_2 : decode mX8_late.2.1 2 = .ok (.invokevirtual 113, 3) := by decide +kernel
theorem dX8_late_5 : decode mX8_late.2.1 5 = .ok (.ifCond .ne 5, 3) := by decide +kernel
theorem dX8_late_8 : decode mX8_late.2.1 8 = .ok (.iconst (-1), 1) := by decide +kernel
theorem dX8_late_9 : decode mX8_late.2.1 9 = .ok (.ireturn, 1) := by decide +kernel
theorem dX8_late_10 : decode mX8_late.2.1 10 = .ok (.iconst 0, 1) := by decide +kernel
theorem dX8_late_11 : decode mX8_late.2.1 11 = .ok (.istore_n 2, 1) := by decide +kernel
theorem dX8_late_12 : decode mX8_late.2.1 12 = .ok (.iconst 0, 1) := by decide +kernel
theorem dX8_late_13 : decode mX8_late.2.1 13 = .ok (.istore_n 3, 1) := by decide +kernel
theorem dX8_late_14 : decode mX8_late.2.1 14 = .ok (.iload_n 3, 1) := by decide +kernel
theorem dX8_late_15 : decode mX8_late.2.1 15 = .ok (.aload_n 0, 1) := by decide +kernel
theorem dX8_late_16 : decode mX8_late.2.1 16 = .ok (.getfield 89, 3) := by decide +kernel
theorem dX8_late_19 : decode mX8_late.2.1 19 = .ok (.if_icmp .ge 33, 3) := by decide +kernel
theorem dX8_late_22 : decode mX8_late.2.1 22 = .ok (.iload_n 2, 1) := by decide +kernel
theorem dX8_late_23 : decode mX8_late.2.1 23 = .ok (.aload_n 0, 1) := by decide +kernel
theorem dX8_late_24 : decode mX8_late.2.1 24 = .ok (.getfield 46, 3) := by decide +kernel
theorem dX8_late_27 : decode mX8_late.2.1 27 = .ok (.sipush 200, 3) := by decide +kernel
theorem dX8_late_30 : decode mX8_late.2.1 30 = .ok (.iload_n 1, 1) := by decide +kernel
theorem dX8_late_31 : decode mX8_late.2.1 31 = .ok (.imul, 1) := by decide +kernel
theorem dX8_late_32 : decode mX8_late.2.1 32 = .ok (.iload_n 3, 1) := by decide +kernel
theorem dX8_late_33 : decode mX8_late.2.1 33 = .ok (.iadd, 1) := by decide +kernel
theorem dX8_late_34 : decode mX8_late.2.1 34 = .ok (.iaload, 1) := by decide +kernel
theorem dX8_late_35 : decode mX8_late.2.1 35 = .ok (.iconst 1, 1) := by decide +kernel
theorem dX8_late_36 : decode mX8_late.2.1 36 = .ok (.if_icmp .ne 7, 3) := by decide +kernel
theorem dX8_late_39 : decode mX8_late.2.1 39 = .ok (.iconst 1, 1) := by decide +kernel
theorem dX8_late_40 : decode mX8_late.2.1 40 = .ok (.goto 4, 3) := by decide +kernel
theorem dX8_late_43 : decode mX8_late.2.1 43 = .ok (.iconst 0, 1) := by decide +kernel
theorem dX8_late_44 : decode mX8_late.2.1 44 = .ok (.iadd, 1) := by decide +kernel
theorem dX8_late_45 : decode mX8_late.2.1 45 = .ok (.istore_n 2, 1) := by decide +kernel
theorem dX8_late_46 : decode mX8_late.2.1 46 = .ok (.iinc 3 1, 3) := by decide +kernel
theorem dX8_late_49 : decode mX8_late.2.1 49 = .ok (.goto (-35), 3) := by decide +kernel
theorem dX8_late_52 : decode mX8_late.2.1 52 = .ok (.iload_n 2, 1) := by decide +kernel
theorem dX8_late_53 : decode mX8_late.2.1 53 = .ok (.ireturn, 1) := by decide +kernel
theorem dX8_behind_0 : decode mX8_behind.2.1 0 = .ok (.aload_n 0, 1) := by decide +kernel
theorem dX8_behind_1 : decode mX8_behind.2.1 1 = .ok (.iload_n 1, 1) := by decide +kernel
theorem dX8_behind_2 : decode mX8_behind.2.1 2 = .ok (.invokevirtual 142, 3) := by decide +kernel
theorem dX8_behind_5 : decode mX8_behind.2.1 5 = .ok (.ifCond .eq 34, 3) := by decide +kernel
theorem dX8_behind_8 : decode mX8_behind.2.1 8 = .ok (.aload_n 0, 1) := by decide +kernel
theorem dX8_behind_9 : decode mX8_behind.2.1 9 = .ok (.iload_n 2, 1) := by decide +kernel
theorem dX8_behind_10 : decode mX8_behind.2.1 10 = .ok (.invokevirtual 142, 3) := by decide +kernel
theorem dX8_behind_13 : decode mX8_behind.2.1 13 = .ok (.ifCond .eq 26, 3) := by decide +kernel
theorem dX8_behind_16 : decode mX8_behind.2.1 16 = .ok (.aload_n 0, 1) := by decide +kernel
theorem dX8_behind_17 : decode mX8_behind.2.1 17 = .ok (.getfield 65, 3) := by decide +kernel
theorem dX8_behind_20 : decode mX8_behind.2.1 20 = .ok (.sipush 200, 3) := by decide +kernel
theorem dX8_behind_23 : decode mX8_behind.2.1 23 = .ok (.iload_n 2, 1) := by decide +kernel
theorem dX8_behind_24 : decode mX8_behind.2.1 24 = .ok (.imul, 1) := by decide +kernel
theorem dX8_behind_25 : decode mX8_behind.2.1 25 = .ok (.iload_n 1, 1) := by decide +kernel
theorem dX8_behind_26 : decode mX8_behind.2.1 26 = .ok (.iadd, 1) := by decide +kernel
theorem dX8_behind_27 : decode mX8_behind.2.1 27 = .ok (.baload, 1) := by decide +kernel
theorem dX8_behind_28 : decode mX8_behind.2.1 28 = .ok (.ifCond .eq 7, 3) := by decide +kernel
theorem dX8_behind_31 : decode mX8_behind.2.1 31 = .ok (.iconst 1, 1) := by decide +kernel
theorem dX8_behind_32 : decode mX8_behind.2.1 32 = .ok (.goto 8, 3) := by decide +kernel
theorem dX8_behind_35 : decode mX8_behind.2.1 35 = .ok (.iconst 0, 1) := by decide +kernel
theorem dX8_behind_36 : decode mX8_behind.2.1 36 = .ok (.goto 4, 3) := by decide +kernel
theorem dX8_behind_39 : decode mX8_behind.2.1 39 = .ok (.iconst (-1), 1) := by decide +kernel
theorem dX8_behind_40 : decode mX8_behind.2.1 40 = .ok (.ireturn, 1) := by decide +kernel
theorem dX8_past_0 : decode mX8_past.2.1 0 = .ok (.aload_n 0, 1) := by decide +kernel
theorem dX8_past_1 : decode mX8_past.2.1 1 = .ok (.iload_n 1, 1) := by decide +kernel
theorem dX8_past_2 : decode mX8_past.2.1 2 = .ok (.invokevirtual 142, 3) := by decide +kernel
theorem dX8_past_5 : decode mX8_past.2.1 5 = .ok (.ifCond .ne 5, 3) := by decide +kernel
theorem dX8_past_8 : decode mX8_past.2.1 8 = .ok (.iconst (-1), 1) := by decide +kernel
theorem dX8_past_9 : decode mX8_past.2.1 9 = .ok (.ireturn, 1) := by decide +kernel
theorem dX8_past_10 : decode mX8_past.2.1 10 = .ok (.iconst 0, 1) := by decide +kernel
theorem dX8_past_11 : decode mX8_past.2.1 11 = .ok (.istore_n 2, 1) := by decide +kernel
theorem dX8_past_12 : decode mX8_past.2.1 12 = .ok (.iconst 0, 1) := by decide +kernel
theorem dX8_past_13 : decode mX8_past.2.1 13 = .ok (.istore_n 3, 1) := by decide +kernel
theorem dX8_past_14 : decode mX8_past.2.1 14 = .ok (.iload_n 3, 1) := by decide +kernel
theorem dX8_past_15 : decode mX8_past.2.1 15 = .ok (.aload_n 0, 1) := by decide +kernel
theorem dX8_past_16 : decode mX8_past.2.1 16 = .ok (.getfield 89, 3) := by decide +kernel
theorem dX8_past_19 : decode mX8_past.2.1 19 = .ok (.if_icmp .ge 32, 3) := by decide +kernel
theorem dX8_past_22 : decode mX8_past.2.1 22 = .ok (.iload_n 2, 1) := by decide +kernel
theorem dX8_past_23 : decode mX8_past.2.1 23 = .ok (.aload_n 0, 1) := by decide +kernel
theorem dX8_past_24 : decode mX8_past.2.1 24 = .ok (.getfield 65, 3) := by decide +kernel
theorem dX8_past_27 : decode mX8_past.2.1 27 = .ok (.sipush 200, 3) := by decide +kernel
theorem dX8_past_30 : decode mX8_past.2.1 30 = .ok (.iload_n 1, 1) := by decide +kernel
theorem dX8_past_31 : decode mX8_past.2.1 31 = .ok (.imul, 1) := by decide +kernel
theorem dX8_past_32 : decode mX8_past.2.1 32 = .ok (.iload_n 3, 1) := by decide +kernel
theorem dX8_past_33 : decode mX8_past.2.1 33 = .ok (.iadd, 1) := by decide +kernel
theorem dX8_past_34 : decode mX8_past.2.1 34 = .ok (.baload, 1) := by decide +kernel
theorem dX8_past_35 : decode mX8_past.2.1 35 = .ok (.ifCond .eq 7, 3) := by decide +kernel
theorem dX8_past_38 : decode mX8_past.2.1 38 = .ok (.iconst 1, 1) := by decide +kernel
theorem dX8_past_39 : decode mX8_past.2.1 39 = .ok (.goto 4, 3) := by decide +kernel
theorem dX8_past_42 : decode mX8_past.2.1 42 = .ok (.iconst 0, 1) := by decide +kernel
theorem dX8_past_43 : decode mX8_past.2.1 43 = .ok (.iadd, 1) := by decide +kernel
theorem dX8_past_44 : decode mX8_past.2.1 44 = .ok (.istore_n 2, 1) := by decide +kernel
theorem dX8_past_45 : decode mX8_past.2.1 45 = .ok (.iinc 3 1, 3) := by decide +kernel
theorem dX8_past_48 : decode mX8_past.2.1 48 = .ok (.goto (-34), 3) := by decide +kernel
theorem dX8_past_51 : decode mX8_past.2.1 51 = .ok (.iload_n 2, 1) := by decide +kernel
theorem dX8_past_52 : decode mX8_past.2.1 52 = .ok (.ireturn, 1) := by decide +kernel
theorem dX8_chain_0 : decode mX8_chain.2.1 0 = .ok (.aload_n 0, 1) := by decide +kernel
theorem dX8_chain_1 : decode mX8_chain.2.1 1 = .ok (.iload_n 1, 1) := by decide +kernel
theorem dX8_chain_2 : decode mX8_chain.2.1 2 = .ok (.invokevirtual 142, 3) := by decide +kernel
theorem dX8_chain_5 : decode mX8_chain.2.1 5 = .ok (.ifCond .eq 11, 3) := by decide +kernel
theorem dX8_chain_8 : decode mX8_chain.2.1 8 = .ok (.aload_n 0, 1) := by decide +kernel
theorem dX8_chain_9 : decode mX8_chain.2.1 9 = .ok (.iload_n 2, 1) := by decide +kernel
theorem dX8_chain_10 : decode mX8_chain.2.1 10 = .ok (.invokevirtual 142, 3) := by decide +kernel
theorem dX8_chain_13 : decode mX8_chain.2.1 13 = .ok (.ifCond .ne 5, 3) := by decide +kernel
theorem dX8_chain_16 : decode mX8_chain.2.1 16 = .ok (.iconst (-1), 1) := by decide +kernel
theorem dX8_chain_17 : decode mX8_chain.2.1 17 = .ok (.ireturn, 1) := by decide +kernel
theorem dX8_chain_18 : decode mX8_chain.2.1 18 = .ok (.iconst 0, 1) := by decide +kernel
theorem dX8_chain_19 : decode mX8_chain.2.1 19 = .ok (.istore_n 3, 1) := by decide +kernel
theorem dX8_chain_20 : decode mX8_chain.2.1 20 = .ok (.iload_n 3, 1) := by decide +kernel
theorem dX8_chain_21 : decode mX8_chain.2.1 21 = .ok (.aload_n 0, 1) := by decide +kernel
theorem dX8_chain_22 : decode mX8_chain.2.1 22 = .ok (.getfield 89, 3) := by decide +kernel
theorem dX8_chain_25 : decode mX8_chain.2.1 25 = .ok (.if_icmp .ge 118, 3) := by decide +kernel
theorem dX8_chain_28 : decode mX8_chain.2.1 28 = .ok (.aload_n 0, 1) := by decide +kernel
theorem dX8_chain_29 : decode mX8_chain.2.1 29 = .ok (.getfield 75, 3) := by decide +kernel
theorem dX8_chain_32 : decode mX8_chain.2.1 32 = .ok (.iload_n 3, 1) := by decide +kernel
theorem dX8_chain_33 : decode mX8_chain.2.1 33 = .ok (.iload_n 3, 1) := by decide +kernel
theorem dX8_chain_34 : decode mX8_chain.2.1 34 = .ok (.iload_n 1, 1) := by decide +kernel
theorem dX8_chain_35 : decode mX8_chain.2.1 35 = .ok (.if_icmp .ne 7, 3) := by decide +kernel
theorem dX8_chain_38 : decode mX8_chain.2.1 38 = .ok (.iconst 1, 1) := by decide +kernel
theorem dX8_chain_39 : decode mX8_chain.2.1 39 = .ok (.goto 4, 3) := by decide +kernel
theorem dX8_chain_42 : decode mX8_chain.2.1 42 = .ok (.iconst 0, 1) := by decide +kernel
theorem dX8_chain_43 : decode mX8_chain.2.1 43 = .ok (.iastore, 1) := by decide +kernel
theorem dX8_chain_44 : decode mX8_chain.2.1 44 = .ok (.iload_n 1, 1) := by decide +kernel
theorem dX8_chain_45 : decode mX8_chain.2.1 45 = .ok (.istore 4, 2) := by decide +kernel
theorem dX8_chain_47 : decode mX8_chain.2.1 47 = .ok (.iload 4, 2) := by decide +kernel
theorem dX8_chain_49 : decode mX8_chain.2.1 49 = .ok (.iload_n 3, 1) := by decide +kernel
theorem dX8_chain_50 : decode mX8_chain.2.1 50 = .ok (.if_icmp .ge 87, 3) := by decide +kernel
theorem dX8_chain_53 : decode mX8_chain.2.1 53 = .ok (.aload_n 0, 1) := by decide +kernel
theorem dX8_chain_54 : decode mX8_chain.2.1 54 = .ok (.getfield 65, 3) := by decide +kernel
theorem dX8_chain_57 : decode mX8_chain.2.1 57 = .ok (.sipush 200, 3) := by decide +kernel
theorem dX8_chain_60 : decode mX8_chain.2.1 60 = .ok (.iload_n 3, 1) := by decide +kernel
theorem dX8_chain_61 : decode mX8_chain.2.1 61 = .ok (.imul, 1) := by decide +kernel
theorem dX8_chain_62 : decode mX8_chain.2.1 62 = .ok (.iload 4, 2) := by decide +kernel
theorem dX8_chain_64 : decode mX8_chain.2.1 64 = .ok (.iadd, 1) := by decide +kernel
theorem dX8_chain_65 : decode mX8_chain.2.1 65 = .ok (.baload, 1) := by decide +kernel
theorem dX8_chain_66 : decode mX8_chain.2.1 66 = .ok (.ifCond .eq 33, 3) := by decide +kernel
theorem dX8_chain_69 : decode mX8_chain.2.1 69 = .ok (.aload_n 0, 1) := by decide +kernel
theorem dX8_chain_70 : decode mX8_chain.2.1 70 = .ok (.getfield 75, 3) := by decide +kernel
theorem dX8_chain_73 : decode mX8_chain.2.1 73 = .ok (.iload 4, 2) := by decide +kernel
theorem dX8_chain_75 : decode mX8_chain.2.1 75 = .ok (.iaload, 1) := by decide +kernel
theorem dX8_chain_76 : decode mX8_chain.2.1 76 = .ok (.ifCond .le 23, 3) := by decide +kernel
theorem dX8_chain_79 : decode mX8_chain.2.1 79 = .ok (.aload_n 0, 1) := by decide +kernel
theorem dX8_chain_80 : decode mX8_chain.2.1 80 = .ok (.getfield 75, 3) := by decide +kernel
theorem dX8_chain_83 : decode mX8_chain.2.1 83 = .ok (.iload 4, 2) := by decide +kernel
theorem dX8_chain_85 : decode mX8_chain.2.1 85 = .ok (.iaload, 1) := by decide +kernel
theorem dX8_chain_86 : decode mX8_chain.2.1 86 = .ok (.aload_n 0, 1) := by decide +kernel
theorem dX8_chain_87 : decode mX8_chain.2.1 87 = .ok (.getfield 75, 3) := by decide +kernel
theorem dX8_chain_90 : decode mX8_chain.2.1 90 = .ok (.iload_n 3, 1) := by decide +kernel
theorem dX8_chain_91 : decode mX8_chain.2.1 91 = .ok (.iaload, 1) := by decide +kernel
theorem dX8_chain_92 : decode mX8_chain.2.1 92 = .ok (.if_icmp .lt 7, 3) := by decide +kernel
theorem dX8_chain_95 : decode mX8_chain.2.1 95 = .ok (.iconst 1, 1) := by decide +kernel
theorem dX8_chain_96 : decode mX8_chain.2.1 96 = .ok (.goto 4, 3) := by decide +kernel
theorem dX8_chain_99 : decode mX8_chain.2.1 99 = .ok (.iconst 0, 1) := by decide +kernel
theorem dX8_chain_100 : decode mX8_chain.2.1 100 = .ok (.istore 5, 2) := by decide +kernel
theorem dX8_chain_102 : decode mX8_chain.2.1 102 = .ok (.aload_n 0, 1) := by decide +kernel
theorem dX8_chain_103 : decode mX8_chain.2.1 103 = .ok (.getfield 75, 3) := by decide +kernel
theorem dX8_chain_106 : decode mX8_chain.2.1 106 = .ok (.iload_n 3, 1) := by decide +kernel
theorem dX8_chain_107 : decode mX8_chain.2.1 107 = .ok (.iload 5, 2) := by decide +kernel
theorem dX8_chain_109 : decode mX8_chain.2.1 109 = .ok (.ifCond .eq 15, 3) := by decide +kernel
theorem dX8_chain_112 : decode mX8_chain.2.1 112 = .ok (.aload_n 0, 1) := by decide +kernel
theorem dX8_chain_113 : decode mX8_chain.2.1 113 = .ok (.getfield 75, 3) := by decide +kernel
theorem dX8_chain_116 : decode mX8_chain.2.1 116 = .ok (.iload 4, 2) := by decide +kernel
theorem dX8_chain_118 : decode mX8_chain.2.1 118 = .ok (.iaload, 1) := by decide +kernel
theorem dX8_chain_119 : decode mX8_chain.2.1 119 = .ok (.iconst 1, 1) := by decide +kernel
theorem dX8_chain_120 : decode mX8_chain.2.1 120 = .ok (.iadd, 1) := by decide +kernel
theorem dX8_chain_121 : decode mX8_chain.2.1 121 = .ok (.goto 9, 3) := by decide +kernel
theorem dX8_chain_124 : decode mX8_chain.2.1 124 = .ok (.aload_n 0, 1) := by decide +kernel
theorem dX8_chain_125 : decode mX8_chain.2.1 125 = .ok (.getfield 75, 3) := by decide +kernel
theorem dX8_chain_128 : decode mX8_chain.2.1 128 = .ok (.iload_n 3, 1) := by decide +kernel
theorem dX8_chain_129 : decode mX8_chain.2.1 129 = .ok (.iaload, 1) := by decide +kernel
theorem dX8_chain_130 : decode mX8_chain.2.1 130 = .ok (.iastore, 1) := by decide +kernel
theorem dX8_chain_131 : decode mX8_chain.2.1 131 = .ok (.iinc 4 1, 3) := by decide +kernel
theorem dX8_chain_134 : decode mX8_chain.2.1 134 = .ok (.goto (-87), 3) := by decide +kernel
theorem dX8_chain_137 : decode mX8_chain.2.1 137 = .ok (.iinc 3 1, 3) := by decide +kernel
theorem dX8_chain_140 : decode mX8_chain.2.1 140 = .ok (.goto (-120), 3) := by decide +kernel
theorem dX8_chain_143 : decode mX8_chain.2.1 143 = .ok (.aload_n 0, 1) := by decide +kernel
theorem dX8_chain_144 : decode mX8_chain.2.1 144 = .ok (.getfield 65, 3) := by decide +kernel
theorem dX8_chain_147 : decode mX8_chain.2.1 147 = .ok (.sipush 200, 3) := by decide +kernel
theorem dX8_chain_150 : decode mX8_chain.2.1 150 = .ok (.iload_n 2, 1) := by decide +kernel
theorem dX8_chain_151 : decode mX8_chain.2.1 151 = .ok (.imul, 1) := by decide +kernel
theorem dX8_chain_152 : decode mX8_chain.2.1 152 = .ok (.iload_n 1, 1) := by decide +kernel
theorem dX8_chain_153 : decode mX8_chain.2.1 153 = .ok (.iadd, 1) := by decide +kernel
theorem dX8_chain_154 : decode mX8_chain.2.1 154 = .ok (.baload, 1) := by decide +kernel
theorem dX8_chain_155 : decode mX8_chain.2.1 155 = .ok (.ifCond .eq 12, 3) := by decide +kernel
theorem dX8_chain_158 : decode mX8_chain.2.1 158 = .ok (.aload_n 0, 1) := by decide +kernel
theorem dX8_chain_159 : decode mX8_chain.2.1 159 = .ok (.getfield 75, 3) := by decide +kernel
theorem dX8_chain_162 : decode mX8_chain.2.1 162 = .ok (.iload_n 2, 1) := by decide +kernel
theorem dX8_chain_163 : decode mX8_chain.2.1 163 = .ok (.iaload, 1) := by decide +kernel
theorem dX8_chain_164 : decode mX8_chain.2.1 164 = .ok (.goto 4, 3) := by decide +kernel
theorem dX8_chain_167 : decode mX8_chain.2.1 167 = .ok (.iconst 0, 1) := by decide +kernel
theorem dX8_chain_168 : decode mX8_chain.2.1 168 = .ok (.ireturn, 1) := by decide +kernel
theorem dX8_ran_0 : decode mX8_ran.2.1 0 = .ok (.aload_n 0, 1) := by decide +kernel
theorem dX8_ran_1 : decode mX8_ran.2.1 1 = .ok (.getfield 176, 3) := by decide +kernel
theorem dX8_ran_4 : decode mX8_ran.2.1 4 = .ok (.bipush 60, 2) := by decide +kernel
theorem dX8_ran_6 : decode mX8_ran.2.1 6 = .ok (.if_icmp .ge 13, 3) := by decide +kernel
theorem dX8_ran_9 : decode mX8_ran.2.1 9 = .ok (.aload_n 0, 1) := by decide +kernel
theorem dX8_ran_10 : decode mX8_ran.2.1 10 = .ok (.getfield 72, 3) := by decide +kernel
theorem dX8_ran_13 : decode mX8_ran.2.1 13 = .ok (.aload_n 0, 1) := by decide +kernel
theorem dX8_ran_14 : decode mX8_ran.2.1 14 = .ok (.getfield 176, 3) := by decide +kernel
theorem dX8_ran_17 : decode mX8_ran.2.1 17 = .ok (.iload_n 1, 1) := by decide +kernel
theorem dX8_ran_18 : decode mX8_ran.2.1 18 = .ok (.iastore, 1) := by decide +kernel
theorem dX8_ran_19 : decode mX8_ran.2.1 19 = .ok (.aload_n 0, 1) := by decide +kernel
theorem dX8_ran_20 : decode mX8_ran.2.1 20 = .ok (.dup, 1) := by decide +kernel
theorem dX8_ran_21 : decode mX8_ran.2.1 21 = .ok (.getfield 176, 3) := by decide +kernel
theorem dX8_ran_24 : decode mX8_ran.2.1 24 = .ok (.iconst 1, 1) := by decide +kernel
theorem dX8_ran_25 : decode mX8_ran.2.1 25 = .ok (.iadd, 1) := by decide +kernel
theorem dX8_ran_26 : decode mX8_ran.2.1 26 = .ok (.putfield 176, 3) := by decide +kernel
theorem dX8_ran_29 : decode mX8_ran.2.1 29 = .ok (.return_, 1) := by decide +kernel
theorem dX8_noteAge_0 : decode mX8_noteAge.2.1 0 = .ok (.aload_n 0, 1) := by decide +kernel
theorem dX8_noteAge_1 : decode mX8_noteAge.2.1 1 = .ok (.bipush 10, 2) := by decide +kernel
theorem dX8_noteAge_3 : decode mX8_noteAge.2.1 3 = .ok (.invokevirtual 185, 3) := by decide +kernel
theorem dX8_noteAge_6 : decode mX8_noteAge.2.1 6 = .ok (.iload_n 2, 1) := by decide +kernel
theorem dX8_noteAge_7 : decode mX8_noteAge.2.1 7 = .ok (.aload_n 0, 1) := by decide +kernel
theorem dX8_noteAge_8 : decode mX8_noteAge.2.1 8 = .ok (.getfield 25, 3) := by decide +kernel
theorem dX8_noteAge_11 : decode mX8_noteAge.2.1 11 = .ok (.iload_n 1, 1) := by decide +kernel
theorem dX8_noteAge_12 : decode mX8_noteAge.2.1 12 = .ok (.iaload, 1) := by decide +kernel
theorem dX8_noteAge_13 : decode mX8_noteAge.2.1 13 = .ok (.iadd, 1) := by decide +kernel
theorem dX8_noteAge_14 : decode mX8_noteAge.2.1 14 = .ok (.ireturn, 1) := by decide +kernel
theorem dX8_orderAge_0 : decode mX8_orderAge.2.1 0 = .ok (.aload_n 0, 1) := by decide +kernel
theorem dX8_orderAge_1 : decode mX8_orderAge.2.1 1 = .ok (.bipush 40, 2) := by decide +kernel
theorem dX8_orderAge_3 : decode mX8_orderAge.2.1 3 = .ok (.invokevirtual 185, 3) := by decide +kernel
theorem dX8_orderAge_6 : decode mX8_orderAge.2.1 6 = .ok (.aload_n 0, 1) := by decide +kernel
theorem dX8_orderAge_7 : decode mX8_orderAge.2.1 7 = .ok (.iload_n 1, 1) := by decide +kernel
theorem dX8_orderAge_8 : decode mX8_orderAge.2.1 8 = .ok (.iload_n 2, 1) := by decide +kernel
theorem dX8_orderAge_9 : decode mX8_orderAge.2.1 9 = .ok (.iconst 1, 1) := by decide +kernel
theorem dX8_orderAge_10 : decode mX8_orderAge.2.1 10 = .ok (.isub, 1) := by decide +kernel
theorem dX8_orderAge_11 : decode mX8_orderAge.2.1 11 = .ok (.invokevirtual 188, 3) := by decide +kernel
theorem dX8_orderAge_14 : decode mX8_orderAge.2.1 14 = .ok (.aload_n 0, 1) := by decide +kernel
theorem dX8_orderAge_15 : decode mX8_orderAge.2.1 15 = .ok (.getfield 28, 3) := by decide +kernel
theorem dX8_orderAge_18 : decode mX8_orderAge.2.1 18 = .ok (.iload_n 1, 1) := by decide +kernel
theorem dX8_orderAge_19 : decode mX8_orderAge.2.1 19 = .ok (.iaload, 1) := by decide +kernel
theorem dX8_orderAge_20 : decode mX8_orderAge.2.1 20 = .ok (.iadd, 1) := by decide +kernel
theorem dX8_orderAge_21 : decode mX8_orderAge.2.1 21 = .ok (.ireturn, 1) := by decide +kernel
theorem dX8_age_0 : decode mX8_age.2.1 0 = .ok (.aload_n 0, 1) := by decide +kernel
theorem dX8_age_1 : decode mX8_age.2.1 1 = .ok (.getfield 16, 3) := by decide +kernel
theorem dX8_age_4 : decode mX8_age.2.1 4 = .ok (.iload_n 1, 1) := by decide +kernel
theorem dX8_age_5 : decode mX8_age.2.1 5 = .ok (.iaload, 1) := by decide +kernel
theorem dX8_age_6 : decode mX8_age.2.1 6 = .ok (.ifCond .ne 10, 3) := by decide +kernel
theorem dX8_age_9 : decode mX8_age.2.1 9 = .ok (.aload_n 0, 1) := by decide +kernel
theorem dX8_age_10 : decode mX8_age.2.1 10 = .ok (.iload_n 1, 1) := by decide +kernel
theorem dX8_age_11 : decode mX8_age.2.1 11 = .ok (.iload_n 2, 1) := by decide +kernel
theorem dX8_age_12 : decode mX8_age.2.1 12 = .ok (.invokevirtual 188, 3) := by decide +kernel
theorem dX8_age_15 : decode mX8_age.2.1 15 = .ok (.ireturn, 1) := by decide +kernel
theorem dX8_age_16 : decode mX8_age.2.1 16 = .ok (.aload_n 0, 1) := by decide +kernel
theorem dX8_age_17 : decode mX8_age.2.1 17 = .ok (.getfield 16, 3) := by decide +kernel
theorem dX8_age_20 : decode mX8_age.2.1 20 = .ok (.iload_n 1, 1) := by decide +kernel
theorem dX8_age_21 : decode mX8_age.2.1 21 = .ok (.iaload, 1) := by decide +kernel
theorem dX8_age_22 : decode mX8_age.2.1 22 = .ok (.iconst 3, 1) := by decide +kernel
theorem dX8_age_23 : decode mX8_age.2.1 23 = .ok (.if_icmp .lt 10, 3) := by decide +kernel
theorem dX8_age_26 : decode mX8_age.2.1 26 = .ok (.aload_n 0, 1) := by decide +kernel
theorem dX8_age_27 : decode mX8_age.2.1 27 = .ok (.iload_n 1, 1) := by decide +kernel
theorem dX8_age_28 : decode mX8_age.2.1 28 = .ok (.iload_n 2, 1) := by decide +kernel
theorem dX8_age_29 : decode mX8_age.2.1 29 = .ok (.invokevirtual 191, 3) := by decide +kernel
theorem dX8_age_32 : decode mX8_age.2.1 32 = .ok (.ireturn, 1) := by decide +kernel
theorem dX8_age_33 : decode mX8_age.2.1 33 = .ok (.aload_n 0, 1) := by decide +kernel
theorem dX8_age_34 : decode mX8_age.2.1 34 = .ok (.bipush 20, 2) := by decide +kernel
theorem dX8_age_36 : decode mX8_age.2.1 36 = .ok (.invokevirtual 185, 3) := by decide +kernel
theorem dX8_age_39 : decode mX8_age.2.1 39 = .ok (.aload_n 0, 1) := by decide +kernel
theorem dX8_age_40 : decode mX8_age.2.1 40 = .ok (.iload_n 1, 1) := by decide +kernel
theorem dX8_age_41 : decode mX8_age.2.1 41 = .ok (.iload_n 2, 1) := by decide +kernel
theorem dX8_age_42 : decode mX8_age.2.1 42 = .ok (.invokevirtual 188, 3) := by decide +kernel
theorem dX8_age_45 : decode mX8_age.2.1 45 = .ok (.iconst 2, 1) := by decide +kernel
theorem dX8_age_46 : decode mX8_age.2.1 46 = .ok (.imul, 1) := by decide +kernel
theorem dX8_age_47 : decode mX8_age.2.1 47 = .ok (.aload_n 0, 1) := by decide +kernel
theorem dX8_age_48 : decode mX8_age.2.1 48 = .ok (.getfield 28, 3) := by decide +kernel
theorem dX8_age_51 : decode mX8_age.2.1 51 = .ok (.iload_n 1, 1) := by decide +kernel
theorem dX8_age_52 : decode mX8_age.2.1 52 = .ok (.iaload, 1) := by decide +kernel
theorem dX8_age_53 : decode mX8_age.2.1 53 = .ok (.iadd, 1) := by decide +kernel
theorem dX8_age_54 : decode mX8_age.2.1 54 = .ok (.ireturn, 1) := by decide +kernel
theorem dX8_noteBear_0 : decode mX8_noteBear.2.1 0 = .ok (.aload_n 0, 1) := by decide +kernel
theorem dX8_noteBear_1 : decode mX8_noteBear.2.1 1 = .ok (.bipush 11, 2) := by decide +kernel
theorem dX8_noteBear_3 : decode mX8_noteBear.2.1 3 = .ok (.invokevirtual 185, 3) := by decide +kernel
theorem dX8_noteBear_6 : decode mX8_noteBear.2.1 6 = .ok (.iload_n 2, 1) := by decide +kernel
theorem dX8_noteBear_7 : decode mX8_noteBear.2.1 7 = .ok (.iconst 3, 1) := by decide +kernel
theorem dX8_noteBear_8 : decode mX8_noteBear.2.1 8 = .ok (.imul, 1) := by decide +kernel
theorem dX8_noteBear_9 : decode mX8_noteBear.2.1 9 = .ok (.aload_n 0, 1) := by decide +kernel
theorem dX8_noteBear_10 : decode mX8_noteBear.2.1 10 = .ok (.iload_n 1, 1) := by decide +kernel
theorem dX8_noteBear_11 : decode mX8_noteBear.2.1 11 = .ok (.invokevirtual 179, 3) := by decide +kernel
theorem dX8_noteBear_14 : decode mX8_noteBear.2.1 14 = .ok (.iadd, 1) := by decide +kernel
theorem dX8_noteBear_15 : decode mX8_noteBear.2.1 15 = .ok (.ireturn, 1) := by decide +kernel
theorem dX8_bear_0 : decode mX8_bear.2.1 0 = .ok (.aload_n 0, 1) := by decide +kernel
theorem dX8_bear_1 : decode mX8_bear.2.1 1 = .ok (.getfield 16, 3) := by decide +kernel
theorem dX8_bear_4 : decode mX8_bear.2.1 4 = .ok (.iload_n 1, 1) := by decide +kernel
theorem dX8_bear_5 : decode mX8_bear.2.1 5 = .ok (.iaload, 1) := by decide +kernel
theorem dX8_bear_6 : decode mX8_bear.2.1 6 = .ok (.iconst 2, 1) := by decide +kernel
theorem dX8_bear_7 : decode mX8_bear.2.1 7 = .ok (.if_icmp .ne 25, 3) := by decide +kernel
theorem dX8_bear_10 : decode mX8_bear.2.1 10 = .ok (.aload_n 0, 1) := by decide +kernel
theorem dX8_bear_11 : decode mX8_bear.2.1 11 = .ok (.bipush 30, 2) := by decide +kernel
theorem dX8_bear_13 : decode mX8_bear.2.1 13 = .ok (.invokevirtual 185, 3) := by decide +kernel
theorem dX8_bear_16 : decode mX8_bear.2.1 16 = .ok (.aload_n 0, 1) := by decide +kernel
theorem dX8_bear_17 : decode mX8_bear.2.1 17 = .ok (.iload_n 1, 1) := by decide +kernel
theorem dX8_bear_18 : decode mX8_bear.2.1 18 = .ok (.iload_n 2, 1) := by decide +kernel
theorem dX8_bear_19 : decode mX8_bear.2.1 19 = .ok (.iconst 1, 1) := by decide +kernel
theorem dX8_bear_20 : decode mX8_bear.2.1 20 = .ok (.iadd, 1) := by decide +kernel
theorem dX8_bear_21 : decode mX8_bear.2.1 21 = .ok (.invokevirtual 194, 3) := by decide +kernel
theorem dX8_bear_24 : decode mX8_bear.2.1 24 = .ok (.aload_n 0, 1) := by decide +kernel
theorem dX8_bear_25 : decode mX8_bear.2.1 25 = .ok (.getfield 31, 3) := by decide +kernel
theorem dX8_bear_28 : decode mX8_bear.2.1 28 = .ok (.iload_n 1, 1) := by decide +kernel
theorem dX8_bear_29 : decode mX8_bear.2.1 29 = .ok (.iaload, 1) := by decide +kernel
theorem dX8_bear_30 : decode mX8_bear.2.1 30 = .ok (.isub, 1) := by decide +kernel
theorem dX8_bear_31 : decode mX8_bear.2.1 31 = .ok (.ireturn, 1) := by decide +kernel
theorem dX8_bear_32 : decode mX8_bear.2.1 32 = .ok (.aload_n 0, 1) := by decide +kernel
theorem dX8_bear_33 : decode mX8_bear.2.1 33 = .ok (.getfield 16, 3) := by decide +kernel
theorem dX8_bear_36 : decode mX8_bear.2.1 36 = .ok (.iload_n 1, 1) := by decide +kernel
theorem dX8_bear_37 : decode mX8_bear.2.1 37 = .ok (.iaload, 1) := by decide +kernel
theorem dX8_bear_38 : decode mX8_bear.2.1 38 = .ok (.iconst 5, 1) := by decide +kernel
theorem dX8_bear_39 : decode mX8_bear.2.1 39 = .ok (.if_icmp .ne 27, 3) := by decide +kernel
theorem dX8_bear_42 : decode mX8_bear.2.1 42 = .ok (.aload_n 0, 1) := by decide +kernel
theorem dX8_bear_43 : decode mX8_bear.2.1 43 = .ok (.bipush 60, 2) := by decide +kernel
theorem dX8_bear_45 : decode mX8_bear.2.1 45 = .ok (.invokevirtual 185, 3) := by decide +kernel
theorem dX8_bear_48 : decode mX8_bear.2.1 48 = .ok (.aload_n 0, 1) := by decide +kernel
theorem dX8_bear_49 : decode mX8_bear.2.1 49 = .ok (.iload_n 1, 1) := by decide +kernel
theorem dX8_bear_50 : decode mX8_bear.2.1 50 = .ok (.iload_n 2, 1) := by decide +kernel
theorem dX8_bear_51 : decode mX8_bear.2.1 51 = .ok (.invokevirtual 194, 3) := by decide +kernel
theorem dX8_bear_54 : decode mX8_bear.2.1 54 = .ok (.iconst 2, 1) := by decide +kernel
theorem dX8_bear_55 : decode mX8_bear.2.1 55 = .ok (.imul, 1) := by decide +kernel
theorem dX8_bear_56 : decode mX8_bear.2.1 56 = .ok (.istore_n 3, 1) := by decide +kernel
theorem dX8_bear_57 : decode mX8_bear.2.1 57 = .ok (.iload_n 3, 1) := by decide +kernel
theorem dX8_bear_58 : decode mX8_bear.2.1 58 = .ok (.aload_n 0, 1) := by decide +kernel
theorem dX8_bear_59 : decode mX8_bear.2.1 59 = .ok (.iload_n 1, 1) := by decide +kernel
theorem dX8_bear_60 : decode mX8_bear.2.1 60 = .ok (.iload_n 2, 1) := by decide +kernel
theorem dX8_bear_61 : decode mX8_bear.2.1 61 = .ok (.invokevirtual 191, 3) := by decide +kernel
theorem dX8_bear_64 : decode mX8_bear.2.1 64 = .ok (.iadd, 1) := by decide +kernel
theorem dX8_bear_65 : decode mX8_bear.2.1 65 = .ok (.ireturn, 1) := by decide +kernel
theorem dX8_bear_66 : decode mX8_bear.2.1 66 = .ok (.aload_n 0, 1) := by decide +kernel
theorem dX8_bear_67 : decode mX8_bear.2.1 67 = .ok (.iload_n 1, 1) := by decide +kernel
theorem dX8_bear_68 : decode mX8_bear.2.1 68 = .ok (.iload_n 2, 1) := by decide +kernel
theorem dX8_bear_69 : decode mX8_bear.2.1 69 = .ok (.invokevirtual 194, 3) := by decide +kernel
theorem dX8_bear_72 : decode mX8_bear.2.1 72 = .ok (.ireturn, 1) := by decide +kernel
theorem dX8_noteGive_0 : decode mX8_noteGive.2.1 0 = .ok (.aload_n 0, 1) := by decide +kernel
theorem dX8_noteGive_1 : decode mX8_noteGive.2.1 1 = .ok (.bipush 12, 2) := by decide +kernel
theorem dX8_noteGive_3 : decode mX8_noteGive.2.1 3 = .ok (.invokevirtual 185, 3) := by decide +kernel
theorem dX8_noteGive_6 : decode mX8_noteGive.2.1 6 = .ok (.aload_n 0, 1) := by decide +kernel
theorem dX8_noteGive_7 : decode mX8_noteGive.2.1 7 = .ok (.iload_n 1, 1) := by decide +kernel
theorem dX8_noteGive_8 : decode mX8_noteGive.2.1 8 = .ok (.iload_n 2, 1) := by decide +kernel
theorem dX8_noteGive_9 : decode mX8_noteGive.2.1 9 = .ok (.invokevirtual 197, 3) := by decide +kernel
theorem dX8_noteGive_12 : decode mX8_noteGive.2.1 12 = .ok (.istore_n 3, 1) := by decide +kernel
theorem dX8_noteGive_13 : decode mX8_noteGive.2.1 13 = .ok (.iload_n 3, 1) := by decide +kernel
theorem dX8_noteGive_14 : decode mX8_noteGive.2.1 14 = .ok (.aload_n 0, 1) := by decide +kernel
theorem dX8_noteGive_15 : decode mX8_noteGive.2.1 15 = .ok (.iload_n 1, 1) := by decide +kernel
theorem dX8_noteGive_16 : decode mX8_noteGive.2.1 16 = .ok (.iload_n 2, 1) := by decide +kernel
theorem dX8_noteGive_17 : decode mX8_noteGive.2.1 17 = .ok (.invokevirtual 200, 3) := by decide +kernel
theorem dX8_noteGive_20 : decode mX8_noteGive.2.1 20 = .ok (.iadd, 1) := by decide +kernel
theorem dX8_noteGive_21 : decode mX8_noteGive.2.1 21 = .ok (.ireturn, 1) := by decide +kernel
theorem dX8_giveOf_0 : decode mX8_giveOf.2.1 0 = .ok (.aload_n 0, 1) := by decide +kernel
theorem dX8_giveOf_1 : decode mX8_giveOf.2.1 1 = .ok (.getfield 16, 3) := by decide +kernel
theorem dX8_giveOf_4 : decode mX8_giveOf.2.1 4 = .ok (.iload_n 1, 1) := by decide +kernel
theorem dX8_giveOf_5 : decode mX8_giveOf.2.1 5 = .ok (.iaload, 1) := by decide +kernel
theorem dX8_giveOf_6 : decode mX8_giveOf.2.1 6 = .ok (.iconst 2, 1) := by decide +kernel
theorem dX8_giveOf_7 : decode mX8_giveOf.2.1 7 = .ok (.if_icmp .ne 26, 3) := by decide +kernel
theorem dX8_giveOf_10 : decode mX8_giveOf.2.1 10 = .ok (.aload_n 0, 1) := by decide +kernel
theorem dX8_giveOf_11 : decode mX8_giveOf.2.1 11 = .ok (.bipush 31, 2) := by decide +kernel
theorem dX8_giveOf_13 : decode mX8_giveOf.2.1 13 = .ok (.invokevirtual 185, 3) := by decide +kernel
theorem dX8_giveOf_16 : decode mX8_giveOf.2.1 16 = .ok (.aload_n 0, 1) := by decide +kernel
theorem dX8_giveOf_17 : decode mX8_giveOf.2.1 17 = .ok (.iload_n 1, 1) := by decide +kernel
theorem dX8_giveOf_18 : decode mX8_giveOf.2.1 18 = .ok (.iload_n 2, 1) := by decide +kernel
theorem dX8_giveOf_19 : decode mX8_giveOf.2.1 19 = .ok (.invokevirtual 203, 3) := by decide +kernel
theorem dX8_giveOf_22 : decode mX8_giveOf.2.1 22 = .ok (.aload_n 0, 1) := by decide +kernel
theorem dX8_giveOf_23 : decode mX8_giveOf.2.1 23 = .ok (.getfield 31, 3) := by decide +kernel
theorem dX8_giveOf_26 : decode mX8_giveOf.2.1 26 = .ok (.iload_n 1, 1) := by decide +kernel
theorem dX8_giveOf_27 : decode mX8_giveOf.2.1 27 = .ok (.iaload, 1) := by decide +kernel
theorem dX8_giveOf_28 : decode mX8_giveOf.2.1 28 = .ok (.bipush 7, 2) := by decide +kernel
theorem dX8_giveOf_30 : decode mX8_giveOf.2.1 30 = .ok (.imul, 1) := by decide +kernel
theorem dX8_giveOf_31 : decode mX8_giveOf.2.1 31 = .ok (.iadd, 1) := by decide +kernel
theorem dX8_giveOf_32 : decode mX8_giveOf.2.1 32 = .ok (.ireturn, 1) := by decide +kernel
theorem dX8_giveOf_33 : decode mX8_giveOf.2.1 33 = .ok (.aload_n 0, 1) := by decide +kernel
theorem dX8_giveOf_34 : decode mX8_giveOf.2.1 34 = .ok (.getfield 16, 3) := by decide +kernel
theorem dX8_giveOf_37 : decode mX8_giveOf.2.1 37 = .ok (.iload_n 1, 1) := by decide +kernel
theorem dX8_giveOf_38 : decode mX8_giveOf.2.1 38 = .ok (.iaload, 1) := by decide +kernel
theorem dX8_giveOf_39 : decode mX8_giveOf.2.1 39 = .ok (.iconst 4, 1) := by decide +kernel
theorem dX8_giveOf_40 : decode mX8_giveOf.2.1 40 = .ok (.if_icmp .lt 20, 3) := by decide +kernel
theorem dX8_giveOf_43 : decode mX8_giveOf.2.1 43 = .ok (.aload_n 0, 1) := by decide +kernel
theorem dX8_giveOf_44 : decode mX8_giveOf.2.1 44 = .ok (.bipush 50, 2) := by decide +kernel
theorem dX8_giveOf_46 : decode mX8_giveOf.2.1 46 = .ok (.invokevirtual 185, 3) := by decide +kernel
theorem dX8_giveOf_49 : decode mX8_giveOf.2.1 49 = .ok (.aload_n 0, 1) := by decide +kernel
theorem dX8_giveOf_50 : decode mX8_giveOf.2.1 50 = .ok (.iload_n 1, 1) := by decide +kernel
theorem dX8_giveOf_51 : decode mX8_giveOf.2.1 51 = .ok (.iload_n 2, 1) := by decide +kernel
theorem dX8_giveOf_52 : decode mX8_giveOf.2.1 52 = .ok (.iconst 2, 1) := by decide +kernel
theorem dX8_giveOf_53 : decode mX8_giveOf.2.1 53 = .ok (.imul, 1) := by decide +kernel
theorem dX8_giveOf_54 : decode mX8_giveOf.2.1 54 = .ok (.invokevirtual 203, 3) := by decide +kernel
theorem dX8_giveOf_57 : decode mX8_giveOf.2.1 57 = .ok (.iconst 1, 1) := by decide +kernel
theorem dX8_giveOf_58 : decode mX8_giveOf.2.1 58 = .ok (.iadd, 1) := by decide +kernel
theorem dX8_giveOf_59 : decode mX8_giveOf.2.1 59 = .ok (.ireturn, 1) := by decide +kernel
theorem dX8_giveOf_60 : decode mX8_giveOf.2.1 60 = .ok (.aload_n 0, 1) := by decide +kernel
theorem dX8_giveOf_61 : decode mX8_giveOf.2.1 61 = .ok (.iload_n 1, 1) := by decide +kernel
theorem dX8_giveOf_62 : decode mX8_giveOf.2.1 62 = .ok (.iload_n 2, 1) := by decide +kernel
theorem dX8_giveOf_63 : decode mX8_giveOf.2.1 63 = .ok (.invokevirtual 203, 3) := by decide +kernel
theorem dX8_giveOf_66 : decode mX8_giveOf.2.1 66 = .ok (.ireturn, 1) := by decide +kernel
theorem dX8_noteWait_0 : decode mX8_noteWait.2.1 0 = .ok (.aload_n 0, 1) := by decide +kernel
theorem dX8_noteWait_1 : decode mX8_noteWait.2.1 1 = .ok (.bipush 13, 2) := by decide +kernel
theorem dX8_noteWait_3 : decode mX8_noteWait.2.1 3 = .ok (.invokevirtual 185, 3) := by decide +kernel
theorem dX8_noteWait_6 : decode mX8_noteWait.2.1 6 = .ok (.aload_n 0, 1) := by decide +kernel
theorem dX8_noteWait_7 : decode mX8_noteWait.2.1 7 = .ok (.iload_n 1, 1) := by decide +kernel
theorem dX8_noteWait_8 : decode mX8_noteWait.2.1 8 = .ok (.iload_n 2, 1) := by decide +kernel
theorem dX8_noteWait_9 : decode mX8_noteWait.2.1 9 = .ok (.iconst 1, 1) := by decide +kernel
theorem dX8_noteWait_10 : decode mX8_noteWait.2.1 10 = .ok (.iadd, 1) := by decide +kernel
theorem dX8_noteWait_11 : decode mX8_noteWait.2.1 11 = .ok (.invokevirtual 206, 3) := by decide +kernel
theorem dX8_noteWait_14 : decode mX8_noteWait.2.1 14 = .ok (.iload_n 2, 1) := by decide +kernel
theorem dX8_noteWait_15 : decode mX8_noteWait.2.1 15 = .ok (.isub, 1) := by decide +kernel
theorem dX8_noteWait_16 : decode mX8_noteWait.2.1 16 = .ok (.ireturn, 1) := by decide +kernel
theorem dX8_waitOf_0 : decode mX8_waitOf.2.1 0 = .ok (.aload_n 0, 1) := by decide +kernel
theorem dX8_waitOf_1 : decode mX8_waitOf.2.1 1 = .ok (.getfield 16, 3) := by decide +kernel
theorem dX8_waitOf_4 : decode mX8_waitOf.2.1 4 = .ok (.iload_n 1, 1) := by decide +kernel
theorem dX8_waitOf_5 : decode mX8_waitOf.2.1 5 = .ok (.iaload, 1) := by decide +kernel
theorem dX8_waitOf_6 : decode mX8_waitOf.2.1 6 = .ok (.iconst 1, 1) := by decide +kernel
theorem dX8_waitOf_7 : decode mX8_waitOf.2.1 7 = .ok (.if_icmp .eq 13, 3) := by decide +kernel
theorem dX8_waitOf_10 : decode mX8_waitOf.2.1 10 = .ok (.aload_n 0, 1) := by decide +kernel
theorem dX8_waitOf_11 : decode mX8_waitOf.2.1 11 = .ok (.getfield 16, 3) := by decide +kernel
theorem dX8_waitOf_14 : decode mX8_waitOf.2.1 14 = .ok (.iload_n 1, 1) := by decide +kernel
theorem dX8_waitOf_15 : decode mX8_waitOf.2.1 15 = .ok (.iaload, 1) := by decide +kernel
theorem dX8_waitOf_16 : decode mX8_waitOf.2.1 16 = .ok (.iconst 2, 1) := by decide +kernel
theorem dX8_waitOf_17 : decode mX8_waitOf.2.1 17 = .ok (.if_icmp .ne 18, 3) := by decide +kernel
theorem dX8_waitOf_20 : decode mX8_waitOf.2.1 20 = .ok (.aload_n 0, 1) := by decide +kernel
theorem dX8_waitOf_21 : decode mX8_waitOf.2.1 21 = .ok (.bipush 21, 2) := by decide +kernel
theorem dX8_waitOf_23 : decode mX8_waitOf.2.1 23 = .ok (.invokevirtual 185, 3) := by decide +kernel
theorem dX8_waitOf_26 : decode mX8_waitOf.2.1 26 = .ok (.aload_n 0, 1) := by decide +kernel
theorem dX8_waitOf_27 : decode mX8_waitOf.2.1 27 = .ok (.iload_n 1, 1) := by decide +kernel
theorem dX8_waitOf_28 : decode mX8_waitOf.2.1 28 = .ok (.iload_n 2, 1) := by decide +kernel
theorem dX8_waitOf_29 : decode mX8_waitOf.2.1 29 = .ok (.invokevirtual 209, 3) := by decide +kernel
theorem dX8_waitOf_32 : decode mX8_waitOf.2.1 32 = .ok (.iconst 5, 1) := by decide +kernel
theorem dX8_waitOf_33 : decode mX8_waitOf.2.1 33 = .ok (.ixor, 1) := by decide +kernel
theorem dX8_waitOf_34 : decode mX8_waitOf.2.1 34 = .ok (.ireturn, 1) := by decide +kernel
theorem dX8_waitOf_35 : decode mX8_waitOf.2.1 35 = .ok (.aload_n 0, 1) := by decide +kernel
theorem dX8_waitOf_36 : decode mX8_waitOf.2.1 36 = .ok (.getfield 16, 3) := by decide +kernel
theorem dX8_waitOf_39 : decode mX8_waitOf.2.1 39 = .ok (.iload_n 1, 1) := by decide +kernel
theorem dX8_waitOf_40 : decode mX8_waitOf.2.1 40 = .ok (.iaload, 1) := by decide +kernel
theorem dX8_waitOf_41 : decode mX8_waitOf.2.1 41 = .ok (.iconst 5, 1) := by decide +kernel
theorem dX8_waitOf_42 : decode mX8_waitOf.2.1 42 = .ok (.if_icmp .ne 27, 3) := by decide +kernel
theorem dX8_waitOf_45 : decode mX8_waitOf.2.1 45 = .ok (.aload_n 0, 1) := by decide +kernel
theorem dX8_waitOf_46 : decode mX8_waitOf.2.1 46 = .ok (.bipush 61, 2) := by decide +kernel
theorem dX8_waitOf_48 : decode mX8_waitOf.2.1 48 = .ok (.invokevirtual 185, 3) := by decide +kernel
theorem dX8_waitOf_51 : decode mX8_waitOf.2.1 51 = .ok (.aload_n 0, 1) := by decide +kernel
theorem dX8_waitOf_52 : decode mX8_waitOf.2.1 52 = .ok (.iload_n 1, 1) := by decide +kernel
theorem dX8_waitOf_53 : decode mX8_waitOf.2.1 53 = .ok (.iload_n 2, 1) := by decide +kernel
theorem dX8_waitOf_54 : decode mX8_waitOf.2.1 54 = .ok (.iconst 2, 1) := by decide +kernel
theorem dX8_waitOf_55 : decode mX8_waitOf.2.1 55 = .ok (.iadd, 1) := by decide +kernel
theorem dX8_waitOf_56 : decode mX8_waitOf.2.1 56 = .ok (.invokevirtual 209, 3) := by decide +kernel
theorem dX8_waitOf_59 : decode mX8_waitOf.2.1 59 = .ok (.istore_n 3, 1) := by decide +kernel
theorem dX8_waitOf_60 : decode mX8_waitOf.2.1 60 = .ok (.iload_n 3, 1) := by decide +kernel
theorem dX8_waitOf_61 : decode mX8_waitOf.2.1 61 = .ok (.aload_n 0, 1) := by decide +kernel
theorem dX8_waitOf_62 : decode mX8_waitOf.2.1 62 = .ok (.iload_n 1, 1) := by decide +kernel
theorem dX8_waitOf_63 : decode mX8_waitOf.2.1 63 = .ok (.iload_n 2, 1) := by decide +kernel
theorem dX8_waitOf_64 : decode mX8_waitOf.2.1 64 = .ok (.invokevirtual 200, 3) := by decide +kernel
theorem dX8_waitOf_67 : decode mX8_waitOf.2.1 67 = .ok (.iadd, 1) := by decide +kernel
theorem dX8_waitOf_68 : decode mX8_waitOf.2.1 68 = .ok (.ireturn, 1) := by decide +kernel
theorem dX8_waitOf_69 : decode mX8_waitOf.2.1 69 = .ok (.aload_n 0, 1) := by decide +kernel
theorem dX8_waitOf_70 : decode mX8_waitOf.2.1 70 = .ok (.iload_n 1, 1) := by decide +kernel
theorem dX8_waitOf_71 : decode mX8_waitOf.2.1 71 = .ok (.iload_n 2, 1) := by decide +kernel
theorem dX8_waitOf_72 : decode mX8_waitOf.2.1 72 = .ok (.invokevirtual 209, 3) := by decide +kernel
theorem dX8_waitOf_75 : decode mX8_waitOf.2.1 75 = .ok (.ireturn, 1) := by decide +kernel
theorem dX8_act_0 : decode mX8_act.2.1 0 = .ok (.aload_n 0, 1) := by decide +kernel
theorem dX8_act_1 : decode mX8_act.2.1 1 = .ok (.iload_n 1, 1) := by decide +kernel
theorem dX8_act_2 : decode mX8_act.2.1 2 = .ok (.invokevirtual 142, 3) := by decide +kernel
theorem dX8_act_5 : decode mX8_act.2.1 5 = .ok (.ifCond .eq 12, 3) := by decide +kernel
theorem dX8_act_8 : decode mX8_act.2.1 8 = .ok (.iload_n 2, 1) := by decide +kernel
theorem dX8_act_9 : decode mX8_act.2.1 9 = .ok (.iconst 0, 1) := by decide +kernel
theorem dX8_act_10 : decode mX8_act.2.1 10 = .ok (.iconst 3, 1) := by decide +kernel
theorem dX8_act_11 : decode mX8_act.2.1 11 = .ok (.invokestatic 82, 3) := by decide +kernel
theorem dX8_act_14 : decode mX8_act.2.1 14 = .ok (.ifCond .ne 9, 3) := by decide +kernel
theorem dX8_act_17 : decode mX8_act.2.1 17 = .ok (.aload_n 0, 1) := by decide +kernel
theorem dX8_act_18 : decode mX8_act.2.1 18 = .ok (.iconst 1, 1) := by decide +kernel
theorem dX8_act_19 : decode mX8_act.2.1 19 = .ok (.invokevirtual 103, 3) := by decide +kernel
theorem dX8_act_22 : decode mX8_act.2.1 22 = .ok (.ireturn, 1) := by decide +kernel
theorem dX8_act_23 : decode mX8_act.2.1 23 = .ok (.aload_n 0, 1) := by decide +kernel
theorem dX8_act_24 : decode mX8_act.2.1 24 = .ok (.iconst 0, 1) := by decide +kernel
theorem dX8_act_25 : decode mX8_act.2.1 25 = .ok (.putfield 176, 3) := by decide +kernel
theorem dX8_act_28 : decode mX8_act.2.1 28 = .ok (.iload_n 2, 1) := by decide +kernel
theorem dX8_act_29 : decode mX8_act.2.1 29 = .ok (.ifCond .ne 12, 3) := by decide +kernel
theorem dX8_act_32 : decode mX8_act.2.1 32 = .ok (.aload_n 0, 1) := by decide +kernel
theorem dX8_act_33 : decode mX8_act.2.1 33 = .ok (.iload_n 1, 1) := by decide +kernel
theorem dX8_act_34 : decode mX8_act.2.1 34 = .ok (.iload_n 3, 1) := by decide +kernel
theorem dX8_act_35 : decode mX8_act.2.1 35 = .ok (.invokevirtual 197, 3) := by decide +kernel
theorem dX8_act_38 : decode mX8_act.2.1 38 = .ok (.goto 37, 3) := by decide +kernel
theorem dX8_act_41 : decode mX8_act.2.1 41 = .ok (.iload_n 2, 1) := by decide +kernel
theorem dX8_act_42 : decode mX8_act.2.1 42 = .ok (.iconst 1, 1) := by decide +kernel
theorem dX8_act_43 : decode mX8_act.2.1 43 = .ok (.if_icmp .ne 12, 3) := by decide +kernel
theorem dX8_act_46 : decode mX8_act.2.1 46 = .ok (.aload_n 0, 1) := by decide +kernel
theorem dX8_act_47 : decode mX8_act.2.1 47 = .ok (.iload_n 1, 1) := by decide +kernel
theorem dX8_act_48 : decode mX8_act.2.1 48 = .ok (.iload_n 3, 1) := by decide +kernel
theorem dX8_act_49 : decode mX8_act.2.1 49 = .ok (.invokevirtual 200, 3) := by decide +kernel
theorem dX8_act_52 : decode mX8_act.2.1 52 = .ok (.goto 23, 3) := by decide +kernel
theorem dX8_act_55 : decode mX8_act.2.1 55 = .ok (.iload_n 2, 1) := by decide +kernel
theorem dX8_act_56 : decode mX8_act.2.1 56 = .ok (.iconst 2, 1) := by decide +kernel
theorem dX8_act_57 : decode mX8_act.2.1 57 = .ok (.if_icmp .ne 12, 3) := by decide +kernel
theorem dX8_act_60 : decode mX8_act.2.1 60 = .ok (.aload_n 0, 1) := by decide +kernel
theorem dX8_act_61 : decode mX8_act.2.1 61 = .ok (.iload_n 1, 1) := by decide +kernel
theorem dX8_act_62 : decode mX8_act.2.1 62 = .ok (.iload_n 3, 1) := by decide +kernel
theorem dX8_act_63 : decode mX8_act.2.1 63 = .ok (.invokevirtual 206, 3) := by decide +kernel
theorem dX8_act_66 : decode mX8_act.2.1 66 = .ok (.goto 9, 3) := by decide +kernel
theorem dX8_act_69 : decode mX8_act.2.1 69 = .ok (.aload_n 0, 1) := by decide +kernel
theorem dX8_act_70 : decode mX8_act.2.1 70 = .ok (.iload_n 1, 1) := by decide +kernel
theorem dX8_act_71 : decode mX8_act.2.1 71 = .ok (.iload_n 3, 1) := by decide +kernel
theorem dX8_act_72 : decode mX8_act.2.1 72 = .ok (.invokevirtual 212, 3) := by decide +kernel
theorem dX8_act_75 : decode mX8_act.2.1 75 = .ok (.istore 4, 2) := by decide +kernel
theorem dX8_act_77 : decode mX8_act.2.1 77 = .ok (.aload_n 0, 1) := by decide +kernel
theorem dX8_act_78 : decode mX8_act.2.1 78 = .ok (.iload 4, 2) := by decide +kernel
theorem dX8_act_80 : decode mX8_act.2.1 80 = .ok (.invokevirtual 106, 3) := by decide +kernel
theorem dX8_act_83 : decode mX8_act.2.1 83 = .ok (.ireturn, 1) := by decide +kernel
theorem dX8_trace_0 : decode mX8_trace.2.1 0 = .ok (.iload_n 1, 1) := by decide +kernel
theorem dX8_trace_1 : decode mX8_trace.2.1 1 = .ok (.iconst 0, 1) := by decide +kernel
theorem dX8_trace_2 : decode mX8_trace.2.1 2 = .ok (.aload_n 0, 1) := by decide +kernel
theorem dX8_trace_3 : decode mX8_trace.2.1 3 = .ok (.getfield 176, 3) := by decide +kernel
theorem dX8_trace_6 : decode mX8_trace.2.1 6 = .ok (.bipush 60, 2) := by decide +kernel
theorem dX8_trace_8 : decode mX8_trace.2.1 8 = .ok (.if_icmp .ge 10, 3) := by decide +kernel
theorem dX8_trace_11 : decode mX8_trace.2.1 11 = .ok (.aload_n 0, 1) := by decide +kernel
theorem dX8_trace_12 : decode mX8_trace.2.1 12 = .ok (.getfield 176, 3) := by decide +kernel
theorem dX8_trace_15 : decode mX8_trace.2.1 15 = .ok (.goto 5, 3) := by decide +kernel
theorem dX8_trace_18 : decode mX8_trace.2.1 18 = .ok (.bipush 60, 2) := by decide +kernel
theorem dX8_trace_20 : decode mX8_trace.2.1 20 = .ok (.iconst 1, 1) := by decide +kernel
theorem dX8_trace_21 : decode mX8_trace.2.1 21 = .ok (.isub, 1) := by decide +kernel
theorem dX8_trace_22 : decode mX8_trace.2.1 22 = .ok (.invokestatic 82, 3) := by decide +kernel
theorem dX8_trace_25 : decode mX8_trace.2.1 25 = .ok (.ifCond .eq 12, 3) := by decide +kernel
theorem dX8_trace_28 : decode mX8_trace.2.1 28 = .ok (.aload_n 0, 1) := by decide +kernel
theorem dX8_trace_29 : decode mX8_trace.2.1 29 = .ok (.getfield 72, 3) := by decide +kernel
theorem dX8_trace_32 : decode mX8_trace.2.1 32 = .ok (.iload_n 1, 1) := by decide +kernel
theorem dX8_trace_33 : decode mX8_trace.2.1 33 = .ok (.iaload, 1) := by decide +kernel
theorem dX8_trace_34 : decode mX8_trace.2.1 34 = .ok (.goto 4, 3) := by decide +kernel
theorem dX8_trace_37 : decode mX8_trace.2.1 37 = .ok (.iconst (-1), 1) := by decide +kernel
theorem dX8_trace_38 : decode mX8_trace.2.1 38 = .ok (.ireturn, 1) := by decide +kernel
theorem dX8_bare_0 : decode mX8_bare.2.1 0 = .ok (.aload_n 0, 1) := by decide +kernel
theorem dX8_bare_1 : decode mX8_bare.2.1 1 = .ok (.iload_n 1, 1) := by decide +kernel
theorem dX8_bare_2 : decode mX8_bare.2.1 2 = .ok (.invokevirtual 113, 3) := by decide +kernel
theorem dX8_bare_5 : decode mX8_bare.2.1 5 = .ok (.ifCond .eq 21, 3) := by decide +kernel
theorem dX8_bare_8 : decode mX8_bare.2.1 8 = .ok (.iload_n 2, 1) := by decide +kernel
theorem dX8_bare_9 : decode mX8_bare.2.1 9 = .ok (.iconst 0, 1) := by decide +kernel
theorem dX8_bare_10 : decode mX8_bare.2.1 10 = .ok (.bipush 39, 2) := by decide +kernel
theorem dX8_bare_12 : decode mX8_bare.2.1 12 = .ok (.invokestatic 82, 3) := by decide +kernel
theorem dX8_bare_15 : decode mX8_bare.2.1 15 = .ok (.ifCond .eq 11, 3) := by decide +kernel
theorem dX8_bare_18 : decode mX8_bare.2.1 18 = .ok (.aload_n 0, 1) := by decide +kernel
theorem dX8_bare_19 : decode mX8_bare.2.1 19 = .ok (.iload_n 3, 1) := by decide +kernel
theorem dX8_bare_20 : decode mX8_bare.2.1 20 = .ok (.invokevirtual 142, 3) := by decide +kernel
theorem dX8_bare_23 : decode mX8_bare.2.1 23 = .ok (.ifCond .ne 9, 3) := by decide +kernel
theorem dX8_bare_26 : decode mX8_bare.2.1 26 = .ok (.aload_n 0, 1) := by decide +kernel
theorem dX8_bare_27 : decode mX8_bare.2.1 27 = .ok (.iconst 1, 1) := by decide +kernel
theorem dX8_bare_28 : decode mX8_bare.2.1 28 = .ok (.invokevirtual 103, 3) := by decide +kernel
theorem dX8_bare_31 : decode mX8_bare.2.1 31 = .ok (.ireturn, 1) := by decide +kernel
theorem dX8_bare_32 : decode mX8_bare.2.1 32 = .ok (.aload_n 0, 1) := by decide +kernel
theorem dX8_bare_33 : decode mX8_bare.2.1 33 = .ok (.getfield 69, 3) := by decide +kernel
theorem dX8_bare_36 : decode mX8_bare.2.1 36 = .ok (.bipush 40, 2) := by decide +kernel
theorem dX8_bare_38 : decode mX8_bare.2.1 38 = .ok (.iload_n 1, 1) := by decide +kernel
theorem dX8_bare_39 : decode mX8_bare.2.1 39 = .ok (.imul, 1) := by decide +kernel
theorem dX8_bare_40 : decode mX8_bare.2.1 40 = .ok (.iload_n 2, 1) := by decide +kernel
theorem dX8_bare_41 : decode mX8_bare.2.1 41 = .ok (.iadd, 1) := by decide +kernel
theorem dX8_bare_42 : decode mX8_bare.2.1 42 = .ok (.iaload, 1) := by decide +kernel
theorem dX8_bare_43 : decode mX8_bare.2.1 43 = .ok (.ifCond .eq 9, 3) := by decide +kernel
theorem dX8_bare_46 : decode mX8_bare.2.1 46 = .ok (.aload_n 0, 1) := by decide +kernel
theorem dX8_bare_47 : decode mX8_bare.2.1 47 = .ok (.iconst 3, 1) := by decide +kernel
theorem dX8_bare_48 : decode mX8_bare.2.1 48 = .ok (.invokevirtual 103, 3) := by decide +kernel
theorem dX8_bare_51 : decode mX8_bare.2.1 51 = .ok (.ireturn, 1) := by decide +kernel
theorem dX8_bare_52 : decode mX8_bare.2.1 52 = .ok (.aload_n 0, 1) := by decide +kernel
theorem dX8_bare_53 : decode mX8_bare.2.1 53 = .ok (.getfield 69, 3) := by decide +kernel
theorem dX8_bare_56 : decode mX8_bare.2.1 56 = .ok (.bipush 40, 2) := by decide +kernel
theorem dX8_bare_58 : decode mX8_bare.2.1 58 = .ok (.iload_n 1, 1) := by decide +kernel
theorem dX8_bare_59 : decode mX8_bare.2.1 59 = .ok (.imul, 1) := by decide +kernel
theorem dX8_bare_60 : decode mX8_bare.2.1 60 = .ok (.iload_n 2, 1) := by decide +kernel
theorem dX8_bare_61 : decode mX8_bare.2.1 61 = .ok (.iadd, 1) := by decide +kernel
theorem dX8_bare_62 : decode mX8_bare.2.1 62 = .ok (.iconst (-1), 1) := by decide +kernel
theorem dX8_bare_63 : decode mX8_bare.2.1 63 = .ok (.iload_n 3, 1) := by decide +kernel
theorem dX8_bare_64 : decode mX8_bare.2.1 64 = .ok (.isub, 1) := by decide +kernel
theorem dX8_bare_65 : decode mX8_bare.2.1 65 = .ok (.iastore, 1) := by decide +kernel
theorem dX8_bare_66 : decode mX8_bare.2.1 66 = .ok (.aload_n 0, 1) := by decide +kernel
theorem dX8_bare_67 : decode mX8_bare.2.1 67 = .ok (.iconst 1, 1) := by decide +kernel
theorem dX8_bare_68 : decode mX8_bare.2.1 68 = .ok (.invokevirtual 106, 3) := by decide +kernel
theorem dX8_bare_71 : decode mX8_bare.2.1 71 = .ok (.ireturn, 1) := by decide +kernel
theorem dX8_slot_0 : decode mX8_slot.2.1 0 = .ok (.aload_n 0, 1) := by decide +kernel
theorem dX8_slot_1 : decode mX8_slot.2.1 1 = .ok (.iload_n 1, 1) := by decide +kernel
theorem dX8_slot_2 : decode mX8_slot.2.1 2 = .ok (.invokevirtual 113, 3) := by decide +kernel
theorem dX8_slot_5 : decode mX8_slot.2.1 5 = .ok (.ifCond .eq 13, 3) := by decide +kernel
theorem dX8_slot_8 : decode mX8_slot.2.1 8 = .ok (.iload_n 2, 1) := by decide +kernel
theorem dX8_slot_9 : decode mX8_slot.2.1 9 = .ok (.iconst 0, 1) := by decide +kernel
theorem dX8_slot_10 : decode mX8_slot.2.1 10 = .ok (.bipush 39, 2) := by decide +kernel
theorem dX8_slot_12 : decode mX8_slot.2.1 12 = .ok (.invokestatic 82, 3) := by decide +kernel
theorem dX8_slot_15 : decode mX8_slot.2.1 15 = .ok (.ifCond .ne 5, 3) := by decide +kernel
theorem dX8_slot_18 : decode mX8_slot.2.1 18 = .ok (.iconst (-1), 1) := by decide +kernel
theorem dX8_slot_19 : decode mX8_slot.2.1 19 = .ok (.ireturn, 1) := by decide +kernel
theorem dX8_slot_20 : decode mX8_slot.2.1 20 = .ok (.aload_n 0, 1) := by decide +kernel
theorem dX8_slot_21 : decode mX8_slot.2.1 21 = .ok (.getfield 69, 3) := by decide +kernel
theorem dX8_slot_24 : decode mX8_slot.2.1 24 = .ok (.bipush 40, 2) := by decide +kernel
theorem dX8_slot_26 : decode mX8_slot.2.1 26 = .ok (.iload_n 1, 1) := by decide +kernel
theorem dX8_slot_27 : decode mX8_slot.2.1 27 = .ok (.imul, 1) := by decide +kernel
theorem dX8_slot_28 : decode mX8_slot.2.1 28 = .ok (.iload_n 2, 1) := by decide +kernel
theorem dX8_slot_29 : decode mX8_slot.2.1 29 = .ok (.iadd, 1) := by decide +kernel
theorem dX8_slot_30 : decode mX8_slot.2.1 30 = .ok (.iaload, 1) := by decide +kernel
theorem dX8_slot_31 : decode mX8_slot.2.1 31 = .ok (.istore_n 3, 1) := by decide +kernel
theorem dX8_slot_32 : decode mX8_slot.2.1 32 = .ok (.iload_n 3, 1) := by decide +kernel
theorem dX8_slot_33 : decode mX8_slot.2.1 33 = .ok (.ifCond .ne 7, 3) := by decide +kernel
theorem dX8_slot_36 : decode mX8_slot.2.1 36 = .ok (.iconst 0, 1) := by decide +kernel
theorem dX8_slot_37 : decode mX8_slot.2.1 37 = .ok (.goto 21, 3) := by decide +kernel
theorem dX8_slot_40 : decode mX8_slot.2.1 40 = .ok (.iload_n 3, 1) := by decide +kernel
theorem dX8_slot_41 : decode mX8_slot.2.1 41 = .ok (.ifCond .ge 7, 3) := by decide +kernel
theorem dX8_slot_44 : decode mX8_slot.2.1 44 = .ok (.iconst 1, 1) := by decide +kernel
theorem dX8_slot_45 : decode mX8_slot.2.1 45 = .ok (.goto 13, 3) := by decide +kernel
theorem dX8_slot_48 : decode mX8_slot.2.1 48 = .ok (.iconst 2, 1) := by decide +kernel
theorem dX8_slot_49 : decode mX8_slot.2.1 49 = .ok (.aload_n 0, 1) := by decide +kernel
theorem dX8_slot_50 : decode mX8_slot.2.1 50 = .ok (.getfield 16, 3) := by decide +kernel
theorem dX8_slot_53 : decode mX8_slot.2.1 53 = .ok (.iload_n 3, 1) := by decide +kernel
theorem dX8_slot_54 : decode mX8_slot.2.1 54 = .ok (.iconst 1, 1) := by decide +kernel
theorem dX8_slot_55 : decode mX8_slot.2.1 55 = .ok (.isub, 1) := by decide +kernel
theorem dX8_slot_56 : decode mX8_slot.2.1 56 = .ok (.iaload, 1) := by decide +kernel
theorem dX8_slot_57 : decode mX8_slot.2.1 57 = .ok (.iadd, 1) := by decide +kernel
theorem dX8_slot_58 : decode mX8_slot.2.1 58 = .ok (.ireturn, 1) := by decide +kernel
theorem dX8_firstRow_0 : decode mX8_firstRow.2.1 0 = .ok (.iconst 0, 1) := by decide +kernel
theorem dX8_firstRow_1 : decode mX8_firstRow.2.1 1 = .ok (.istore_n 2, 1) := by decide +kernel
theorem dX8_firstRow_2 : decode mX8_firstRow.2.1 2 = .ok (.aload_n 0, 1) := by decide +kernel
theorem dX8_firstRow_3 : decode mX8_firstRow.2.1 3 = .ok (.getfield 40, 3) := by decide +kernel
theorem dX8_firstRow_6 : decode mX8_firstRow.2.1 6 = .ok (.iload_n 1, 1) := by decide +kernel
theorem dX8_firstRow_7 : decode mX8_firstRow.2.1 7 = .ok (.iaload, 1) := by decide +kernel
theorem dX8_firstRow_8 : decode mX8_firstRow.2.1 8 = .ok (.iload_n 2, 1) := by decide +kernel
theorem dX8_firstRow_9 : decode mX8_firstRow.2.1 9 = .ok (.ishr, 1) := by decide +kernel
theorem dX8_firstRow_10 : decode mX8_firstRow.2.1 10 = .ok (.iconst 1, 1) := by decide +kernel
theorem dX8_firstRow_11 : decode mX8_firstRow.2.1 11 = .ok (.iand, 1) := by decide +kernel
theorem dX8_firstRow_12 : decode mX8_firstRow.2.1 12 = .ok (.ifCond .ne 9, 3) := by decide +kernel
theorem dX8_firstRow_15 : decode mX8_firstRow.2.1 15 = .ok (.iinc 2 1, 3) := by decide +kernel
theorem dX8_firstRow_18 : decode mX8_firstRow.2.1 18 = .ok (.goto (-16), 3) := by decide +kernel
theorem dX8_firstRow_21 : decode mX8_firstRow.2.1 21 = .ok (.iload_n 2, 1) := by decide +kernel
theorem dX8_firstRow_22 : decode mX8_firstRow.2.1 22 = .ok (.ireturn, 1) := by decide +kernel
theorem dX8_sumOf_0 : decode mX8_sumOf.2.1 0 = .ok (.iconst 0, 1) := by decide +kernel
theorem dX8_sumOf_1 : decode mX8_sumOf.2.1 1 = .ok (.istore 5, 2) := by decide +kernel
theorem dX8_sumOf_3 : decode mX8_sumOf.2.1 3 = .ok (.iload_n 3, 1) := by decide +kernel
theorem dX8_sumOf_4 : decode mX8_sumOf.2.1 4 = .ok (.istore 6, 2) := by decide +kernel
theorem dX8_sumOf_6 : decode mX8_sumOf.2.1 6 = .ok (.iload 6, 2) := by decide +kernel
theorem dX8_sumOf_8 : decode mX8_sumOf.2.1 8 = .ok (.iload_n 3, 1) := by decide +kernel
theorem dX8_sumOf_9 : decode mX8_sumOf.2.1 9 = .ok (.iload 4, 2) := by decide +kernel
theorem dX8_sumOf_11 : decode mX8_sumOf.2.1 11 = .ok (.iadd, 1) := by decide +kernel
theorem dX8_sumOf_12 : decode mX8_sumOf.2.1 12 = .ok (.if_icmp .ge 31, 3) := by decide +kernel
theorem dX8_sumOf_15 : decode mX8_sumOf.2.1 15 = .ok (.iload 5, 2) := by decide +kernel
theorem dX8_sumOf_17 : decode mX8_sumOf.2.1 17 = .ok (.aload_n 0, 1) := by decide +kernel
theorem dX8_sumOf_18 : decode mX8_sumOf.2.1 18 = .ok (.getfield 43, 3) := by decide +kernel
theorem dX8_sumOf_21 : decode mX8_sumOf.2.1 21 = .ok (.bipush 48, 2) := by decide +kernel
theorem dX8_sumOf_23 : decode mX8_sumOf.2.1 23 = .ok (.iload_n 1, 1) := by decide +kernel
theorem dX8_sumOf_24 : decode mX8_sumOf.2.1 24 = .ok (.imul, 1) := by decide +kernel
theorem dX8_sumOf_25 : decode mX8_sumOf.2.1 25 = .ok (.bipush 8, 2) := by decide +kernel
theorem dX8_sumOf_27 : decode mX8_sumOf.2.1 27 = .ok (.iload_n 2, 1) := by decide +kernel
theorem dX8_sumOf_28 : decode mX8_sumOf.2.1 28 = .ok (.imul, 1) := by decide +kernel
theorem dX8_sumOf_29 : decode mX8_sumOf.2.1 29 = .ok (.iadd, 1) := by decide +kernel
theorem dX8_sumOf_30 : decode mX8_sumOf.2.1 30 = .ok (.iload 6, 2) := by decide +kernel
theorem dX8_sumOf_32 : decode mX8_sumOf.2.1 32 = .ok (.iadd, 1) := by decide +kernel
theorem dX8_sumOf_33 : decode mX8_sumOf.2.1 33 = .ok (.iaload, 1) := by decide +kernel
theorem dX8_sumOf_34 : decode mX8_sumOf.2.1 34 = .ok (.iadd, 1) := by decide +kernel
theorem dX8_sumOf_35 : decode mX8_sumOf.2.1 35 = .ok (.istore 5, 2) := by decide +kernel
theorem dX8_sumOf_37 : decode mX8_sumOf.2.1 37 = .ok (.iinc 6 1, 3) := by decide +kernel
theorem dX8_sumOf_40 : decode mX8_sumOf.2.1 40 = .ok (.goto (-34), 3) := by decide +kernel
theorem dX8_sumOf_43 : decode mX8_sumOf.2.1 43 = .ok (.iload 5, 2) := by decide +kernel
theorem dX8_sumOf_45 : decode mX8_sumOf.2.1 45 = .ok (.ireturn, 1) := by decide +kernel
theorem dX8_forge_0 : decode mX8_forge.2.1 0 = .ok (.aload_n 0, 1) := by decide +kernel
theorem dX8_forge_1 : decode mX8_forge.2.1 1 = .ok (.iload_n 1, 1) := by decide +kernel
theorem dX8_forge_2 : decode mX8_forge.2.1 2 = .ok (.invokevirtual 113, 3) := by decide +kernel
theorem dX8_forge_5 : decode mX8_forge.2.1 5 = .ok (.ifCond .eq 35, 3) := by decide +kernel
theorem dX8_forge_8 : decode mX8_forge.2.1 8 = .ok (.iload_n 2, 1) := by decide +kernel
theorem dX8_forge_9 : decode mX8_forge.2.1 9 = .ok (.iconst 0, 1) := by decide +kernel
theorem dX8_forge_10 : decode mX8_forge.2.1 10 = .ok (.bipush 39, 2) := by decide +kernel
theorem dX8_forge_12 : decode mX8_forge.2.1 12 = .ok (.invokestatic 82, 3) := by decide +kernel
theorem dX8_forge_15 : decode mX8_forge.2.1 15 = .ok (.ifCond .eq 25, 3) := by decide +kernel
theorem dX8_forge_18 : decode mX8_forge.2.1 18 = .ok (.iload_n 3, 1) := by decide +kernel
theorem dX8_forge_19 : decode mX8_forge.2.1 19 = .ok (.iconst 0, 1) := by decide +kernel
theorem dX8_forge_20 : decode mX8_forge.2.1 20 = .ok (.bipush 7, 2) := by decide +kernel
theorem dX8_forge_22 : decode mX8_forge.2.1 22 = .ok (.invokestatic 82, 3) := by decide +kernel
theorem dX8_forge_25 : decode mX8_forge.2.1 25 = .ok (.ifCond .eq 15, 3) := by decide +kernel
theorem dX8_forge_28 : decode mX8_forge.2.1 28 = .ok (.iload 4, 2) := by decide +kernel
theorem dX8_forge_30 : decode mX8_forge.2.1 30 = .ok (.bipush (-100), 2) := by decide +kernel
theorem dX8_forge_32 : decode mX8_forge.2.1 32 = .ok (.bipush 100, 2) := by decide +kernel
theorem dX8_forge_34 : decode mX8_forge.2.1 34 = .ok (.invokestatic 82, 3) := by decide +kernel
theorem dX8_forge_37 : decode mX8_forge.2.1 37 = .ok (.ifCond .ne 9, 3) := by decide +kernel
theorem dX8_forge_40 : decode mX8_forge.2.1 40 = .ok (.aload_n 0, 1) := by decide +kernel
theorem dX8_forge_41 : decode mX8_forge.2.1 41 = .ok (.iconst 1, 1) := by decide +kernel
theorem dX8_forge_42 : decode mX8_forge.2.1 42 = .ok (.invokevirtual 103, 3) := by decide +kernel
theorem dX8_forge_45 : decode mX8_forge.2.1 45 = .ok (.ireturn, 1) := by decide +kernel
theorem dX8_forge_46 : decode mX8_forge.2.1 46 = .ok (.aload_n 0, 1) := by decide +kernel
theorem dX8_forge_47 : decode mX8_forge.2.1 47 = .ok (.getfield 69, 3) := by decide +kernel
theorem dX8_forge_50 : decode mX8_forge.2.1 50 = .ok (.bipush 40, 2) := by decide +kernel
theorem dX8_forge_52 : decode mX8_forge.2.1 52 = .ok (.iload_n 1, 1) := by decide +kernel
theorem dX8_forge_53 : decode mX8_forge.2.1 53 = .ok (.imul, 1) := by decide +kernel
theorem dX8_forge_54 : decode mX8_forge.2.1 54 = .ok (.iload_n 2, 1) := by decide +kernel
theorem dX8_forge_55 : decode mX8_forge.2.1 55 = .ok (.iadd, 1) := by decide +kernel
theorem dX8_forge_56 : decode mX8_forge.2.1 56 = .ok (.iaload, 1) := by decide +kernel
theorem dX8_forge_57 : decode mX8_forge.2.1 57 = .ok (.istore 5, 2) := by decide +kernel
theorem dX8_forge_59 : decode mX8_forge.2.1 59 = .ok (.iload 5, 2) := by decide +kernel
theorem dX8_forge_61 : decode mX8_forge.2.1 61 = .ok (.ifCond .ge 10, 3) := by decide +kernel
theorem dX8_forge_64 : decode mX8_forge.2.1 64 = .ok (.iconst (-1), 1) := by decide +kernel
theorem dX8_forge_65 : decode mX8_forge.2.1 65 = .ok (.iload 5, 2) := by decide +kernel
theorem dX8_forge_67 : decode mX8_forge.2.1 67 = .ok (.isub, 1) := by decide +kernel
theorem dX8_forge_68 : decode mX8_forge.2.1 68 = .ok (.goto 7, 3) := by decide +kernel
theorem dX8_forge_71 : decode mX8_forge.2.1 71 = .ok (.iload 5, 2) := by decide +kernel
theorem dX8_forge_73 : decode mX8_forge.2.1 73 = .ok (.iconst 1, 1) := by decide +kernel
theorem dX8_forge_74 : decode mX8_forge.2.1 74 = .ok (.isub, 1) := by decide +kernel
theorem dX8_forge_75 : decode mX8_forge.2.1 75 = .ok (.istore 6, 2) := by decide +kernel
theorem dX8_forge_77 : decode mX8_forge.2.1 77 = .ok (.iload_n 3, 1) := by decide +kernel
theorem dX8_forge_78 : decode mX8_forge.2.1 78 = .ok (.tableswitch 202 0 6 #[42, 62, 62, 100, 62, 121, 178], 42) := by decide +kernel
theorem dX8_forge_120 : decode mX8_forge.2.1 120 = .ok (.aload_n 0, 1) := by decide +kernel
theorem dX8_forge_121 : decode mX8_forge.2.1 121 = .ok (.iload 5, 2) := by decide +kernel
theorem dX8_forge_123 : decode mX8_forge.2.1 123 = .ok (.iload 6, 2) := by decide +kernel
theorem dX8_forge_125 : decode mX8_forge.2.1 125 = .ok (.iload 4, 2) := by decide +kernel
theorem dX8_forge_127 : decode mX8_forge.2.1 127 = .ok (.bipush 6, 2) := by decide +kernel
theorem dX8_forge_129 : decode mX8_forge.2.1 129 = .ok (.irem, 1) := by decide +kernel
theorem dX8_forge_130 : decode mX8_forge.2.1 130 = .ok (.bipush 6, 2) := by decide +kernel
theorem dX8_forge_132 : decode mX8_forge.2.1 132 = .ok (.iadd, 1) := by decide +kernel
theorem dX8_forge_133 : decode mX8_forge.2.1 133 = .ok (.bipush 6, 2) := by decide +kernel
theorem dX8_forge_135 : decode mX8_forge.2.1 135 = .ok (.irem, 1) := by decide +kernel
theorem dX8_forge_136 : decode mX8_forge.2.1 136 = .ok (.invokevirtual 215, 3) := by decide +kernel
theorem dX8_forge_139 : decode mX8_forge.2.1 139 = .ok (.ireturn, 1) := by decide +kernel
theorem dX8_forge_140 : decode mX8_forge.2.1 140 = .ok (.iload 5, 2) := by decide +kernel
theorem dX8_forge_142 : decode mX8_forge.2.1 142 = .ok (.ifCond .le 12, 3) := by decide +kernel
theorem dX8_forge_145 : decode mX8_forge.2.1 145 = .ok (.aload_n 0, 1) := by decide +kernel
theorem dX8_forge_146 : decode mX8_forge.2.1 146 = .ok (.bipush 11, 2) := by decide +kernel
theorem dX8_forge_148 : decode mX8_forge.2.1 148 = .ok (.invokevirtual 103, 3) := by decide +kernel
theorem dX8_forge_151 : decode mX8_forge.2.1 151 = .ok (.goto 26, 3) := by decide +kernel
theorem dX8_forge_154 : decode mX8_forge.2.1 154 = .ok (.iload 5, 2) := by decide +kernel
theorem dX8_forge_156 : decode mX8_forge.2.1 156 = .ok (.ifCond .ne 12, 3) := by decide +kernel
theorem dX8_forge_159 : decode mX8_forge.2.1 159 = .ok (.aload_n 0, 1) := by decide +kernel
theorem dX8_forge_160 : decode mX8_forge.2.1 160 = .ok (.bipush 10, 2) := by decide +kernel
theorem dX8_forge_162 : decode mX8_forge.2.1 162 = .ok (.invokevirtual 103, 3) := by decide +kernel
theorem dX8_forge_165 : decode mX8_forge.2.1 165 = .ok (.goto 12, 3) := by decide +kernel
theorem dX8_forge_168 : decode mX8_forge.2.1 168 = .ok (.aload_n 0, 1) := by decide +kernel
theorem dX8_forge_169 : decode mX8_forge.2.1 169 = .ok (.iload 6, 2) := by decide +kernel
theorem dX8_forge_171 : decode mX8_forge.2.1 171 = .ok (.iload_n 3, 1) := by decide +kernel
theorem dX8_forge_172 : decode mX8_forge.2.1 172 = .ok (.iload 4, 2) := by decide +kernel
theorem dX8_forge_174 : decode mX8_forge.2.1 174 = .ok (.invokevirtual 219, 3) := by decide +kernel
theorem dX8_forge_177 : decode mX8_forge.2.1 177 = .ok (.ireturn, 1) := by decide +kernel
theorem dX8_forge_178 : decode mX8_forge.2.1 178 = .ok (.iload 4, 2) := by decide +kernel
theorem dX8_forge_180 : decode mX8_forge.2.1 180 = .ok (.ifCond .ge 12, 3) := by decide +kernel
theorem dX8_forge_183 : decode mX8_forge.2.1 183 = .ok (.aload_n 0, 1) := by decide +kernel
theorem dX8_forge_184 : decode mX8_forge.2.1 184 = .ok (.bipush 13, 2) := by decide +kernel
theorem dX8_forge_186 : decode mX8_forge.2.1 186 = .ok (.invokevirtual 103, 3) := by decide +kernel
theorem dX8_forge_189 : decode mX8_forge.2.1 189 = .ok (.goto 9, 3) := by decide +kernel
theorem dX8_forge_192 : decode mX8_forge.2.1 192 = .ok (.aload_n 0, 1) := by decide +kernel
theorem dX8_forge_193 : decode mX8_forge.2.1 193 = .ok (.iload 4, 2) := by decide +kernel
theorem dX8_forge_195 : decode mX8_forge.2.1 195 = .ok (.invokevirtual 106, 3) := by decide +kernel
theorem dX8_forge_198 : decode mX8_forge.2.1 198 = .ok (.ireturn, 1) := by decide +kernel
theorem dX8_forge_199 : decode mX8_forge.2.1 199 = .ok (.iload 5, 2) := by decide +kernel
theorem dX8_forge_201 : decode mX8_forge.2.1 201 = .ok (.ifCond .ge 12, 3) := by decide +kernel
theorem dX8_forge_204 : decode mX8_forge.2.1 204 = .ok (.aload_n 0, 1) := by decide +kernel
theorem dX8_forge_205 : decode mX8_forge.2.1 205 = .ok (.bipush 11, 2) := by decide +kernel
theorem dX8_forge_207 : decode mX8_forge.2.1 207 = .ok (.invokevirtual 103, 3) := by decide +kernel
theorem dX8_forge_210 : decode mX8_forge.2.1 210 = .ok (.goto 45, 3) := by decide +kernel
theorem dX8_forge_213 : decode mX8_forge.2.1 213 = .ok (.iload 5, 2) := by decide +kernel
theorem dX8_forge_215 : decode mX8_forge.2.1 215 = .ok (.ifCond .le 26, 3) := by decide +kernel
theorem dX8_forge_218 : decode mX8_forge.2.1 218 = .ok (.aload_n 0, 1) := by decide +kernel
theorem dX8_forge_219 : decode mX8_forge.2.1 219 = .ok (.getfield 16, 3) := by decide +kernel
theorem dX8_forge_222 : decode mX8_forge.2.1 222 = .ok (.iload 6, 2) := by decide +kernel
theorem dX8_forge_224 : decode mX8_forge.2.1 224 = .ok (.iaload, 1) := by decide +kernel
theorem dX8_forge_225 : decode mX8_forge.2.1 225 = .ok (.iconst 1, 1) := by decide +kernel
theorem dX8_forge_226 : decode mX8_forge.2.1 226 = .ok (.invokestatic 222, 3) := by decide +kernel
theorem dX8_forge_229 : decode mX8_forge.2.1 229 = .ok (.ifCond .ne 12, 3) := by decide +kernel
theorem dX8_forge_232 : decode mX8_forge.2.1 232 = .ok (.aload_n 0, 1) := by decide +kernel
theorem dX8_forge_233 : decode mX8_forge.2.1 233 = .ok (.bipush 14, 2) := by decide +kernel
theorem dX8_forge_235 : decode mX8_forge.2.1 235 = .ok (.invokevirtual 103, 3) := by decide +kernel
theorem dX8_forge_238 : decode mX8_forge.2.1 238 = .ok (.goto 17, 3) := by decide +kernel
theorem dX8_forge_241 : decode mX8_forge.2.1 241 = .ok (.aload_n 0, 1) := by decide +kernel
theorem dX8_forge_242 : decode mX8_forge.2.1 242 = .ok (.iload 5, 2) := by decide +kernel
theorem dX8_forge_244 : decode mX8_forge.2.1 244 = .ok (.ifCond .le 7, 3) := by decide +kernel
theorem dX8_forge_247 : decode mX8_forge.2.1 247 = .ok (.iconst 1, 1) := by decide +kernel
theorem dX8_forge_248 : decode mX8_forge.2.1 248 = .ok (.goto 4, 3) := by decide +kernel
theorem dX8_forge_251 : decode mX8_forge.2.1 251 = .ok (.iconst 0, 1) := by decide +kernel
theorem dX8_forge_252 : decode mX8_forge.2.1 252 = .ok (.invokevirtual 106, 3) := by decide +kernel
theorem dX8_forge_255 : decode mX8_forge.2.1 255 = .ok (.ireturn, 1) := by decide +kernel
theorem dX8_forge_256 : decode mX8_forge.2.1 256 = .ok (.iload 4, 2) := by decide +kernel
theorem dX8_forge_258 : decode mX8_forge.2.1 258 = .ok (.ifCond .ne 12, 3) := by decide +kernel
theorem dX8_forge_261 : decode mX8_forge.2.1 261 = .ok (.aload_n 0, 1) := by decide +kernel
theorem dX8_forge_262 : decode mX8_forge.2.1 262 = .ok (.bipush 15, 2) := by decide +kernel
theorem dX8_forge_264 : decode mX8_forge.2.1 264 = .ok (.invokevirtual 103, 3) := by decide +kernel
theorem dX8_forge_267 : decode mX8_forge.2.1 267 = .ok (.goto 12, 3) := by decide +kernel
theorem dX8_forge_270 : decode mX8_forge.2.1 270 = .ok (.aload_n 0, 1) := by decide +kernel
theorem dX8_forge_271 : decode mX8_forge.2.1 271 = .ok (.bipush 100, 2) := by decide +kernel
theorem dX8_forge_273 : decode mX8_forge.2.1 273 = .ok (.iload 4, 2) := by decide +kernel
theorem dX8_forge_275 : decode mX8_forge.2.1 275 = .ok (.idiv, 1) := by decide +kernel
theorem dX8_forge_276 : decode mX8_forge.2.1 276 = .ok (.invokevirtual 106, 3) := by decide +kernel
theorem dX8_forge_279 : decode mX8_forge.2.1 279 = .ok (.ireturn, 1) := by decide +kernel
theorem dX8_forge_280 : decode mX8_forge.2.1 280 = .ok (.iload 4, 2) := by decide +kernel
theorem dX8_forge_282 : decode mX8_forge.2.1 282 = .ok (.iconst 1, 1) := by decide +kernel
theorem dX8_forge_283 : decode mX8_forge.2.1 283 = .ok (.iand, 1) := by decide +kernel
theorem dX8_forge_284 : decode mX8_forge.2.1 284 = .ok (.ifCond .ne 12, 3) := by decide +kernel
theorem dX8_forge_287 : decode mX8_forge.2.1 287 = .ok (.aload_n 0, 1) := by decide +kernel
theorem dX8_forge_288 : decode mX8_forge.2.1 288 = .ok (.bipush 10, 2) := by decide +kernel
theorem dX8_forge_290 : decode mX8_forge.2.1 290 = .ok (.invokevirtual 103, 3) := by decide +kernel
theorem dX8_forge_293 : decode mX8_forge.2.1 293 = .ok (.goto 8, 3) := by decide +kernel
theorem dX8_forge_296 : decode mX8_forge.2.1 296 = .ok (.aload_n 0, 1) := by decide +kernel
theorem dX8_forge_297 : decode mX8_forge.2.1 297 = .ok (.iconst 1, 1) := by decide +kernel
theorem dX8_forge_298 : decode mX8_forge.2.1 298 = .ok (.invokevirtual 106, 3) := by decide +kernel
theorem dX8_forge_301 : decode mX8_forge.2.1 301 = .ok (.ireturn, 1) := by decide +kernel
theorem dX8_letterTaken_0 : decode mX8_letterTaken.2.1 0 = .ok (.iload_n 1, 1) := by decide +kernel
theorem dX8_letterTaken_1 : decode mX8_letterTaken.2.1 1 = .ok (.ifCond .lt 20, 3) := by decide +kernel
theorem dX8_letterTaken_4 : decode mX8_letterTaken.2.1 4 = .ok (.iload_n 1, 1) := by decide +kernel
theorem dX8_letterTaken_5 : decode mX8_letterTaken.2.1 5 = .ok (.ifCond .le 23, 3) := by decide +kernel
theorem dX8_letterTaken_8 : decode mX8_letterTaken.2.1 8 = .ok (.aload_n 0, 1) := by decide +kernel
theorem dX8_letterTaken_9 : decode mX8_letterTaken.2.1 9 = .ok (.getfield 16, 3) := by decide +kernel
theorem dX8_letterTaken_12 : decode mX8_letterTaken.2.1 12 = .ok (.iload_n 2, 1) := by decide +kernel
theorem dX8_letterTaken_13 : decode mX8_letterTaken.2.1 13 = .ok (.iaload, 1) := by decide +kernel
theorem dX8_letterTaken_14 : decode mX8_letterTaken.2.1 14 = .ok (.iload_n 3, 1) := by decide +kernel
theorem dX8_letterTaken_15 : decode mX8_letterTaken.2.1 15 = .ok (.invokestatic 222, 3) := by decide +kernel
theorem dX8_letterTaken_18 : decode mX8_letterTaken.2.1 18 = .ok (.ifCond .ne 10, 3) := by decide +kernel
theorem dX8_letterTaken_21 : decode mX8_letterTaken.2.1 21 = .ok (.aload_n 0, 1) := by decide +kernel
theorem dX8_letterTaken_22 : decode mX8_letterTaken.2.1 22 = .ok (.bipush 11, 2) := by decide +kernel
theorem dX8_letterTaken_24 : decode mX8_letterTaken.2.1 24 = .ok (.invokevirtual 103, 3) := by decide +kernel
theorem dX8_letterTaken_27 : decode mX8_letterTaken.2.1 27 = .ok (.ireturn, 1) := by decide +kernel
theorem dX8_letterTaken_28 : decode mX8_letterTaken.2.1 28 = .ok (.iload_n 1, 1) := by decide +kernel
theorem dX8_letterTaken_29 : decode mX8_letterTaken.2.1 29 = .ok (.ifCond .ne 12, 3) := by decide +kernel
theorem dX8_letterTaken_32 : decode mX8_letterTaken.2.1 32 = .ok (.aload_n 0, 1) := by decide +kernel
theorem dX8_letterTaken_33 : decode mX8_letterTaken.2.1 33 = .ok (.bipush 10, 2) := by decide +kernel
theorem dX8_letterTaken_35 : decode mX8_letterTaken.2.1 35 = .ok (.invokevirtual 103, 3) := by decide +kernel
theorem dX8_letterTaken_38 : decode mX8_letterTaken.2.1 38 = .ok (.goto 13, 3) := by decide +kernel
theorem dX8_letterTaken_41 : decode mX8_letterTaken.2.1 41 = .ok (.aload_n 0, 1) := by decide +kernel
theorem dX8_letterTaken_42 : decode mX8_letterTaken.2.1 42 = .ok (.aload_n 0, 1) := by decide +kernel
theorem dX8_letterTaken_43 : decode mX8_letterTaken.2.1 43 = .ok (.getfield 25, 3) := by decide +kernel
theorem dX8_letterTaken_46 : decode mX8_letterTaken.2.1 46 = .ok (.iload_n 2, 1) := by decide +kernel
theorem dX8_letterTaken_47 : decode mX8_letterTaken.2.1 47 = .ok (.iaload, 1) := by decide +kernel
theorem dX8_letterTaken_48 : decode mX8_letterTaken.2.1 48 = .ok (.invokevirtual 106, 3) := by decide +kernel
theorem dX8_letterTaken_51 : decode mX8_letterTaken.2.1 51 = .ok (.ireturn, 1) := by decide +kernel
theorem dX8_clockTaken_0 : decode mX8_clockTaken.2.1 0 = .ok (.aload_n 0, 1) := by decide +kernel
theorem dX8_clockTaken_1 : decode mX8_clockTaken.2.1 1 = .ok (.iload_n 1, 1) := by decide +kernel
theorem dX8_clockTaken_2 : decode mX8_clockTaken.2.1 2 = .ok (.invokevirtual 225, 3) := by decide +kernel
theorem dX8_clockTaken_5 : decode mX8_clockTaken.2.1 5 = .ok (.istore 4, 2) := by decide +kernel
theorem dX8_clockTaken_7 : decode mX8_clockTaken.2.1 7 = .ok (.iload_n 2, 1) := by decide +kernel
theorem dX8_clockTaken_8 : decode mX8_clockTaken.2.1 8 = .ok (.iconst 1, 1) := by decide +kernel
theorem dX8_clockTaken_9 : decode mX8_clockTaken.2.1 9 = .ok (.if_icmp .ne 44, 3) := by decide +kernel
theorem dX8_clockTaken_12 : decode mX8_clockTaken.2.1 12 = .ok (.iload_n 3, 1) := by decide +kernel
theorem dX8_clockTaken_13 : decode mX8_clockTaken.2.1 13 = .ok (.iconst 0, 1) := by decide +kernel
theorem dX8_clockTaken_14 : decode mX8_clockTaken.2.1 14 = .ok (.bipush 7, 2) := by decide +kernel
theorem dX8_clockTaken_16 : decode mX8_clockTaken.2.1 16 = .ok (.invokestatic 82, 3) := by decide +kernel
theorem dX8_clockTaken_19 : decode mX8_clockTaken.2.1 19 = .ok (.ifCond .eq 27, 3) := by decide +kernel
theorem dX8_clockTaken_22 : decode mX8_clockTaken.2.1 22 = .ok (.aload_n 0, 1) := by decide +kernel
theorem dX8_clockTaken_23 : decode mX8_clockTaken.2.1 23 = .ok (.aload_n 0, 1) := by decide +kernel
theorem dX8_clockTaken_24 : decode mX8_clockTaken.2.1 24 = .ok (.getfield 43, 3) := by decide +kernel
theorem dX8_clockTaken_27 : decode mX8_clockTaken.2.1 27 = .ok (.bipush 48, 2) := by decide +kernel
theorem dX8_clockTaken_29 : decode mX8_clockTaken.2.1 29 = .ok (.iload_n 1, 1) := by decide +kernel
theorem dX8_clockTaken_30 : decode mX8_clockTaken.2.1 30 = .ok (.imul, 1) := by decide +kernel
theorem dX8_clockTaken_31 : decode mX8_clockTaken.2.1 31 = .ok (.bipush 8, 2) := by decide +kernel
theorem dX8_clockTaken_33 : decode mX8_clockTaken.2.1 33 = .ok (.iload 4, 2) := by decide +kernel
theorem dX8_clockTaken_35 : decode mX8_clockTaken.2.1 35 = .ok (.imul, 1) := by decide +kernel
theorem dX8_clockTaken_36 : decode mX8_clockTaken.2.1 36 = .ok (.iadd, 1) := by decide +kernel
theorem dX8_clockTaken_37 : decode mX8_clockTaken.2.1 37 = .ok (.iload_n 3, 1) := by decide +kernel
theorem dX8_clockTaken_38 : decode mX8_clockTaken.2.1 38 = .ok (.iadd, 1) := by decide +kernel
theorem dX8_clockTaken_39 : decode mX8_clockTaken.2.1 39 = .ok (.iaload, 1) := by decide +kernel
theorem dX8_clockTaken_40 : decode mX8_clockTaken.2.1 40 = .ok (.invokevirtual 106, 3) := by decide +kernel
theorem dX8_clockTaken_43 : decode mX8_clockTaken.2.1 43 = .ok (.goto 9, 3) := by decide +kernel
theorem dX8_clockTaken_46 : decode mX8_clockTaken.2.1 46 = .ok (.aload_n 0, 1) := by decide +kernel
theorem dX8_clockTaken_47 : decode mX8_clockTaken.2.1 47 = .ok (.bipush 12, 2) := by decide +kernel
theorem dX8_clockTaken_49 : decode mX8_clockTaken.2.1 49 = .ok (.invokevirtual 103, 3) := by decide +kernel
theorem dX8_clockTaken_52 : decode mX8_clockTaken.2.1 52 = .ok (.ireturn, 1) := by decide +kernel
theorem dX8_clockTaken_53 : decode mX8_clockTaken.2.1 53 = .ok (.iload_n 2, 1) := by decide +kernel
theorem dX8_clockTaken_54 : decode mX8_clockTaken.2.1 54 = .ok (.iconst 2, 1) := by decide +kernel
theorem dX8_clockTaken_55 : decode mX8_clockTaken.2.1 55 = .ok (.if_icmp .ne 57, 3) := by decide +kernel
theorem dX8_clockTaken_58 : decode mX8_clockTaken.2.1 58 = .ok (.iload_n 3, 1) := by decide +kernel
theorem dX8_clockTaken_59 : decode mX8_clockTaken.2.1 59 = .ok (.iconst 0, 1) := by decide +kernel
theorem dX8_clockTaken_60 : decode mX8_clockTaken.2.1 60 = .ok (.iconst 5, 1) := by decide +kernel
theorem dX8_clockTaken_61 : decode mX8_clockTaken.2.1 61 = .ok (.invokestatic 82, 3) := by decide +kernel
theorem dX8_clockTaken_64 : decode mX8_clockTaken.2.1 64 = .ok (.ifCond .ne 12, 3) := by decide +kernel
theorem dX8_clockTaken_67 : decode mX8_clockTaken.2.1 67 = .ok (.aload_n 0, 1) := by decide +kernel
theorem dX8_clockTaken_68 : decode mX8_clockTaken.2.1 68 = .ok (.bipush 12, 2) := by decide +kernel
theorem dX8_clockTaken_70 : decode mX8_clockTaken.2.1 70 = .ok (.invokevirtual 103, 3) := by decide +kernel
theorem dX8_clockTaken_73 : decode mX8_clockTaken.2.1 73 = .ok (.goto 38, 3) := by decide +kernel
theorem dX8_clockTaken_76 : decode mX8_clockTaken.2.1 76 = .ok (.aload_n 0, 1) := by decide +kernel
theorem dX8_clockTaken_77 : decode mX8_clockTaken.2.1 77 = .ok (.getfield 40, 3) := by decide +kernel
theorem dX8_clockTaken_80 : decode mX8_clockTaken.2.1 80 = .ok (.iload_n 1, 1) := by decide +kernel
theorem dX8_clockTaken_81 : decode mX8_clockTaken.2.1 81 = .ok (.iaload, 1) := by decide +kernel
theorem dX8_clockTaken_82 : decode mX8_clockTaken.2.1 82 = .ok (.iload_n 3, 1) := by decide +kernel
theorem dX8_clockTaken_83 : decode mX8_clockTaken.2.1 83 = .ok (.ishr, 1) := by decide +kernel
theorem dX8_clockTaken_84 : decode mX8_clockTaken.2.1 84 = .ok (.iconst 1, 1) := by decide +kernel
theorem dX8_clockTaken_85 : decode mX8_clockTaken.2.1 85 = .ok (.iand, 1) := by decide +kernel
theorem dX8_clockTaken_86 : decode mX8_clockTaken.2.1 86 = .ok (.ifCond .ne 12, 3) := by decide +kernel
theorem dX8_clockTaken_89 : decode mX8_clockTaken.2.1 89 = .ok (.aload_n 0, 1) := by decide +kernel
theorem dX8_clockTaken_90 : decode mX8_clockTaken.2.1 90 = .ok (.bipush 10, 2) := by decide +kernel
theorem dX8_clockTaken_92 : decode mX8_clockTaken.2.1 92 = .ok (.invokevirtual 103, 3) := by decide +kernel
theorem dX8_clockTaken_95 : decode mX8_clockTaken.2.1 95 = .ok (.goto 16, 3) := by decide +kernel
theorem dX8_clockTaken_98 : decode mX8_clockTaken.2.1 98 = .ok (.aload_n 0, 1) := by decide +kernel
theorem dX8_clockTaken_99 : decode mX8_clockTaken.2.1 99 = .ok (.aload_n 0, 1) := by decide +kernel
theorem dX8_clockTaken_100 : decode mX8_clockTaken.2.1 100 = .ok (.iload_n 1, 1) := by decide +kernel
theorem dX8_clockTaken_101 : decode mX8_clockTaken.2.1 101 = .ok (.iload_n 3, 1) := by decide +kernel
theorem dX8_clockTaken_102 : decode mX8_clockTaken.2.1 102 = .ok (.iconst 0, 1) := by decide +kernel
theorem dX8_clockTaken_103 : decode mX8_clockTaken.2.1 103 = .ok (.bipush 8, 2) := by decide +kernel
theorem dX8_clockTaken_105 : decode mX8_clockTaken.2.1 105 = .ok (.invokevirtual 228, 3) := by decide +kernel
theorem dX8_clockTaken_108 : decode mX8_clockTaken.2.1 108 = .ok (.invokevirtual 106, 3) := by decide +kernel
theorem dX8_clockTaken_111 : decode mX8_clockTaken.2.1 111 = .ok (.ireturn, 1) := by decide +kernel
theorem dX8_clockTaken_112 : decode mX8_clockTaken.2.1 112 = .ok (.iload_n 3, 1) := by decide +kernel
theorem dX8_clockTaken_113 : decode mX8_clockTaken.2.1 113 = .ok (.iconst 0, 1) := by decide +kernel
theorem dX8_clockTaken_114 : decode mX8_clockTaken.2.1 114 = .ok (.iconst 4, 1) := by decide +kernel
theorem dX8_clockTaken_115 : decode mX8_clockTaken.2.1 115 = .ok (.invokestatic 82, 3) := by decide +kernel
theorem dX8_clockTaken_118 : decode mX8_clockTaken.2.1 118 = .ok (.ifCond .eq 19, 3) := by decide +kernel
theorem dX8_clockTaken_121 : decode mX8_clockTaken.2.1 121 = .ok (.aload_n 0, 1) := by decide +kernel
theorem dX8_clockTaken_122 : decode mX8_clockTaken.2.1 122 = .ok (.aload_n 0, 1) := by decide +kernel
theorem dX8_clockTaken_123 : decode mX8_clockTaken.2.1 123 = .ok (.iload_n 1, 1) := by decide +kernel
theorem dX8_clockTaken_124 : decode mX8_clockTaken.2.1 124 = .ok (.iload 4, 2) := by decide +kernel
theorem dX8_clockTaken_126 : decode mX8_clockTaken.2.1 126 = .ok (.iconst 2, 1) := by decide +kernel
theorem dX8_clockTaken_127 : decode mX8_clockTaken.2.1 127 = .ok (.iload_n 3, 1) := by decide +kernel
theorem dX8_clockTaken_128 : decode mX8_clockTaken.2.1 128 = .ok (.invokevirtual 228, 3) := by decide +kernel
theorem dX8_clockTaken_131 : decode mX8_clockTaken.2.1 131 = .ok (.invokevirtual 106, 3) := by decide +kernel
theorem dX8_clockTaken_134 : decode mX8_clockTaken.2.1 134 = .ok (.goto 9, 3) := by decide +kernel
theorem dX8_clockTaken_137 : decode mX8_clockTaken.2.1 137 = .ok (.aload_n 0, 1) := by decide +kernel
theorem dX8_clockTaken_138 : decode mX8_clockTaken.2.1 138 = .ok (.bipush 12, 2) := by decide +kernel
theorem dX8_clockTaken_140 : decode mX8_clockTaken.2.1 140 = .ok (.invokevirtual 103, 3) := by decide +kernel
theorem dX8_clockTaken_143 : decode mX8_clockTaken.2.1 143 = .ok (.ireturn, 1) := by decide +kernel
theorem dX8_status_0 : decode mX8_status.2.1 0 = .ok (.aload_n 0, 1) := by decide +kernel
theorem dX8_status_1 : decode mX8_status.2.1 1 = .ok (.getfield 100, 3) := by decide +kernel
theorem dX8_status_4 : decode mX8_status.2.1 4 = .ok (.ireturn, 1) := by decide +kernel
