theorem d_110_23 : decode (mC 110) 23 = .ok (.iconst 2, 1) := by decide +kernel
theorem d_110_24 : decode (mC 110) 24 = .ok (.if_icmp .eq 37, 3) := by decide +kernel
theorem d_110_27 : decode (mC 110) 27 = .ok (.aload_n 0, 1) := by decide +kernel
theorem d_110_28 : decode (mC 110) 28 = .ok (.getfield 13, 3) := by decide +kernel
theorem d_110_31 : decode (mC 110) 31 = .ok (.iload_n 1, 1) := by decide +kernel
theorem d_110_32 : decode (mC 110) 32 = .ok (.iaload, 1) := by decide +kernel
theorem d_110_33 : decode (mC 110) 33 = .ok (.iconst 4, 1) := by decide +kernel
theorem d_110_34 : decode (mC 110) 34 = .ok (.if_icmp .eq 27, 3) := by decide +kernel
theorem d_110_37 : decode (mC 110) 37 = .ok (.iload_n 1, 1) := by decide +kernel
theorem d_110_38 : decode (mC 110) 38 = .ok (.iconst 2, 1) := by decide +kernel
theorem d_110_39 : decode (mC 110) 39 = .ok (.if_icmp .ge 26, 3) := by decide +kernel
theorem d_110_42 : decode (mC 110) 42 = .ok (.aload_n 0, 1) := by decide +kernel
theorem d_110_43 : decode (mC 110) 43 = .ok (.getfield 13, 3) := by decide +kernel
theorem d_110_46 : decode (mC 110) 46 = .ok (.iload_n 1, 1) := by decide +kernel
theorem d_110_47 : decode (mC 110) 47 = .ok (.iaload, 1) := by decide +kernel
theorem d_110_48 : decode (mC 110) 48 = .ok (.iconst 3, 1) := by decide +kernel
theorem d_110_49 : decode (mC 110) 49 = .ok (.if_icmp .ne 16, 3) := by decide +kernel
theorem d_110_52 : decode (mC 110) 52 = .ok (.aload_n 0, 1) := by decide +kernel
theorem d_110_53 : decode (mC 110) 53 = .ok (.getfield 43, 3) := by decide +kernel
theorem d_110_56 : decode (mC 110) 56 = .ok (.iload_n 1, 1) := by decide +kernel
theorem d_110_57 : decode (mC 110) 57 = .ok (.iaload, 1) := by decide +kernel
theorem d_110_58 : decode (mC 110) 58 = .ok (.ifCond .le 7, 3) := by decide +kernel
theorem d_110_61 : decode (mC 110) 61 = .ok (.iconst 1, 1) := by decide +kernel
theorem d_110_62 : decode (mC 110) 62 = .ok (.goto 4, 3) := by decide +kernel
theorem d_110_65 : decode (mC 110) 65 = .ok (.iconst 0, 1) := by decide +kernel
theorem d_110_66 : decode (mC 110) 66 = .ok (.istore_n 3, 1) := by decide +kernel
theorem d_110_67 : decode (mC 110) 67 = .ok (.iload_n 3, 1) := by decide +kernel
theorem d_110_68 : decode (mC 110) 68 = .ok (.ifCond .eq 35, 3) := by decide +kernel
theorem d_110_71 : decode (mC 110) 71 = .ok (.aload_n 0, 1) := by decide +kernel
theorem d_110_72 : decode (mC 110) 72 = .ok (.iload_n 1, 1) := by decide +kernel
theorem d_110_73 : decode (mC 110) 73 = .ok (.iconst 1, 1) := by decide +kernel
theorem d_110_74 : decode (mC 110) 74 = .ok (.iadd, 1) := by decide +kernel
theorem d_110_75 : decode (mC 110) 75 = .ok (.aload_n 0, 1) := by decide +kernel
theorem d_110_76 : decode (mC 110) 76 = .ok (.getfield 31, 3) := by decide +kernel
theorem d_110_79 : decode (mC 110) 79 = .ok (.iload_n 1, 1) := by decide +kernel
theorem d_110_80 : decode (mC 110) 80 = .ok (.iaload, 1) := by decide +kernel
theorem d_110_81 : decode (mC 110) 81 = .ok (.iload_n 1, 1) := by decide +kernel
theorem d_110_82 : decode (mC 110) 82 = .ok (.iconst 2, 1) := by decide +kernel
theorem d_110_83 : decode (mC 110) 83 = .ok (.if_icmp .ge 7, 3) := by decide +kernel
theorem d_110_86 : decode (mC 110) 86 = .ok (.iconst 1, 1) := by decide +kernel
theorem d_110_87 : decode (mC 110) 87 = .ok (.goto 4, 3) := by decide +kernel
theorem d_110_90 : decode (mC 110) 90 = .ok (.iconst 0, 1) := by decide +kernel
theorem d_110_91 : decode (mC 110) 91 = .ok (.aload_n 0, 1) := by decide +kernel
theorem d_110_92 : decode (mC 110) 92 = .ok (.getfield 59, 3) := by decide +kernel
theorem d_110_95 : decode (mC 110) 95 = .ok (.iload_n 1, 1) := by decide +kernel
theorem d_110_96 : decode (mC 110) 96 = .ok (.iaload, 1) := by decide +kernel
theorem d_110_97 : decode (mC 110) 97 = .ok (.invokestatic 131, 3) := by decide +kernel
theorem d_110_100 : decode (mC 110) 100 = .ok (.putfield 135, 3) := by decide +kernel
theorem d_110_103 : decode (mC 110) 103 = .ok (.iload_n 3, 1) := by decide +kernel
theorem d_110_104 : decode (mC 110) 104 = .ok (.ireturn, 1) := by decide +kernel
theorem d_110_105 : decode (mC 110) 105 = .ok (.iload_n 2, 1) := by decide +kernel
theorem d_110_106 : decode (mC 110) 106 = .ok (.bipush 40, 2) := by decide +kernel
theorem d_110_108 : decode (mC 110) 108 = .ok (.if_icmp .le 20, 3) := by decide +kernel
theorem d_110_111 : decode (mC 110) 111 = .ok (.iload_n 2, 1) := by decide +kernel
theorem d_110_112 : decode (mC 110) 112 = .ok (.bipush 60, 2) := by decide +kernel
theorem d_110_114 : decode (mC 110) 114 = .ok (.if_icmp .ge 14, 3) := by decide +kernel
theorem d_110_117 : decode (mC 110) 117 = .ok (.iload_n 2, 1) := by decide +kernel
theorem d_110_118 : decode (mC 110) 118 = .ok (.iconst 4, 1) := by decide +kernel
theorem d_110_119 : decode (mC 110) 119 = .ok (.irem, 1) := by decide +kernel
theorem d_110_120 : decode (mC 110) 120 = .ok (.iconst 2, 1) := by decide +kernel
theorem d_110_121 : decode (mC 110) 121 = .ok (.if_icmp .ne 7, 3) := by decide +kernel
theorem d_110_124 : decode (mC 110) 124 = .ok (.iconst 1, 1) := by decide +kernel
theorem d_110_125 : decode (mC 110) 125 = .ok (.goto 4, 3) := by decide +kernel
theorem d_110_128 : decode (mC 110) 128 = .ok (.iconst 0, 1) := by decide +kernel
theorem d_110_129 : decode (mC 110) 129 = .ok (.istore_n 3, 1) := by decide +kernel
theorem d_110_130 : decode (mC 110) 130 = .ok (.iload_n 3, 1) := by decide +kernel
theorem d_110_131 : decode (mC 110) 131 = .ok (.ifCond .eq 46, 3) := by decide +kernel
theorem d_110_134 : decode (mC 110) 134 = .ok (.aload_n 0, 1) := by decide +kernel
theorem d_110_135 : decode (mC 110) 135 = .ok (.getfield 13, 3) := by decide +kernel
theorem d_110_138 : decode (mC 110) 138 = .ok (.iload_n 1, 1) := by decide +kernel
theorem d_110_139 : decode (mC 110) 139 = .ok (.iaload, 1) := by decide +kernel
theorem d_110_140 : decode (mC 110) 140 = .ok (.iconst 4, 1) := by decide +kernel
theorem d_110_141 : decode (mC 110) 141 = .ok (.if_icmp .ne 36, 3) := by decide +kernel
theorem d_110_144 : decode (mC 110) 144 = .ok (.aload_n 0, 1) := by decide +kernel
theorem d_110_145 : decode (mC 110) 145 = .ok (.getfield 49, 3) := by decide +kernel
theorem d_110_148 : decode (mC 110) 148 = .ok (.iload_n 1, 1) := by decide +kernel
theorem d_110_149 : decode (mC 110) 149 = .ok (.baload, 1) := by decide +kernel
theorem d_110_150 : decode (mC 110) 150 = .ok (.ifCond .ne 27, 3) := by decide +kernel
theorem d_110_153 : decode (mC 110) 153 = .ok (.aload_n 0, 1) := by decide +kernel
theorem d_110_154 : decode (mC 110) 154 = .ok (.getfield 62, 3) := by decide +kernel
theorem d_110_157 : decode (mC 110) 157 = .ok (.iload_n 1, 1) := by decide +kernel
theorem d_110_158 : decode (mC 110) 158 = .ok (.iaload, 1) := by decide +kernel
theorem d_110_159 : decode (mC 110) 159 = .ok (.ifCond .eq 18, 3) := by decide +kernel
theorem d_110_162 : decode (mC 110) 162 = .ok (.aload_n 0, 1) := by decide +kernel
theorem d_110_163 : decode (mC 110) 163 = .ok (.getfield 62, 3) := by decide +kernel
theorem d_110_166 : decode (mC 110) 166 = .ok (.iload_n 1, 1) := by decide +kernel
theorem d_110_167 : decode (mC 110) 167 = .ok (.iaload, 1) := by decide +kernel
theorem d_110_168 : decode (mC 110) 168 = .ok (.aload_n 0, 1) := by decide +kernel
theorem d_110_169 : decode (mC 110) 169 = .ok (.getfield 46, 3) := by decide +kernel
theorem d_110_172 : decode (mC 110) 172 = .ok (.iload_n 1, 1) := by decide +kernel
theorem d_110_173 : decode (mC 110) 173 = .ok (.iaload, 1) := by decide +kernel
theorem d_110_174 : decode (mC 110) 174 = .ok (.if_icmp .eq 5, 3) := by decide +kernel
theorem d_110_177 : decode (mC 110) 177 = .ok (.iconst 0, 1) := by decide +kernel
theorem d_110_178 : decode (mC 110) 178 = .ok (.ireturn, 1) := by decide +kernel
theorem d_110_179 : decode (mC 110) 179 = .ok (.aload_n 0, 1) := by decide +kernel
theorem d_110_180 : decode (mC 110) 180 = .ok (.getfield 31, 3) := by decide +kernel
theorem d_110_183 : decode (mC 110) 183 = .ok (.iload_n 1, 1) := by decide +kernel
theorem d_110_184 : decode (mC 110) 184 = .ok (.iaload, 1) := by decide +kernel
theorem d_110_185 : decode (mC 110) 185 = .ok (.aload_n 0, 1) := by decide +kernel
theorem d_110_186 : decode (mC 110) 186 = .ok (.getfield 71, 3) := by decide +kernel
theorem d_110_189 : decode (mC 110) 189 = .ok (.iload_n 1, 1) := by decide +kernel
theorem d_110_190 : decode (mC 110) 190 = .ok (.iaload, 1) := by decide +kernel
theorem d_110_191 : decode (mC 110) 191 = .ok (.irem, 1) := by decide +kernel
theorem d_110_192 : decode (mC 110) 192 = .ok (.aload_n 0, 1) := by decide +kernel
theorem d_110_193 : decode (mC 110) 193 = .ok (.getfield 68, 3) := by decide +kernel
theorem d_110_196 : decode (mC 110) 196 = .ok (.iload_n 1, 1) := by decide +kernel
theorem d_110_197 : decode (mC 110) 197 = .ok (.iaload, 1) := by decide +kernel
theorem d_110_198 : decode (mC 110) 198 = .ok (.if_icmp .eq 5, 3) := by decide +kernel
theorem d_110_201 : decode (mC 110) 201 = .ok (.iconst 0, 1) := by decide +kernel
theorem d_110_202 : decode (mC 110) 202 = .ok (.ireturn, 1) := by decide +kernel
theorem d_110_203 : decode (mC 110) 203 = .ok (.aload_n 0, 1) := by decide +kernel
theorem d_110_204 : decode (mC 110) 204 = .ok (.aload_n 0, 1) := by decide +kernel
theorem d_110_205 : decode (mC 110) 205 = .ok (.getfield 62, 3) := by decide +kernel
theorem d_110_208 : decode (mC 110) 208 = .ok (.iload_n 1, 1) := by decide +kernel
theorem d_110_209 : decode (mC 110) 209 = .ok (.iaload, 1) := by decide +kernel
theorem d_110_210 : decode (mC 110) 210 = .ok (.aload_n 0, 1) := by decide +kernel
theorem d_110_211 : decode (mC 110) 211 = .ok (.getfield 31, 3) := by decide +kernel
theorem d_110_214 : decode (mC 110) 214 = .ok (.iload_n 1, 1) := by decide +kernel
theorem d_110_215 : decode (mC 110) 215 = .ok (.iaload, 1) := by decide +kernel
theorem d_110_216 : decode (mC 110) 216 = .ok (.iconst 0, 1) := by decide +kernel
theorem d_110_217 : decode (mC 110) 217 = .ok (.aload_n 0, 1) := by decide +kernel
theorem d_110_218 : decode (mC 110) 218 = .ok (.getfield 65, 3) := by decide +kernel
theorem d_110_221 : decode (mC 110) 221 = .ok (.iload_n 1, 1) := by decide +kernel
theorem d_110_222 : decode (mC 110) 222 = .ok (.iaload, 1) := by decide +kernel
theorem d_110_223 : decode (mC 110) 223 = .ok (.invokestatic 131, 3) := by decide +kernel
theorem d_110_226 : decode (mC 110) 226 = .ok (.putfield 135, 3) := by decide +kernel
theorem d_110_229 : decode (mC 110) 229 = .ok (.aload_n 0, 1) := by decide +kernel
theorem d_110_230 : decode (mC 110) 230 = .ok (.getfield 62, 3) := by decide +kernel
theorem d_110_233 : decode (mC 110) 233 = .ok (.iload_n 1, 1) := by decide +kernel
theorem d_110_234 : decode (mC 110) 234 = .ok (.iconst 0, 1) := by decide +kernel
theorem d_110_235 : decode (mC 110) 235 = .ok (.iastore, 1) := by decide +kernel
theorem d_110_236 : decode (mC 110) 236 = .ok (.aload_n 0, 1) := by decide +kernel
theorem d_110_237 : decode (mC 110) 237 = .ok (.getfield 49, 3) := by decide +kernel
theorem d_110_240 : decode (mC 110) 240 = .ok (.iload_n 1, 1) := by decide +kernel
theorem d_110_241 : decode (mC 110) 241 = .ok (.iconst 1, 1) := by decide +kernel
theorem d_110_242 : decode (mC 110) 242 = .ok (.bastore, 1) := by decide +kernel
theorem d_110_243 : decode (mC 110) 243 = .ok (.iconst 1, 1) := by decide +kernel
theorem d_110_244 : decode (mC 110) 244 = .ok (.ireturn, 1) := by decide +kernel
theorem d_111_0 : decode (mC 111) 0 = .ok (.iload_n 0, 1) := by decide +kernel
theorem d_111_1 : decode (mC 111) 1 = .ok (.i2l, 1) := by decide +kernel
theorem d_111_2 : decode (mC 111) 2 = .ok (.ldc2_w 85, 3) := by decide +kernel
theorem d_111_5 : decode (mC 111) 5 = .ok (.lmul, 1) := by decide +kernel
theorem d_111_6 : decode (mC 111) 6 = .ok (.iload_n 1, 1) := by decide +kernel
theorem d_111_7 : decode (mC 111) 7 = .ok (.i2l, 1) := by decide +kernel
theorem d_111_8 : decode (mC 111) 8 = .ok (.ldc2_w 87, 3) := by decide +kernel
theorem d_111_11 : decode (mC 111) 11 = .ok (.lmul, 1) := by decide +kernel
theorem d_111_12 : decode (mC 111) 12 = .ok (.ladd, 1) := by decide +kernel
theorem d_111_13 : decode (mC 111) 13 = .ok (.iload_n 2, 1) := by decide +kernel
theorem d_111_14 : decode (mC 111) 14 = .ok (.i2l, 1) := by decide +kernel
theorem d_111_15 : decode (mC 111) 15 = .ok (.ladd, 1) := by decide +kernel
theorem d_111_16 : decode (mC 111) 16 = .ok (.lstore 4, 2) := by decide +kernel
theorem d_111_18 : decode (mC 111) 18 = .ok (.lload 4, 2) := by decide +kernel
theorem d_111_20 : decode (mC 111) 20 = .ok (.ldc2_w 89, 3) := by decide +kernel
theorem d_111_23 : decode (mC 111) 23 = .ok (.lmul, 1) := by decide +kernel
theorem d_111_24 : decode (mC 111) 24 = .ok (.lload 4, 2) := by decide +kernel
theorem d_111_26 : decode (mC 111) 26 = .ok (.bipush 12, 2) := by decide +kernel
theorem d_111_28 : decode (mC 111) 28 = .ok (.bipush 11, 2) := by decide +kernel
theorem d_111_30 : decode (mC 111) 30 = .ok (.bipush 26, 2) := by decide +kernel
theorem d_111_32 : decode (mC 111) 32 = .ok (.sipush 901, 3) := by decide +kernel
theorem d_111_35 : decode (mC 111) 35 = .ok (.invokestatic 91, 3) := by decide +kernel
theorem d_111_38 : decode (mC 111) 38 = .ok (.i2l, 1) := by decide +kernel
theorem d_111_39 : decode (mC 111) 39 = .ok (.ladd, 1) := by decide +kernel
theorem d_111_40 : decode (mC 111) 40 = .ok (.ldc2_w 95, 3) := by decide +kernel
theorem d_111_43 : decode (mC 111) 43 = .ok (.lmul, 1) := by decide +kernel
theorem d_111_44 : decode (mC 111) 44 = .ok (.iload_n 3, 1) := by decide +kernel
theorem d_111_45 : decode (mC 111) 45 = .ok (.i2l, 1) := by decide +kernel
theorem d_111_46 : decode (mC 111) 46 = .ok (.ladd, 1) := by decide +kernel
theorem d_111_47 : decode (mC 111) 47 = .ok (.lstore 6, 2) := by decide +kernel
theorem d_111_49 : decode (mC 111) 49 = .ok (.lload 6, 2) := by decide +kernel
theorem d_111_51 : decode (mC 111) 51 = .ok (.ldc2_w 97, 3) := by decide +kernel
theorem d_111_54 : decode (mC 111) 54 = .ok (.lmul, 1) := by decide +kernel
theorem d_111_55 : decode (mC 111) 55 = .ok (.lload 6, 2) := by decide +kernel
theorem d_111_57 : decode (mC 111) 57 = .ok (.bipush 33, 2) := by decide +kernel
theorem d_111_59 : decode (mC 111) 59 = .ok (.bipush 24, 2) := by decide +kernel
theorem d_111_61 : decode (mC 111) 61 = .ok (.ldc 99, 2) := by decide +kernel
theorem d_111_63 : decode (mC 111) 63 = .ok (.ldc 100, 2) := by decide +kernel
theorem d_111_65 : decode (mC 111) 65 = .ok (.invokestatic 91, 3) := by decide +kernel
theorem d_111_68 : decode (mC 111) 68 = .ok (.i2l, 1) := by decide +kernel
theorem d_111_69 : decode (mC 111) 69 = .ok (.ladd, 1) := by decide +kernel
theorem d_111_70 : decode (mC 111) 70 = .ok (.lreturn, 1) := by decide +kernel
theorem d_112_0 : decode (mC 112) 0 = .ok (.iconst 1, 1) := by decide +kernel
theorem d_112_1 : decode (mC 112) 1 = .ok (.iload_n 3, 1) := by decide +kernel
theorem d_112_2 : decode (mC 112) 2 = .ok (.iconst 1, 1) := by decide +kernel
theorem d_112_3 : decode (mC 112) 3 = .ok (.isub, 1) := by decide +kernel
theorem d_112_4 : decode (mC 112) 4 = .ok (.ishl, 1) := by decide +kernel
theorem d_112_5 : decode (mC 112) 5 = .ok (.istore 6, 2) := by decide +kernel
theorem d_112_7 : decode (mC 112) 7 = .ok (.iload 4, 2) := by decide +kernel
theorem d_112_9 : decode (mC 112) 9 = .ok (.istore 7, 2) := by decide +kernel
theorem d_112_11 : decode (mC 112) 11 = .ok (.iconst 1, 1) := by decide +kernel
theorem d_112_12 : decode (mC 112) 12 = .ok (.istore 8, 2) := by decide +kernel
theorem d_112_14 : decode (mC 112) 14 = .ok (.iload 8, 2) := by decide +kernel
theorem d_112_16 : decode (mC 112) 16 = .ok (.iload_n 2, 1) := by decide +kernel
theorem d_112_17 : decode (mC 112) 17 = .ok (.if_icmp .gt 69, 3) := by decide +kernel
theorem d_112_20 : decode (mC 112) 20 = .ok (.lload_n 0, 1) := by decide +kernel
theorem d_112_21 : decode (mC 112) 21 = .ok (.iload_n 2, 1) := by decide +kernel
theorem d_112_22 : decode (mC 112) 22 = .ok (.iload 8, 2) := by decide +kernel
theorem d_112_24 : decode (mC 112) 24 = .ok (.isub, 1) := by decide +kernel
theorem d_112_25 : decode (mC 112) 25 = .ok (.lshr, 1) := by decide +kernel
theorem d_112_26 : decode (mC 112) 26 = .ok (.lconst 1, 1) := by decide +kernel
theorem d_112_27 : decode (mC 112) 27 = .ok (.land, 1) := by decide +kernel
theorem d_112_28 : decode (mC 112) 28 = .ok (.lconst 1, 1) := by decide +kernel
theorem d_112_29 : decode (mC 112) 29 = .ok (.lcmp, 1) := by decide +kernel
theorem d_112_30 : decode (mC 112) 30 = .ok (.ifCond .ne 7, 3) := by decide +kernel
theorem d_112_33 : decode (mC 112) 33 = .ok (.iconst 1, 1) := by decide +kernel
theorem d_112_34 : decode (mC 112) 34 = .ok (.goto 4, 3) := by decide +kernel
theorem d_112_37 : decode (mC 112) 37 = .ok (.iconst 0, 1) := by decide +kernel
theorem d_112_38 : decode (mC 112) 38 = .ok (.istore 9, 2) := by decide +kernel
theorem d_112_40 : decode (mC 112) 40 = .ok (.iload 7, 2) := by decide +kernel
theorem d_112_42 : decode (mC 112) 42 = .ok (.iload 6, 2) := by decide +kernel
theorem d_112_44 : decode (mC 112) 44 = .ok (.iand, 1) := by decide +kernel
theorem d_112_45 : decode (mC 112) 45 = .ok (.ifCond .eq 7, 3) := by decide +kernel
theorem d_112_48 : decode (mC 112) 48 = .ok (.iconst 1, 1) := by decide +kernel
theorem d_112_49 : decode (mC 112) 49 = .ok (.goto 4, 3) := by decide +kernel
theorem d_112_52 : decode (mC 112) 52 = .ok (.iconst 0, 1) := by decide +kernel
theorem d_112_53 : decode (mC 112) 53 = .ok (.istore 10, 2) := by decide +kernel
theorem d_112_55 : decode (mC 112) 55 = .ok (.iload 7, 2) := by decide +kernel
theorem d_112_57 : decode (mC 112) 57 = .ok (.iload 6, 2) := by decide +kernel
theorem d_112_59 : decode (mC 112) 59 = .ok (.iconst 1, 1) := by decide +kernel
theorem d_112_60 : decode (mC 112) 60 = .ok (.isub, 1) := by decide +kernel
theorem d_112_61 : decode (mC 112) 61 = .ok (.iand, 1) := by decide +kernel
theorem d_112_62 : decode (mC 112) 62 = .ok (.iconst 2, 1) := by decide +kernel
theorem d_112_63 : decode (mC 112) 63 = .ok (.imul, 1) := by decide +kernel
theorem d_112_64 : decode (mC 112) 64 = .ok (.istore 7, 2) := by decide +kernel
theorem d_112_66 : decode (mC 112) 66 = .ok (.iload 9, 2) := by decide +kernel
theorem d_112_68 : decode (mC 112) 68 = .ok (.iload 10, 2) := by decide +kernel
theorem d_112_70 : decode (mC 112) 70 = .ok (.if_icmp .eq 10, 3) := by decide +kernel
theorem d_112_73 : decode (mC 112) 73 = .ok (.iload 7, 2) := by decide +kernel
theorem d_112_75 : decode (mC 112) 75 = .ok (.iload 5, 2) := by decide +kernel
theorem d_112_77 : decode (mC 112) 77 = .ok (.ixor, 1) := by decide +kernel
theorem d_112_78 : decode (mC 112) 78 = .ok (.istore 7, 2) := by decide +kernel
theorem d_112_80 : decode (mC 112) 80 = .ok (.iinc 8 1, 3) := by decide +kernel
theorem d_112_83 : decode (mC 112) 83 = .ok (.goto (-69), 3) := by decide +kernel
theorem d_112_86 : decode (mC 112) 86 = .ok (.iload 7, 2) := by decide +kernel
theorem d_112_88 : decode (mC 112) 88 = .ok (.ireturn, 1) := by decide +kernel
theorem d_113_0 : decode (mC 113) 0 = .ok (.lload_n 2, 1) := by decide +kernel
theorem d_113_1 : decode (mC 113) 1 = .ok (.invokestatic 150, 3) := by decide +kernel
theorem d_113_4 : decode (mC 113) 4 = .ok (.istore 4, 2) := by decide +kernel
theorem d_113_6 : decode (mC 113) 6 = .ok (.lload_n 2, 1) := by decide +kernel
theorem d_113_7 : decode (mC 113) 7 = .ok (.invokestatic 154, 3) := by decide +kernel
theorem d_113_10 : decode (mC 113) 10 = .ok (.istore 5, 2) := by decide +kernel
theorem d_113_12 : decode (mC 113) 12 = .ok (.lload_n 2, 1) := by decide +kernel
theorem d_113_13 : decode (mC 113) 13 = .ok (.invokestatic 158, 3) := by decide +kernel
theorem d_113_16 : decode (mC 113) 16 = .ok (.ifCond .ne 31, 3) := by decide +kernel
theorem d_113_19 : decode (mC 113) 19 = .ok (.iload 4, 2) := by decide +kernel
theorem d_113_21 : decode (mC 113) 21 = .ok (.iconst 1, 1) := by decide +kernel
theorem d_113_22 : decode (mC 113) 22 = .ok (.if_icmp .lt 25, 3) := by decide +kernel
theorem d_113_25 : decode (mC 113) 25 = .ok (.iload 4, 2) := by decide +kernel
theorem d_113_27 : decode (mC 113) 27 = .ok (.bipush 9, 2) := by decide +kernel
theorem d_113_29 : decode (mC 113) 29 = .ok (.if_icmp .gt 18, 3) := by decide +kernel
theorem d_113_32 : decode (mC 113) 32 = .ok (.iload 5, 2) := by decide +kernel
theorem d_113_34 : decode (mC 113) 34 = .ok (.ifCond .eq 9, 3) := by decide +kernel
theorem d_113_37 : decode (mC 113) 37 = .ok (.iload 4, 2) := by decide +kernel
theorem d_113_39 : decode (mC 113) 39 = .ok (.iconst 2, 1) := by decide +kernel
theorem d_113_40 : decode (mC 113) 40 = .ok (.if_icmp .gt 7, 3) := by decide +kernel
theorem d_113_43 : decode (mC 113) 43 = .ok (.iconst 1, 1) := by decide +kernel
theorem d_113_44 : decode (mC 113) 44 = .ok (.goto 4, 3) := by decide +kernel
theorem d_113_47 : decode (mC 113) 47 = .ok (.iconst 0, 1) := by decide +kernel
theorem d_113_48 : decode (mC 113) 48 = .ok (.istore 6, 2) := by decide +kernel
theorem d_113_50 : decode (mC 113) 50 = .ok (.aload_n 0, 1) := by decide +kernel
theorem d_113_51 : decode (mC 113) 51 = .ok (.getfield 13, 3) := by decide +kernel
theorem d_113_54 : decode (mC 113) 54 = .ok (.iload_n 1, 1) := by decide +kernel
theorem d_113_55 : decode (mC 113) 55 = .ok (.iaload, 1) := by decide +kernel
theorem d_113_56 : decode (mC 113) 56 = .ok (.iconst 1, 1) := by decide +kernel
theorem d_113_57 : decode (mC 113) 57 = .ok (.if_icmp .ne 32, 3) := by decide +kernel
theorem d_113_60 : decode (mC 113) 60 = .ok (.aload_n 0, 1) := by decide +kernel
theorem d_113_61 : decode (mC 113) 61 = .ok (.getfield 19, 3) := by decide +kernel
theorem d_113_64 : decode (mC 113) 64 = .ok (.iload_n 1, 1) := by decide +kernel
theorem d_113_65 : decode (mC 113) 65 = .ok (.iconst 0, 1) := by decide +kernel
theorem d_113_66 : decode (mC 113) 66 = .ok (.iastore, 1) := by decide +kernel
theorem d_113_67 : decode (mC 113) 67 = .ok (.iload 6, 2) := by decide +kernel
theorem d_113_69 : decode (mC 113) 69 = .ok (.ifCond .eq 19, 3) := by decide +kernel
theorem d_113_72 : decode (mC 113) 72 = .ok (.iload 5, 2) := by decide +kernel
theorem d_113_74 : decode (mC 113) 74 = .ok (.ifCond .eq 14, 3) := by decide +kernel
theorem d_113_77 : decode (mC 113) 77 = .ok (.aload_n 0, 1) := by decide +kernel
theorem d_113_78 : decode (mC 113) 78 = .ok (.iload_n 1, 1) := by decide +kernel
theorem d_113_79 : decode (mC 113) 79 = .ok (.iload 4, 2) := by decide +kernel
theorem d_113_81 : decode (mC 113) 81 = .ok (.lload_n 2, 1) := by decide +kernel
theorem d_113_82 : decode (mC 113) 82 = .ok (.invokestatic 161, 3) := by decide +kernel
theorem d_113_85 : decode (mC 113) 85 = .ok (.invokevirtual 164, 3) := by decide +kernel
theorem d_113_88 : decode (mC 113) 88 = .ok (.return_, 1) := by decide +kernel
theorem d_113_89 : decode (mC 113) 89 = .ok (.iload 6, 2) := by decide +kernel
theorem d_113_91 : decode (mC 113) 91 = .ok (.ifCond .ne 4, 3) := by decide +kernel
theorem d_113_94 : decode (mC 113) 94 = .ok (.return_, 1) := by decide +kernel
theorem d_113_95 : decode (mC 113) 95 = .ok (.lload_n 2, 1) := by decide +kernel
theorem d_113_96 : decode (mC 113) 96 = .ok (.invokestatic 161, 3) := by decide +kernel
theorem d_113_99 : decode (mC 113) 99 = .ok (.aload_n 0, 1) := by decide +kernel
theorem d_113_100 : decode (mC 113) 100 = .ok (.getfield 31, 3) := by decide +kernel
theorem d_113_103 : decode (mC 113) 103 = .ok (.iload_n 1, 1) := by decide +kernel
theorem d_113_104 : decode (mC 113) 104 = .ok (.iaload, 1) := by decide +kernel
theorem d_113_105 : decode (mC 113) 105 = .ok (.if_icmp .ne 7, 3) := by decide +kernel
theorem d_113_108 : decode (mC 113) 108 = .ok (.iconst 1, 1) := by decide +kernel
theorem d_113_109 : decode (mC 113) 109 = .ok (.goto 4, 3) := by decide +kernel
theorem d_113_112 : decode (mC 113) 112 = .ok (.iconst 0, 1) := by decide +kernel
theorem d_113_113 : decode (mC 113) 113 = .ok (.istore 7, 2) := by decide +kernel
theorem d_113_115 : decode (mC 113) 115 = .ok (.iload 4, 2) := by decide +kernel
theorem d_113_117 : decode (mC 113) 117 = .ok (.iconst 4, 1) := by decide +kernel
theorem d_113_118 : decode (mC 113) 118 = .ok (.if_icmp .le 64, 3) := by decide +kernel
theorem d_113_121 : decode (mC 113) 121 = .ok (.iload 7, 2) := by decide +kernel
theorem d_113_123 : decode (mC 113) 123 = .ok (.ifCond .eq 58, 3) := by decide +kernel
theorem d_113_126 : decode (mC 113) 126 = .ok (.aload_n 0, 1) := by decide +kernel
theorem d_113_127 : decode (mC 113) 127 = .ok (.getfield 28, 3) := by decide +kernel
theorem d_113_130 : decode (mC 113) 130 = .ok (.iload_n 1, 1) := by decide +kernel
theorem d_113_131 : decode (mC 113) 131 = .ok (.iaload, 1) := by decide +kernel
theorem d_113_132 : decode (mC 113) 132 = .ok (.bipush 40, 2) := by decide +kernel
theorem d_113_134 : decode (mC 113) 134 = .ok (.if_icmp .lt 47, 3) := by decide +kernel
theorem d_113_137 : decode (mC 113) 137 = .ok (.aload_n 0, 1) := by decide +kernel
theorem d_113_138 : decode (mC 113) 138 = .ok (.getfield 28, 3) := by decide +kernel
theorem d_113_141 : decode (mC 113) 141 = .ok (.iload_n 1, 1) := by decide +kernel
theorem d_113_142 : decode (mC 113) 142 = .ok (.iaload, 1) := by decide +kernel
theorem d_113_143 : decode (mC 113) 143 = .ok (.bipush 60, 2) := by decide +kernel
theorem d_113_145 : decode (mC 113) 145 = .ok (.if_icmp .ge 36, 3) := by decide +kernel
theorem d_113_148 : decode (mC 113) 148 = .ok (.aload_n 0, 1) := by decide +kernel
theorem d_113_149 : decode (mC 113) 149 = .ok (.getfield 56, 3) := by decide +kernel
theorem d_113_152 : decode (mC 113) 152 = .ok (.bipush 10, 2) := by decide +kernel
theorem d_113_154 : decode (mC 113) 154 = .ok (.iload_n 1, 1) := by decide +kernel
theorem d_113_155 : decode (mC 113) 155 = .ok (.imul, 1) := by decide +kernel
theorem d_113_156 : decode (mC 113) 156 = .ok (.iload 4, 2) := by decide +kernel
theorem d_113_158 : decode (mC 113) 158 = .ok (.iadd, 1) := by decide +kernel
theorem d_113_159 : decode (mC 113) 159 = .ok (.iconst 1, 1) := by decide +kernel
theorem d_113_160 : decode (mC 113) 160 = .ok (.lload_n 2, 1) := by decide +kernel
theorem d_113_161 : decode (mC 113) 161 = .ok (.invokestatic 168, 3) := by decide +kernel
theorem d_113_164 : decode (mC 113) 164 = .ok (.iadd, 1) := by decide +kernel
theorem d_113_165 : decode (mC 113) 165 = .ok (.iastore, 1) := by decide +kernel
theorem d_113_166 : decode (mC 113) 166 = .ok (.aload_n 0, 1) := by decide +kernel
theorem d_113_167 : decode (mC 113) 167 = .ok (.getfield 46, 3) := by decide +kernel
theorem d_113_170 : decode (mC 113) 170 = .ok (.iload_n 1, 1) := by decide +kernel
theorem d_113_171 : decode (mC 113) 171 = .ok (.iload 4, 2) := by decide +kernel
theorem d_113_173 : decode (mC 113) 173 = .ok (.iastore, 1) := by decide +kernel
theorem d_113_174 : decode (mC 113) 174 = .ok (.aload_n 0, 1) := by decide +kernel
theorem d_113_175 : decode (mC 113) 175 = .ok (.getfield 49, 3) := by decide +kernel
theorem d_113_178 : decode (mC 113) 178 = .ok (.iload_n 1, 1) := by decide +kernel
theorem d_113_179 : decode (mC 113) 179 = .ok (.iconst 1, 1) := by decide +kernel
theorem d_113_180 : decode (mC 113) 180 = .ok (.bastore, 1) := by decide +kernel
theorem d_113_181 : decode (mC 113) 181 = .ok (.return_, 1) := by decide +kernel
theorem d_113_182 : decode (mC 113) 182 = .ok (.aload_n 0, 1) := by decide +kernel
theorem d_113_183 : decode (mC 113) 183 = .ok (.getfield 28, 3) := by decide +kernel
theorem d_113_186 : decode (mC 113) 186 = .ok (.iload_n 1, 1) := by decide +kernel
theorem d_113_187 : decode (mC 113) 187 = .ok (.iaload, 1) := by decide +kernel
theorem d_113_188 : decode (mC 113) 188 = .ok (.bipush 10, 2) := by decide +kernel
theorem d_113_190 : decode (mC 113) 190 = .ok (.iload 4, 2) := by decide +kernel
theorem d_113_192 : decode (mC 113) 192 = .ok (.imul, 1) := by decide +kernel
theorem d_113_193 : decode (mC 113) 193 = .ok (.isub, 1) := by decide +kernel
theorem d_113_194 : decode (mC 113) 194 = .ok (.bipush 6, 2) := by decide +kernel
theorem d_113_196 : decode (mC 113) 196 = .ok (.iadd, 1) := by decide +kernel
theorem d_113_197 : decode (mC 113) 197 = .ok (.istore 8, 2) := by decide +kernel
theorem d_113_199 : decode (mC 113) 199 = .ok (.iload 7, 2) := by decide +kernel
theorem d_113_201 : decode (mC 113) 201 = .ok (.ifCond .eq 64, 3) := by decide +kernel
theorem d_113_204 : decode (mC 113) 204 = .ok (.iload 8, 2) := by decide +kernel
theorem d_113_206 : decode (mC 113) 206 = .ok (.bipush (-3), 2) := by decide +kernel
theorem d_113_208 : decode (mC 113) 208 = .ok (.if_icmp .lt 57, 3) := by decide +kernel
theorem d_113_211 : decode (mC 113) 211 = .ok (.iload 8, 2) := by decide +kernel
theorem d_113_213 : decode (mC 113) 213 = .ok (.iconst 3, 1) := by decide +kernel
theorem d_113_214 : decode (mC 113) 214 = .ok (.if_icmp .gt 51, 3) := by decide +kernel
theorem d_113_217 : decode (mC 113) 217 = .ok (.aload_n 0, 1) := by decide +kernel
theorem d_113_218 : decode (mC 113) 218 = .ok (.getfield 53, 3) := by decide +kernel
theorem d_113_221 : decode (mC 113) 221 = .ok (.bipush 8, 2) := by decide +kernel
theorem d_113_223 : decode (mC 113) 223 = .ok (.iload_n 1, 1) := by decide +kernel
theorem d_113_224 : decode (mC 113) 224 = .ok (.imul, 1) := by decide +kernel
theorem d_113_225 : decode (mC 113) 225 = .ok (.iconst 2, 1) := by decide +kernel
theorem d_113_226 : decode (mC 113) 226 = .ok (.iload 4, 2) := by decide +kernel
theorem d_113_228 : decode (mC 113) 228 = .ok (.iconst 1, 1) := by decide +kernel
theorem d_113_229 : decode (mC 113) 229 = .ok (.isub, 1) := by decide +kernel
theorem d_113_230 : decode (mC 113) 230 = .ok (.imul, 1) := by decide +kernel
theorem d_113_231 : decode (mC 113) 231 = .ok (.iadd, 1) := by decide +kernel
theorem d_113_232 : decode (mC 113) 232 = .ok (.aload_n 0, 1) := by decide +kernel
theorem d_113_233 : decode (mC 113) 233 = .ok (.getfield 31, 3) := by decide +kernel
theorem d_113_236 : decode (mC 113) 236 = .ok (.iload_n 1, 1) := by decide +kernel
theorem d_113_237 : decode (mC 113) 237 = .ok (.iaload, 1) := by decide +kernel
theorem d_113_238 : decode (mC 113) 238 = .ok (.iconst 2, 1) := by decide +kernel
theorem d_113_239 : decode (mC 113) 239 = .ok (.irem, 1) := by decide +kernel
theorem d_113_240 : decode (mC 113) 240 = .ok (.iadd, 1) := by decide +kernel
theorem d_113_241 : decode (mC 113) 241 = .ok (.iload 8, 2) := by decide +kernel
theorem d_113_243 : decode (mC 113) 243 = .ok (.iastore, 1) := by decide +kernel
theorem d_113_244 : decode (mC 113) 244 = .ok (.aload_n 0, 1) := by decide +kernel
theorem d_113_245 : decode (mC 113) 245 = .ok (.getfield 56, 3) := by decide +kernel
theorem d_113_248 : decode (mC 113) 248 = .ok (.bipush 10, 2) := by decide +kernel
theorem d_113_250 : decode (mC 113) 250 = .ok (.iload_n 1, 1) := by decide +kernel
theorem d_113_251 : decode (mC 113) 251 = .ok (.imul, 1) := by decide +kernel
theorem d_113_252 : decode (mC 113) 252 = .ok (.iload 4, 2) := by decide +kernel
theorem d_113_254 : decode (mC 113) 254 = .ok (.iadd, 1) := by decide +kernel
theorem d_113_255 : decode (mC 113) 255 = .ok (.iconst 1, 1) := by decide +kernel
theorem d_113_256 : decode (mC 113) 256 = .ok (.lload_n 2, 1) := by decide +kernel
theorem d_113_257 : decode (mC 113) 257 = .ok (.invokestatic 168, 3) := by decide +kernel
theorem d_113_260 : decode (mC 113) 260 = .ok (.iadd, 1) := by decide +kernel
theorem d_113_261 : decode (mC 113) 261 = .ok (.iastore, 1) := by decide +kernel
theorem d_113_262 : decode (mC 113) 262 = .ok (.goto 23, 3) := by decide +kernel
theorem d_113_265 : decode (mC 113) 265 = .ok (.aload_n 0, 1) := by decide +kernel
theorem d_113_266 : decode (mC 113) 266 = .ok (.getfield 13, 3) := by decide +kernel
theorem d_113_269 : decode (mC 113) 269 = .ok (.iload_n 1, 1) := by decide +kernel
theorem d_113_270 : decode (mC 113) 270 = .ok (.iaload, 1) := by decide +kernel
theorem d_113_271 : decode (mC 113) 271 = .ok (.iconst 2, 1) := by decide +kernel
theorem d_113_272 : decode (mC 113) 272 = .ok (.if_icmp .ne 13, 3) := by decide +kernel
theorem d_113_275 : decode (mC 113) 275 = .ok (.iload 5, 2) := by decide +kernel
theorem d_113_277 : decode (mC 113) 277 = .ok (.ifCond .eq 8, 3) := by decide +kernel
theorem d_113_280 : decode (mC 113) 280 = .ok (.aload_n 0, 1) := by decide +kernel
theorem d_113_281 : decode (mC 113) 281 = .ok (.iload_n 1, 1) := by decide +kernel
theorem d_113_282 : decode (mC 113) 282 = .ok (.invokevirtual 128, 3) := by decide +kernel
theorem d_113_285 : decode (mC 113) 285 = .ok (.return_, 1) := by decide +kernel
theorem d_114_0 : decode (mC 114) 0 = .ok (.lload_n 0, 1) := by decide +kernel
theorem d_114_1 : decode (mC 114) 1 = .ok (.bipush 52, 2) := by decide +kernel
theorem d_114_3 : decode (mC 114) 3 = .ok (.lshr, 1) := by decide +kernel
theorem d_114_4 : decode (mC 114) 4 = .ok (.ldc2_w 107, 3) := by decide +kernel
theorem d_114_7 : decode (mC 114) 7 = .ok (.land, 1) := by decide +kernel
theorem d_114_8 : decode (mC 114) 8 = .ok (.l2i, 1) := by decide +kernel
theorem d_114_9 : decode (mC 114) 9 = .ok (.ireturn, 1) := by decide +kernel
theorem d_115_0 : decode (mC 115) 0 = .ok (.lload_n 0, 1) := by decide +kernel
theorem d_115_1 : decode (mC 115) 1 = .ok (.bipush 45, 2) := by decide +kernel
theorem d_115_3 : decode (mC 115) 3 = .ok (.lshr, 1) := by decide +kernel
theorem d_115_4 : decode (mC 115) 4 = .ok (.lconst 1, 1) := by decide +kernel
theorem d_115_5 : decode (mC 115) 5 = .ok (.land, 1) := by decide +kernel
theorem d_115_6 : decode (mC 115) 6 = .ok (.lconst 1, 1) := by decide +kernel
theorem d_115_7 : decode (mC 115) 7 = .ok (.lcmp, 1) := by decide +kernel
theorem d_115_8 : decode (mC 115) 8 = .ok (.ifCond .ne 7, 3) := by decide +kernel
theorem d_115_11 : decode (mC 115) 11 = .ok (.iconst 1, 1) := by decide +kernel
theorem d_115_12 : decode (mC 115) 12 = .ok (.goto 4, 3) := by decide +kernel
theorem d_115_15 : decode (mC 115) 15 = .ok (.iconst 0, 1) := by decide +kernel
theorem d_115_16 : decode (mC 115) 16 = .ok (.ireturn, 1) := by decide +kernel
theorem d_116_0 : decode (mC 116) 0 = .ok (.lload_n 0, 1) := by decide +kernel
theorem d_116_1 : decode (mC 116) 1 = .ok (.lconst 0, 1) := by decide +kernel
theorem d_116_2 : decode (mC 116) 2 = .ok (.lcmp, 1) := by decide +kernel
theorem d_116_3 : decode (mC 116) 3 = .ok (.ifCond .lt 11, 3) := by decide +kernel
theorem d_116_6 : decode (mC 116) 6 = .ok (.lload_n 0, 1) := by decide +kernel
theorem d_116_7 : decode (mC 116) 7 = .ok (.ldc2_w 101, 3) := by decide +kernel
theorem d_116_10 : decode (mC 116) 10 = .ok (.lcmp, 1) := by decide +kernel
theorem d_116_11 : decode (mC 116) 11 = .ok (.ifCond .lt 5, 3) := by decide +kernel
theorem d_116_14 : decode (mC 116) 14 = .ok (.iconst 1, 1) := by decide +kernel
theorem d_116_15 : decode (mC 116) 15 = .ok (.ireturn, 1) := by decide +kernel
theorem d_116_16 : decode (mC 116) 16 = .ok (.lload_n 0, 1) := by decide +kernel
theorem d_116_17 : decode (mC 116) 17 = .ok (.bipush 45, 2) := by decide +kernel
theorem d_116_19 : decode (mC 116) 19 = .ok (.lshr, 1) := by decide +kernel
theorem d_116_20 : decode (mC 116) 20 = .ok (.lstore_n 2, 1) := by decide +kernel
theorem d_116_21 : decode (mC 116) 21 = .ok (.lload_n 2, 1) := by decide +kernel
theorem d_116_22 : decode (mC 116) 22 = .ok (.bipush 12, 2) := by decide +kernel
theorem d_116_24 : decode (mC 116) 24 = .ok (.bipush 11, 2) := by decide +kernel
theorem d_116_26 : decode (mC 116) 26 = .ok (.bipush 26, 2) := by decide +kernel
theorem d_116_28 : decode (mC 116) 28 = .ok (.sipush 901, 3) := by decide +kernel
theorem d_116_31 : decode (mC 116) 31 = .ok (.invokestatic 91, 3) := by decide +kernel
theorem d_116_34 : decode (mC 116) 34 = .ok (.lload_n 0, 1) := by decide +kernel
theorem d_116_35 : decode (mC 116) 35 = .ok (.bipush 34, 2) := by decide +kernel
theorem d_116_37 : decode (mC 116) 37 = .ok (.lshr, 1) := by decide +kernel
theorem d_116_38 : decode (mC 116) 38 = .ok (.ldc2_w 103, 3) := by decide +kernel
theorem d_116_41 : decode (mC 116) 41 = .ok (.land, 1) := by decide +kernel
theorem d_116_42 : decode (mC 116) 42 = .ok (.l2i, 1) := by decide +kernel
theorem d_116_43 : decode (mC 116) 43 = .ok (.if_icmp .eq 5, 3) := by decide +kernel
theorem d_116_46 : decode (mC 116) 46 = .ok (.iconst 1, 1) := by decide +kernel
theorem d_116_47 : decode (mC 116) 47 = .ok (.ireturn, 1) := by decide +kernel
theorem d_116_48 : decode (mC 116) 48 = .ok (.lload_n 0, 1) := by decide +kernel
theorem d_116_49 : decode (mC 116) 49 = .ok (.bipush 24, 2) := by decide +kernel
theorem d_116_51 : decode (mC 116) 51 = .ok (.lshr, 1) := by decide +kernel
theorem d_116_52 : decode (mC 116) 52 = .ok (.bipush 33, 2) := by decide +kernel
theorem d_116_54 : decode (mC 116) 54 = .ok (.bipush 24, 2) := by decide +kernel
theorem d_116_56 : decode (mC 116) 56 = .ok (.ldc 99, 2) := by decide +kernel
theorem d_116_58 : decode (mC 116) 58 = .ok (.ldc 100, 2) := by decide +kernel
theorem d_116_60 : decode (mC 116) 60 = .ok (.invokestatic 91, 3) := by decide +kernel
theorem d_116_63 : decode (mC 116) 63 = .ok (.lload_n 0, 1) := by decide +kernel
theorem d_116_64 : decode (mC 116) 64 = .ok (.ldc2_w 105, 3) := by decide +kernel
theorem d_116_67 : decode (mC 116) 67 = .ok (.land, 1) := by decide +kernel
theorem d_116_68 : decode (mC 116) 68 = .ok (.l2i, 1) := by decide +kernel
theorem d_116_69 : decode (mC 116) 69 = .ok (.if_icmp .ne 7, 3) := by decide +kernel
theorem d_116_72 : decode (mC 116) 72 = .ok (.iconst 0, 1) := by decide +kernel
theorem d_116_73 : decode (mC 116) 73 = .ok (.goto 4, 3) := by decide +kernel
theorem d_116_76 : decode (mC 116) 76 = .ok (.iconst 2, 1) := by decide +kernel
theorem d_116_77 : decode (mC 116) 77 = .ok (.ireturn, 1) := by decide +kernel
theorem d_117_0 : decode (mC 117) 0 = .ok (.lload_n 0, 1) := by decide +kernel
theorem d_117_1 : decode (mC 117) 1 = .ok (.bipush 46, 2) := by decide +kernel
theorem d_117_3 : decode (mC 117) 3 = .ok (.lshr, 1) := by decide +kernel
theorem d_117_4 : decode (mC 117) 4 = .ok (.ldc2_w 109, 3) := by decide +kernel
theorem d_117_7 : decode (mC 117) 7 = .ok (.land, 1) := by decide +kernel
theorem d_117_8 : decode (mC 117) 8 = .ok (.l2i, 1) := by decide +kernel
theorem d_117_9 : decode (mC 117) 9 = .ok (.ireturn, 1) := by decide +kernel
theorem d_118_0 : decode (mC 118) 0 = .ok (.iload_n 3, 1) := by decide +kernel
theorem d_118_1 : decode (mC 118) 1 = .ok (.ifCond .le 73, 3) := by decide +kernel
theorem d_118_4 : decode (mC 118) 4 = .ok (.aload_n 0, 1) := by decide +kernel
theorem d_118_5 : decode (mC 118) 5 = .ok (.getfield 25, 3) := by decide +kernel
theorem d_118_8 : decode (mC 118) 8 = .ok (.iload_n 1, 1) := by decide +kernel
theorem d_118_9 : decode (mC 118) 9 = .ok (.iaload, 1) := by decide +kernel
theorem d_118_10 : decode (mC 118) 10 = .ok (.bipush 64, 2) := by decide +kernel
theorem d_118_12 : decode (mC 118) 12 = .ok (.iload_n 2, 1) := by decide +kernel
theorem d_118_13 : decode (mC 118) 13 = .ok (.imul, 1) := by decide +kernel
theorem d_118_14 : decode (mC 118) 14 = .ok (.iload_n 3, 1) := by decide +kernel
theorem d_118_15 : decode (mC 118) 15 = .ok (.iadd, 1) := by decide +kernel
theorem d_118_16 : decode (mC 118) 16 = .ok (.iconst 1, 1) := by decide +kernel
theorem d_118_17 : decode (mC 118) 17 = .ok (.isub, 1) := by decide +kernel
theorem d_118_18 : decode (mC 118) 18 = .ok (.if_icmp .ne 56, 3) := by decide +kernel
theorem d_118_21 : decode (mC 118) 21 = .ok (.aload_n 0, 1) := by decide +kernel
theorem d_118_22 : decode (mC 118) 22 = .ok (.getfield 22, 3) := by decide +kernel
theorem d_118_25 : decode (mC 118) 25 = .ok (.iload_n 1, 1) := by decide +kernel
theorem d_118_26 : decode (mC 118) 26 = .ok (.iaload, 1) := by decide +kernel
theorem d_118_27 : decode (mC 118) 27 = .ok (.bipush 70, 2) := by decide +kernel
theorem d_118_29 : decode (mC 118) 29 = .ok (.if_icmp .lt 45, 3) := by decide +kernel
theorem d_118_32 : decode (mC 118) 32 = .ok (.aload_n 0, 1) := by decide +kernel
theorem d_118_33 : decode (mC 118) 33 = .ok (.getfield 22, 3) := by decide +kernel
theorem d_118_36 : decode (mC 118) 36 = .ok (.iload_n 1, 1) := by decide +kernel
theorem d_118_37 : decode (mC 118) 37 = .ok (.iaload, 1) := by decide +kernel
theorem d_118_38 : decode (mC 118) 38 = .ok (.bipush 90, 2) := by decide +kernel
theorem d_118_40 : decode (mC 118) 40 = .ok (.if_icmp .gt 34, 3) := by decide +kernel
theorem d_118_43 : decode (mC 118) 43 = .ok (.aload_n 0, 1) := by decide +kernel
theorem d_118_44 : decode (mC 118) 44 = .ok (.iload_n 1, 1) := by decide +kernel
theorem d_118_45 : decode (mC 118) 45 = .ok (.iconst 3, 1) := by decide +kernel
theorem d_118_46 : decode (mC 118) 46 = .ok (.iload_n 3, 1) := by decide +kernel
theorem d_118_47 : decode (mC 118) 47 = .ok (.bipush 10, 2) := by decide +kernel
theorem d_118_49 : decode (mC 118) 49 = .ok (.iload_n 2, 1) := by decide +kernel
theorem d_118_50 : decode (mC 118) 50 = .ok (.imul, 1) := by decide +kernel
theorem d_118_51 : decode (mC 118) 51 = .ok (.bipush 6, 2) := by decide +kernel
theorem d_118_53 : decode (mC 118) 53 = .ok (.isub, 1) := by decide +kernel
theorem d_118_54 : decode (mC 118) 54 = .ok (.aload_n 0, 1) := by decide +kernel
theorem d_118_55 : decode (mC 118) 55 = .ok (.getfield 22, 3) := by decide +kernel
theorem d_118_58 : decode (mC 118) 58 = .ok (.iload_n 1, 1) := by decide +kernel
theorem d_118_59 : decode (mC 118) 59 = .ok (.iaload, 1) := by decide +kernel
theorem d_118_60 : decode (mC 118) 60 = .ok (.bipush 80, 2) := by decide +kernel
theorem d_118_62 : decode (mC 118) 62 = .ok (.isub, 1) := by decide +kernel
theorem d_118_63 : decode (mC 118) 63 = .ok (.iconst 4, 1) := by decide +kernel
theorem d_118_64 : decode (mC 118) 64 = .ok (.invokestatic 120, 3) := by decide +kernel
theorem d_118_67 : decode (mC 118) 67 = .ok (.iconst (-1), 1) := by decide +kernel
theorem d_118_68 : decode (mC 118) 68 = .ok (.invokevirtual 139, 3) := by decide +kernel
theorem d_118_71 : decode (mC 118) 71 = .ok (.goto 72, 3) := by decide +kernel
theorem d_118_74 : decode (mC 118) 74 = .ok (.aload_n 0, 1) := by decide +kernel
theorem d_118_75 : decode (mC 118) 75 = .ok (.getfield 25, 3) := by decide +kernel
theorem d_118_78 : decode (mC 118) 78 = .ok (.iload_n 1, 1) := by decide +kernel
theorem d_118_79 : decode (mC 118) 79 = .ok (.iaload, 1) := by decide +kernel
theorem d_118_80 : decode (mC 118) 80 = .ok (.ifCond .le 28, 3) := by decide +kernel
theorem d_118_83 : decode (mC 118) 83 = .ok (.aload_n 0, 1) := by decide +kernel
theorem d_118_84 : decode (mC 118) 84 = .ok (.getfield 25, 3) := by decide +kernel
theorem d_118_87 : decode (mC 118) 87 = .ok (.iload_n 1, 1) := by decide +kernel
theorem d_118_88 : decode (mC 118) 88 = .ok (.iaload, 1) := by decide +kernel
theorem d_118_89 : decode (mC 118) 89 = .ok (.bipush 64, 2) := by decide +kernel
theorem d_118_91 : decode (mC 118) 91 = .ok (.idiv, 1) := by decide +kernel
theorem d_118_92 : decode (mC 118) 92 = .ok (.iload_n 2, 1) := by decide +kernel
theorem d_118_93 : decode (mC 118) 93 = .ok (.if_icmp .eq 15, 3) := by decide +kernel
theorem d_118_96 : decode (mC 118) 96 = .ok (.aload_n 0, 1) := by decide +kernel
theorem d_118_97 : decode (mC 118) 97 = .ok (.getfield 22, 3) := by decide +kernel
theorem d_118_100 : decode (mC 118) 100 = .ok (.iload_n 1, 1) := by decide +kernel
theorem d_118_101 : decode (mC 118) 101 = .ok (.iaload, 1) := by decide +kernel
theorem d_118_102 : decode (mC 118) 102 = .ok (.bipush 90, 2) := by decide +kernel
theorem d_118_104 : decode (mC 118) 104 = .ok (.if_icmp .gt 4, 3) := by decide +kernel
theorem d_118_107 : decode (mC 118) 107 = .ok (.return_, 1) := by decide +kernel
theorem d_118_108 : decode (mC 118) 108 = .ok (.iload_n 3, 1) := by decide +kernel
theorem d_118_109 : decode (mC 118) 109 = .ok (.iconst 2, 1) := by decide +kernel
theorem d_118_110 : decode (mC 118) 110 = .ok (.irem, 1) := by decide +kernel
theorem d_118_111 : decode (mC 118) 111 = .ok (.ifCond .ne 25, 3) := by decide +kernel
theorem d_118_114 : decode (mC 118) 114 = .ok (.aload_n 0, 1) := by decide +kernel
theorem d_118_115 : decode (mC 118) 115 = .ok (.getfield 25, 3) := by decide +kernel
theorem d_118_118 : decode (mC 118) 118 = .ok (.iload_n 1, 1) := by decide +kernel
theorem d_118_119 : decode (mC 118) 119 = .ok (.bipush 64, 2) := by decide +kernel
theorem d_118_121 : decode (mC 118) 121 = .ok (.iload_n 2, 1) := by decide +kernel
theorem d_118_122 : decode (mC 118) 122 = .ok (.imul, 1) := by decide +kernel
theorem d_118_123 : decode (mC 118) 123 = .ok (.iload_n 3, 1) := by decide +kernel
theorem d_118_124 : decode (mC 118) 124 = .ok (.iadd, 1) := by decide +kernel
theorem d_118_125 : decode (mC 118) 125 = .ok (.iastore, 1) := by decide +kernel
theorem d_118_126 : decode (mC 118) 126 = .ok (.aload_n 0, 1) := by decide +kernel
theorem d_118_127 : decode (mC 118) 127 = .ok (.getfield 22, 3) := by decide +kernel
theorem d_118_130 : decode (mC 118) 130 = .ok (.iload_n 1, 1) := by decide +kernel
theorem d_118_131 : decode (mC 118) 131 = .ok (.iconst 0, 1) := by decide +kernel
theorem d_118_132 : decode (mC 118) 132 = .ok (.iastore, 1) := by decide +kernel
theorem d_118_133 : decode (mC 118) 133 = .ok (.goto 10, 3) := by decide +kernel
theorem d_118_136 : decode (mC 118) 136 = .ok (.aload_n 0, 1) := by decide +kernel
theorem d_118_137 : decode (mC 118) 137 = .ok (.getfield 25, 3) := by decide +kernel
theorem d_118_140 : decode (mC 118) 140 = .ok (.iload_n 1, 1) := by decide +kernel
theorem d_118_141 : decode (mC 118) 141 = .ok (.iconst 0, 1) := by decide +kernel
theorem d_118_142 : decode (mC 118) 142 = .ok (.iastore, 1) := by decide +kernel
theorem d_118_143 : decode (mC 118) 143 = .ok (.return_, 1) := by decide +kernel
theorem d_119_0 : decode (mC 119) 0 = .ok (.lload_n 0, 1) := by decide +kernel
theorem d_119_1 : decode (mC 119) 1 = .ok (.bipush 24, 2) := by decide +kernel
theorem d_119_3 : decode (mC 119) 3 = .ok (.lshr, 1) := by decide +kernel
theorem d_119_4 : decode (mC 119) 4 = .ok (.ldc2_w 111, 3) := by decide +kernel
theorem d_119_7 : decode (mC 119) 7 = .ok (.land, 1) := by decide +kernel
theorem d_119_8 : decode (mC 119) 8 = .ok (.l2i, 1) := by decide +kernel
theorem d_119_9 : decode (mC 119) 9 = .ok (.ireturn, 1) := by decide +kernel
theorem d_120_0 : decode (mC 120) 0 = .ok (.aload_n 0, 1) := by decide +kernel
theorem d_120_1 : decode (mC 120) 1 = .ok (.iload_n 1, 1) := by decide +kernel
theorem d_120_2 : decode (mC 120) 2 = .ok (.iconst 4, 1) := by decide +kernel
theorem d_120_3 : decode (mC 120) 3 = .ok (.invokestatic 197, 3) := by decide +kernel
theorem d_120_6 : decode (mC 120) 6 = .ok (.ifCond .ne 13, 3) := by decide +kernel
theorem d_120_9 : decode (mC 120) 9 = .ok (.iload_n 2, 1) := by decide +kernel
theorem d_120_10 : decode (mC 120) 10 = .ok (.sipush 1024, 3) := by decide +kernel
theorem d_120_13 : decode (mC 120) 13 = .ok (.invokestatic 197, 3) := by decide +kernel
theorem d_120_16 : decode (mC 120) 16 = .ok (.ifCond .eq 7, 3) := by decide +kernel
theorem d_120_19 : decode (mC 120) 19 = .ok (.iconst 1, 1) := by decide +kernel
theorem d_120_20 : decode (mC 120) 20 = .ok (.goto 17, 3) := by decide +kernel
theorem d_120_23 : decode (mC 120) 23 = .ok (.aload_n 0, 1) := by decide +kernel
theorem d_120_24 : decode (mC 120) 24 = .ok (.getfield 13, 3) := by decide +kernel
theorem d_120_27 : decode (mC 120) 27 = .ok (.iload_n 1, 1) := by decide +kernel
theorem d_120_28 : decode (mC 120) 28 = .ok (.iaload, 1) := by decide +kernel
theorem d_120_29 : decode (mC 120) 29 = .ok (.ifCond .ne 7, 3) := by decide +kernel
theorem d_120_32 : decode (mC 120) 32 = .ok (.iconst 2, 1) := by decide +kernel
theorem d_120_33 : decode (mC 120) 33 = .ok (.goto 4, 3) := by decide +kernel
theorem d_120_36 : decode (mC 120) 36 = .ok (.iconst 0, 1) := by decide +kernel
theorem d_120_37 : decode (mC 120) 37 = .ok (.putfield 81, 3) := by decide +kernel
theorem d_120_40 : decode (mC 120) 40 = .ok (.aload_n 0, 1) := by decide +kernel
theorem d_120_41 : decode (mC 120) 41 = .ok (.getfield 81, 3) := by decide +kernel
theorem d_120_44 : decode (mC 120) 44 = .ok (.ifCond .ne 10, 3) := by decide +kernel
theorem d_120_47 : decode (mC 120) 47 = .ok (.aload_n 0, 1) := by decide +kernel
theorem d_120_48 : decode (mC 120) 48 = .ok (.getfield 59, 3) := by decide +kernel
theorem d_120_51 : decode (mC 120) 51 = .ok (.iload_n 1, 1) := by decide +kernel
theorem d_120_52 : decode (mC 120) 52 = .ok (.iload_n 2, 1) := by decide +kernel
theorem d_120_53 : decode (mC 120) 53 = .ok (.iastore, 1) := by decide +kernel
theorem d_120_54 : decode (mC 120) 54 = .ok (.return_, 1) := by decide +kernel
theorem d_121_0 : decode (mC 121) 0 = .ok (.iload_n 1, 1) := by decide +kernel
theorem d_121_1 : decode (mC 121) 1 = .ok (.iconst 4, 1) := by decide +kernel
theorem d_121_2 : decode (mC 121) 2 = .ok (.invokestatic 197, 3) := by decide +kernel
theorem d_121_5 : decode (mC 121) 5 = .ok (.ifCond .ne 46, 3) := by decide +kernel
theorem d_121_8 : decode (mC 121) 8 = .ok (.iload_n 2, 1) := by decide +kernel
theorem d_121_9 : decode (mC 121) 9 = .ok (.iconst 5, 1) := by decide +kernel
theorem d_121_10 : decode (mC 121) 10 = .ok (.if_icmp .lt 41, 3) := by decide +kernel
theorem d_121_13 : decode (mC 121) 13 = .ok (.iload_n 2, 1) := by decide +kernel
theorem d_121_14 : decode (mC 121) 14 = .ok (.bipush 9, 2) := by decide +kernel
theorem d_121_16 : decode (mC 121) 16 = .ok (.if_icmp .gt 35, 3) := by decide +kernel
theorem d_121_19 : decode (mC 121) 19 = .ok (.iload_n 3, 1) := by decide +kernel
theorem d_121_20 : decode (mC 121) 20 = .ok (.sipush 1024, 3) := by decide +kernel
theorem d_121_23 : decode (mC 121) 23 = .ok (.invokestatic 197, 3) := by decide +kernel
theorem d_121_26 : decode (mC 121) 26 = .ok (.ifCond .ne 25, 3) := by decide +kernel
theorem d_121_29 : decode (mC 121) 29 = .ok (.iload 5, 2) := by decide +kernel
theorem d_121_31 : decode (mC 121) 31 = .ok (.iconst 1, 1) := by decide +kernel
theorem d_121_32 : decode (mC 121) 32 = .ok (.if_icmp .eq 15, 3) := by decide +kernel
theorem d_121_35 : decode (mC 121) 35 = .ok (.iload 5, 2) := by decide +kernel
theorem d_121_37 : decode (mC 121) 37 = .ok (.iconst 2, 1) := by decide +kernel
theorem d_121_38 : decode (mC 121) 38 = .ok (.if_icmp .eq 9, 3) := by decide +kernel
theorem d_121_41 : decode (mC 121) 41 = .ok (.iload 5, 2) := by decide +kernel
theorem d_121_43 : decode (mC 121) 43 = .ok (.iconst 4, 1) := by decide +kernel
theorem d_121_44 : decode (mC 121) 44 = .ok (.if_icmp .ne 7, 3) := by decide +kernel
theorem d_121_47 : decode (mC 121) 47 = .ok (.iconst 1, 1) := by decide +kernel
theorem d_121_48 : decode (mC 121) 48 = .ok (.goto 4, 3) := by decide +kernel
theorem d_121_51 : decode (mC 121) 51 = .ok (.iconst 0, 1) := by decide +kernel
theorem d_121_52 : decode (mC 121) 52 = .ok (.istore 6, 2) := by decide +kernel
theorem d_121_54 : decode (mC 121) 54 = .ok (.aload_n 0, 1) := by decide +kernel
theorem d_121_55 : decode (mC 121) 55 = .ok (.iload 6, 2) := by decide +kernel
theorem d_121_57 : decode (mC 121) 57 = .ok (.ifCond .eq 13, 3) := by decide +kernel
theorem d_121_60 : decode (mC 121) 60 = .ok (.iload 4, 2) := by decide +kernel
theorem d_121_62 : decode (mC 121) 62 = .ok (.iload 5, 2) := by decide +kernel
theorem d_121_64 : decode (mC 121) 64 = .ok (.invokestatic 197, 3) := by decide +kernel
theorem d_121_67 : decode (mC 121) 67 = .ok (.ifCond .eq 7, 3) := by decide +kernel
theorem d_121_70 : decode (mC 121) 70 = .ok (.iconst 1, 1) := by decide +kernel
theorem d_121_71 : decode (mC 121) 71 = .ok (.goto 26, 3) := by decide +kernel
theorem d_121_74 : decode (mC 121) 74 = .ok (.aload_n 0, 1) := by decide +kernel
theorem d_121_75 : decode (mC 121) 75 = .ok (.getfield 13, 3) := by decide +kernel
theorem d_121_78 : decode (mC 121) 78 = .ok (.iload_n 1, 1) := by decide +kernel
theorem d_121_79 : decode (mC 121) 79 = .ok (.iaload, 1) := by decide +kernel
theorem d_121_80 : decode (mC 121) 80 = .ok (.ifCond .eq 12, 3) := by decide +kernel
theorem d_121_83 : decode (mC 121) 83 = .ok (.aload_n 0, 1) := by decide +kernel
theorem d_121_84 : decode (mC 121) 84 = .ok (.getfield 62, 3) := by decide +kernel
theorem d_121_87 : decode (mC 121) 87 = .ok (.iload_n 1, 1) := by decide +kernel
theorem d_121_88 : decode (mC 121) 88 = .ok (.iaload, 1) := by decide +kernel
theorem d_121_89 : decode (mC 121) 89 = .ok (.ifCond .le 7, 3) := by decide +kernel
theorem d_121_92 : decode (mC 121) 92 = .ok (.iconst 2, 1) := by decide +kernel
theorem d_121_93 : decode (mC 121) 93 = .ok (.goto 4, 3) := by decide +kernel
theorem d_121_96 : decode (mC 121) 96 = .ok (.iconst 0, 1) := by decide +kernel
theorem d_121_97 : decode (mC 121) 97 = .ok (.putfield 81, 3) := by decide +kernel
theorem d_121_100 : decode (mC 121) 100 = .ok (.aload_n 0, 1) := by decide +kernel
theorem d_121_101 : decode (mC 121) 101 = .ok (.getfield 81, 3) := by decide +kernel
theorem d_121_104 : decode (mC 121) 104 = .ok (.ifCond .le 4, 3) := by decide +kernel
theorem d_121_107 : decode (mC 121) 107 = .ok (.return_, 1) := by decide +kernel
theorem d_121_108 : decode (mC 121) 108 = .ok (.aload_n 0, 1) := by decide +kernel
theorem d_121_109 : decode (mC 121) 109 = .ok (.getfield 62, 3) := by decide +kernel
theorem d_121_112 : decode (mC 121) 112 = .ok (.iload_n 1, 1) := by decide +kernel
theorem d_121_113 : decode (mC 121) 113 = .ok (.iload_n 2, 1) := by decide +kernel
theorem d_121_114 : decode (mC 121) 114 = .ok (.iastore, 1) := by decide +kernel
theorem d_121_115 : decode (mC 121) 115 = .ok (.aload_n 0, 1) := by decide +kernel
theorem d_121_116 : decode (mC 121) 116 = .ok (.getfield 65, 3) := by decide +kernel
theorem d_121_119 : decode (mC 121) 119 = .ok (.iload_n 1, 1) := by decide +kernel
theorem d_121_120 : decode (mC 121) 120 = .ok (.iload_n 3, 1) := by decide +kernel
theorem d_121_121 : decode (mC 121) 121 = .ok (.iastore, 1) := by decide +kernel
theorem d_121_122 : decode (mC 121) 122 = .ok (.aload_n 0, 1) := by decide +kernel
theorem d_121_123 : decode (mC 121) 123 = .ok (.getfield 68, 3) := by decide +kernel
theorem d_121_126 : decode (mC 121) 126 = .ok (.iload_n 1, 1) := by decide +kernel
theorem d_121_127 : decode (mC 121) 127 = .ok (.iload 4, 2) := by decide +kernel
theorem d_121_129 : decode (mC 121) 129 = .ok (.iastore, 1) := by decide +kernel
theorem d_121_130 : decode (mC 121) 130 = .ok (.aload_n 0, 1) := by decide +kernel
theorem d_121_131 : decode (mC 121) 131 = .ok (.getfield 71, 3) := by decide +kernel
theorem d_121_134 : decode (mC 121) 134 = .ok (.iload_n 1, 1) := by decide +kernel
theorem d_121_135 : decode (mC 121) 135 = .ok (.iload 5, 2) := by decide +kernel
theorem d_121_137 : decode (mC 121) 137 = .ok (.iastore, 1) := by decide +kernel
theorem d_121_138 : decode (mC 121) 138 = .ok (.return_, 1) := by decide +kernel
theorem d_122_0 : decode (mC 122) 0 = .ok (.aload_n 0, 1) := by decide +kernel
theorem d_122_1 : decode (mC 122) 1 = .ok (.lload_n 1, 1) := by decide +kernel
theorem d_122_2 : decode (mC 122) 2 = .ok (.lconst 0, 1) := by decide +kernel
theorem d_122_3 : decode (mC 122) 3 = .ok (.lcmp, 1) := by decide +kernel
theorem d_122_4 : decode (mC 122) 4 = .ok (.ifCond .lt 11, 3) := by decide +kernel
theorem d_122_7 : decode (mC 122) 7 = .ok (.lload_n 1, 1) := by decide +kernel
theorem d_122_8 : decode (mC 122) 8 = .ok (.ldc2_w 101, 3) := by decide +kernel
theorem d_122_11 : decode (mC 122) 11 = .ok (.lcmp, 1) := by decide +kernel
theorem d_122_12 : decode (mC 122) 12 = .ok (.ifCond .lt 7, 3) := by decide +kernel
theorem d_122_15 : decode (mC 122) 15 = .ok (.iconst 1, 1) := by decide +kernel
theorem d_122_16 : decode (mC 122) 16 = .ok (.goto 4, 3) := by decide +kernel
theorem d_122_19 : decode (mC 122) 19 = .ok (.iconst 0, 1) := by decide +kernel
theorem d_122_20 : decode (mC 122) 20 = .ok (.putfield 81, 3) := by decide +kernel
theorem d_122_23 : decode (mC 122) 23 = .ok (.aload_n 0, 1) := by decide +kernel
theorem d_122_24 : decode (mC 122) 24 = .ok (.getfield 81, 3) := by decide +kernel
theorem d_122_27 : decode (mC 122) 27 = .ok (.ifCond .ne 13, 3) := by decide +kernel
theorem d_122_30 : decode (mC 122) 30 = .ok (.aload_n 0, 1) := by decide +kernel
theorem d_122_31 : decode (mC 122) 31 = .ok (.aload_n 0, 1) := by decide +kernel
theorem d_122_32 : decode (mC 122) 32 = .ok (.getfield 180, 3) := by decide +kernel
theorem d_122_35 : decode (mC 122) 35 = .ok (.lload_n 1, 1) := by decide +kernel
theorem d_122_36 : decode (mC 122) 36 = .ok (.lxor, 1) := by decide +kernel
theorem d_122_37 : decode (mC 122) 37 = .ok (.putfield 180, 3) := by decide +kernel
theorem d_122_40 : decode (mC 122) 40 = .ok (.return_, 1) := by decide +kernel
theorem d_123_0 : decode (mC 123) 0 = .ok (.aload_n 0, 1) := by decide +kernel
theorem d_123_1 : decode (mC 123) 1 = .ok (.iconst 0, 1) := by decide +kernel
theorem d_123_2 : decode (mC 123) 2 = .ok (.putfield 81, 3) := by decide +kernel
theorem d_123_5 : decode (mC 123) 5 = .ok (.iload_n 1, 1) := by decide +kernel
theorem d_123_6 : decode (mC 123) 6 = .ok (.ifCond .lt 15, 3) := by decide +kernel
