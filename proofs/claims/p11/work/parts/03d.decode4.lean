theorem d_103_103 : decode (mC 103) 103 = .ok (.iload 6, 2) := by decide +kernel
theorem d_103_105 : decode (mC 103) 105 = .ok (.ifCond .eq 23, 3) := by decide +kernel
theorem d_103_108 : decode (mC 103) 108 = .ok (.aload_n 0, 1) := by decide +kernel
theorem d_103_109 : decode (mC 103) 109 = .ok (.iload 5, 2) := by decide +kernel
theorem d_103_111 : decode (mC 103) 111 = .ok (.invokevirtual 174, 3) := by decide +kernel
theorem d_103_114 : decode (mC 103) 114 = .ok (.ifCond .eq 14, 3) := by decide +kernel
theorem d_103_117 : decode (mC 103) 117 = .ok (.iinc 1 1, 3) := by decide +kernel
theorem d_103_120 : decode (mC 103) 120 = .ok (.iload 5, 2) := by decide +kernel
theorem d_103_122 : decode (mC 103) 122 = .ok (.istore_n 2, 1) := by decide +kernel
theorem d_103_123 : decode (mC 103) 123 = .ok (.aload_n 0, 1) := by decide +kernel
theorem d_103_124 : decode (mC 103) 124 = .ok (.getfield 135, 3) := by decide +kernel
theorem d_103_127 : decode (mC 103) 127 = .ok (.lstore_n 3, 1) := by decide +kernel
theorem d_103_128 : decode (mC 103) 128 = .ok (.iinc 5 1, 3) := by decide +kernel
theorem d_103_131 : decode (mC 103) 131 = .ok (.goto (-122), 3) := by decide +kernel
theorem d_103_134 : decode (mC 103) 134 = .ok (.aload_n 0, 1) := by decide +kernel
theorem d_103_135 : decode (mC 103) 135 = .ok (.aload_n 0, 1) := by decide +kernel
theorem d_103_136 : decode (mC 103) 136 = .ok (.getfield 177, 3) := by decide +kernel
theorem d_103_139 : decode (mC 103) 139 = .ok (.iload_n 1, 1) := by decide +kernel
theorem d_103_140 : decode (mC 103) 140 = .ok (.iadd, 1) := by decide +kernel
theorem d_103_141 : decode (mC 103) 141 = .ok (.putfield 177, 3) := by decide +kernel
theorem d_103_144 : decode (mC 103) 144 = .ok (.iload_n 1, 1) := by decide +kernel
theorem d_103_145 : decode (mC 103) 145 = .ok (.iconst 1, 1) := by decide +kernel
theorem d_103_146 : decode (mC 103) 146 = .ok (.if_icmp .eq 4, 3) := by decide +kernel
theorem d_103_149 : decode (mC 103) 149 = .ok (.return_, 1) := by decide +kernel
theorem d_103_150 : decode (mC 103) 150 = .ok (.aload_n 0, 1) := by decide +kernel
theorem d_103_151 : decode (mC 103) 151 = .ok (.lload_n 3, 1) := by decide +kernel
theorem d_103_152 : decode (mC 103) 152 = .ok (.aload_n 0, 1) := by decide +kernel
theorem d_103_153 : decode (mC 103) 153 = .ok (.getfield 180, 3) := by decide +kernel
theorem d_103_156 : decode (mC 103) 156 = .ok (.lxor, 1) := by decide +kernel
theorem d_103_157 : decode (mC 103) 157 = .ok (.putfield 183, 3) := by decide +kernel
theorem d_103_160 : decode (mC 103) 160 = .ok (.aload_n 0, 1) := by decide +kernel
theorem d_103_161 : decode (mC 103) 161 = .ok (.iconst 1, 1) := by decide +kernel
theorem d_103_162 : decode (mC 103) 162 = .ok (.putfield 186, 3) := by decide +kernel
theorem d_103_165 : decode (mC 103) 165 = .ok (.aload_n 0, 1) := by decide +kernel
theorem d_103_166 : decode (mC 103) 166 = .ok (.lconst 0, 1) := by decide +kernel
theorem d_103_167 : decode (mC 103) 167 = .ok (.putfield 180, 3) := by decide +kernel
theorem d_103_170 : decode (mC 103) 170 = .ok (.aload_n 0, 1) := by decide +kernel
theorem d_103_171 : decode (mC 103) 171 = .ok (.getfield 190, 3) := by decide +kernel
theorem d_103_174 : decode (mC 103) 174 = .ok (.ifCond .le 14, 3) := by decide +kernel
theorem d_103_177 : decode (mC 103) 177 = .ok (.aload_n 0, 1) := by decide +kernel
theorem d_103_178 : decode (mC 103) 178 = .ok (.dup, 1) := by decide +kernel
theorem d_103_179 : decode (mC 103) 179 = .ok (.getfield 190, 3) := by decide +kernel
theorem d_103_182 : decode (mC 103) 182 = .ok (.iconst 1, 1) := by decide +kernel
theorem d_103_183 : decode (mC 103) 183 = .ok (.isub, 1) := by decide +kernel
theorem d_103_184 : decode (mC 103) 184 = .ok (.putfield 190, 3) := by decide +kernel
theorem d_103_187 : decode (mC 103) 187 = .ok (.return_, 1) := by decide +kernel
theorem d_103_188 : decode (mC 103) 188 = .ok (.iconst 0, 1) := by decide +kernel
theorem d_103_189 : decode (mC 103) 189 = .ok (.istore 5, 2) := by decide +kernel
theorem d_103_191 : decode (mC 103) 191 = .ok (.iload 5, 2) := by decide +kernel
theorem d_103_193 : decode (mC 103) 193 = .ok (.iconst 4, 1) := by decide +kernel
theorem d_103_194 : decode (mC 103) 194 = .ok (.if_icmp .ge 34, 3) := by decide +kernel
theorem d_103_197 : decode (mC 103) 197 = .ok (.iload 5, 2) := by decide +kernel
theorem d_103_199 : decode (mC 103) 199 = .ok (.iload_n 2, 1) := by decide +kernel
theorem d_103_200 : decode (mC 103) 200 = .ok (.if_icmp .eq 22, 3) := by decide +kernel
theorem d_103_203 : decode (mC 103) 203 = .ok (.aload_n 0, 1) := by decide +kernel
theorem d_103_204 : decode (mC 103) 204 = .ok (.iload 5, 2) := by decide +kernel
theorem d_103_206 : decode (mC 103) 206 = .ok (.invokevirtual 171, 3) := by decide +kernel
theorem d_103_209 : decode (mC 103) 209 = .ok (.ifCond .eq 13, 3) := by decide +kernel
theorem d_103_212 : decode (mC 103) 212 = .ok (.aload_n 0, 1) := by decide +kernel
theorem d_103_213 : decode (mC 103) 213 = .ok (.iload 5, 2) := by decide +kernel
theorem d_103_215 : decode (mC 103) 215 = .ok (.aload_n 0, 1) := by decide +kernel
theorem d_103_216 : decode (mC 103) 216 = .ok (.getfield 183, 3) := by decide +kernel
theorem d_103_219 : decode (mC 103) 219 = .ok (.invokevirtual 193, 3) := by decide +kernel
theorem d_103_222 : decode (mC 103) 222 = .ok (.iinc 5 1, 3) := by decide +kernel
theorem d_103_225 : decode (mC 103) 225 = .ok (.goto (-34), 3) := by decide +kernel
theorem d_103_228 : decode (mC 103) 228 = .ok (.return_, 1) := by decide +kernel
theorem d_104_0 : decode (mC 104) 0 = .ok (.aload_n 0, 1) := by decide +kernel
theorem d_104_1 : decode (mC 104) 1 = .ok (.getfield 13, 3) := by decide +kernel
theorem d_104_4 : decode (mC 104) 4 = .ok (.iload_n 1, 1) := by decide +kernel
theorem d_104_5 : decode (mC 104) 5 = .ok (.iaload, 1) := by decide +kernel
theorem d_104_6 : decode (mC 104) 6 = .ok (.iconst 1, 1) := by decide +kernel
theorem d_104_7 : decode (mC 104) 7 = .ok (.if_icmp .ne 57, 3) := by decide +kernel
theorem d_104_10 : decode (mC 104) 10 = .ok (.aload_n 0, 1) := by decide +kernel
theorem d_104_11 : decode (mC 104) 11 = .ok (.getfield 19, 3) := by decide +kernel
theorem d_104_14 : decode (mC 104) 14 = .ok (.iload_n 1, 1) := by decide +kernel
theorem d_104_15 : decode (mC 104) 15 = .ok (.dup2, 1) := by decide +kernel
theorem d_104_16 : decode (mC 104) 16 = .ok (.iaload, 1) := by decide +kernel
theorem d_104_17 : decode (mC 104) 17 = .ok (.iconst 1, 1) := by decide +kernel
theorem d_104_18 : decode (mC 104) 18 = .ok (.iadd, 1) := by decide +kernel
theorem d_104_19 : decode (mC 104) 19 = .ok (.iastore, 1) := by decide +kernel
theorem d_104_20 : decode (mC 104) 20 = .ok (.aload_n 0, 1) := by decide +kernel
theorem d_104_21 : decode (mC 104) 21 = .ok (.getfield 22, 3) := by decide +kernel
theorem d_104_24 : decode (mC 104) 24 = .ok (.iload_n 1, 1) := by decide +kernel
theorem d_104_25 : decode (mC 104) 25 = .ok (.dup2, 1) := by decide +kernel
theorem d_104_26 : decode (mC 104) 26 = .ok (.iaload, 1) := by decide +kernel
theorem d_104_27 : decode (mC 104) 27 = .ok (.iconst 1, 1) := by decide +kernel
theorem d_104_28 : decode (mC 104) 28 = .ok (.iadd, 1) := by decide +kernel
theorem d_104_29 : decode (mC 104) 29 = .ok (.iastore, 1) := by decide +kernel
theorem d_104_30 : decode (mC 104) 30 = .ok (.iload_n 1, 1) := by decide +kernel
theorem d_104_31 : decode (mC 104) 31 = .ok (.iconst 2, 1) := by decide +kernel
theorem d_104_32 : decode (mC 104) 32 = .ok (.if_icmp .ge 30, 3) := by decide +kernel
theorem d_104_35 : decode (mC 104) 35 = .ok (.aload_n 0, 1) := by decide +kernel
theorem d_104_36 : decode (mC 104) 36 = .ok (.getfield 19, 3) := by decide +kernel
theorem d_104_39 : decode (mC 104) 39 = .ok (.iload_n 1, 1) := by decide +kernel
theorem d_104_40 : decode (mC 104) 40 = .ok (.iaload, 1) := by decide +kernel
theorem d_104_41 : decode (mC 104) 41 = .ok (.sipush 160, 3) := by decide +kernel
theorem d_104_44 : decode (mC 104) 44 = .ok (.bipush 20, 2) := by decide +kernel
theorem d_104_46 : decode (mC 104) 46 = .ok (.iload_n 1, 1) := by decide +kernel
theorem d_104_47 : decode (mC 104) 47 = .ok (.imul, 1) := by decide +kernel
theorem d_104_48 : decode (mC 104) 48 = .ok (.iadd, 1) := by decide +kernel
theorem d_104_49 : decode (mC 104) 49 = .ok (.if_icmp .ne 13, 3) := by decide +kernel
theorem d_104_52 : decode (mC 104) 52 = .ok (.aload_n 0, 1) := by decide +kernel
theorem d_104_53 : decode (mC 104) 53 = .ok (.iload_n 1, 1) := by decide +kernel
theorem d_104_54 : decode (mC 104) 54 = .ok (.iconst 2, 1) := by decide +kernel
theorem d_104_55 : decode (mC 104) 55 = .ok (.iconst 0, 1) := by decide +kernel
theorem d_104_56 : decode (mC 104) 56 = .ok (.iconst 0, 1) := by decide +kernel
theorem d_104_57 : decode (mC 104) 57 = .ok (.iconst 0, 1) := by decide +kernel
theorem d_104_58 : decode (mC 104) 58 = .ok (.iconst 0, 1) := by decide +kernel
theorem d_104_59 : decode (mC 104) 59 = .ok (.invokevirtual 139, 3) := by decide +kernel
theorem d_104_62 : decode (mC 104) 62 = .ok (.iconst 0, 1) := by decide +kernel
theorem d_104_63 : decode (mC 104) 63 = .ok (.ireturn, 1) := by decide +kernel
theorem d_104_64 : decode (mC 104) 64 = .ok (.aload_n 0, 1) := by decide +kernel
theorem d_104_65 : decode (mC 104) 65 = .ok (.getfield 28, 3) := by decide +kernel
theorem d_104_68 : decode (mC 104) 68 = .ok (.iload_n 1, 1) := by decide +kernel
theorem d_104_69 : decode (mC 104) 69 = .ok (.dup2, 1) := by decide +kernel
theorem d_104_70 : decode (mC 104) 70 = .ok (.iaload, 1) := by decide +kernel
theorem d_104_71 : decode (mC 104) 71 = .ok (.iconst 1, 1) := by decide +kernel
theorem d_104_72 : decode (mC 104) 72 = .ok (.iadd, 1) := by decide +kernel
theorem d_104_73 : decode (mC 104) 73 = .ok (.iastore, 1) := by decide +kernel
theorem d_104_74 : decode (mC 104) 74 = .ok (.aload_n 0, 1) := by decide +kernel
theorem d_104_75 : decode (mC 104) 75 = .ok (.getfield 31, 3) := by decide +kernel
theorem d_104_78 : decode (mC 104) 78 = .ok (.iload_n 1, 1) := by decide +kernel
theorem d_104_79 : decode (mC 104) 79 = .ok (.iaload, 1) := by decide +kernel
theorem d_104_80 : decode (mC 104) 80 = .ok (.iconst 2, 1) := by decide +kernel
theorem d_104_81 : decode (mC 104) 81 = .ok (.irem, 1) := by decide +kernel
theorem d_104_82 : decode (mC 104) 82 = .ok (.istore_n 2, 1) := by decide +kernel
theorem d_104_83 : decode (mC 104) 83 = .ok (.aload_n 0, 1) := by decide +kernel
theorem d_104_84 : decode (mC 104) 84 = .ok (.getfield 28, 3) := by decide +kernel
theorem d_104_87 : decode (mC 104) 87 = .ok (.iload_n 1, 1) := by decide +kernel
theorem d_104_88 : decode (mC 104) 88 = .ok (.iaload, 1) := by decide +kernel
theorem d_104_89 : decode (mC 104) 89 = .ok (.bipush 80, 2) := by decide +kernel
theorem d_104_91 : decode (mC 104) 91 = .ok (.aload_n 0, 1) := by decide +kernel
theorem d_104_92 : decode (mC 104) 92 = .ok (.getfield 34, 3) := by decide +kernel
theorem d_104_95 : decode (mC 104) 95 = .ok (.iload_n 1, 1) := by decide +kernel
theorem d_104_96 : decode (mC 104) 96 = .ok (.iaload, 1) := by decide +kernel
theorem d_104_97 : decode (mC 104) 97 = .ok (.iadd, 1) := by decide +kernel
theorem d_104_98 : decode (mC 104) 98 = .ok (.iload_n 2, 1) := by decide +kernel
theorem d_104_99 : decode (mC 104) 99 = .ok (.aload_n 0, 1) := by decide +kernel
theorem d_104_100 : decode (mC 104) 100 = .ok (.getfield 37, 3) := by decide +kernel
theorem d_104_103 : decode (mC 104) 103 = .ok (.iload_n 1, 1) := by decide +kernel
theorem d_104_104 : decode (mC 104) 104 = .ok (.iaload, 1) := by decide +kernel
theorem d_104_105 : decode (mC 104) 105 = .ok (.imul, 1) := by decide +kernel
theorem d_104_106 : decode (mC 104) 106 = .ok (.iadd, 1) := by decide +kernel
theorem d_104_107 : decode (mC 104) 107 = .ok (.if_icmp .ne 61, 3) := by decide +kernel
theorem d_104_110 : decode (mC 104) 110 = .ok (.aload_n 0, 1) := by decide +kernel
theorem d_104_111 : decode (mC 104) 111 = .ok (.getfield 28, 3) := by decide +kernel
theorem d_104_114 : decode (mC 104) 114 = .ok (.iload_n 1, 1) := by decide +kernel
theorem d_104_115 : decode (mC 104) 115 = .ok (.iconst 0, 1) := by decide +kernel
theorem d_104_116 : decode (mC 104) 116 = .ok (.iastore, 1) := by decide +kernel
theorem d_104_117 : decode (mC 104) 117 = .ok (.aload_n 0, 1) := by decide +kernel
theorem d_104_118 : decode (mC 104) 118 = .ok (.getfield 31, 3) := by decide +kernel
theorem d_104_121 : decode (mC 104) 121 = .ok (.iload_n 1, 1) := by decide +kernel
theorem d_104_122 : decode (mC 104) 122 = .ok (.aload_n 0, 1) := by decide +kernel
theorem d_104_123 : decode (mC 104) 123 = .ok (.getfield 31, 3) := by decide +kernel
theorem d_104_126 : decode (mC 104) 126 = .ok (.iload_n 1, 1) := by decide +kernel
theorem d_104_127 : decode (mC 104) 127 = .ok (.iaload, 1) := by decide +kernel
theorem d_104_128 : decode (mC 104) 128 = .ok (.bipush 63, 2) := by decide +kernel
theorem d_104_130 : decode (mC 104) 130 = .ok (.if_icmp .ne 7, 3) := by decide +kernel
theorem d_104_133 : decode (mC 104) 133 = .ok (.iconst 0, 1) := by decide +kernel
theorem d_104_134 : decode (mC 104) 134 = .ok (.goto 11, 3) := by decide +kernel
theorem d_104_137 : decode (mC 104) 137 = .ok (.aload_n 0, 1) := by decide +kernel
theorem d_104_138 : decode (mC 104) 138 = .ok (.getfield 31, 3) := by decide +kernel
theorem d_104_141 : decode (mC 104) 141 = .ok (.iload_n 1, 1) := by decide +kernel
theorem d_104_142 : decode (mC 104) 142 = .ok (.iaload, 1) := by decide +kernel
theorem d_104_143 : decode (mC 104) 143 = .ok (.iconst 1, 1) := by decide +kernel
theorem d_104_144 : decode (mC 104) 144 = .ok (.iadd, 1) := by decide +kernel
theorem d_104_145 : decode (mC 104) 145 = .ok (.iastore, 1) := by decide +kernel
theorem d_104_146 : decode (mC 104) 146 = .ok (.iload_n 2, 1) := by decide +kernel
theorem d_104_147 : decode (mC 104) 147 = .ok (.iconst 1, 1) := by decide +kernel
theorem d_104_148 : decode (mC 104) 148 = .ok (.if_icmp .ne 20, 3) := by decide +kernel
theorem d_104_151 : decode (mC 104) 151 = .ok (.aload_n 0, 1) := by decide +kernel
theorem d_104_152 : decode (mC 104) 152 = .ok (.getfield 34, 3) := by decide +kernel
theorem d_104_155 : decode (mC 104) 155 = .ok (.iload_n 1, 1) := by decide +kernel
theorem d_104_156 : decode (mC 104) 156 = .ok (.aload_n 0, 1) := by decide +kernel
theorem d_104_157 : decode (mC 104) 157 = .ok (.getfield 40, 3) := by decide +kernel
theorem d_104_160 : decode (mC 104) 160 = .ok (.iload_n 1, 1) := by decide +kernel
theorem d_104_161 : decode (mC 104) 161 = .ok (.iaload, 1) := by decide +kernel
theorem d_104_162 : decode (mC 104) 162 = .ok (.iastore, 1) := by decide +kernel
theorem d_104_163 : decode (mC 104) 163 = .ok (.aload_n 0, 1) := by decide +kernel
theorem d_104_164 : decode (mC 104) 164 = .ok (.iload_n 1, 1) := by decide +kernel
theorem d_104_165 : decode (mC 104) 165 = .ok (.invokevirtual 77, 3) := by decide +kernel
theorem d_104_168 : decode (mC 104) 168 = .ok (.aload_n 0, 1) := by decide +kernel
theorem d_104_169 : decode (mC 104) 169 = .ok (.getfield 28, 3) := by decide +kernel
theorem d_104_172 : decode (mC 104) 172 = .ok (.iload_n 1, 1) := by decide +kernel
theorem d_104_173 : decode (mC 104) 173 = .ok (.iaload, 1) := by decide +kernel
theorem d_104_174 : decode (mC 104) 174 = .ok (.istore_n 3, 1) := by decide +kernel
theorem d_104_175 : decode (mC 104) 175 = .ok (.iload_n 3, 1) := by decide +kernel
theorem d_104_176 : decode (mC 104) 176 = .ok (.bipush 40, 2) := by decide +kernel
theorem d_104_178 : decode (mC 104) 178 = .ok (.if_icmp .ne 20, 3) := by decide +kernel
theorem d_104_181 : decode (mC 104) 181 = .ok (.aload_n 0, 1) := by decide +kernel
theorem d_104_182 : decode (mC 104) 182 = .ok (.getfield 46, 3) := by decide +kernel
theorem d_104_185 : decode (mC 104) 185 = .ok (.iload_n 1, 1) := by decide +kernel
theorem d_104_186 : decode (mC 104) 186 = .ok (.iconst 5, 1) := by decide +kernel
theorem d_104_187 : decode (mC 104) 187 = .ok (.iastore, 1) := by decide +kernel
theorem d_104_188 : decode (mC 104) 188 = .ok (.aload_n 0, 1) := by decide +kernel
theorem d_104_189 : decode (mC 104) 189 = .ok (.getfield 49, 3) := by decide +kernel
theorem d_104_192 : decode (mC 104) 192 = .ok (.iload_n 1, 1) := by decide +kernel
theorem d_104_193 : decode (mC 104) 193 = .ok (.iconst 0, 1) := by decide +kernel
theorem d_104_194 : decode (mC 104) 194 = .ok (.bastore, 1) := by decide +kernel
theorem d_104_195 : decode (mC 104) 195 = .ok (.goto 60, 3) := by decide +kernel
theorem d_104_198 : decode (mC 104) 198 = .ok (.iload_n 3, 1) := by decide +kernel
theorem d_104_199 : decode (mC 104) 199 = .ok (.bipush 40, 2) := by decide +kernel
theorem d_104_201 : decode (mC 104) 201 = .ok (.if_icmp .le 54, 3) := by decide +kernel
theorem d_104_204 : decode (mC 104) 204 = .ok (.iload_n 3, 1) := by decide +kernel
theorem d_104_205 : decode (mC 104) 205 = .ok (.bipush 60, 2) := by decide +kernel
theorem d_104_207 : decode (mC 104) 207 = .ok (.if_icmp .ge 48, 3) := by decide +kernel
theorem d_104_210 : decode (mC 104) 210 = .ok (.iload_n 3, 1) := by decide +kernel
theorem d_104_211 : decode (mC 104) 211 = .ok (.iconst 4, 1) := by decide +kernel
theorem d_104_212 : decode (mC 104) 212 = .ok (.irem, 1) := by decide +kernel
theorem d_104_213 : decode (mC 104) 213 = .ok (.ifCond .ne 42, 3) := by decide +kernel
theorem d_104_216 : decode (mC 104) 216 = .ok (.aload_n 0, 1) := by decide +kernel
theorem d_104_217 : decode (mC 104) 217 = .ok (.getfield 46, 3) := by decide +kernel
theorem d_104_220 : decode (mC 104) 220 = .ok (.iload_n 1, 1) := by decide +kernel
theorem d_104_221 : decode (mC 104) 221 = .ok (.aload_n 0, 1) := by decide +kernel
theorem d_104_222 : decode (mC 104) 222 = .ok (.getfield 49, 3) := by decide +kernel
theorem d_104_225 : decode (mC 104) 225 = .ok (.iload_n 1, 1) := by decide +kernel
theorem d_104_226 : decode (mC 104) 226 = .ok (.baload, 1) := by decide +kernel
theorem d_104_227 : decode (mC 104) 227 = .ok (.ifCond .eq 12, 3) := by decide +kernel
theorem d_104_230 : decode (mC 104) 230 = .ok (.aload_n 0, 1) := by decide +kernel
theorem d_104_231 : decode (mC 104) 231 = .ok (.getfield 46, 3) := by decide +kernel
theorem d_104_234 : decode (mC 104) 234 = .ok (.iload_n 1, 1) := by decide +kernel
theorem d_104_235 : decode (mC 104) 235 = .ok (.iaload, 1) := by decide +kernel
theorem d_104_236 : decode (mC 104) 236 = .ok (.goto 11, 3) := by decide +kernel
theorem d_104_239 : decode (mC 104) 239 = .ok (.aload_n 0, 1) := by decide +kernel
theorem d_104_240 : decode (mC 104) 240 = .ok (.getfield 46, 3) := by decide +kernel
theorem d_104_243 : decode (mC 104) 243 = .ok (.iload_n 1, 1) := by decide +kernel
theorem d_104_244 : decode (mC 104) 244 = .ok (.iaload, 1) := by decide +kernel
theorem d_104_245 : decode (mC 104) 245 = .ok (.iconst 1, 1) := by decide +kernel
theorem d_104_246 : decode (mC 104) 246 = .ok (.iadd, 1) := by decide +kernel
theorem d_104_247 : decode (mC 104) 247 = .ok (.iastore, 1) := by decide +kernel
theorem d_104_248 : decode (mC 104) 248 = .ok (.aload_n 0, 1) := by decide +kernel
theorem d_104_249 : decode (mC 104) 249 = .ok (.getfield 49, 3) := by decide +kernel
theorem d_104_252 : decode (mC 104) 252 = .ok (.iload_n 1, 1) := by decide +kernel
theorem d_104_253 : decode (mC 104) 253 = .ok (.iconst 0, 1) := by decide +kernel
theorem d_104_254 : decode (mC 104) 254 = .ok (.bastore, 1) := by decide +kernel
theorem d_104_255 : decode (mC 104) 255 = .ok (.iload_n 3, 1) := by decide +kernel
theorem d_104_256 : decode (mC 104) 256 = .ok (.bipush 60, 2) := by decide +kernel
theorem d_104_258 : decode (mC 104) 258 = .ok (.if_icmp .ne 20, 3) := by decide +kernel
theorem d_104_261 : decode (mC 104) 261 = .ok (.aload_n 0, 1) := by decide +kernel
theorem d_104_262 : decode (mC 104) 262 = .ok (.getfield 31, 3) := by decide +kernel
theorem d_104_265 : decode (mC 104) 265 = .ok (.iload_n 1, 1) := by decide +kernel
theorem d_104_266 : decode (mC 104) 266 = .ok (.iaload, 1) := by decide +kernel
theorem d_104_267 : decode (mC 104) 267 = .ok (.iconst 2, 1) := by decide +kernel
theorem d_104_268 : decode (mC 104) 268 = .ok (.irem, 1) := by decide +kernel
theorem d_104_269 : decode (mC 104) 269 = .ok (.iconst 1, 1) := by decide +kernel
theorem d_104_270 : decode (mC 104) 270 = .ok (.if_icmp .ne 8, 3) := by decide +kernel
theorem d_104_273 : decode (mC 104) 273 = .ok (.aload_n 0, 1) := by decide +kernel
theorem d_104_274 : decode (mC 104) 274 = .ok (.iload_n 1, 1) := by decide +kernel
theorem d_104_275 : decode (mC 104) 275 = .ok (.invokevirtual 143, 3) := by decide +kernel
theorem d_104_278 : decode (mC 104) 278 = .ok (.aload_n 0, 1) := by decide +kernel
theorem d_104_279 : decode (mC 104) 279 = .ok (.iload_n 1, 1) := by decide +kernel
theorem d_104_280 : decode (mC 104) 280 = .ok (.invokevirtual 146, 3) := by decide +kernel
theorem d_104_283 : decode (mC 104) 283 = .ok (.ireturn, 1) := by decide +kernel
theorem d_105_0 : decode (mC 105) 0 = .ok (.aload_n 0, 1) := by decide +kernel
theorem d_105_1 : decode (mC 105) 1 = .ok (.getfield 13, 3) := by decide +kernel
theorem d_105_4 : decode (mC 105) 4 = .ok (.iload_n 1, 1) := by decide +kernel
theorem d_105_5 : decode (mC 105) 5 = .ok (.iload_n 2, 1) := by decide +kernel
theorem d_105_6 : decode (mC 105) 6 = .ok (.iastore, 1) := by decide +kernel
theorem d_105_7 : decode (mC 105) 7 = .ok (.aload_n 0, 1) := by decide +kernel
theorem d_105_8 : decode (mC 105) 8 = .ok (.getfield 31, 3) := by decide +kernel
theorem d_105_11 : decode (mC 105) 11 = .ok (.iload_n 1, 1) := by decide +kernel
theorem d_105_12 : decode (mC 105) 12 = .ok (.iload_n 3, 1) := by decide +kernel
theorem d_105_13 : decode (mC 105) 13 = .ok (.iastore, 1) := by decide +kernel
theorem d_105_14 : decode (mC 105) 14 = .ok (.aload_n 0, 1) := by decide +kernel
theorem d_105_15 : decode (mC 105) 15 = .ok (.getfield 28, 3) := by decide +kernel
theorem d_105_18 : decode (mC 105) 18 = .ok (.iload_n 1, 1) := by decide +kernel
theorem d_105_19 : decode (mC 105) 19 = .ok (.iload 4, 2) := by decide +kernel
theorem d_105_21 : decode (mC 105) 21 = .ok (.iastore, 1) := by decide +kernel
theorem d_105_22 : decode (mC 105) 22 = .ok (.aload_n 0, 1) := by decide +kernel
theorem d_105_23 : decode (mC 105) 23 = .ok (.getfield 34, 3) := by decide +kernel
theorem d_105_26 : decode (mC 105) 26 = .ok (.iload_n 1, 1) := by decide +kernel
theorem d_105_27 : decode (mC 105) 27 = .ok (.iload 5, 2) := by decide +kernel
theorem d_105_29 : decode (mC 105) 29 = .ok (.iastore, 1) := by decide +kernel
theorem d_105_30 : decode (mC 105) 30 = .ok (.aload_n 0, 1) := by decide +kernel
theorem d_105_31 : decode (mC 105) 31 = .ok (.getfield 40, 3) := by decide +kernel
theorem d_105_34 : decode (mC 105) 34 = .ok (.iload_n 1, 1) := by decide +kernel
theorem d_105_35 : decode (mC 105) 35 = .ok (.iload 5, 2) := by decide +kernel
theorem d_105_37 : decode (mC 105) 37 = .ok (.iastore, 1) := by decide +kernel
theorem d_105_38 : decode (mC 105) 38 = .ok (.aload_n 0, 1) := by decide +kernel
theorem d_105_39 : decode (mC 105) 39 = .ok (.getfield 37, 3) := by decide +kernel
theorem d_105_42 : decode (mC 105) 42 = .ok (.iload_n 1, 1) := by decide +kernel
theorem d_105_43 : decode (mC 105) 43 = .ok (.iconst 0, 1) := by decide +kernel
theorem d_105_44 : decode (mC 105) 44 = .ok (.iastore, 1) := by decide +kernel
theorem d_105_45 : decode (mC 105) 45 = .ok (.aload_n 0, 1) := by decide +kernel
theorem d_105_46 : decode (mC 105) 46 = .ok (.getfield 43, 3) := by decide +kernel
theorem d_105_49 : decode (mC 105) 49 = .ok (.iload_n 1, 1) := by decide +kernel
theorem d_105_50 : decode (mC 105) 50 = .ok (.iload 6, 2) := by decide +kernel
theorem d_105_52 : decode (mC 105) 52 = .ok (.iastore, 1) := by decide +kernel
theorem d_105_53 : decode (mC 105) 53 = .ok (.aload_n 0, 1) := by decide +kernel
theorem d_105_54 : decode (mC 105) 54 = .ok (.getfield 46, 3) := by decide +kernel
theorem d_105_57 : decode (mC 105) 57 = .ok (.iload_n 1, 1) := by decide +kernel
theorem d_105_58 : decode (mC 105) 58 = .ok (.iconst 0, 1) := by decide +kernel
theorem d_105_59 : decode (mC 105) 59 = .ok (.iastore, 1) := by decide +kernel
theorem d_105_60 : decode (mC 105) 60 = .ok (.aload_n 0, 1) := by decide +kernel
theorem d_105_61 : decode (mC 105) 61 = .ok (.getfield 49, 3) := by decide +kernel
theorem d_105_64 : decode (mC 105) 64 = .ok (.iload_n 1, 1) := by decide +kernel
theorem d_105_65 : decode (mC 105) 65 = .ok (.iconst 0, 1) := by decide +kernel
theorem d_105_66 : decode (mC 105) 66 = .ok (.bastore, 1) := by decide +kernel
theorem d_105_67 : decode (mC 105) 67 = .ok (.aload_n 0, 1) := by decide +kernel
theorem d_105_68 : decode (mC 105) 68 = .ok (.iload_n 1, 1) := by decide +kernel
theorem d_105_69 : decode (mC 105) 69 = .ok (.invokevirtual 77, 3) := by decide +kernel
theorem d_105_72 : decode (mC 105) 72 = .ok (.return_, 1) := by decide +kernel
theorem d_106_0 : decode (mC 106) 0 = .ok (.iconst 0, 1) := by decide +kernel
theorem d_106_1 : decode (mC 106) 1 = .ok (.istore_n 2, 1) := by decide +kernel
theorem d_106_2 : decode (mC 106) 2 = .ok (.aload_n 0, 1) := by decide +kernel
theorem d_106_3 : decode (mC 106) 3 = .ok (.iconst 1, 1) := by decide +kernel
theorem d_106_4 : decode (mC 106) 4 = .ok (.putfield 113, 3) := by decide +kernel
theorem d_106_7 : decode (mC 106) 7 = .ok (.aload_n 0, 1) := by decide +kernel
theorem d_106_8 : decode (mC 106) 8 = .ok (.getfield 74, 3) := by decide +kernel
theorem d_106_11 : decode (mC 106) 11 = .ok (.iconst 0, 1) := by decide +kernel
theorem d_106_12 : decode (mC 106) 12 = .ok (.iconst 0, 1) := by decide +kernel
theorem d_106_13 : decode (mC 106) 13 = .ok (.iastore, 1) := by decide +kernel
theorem d_106_14 : decode (mC 106) 14 = .ok (.iconst 0, 1) := by decide +kernel
theorem d_106_15 : decode (mC 106) 15 = .ok (.istore_n 3, 1) := by decide +kernel
theorem d_106_16 : decode (mC 106) 16 = .ok (.iload_n 3, 1) := by decide +kernel
theorem d_106_17 : decode (mC 106) 17 = .ok (.iconst 4, 1) := by decide +kernel
theorem d_106_18 : decode (mC 106) 18 = .ok (.if_icmp .ge 82, 3) := by decide +kernel
theorem d_106_21 : decode (mC 106) 21 = .ok (.aload_n 0, 1) := by decide +kernel
theorem d_106_22 : decode (mC 106) 22 = .ok (.getfield 53, 3) := by decide +kernel
theorem d_106_25 : decode (mC 106) 25 = .ok (.bipush 8, 2) := by decide +kernel
theorem d_106_27 : decode (mC 106) 27 = .ok (.iload_n 1, 1) := by decide +kernel
theorem d_106_28 : decode (mC 106) 28 = .ok (.imul, 1) := by decide +kernel
theorem d_106_29 : decode (mC 106) 29 = .ok (.iconst 2, 1) := by decide +kernel
theorem d_106_30 : decode (mC 106) 30 = .ok (.iload_n 3, 1) := by decide +kernel
theorem d_106_31 : decode (mC 106) 31 = .ok (.imul, 1) := by decide +kernel
theorem d_106_32 : decode (mC 106) 32 = .ok (.iadd, 1) := by decide +kernel
theorem d_106_33 : decode (mC 106) 33 = .ok (.iaload, 1) := by decide +kernel
theorem d_106_34 : decode (mC 106) 34 = .ok (.istore 4, 2) := by decide +kernel
theorem d_106_36 : decode (mC 106) 36 = .ok (.aload_n 0, 1) := by decide +kernel
theorem d_106_37 : decode (mC 106) 37 = .ok (.getfield 53, 3) := by decide +kernel
theorem d_106_40 : decode (mC 106) 40 = .ok (.bipush 8, 2) := by decide +kernel
theorem d_106_42 : decode (mC 106) 42 = .ok (.iload_n 1, 1) := by decide +kernel
theorem d_106_43 : decode (mC 106) 43 = .ok (.imul, 1) := by decide +kernel
theorem d_106_44 : decode (mC 106) 44 = .ok (.iconst 2, 1) := by decide +kernel
theorem d_106_45 : decode (mC 106) 45 = .ok (.iload_n 3, 1) := by decide +kernel
theorem d_106_46 : decode (mC 106) 46 = .ok (.imul, 1) := by decide +kernel
theorem d_106_47 : decode (mC 106) 47 = .ok (.iadd, 1) := by decide +kernel
theorem d_106_48 : decode (mC 106) 48 = .ok (.iconst 1, 1) := by decide +kernel
theorem d_106_49 : decode (mC 106) 49 = .ok (.iadd, 1) := by decide +kernel
theorem d_106_50 : decode (mC 106) 50 = .ok (.iaload, 1) := by decide +kernel
theorem d_106_51 : decode (mC 106) 51 = .ok (.istore 5, 2) := by decide +kernel
theorem d_106_53 : decode (mC 106) 53 = .ok (.iload 4, 2) := by decide +kernel
theorem d_106_55 : decode (mC 106) 55 = .ok (.bipush 99, 2) := by decide +kernel
theorem d_106_57 : decode (mC 106) 57 = .ok (.if_icmp .eq 37, 3) := by decide +kernel
theorem d_106_60 : decode (mC 106) 60 = .ok (.iload 5, 2) := by decide +kernel
theorem d_106_62 : decode (mC 106) 62 = .ok (.bipush 99, 2) := by decide +kernel
theorem d_106_64 : decode (mC 106) 64 = .ok (.if_icmp .eq 30, 3) := by decide +kernel
theorem d_106_67 : decode (mC 106) 67 = .ok (.aload_n 0, 1) := by decide +kernel
theorem d_106_68 : decode (mC 106) 68 = .ok (.getfield 74, 3) := by decide +kernel
theorem d_106_71 : decode (mC 106) 71 = .ok (.aload_n 0, 1) := by decide +kernel
theorem d_106_72 : decode (mC 106) 72 = .ok (.getfield 113, 3) := by decide +kernel
theorem d_106_75 : decode (mC 106) 75 = .ok (.iload 5, 2) := by decide +kernel
theorem d_106_77 : decode (mC 106) 77 = .ok (.iload 4, 2) := by decide +kernel
theorem d_106_79 : decode (mC 106) 79 = .ok (.isub, 1) := by decide +kernel
theorem d_106_80 : decode (mC 106) 80 = .ok (.iastore, 1) := by decide +kernel
theorem d_106_81 : decode (mC 106) 81 = .ok (.aload_n 0, 1) := by decide +kernel
theorem d_106_82 : decode (mC 106) 82 = .ok (.dup, 1) := by decide +kernel
theorem d_106_83 : decode (mC 106) 83 = .ok (.getfield 113, 3) := by decide +kernel
theorem d_106_86 : decode (mC 106) 86 = .ok (.iconst 1, 1) := by decide +kernel
theorem d_106_87 : decode (mC 106) 87 = .ok (.iadd, 1) := by decide +kernel
theorem d_106_88 : decode (mC 106) 88 = .ok (.putfield 113, 3) := by decide +kernel
theorem d_106_91 : decode (mC 106) 91 = .ok (.iinc 2 1, 3) := by decide +kernel
theorem d_106_94 : decode (mC 106) 94 = .ok (.iinc 3 1, 3) := by decide +kernel
theorem d_106_97 : decode (mC 106) 97 = .ok (.goto (-81), 3) := by decide +kernel
theorem d_106_100 : decode (mC 106) 100 = .ok (.aload_n 0, 1) := by decide +kernel
theorem d_106_101 : decode (mC 106) 101 = .ok (.getfield 40, 3) := by decide +kernel
theorem d_106_104 : decode (mC 106) 104 = .ok (.iload_n 1, 1) := by decide +kernel
theorem d_106_105 : decode (mC 106) 105 = .ok (.aload_n 0, 1) := by decide +kernel
theorem d_106_106 : decode (mC 106) 106 = .ok (.getfield 34, 3) := by decide +kernel
theorem d_106_109 : decode (mC 106) 109 = .ok (.iload_n 1, 1) := by decide +kernel
theorem d_106_110 : decode (mC 106) 110 = .ok (.iaload, 1) := by decide +kernel
theorem d_106_111 : decode (mC 106) 111 = .ok (.aload_n 0, 1) := by decide +kernel
theorem d_106_112 : decode (mC 106) 112 = .ok (.invokevirtual 116, 3) := by decide +kernel
theorem d_106_115 : decode (mC 106) 115 = .ok (.iadd, 1) := by decide +kernel
theorem d_106_116 : decode (mC 106) 116 = .ok (.iconst 4, 1) := by decide +kernel
theorem d_106_117 : decode (mC 106) 117 = .ok (.invokestatic 120, 3) := by decide +kernel
theorem d_106_120 : decode (mC 106) 120 = .ok (.iastore, 1) := by decide +kernel
theorem d_106_121 : decode (mC 106) 121 = .ok (.aload_n 0, 1) := by decide +kernel
theorem d_106_122 : decode (mC 106) 122 = .ok (.iconst 1, 1) := by decide +kernel
theorem d_106_123 : decode (mC 106) 123 = .ok (.putfield 113, 3) := by decide +kernel
theorem d_106_126 : decode (mC 106) 126 = .ok (.iconst 0, 1) := by decide +kernel
theorem d_106_127 : decode (mC 106) 127 = .ok (.istore_n 3, 1) := by decide +kernel
theorem d_106_128 : decode (mC 106) 128 = .ok (.iload_n 3, 1) := by decide +kernel
theorem d_106_129 : decode (mC 106) 129 = .ok (.iconst 4, 1) := by decide +kernel
theorem d_106_130 : decode (mC 106) 130 = .ok (.if_icmp .ge 63, 3) := by decide +kernel
theorem d_106_133 : decode (mC 106) 133 = .ok (.aload_n 0, 1) := by decide +kernel
theorem d_106_134 : decode (mC 106) 134 = .ok (.getfield 53, 3) := by decide +kernel
theorem d_106_137 : decode (mC 106) 137 = .ok (.bipush 8, 2) := by decide +kernel
theorem d_106_139 : decode (mC 106) 139 = .ok (.iload_n 1, 1) := by decide +kernel
theorem d_106_140 : decode (mC 106) 140 = .ok (.imul, 1) := by decide +kernel
theorem d_106_141 : decode (mC 106) 141 = .ok (.iconst 2, 1) := by decide +kernel
theorem d_106_142 : decode (mC 106) 142 = .ok (.iload_n 3, 1) := by decide +kernel
theorem d_106_143 : decode (mC 106) 143 = .ok (.imul, 1) := by decide +kernel
theorem d_106_144 : decode (mC 106) 144 = .ok (.iadd, 1) := by decide +kernel
theorem d_106_145 : decode (mC 106) 145 = .ok (.iconst 1, 1) := by decide +kernel
theorem d_106_146 : decode (mC 106) 146 = .ok (.iadd, 1) := by decide +kernel
theorem d_106_147 : decode (mC 106) 147 = .ok (.iaload, 1) := by decide +kernel
theorem d_106_148 : decode (mC 106) 148 = .ok (.bipush 99, 2) := by decide +kernel
theorem d_106_150 : decode (mC 106) 150 = .ok (.if_icmp .eq 37, 3) := by decide +kernel
theorem d_106_153 : decode (mC 106) 153 = .ok (.aload_n 0, 1) := by decide +kernel
theorem d_106_154 : decode (mC 106) 154 = .ok (.getfield 74, 3) := by decide +kernel
theorem d_106_157 : decode (mC 106) 157 = .ok (.aload_n 0, 1) := by decide +kernel
theorem d_106_158 : decode (mC 106) 158 = .ok (.getfield 113, 3) := by decide +kernel
theorem d_106_161 : decode (mC 106) 161 = .ok (.aload_n 0, 1) := by decide +kernel
theorem d_106_162 : decode (mC 106) 162 = .ok (.getfield 53, 3) := by decide +kernel
theorem d_106_165 : decode (mC 106) 165 = .ok (.bipush 8, 2) := by decide +kernel
theorem d_106_167 : decode (mC 106) 167 = .ok (.iload_n 1, 1) := by decide +kernel
theorem d_106_168 : decode (mC 106) 168 = .ok (.imul, 1) := by decide +kernel
theorem d_106_169 : decode (mC 106) 169 = .ok (.iconst 2, 1) := by decide +kernel
theorem d_106_170 : decode (mC 106) 170 = .ok (.iload_n 3, 1) := by decide +kernel
theorem d_106_171 : decode (mC 106) 171 = .ok (.imul, 1) := by decide +kernel
theorem d_106_172 : decode (mC 106) 172 = .ok (.iadd, 1) := by decide +kernel
theorem d_106_173 : decode (mC 106) 173 = .ok (.iconst 1, 1) := by decide +kernel
theorem d_106_174 : decode (mC 106) 174 = .ok (.iadd, 1) := by decide +kernel
theorem d_106_175 : decode (mC 106) 175 = .ok (.iaload, 1) := by decide +kernel
theorem d_106_176 : decode (mC 106) 176 = .ok (.iastore, 1) := by decide +kernel
theorem d_106_177 : decode (mC 106) 177 = .ok (.aload_n 0, 1) := by decide +kernel
theorem d_106_178 : decode (mC 106) 178 = .ok (.dup, 1) := by decide +kernel
theorem d_106_179 : decode (mC 106) 179 = .ok (.getfield 113, 3) := by decide +kernel
theorem d_106_182 : decode (mC 106) 182 = .ok (.iconst 1, 1) := by decide +kernel
theorem d_106_183 : decode (mC 106) 183 = .ok (.iadd, 1) := by decide +kernel
theorem d_106_184 : decode (mC 106) 184 = .ok (.putfield 113, 3) := by decide +kernel
theorem d_106_187 : decode (mC 106) 187 = .ok (.iinc 3 1, 3) := by decide +kernel
theorem d_106_190 : decode (mC 106) 190 = .ok (.goto (-62), 3) := by decide +kernel
theorem d_106_193 : decode (mC 106) 193 = .ok (.aload_n 0, 1) := by decide +kernel
theorem d_106_194 : decode (mC 106) 194 = .ok (.getfield 37, 3) := by decide +kernel
theorem d_106_197 : decode (mC 106) 197 = .ok (.iload_n 1, 1) := by decide +kernel
theorem d_106_198 : decode (mC 106) 198 = .ok (.aload_n 0, 1) := by decide +kernel
theorem d_106_199 : decode (mC 106) 199 = .ok (.invokevirtual 116, 3) := by decide +kernel
theorem d_106_202 : decode (mC 106) 202 = .ok (.bipush 6, 2) := by decide +kernel
theorem d_106_204 : decode (mC 106) 204 = .ok (.invokestatic 120, 3) := by decide +kernel
theorem d_106_207 : decode (mC 106) 207 = .ok (.iastore, 1) := by decide +kernel
theorem d_106_208 : decode (mC 106) 208 = .ok (.aload_n 0, 1) := by decide +kernel
theorem d_106_209 : decode (mC 106) 209 = .ok (.iload_n 1, 1) := by decide +kernel
theorem d_106_210 : decode (mC 106) 210 = .ok (.iload_n 2, 1) := by decide +kernel
theorem d_106_211 : decode (mC 106) 211 = .ok (.invokevirtual 124, 3) := by decide +kernel
theorem d_106_214 : decode (mC 106) 214 = .ok (.return_, 1) := by decide +kernel
theorem d_107_0 : decode (mC 107) 0 = .ok (.iconst 0, 1) := by decide +kernel
theorem d_107_1 : decode (mC 107) 1 = .ok (.istore_n 1, 1) := by decide +kernel
theorem d_107_2 : decode (mC 107) 2 = .ok (.iconst 0, 1) := by decide +kernel
theorem d_107_3 : decode (mC 107) 3 = .ok (.istore_n 2, 1) := by decide +kernel
theorem d_107_4 : decode (mC 107) 4 = .ok (.iconst 1, 1) := by decide +kernel
theorem d_107_5 : decode (mC 107) 5 = .ok (.istore_n 3, 1) := by decide +kernel
theorem d_107_6 : decode (mC 107) 6 = .ok (.iload_n 3, 1) := by decide +kernel
theorem d_107_7 : decode (mC 107) 7 = .ok (.aload_n 0, 1) := by decide +kernel
theorem d_107_8 : decode (mC 107) 8 = .ok (.getfield 113, 3) := by decide +kernel
theorem d_107_11 : decode (mC 107) 11 = .ok (.if_icmp .ge 51, 3) := by decide +kernel
theorem d_107_14 : decode (mC 107) 14 = .ok (.aload_n 0, 1) := by decide +kernel
theorem d_107_15 : decode (mC 107) 15 = .ok (.getfield 74, 3) := by decide +kernel
theorem d_107_18 : decode (mC 107) 18 = .ok (.iload_n 3, 1) := by decide +kernel
theorem d_107_19 : decode (mC 107) 19 = .ok (.iaload, 1) := by decide +kernel
theorem d_107_20 : decode (mC 107) 20 = .ok (.aload_n 0, 1) := by decide +kernel
theorem d_107_21 : decode (mC 107) 21 = .ok (.getfield 74, 3) := by decide +kernel
theorem d_107_24 : decode (mC 107) 24 = .ok (.iload_n 1, 1) := by decide +kernel
theorem d_107_25 : decode (mC 107) 25 = .ok (.iaload, 1) := by decide +kernel
theorem d_107_26 : decode (mC 107) 26 = .ok (.if_icmp .ge 7, 3) := by decide +kernel
theorem d_107_29 : decode (mC 107) 29 = .ok (.iload_n 3, 1) := by decide +kernel
theorem d_107_30 : decode (mC 107) 30 = .ok (.goto 4, 3) := by decide +kernel
theorem d_107_33 : decode (mC 107) 33 = .ok (.iload_n 1, 1) := by decide +kernel
theorem d_107_34 : decode (mC 107) 34 = .ok (.istore_n 1, 1) := by decide +kernel
theorem d_107_35 : decode (mC 107) 35 = .ok (.aload_n 0, 1) := by decide +kernel
theorem d_107_36 : decode (mC 107) 36 = .ok (.getfield 74, 3) := by decide +kernel
theorem d_107_39 : decode (mC 107) 39 = .ok (.iload_n 3, 1) := by decide +kernel
theorem d_107_40 : decode (mC 107) 40 = .ok (.iaload, 1) := by decide +kernel
theorem d_107_41 : decode (mC 107) 41 = .ok (.aload_n 0, 1) := by decide +kernel
theorem d_107_42 : decode (mC 107) 42 = .ok (.getfield 74, 3) := by decide +kernel
theorem d_107_45 : decode (mC 107) 45 = .ok (.iload_n 2, 1) := by decide +kernel
theorem d_107_46 : decode (mC 107) 46 = .ok (.iaload, 1) := by decide +kernel
theorem d_107_47 : decode (mC 107) 47 = .ok (.if_icmp .lt 7, 3) := by decide +kernel
theorem d_107_50 : decode (mC 107) 50 = .ok (.iload_n 3, 1) := by decide +kernel
theorem d_107_51 : decode (mC 107) 51 = .ok (.goto 4, 3) := by decide +kernel
theorem d_107_54 : decode (mC 107) 54 = .ok (.iload_n 2, 1) := by decide +kernel
theorem d_107_55 : decode (mC 107) 55 = .ok (.istore_n 2, 1) := by decide +kernel
theorem d_107_56 : decode (mC 107) 56 = .ok (.iinc 3 1, 3) := by decide +kernel
theorem d_107_59 : decode (mC 107) 59 = .ok (.goto (-53), 3) := by decide +kernel
theorem d_107_62 : decode (mC 107) 62 = .ok (.aload_n 0, 1) := by decide +kernel
theorem d_107_63 : decode (mC 107) 63 = .ok (.getfield 113, 3) := by decide +kernel
theorem d_107_66 : decode (mC 107) 66 = .ok (.iconst 3, 1) := by decide +kernel
theorem d_107_67 : decode (mC 107) 67 = .ok (.if_icmp .ge 19, 3) := by decide +kernel
theorem d_107_70 : decode (mC 107) 70 = .ok (.aload_n 0, 1) := by decide +kernel
theorem d_107_71 : decode (mC 107) 71 = .ok (.getfield 74, 3) := by decide +kernel
theorem d_107_74 : decode (mC 107) 74 = .ok (.iload_n 1, 1) := by decide +kernel
theorem d_107_75 : decode (mC 107) 75 = .ok (.iaload, 1) := by decide +kernel
theorem d_107_76 : decode (mC 107) 76 = .ok (.aload_n 0, 1) := by decide +kernel
theorem d_107_77 : decode (mC 107) 77 = .ok (.getfield 74, 3) := by decide +kernel
theorem d_107_80 : decode (mC 107) 80 = .ok (.iload_n 2, 1) := by decide +kernel
theorem d_107_81 : decode (mC 107) 81 = .ok (.iaload, 1) := by decide +kernel
theorem d_107_82 : decode (mC 107) 82 = .ok (.iadd, 1) := by decide +kernel
theorem d_107_83 : decode (mC 107) 83 = .ok (.iconst 2, 1) := by decide +kernel
theorem d_107_84 : decode (mC 107) 84 = .ok (.idiv, 1) := by decide +kernel
theorem d_107_85 : decode (mC 107) 85 = .ok (.ireturn, 1) := by decide +kernel
theorem d_107_86 : decode (mC 107) 86 = .ok (.sipush 1000, 3) := by decide +kernel
theorem d_107_89 : decode (mC 107) 89 = .ok (.istore_n 3, 1) := by decide +kernel
theorem d_107_90 : decode (mC 107) 90 = .ok (.sipush (-1000), 3) := by decide +kernel
theorem d_107_93 : decode (mC 107) 93 = .ok (.istore 4, 2) := by decide +kernel
theorem d_107_95 : decode (mC 107) 95 = .ok (.iconst 0, 1) := by decide +kernel
theorem d_107_96 : decode (mC 107) 96 = .ok (.istore 5, 2) := by decide +kernel
theorem d_107_98 : decode (mC 107) 98 = .ok (.iload 5, 2) := by decide +kernel
theorem d_107_100 : decode (mC 107) 100 = .ok (.aload_n 0, 1) := by decide +kernel
theorem d_107_101 : decode (mC 107) 101 = .ok (.getfield 113, 3) := by decide +kernel
theorem d_107_104 : decode (mC 107) 104 = .ok (.if_icmp .ge 87, 3) := by decide +kernel
theorem d_107_107 : decode (mC 107) 107 = .ok (.iload 5, 2) := by decide +kernel
theorem d_107_109 : decode (mC 107) 109 = .ok (.iload_n 1, 1) := by decide +kernel
theorem d_107_110 : decode (mC 107) 110 = .ok (.if_icmp .eq 13, 3) := by decide +kernel
theorem d_107_113 : decode (mC 107) 113 = .ok (.iload 5, 2) := by decide +kernel
theorem d_107_115 : decode (mC 107) 115 = .ok (.iload_n 2, 1) := by decide +kernel
theorem d_107_116 : decode (mC 107) 116 = .ok (.if_icmp .eq 7, 3) := by decide +kernel
theorem d_107_119 : decode (mC 107) 119 = .ok (.iconst 1, 1) := by decide +kernel
theorem d_107_120 : decode (mC 107) 120 = .ok (.goto 4, 3) := by decide +kernel
theorem d_107_123 : decode (mC 107) 123 = .ok (.iconst 0, 1) := by decide +kernel
theorem d_107_124 : decode (mC 107) 124 = .ok (.istore 6, 2) := by decide +kernel
theorem d_107_126 : decode (mC 107) 126 = .ok (.iload 6, 2) := by decide +kernel
theorem d_107_128 : decode (mC 107) 128 = .ok (.ifCond .eq 24, 3) := by decide +kernel
theorem d_107_131 : decode (mC 107) 131 = .ok (.aload_n 0, 1) := by decide +kernel
theorem d_107_132 : decode (mC 107) 132 = .ok (.getfield 74, 3) := by decide +kernel
theorem d_107_135 : decode (mC 107) 135 = .ok (.iload 5, 2) := by decide +kernel
theorem d_107_137 : decode (mC 107) 137 = .ok (.iaload, 1) := by decide +kernel
theorem d_107_138 : decode (mC 107) 138 = .ok (.iload_n 3, 1) := by decide +kernel
theorem d_107_139 : decode (mC 107) 139 = .ok (.if_icmp .ge 13, 3) := by decide +kernel
theorem d_107_142 : decode (mC 107) 142 = .ok (.aload_n 0, 1) := by decide +kernel
theorem d_107_143 : decode (mC 107) 143 = .ok (.getfield 74, 3) := by decide +kernel
theorem d_107_146 : decode (mC 107) 146 = .ok (.iload 5, 2) := by decide +kernel
theorem d_107_148 : decode (mC 107) 148 = .ok (.iaload, 1) := by decide +kernel
theorem d_107_149 : decode (mC 107) 149 = .ok (.goto 4, 3) := by decide +kernel
theorem d_107_152 : decode (mC 107) 152 = .ok (.iload_n 3, 1) := by decide +kernel
theorem d_107_153 : decode (mC 107) 153 = .ok (.istore_n 3, 1) := by decide +kernel
theorem d_107_154 : decode (mC 107) 154 = .ok (.iload 6, 2) := by decide +kernel
theorem d_107_156 : decode (mC 107) 156 = .ok (.ifCond .eq 25, 3) := by decide +kernel
theorem d_107_159 : decode (mC 107) 159 = .ok (.aload_n 0, 1) := by decide +kernel
theorem d_107_160 : decode (mC 107) 160 = .ok (.getfield 74, 3) := by decide +kernel
theorem d_107_163 : decode (mC 107) 163 = .ok (.iload 5, 2) := by decide +kernel
theorem d_107_165 : decode (mC 107) 165 = .ok (.iaload, 1) := by decide +kernel
theorem d_107_166 : decode (mC 107) 166 = .ok (.iload 4, 2) := by decide +kernel
theorem d_107_168 : decode (mC 107) 168 = .ok (.if_icmp .le 13, 3) := by decide +kernel
theorem d_107_171 : decode (mC 107) 171 = .ok (.aload_n 0, 1) := by decide +kernel
theorem d_107_172 : decode (mC 107) 172 = .ok (.getfield 74, 3) := by decide +kernel
theorem d_107_175 : decode (mC 107) 175 = .ok (.iload 5, 2) := by decide +kernel
theorem d_107_177 : decode (mC 107) 177 = .ok (.iaload, 1) := by decide +kernel
theorem d_107_178 : decode (mC 107) 178 = .ok (.goto 5, 3) := by decide +kernel
theorem d_107_181 : decode (mC 107) 181 = .ok (.iload 4, 2) := by decide +kernel
theorem d_107_183 : decode (mC 107) 183 = .ok (.istore 4, 2) := by decide +kernel
theorem d_107_185 : decode (mC 107) 185 = .ok (.iinc 5 1, 3) := by decide +kernel
theorem d_107_188 : decode (mC 107) 188 = .ok (.goto (-90), 3) := by decide +kernel
theorem d_107_191 : decode (mC 107) 191 = .ok (.iload_n 3, 1) := by decide +kernel
theorem d_107_192 : decode (mC 107) 192 = .ok (.iload 4, 2) := by decide +kernel
theorem d_107_194 : decode (mC 107) 194 = .ok (.iadd, 1) := by decide +kernel
theorem d_107_195 : decode (mC 107) 195 = .ok (.iconst 2, 1) := by decide +kernel
theorem d_107_196 : decode (mC 107) 196 = .ok (.idiv, 1) := by decide +kernel
theorem d_107_197 : decode (mC 107) 197 = .ok (.ireturn, 1) := by decide +kernel
theorem d_108_0 : decode (mC 108) 0 = .ok (.iload_n 0, 1) := by decide +kernel
theorem d_108_1 : decode (mC 108) 1 = .ok (.iload_n 1, 1) := by decide +kernel
theorem d_108_2 : decode (mC 108) 2 = .ok (.if_icmp .le 7, 3) := by decide +kernel
theorem d_108_5 : decode (mC 108) 5 = .ok (.iload_n 1, 1) := by decide +kernel
theorem d_108_6 : decode (mC 108) 6 = .ok (.goto 15, 3) := by decide +kernel
theorem d_108_9 : decode (mC 108) 9 = .ok (.iload_n 0, 1) := by decide +kernel
theorem d_108_10 : decode (mC 108) 10 = .ok (.iload_n 1, 1) := by decide +kernel
theorem d_108_11 : decode (mC 108) 11 = .ok (.ineg, 1) := by decide +kernel
theorem d_108_12 : decode (mC 108) 12 = .ok (.if_icmp .ge 8, 3) := by decide +kernel
theorem d_108_15 : decode (mC 108) 15 = .ok (.iload_n 1, 1) := by decide +kernel
theorem d_108_16 : decode (mC 108) 16 = .ok (.ineg, 1) := by decide +kernel
theorem d_108_17 : decode (mC 108) 17 = .ok (.goto 4, 3) := by decide +kernel
theorem d_108_20 : decode (mC 108) 20 = .ok (.iload_n 0, 1) := by decide +kernel
theorem d_108_21 : decode (mC 108) 21 = .ok (.ireturn, 1) := by decide +kernel
theorem d_109_0 : decode (mC 109) 0 = .ok (.aload_n 0, 1) := by decide +kernel
theorem d_109_1 : decode (mC 109) 1 = .ok (.getfield 13, 3) := by decide +kernel
theorem d_109_4 : decode (mC 109) 4 = .ok (.iload_n 1, 1) := by decide +kernel
theorem d_109_5 : decode (mC 109) 5 = .ok (.iaload, 1) := by decide +kernel
theorem d_109_6 : decode (mC 109) 6 = .ok (.iconst 2, 1) := by decide +kernel
theorem d_109_7 : decode (mC 109) 7 = .ok (.if_icmp .ne 36, 3) := by decide +kernel
theorem d_109_10 : decode (mC 109) 10 = .ok (.iload_n 2, 1) := by decide +kernel
theorem d_109_11 : decode (mC 109) 11 = .ok (.ifCond .le 13, 3) := by decide +kernel
theorem d_109_14 : decode (mC 109) 14 = .ok (.aload_n 0, 1) := by decide +kernel
theorem d_109_15 : decode (mC 109) 15 = .ok (.getfield 13, 3) := by decide +kernel
theorem d_109_18 : decode (mC 109) 18 = .ok (.iload_n 1, 1) := by decide +kernel
theorem d_109_19 : decode (mC 109) 19 = .ok (.iconst 4, 1) := by decide +kernel
theorem d_109_20 : decode (mC 109) 20 = .ok (.iastore, 1) := by decide +kernel
theorem d_109_21 : decode (mC 109) 21 = .ok (.goto 177, 3) := by decide +kernel
theorem d_109_24 : decode (mC 109) 24 = .ok (.aload_n 0, 1) := by decide +kernel
theorem d_109_25 : decode (mC 109) 25 = .ok (.getfield 31, 3) := by decide +kernel
theorem d_109_28 : decode (mC 109) 28 = .ok (.iload_n 1, 1) := by decide +kernel
theorem d_109_29 : decode (mC 109) 29 = .ok (.iaload, 1) := by decide +kernel
theorem d_109_30 : decode (mC 109) 30 = .ok (.bipush 11, 2) := by decide +kernel
theorem d_109_32 : decode (mC 109) 32 = .ok (.if_icmp .lt 166, 3) := by decide +kernel
theorem d_109_35 : decode (mC 109) 35 = .ok (.aload_n 0, 1) := by decide +kernel
theorem d_109_36 : decode (mC 109) 36 = .ok (.iload_n 1, 1) := by decide +kernel
theorem d_109_37 : decode (mC 109) 37 = .ok (.invokevirtual 128, 3) := by decide +kernel
theorem d_109_40 : decode (mC 109) 40 = .ok (.goto 158, 3) := by decide +kernel
theorem d_109_43 : decode (mC 109) 43 = .ok (.aload_n 0, 1) := by decide +kernel
theorem d_109_44 : decode (mC 109) 44 = .ok (.getfield 13, 3) := by decide +kernel
theorem d_109_47 : decode (mC 109) 47 = .ok (.iload_n 1, 1) := by decide +kernel
theorem d_109_48 : decode (mC 109) 48 = .ok (.iaload, 1) := by decide +kernel
theorem d_109_49 : decode (mC 109) 49 = .ok (.iconst 3, 1) := by decide +kernel
theorem d_109_50 : decode (mC 109) 50 = .ok (.if_icmp .ne 75, 3) := by decide +kernel
theorem d_109_53 : decode (mC 109) 53 = .ok (.aload_n 0, 1) := by decide +kernel
theorem d_109_54 : decode (mC 109) 54 = .ok (.getfield 43, 3) := by decide +kernel
theorem d_109_57 : decode (mC 109) 57 = .ok (.iload_n 1, 1) := by decide +kernel
theorem d_109_58 : decode (mC 109) 58 = .ok (.iaload, 1) := by decide +kernel
theorem d_109_59 : decode (mC 109) 59 = .ok (.iconst (-1), 1) := by decide +kernel
theorem d_109_60 : decode (mC 109) 60 = .ok (.if_icmp .ne 13, 3) := by decide +kernel
theorem d_109_63 : decode (mC 109) 63 = .ok (.aload_n 0, 1) := by decide +kernel
theorem d_109_64 : decode (mC 109) 64 = .ok (.getfield 43, 3) := by decide +kernel
theorem d_109_67 : decode (mC 109) 67 = .ok (.iload_n 1, 1) := by decide +kernel
theorem d_109_68 : decode (mC 109) 68 = .ok (.iconst 0, 1) := by decide +kernel
theorem d_109_69 : decode (mC 109) 69 = .ok (.iastore, 1) := by decide +kernel
theorem d_109_70 : decode (mC 109) 70 = .ok (.goto 128, 3) := by decide +kernel
theorem d_109_73 : decode (mC 109) 73 = .ok (.iload_n 2, 1) := by decide +kernel
theorem d_109_74 : decode (mC 109) 74 = .ok (.ifCond .ne 11, 3) := by decide +kernel
theorem d_109_77 : decode (mC 109) 77 = .ok (.aload_n 0, 1) := by decide +kernel
theorem d_109_78 : decode (mC 109) 78 = .ok (.iload_n 1, 1) := by decide +kernel
theorem d_109_79 : decode (mC 109) 79 = .ok (.invokevirtual 128, 3) := by decide +kernel
theorem d_109_82 : decode (mC 109) 82 = .ok (.goto 116, 3) := by decide +kernel
theorem d_109_85 : decode (mC 109) 85 = .ok (.iload_n 1, 1) := by decide +kernel
theorem d_109_86 : decode (mC 109) 86 = .ok (.iconst 2, 1) := by decide +kernel
theorem d_109_87 : decode (mC 109) 87 = .ok (.if_icmp .lt 8, 3) := by decide +kernel
theorem d_109_90 : decode (mC 109) 90 = .ok (.iload_n 2, 1) := by decide +kernel
theorem d_109_91 : decode (mC 109) 91 = .ok (.iconst 1, 1) := by decide +kernel
theorem d_109_92 : decode (mC 109) 92 = .ok (.if_icmp .le 106, 3) := by decide +kernel
theorem d_109_95 : decode (mC 109) 95 = .ok (.aload_n 0, 1) := by decide +kernel
theorem d_109_96 : decode (mC 109) 96 = .ok (.getfield 43, 3) := by decide +kernel
theorem d_109_99 : decode (mC 109) 99 = .ok (.iload_n 1, 1) := by decide +kernel
theorem d_109_100 : decode (mC 109) 100 = .ok (.dup2, 1) := by decide +kernel
theorem d_109_101 : decode (mC 109) 101 = .ok (.iaload, 1) := by decide +kernel
theorem d_109_102 : decode (mC 109) 102 = .ok (.iconst 1, 1) := by decide +kernel
theorem d_109_103 : decode (mC 109) 103 = .ok (.iadd, 1) := by decide +kernel
theorem d_109_104 : decode (mC 109) 104 = .ok (.iastore, 1) := by decide +kernel
theorem d_109_105 : decode (mC 109) 105 = .ok (.aload_n 0, 1) := by decide +kernel
theorem d_109_106 : decode (mC 109) 106 = .ok (.getfield 43, 3) := by decide +kernel
theorem d_109_109 : decode (mC 109) 109 = .ok (.iload_n 1, 1) := by decide +kernel
theorem d_109_110 : decode (mC 109) 110 = .ok (.iaload, 1) := by decide +kernel
theorem d_109_111 : decode (mC 109) 111 = .ok (.iconst 2, 1) := by decide +kernel
theorem d_109_112 : decode (mC 109) 112 = .ok (.if_icmp .ne 86, 3) := by decide +kernel
theorem d_109_115 : decode (mC 109) 115 = .ok (.aload_n 0, 1) := by decide +kernel
theorem d_109_116 : decode (mC 109) 116 = .ok (.getfield 13, 3) := by decide +kernel
theorem d_109_119 : decode (mC 109) 119 = .ok (.iload_n 1, 1) := by decide +kernel
theorem d_109_120 : decode (mC 109) 120 = .ok (.iconst 4, 1) := by decide +kernel
theorem d_109_121 : decode (mC 109) 121 = .ok (.iastore, 1) := by decide +kernel
theorem d_109_122 : decode (mC 109) 122 = .ok (.goto 76, 3) := by decide +kernel
theorem d_109_125 : decode (mC 109) 125 = .ok (.aload_n 0, 1) := by decide +kernel
theorem d_109_126 : decode (mC 109) 126 = .ok (.getfield 13, 3) := by decide +kernel
theorem d_109_129 : decode (mC 109) 129 = .ok (.iload_n 1, 1) := by decide +kernel
theorem d_109_130 : decode (mC 109) 130 = .ok (.iaload, 1) := by decide +kernel
theorem d_109_131 : decode (mC 109) 131 = .ok (.iconst 4, 1) := by decide +kernel
theorem d_109_132 : decode (mC 109) 132 = .ok (.if_icmp .ne 24, 3) := by decide +kernel
theorem d_109_135 : decode (mC 109) 135 = .ok (.iload_n 2, 1) := by decide +kernel
theorem d_109_136 : decode (mC 109) 136 = .ok (.ifCond .ne 62, 3) := by decide +kernel
theorem d_109_139 : decode (mC 109) 139 = .ok (.aload_n 0, 1) := by decide +kernel
theorem d_109_140 : decode (mC 109) 140 = .ok (.getfield 13, 3) := by decide +kernel
theorem d_109_143 : decode (mC 109) 143 = .ok (.iload_n 1, 1) := by decide +kernel
theorem d_109_144 : decode (mC 109) 144 = .ok (.iconst 5, 1) := by decide +kernel
theorem d_109_145 : decode (mC 109) 145 = .ok (.iastore, 1) := by decide +kernel
theorem d_109_146 : decode (mC 109) 146 = .ok (.aload_n 0, 1) := by decide +kernel
theorem d_109_147 : decode (mC 109) 147 = .ok (.getfield 43, 3) := by decide +kernel
theorem d_109_150 : decode (mC 109) 150 = .ok (.iload_n 1, 1) := by decide +kernel
theorem d_109_151 : decode (mC 109) 151 = .ok (.iconst 1, 1) := by decide +kernel
theorem d_109_152 : decode (mC 109) 152 = .ok (.iastore, 1) := by decide +kernel
theorem d_109_153 : decode (mC 109) 153 = .ok (.goto 45, 3) := by decide +kernel
theorem d_109_156 : decode (mC 109) 156 = .ok (.iload_n 2, 1) := by decide +kernel
theorem d_109_157 : decode (mC 109) 157 = .ok (.ifCond .le 13, 3) := by decide +kernel
theorem d_109_160 : decode (mC 109) 160 = .ok (.aload_n 0, 1) := by decide +kernel
theorem d_109_161 : decode (mC 109) 161 = .ok (.getfield 13, 3) := by decide +kernel
theorem d_109_164 : decode (mC 109) 164 = .ok (.iload_n 1, 1) := by decide +kernel
theorem d_109_165 : decode (mC 109) 165 = .ok (.iconst 4, 1) := by decide +kernel
theorem d_109_166 : decode (mC 109) 166 = .ok (.iastore, 1) := by decide +kernel
theorem d_109_167 : decode (mC 109) 167 = .ok (.goto 31, 3) := by decide +kernel
theorem d_109_170 : decode (mC 109) 170 = .ok (.aload_n 0, 1) := by decide +kernel
theorem d_109_171 : decode (mC 109) 171 = .ok (.getfield 43, 3) := by decide +kernel
theorem d_109_174 : decode (mC 109) 174 = .ok (.iload_n 1, 1) := by decide +kernel
theorem d_109_175 : decode (mC 109) 175 = .ok (.dup2, 1) := by decide +kernel
theorem d_109_176 : decode (mC 109) 176 = .ok (.iaload, 1) := by decide +kernel
theorem d_109_177 : decode (mC 109) 177 = .ok (.iconst 1, 1) := by decide +kernel
theorem d_109_178 : decode (mC 109) 178 = .ok (.iadd, 1) := by decide +kernel
theorem d_109_179 : decode (mC 109) 179 = .ok (.iastore, 1) := by decide +kernel
theorem d_109_180 : decode (mC 109) 180 = .ok (.aload_n 0, 1) := by decide +kernel
theorem d_109_181 : decode (mC 109) 181 = .ok (.getfield 43, 3) := by decide +kernel
theorem d_109_184 : decode (mC 109) 184 = .ok (.iload_n 1, 1) := by decide +kernel
theorem d_109_185 : decode (mC 109) 185 = .ok (.iaload, 1) := by decide +kernel
theorem d_109_186 : decode (mC 109) 186 = .ok (.iconst 3, 1) := by decide +kernel
theorem d_109_187 : decode (mC 109) 187 = .ok (.if_icmp .ne 11, 3) := by decide +kernel
theorem d_109_190 : decode (mC 109) 190 = .ok (.aload_n 0, 1) := by decide +kernel
theorem d_109_191 : decode (mC 109) 191 = .ok (.getfield 13, 3) := by decide +kernel
theorem d_109_194 : decode (mC 109) 194 = .ok (.iload_n 1, 1) := by decide +kernel
theorem d_109_195 : decode (mC 109) 195 = .ok (.bipush 6, 2) := by decide +kernel
theorem d_109_197 : decode (mC 109) 197 = .ok (.iastore, 1) := by decide +kernel
theorem d_109_198 : decode (mC 109) 198 = .ok (.return_, 1) := by decide +kernel
theorem d_110_0 : decode (mC 110) 0 = .ok (.aload_n 0, 1) := by decide +kernel
theorem d_110_1 : decode (mC 110) 1 = .ok (.getfield 28, 3) := by decide +kernel
theorem d_110_4 : decode (mC 110) 4 = .ok (.iload_n 1, 1) := by decide +kernel
theorem d_110_5 : decode (mC 110) 5 = .ok (.iaload, 1) := by decide +kernel
theorem d_110_6 : decode (mC 110) 6 = .ok (.istore_n 2, 1) := by decide +kernel
theorem d_110_7 : decode (mC 110) 7 = .ok (.iload_n 2, 1) := by decide +kernel
theorem d_110_8 : decode (mC 110) 8 = .ok (.bipush 10, 2) := by decide +kernel
theorem d_110_10 : decode (mC 110) 10 = .ok (.iload_n 1, 1) := by decide +kernel
theorem d_110_11 : decode (mC 110) 11 = .ok (.imul, 1) := by decide +kernel
theorem d_110_12 : decode (mC 110) 12 = .ok (.iconst 4, 1) := by decide +kernel
theorem d_110_13 : decode (mC 110) 13 = .ok (.iadd, 1) := by decide +kernel
theorem d_110_14 : decode (mC 110) 14 = .ok (.if_icmp .ne 91, 3) := by decide +kernel
theorem d_110_17 : decode (mC 110) 17 = .ok (.aload_n 0, 1) := by decide +kernel
theorem d_110_18 : decode (mC 110) 18 = .ok (.getfield 13, 3) := by decide +kernel
theorem d_110_21 : decode (mC 110) 21 = .ok (.iload_n 1, 1) := by decide +kernel
theorem d_110_22 : decode (mC 110) 22 = .ok (.iaload, 1) := by decide +kernel
