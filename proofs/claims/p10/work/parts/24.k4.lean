theorem k195_4 : pm_look (pm_kl 195) 4 = some (.ifCond .le 60, 3) := by decide +kernel
theorem k195_7 : pm_look (pm_kl 195) 7 = some (.aload_n 0, 1) := by decide +kernel
theorem k195_8 : pm_look (pm_kl 195) 8 = some (.getfield 112, 3) := by decide +kernel
theorem k195_11 : pm_look (pm_kl 195) 11 = some (.aload_n 0, 1) := by decide +kernel
theorem k195_12 : pm_look (pm_kl 195) 12 = some (.getfield 346, 3) := by decide +kernel
theorem k195_15 : pm_look (pm_kl 195) 15 = some (.iconst 1, 1) := by decide +kernel
theorem k195_16 : pm_look (pm_kl 195) 16 = some (.isub, 1) := by decide +kernel
theorem k195_17 : pm_look (pm_kl 195) 17 = some (.iaload, 1) := by decide +kernel
theorem k195_18 : pm_look (pm_kl 195) 18 = some (.iconst 3, 1) := by decide +kernel
theorem k195_19 : pm_look (pm_kl 195) 19 = some (.if_icmp .eq 45, 3) := by decide +kernel
theorem k195_22 : pm_look (pm_kl 195) 22 = some (.aload_n 0, 1) := by decide +kernel
theorem k195_23 : pm_look (pm_kl 195) 23 = some (.getfield 112, 3) := by decide +kernel
theorem k195_26 : pm_look (pm_kl 195) 26 = some (.aload_n 0, 1) := by decide +kernel
theorem k195_27 : pm_look (pm_kl 195) 27 = some (.getfield 346, 3) := by decide +kernel
theorem k195_30 : pm_look (pm_kl 195) 30 = some (.iconst 1, 1) := by decide +kernel
theorem k195_31 : pm_look (pm_kl 195) 31 = some (.isub, 1) := by decide +kernel
theorem k195_32 : pm_look (pm_kl 195) 32 = some (.iaload, 1) := by decide +kernel
theorem k195_33 : pm_look (pm_kl 195) 33 = some (.iload_n 1, 1) := by decide +kernel
theorem k195_34 : pm_look (pm_kl 195) 34 = some (.if_icmp .lt 30, 3) := by decide +kernel
theorem k195_37 : pm_look (pm_kl 195) 37 = some (.aload_n 0, 1) := by decide +kernel
theorem k195_38 : pm_look (pm_kl 195) 38 = some (.dup, 1) := by decide +kernel
theorem k195_39 : pm_look (pm_kl 195) 39 = some (.getfield 346, 3) := by decide +kernel
theorem k195_42 : pm_look (pm_kl 195) 42 = some (.iconst 1, 1) := by decide +kernel
theorem k195_43 : pm_look (pm_kl 195) 43 = some (.isub, 1) := by decide +kernel
theorem k195_44 : pm_look (pm_kl 195) 44 = some (.putfield 346, 3) := by decide +kernel
theorem k195_47 : pm_look (pm_kl 195) 47 = some (.aload_n 0, 1) := by decide +kernel
theorem k195_48 : pm_look (pm_kl 195) 48 = some (.aload_n 0, 1) := by decide +kernel
theorem k195_49 : pm_look (pm_kl 195) 49 = some (.getfield 112, 3) := by decide +kernel
theorem k195_52 : pm_look (pm_kl 195) 52 = some (.aload_n 0, 1) := by decide +kernel
theorem k195_53 : pm_look (pm_kl 195) 53 = some (.getfield 346, 3) := by decide +kernel
theorem k195_56 : pm_look (pm_kl 195) 56 = some (.iaload, 1) := by decide +kernel
theorem k195_57 : pm_look (pm_kl 195) 57 = some (.iconst 0, 1) := by decide +kernel
theorem k195_58 : pm_look (pm_kl 195) 58 = some (.invokevirtual 349, 3) := by decide +kernel
theorem k195_61 : pm_look (pm_kl 195) 61 = some (.goto (-61), 3) := by decide +kernel
theorem k195_64 : pm_look (pm_kl 195) 64 = some (.return_, 1) := by decide +kernel
theorem k196_0 : pm_look (pm_kl 196) 0 = some (.aload_n 0, 1) := by decide +kernel
theorem k196_1 : pm_look (pm_kl 196) 1 = some (.getfield 112, 3) := by decide +kernel
theorem k196_4 : pm_look (pm_kl 196) 4 = some (.aload_n 0, 1) := by decide +kernel
theorem k196_5 : pm_look (pm_kl 196) 5 = some (.getfield 346, 3) := by decide +kernel
theorem k196_8 : pm_look (pm_kl 196) 8 = some (.iload_n 1, 1) := by decide +kernel
theorem k196_9 : pm_look (pm_kl 196) 9 = some (.iastore, 1) := by decide +kernel
theorem k196_10 : pm_look (pm_kl 196) 10 = some (.aload_n 0, 1) := by decide +kernel
theorem k196_11 : pm_look (pm_kl 196) 11 = some (.dup, 1) := by decide +kernel
theorem k196_12 : pm_look (pm_kl 196) 12 = some (.getfield 346, 3) := by decide +kernel
theorem k196_15 : pm_look (pm_kl 196) 15 = some (.iconst 1, 1) := by decide +kernel
theorem k196_16 : pm_look (pm_kl 196) 16 = some (.iadd, 1) := by decide +kernel
theorem k196_17 : pm_look (pm_kl 196) 17 = some (.putfield 346, 3) := by decide +kernel
theorem k196_20 : pm_look (pm_kl 196) 20 = some (.return_, 1) := by decide +kernel
theorem k197_0 : pm_look (pm_kl 197) 0 = some (.aload_n 0, 1) := by decide +kernel
theorem k197_1 : pm_look (pm_kl 197) 1 = some (.getfield 272, 3) := by decide +kernel
theorem k197_4 : pm_look (pm_kl 197) 4 = some (.bipush 109, 2) := by decide +kernel
theorem k197_6 : pm_look (pm_kl 197) 6 = some (.bipush 97, 2) := by decide +kernel
theorem k197_8 : pm_look (pm_kl 197) 8 = some (.bipush 114, 2) := by decide +kernel
theorem k197_10 : pm_look (pm_kl 197) 10 = some (.bipush 107, 2) := by decide +kernel
theorem k197_12 : pm_look (pm_kl 197) 12 = some (.iconst 0, 1) := by decide +kernel
theorem k197_13 : pm_look (pm_kl 197) 13 = some (.iconst 0, 1) := by decide +kernel
theorem k197_14 : pm_look (pm_kl 197) 14 = some (.invokestatic 305, 3) := by decide +kernel
theorem k197_17 : pm_look (pm_kl 197) 17 = some (.lcmp, 1) := by decide +kernel
theorem k197_18 : pm_look (pm_kl 197) 18 = some (.ifCond .ne 7, 3) := by decide +kernel
theorem k197_21 : pm_look (pm_kl 197) 21 = some (.iconst 3, 1) := by decide +kernel
theorem k197_22 : pm_look (pm_kl 197) 22 = some (.goto 106, 3) := by decide +kernel
theorem k197_25 : pm_look (pm_kl 197) 25 = some (.aload_n 0, 1) := by decide +kernel
theorem k197_26 : pm_look (pm_kl 197) 26 = some (.getfield 272, 3) := by decide +kernel
theorem k197_29 : pm_look (pm_kl 197) 29 = some (.bipush 119, 2) := by decide +kernel
theorem k197_31 : pm_look (pm_kl 197) 31 = some (.bipush 111, 2) := by decide +kernel
theorem k197_33 : pm_look (pm_kl 197) 33 = some (.bipush 114, 2) := by decide +kernel
theorem k197_35 : pm_look (pm_kl 197) 35 = some (.bipush 100, 2) := by decide +kernel
theorem k197_37 : pm_look (pm_kl 197) 37 = some (.iconst 0, 1) := by decide +kernel
theorem k197_38 : pm_look (pm_kl 197) 38 = some (.iconst 0, 1) := by decide +kernel
theorem k197_39 : pm_look (pm_kl 197) 39 = some (.invokestatic 305, 3) := by decide +kernel
theorem k197_42 : pm_look (pm_kl 197) 42 = some (.lcmp, 1) := by decide +kernel
theorem k197_43 : pm_look (pm_kl 197) 43 = some (.ifCond .ne 7, 3) := by decide +kernel
theorem k197_46 : pm_look (pm_kl 197) 46 = some (.iconst 4, 1) := by decide +kernel
theorem k197_47 : pm_look (pm_kl 197) 47 = some (.goto 81, 3) := by decide +kernel
theorem k197_50 : pm_look (pm_kl 197) 50 = some (.aload_n 0, 1) := by decide +kernel
theorem k197_51 : pm_look (pm_kl 197) 51 = some (.getfield 272, 3) := by decide +kernel
theorem k197_54 : pm_look (pm_kl 197) 54 = some (.bipush 104, 2) := by decide +kernel
theorem k197_56 : pm_look (pm_kl 197) 56 = some (.bipush 97, 2) := by decide +kernel
theorem k197_58 : pm_look (pm_kl 197) 58 = some (.bipush 110, 2) := by decide +kernel
theorem k197_60 : pm_look (pm_kl 197) 60 = some (.bipush 100, 2) := by decide +kernel
theorem k197_62 : pm_look (pm_kl 197) 62 = some (.iconst 0, 1) := by decide +kernel
theorem k197_63 : pm_look (pm_kl 197) 63 = some (.iconst 0, 1) := by decide +kernel
theorem k197_64 : pm_look (pm_kl 197) 64 = some (.invokestatic 305, 3) := by decide +kernel
theorem k197_67 : pm_look (pm_kl 197) 67 = some (.lcmp, 1) := by decide +kernel
theorem k197_68 : pm_look (pm_kl 197) 68 = some (.ifCond .ne 7, 3) := by decide +kernel
theorem k197_71 : pm_look (pm_kl 197) 71 = some (.iconst 5, 1) := by decide +kernel
theorem k197_72 : pm_look (pm_kl 197) 72 = some (.goto 56, 3) := by decide +kernel
theorem k197_75 : pm_look (pm_kl 197) 75 = some (.aload_n 0, 1) := by decide +kernel
theorem k197_76 : pm_look (pm_kl 197) 76 = some (.getfield 272, 3) := by decide +kernel
theorem k197_79 : pm_look (pm_kl 197) 79 = some (.bipush 98, 2) := by decide +kernel
theorem k197_81 : pm_look (pm_kl 197) 81 = some (.bipush 101, 2) := by decide +kernel
theorem k197_83 : pm_look (pm_kl 197) 83 = some (.bipush 102, 2) := by decide +kernel
theorem k197_85 : pm_look (pm_kl 197) 85 = some (.bipush 111, 2) := by decide +kernel
theorem k197_87 : pm_look (pm_kl 197) 87 = some (.bipush 114, 2) := by decide +kernel
theorem k197_89 : pm_look (pm_kl 197) 89 = some (.bipush 101, 2) := by decide +kernel
theorem k197_91 : pm_look (pm_kl 197) 91 = some (.invokestatic 305, 3) := by decide +kernel
theorem k197_94 : pm_look (pm_kl 197) 94 = some (.lcmp, 1) := by decide +kernel
theorem k197_95 : pm_look (pm_kl 197) 95 = some (.ifCond .ne 8, 3) := by decide +kernel
theorem k197_98 : pm_look (pm_kl 197) 98 = some (.bipush 6, 2) := by decide +kernel
theorem k197_100 : pm_look (pm_kl 197) 100 = some (.goto 28, 3) := by decide +kernel
theorem k197_103 : pm_look (pm_kl 197) 103 = some (.aload_n 0, 1) := by decide +kernel
theorem k197_104 : pm_look (pm_kl 197) 104 = some (.getfield 272, 3) := by decide +kernel
theorem k197_107 : pm_look (pm_kl 197) 107 = some (.bipush 97, 2) := by decide +kernel
theorem k197_109 : pm_look (pm_kl 197) 109 = some (.bipush 116, 2) := by decide +kernel
theorem k197_111 : pm_look (pm_kl 197) 111 = some (.iconst 0, 1) := by decide +kernel
theorem k197_112 : pm_look (pm_kl 197) 112 = some (.iconst 0, 1) := by decide +kernel
theorem k197_113 : pm_look (pm_kl 197) 113 = some (.iconst 0, 1) := by decide +kernel
theorem k197_114 : pm_look (pm_kl 197) 114 = some (.iconst 0, 1) := by decide +kernel
theorem k197_115 : pm_look (pm_kl 197) 115 = some (.invokestatic 305, 3) := by decide +kernel
theorem k197_118 : pm_look (pm_kl 197) 118 = some (.lcmp, 1) := by decide +kernel
theorem k197_119 : pm_look (pm_kl 197) 119 = some (.ifCond .ne 8, 3) := by decide +kernel
theorem k197_122 : pm_look (pm_kl 197) 122 = some (.bipush 7, 2) := by decide +kernel
theorem k197_124 : pm_look (pm_kl 197) 124 = some (.goto 4, 3) := by decide +kernel
theorem k197_127 : pm_look (pm_kl 197) 127 = some (.iconst (-1), 1) := by decide +kernel
theorem k197_128 : pm_look (pm_kl 197) 128 = some (.istore_n 1, 1) := by decide +kernel
theorem k197_129 : pm_look (pm_kl 197) 129 = some (.iload_n 1, 1) := by decide +kernel
theorem k197_130 : pm_look (pm_kl 197) 130 = some (.ifCond .ge 13, 3) := by decide +kernel
theorem k197_133 : pm_look (pm_kl 197) 133 = some (.aload_n 0, 1) := by decide +kernel
theorem k197_134 : pm_look (pm_kl 197) 134 = some (.iconst 1, 1) := by decide +kernel
theorem k197_135 : pm_look (pm_kl 197) 135 = some (.aload_n 0, 1) := by decide +kernel
theorem k197_136 : pm_look (pm_kl 197) 136 = some (.getfield 265, 3) := by decide +kernel
theorem k197_139 : pm_look (pm_kl 197) 139 = some (.invokevirtual 295, 3) := by decide +kernel
theorem k197_142 : pm_look (pm_kl 197) 142 = some (.ireturn, 1) := by decide +kernel
theorem k197_143 : pm_look (pm_kl 197) 143 = some (.aload_n 0, 1) := by decide +kernel
theorem k197_144 : pm_look (pm_kl 197) 144 = some (.aload_n 0, 1) := by decide +kernel
theorem k197_145 : pm_look (pm_kl 197) 145 = some (.getfield 276, 3) := by decide +kernel
theorem k197_148 : pm_look (pm_kl 197) 148 = some (.putfield 265, 3) := by decide +kernel
theorem k197_151 : pm_look (pm_kl 197) 151 = some (.aload_n 0, 1) := by decide +kernel
theorem k197_152 : pm_look (pm_kl 197) 152 = some (.iconst 0, 1) := by decide +kernel
theorem k197_153 : pm_look (pm_kl 197) 153 = some (.iload_n 1, 1) := by decide +kernel
theorem k197_154 : pm_look (pm_kl 197) 154 = some (.iconst 3, 1) := by decide +kernel
theorem k197_155 : pm_look (pm_kl 197) 155 = some (.if_icmp .ne 8, 3) := by decide +kernel
theorem k197_158 : pm_look (pm_kl 197) 158 = some (.bipush 39, 2) := by decide +kernel
theorem k197_160 : pm_look (pm_kl 197) 160 = some (.goto 36, 3) := by decide +kernel
theorem k197_163 : pm_look (pm_kl 197) 163 = some (.iload_n 1, 1) := by decide +kernel
theorem k197_164 : pm_look (pm_kl 197) 164 = some (.iconst 4, 1) := by decide +kernel
theorem k197_165 : pm_look (pm_kl 197) 165 = some (.if_icmp .ne 7, 3) := by decide +kernel
theorem k197_168 : pm_look (pm_kl 197) 168 = some (.iconst 3, 1) := by decide +kernel
theorem k197_169 : pm_look (pm_kl 197) 169 = some (.goto 27, 3) := by decide +kernel
theorem k197_172 : pm_look (pm_kl 197) 172 = some (.iload_n 1, 1) := by decide +kernel
theorem k197_173 : pm_look (pm_kl 197) 173 = some (.iconst 5, 1) := by decide +kernel
theorem k197_174 : pm_look (pm_kl 197) 174 = some (.if_icmp .ne 8, 3) := by decide +kernel
theorem k197_177 : pm_look (pm_kl 197) 177 = some (.bipush 7, 2) := by decide +kernel
theorem k197_179 : pm_look (pm_kl 197) 179 = some (.goto 17, 3) := by decide +kernel
theorem k197_182 : pm_look (pm_kl 197) 182 = some (.iload_n 1, 1) := by decide +kernel
theorem k197_183 : pm_look (pm_kl 197) 183 = some (.bipush 6, 2) := by decide +kernel
theorem k197_185 : pm_look (pm_kl 197) 185 = some (.if_icmp .ne 9, 3) := by decide +kernel
theorem k197_188 : pm_look (pm_kl 197) 188 = some (.sipush 999, 3) := by decide +kernel
theorem k197_191 : pm_look (pm_kl 197) 191 = some (.goto 5, 3) := by decide +kernel
theorem k197_194 : pm_look (pm_kl 197) 194 = some (.bipush 9, 2) := by decide +kernel
theorem k197_196 : pm_look (pm_kl 197) 196 = some (.iconst 3, 1) := by decide +kernel
theorem k197_197 : pm_look (pm_kl 197) 197 = some (.iconst 2, 1) := by decide +kernel
theorem k197_198 : pm_look (pm_kl 197) 198 = some (.invokevirtual 309, 3) := by decide +kernel
theorem k197_201 : pm_look (pm_kl 197) 201 = some (.istore_n 2, 1) := by decide +kernel
theorem k197_202 : pm_look (pm_kl 197) 202 = some (.aload_n 0, 1) := by decide +kernel
theorem k197_203 : pm_look (pm_kl 197) 203 = some (.getfield 298, 3) := by decide +kernel
theorem k197_206 : pm_look (pm_kl 197) 206 = some (.istore_n 3, 1) := by decide +kernel
theorem k197_207 : pm_look (pm_kl 197) 207 = some (.iload_n 1, 1) := by decide +kernel
theorem k197_208 : pm_look (pm_kl 197) 208 = some (.iconst 4, 1) := by decide +kernel
theorem k197_209 : pm_look (pm_kl 197) 209 = some (.if_icmp .ne 27, 3) := by decide +kernel
theorem k197_212 : pm_look (pm_kl 197) 212 = some (.iload_n 2, 1) := by decide +kernel
theorem k197_213 : pm_look (pm_kl 197) 213 = some (.ifCond .ne 23, 3) := by decide +kernel
theorem k197_216 : pm_look (pm_kl 197) 216 = some (.aload_n 0, 1) := by decide +kernel
theorem k197_217 : pm_look (pm_kl 197) 217 = some (.iconst 0, 1) := by decide +kernel
theorem k197_218 : pm_look (pm_kl 197) 218 = some (.bipush 99, 2) := by decide +kernel
theorem k197_220 : pm_look (pm_kl 197) 220 = some (.iconst 3, 1) := by decide +kernel
theorem k197_221 : pm_look (pm_kl 197) 221 = some (.iconst 2, 1) := by decide +kernel
theorem k197_222 : pm_look (pm_kl 197) 222 = some (.invokevirtual 309, 3) := by decide +kernel
theorem k197_225 : pm_look (pm_kl 197) 225 = some (.istore_n 2, 1) := by decide +kernel
theorem k197_226 : pm_look (pm_kl 197) 226 = some (.bipush 100, 2) := by decide +kernel
theorem k197_228 : pm_look (pm_kl 197) 228 = some (.iload_n 3, 1) := by decide +kernel
theorem k197_229 : pm_look (pm_kl 197) 229 = some (.imul, 1) := by decide +kernel
theorem k197_230 : pm_look (pm_kl 197) 230 = some (.aload_n 0, 1) := by decide +kernel
theorem k197_231 : pm_look (pm_kl 197) 231 = some (.getfield 298, 3) := by decide +kernel
theorem k197_234 : pm_look (pm_kl 197) 234 = some (.iadd, 1) := by decide +kernel
theorem k197_235 : pm_look (pm_kl 197) 235 = some (.istore_n 3, 1) := by decide +kernel
theorem k197_236 : pm_look (pm_kl 197) 236 = some (.iload_n 2, 1) := by decide +kernel
theorem k197_237 : pm_look (pm_kl 197) 237 = some (.ifCond .ne 19, 3) := by decide +kernel
theorem k197_240 : pm_look (pm_kl 197) 240 = some (.aload_n 0, 1) := by decide +kernel
theorem k197_241 : pm_look (pm_kl 197) 241 = some (.iload_n 1, 1) := by decide +kernel
theorem k197_242 : pm_look (pm_kl 197) 242 = some (.iload_n 3, 1) := by decide +kernel
theorem k197_243 : pm_look (pm_kl 197) 243 = some (.invokevirtual 349, 3) := by decide +kernel
theorem k197_246 : pm_look (pm_kl 197) 246 = some (.aload_n 0, 1) := by decide +kernel
theorem k197_247 : pm_look (pm_kl 197) 247 = some (.iconst 2, 1) := by decide +kernel
theorem k197_248 : pm_look (pm_kl 197) 248 = some (.invokevirtual 352, 3) := by decide +kernel
theorem k197_251 : pm_look (pm_kl 197) 251 = some (.aload_n 0, 1) := by decide +kernel
theorem k197_252 : pm_look (pm_kl 197) 252 = some (.iconst 0, 1) := by decide +kernel
theorem k197_253 : pm_look (pm_kl 197) 253 = some (.putfield 355, 3) := by decide +kernel
theorem k197_256 : pm_look (pm_kl 197) 256 = some (.iload_n 2, 1) := by decide +kernel
theorem k197_257 : pm_look (pm_kl 197) 257 = some (.ireturn, 1) := by decide +kernel
theorem k198_0 : pm_look (pm_kl 198) 0 = some (.aload_n 0, 1) := by decide +kernel
theorem k198_1 : pm_look (pm_kl 198) 1 = some (.invokevirtual 302, 3) := by decide +kernel
theorem k198_4 : pm_look (pm_kl 198) 4 = some (.aload_n 0, 1) := by decide +kernel
theorem k198_5 : pm_look (pm_kl 198) 5 = some (.getfield 272, 3) := by decide +kernel
theorem k198_8 : pm_look (pm_kl 198) 8 = some (.bipush 110, 2) := by decide +kernel
theorem k198_10 : pm_look (pm_kl 198) 10 = some (.bipush 111, 2) := by decide +kernel
theorem k198_12 : pm_look (pm_kl 198) 12 = some (.bipush 116, 2) := by decide +kernel
theorem k198_14 : pm_look (pm_kl 198) 14 = some (.iconst 0, 1) := by decide +kernel
theorem k198_15 : pm_look (pm_kl 198) 15 = some (.iconst 0, 1) := by decide +kernel
theorem k198_16 : pm_look (pm_kl 198) 16 = some (.iconst 0, 1) := by decide +kernel
theorem k198_17 : pm_look (pm_kl 198) 17 = some (.invokestatic 305, 3) := by decide +kernel
theorem k198_20 : pm_look (pm_kl 198) 20 = some (.lcmp, 1) := by decide +kernel
theorem k198_21 : pm_look (pm_kl 198) 21 = some (.ifCond .ne 18, 3) := by decide +kernel
theorem k198_24 : pm_look (pm_kl 198) 24 = some (.aload_n 0, 1) := by decide +kernel
theorem k198_25 : pm_look (pm_kl 198) 25 = some (.aload_n 0, 1) := by decide +kernel
theorem k198_26 : pm_look (pm_kl 198) 26 = some (.getfield 276, 3) := by decide +kernel
theorem k198_29 : pm_look (pm_kl 198) 29 = some (.putfield 265, 3) := by decide +kernel
theorem k198_32 : pm_look (pm_kl 198) 32 = some (.aload_n 0, 1) := by decide +kernel
theorem k198_33 : pm_look (pm_kl 198) 33 = some (.iconst 2, 1) := by decide +kernel
theorem k198_34 : pm_look (pm_kl 198) 34 = some (.invokevirtual 359, 3) := by decide +kernel
theorem k198_37 : pm_look (pm_kl 198) 37 = some (.iconst 0, 1) := by decide +kernel
theorem k198_38 : pm_look (pm_kl 198) 38 = some (.ireturn, 1) := by decide +kernel
theorem k198_39 : pm_look (pm_kl 198) 39 = some (.aload_n 0, 1) := by decide +kernel
theorem k198_40 : pm_look (pm_kl 198) 40 = some (.invokevirtual 268, 3) := by decide +kernel
theorem k198_43 : pm_look (pm_kl 198) 43 = some (.bipush 40, 2) := by decide +kernel
theorem k198_45 : pm_look (pm_kl 198) 45 = some (.if_icmp .ne 48, 3) := by decide +kernel
theorem k198_48 : pm_look (pm_kl 198) 48 = some (.aload_n 0, 1) := by decide +kernel
theorem k198_49 : pm_look (pm_kl 198) 49 = some (.getfield 362, 3) := by decide +kernel
theorem k198_52 : pm_look (pm_kl 198) 52 = some (.iconst 5, 1) := by decide +kernel
theorem k198_53 : pm_look (pm_kl 198) 53 = some (.if_icmp .ne 13, 3) := by decide +kernel
theorem k198_56 : pm_look (pm_kl 198) 56 = some (.aload_n 0, 1) := by decide +kernel
theorem k198_57 : pm_look (pm_kl 198) 57 = some (.iconst 5, 1) := by decide +kernel
theorem k198_58 : pm_look (pm_kl 198) 58 = some (.aload_n 0, 1) := by decide +kernel
theorem k198_59 : pm_look (pm_kl 198) 59 = some (.getfield 265, 3) := by decide +kernel
theorem k198_62 : pm_look (pm_kl 198) 62 = some (.invokevirtual 295, 3) := by decide +kernel
theorem k198_65 : pm_look (pm_kl 198) 65 = some (.ireturn, 1) := by decide +kernel
theorem k198_66 : pm_look (pm_kl 198) 66 = some (.aload_n 0, 1) := by decide +kernel
theorem k198_67 : pm_look (pm_kl 198) 67 = some (.dup, 1) := by decide +kernel
theorem k198_68 : pm_look (pm_kl 198) 68 = some (.getfield 362, 3) := by decide +kernel
theorem k198_71 : pm_look (pm_kl 198) 71 = some (.iconst 1, 1) := by decide +kernel
theorem k198_72 : pm_look (pm_kl 198) 72 = some (.iadd, 1) := by decide +kernel
theorem k198_73 : pm_look (pm_kl 198) 73 = some (.putfield 362, 3) := by decide +kernel
theorem k198_76 : pm_look (pm_kl 198) 76 = some (.aload_n 0, 1) := by decide +kernel
theorem k198_77 : pm_look (pm_kl 198) 77 = some (.dup, 1) := by decide +kernel
theorem k198_78 : pm_look (pm_kl 198) 78 = some (.getfield 265, 3) := by decide +kernel
theorem k198_81 : pm_look (pm_kl 198) 81 = some (.iconst 1, 1) := by decide +kernel
theorem k198_82 : pm_look (pm_kl 198) 82 = some (.iadd, 1) := by decide +kernel
theorem k198_83 : pm_look (pm_kl 198) 83 = some (.putfield 265, 3) := by decide +kernel
theorem k198_86 : pm_look (pm_kl 198) 86 = some (.aload_n 0, 1) := by decide +kernel
theorem k198_87 : pm_look (pm_kl 198) 87 = some (.iconst 3, 1) := by decide +kernel
theorem k198_88 : pm_look (pm_kl 198) 88 = some (.invokevirtual 359, 3) := by decide +kernel
theorem k198_91 : pm_look (pm_kl 198) 91 = some (.iconst 0, 1) := by decide +kernel
theorem k198_92 : pm_look (pm_kl 198) 92 = some (.ireturn, 1) := by decide +kernel
theorem k198_93 : pm_look (pm_kl 198) 93 = some (.aload_n 0, 1) := by decide +kernel
theorem k198_94 : pm_look (pm_kl 198) 94 = some (.invokevirtual 365, 3) := by decide +kernel
theorem k198_97 : pm_look (pm_kl 198) 97 = some (.ireturn, 1) := by decide +kernel
theorem k199_0 : pm_look (pm_kl 199) 0 = some (.aload_n 0, 1) := by decide +kernel
theorem k199_1 : pm_look (pm_kl 199) 1 = some (.invokevirtual 302, 3) := by decide +kernel
theorem k199_4 : pm_look (pm_kl 199) 4 = some (.aload_n 0, 1) := by decide +kernel
theorem k199_5 : pm_look (pm_kl 199) 5 = some (.getfield 272, 3) := by decide +kernel
theorem k199_8 : pm_look (pm_kl 199) 8 = some (.bipush 97, 2) := by decide +kernel
theorem k199_10 : pm_look (pm_kl 199) 10 = some (.bipush 110, 2) := by decide +kernel
theorem k199_12 : pm_look (pm_kl 199) 12 = some (.bipush 100, 2) := by decide +kernel
theorem k199_14 : pm_look (pm_kl 199) 14 = some (.iconst 0, 1) := by decide +kernel
theorem k199_15 : pm_look (pm_kl 199) 15 = some (.iconst 0, 1) := by decide +kernel
theorem k199_16 : pm_look (pm_kl 199) 16 = some (.iconst 0, 1) := by decide +kernel
theorem k199_17 : pm_look (pm_kl 199) 17 = some (.invokestatic 305, 3) := by decide +kernel
theorem k199_20 : pm_look (pm_kl 199) 20 = some (.lcmp, 1) := by decide +kernel
theorem k199_21 : pm_look (pm_kl 199) 21 = some (.ifCond .ne 7, 3) := by decide +kernel
theorem k199_24 : pm_look (pm_kl 199) 24 = some (.iconst 1, 1) := by decide +kernel
theorem k199_25 : pm_look (pm_kl 199) 25 = some (.goto 4, 3) := by decide +kernel
theorem k199_28 : pm_look (pm_kl 199) 28 = some (.iconst 0, 1) := by decide +kernel
theorem k199_29 : pm_look (pm_kl 199) 29 = some (.istore_n 1, 1) := by decide +kernel
theorem k199_30 : pm_look (pm_kl 199) 30 = some (.iload_n 1, 1) := by decide +kernel
theorem k199_31 : pm_look (pm_kl 199) 31 = some (.ifCond .ne 22, 3) := by decide +kernel
theorem k199_34 : pm_look (pm_kl 199) 34 = some (.aload_n 0, 1) := by decide +kernel
theorem k199_35 : pm_look (pm_kl 199) 35 = some (.getfield 272, 3) := by decide +kernel
theorem k199_38 : pm_look (pm_kl 199) 38 = some (.bipush 111, 2) := by decide +kernel
theorem k199_40 : pm_look (pm_kl 199) 40 = some (.bipush 114, 2) := by decide +kernel
theorem k199_42 : pm_look (pm_kl 199) 42 = some (.iconst 0, 1) := by decide +kernel
theorem k199_43 : pm_look (pm_kl 199) 43 = some (.iconst 0, 1) := by decide +kernel
theorem k199_44 : pm_look (pm_kl 199) 44 = some (.iconst 0, 1) := by decide +kernel
theorem k199_45 : pm_look (pm_kl 199) 45 = some (.iconst 0, 1) := by decide +kernel
theorem k199_46 : pm_look (pm_kl 199) 46 = some (.invokestatic 305, 3) := by decide +kernel
theorem k199_49 : pm_look (pm_kl 199) 49 = some (.lcmp, 1) := by decide +kernel
theorem k199_50 : pm_look (pm_kl 199) 50 = some (.ifCond .ne 44, 3) := by decide +kernel
theorem k199_53 : pm_look (pm_kl 199) 53 = some (.aload_n 0, 1) := by decide +kernel
theorem k199_54 : pm_look (pm_kl 199) 54 = some (.aload_n 0, 1) := by decide +kernel
theorem k199_55 : pm_look (pm_kl 199) 55 = some (.getfield 276, 3) := by decide +kernel
theorem k199_58 : pm_look (pm_kl 199) 58 = some (.putfield 265, 3) := by decide +kernel
theorem k199_61 : pm_look (pm_kl 199) 61 = some (.aload_n 0, 1) := by decide +kernel
theorem k199_62 : pm_look (pm_kl 199) 62 = some (.iload_n 1, 1) := by decide +kernel
theorem k199_63 : pm_look (pm_kl 199) 63 = some (.ifCond .eq 7, 3) := by decide +kernel
theorem k199_66 : pm_look (pm_kl 199) 66 = some (.iconst 1, 1) := by decide +kernel
theorem k199_67 : pm_look (pm_kl 199) 67 = some (.goto 4, 3) := by decide +kernel
theorem k199_70 : pm_look (pm_kl 199) 70 = some (.iconst 0, 1) := by decide +kernel
theorem k199_71 : pm_look (pm_kl 199) 71 = some (.invokevirtual 352, 3) := by decide +kernel
theorem k199_74 : pm_look (pm_kl 199) 74 = some (.aload_n 0, 1) := by decide +kernel
theorem k199_75 : pm_look (pm_kl 199) 75 = some (.iload_n 1, 1) := by decide +kernel
theorem k199_76 : pm_look (pm_kl 199) 76 = some (.ifCond .eq 7, 3) := by decide +kernel
theorem k199_79 : pm_look (pm_kl 199) 79 = some (.iconst 1, 1) := by decide +kernel
theorem k199_80 : pm_look (pm_kl 199) 80 = some (.goto 4, 3) := by decide +kernel
theorem k199_83 : pm_look (pm_kl 199) 83 = some (.iconst 0, 1) := by decide +kernel
theorem k199_84 : pm_look (pm_kl 199) 84 = some (.invokevirtual 359, 3) := by decide +kernel
theorem k199_87 : pm_look (pm_kl 199) 87 = some (.aload_n 0, 1) := by decide +kernel
theorem k199_88 : pm_look (pm_kl 199) 88 = some (.iconst 1, 1) := by decide +kernel
theorem k199_89 : pm_look (pm_kl 199) 89 = some (.putfield 355, 3) := by decide +kernel
theorem k199_92 : pm_look (pm_kl 199) 92 = some (.iconst 0, 1) := by decide +kernel
theorem k199_93 : pm_look (pm_kl 199) 93 = some (.ireturn, 1) := by decide +kernel
theorem k199_94 : pm_look (pm_kl 199) 94 = some (.aload_n 0, 1) := by decide +kernel
theorem k199_95 : pm_look (pm_kl 199) 95 = some (.invokevirtual 268, 3) := by decide +kernel
theorem k199_98 : pm_look (pm_kl 199) 98 = some (.bipush 41, 2) := by decide +kernel
theorem k199_100 : pm_look (pm_kl 199) 100 = some (.if_icmp .ne 52, 3) := by decide +kernel
theorem k199_103 : pm_look (pm_kl 199) 103 = some (.aload_n 0, 1) := by decide +kernel
theorem k199_104 : pm_look (pm_kl 199) 104 = some (.getfield 362, 3) := by decide +kernel
theorem k199_107 : pm_look (pm_kl 199) 107 = some (.ifCond .le 45, 3) := by decide +kernel
theorem k199_110 : pm_look (pm_kl 199) 110 = some (.aload_n 0, 1) := by decide +kernel
theorem k199_111 : pm_look (pm_kl 199) 111 = some (.dup, 1) := by decide +kernel
theorem k199_112 : pm_look (pm_kl 199) 112 = some (.getfield 265, 3) := by decide +kernel
theorem k199_115 : pm_look (pm_kl 199) 115 = some (.iconst 1, 1) := by decide +kernel
theorem k199_116 : pm_look (pm_kl 199) 116 = some (.iadd, 1) := by decide +kernel
theorem k199_117 : pm_look (pm_kl 199) 117 = some (.putfield 265, 3) := by decide +kernel
theorem k199_120 : pm_look (pm_kl 199) 120 = some (.aload_n 0, 1) := by decide +kernel
theorem k199_121 : pm_look (pm_kl 199) 121 = some (.dup, 1) := by decide +kernel
theorem k199_122 : pm_look (pm_kl 199) 122 = some (.getfield 362, 3) := by decide +kernel
theorem k199_125 : pm_look (pm_kl 199) 125 = some (.iconst 1, 1) := by decide +kernel
theorem k199_126 : pm_look (pm_kl 199) 126 = some (.isub, 1) := by decide +kernel
theorem k199_127 : pm_look (pm_kl 199) 127 = some (.putfield 362, 3) := by decide +kernel
theorem k199_130 : pm_look (pm_kl 199) 130 = some (.aload_n 0, 1) := by decide +kernel
theorem k199_131 : pm_look (pm_kl 199) 131 = some (.iconst 0, 1) := by decide +kernel
theorem k199_132 : pm_look (pm_kl 199) 132 = some (.invokevirtual 352, 3) := by decide +kernel
theorem k199_135 : pm_look (pm_kl 199) 135 = some (.aload_n 0, 1) := by decide +kernel
theorem k199_136 : pm_look (pm_kl 199) 136 = some (.dup, 1) := by decide +kernel
theorem k199_137 : pm_look (pm_kl 199) 137 = some (.getfield 346, 3) := by decide +kernel
theorem k199_140 : pm_look (pm_kl 199) 140 = some (.iconst 1, 1) := by decide +kernel
theorem k199_141 : pm_look (pm_kl 199) 141 = some (.isub, 1) := by decide +kernel
theorem k199_142 : pm_look (pm_kl 199) 142 = some (.putfield 346, 3) := by decide +kernel
theorem k199_145 : pm_look (pm_kl 199) 145 = some (.aload_n 0, 1) := by decide +kernel
theorem k199_146 : pm_look (pm_kl 199) 146 = some (.iconst 2, 1) := by decide +kernel
theorem k199_147 : pm_look (pm_kl 199) 147 = some (.invokevirtual 352, 3) := by decide +kernel
theorem k199_150 : pm_look (pm_kl 199) 150 = some (.iconst 0, 1) := by decide +kernel
theorem k199_151 : pm_look (pm_kl 199) 151 = some (.ireturn, 1) := by decide +kernel
theorem k199_152 : pm_look (pm_kl 199) 152 = some (.aload_n 0, 1) := by decide +kernel
theorem k199_153 : pm_look (pm_kl 199) 153 = some (.iconst 1, 1) := by decide +kernel
theorem k199_154 : pm_look (pm_kl 199) 154 = some (.aload_n 0, 1) := by decide +kernel
theorem k199_155 : pm_look (pm_kl 199) 155 = some (.getfield 265, 3) := by decide +kernel
theorem k199_158 : pm_look (pm_kl 199) 158 = some (.invokevirtual 295, 3) := by decide +kernel
theorem k199_161 : pm_look (pm_kl 199) 161 = some (.ireturn, 1) := by decide +kernel
theorem k200_0 : pm_look (pm_kl 200) 0 = some (.aload_n 0, 1) := by decide +kernel
theorem k200_1 : pm_look (pm_kl 200) 1 = some (.getfield 249, 3) := by decide +kernel
theorem k200_4 : pm_look (pm_kl 200) 4 = some (.bipush 100, 2) := by decide +kernel
theorem k200_6 : pm_look (pm_kl 200) 6 = some (.if_icmp .le 7, 3) := by decide +kernel
theorem k200_9 : pm_look (pm_kl 200) 9 = some (.sipush (-1003), 3) := by decide +kernel
theorem k200_12 : pm_look (pm_kl 200) 12 = some (.ireturn, 1) := by decide +kernel
theorem k200_13 : pm_look (pm_kl 200) 13 = some (.aload_n 0, 1) := by decide +kernel
theorem k200_14 : pm_look (pm_kl 200) 14 = some (.getfield 255, 3) := by decide +kernel
theorem k200_17 : pm_look (pm_kl 200) 17 = some (.bipush 8, 2) := by decide +kernel
theorem k200_19 : pm_look (pm_kl 200) 19 = some (.if_icmp .ne 7, 3) := by decide +kernel
theorem k200_22 : pm_look (pm_kl 200) 22 = some (.sipush (-1004), 3) := by decide +kernel
theorem k200_25 : pm_look (pm_kl 200) 25 = some (.ireturn, 1) := by decide +kernel
theorem k200_26 : pm_look (pm_kl 200) 26 = some (.aload_n 0, 1) := by decide +kernel
theorem k200_27 : pm_look (pm_kl 200) 27 = some (.iconst (-1), 1) := by decide +kernel
theorem k200_28 : pm_look (pm_kl 200) 28 = some (.putfield 93, 3) := by decide +kernel
theorem k200_31 : pm_look (pm_kl 200) 31 = some (.aload_n 0, 1) := by decide +kernel
theorem k200_32 : pm_look (pm_kl 200) 32 = some (.iconst 0, 1) := by decide +kernel
theorem k200_33 : pm_look (pm_kl 200) 33 = some (.putfield 265, 3) := by decide +kernel
theorem k200_36 : pm_look (pm_kl 200) 36 = some (.aload_n 0, 1) := by decide +kernel
theorem k200_37 : pm_look (pm_kl 200) 37 = some (.iconst 0, 1) := by decide +kernel
theorem k200_38 : pm_look (pm_kl 200) 38 = some (.putfield 343, 3) := by decide +kernel
theorem k200_41 : pm_look (pm_kl 200) 41 = some (.aload_n 0, 1) := by decide +kernel
theorem k200_42 : pm_look (pm_kl 200) 42 = some (.iconst 0, 1) := by decide +kernel
theorem k200_43 : pm_look (pm_kl 200) 43 = some (.putfield 346, 3) := by decide +kernel
theorem k200_46 : pm_look (pm_kl 200) 46 = some (.aload_n 0, 1) := by decide +kernel
theorem k200_47 : pm_look (pm_kl 200) 47 = some (.iconst 0, 1) := by decide +kernel
theorem k200_48 : pm_look (pm_kl 200) 48 = some (.putfield 362, 3) := by decide +kernel
theorem k200_51 : pm_look (pm_kl 200) 51 = some (.aload_n 0, 1) := by decide +kernel
theorem k200_52 : pm_look (pm_kl 200) 52 = some (.iconst 1, 1) := by decide +kernel
theorem k200_53 : pm_look (pm_kl 200) 53 = some (.putfield 355, 3) := by decide +kernel
theorem k200_56 : pm_look (pm_kl 200) 56 = some (.iconst 0, 1) := by decide +kernel
theorem k200_57 : pm_look (pm_kl 200) 57 = some (.istore_n 1, 1) := by decide +kernel
theorem k200_58 : pm_look (pm_kl 200) 58 = some (.iload_n 1, 1) := by decide +kernel
theorem k200_59 : pm_look (pm_kl 200) 59 = some (.ifCond .ne 46, 3) := by decide +kernel
theorem k200_62 : pm_look (pm_kl 200) 62 = some (.aload_n 0, 1) := by decide +kernel
theorem k200_63 : pm_look (pm_kl 200) 63 = some (.getfield 355, 3) := by decide +kernel
theorem k200_66 : pm_look (pm_kl 200) 66 = some (.ifCond .ne 17, 3) := by decide +kernel
theorem k200_69 : pm_look (pm_kl 200) 69 = some (.aload_n 0, 1) := by decide +kernel
theorem k200_70 : pm_look (pm_kl 200) 70 = some (.getfield 362, 3) := by decide +kernel
theorem k200_73 : pm_look (pm_kl 200) 73 = some (.ifCond .gt 10, 3) := by decide +kernel
theorem k200_76 : pm_look (pm_kl 200) 76 = some (.aload_n 0, 1) := by decide +kernel
theorem k200_77 : pm_look (pm_kl 200) 77 = some (.invokevirtual 268, 3) := by decide +kernel
theorem k200_80 : pm_look (pm_kl 200) 80 = some (.ifCond .lt 25, 3) := by decide +kernel
theorem k200_83 : pm_look (pm_kl 200) 83 = some (.aload_n 0, 1) := by decide +kernel
theorem k200_84 : pm_look (pm_kl 200) 84 = some (.getfield 355, 3) := by decide +kernel
theorem k200_87 : pm_look (pm_kl 200) 87 = some (.ifCond .eq 10, 3) := by decide +kernel
theorem k200_90 : pm_look (pm_kl 200) 90 = some (.aload_n 0, 1) := by decide +kernel
theorem k200_91 : pm_look (pm_kl 200) 91 = some (.invokevirtual 368, 3) := by decide +kernel
theorem k200_94 : pm_look (pm_kl 200) 94 = some (.goto 7, 3) := by decide +kernel
theorem k200_97 : pm_look (pm_kl 200) 97 = some (.aload_n 0, 1) := by decide +kernel
theorem k200_98 : pm_look (pm_kl 200) 98 = some (.invokevirtual 371, 3) := by decide +kernel
theorem k200_101 : pm_look (pm_kl 200) 101 = some (.istore_n 1, 1) := by decide +kernel
theorem k200_102 : pm_look (pm_kl 200) 102 = some (.goto (-44), 3) := by decide +kernel
theorem k200_105 : pm_look (pm_kl 200) 105 = some (.aload_n 0, 1) := by decide +kernel
theorem k200_106 : pm_look (pm_kl 200) 106 = some (.iconst 0, 1) := by decide +kernel
theorem k200_107 : pm_look (pm_kl 200) 107 = some (.putfield 249, 3) := by decide +kernel
theorem k200_110 : pm_look (pm_kl 200) 110 = some (.iload_n 1, 1) := by decide +kernel
theorem k200_111 : pm_look (pm_kl 200) 111 = some (.ifCond .le 8, 3) := by decide +kernel
theorem k200_114 : pm_look (pm_kl 200) 114 = some (.bipush (-10), 2) := by decide +kernel
theorem k200_116 : pm_look (pm_kl 200) 116 = some (.iload_n 1, 1) := by decide +kernel
theorem k200_117 : pm_look (pm_kl 200) 117 = some (.isub, 1) := by decide +kernel
theorem k200_118 : pm_look (pm_kl 200) 118 = some (.ireturn, 1) := by decide +kernel
theorem k200_119 : pm_look (pm_kl 200) 119 = some (.aload_n 0, 1) := by decide +kernel
theorem k200_120 : pm_look (pm_kl 200) 120 = some (.iconst 0, 1) := by decide +kernel
theorem k200_121 : pm_look (pm_kl 200) 121 = some (.invokevirtual 352, 3) := by decide +kernel
theorem k200_124 : pm_look (pm_kl 200) 124 = some (.aload_n 0, 1) := by decide +kernel
theorem k200_125 : pm_look (pm_kl 200) 125 = some (.getfield 103, 3) := by decide +kernel
theorem k200_128 : pm_look (pm_kl 200) 128 = some (.aload_n 0, 1) := by decide +kernel
theorem k200_129 : pm_look (pm_kl 200) 129 = some (.getfield 255, 3) := by decide +kernel
theorem k200_132 : pm_look (pm_kl 200) 132 = some (.aload_n 0, 1) := by decide +kernel
theorem k200_133 : pm_look (pm_kl 200) 133 = some (.getfield 343, 3) := by decide +kernel
theorem k200_136 : pm_look (pm_kl 200) 136 = some (.iastore, 1) := by decide +kernel
theorem k200_137 : pm_look (pm_kl 200) 137 = some (.aload_n 0, 1) := by decide +kernel
theorem k200_138 : pm_look (pm_kl 200) 138 = some (.dup, 1) := by decide +kernel
theorem k200_139 : pm_look (pm_kl 200) 139 = some (.getfield 255, 3) := by decide +kernel
theorem k200_142 : pm_look (pm_kl 200) 142 = some (.iconst 1, 1) := by decide +kernel
theorem k200_143 : pm_look (pm_kl 200) 143 = some (.iadd, 1) := by decide +kernel
theorem k200_144 : pm_look (pm_kl 200) 144 = some (.putfield 255, 3) := by decide +kernel
theorem k200_147 : pm_look (pm_kl 200) 147 = some (.aload_n 0, 1) := by decide +kernel
theorem k200_148 : pm_look (pm_kl 200) 148 = some (.getfield 255, 3) := by decide +kernel
theorem k200_151 : pm_look (pm_kl 200) 151 = some (.iconst 1, 1) := by decide +kernel
theorem k200_152 : pm_look (pm_kl 200) 152 = some (.isub, 1) := by decide +kernel
theorem k200_153 : pm_look (pm_kl 200) 153 = some (.ireturn, 1) := by decide +kernel
theorem k201_0 : pm_look (pm_kl 201) 0 = some (.iconst 0, 1) := by decide +kernel
theorem k201_1 : pm_look (pm_kl 201) 1 = some (.istore 4, 2) := by decide +kernel
theorem k201_3 : pm_look (pm_kl 201) 3 = some (.iconst 0, 1) := by decide +kernel
theorem k201_4 : pm_look (pm_kl 201) 4 = some (.istore 5, 2) := by decide +kernel
theorem k201_6 : pm_look (pm_kl 201) 6 = some (.iload 5, 2) := by decide +kernel
theorem k201_8 : pm_look (pm_kl 201) 8 = some (.aload_n 0, 1) := by decide +kernel
theorem k201_9 : pm_look (pm_kl 201) 9 = some (.getfield 178, 3) := by decide +kernel
theorem k201_12 : pm_look (pm_kl 201) 12 = some (.if_icmp .ge 54, 3) := by decide +kernel
theorem k201_15 : pm_look (pm_kl 201) 15 = some (.iload 4, 2) := by decide +kernel
theorem k201_17 : pm_look (pm_kl 201) 17 = some (.ifCond .ne 36, 3) := by decide +kernel
theorem k201_20 : pm_look (pm_kl 201) 20 = some (.aload_n 0, 1) := by decide +kernel
theorem k201_21 : pm_look (pm_kl 201) 21 = some (.getfield 31, 3) := by decide +kernel
theorem k201_24 : pm_look (pm_kl 201) 24 = some (.iload 5, 2) := by decide +kernel
theorem k201_26 : pm_look (pm_kl 201) 26 = some (.iaload, 1) := by decide +kernel
theorem k201_27 : pm_look (pm_kl 201) 27 = some (.iload_n 1, 1) := by decide +kernel
theorem k201_28 : pm_look (pm_kl 201) 28 = some (.if_icmp .ne 29, 3) := by decide +kernel
theorem k201_31 : pm_look (pm_kl 201) 31 = some (.aload_n 0, 1) := by decide +kernel
theorem k201_32 : pm_look (pm_kl 201) 32 = some (.getfield 37, 3) := by decide +kernel
theorem k201_35 : pm_look (pm_kl 201) 35 = some (.iload 5, 2) := by decide +kernel
theorem k201_37 : pm_look (pm_kl 201) 37 = some (.iaload, 1) := by decide +kernel
theorem k201_38 : pm_look (pm_kl 201) 38 = some (.iload_n 2, 1) := by decide +kernel
theorem k201_39 : pm_look (pm_kl 201) 39 = some (.if_icmp .ne 18, 3) := by decide +kernel
theorem k201_42 : pm_look (pm_kl 201) 42 = some (.aload_n 0, 1) := by decide +kernel
theorem k201_43 : pm_look (pm_kl 201) 43 = some (.getfield 43, 3) := by decide +kernel
theorem k201_46 : pm_look (pm_kl 201) 46 = some (.iload 5, 2) := by decide +kernel
theorem k201_48 : pm_look (pm_kl 201) 48 = some (.iaload, 1) := by decide +kernel
theorem k201_49 : pm_look (pm_kl 201) 49 = some (.iload_n 3, 1) := by decide +kernel
theorem k201_50 : pm_look (pm_kl 201) 50 = some (.if_icmp .gt 7, 3) := by decide +kernel
theorem k201_53 : pm_look (pm_kl 201) 53 = some (.iconst 1, 1) := by decide +kernel
theorem k201_54 : pm_look (pm_kl 201) 54 = some (.goto 4, 3) := by decide +kernel
theorem k201_57 : pm_look (pm_kl 201) 57 = some (.iconst 0, 1) := by decide +kernel
theorem k201_58 : pm_look (pm_kl 201) 58 = some (.istore 4, 2) := by decide +kernel
theorem k201_60 : pm_look (pm_kl 201) 60 = some (.iinc 5 1, 3) := by decide +kernel
theorem k201_63 : pm_look (pm_kl 201) 63 = some (.goto (-57), 3) := by decide +kernel
theorem k201_66 : pm_look (pm_kl 201) 66 = some (.iload 4, 2) := by decide +kernel
theorem k201_68 : pm_look (pm_kl 201) 68 = some (.ireturn, 1) := by decide +kernel
theorem k202_0 : pm_look (pm_kl 202) 0 = some (.iconst 0, 1) := by decide +kernel
theorem k202_1 : pm_look (pm_kl 202) 1 = some (.istore_n 3, 1) := by decide +kernel
theorem k202_2 : pm_look (pm_kl 202) 2 = some (.iconst 0, 1) := by decide +kernel
theorem k202_3 : pm_look (pm_kl 202) 3 = some (.istore 4, 2) := by decide +kernel
theorem k202_5 : pm_look (pm_kl 202) 5 = some (.iload 4, 2) := by decide +kernel
theorem k202_7 : pm_look (pm_kl 202) 7 = some (.aload_n 0, 1) := by decide +kernel
theorem k202_8 : pm_look (pm_kl 202) 8 = some (.getfield 252, 3) := by decide +kernel
theorem k202_11 : pm_look (pm_kl 202) 11 = some (.if_icmp .ge 45, 3) := by decide +kernel
theorem k202_14 : pm_look (pm_kl 202) 14 = some (.iload_n 3, 1) := by decide +kernel
theorem k202_15 : pm_look (pm_kl 202) 15 = some (.ifCond .ne 29, 3) := by decide +kernel
theorem k202_18 : pm_look (pm_kl 202) 18 = some (.aload_n 0, 1) := by decide +kernel
theorem k202_19 : pm_look (pm_kl 202) 19 = some (.getfield 97, 3) := by decide +kernel
theorem k202_22 : pm_look (pm_kl 202) 22 = some (.iload 4, 2) := by decide +kernel
theorem k202_24 : pm_look (pm_kl 202) 24 = some (.iaload, 1) := by decide +kernel
theorem k202_25 : pm_look (pm_kl 202) 25 = some (.iload_n 2, 1) := by decide +kernel
theorem k202_26 : pm_look (pm_kl 202) 26 = some (.if_icmp .ne 22, 3) := by decide +kernel
theorem k202_29 : pm_look (pm_kl 202) 29 = some (.aload_n 0, 1) := by decide +kernel
theorem k202_30 : pm_look (pm_kl 202) 30 = some (.iload_n 1, 1) := by decide +kernel
theorem k202_31 : pm_look (pm_kl 202) 31 = some (.aload_n 0, 1) := by decide +kernel
theorem k202_32 : pm_look (pm_kl 202) 32 = some (.getfield 100, 3) := by decide +kernel
theorem k202_35 : pm_look (pm_kl 202) 35 = some (.iload 4, 2) := by decide +kernel
theorem k202_37 : pm_look (pm_kl 202) 37 = some (.iaload, 1) := by decide +kernel
theorem k202_38 : pm_look (pm_kl 202) 38 = some (.invokevirtual 241, 3) := by decide +kernel
theorem k202_41 : pm_look (pm_kl 202) 41 = some (.ifCond .eq 7, 3) := by decide +kernel
theorem k202_44 : pm_look (pm_kl 202) 44 = some (.iconst 1, 1) := by decide +kernel
theorem k202_45 : pm_look (pm_kl 202) 45 = some (.goto 4, 3) := by decide +kernel
theorem k202_48 : pm_look (pm_kl 202) 48 = some (.iconst 0, 1) := by decide +kernel
theorem k202_49 : pm_look (pm_kl 202) 49 = some (.istore_n 3, 1) := by decide +kernel
theorem k202_50 : pm_look (pm_kl 202) 50 = some (.iinc 4 1, 3) := by decide +kernel
theorem k202_53 : pm_look (pm_kl 202) 53 = some (.goto (-48), 3) := by decide +kernel
theorem k202_56 : pm_look (pm_kl 202) 56 = some (.iload_n 3, 1) := by decide +kernel
theorem k202_57 : pm_look (pm_kl 202) 57 = some (.ireturn, 1) := by decide +kernel
theorem k203_0 : pm_look (pm_kl 203) 0 = some (.iconst 0, 1) := by decide +kernel
theorem k203_1 : pm_look (pm_kl 203) 1 = some (.istore 4, 2) := by decide +kernel
theorem k203_3 : pm_look (pm_kl 203) 3 = some (.iconst 0, 1) := by decide +kernel
theorem k203_4 : pm_look (pm_kl 203) 4 = some (.istore 5, 2) := by decide +kernel
theorem k203_6 : pm_look (pm_kl 203) 6 = some (.iload 5, 2) := by decide +kernel
theorem k203_8 : pm_look (pm_kl 203) 8 = some (.aload_n 0, 1) := by decide +kernel
theorem k203_9 : pm_look (pm_kl 203) 9 = some (.getfield 103, 3) := by decide +kernel
theorem k203_12 : pm_look (pm_kl 203) 12 = some (.iload_n 1, 1) := by decide +kernel
theorem k203_13 : pm_look (pm_kl 203) 13 = some (.iaload, 1) := by decide +kernel
theorem k203_14 : pm_look (pm_kl 203) 14 = some (.if_icmp .ge 256, 3) := by decide +kernel
theorem k203_17 : pm_look (pm_kl 203) 17 = some (.aload_n 0, 1) := by decide +kernel
theorem k203_18 : pm_look (pm_kl 203) 18 = some (.getfield 106, 3) := by decide +kernel
theorem k203_21 : pm_look (pm_kl 203) 21 = some (.bipush 110, 2) := by decide +kernel
theorem k203_23 : pm_look (pm_kl 203) 23 = some (.iload_n 1, 1) := by decide +kernel
theorem k203_24 : pm_look (pm_kl 203) 24 = some (.imul, 1) := by decide +kernel
theorem k203_25 : pm_look (pm_kl 203) 25 = some (.iload 5, 2) := by decide +kernel
theorem k203_27 : pm_look (pm_kl 203) 27 = some (.iadd, 1) := by decide +kernel
theorem k203_28 : pm_look (pm_kl 203) 28 = some (.iaload, 1) := by decide +kernel
theorem k203_29 : pm_look (pm_kl 203) 29 = some (.istore 6, 2) := by decide +kernel
theorem k203_31 : pm_look (pm_kl 203) 31 = some (.aload_n 0, 1) := by decide +kernel
theorem k203_32 : pm_look (pm_kl 203) 32 = some (.getfield 109, 3) := by decide +kernel
theorem k203_35 : pm_look (pm_kl 203) 35 = some (.bipush 110, 2) := by decide +kernel
theorem k203_37 : pm_look (pm_kl 203) 37 = some (.iload_n 1, 1) := by decide +kernel
theorem k203_38 : pm_look (pm_kl 203) 38 = some (.imul, 1) := by decide +kernel
theorem k203_39 : pm_look (pm_kl 203) 39 = some (.iload 5, 2) := by decide +kernel
theorem k203_41 : pm_look (pm_kl 203) 41 = some (.iadd, 1) := by decide +kernel
theorem k203_42 : pm_look (pm_kl 203) 42 = some (.iaload, 1) := by decide +kernel
theorem k203_43 : pm_look (pm_kl 203) 43 = some (.istore 7, 2) := by decide +kernel
theorem k203_45 : pm_look (pm_kl 203) 45 = some (.iload 6, 2) := by decide +kernel
theorem k203_47 : pm_look (pm_kl 203) 47 = some (.iconst 2, 1) := by decide +kernel
theorem k203_48 : pm_look (pm_kl 203) 48 = some (.if_icmp .ge 80, 3) := by decide +kernel
theorem k203_51 : pm_look (pm_kl 203) 51 = some (.iinc 4 (-1), 3) := by decide +kernel
theorem k203_54 : pm_look (pm_kl 203) 54 = some (.aload_n 0, 1) := by decide +kernel
theorem k203_55 : pm_look (pm_kl 203) 55 = some (.getfield 115, 3) := by decide +kernel
theorem k203_58 : pm_look (pm_kl 203) 58 = some (.iload 4, 2) := by decide +kernel
theorem k203_60 : pm_look (pm_kl 203) 60 = some (.iconst 1, 1) := by decide +kernel
theorem k203_61 : pm_look (pm_kl 203) 61 = some (.isub, 1) := by decide +kernel
theorem k203_62 : pm_look (pm_kl 203) 62 = some (.iload 6, 2) := by decide +kernel
theorem k203_64 : pm_look (pm_kl 203) 64 = some (.ifCond .ne 33, 3) := by decide +kernel
theorem k203_67 : pm_look (pm_kl 203) 67 = some (.aload_n 0, 1) := by decide +kernel
theorem k203_68 : pm_look (pm_kl 203) 68 = some (.getfield 115, 3) := by decide +kernel
theorem k203_71 : pm_look (pm_kl 203) 71 = some (.iload 4, 2) := by decide +kernel
theorem k203_73 : pm_look (pm_kl 203) 73 = some (.iconst 1, 1) := by decide +kernel
theorem k203_74 : pm_look (pm_kl 203) 74 = some (.isub, 1) := by decide +kernel
theorem k203_75 : pm_look (pm_kl 203) 75 = some (.baload, 1) := by decide +kernel
theorem k203_76 : pm_look (pm_kl 203) 76 = some (.ifCond .ne 13, 3) := by decide +kernel
theorem k203_79 : pm_look (pm_kl 203) 79 = some (.aload_n 0, 1) := by decide +kernel
theorem k203_80 : pm_look (pm_kl 203) 80 = some (.getfield 115, 3) := by decide +kernel
theorem k203_83 : pm_look (pm_kl 203) 83 = some (.iload 4, 2) := by decide +kernel
theorem k203_85 : pm_look (pm_kl 203) 85 = some (.baload, 1) := by decide +kernel
theorem k203_86 : pm_look (pm_kl 203) 86 = some (.ifCond .eq 7, 3) := by decide +kernel
theorem k203_89 : pm_look (pm_kl 203) 89 = some (.iconst 1, 1) := by decide +kernel
theorem k203_90 : pm_look (pm_kl 203) 90 = some (.goto 34, 3) := by decide +kernel
theorem k203_93 : pm_look (pm_kl 203) 93 = some (.iconst 0, 1) := by decide +kernel
theorem k203_94 : pm_look (pm_kl 203) 94 = some (.goto 30, 3) := by decide +kernel
theorem k203_97 : pm_look (pm_kl 203) 97 = some (.aload_n 0, 1) := by decide +kernel
theorem k203_98 : pm_look (pm_kl 203) 98 = some (.getfield 115, 3) := by decide +kernel
theorem k203_101 : pm_look (pm_kl 203) 101 = some (.iload 4, 2) := by decide +kernel
theorem k203_103 : pm_look (pm_kl 203) 103 = some (.iconst 1, 1) := by decide +kernel
theorem k203_104 : pm_look (pm_kl 203) 104 = some (.isub, 1) := by decide +kernel
theorem k203_105 : pm_look (pm_kl 203) 105 = some (.baload, 1) := by decide +kernel
theorem k203_106 : pm_look (pm_kl 203) 106 = some (.ifCond .eq 17, 3) := by decide +kernel
theorem k203_109 : pm_look (pm_kl 203) 109 = some (.aload_n 0, 1) := by decide +kernel
theorem k203_110 : pm_look (pm_kl 203) 110 = some (.getfield 115, 3) := by decide +kernel
theorem k203_113 : pm_look (pm_kl 203) 113 = some (.iload 4, 2) := by decide +kernel
theorem k203_115 : pm_look (pm_kl 203) 115 = some (.baload, 1) := by decide +kernel
theorem k203_116 : pm_look (pm_kl 203) 116 = some (.ifCond .eq 7, 3) := by decide +kernel
theorem k203_119 : pm_look (pm_kl 203) 119 = some (.iconst 1, 1) := by decide +kernel
theorem k203_120 : pm_look (pm_kl 203) 120 = some (.goto 4, 3) := by decide +kernel
theorem k203_123 : pm_look (pm_kl 203) 123 = some (.iconst 0, 1) := by decide +kernel
theorem k203_124 : pm_look (pm_kl 203) 124 = some (.bastore, 1) := by decide +kernel
theorem k203_125 : pm_look (pm_kl 203) 125 = some (.goto 139, 3) := by decide +kernel
theorem k203_128 : pm_look (pm_kl 203) 128 = some (.iload 6, 2) := by decide +kernel
theorem k203_130 : pm_look (pm_kl 203) 130 = some (.iconst 2, 1) := by decide +kernel
theorem k203_131 : pm_look (pm_kl 203) 131 = some (.if_icmp .ne 32, 3) := by decide +kernel
theorem k203_134 : pm_look (pm_kl 203) 134 = some (.aload_n 0, 1) := by decide +kernel
theorem k203_135 : pm_look (pm_kl 203) 135 = some (.getfield 115, 3) := by decide +kernel
theorem k203_138 : pm_look (pm_kl 203) 138 = some (.iload 4, 2) := by decide +kernel
theorem k203_140 : pm_look (pm_kl 203) 140 = some (.iconst 1, 1) := by decide +kernel
theorem k203_141 : pm_look (pm_kl 203) 141 = some (.isub, 1) := by decide +kernel
theorem k203_142 : pm_look (pm_kl 203) 142 = some (.aload_n 0, 1) := by decide +kernel
theorem k203_143 : pm_look (pm_kl 203) 143 = some (.getfield 115, 3) := by decide +kernel
theorem k203_146 : pm_look (pm_kl 203) 146 = some (.iload 4, 2) := by decide +kernel
theorem k203_148 : pm_look (pm_kl 203) 148 = some (.iconst 1, 1) := by decide +kernel
theorem k203_149 : pm_look (pm_kl 203) 149 = some (.isub, 1) := by decide +kernel
theorem k203_150 : pm_look (pm_kl 203) 150 = some (.baload, 1) := by decide +kernel
theorem k203_151 : pm_look (pm_kl 203) 151 = some (.ifCond .ne 7, 3) := by decide +kernel
theorem k203_154 : pm_look (pm_kl 203) 154 = some (.iconst 1, 1) := by decide +kernel
theorem k203_155 : pm_look (pm_kl 203) 155 = some (.goto 4, 3) := by decide +kernel
theorem k203_158 : pm_look (pm_kl 203) 158 = some (.iconst 0, 1) := by decide +kernel
theorem k203_159 : pm_look (pm_kl 203) 159 = some (.bastore, 1) := by decide +kernel
theorem k203_160 : pm_look (pm_kl 203) 160 = some (.goto 104, 3) := by decide +kernel
theorem k203_163 : pm_look (pm_kl 203) 163 = some (.aload_n 0, 1) := by decide +kernel
theorem k203_164 : pm_look (pm_kl 203) 164 = some (.getfield 115, 3) := by decide +kernel
theorem k203_167 : pm_look (pm_kl 203) 167 = some (.iload 4, 2) := by decide +kernel
theorem k203_169 : pm_look (pm_kl 203) 169 = some (.iload 6, 2) := by decide +kernel
theorem k203_171 : pm_look (pm_kl 203) 171 = some (.iconst 3, 1) := by decide +kernel
theorem k203_172 : pm_look (pm_kl 203) 172 = some (.if_icmp .ne 13, 3) := by decide +kernel
theorem k203_175 : pm_look (pm_kl 203) 175 = some (.aload_n 0, 1) := by decide +kernel
theorem k203_176 : pm_look (pm_kl 203) 176 = some (.iload_n 2, 1) := by decide +kernel
theorem k203_177 : pm_look (pm_kl 203) 177 = some (.iload 7, 2) := by decide +kernel
theorem k203_179 : pm_look (pm_kl 203) 179 = some (.invokevirtual 241, 3) := by decide +kernel
theorem k203_182 : pm_look (pm_kl 203) 182 = some (.goto 78, 3) := by decide +kernel
theorem k203_185 : pm_look (pm_kl 203) 185 = some (.iload 6, 2) := by decide +kernel
theorem k203_187 : pm_look (pm_kl 203) 187 = some (.iconst 4, 1) := by decide +kernel
theorem k203_188 : pm_look (pm_kl 203) 188 = some (.if_icmp .ne 13, 3) := by decide +kernel
theorem k203_191 : pm_look (pm_kl 203) 191 = some (.aload_n 0, 1) := by decide +kernel
theorem k203_192 : pm_look (pm_kl 203) 192 = some (.iload_n 2, 1) := by decide +kernel
theorem k203_193 : pm_look (pm_kl 203) 193 = some (.iload 7, 2) := by decide +kernel
theorem k203_195 : pm_look (pm_kl 203) 195 = some (.invokevirtual 374, 3) := by decide +kernel
theorem k203_198 : pm_look (pm_kl 203) 198 = some (.goto 62, 3) := by decide +kernel
theorem k203_201 : pm_look (pm_kl 203) 201 = some (.iload 6, 2) := by decide +kernel
theorem k203_203 : pm_look (pm_kl 203) 203 = some (.iconst 5, 1) := by decide +kernel
theorem k203_204 : pm_look (pm_kl 203) 204 = some (.if_icmp .ne 14, 3) := by decide +kernel
theorem k203_207 : pm_look (pm_kl 203) 207 = some (.aload_n 0, 1) := by decide +kernel
theorem k203_208 : pm_look (pm_kl 203) 208 = some (.iload_n 2, 1) := by decide +kernel
theorem k203_209 : pm_look (pm_kl 203) 209 = some (.iload 7, 2) := by decide +kernel
theorem k203_211 : pm_look (pm_kl 203) 211 = some (.iload_n 3, 1) := by decide +kernel
theorem k203_212 : pm_look (pm_kl 203) 212 = some (.invokevirtual 377, 3) := by decide +kernel
theorem k203_215 : pm_look (pm_kl 203) 215 = some (.goto 45, 3) := by decide +kernel
theorem k203_218 : pm_look (pm_kl 203) 218 = some (.iload 6, 2) := by decide +kernel
theorem k203_220 : pm_look (pm_kl 203) 220 = some (.bipush 6, 2) := by decide +kernel
theorem k203_222 : pm_look (pm_kl 203) 222 = some (.if_icmp .ne 22, 3) := by decide +kernel
theorem k203_225 : pm_look (pm_kl 203) 225 = some (.aload_n 0, 1) := by decide +kernel
theorem k203_226 : pm_look (pm_kl 203) 226 = some (.getfield 22, 3) := by decide +kernel
theorem k203_229 : pm_look (pm_kl 203) 229 = some (.iload_n 2, 1) := by decide +kernel
theorem k203_230 : pm_look (pm_kl 203) 230 = some (.iaload, 1) := by decide +kernel
theorem k203_231 : pm_look (pm_kl 203) 231 = some (.iload 7, 2) := by decide +kernel
theorem k203_233 : pm_look (pm_kl 203) 233 = some (.if_icmp .ge 7, 3) := by decide +kernel
theorem k203_236 : pm_look (pm_kl 203) 236 = some (.iconst 1, 1) := by decide +kernel
theorem k203_237 : pm_look (pm_kl 203) 237 = some (.goto 23, 3) := by decide +kernel
theorem k203_240 : pm_look (pm_kl 203) 240 = some (.iconst 0, 1) := by decide +kernel
theorem k203_241 : pm_look (pm_kl 203) 241 = some (.goto 19, 3) := by decide +kernel
theorem k203_244 : pm_look (pm_kl 203) 244 = some (.aload_n 0, 1) := by decide +kernel
theorem k203_245 : pm_look (pm_kl 203) 245 = some (.getfield 25, 3) := by decide +kernel
theorem k203_248 : pm_look (pm_kl 203) 248 = some (.iload_n 2, 1) := by decide +kernel
theorem k203_249 : pm_look (pm_kl 203) 249 = some (.iaload, 1) := by decide +kernel
theorem k203_250 : pm_look (pm_kl 203) 250 = some (.iload 7, 2) := by decide +kernel
theorem k203_252 : pm_look (pm_kl 203) 252 = some (.if_icmp .ne 7, 3) := by decide +kernel
theorem k203_255 : pm_look (pm_kl 203) 255 = some (.iconst 1, 1) := by decide +kernel
theorem k203_256 : pm_look (pm_kl 203) 256 = some (.goto 4, 3) := by decide +kernel
theorem k203_259 : pm_look (pm_kl 203) 259 = some (.iconst 0, 1) := by decide +kernel
theorem k203_260 : pm_look (pm_kl 203) 260 = some (.bastore, 1) := by decide +kernel
theorem k203_261 : pm_look (pm_kl 203) 261 = some (.iinc 4 1, 3) := by decide +kernel
theorem k203_264 : pm_look (pm_kl 203) 264 = some (.iinc 5 1, 3) := by decide +kernel
theorem k203_267 : pm_look (pm_kl 203) 267 = some (.goto (-261), 3) := by decide +kernel
theorem k203_270 : pm_look (pm_kl 203) 270 = some (.aload_n 0, 1) := by decide +kernel
theorem k203_271 : pm_look (pm_kl 203) 271 = some (.getfield 115, 3) := by decide +kernel
theorem k203_274 : pm_look (pm_kl 203) 274 = some (.iconst 0, 1) := by decide +kernel
theorem k203_275 : pm_look (pm_kl 203) 275 = some (.baload, 1) := by decide +kernel
theorem k203_276 : pm_look (pm_kl 203) 276 = some (.ireturn, 1) := by decide +kernel
theorem k204_0 : pm_look (pm_kl 204) 0 = some (.iload_n 1, 1) := by decide +kernel
theorem k204_1 : pm_look (pm_kl 204) 1 = some (.i2l, 1) := by decide +kernel
theorem k204_2 : pm_look (pm_kl 204) 2 = some (.lconst 0, 1) := by decide +kernel
theorem k204_3 : pm_look (pm_kl 204) 3 = some (.aload_n 0, 1) := by decide +kernel
theorem k204_4 : pm_look (pm_kl 204) 4 = some (.getfield 255, 3) := by decide +kernel
theorem k204_7 : pm_look (pm_kl 204) 7 = some (.iconst 1, 1) := by decide +kernel
theorem k204_8 : pm_look (pm_kl 204) 8 = some (.isub, 1) := by decide +kernel
theorem k204_9 : pm_look (pm_kl 204) 9 = some (.i2l, 1) := by decide +kernel
theorem k204_10 : pm_look (pm_kl 204) 10 = some (.invokestatic 137, 3) := by decide +kernel
theorem k204_13 : pm_look (pm_kl 204) 13 = some (.ifCond .ne 7, 3) := by decide +kernel
theorem k204_16 : pm_look (pm_kl 204) 16 = some (.sipush (-1001), 3) := by decide +kernel
theorem k204_19 : pm_look (pm_kl 204) 19 = some (.ireturn, 1) := by decide +kernel
theorem k204_20 : pm_look (pm_kl 204) 20 = some (.aload_n 0, 1) := by decide +kernel
theorem k204_21 : pm_look (pm_kl 204) 21 = some (.iload_n 2, 1) := by decide +kernel
theorem k204_22 : pm_look (pm_kl 204) 22 = some (.invokevirtual 167, 3) := by decide +kernel
theorem k204_25 : pm_look (pm_kl 204) 25 = some (.ifCond .ne 7, 3) := by decide +kernel
theorem k204_28 : pm_look (pm_kl 204) 28 = some (.sipush (-1002), 3) := by decide +kernel
theorem k204_31 : pm_look (pm_kl 204) 31 = some (.ireturn, 1) := by decide +kernel
theorem k204_32 : pm_look (pm_kl 204) 32 = some (.aload_n 0, 1) := by decide +kernel
theorem k204_33 : pm_look (pm_kl 204) 33 = some (.iload_n 2, 1) := by decide +kernel
theorem k204_34 : pm_look (pm_kl 204) 34 = some (.invokevirtual 238, 3) := by decide +kernel
theorem k204_37 : pm_look (pm_kl 204) 37 = some (.iconst 0, 1) := by decide +kernel
theorem k204_38 : pm_look (pm_kl 204) 38 = some (.istore 4, 2) := by decide +kernel
theorem k204_40 : pm_look (pm_kl 204) 40 = some (.iconst 0, 1) := by decide +kernel
theorem k204_41 : pm_look (pm_kl 204) 41 = some (.istore 5, 2) := by decide +kernel
theorem k204_43 : pm_look (pm_kl 204) 43 = some (.iload 5, 2) := by decide +kernel
theorem k204_45 : pm_look (pm_kl 204) 45 = some (.aload_n 0, 1) := by decide +kernel
theorem k204_46 : pm_look (pm_kl 204) 46 = some (.getfield 175, 3) := by decide +kernel
theorem k204_49 : pm_look (pm_kl 204) 49 = some (.if_icmp .ge 32, 3) := by decide +kernel
theorem k204_52 : pm_look (pm_kl 204) 52 = some (.aload_n 0, 1) := by decide +kernel
theorem k204_53 : pm_look (pm_kl 204) 53 = some (.iload_n 1, 1) := by decide +kernel
theorem k204_54 : pm_look (pm_kl 204) 54 = some (.iload 5, 2) := by decide +kernel
theorem k204_56 : pm_look (pm_kl 204) 56 = some (.iload_n 2, 1) := by decide +kernel
theorem k204_57 : pm_look (pm_kl 204) 57 = some (.invokevirtual 380, 3) := by decide +kernel
theorem k204_60 : pm_look (pm_kl 204) 60 = some (.ifCond .eq 15, 3) := by decide +kernel
theorem k204_63 : pm_look (pm_kl 204) 63 = some (.iload 4, 2) := by decide +kernel
theorem k204_65 : pm_look (pm_kl 204) 65 = some (.iload_n 3, 1) := by decide +kernel
theorem k204_66 : pm_look (pm_kl 204) 66 = some (.if_icmp .ne 6, 3) := by decide +kernel
theorem k204_69 : pm_look (pm_kl 204) 69 = some (.iload 5, 2) := by decide +kernel
theorem k204_71 : pm_look (pm_kl 204) 71 = some (.ireturn, 1) := by decide +kernel
theorem k204_72 : pm_look (pm_kl 204) 72 = some (.iinc 4 1, 3) := by decide +kernel
theorem k204_75 : pm_look (pm_kl 204) 75 = some (.iinc 5 1, 3) := by decide +kernel
theorem k204_78 : pm_look (pm_kl 204) 78 = some (.goto (-35), 3) := by decide +kernel
theorem k204_81 : pm_look (pm_kl 204) 81 = some (.iload_n 3, 1) := by decide +kernel
theorem k204_82 : pm_look (pm_kl 204) 82 = some (.iconst (-1), 1) := by decide +kernel
theorem k204_83 : pm_look (pm_kl 204) 83 = some (.if_icmp .ne 8, 3) := by decide +kernel
theorem k204_86 : pm_look (pm_kl 204) 86 = some (.iload 4, 2) := by decide +kernel
theorem k204_88 : pm_look (pm_kl 204) 88 = some (.goto 4, 3) := by decide +kernel
theorem k204_91 : pm_look (pm_kl 204) 91 = some (.iconst (-1), 1) := by decide +kernel
theorem k204_92 : pm_look (pm_kl 204) 92 = some (.ireturn, 1) := by decide +kernel
theorem k205_0 : pm_look (pm_kl 205) 0 = some (.iconst 0, 1) := by decide +kernel
theorem k205_1 : pm_look (pm_kl 205) 1 = some (.istore 5, 2) := by decide +kernel
theorem k205_3 : pm_look (pm_kl 205) 3 = some (.iconst 0, 1) := by decide +kernel
theorem k205_4 : pm_look (pm_kl 205) 4 = some (.istore 6, 2) := by decide +kernel
theorem k205_6 : pm_look (pm_kl 205) 6 = some (.iload 6, 2) := by decide +kernel
theorem k205_8 : pm_look (pm_kl 205) 8 = some (.aload_n 0, 1) := by decide +kernel
theorem k205_9 : pm_look (pm_kl 205) 9 = some (.getfield 178, 3) := by decide +kernel
theorem k205_12 : pm_look (pm_kl 205) 12 = some (.if_icmp .ge 70, 3) := by decide +kernel
theorem k205_15 : pm_look (pm_kl 205) 15 = some (.iload 5, 2) := by decide +kernel
theorem k205_17 : pm_look (pm_kl 205) 17 = some (.ifCond .ne 52, 3) := by decide +kernel
theorem k205_20 : pm_look (pm_kl 205) 20 = some (.aload_n 0, 1) := by decide +kernel
theorem k205_21 : pm_look (pm_kl 205) 21 = some (.getfield 31, 3) := by decide +kernel
theorem k205_24 : pm_look (pm_kl 205) 24 = some (.iload 6, 2) := by decide +kernel
theorem k205_26 : pm_look (pm_kl 205) 26 = some (.iaload, 1) := by decide +kernel
theorem k205_27 : pm_look (pm_kl 205) 27 = some (.iload_n 2, 1) := by decide +kernel
theorem k205_28 : pm_look (pm_kl 205) 28 = some (.if_icmp .ne 45, 3) := by decide +kernel
theorem k205_31 : pm_look (pm_kl 205) 31 = some (.aload_n 0, 1) := by decide +kernel
theorem k205_32 : pm_look (pm_kl 205) 32 = some (.getfield 37, 3) := by decide +kernel
theorem k205_35 : pm_look (pm_kl 205) 35 = some (.iload 6, 2) := by decide +kernel
theorem k205_37 : pm_look (pm_kl 205) 37 = some (.iaload, 1) := by decide +kernel
theorem k205_38 : pm_look (pm_kl 205) 38 = some (.iload_n 1, 1) := by decide +kernel
theorem k205_39 : pm_look (pm_kl 205) 39 = some (.if_icmp .ne 34, 3) := by decide +kernel
theorem k205_42 : pm_look (pm_kl 205) 42 = some (.aload_n 0, 1) := by decide +kernel
theorem k205_43 : pm_look (pm_kl 205) 43 = some (.getfield 80, 3) := by decide +kernel
theorem k205_46 : pm_look (pm_kl 205) 46 = some (.iload 6, 2) := by decide +kernel
theorem k205_48 : pm_look (pm_kl 205) 48 = some (.iaload, 1) := by decide +kernel
theorem k205_49 : pm_look (pm_kl 205) 49 = some (.ifCond .lt 24, 3) := by decide +kernel
theorem k205_52 : pm_look (pm_kl 205) 52 = some (.aload_n 0, 1) := by decide +kernel
theorem k205_53 : pm_look (pm_kl 205) 53 = some (.aload_n 0, 1) := by decide +kernel
theorem k205_54 : pm_look (pm_kl 205) 54 = some (.getfield 80, 3) := by decide +kernel
theorem k205_57 : pm_look (pm_kl 205) 57 = some (.iload 6, 2) := by decide +kernel
theorem k205_59 : pm_look (pm_kl 205) 59 = some (.iaload, 1) := by decide +kernel
theorem k205_60 : pm_look (pm_kl 205) 60 = some (.iload_n 3, 1) := by decide +kernel
theorem k205_61 : pm_look (pm_kl 205) 61 = some (.iload 4, 2) := by decide +kernel
theorem k205_63 : pm_look (pm_kl 205) 63 = some (.invokevirtual 156, 3) := by decide +kernel
theorem k205_66 : pm_look (pm_kl 205) 66 = some (.ifCond .eq 7, 3) := by decide +kernel
theorem k205_69 : pm_look (pm_kl 205) 69 = some (.iconst 1, 1) := by decide +kernel
theorem k205_70 : pm_look (pm_kl 205) 70 = some (.goto 4, 3) := by decide +kernel
theorem k205_73 : pm_look (pm_kl 205) 73 = some (.iconst 0, 1) := by decide +kernel
theorem k205_74 : pm_look (pm_kl 205) 74 = some (.istore 5, 2) := by decide +kernel
theorem k205_76 : pm_look (pm_kl 205) 76 = some (.iinc 6 1, 3) := by decide +kernel
theorem k205_79 : pm_look (pm_kl 205) 79 = some (.goto (-73), 3) := by decide +kernel
theorem k205_82 : pm_look (pm_kl 205) 82 = some (.iload 5, 2) := by decide +kernel
theorem k205_84 : pm_look (pm_kl 205) 84 = some (.ireturn, 1) := by decide +kernel
theorem k206_0 : pm_look (pm_kl 206) 0 = some (.aload_n 0, 1) := by decide +kernel
theorem k206_1 : pm_look (pm_kl 206) 1 = some (.iload_n 3, 1) := by decide +kernel
theorem k206_2 : pm_look (pm_kl 206) 2 = some (.invokevirtual 148, 3) := by decide +kernel
theorem k206_5 : pm_look (pm_kl 206) 5 = some (.ifCond .ne 7, 3) := by decide +kernel
theorem k206_8 : pm_look (pm_kl 206) 8 = some (.sipush (-1001), 3) := by decide +kernel
theorem k206_11 : pm_look (pm_kl 206) 11 = some (.ireturn, 1) := by decide +kernel
theorem k206_12 : pm_look (pm_kl 206) 12 = some (.iload_n 1, 1) := by decide +kernel
theorem k206_13 : pm_look (pm_kl 206) 13 = some (.invokestatic 190, 3) := by decide +kernel
theorem k206_16 : pm_look (pm_kl 206) 16 = some (.ifCond .eq 37, 3) := by decide +kernel
theorem k206_19 : pm_look (pm_kl 206) 19 = some (.iload_n 2, 1) := by decide +kernel
theorem k206_20 : pm_look (pm_kl 206) 20 = some (.invokestatic 190, 3) := by decide +kernel
theorem k206_23 : pm_look (pm_kl 206) 23 = some (.ifCond .eq 30, 3) := by decide +kernel
theorem k206_26 : pm_look (pm_kl 206) 26 = some (.iload_n 1, 1) := by decide +kernel
theorem k206_27 : pm_look (pm_kl 206) 27 = some (.iload_n 2, 1) := by decide +kernel
theorem k206_28 : pm_look (pm_kl 206) 28 = some (.if_icmp .eq 25, 3) := by decide +kernel
theorem k206_31 : pm_look (pm_kl 206) 31 = some (.aload_n 0, 1) := by decide +kernel
theorem k206_32 : pm_look (pm_kl 206) 32 = some (.iload 4, 2) := by decide +kernel
theorem k206_34 : pm_look (pm_kl 206) 34 = some (.invokevirtual 167, 3) := by decide +kernel
theorem k206_37 : pm_look (pm_kl 206) 37 = some (.ifCond .eq 16, 3) := by decide +kernel
theorem k206_40 : pm_look (pm_kl 206) 40 = some (.iload 5, 2) := by decide +kernel
theorem k206_42 : pm_look (pm_kl 206) 42 = some (.i2l, 1) := by decide +kernel
theorem k206_43 : pm_look (pm_kl 206) 43 = some (.lconst 0, 1) := by decide +kernel
theorem k206_44 : pm_look (pm_kl 206) 44 = some (.ldc2_w 383, 3) := by decide +kernel
theorem k206_47 : pm_look (pm_kl 206) 47 = some (.invokestatic 137, 3) := by decide +kernel
theorem k206_50 : pm_look (pm_kl 206) 50 = some (.ifCond .ne 7, 3) := by decide +kernel
theorem k206_53 : pm_look (pm_kl 206) 53 = some (.sipush (-1002), 3) := by decide +kernel
theorem k206_56 : pm_look (pm_kl 206) 56 = some (.ireturn, 1) := by decide +kernel
theorem k206_57 : pm_look (pm_kl 206) 57 = some (.aload_n 0, 1) := by decide +kernel
theorem k206_58 : pm_look (pm_kl 206) 58 = some (.iload 4, 2) := by decide +kernel
theorem k206_60 : pm_look (pm_kl 206) 60 = some (.invokevirtual 238, 3) := by decide +kernel
theorem k206_63 : pm_look (pm_kl 206) 63 = some (.iconst 0, 1) := by decide +kernel
theorem k206_64 : pm_look (pm_kl 206) 64 = some (.istore 6, 2) := by decide +kernel
theorem k206_66 : pm_look (pm_kl 206) 66 = some (.iconst 0, 1) := by decide +kernel
theorem k206_67 : pm_look (pm_kl 206) 67 = some (.istore 7, 2) := by decide +kernel
theorem k206_69 : pm_look (pm_kl 206) 69 = some (.iconst 0, 1) := by decide +kernel
theorem k206_70 : pm_look (pm_kl 206) 70 = some (.istore 8, 2) := by decide +kernel
theorem k206_72 : pm_look (pm_kl 206) 72 = some (.iconst 0, 1) := by decide +kernel
theorem k206_73 : pm_look (pm_kl 206) 73 = some (.istore 9, 2) := by decide +kernel
theorem k206_75 : pm_look (pm_kl 206) 75 = some (.iconst 0, 1) := by decide +kernel
theorem k206_76 : pm_look (pm_kl 206) 76 = some (.istore 10, 2) := by decide +kernel
theorem k206_78 : pm_look (pm_kl 206) 78 = some (.iload 10, 2) := by decide +kernel
theorem k206_80 : pm_look (pm_kl 206) 80 = some (.aload_n 0, 1) := by decide +kernel
theorem k206_81 : pm_look (pm_kl 206) 81 = some (.getfield 175, 3) := by decide +kernel
theorem k206_84 : pm_look (pm_kl 206) 84 = some (.if_icmp .ge 110, 3) := by decide +kernel
theorem k206_87 : pm_look (pm_kl 206) 87 = some (.aload_n 0, 1) := by decide +kernel
theorem k206_88 : pm_look (pm_kl 206) 88 = some (.iload 10, 2) := by decide +kernel
theorem k206_90 : pm_look (pm_kl 206) 90 = some (.iload_n 1, 1) := by decide +kernel
theorem k206_91 : pm_look (pm_kl 206) 91 = some (.iload 4, 2) := by decide +kernel
theorem k206_93 : pm_look (pm_kl 206) 93 = some (.invokevirtual 377, 3) := by decide +kernel
theorem k206_96 : pm_look (pm_kl 206) 96 = some (.ifCond .eq 92, 3) := by decide +kernel
theorem k206_99 : pm_look (pm_kl 206) 99 = some (.aload_n 0, 1) := by decide +kernel
theorem k206_100 : pm_look (pm_kl 206) 100 = some (.iload 10, 2) := by decide +kernel
theorem k206_102 : pm_look (pm_kl 206) 102 = some (.iload_n 2, 1) := by decide +kernel
theorem k206_103 : pm_look (pm_kl 206) 103 = some (.iload 4, 2) := by decide +kernel
theorem k206_105 : pm_look (pm_kl 206) 105 = some (.invokevirtual 377, 3) := by decide +kernel
theorem k206_108 : pm_look (pm_kl 206) 108 = some (.ifCond .eq 80, 3) := by decide +kernel
theorem k206_111 : pm_look (pm_kl 206) 111 = some (.aload_n 0, 1) := by decide +kernel
theorem k206_112 : pm_look (pm_kl 206) 112 = some (.iload_n 1, 1) := by decide +kernel
theorem k206_113 : pm_look (pm_kl 206) 113 = some (.iload 10, 2) := by decide +kernel
theorem k206_115 : pm_look (pm_kl 206) 115 = some (.iload_n 3, 1) := by decide +kernel
theorem k206_116 : pm_look (pm_kl 206) 116 = some (.iload 4, 2) := by decide +kernel
theorem k206_118 : pm_look (pm_kl 206) 118 = some (.invokevirtual 385, 3) := by decide +kernel
theorem k206_121 : pm_look (pm_kl 206) 121 = some (.istore 11, 2) := by decide +kernel
theorem k206_123 : pm_look (pm_kl 206) 123 = some (.aload_n 0, 1) := by decide +kernel
theorem k206_124 : pm_look (pm_kl 206) 124 = some (.iload_n 2, 1) := by decide +kernel
theorem k206_125 : pm_look (pm_kl 206) 125 = some (.iload 10, 2) := by decide +kernel
theorem k206_127 : pm_look (pm_kl 206) 127 = some (.iload_n 3, 1) := by decide +kernel
theorem k206_128 : pm_look (pm_kl 206) 128 = some (.iload 4, 2) := by decide +kernel
theorem k206_130 : pm_look (pm_kl 206) 130 = some (.invokevirtual 385, 3) := by decide +kernel
theorem k206_133 : pm_look (pm_kl 206) 133 = some (.istore 12, 2) := by decide +kernel
theorem k206_135 : pm_look (pm_kl 206) 135 = some (.iinc 6 1, 3) := by decide +kernel
theorem k206_138 : pm_look (pm_kl 206) 138 = some (.iload 7, 2) := by decide +kernel
theorem k206_140 : pm_look (pm_kl 206) 140 = some (.iload 11, 2) := by decide +kernel
theorem k206_142 : pm_look (pm_kl 206) 142 = some (.ifCond .eq 7, 3) := by decide +kernel
theorem k206_145 : pm_look (pm_kl 206) 145 = some (.iconst 1, 1) := by decide +kernel
theorem k206_146 : pm_look (pm_kl 206) 146 = some (.goto 4, 3) := by decide +kernel
theorem k206_149 : pm_look (pm_kl 206) 149 = some (.iconst 0, 1) := by decide +kernel
theorem k206_150 : pm_look (pm_kl 206) 150 = some (.iadd, 1) := by decide +kernel
theorem k206_151 : pm_look (pm_kl 206) 151 = some (.istore 7, 2) := by decide +kernel
theorem k206_153 : pm_look (pm_kl 206) 153 = some (.iload 8, 2) := by decide +kernel
theorem k206_155 : pm_look (pm_kl 206) 155 = some (.iload 12, 2) := by decide +kernel
theorem k206_157 : pm_look (pm_kl 206) 157 = some (.ifCond .eq 7, 3) := by decide +kernel
theorem k206_160 : pm_look (pm_kl 206) 160 = some (.iconst 1, 1) := by decide +kernel
theorem k206_161 : pm_look (pm_kl 206) 161 = some (.goto 4, 3) := by decide +kernel
theorem k206_164 : pm_look (pm_kl 206) 164 = some (.iconst 0, 1) := by decide +kernel
theorem k206_165 : pm_look (pm_kl 206) 165 = some (.iadd, 1) := by decide +kernel
theorem k206_166 : pm_look (pm_kl 206) 166 = some (.istore 8, 2) := by decide +kernel
theorem k206_168 : pm_look (pm_kl 206) 168 = some (.iload 9, 2) := by decide +kernel
theorem k206_170 : pm_look (pm_kl 206) 170 = some (.iload 11, 2) := by decide +kernel
theorem k206_172 : pm_look (pm_kl 206) 172 = some (.ifCond .eq 12, 3) := by decide +kernel
theorem k206_175 : pm_look (pm_kl 206) 175 = some (.iload 12, 2) := by decide +kernel
theorem k206_177 : pm_look (pm_kl 206) 177 = some (.ifCond .eq 7, 3) := by decide +kernel
theorem k206_180 : pm_look (pm_kl 206) 180 = some (.iconst 1, 1) := by decide +kernel
theorem k206_181 : pm_look (pm_kl 206) 181 = some (.goto 4, 3) := by decide +kernel
theorem k206_184 : pm_look (pm_kl 206) 184 = some (.iconst 0, 1) := by decide +kernel
theorem k206_185 : pm_look (pm_kl 206) 185 = some (.iadd, 1) := by decide +kernel
theorem k206_186 : pm_look (pm_kl 206) 186 = some (.istore 9, 2) := by decide +kernel
theorem k206_188 : pm_look (pm_kl 206) 188 = some (.iinc 10 1, 3) := by decide +kernel
theorem k206_191 : pm_look (pm_kl 206) 191 = some (.goto (-113), 3) := by decide +kernel
theorem k206_194 : pm_look (pm_kl 206) 194 = some (.iload 9, 2) := by decide +kernel
theorem k206_196 : pm_look (pm_kl 206) 196 = some (.ifCond .ne 7, 3) := by decide +kernel
theorem k206_199 : pm_look (pm_kl 206) 199 = some (.iconst (-1), 1) := by decide +kernel
theorem k206_200 : pm_look (pm_kl 206) 200 = some (.goto 17, 3) := by decide +kernel
theorem k206_203 : pm_look (pm_kl 206) 203 = some (.iload 7, 2) := by decide +kernel
theorem k206_205 : pm_look (pm_kl 206) 205 = some (.iload 9, 2) := by decide +kernel
theorem k206_207 : pm_look (pm_kl 206) 207 = some (.isub, 1) := by decide +kernel
theorem k206_208 : pm_look (pm_kl 206) 208 = some (.iload 8, 2) := by decide +kernel
theorem k206_210 : pm_look (pm_kl 206) 210 = some (.iload 9, 2) := by decide +kernel
theorem k206_212 : pm_look (pm_kl 206) 212 = some (.isub, 1) := by decide +kernel
theorem k206_213 : pm_look (pm_kl 206) 213 = some (.imul, 1) := by decide +kernel
theorem k206_214 : pm_look (pm_kl 206) 214 = some (.iload 9, 2) := by decide +kernel
theorem k206_216 : pm_look (pm_kl 206) 216 = some (.idiv, 1) := by decide +kernel
theorem k206_217 : pm_look (pm_kl 206) 217 = some (.istore 10, 2) := by decide +kernel
theorem k206_219 : pm_look (pm_kl 206) 219 = some (.iload 5, 2) := by decide +kernel
theorem k206_221 : pm_look (pm_kl 206) 221 = some (.ifCond .ne 8, 3) := by decide +kernel
theorem k206_224 : pm_look (pm_kl 206) 224 = some (.iload 6, 2) := by decide +kernel
theorem k206_226 : pm_look (pm_kl 206) 226 = some (.goto 38, 3) := by decide +kernel
theorem k206_229 : pm_look (pm_kl 206) 229 = some (.iload 5, 2) := by decide +kernel
theorem k206_231 : pm_look (pm_kl 206) 231 = some (.iconst 1, 1) := by decide +kernel
theorem k206_232 : pm_look (pm_kl 206) 232 = some (.if_icmp .ne 8, 3) := by decide +kernel
theorem k206_235 : pm_look (pm_kl 206) 235 = some (.iload 7, 2) := by decide +kernel
theorem k206_237 : pm_look (pm_kl 206) 237 = some (.goto 27, 3) := by decide +kernel
theorem k206_240 : pm_look (pm_kl 206) 240 = some (.iload 5, 2) := by decide +kernel
theorem k206_242 : pm_look (pm_kl 206) 242 = some (.iconst 2, 1) := by decide +kernel
theorem k206_243 : pm_look (pm_kl 206) 243 = some (.if_icmp .ne 8, 3) := by decide +kernel
theorem k206_246 : pm_look (pm_kl 206) 246 = some (.iload 8, 2) := by decide +kernel
theorem k206_248 : pm_look (pm_kl 206) 248 = some (.goto 16, 3) := by decide +kernel
theorem k206_251 : pm_look (pm_kl 206) 251 = some (.iload 5, 2) := by decide +kernel
theorem k206_253 : pm_look (pm_kl 206) 253 = some (.iconst 3, 1) := by decide +kernel
theorem k206_254 : pm_look (pm_kl 206) 254 = some (.if_icmp .ne 8, 3) := by decide +kernel
theorem k206_257 : pm_look (pm_kl 206) 257 = some (.iload 9, 2) := by decide +kernel
theorem k206_259 : pm_look (pm_kl 206) 259 = some (.goto 5, 3) := by decide +kernel
theorem k206_262 : pm_look (pm_kl 206) 262 = some (.iload 10, 2) := by decide +kernel
theorem k206_264 : pm_look (pm_kl 206) 264 = some (.ireturn, 1) := by decide +kernel
theorem k207_0 : pm_look (pm_kl 207) 0 = some (.aload_n 0, 1) := by decide +kernel
theorem k207_1 : pm_look (pm_kl 207) 1 = some (.iconst 0, 1) := by decide +kernel
theorem k207_2 : pm_look (pm_kl 207) 2 = some (.putfield 389, 3) := by decide +kernel
theorem k207_5 : pm_look (pm_kl 207) 5 = some (.aload_n 0, 1) := by decide +kernel
theorem k207_6 : pm_look (pm_kl 207) 6 = some (.iconst 0, 1) := by decide +kernel
theorem k207_7 : pm_look (pm_kl 207) 7 = some (.putfield 392, 3) := by decide +kernel
theorem k207_10 : pm_look (pm_kl 207) 10 = some (.aload_n 0, 1) := by decide +kernel
theorem k207_11 : pm_look (pm_kl 207) 11 = some (.iconst 0, 1) := by decide +kernel
theorem k207_12 : pm_look (pm_kl 207) 12 = some (.putfield 395, 3) := by decide +kernel
theorem k207_15 : pm_look (pm_kl 207) 15 = some (.aload_n 0, 1) := by decide +kernel
theorem k207_16 : pm_look (pm_kl 207) 16 = some (.iconst 0, 1) := by decide +kernel
theorem k207_17 : pm_look (pm_kl 207) 17 = some (.putfield 398, 3) := by decide +kernel
theorem k207_20 : pm_look (pm_kl 207) 20 = some (.iconst 0, 1) := by decide +kernel
theorem k207_21 : pm_look (pm_kl 207) 21 = some (.istore 5, 2) := by decide +kernel
theorem k207_23 : pm_look (pm_kl 207) 23 = some (.iload 5, 2) := by decide +kernel
theorem k207_25 : pm_look (pm_kl 207) 25 = some (.aload_n 0, 1) := by decide +kernel
theorem k207_26 : pm_look (pm_kl 207) 26 = some (.getfield 175, 3) := by decide +kernel
theorem k207_29 : pm_look (pm_kl 207) 29 = some (.if_icmp .ge 120, 3) := by decide +kernel
theorem k207_32 : pm_look (pm_kl 207) 32 = some (.aload_n 0, 1) := by decide +kernel
theorem k207_33 : pm_look (pm_kl 207) 33 = some (.getfield 22, 3) := by decide +kernel
theorem k207_36 : pm_look (pm_kl 207) 36 = some (.iload 5, 2) := by decide +kernel
theorem k207_38 : pm_look (pm_kl 207) 38 = some (.iaload, 1) := by decide +kernel
theorem k207_39 : pm_look (pm_kl 207) 39 = some (.i2l, 1) := by decide +kernel
theorem k207_40 : pm_look (pm_kl 207) 40 = some (.iload_n 3, 1) := by decide +kernel
theorem k207_41 : pm_look (pm_kl 207) 41 = some (.i2l, 1) := by decide +kernel
theorem k207_42 : pm_look (pm_kl 207) 42 = some (.iload 4, 2) := by decide +kernel
theorem k207_44 : pm_look (pm_kl 207) 44 = some (.i2l, 1) := by decide +kernel
theorem k207_45 : pm_look (pm_kl 207) 45 = some (.invokestatic 137, 3) := by decide +kernel
theorem k207_48 : pm_look (pm_kl 207) 48 = some (.ifCond .eq 95, 3) := by decide +kernel
theorem k207_51 : pm_look (pm_kl 207) 51 = some (.aload_n 0, 1) := by decide +kernel
theorem k207_52 : pm_look (pm_kl 207) 52 = some (.dup, 1) := by decide +kernel
theorem k207_53 : pm_look (pm_kl 207) 53 = some (.getfield 398, 3) := by decide +kernel
theorem k207_56 : pm_look (pm_kl 207) 56 = some (.iconst 1, 1) := by decide +kernel
theorem k207_57 : pm_look (pm_kl 207) 57 = some (.iadd, 1) := by decide +kernel
theorem k207_58 : pm_look (pm_kl 207) 58 = some (.putfield 398, 3) := by decide +kernel
theorem k207_61 : pm_look (pm_kl 207) 61 = some (.aload_n 0, 1) := by decide +kernel
theorem k207_62 : pm_look (pm_kl 207) 62 = some (.dup, 1) := by decide +kernel
theorem k207_63 : pm_look (pm_kl 207) 63 = some (.getfield 389, 3) := by decide +kernel
theorem k207_66 : pm_look (pm_kl 207) 66 = some (.aload_n 0, 1) := by decide +kernel
theorem k207_67 : pm_look (pm_kl 207) 67 = some (.iload 5, 2) := by decide +kernel
theorem k207_69 : pm_look (pm_kl 207) 69 = some (.iload_n 1, 1) := by decide +kernel
theorem k207_70 : pm_look (pm_kl 207) 70 = some (.invokevirtual 241, 3) := by decide +kernel
theorem k207_73 : pm_look (pm_kl 207) 73 = some (.ifCond .eq 7, 3) := by decide +kernel
theorem k207_76 : pm_look (pm_kl 207) 76 = some (.iconst 1, 1) := by decide +kernel
theorem k207_77 : pm_look (pm_kl 207) 77 = some (.goto 4, 3) := by decide +kernel
theorem k207_80 : pm_look (pm_kl 207) 80 = some (.iconst 0, 1) := by decide +kernel
theorem k207_81 : pm_look (pm_kl 207) 81 = some (.iadd, 1) := by decide +kernel
theorem k207_82 : pm_look (pm_kl 207) 82 = some (.putfield 389, 3) := by decide +kernel
theorem k207_85 : pm_look (pm_kl 207) 85 = some (.aload_n 0, 1) := by decide +kernel
theorem k207_86 : pm_look (pm_kl 207) 86 = some (.dup, 1) := by decide +kernel
theorem k207_87 : pm_look (pm_kl 207) 87 = some (.getfield 392, 3) := by decide +kernel
theorem k207_90 : pm_look (pm_kl 207) 90 = some (.aload_n 0, 1) := by decide +kernel
theorem k207_91 : pm_look (pm_kl 207) 91 = some (.iload 5, 2) := by decide +kernel
theorem k207_93 : pm_look (pm_kl 207) 93 = some (.iload_n 2, 1) := by decide +kernel
theorem k207_94 : pm_look (pm_kl 207) 94 = some (.invokevirtual 241, 3) := by decide +kernel
theorem k207_97 : pm_look (pm_kl 207) 97 = some (.ifCond .eq 7, 3) := by decide +kernel
theorem k207_100 : pm_look (pm_kl 207) 100 = some (.iconst 1, 1) := by decide +kernel
theorem k207_101 : pm_look (pm_kl 207) 101 = some (.goto 4, 3) := by decide +kernel
theorem k207_104 : pm_look (pm_kl 207) 104 = some (.iconst 0, 1) := by decide +kernel
theorem k207_105 : pm_look (pm_kl 207) 105 = some (.iadd, 1) := by decide +kernel
theorem k207_106 : pm_look (pm_kl 207) 106 = some (.putfield 392, 3) := by decide +kernel
theorem k207_109 : pm_look (pm_kl 207) 109 = some (.aload_n 0, 1) := by decide +kernel
theorem k207_110 : pm_look (pm_kl 207) 110 = some (.dup, 1) := by decide +kernel
theorem k207_111 : pm_look (pm_kl 207) 111 = some (.getfield 395, 3) := by decide +kernel
theorem k207_114 : pm_look (pm_kl 207) 114 = some (.aload_n 0, 1) := by decide +kernel
theorem k207_115 : pm_look (pm_kl 207) 115 = some (.iload 5, 2) := by decide +kernel
theorem k207_117 : pm_look (pm_kl 207) 117 = some (.iload_n 1, 1) := by decide +kernel
theorem k207_118 : pm_look (pm_kl 207) 118 = some (.invokevirtual 241, 3) := by decide +kernel
theorem k207_121 : pm_look (pm_kl 207) 121 = some (.ifCond .eq 17, 3) := by decide +kernel
theorem k207_124 : pm_look (pm_kl 207) 124 = some (.aload_n 0, 1) := by decide +kernel
theorem k207_125 : pm_look (pm_kl 207) 125 = some (.iload 5, 2) := by decide +kernel
theorem k207_127 : pm_look (pm_kl 207) 127 = some (.iload_n 2, 1) := by decide +kernel
theorem k207_128 : pm_look (pm_kl 207) 128 = some (.invokevirtual 241, 3) := by decide +kernel
theorem k207_131 : pm_look (pm_kl 207) 131 = some (.ifCond .eq 7, 3) := by decide +kernel
theorem k207_134 : pm_look (pm_kl 207) 134 = some (.iconst 1, 1) := by decide +kernel
theorem k207_135 : pm_look (pm_kl 207) 135 = some (.goto 4, 3) := by decide +kernel
theorem k207_138 : pm_look (pm_kl 207) 138 = some (.iconst 0, 1) := by decide +kernel
theorem k207_139 : pm_look (pm_kl 207) 139 = some (.iadd, 1) := by decide +kernel
theorem k207_140 : pm_look (pm_kl 207) 140 = some (.putfield 395, 3) := by decide +kernel
theorem k207_143 : pm_look (pm_kl 207) 143 = some (.iinc 5 1, 3) := by decide +kernel
theorem k207_146 : pm_look (pm_kl 207) 146 = some (.goto (-123), 3) := by decide +kernel
theorem k207_149 : pm_look (pm_kl 207) 149 = some (.aload_n 0, 1) := by decide +kernel
theorem k207_150 : pm_look (pm_kl 207) 150 = some (.getfield 395, 3) := by decide +kernel
theorem k207_153 : pm_look (pm_kl 207) 153 = some (.aload_n 0, 1) := by decide +kernel
theorem k207_154 : pm_look (pm_kl 207) 154 = some (.getfield 398, 3) := by decide +kernel
theorem k207_157 : pm_look (pm_kl 207) 157 = some (.imul, 1) := by decide +kernel
theorem k207_158 : pm_look (pm_kl 207) 158 = some (.aload_n 0, 1) := by decide +kernel
theorem k207_159 : pm_look (pm_kl 207) 159 = some (.getfield 389, 3) := by decide +kernel
theorem k207_162 : pm_look (pm_kl 207) 162 = some (.aload_n 0, 1) := by decide +kernel
theorem k207_163 : pm_look (pm_kl 207) 163 = some (.getfield 392, 3) := by decide +kernel
theorem k207_166 : pm_look (pm_kl 207) 166 = some (.imul, 1) := by decide +kernel
theorem k207_167 : pm_look (pm_kl 207) 167 = some (.if_icmp .le 7, 3) := by decide +kernel
theorem k207_170 : pm_look (pm_kl 207) 170 = some (.iconst 1, 1) := by decide +kernel
theorem k207_171 : pm_look (pm_kl 207) 171 = some (.goto 4, 3) := by decide +kernel
theorem k207_174 : pm_look (pm_kl 207) 174 = some (.iconst 0, 1) := by decide +kernel
theorem k207_175 : pm_look (pm_kl 207) 175 = some (.ireturn, 1) := by decide +kernel
theorem k208_0 : pm_look (pm_kl 208) 0 = some (.aload_n 0, 1) := by decide +kernel
theorem k208_1 : pm_look (pm_kl 208) 1 = some (.iload_n 1, 1) := by decide +kernel
theorem k208_2 : pm_look (pm_kl 208) 2 = some (.invokevirtual 148, 3) := by decide +kernel
theorem k208_5 : pm_look (pm_kl 208) 5 = some (.ifCond .eq 11, 3) := by decide +kernel
theorem k208_8 : pm_look (pm_kl 208) 8 = some (.aload_n 0, 1) := by decide +kernel
theorem k208_9 : pm_look (pm_kl 208) 9 = some (.iload_n 2, 1) := by decide +kernel
theorem k208_10 : pm_look (pm_kl 208) 10 = some (.invokevirtual 148, 3) := by decide +kernel
theorem k208_13 : pm_look (pm_kl 208) 13 = some (.ifCond .ne 7, 3) := by decide +kernel
theorem k208_16 : pm_look (pm_kl 208) 16 = some (.sipush (-1001), 3) := by decide +kernel
theorem k208_19 : pm_look (pm_kl 208) 19 = some (.ireturn, 1) := by decide +kernel
theorem k208_20 : pm_look (pm_kl 208) 20 = some (.aload_n 0, 1) := by decide +kernel
theorem k208_21 : pm_look (pm_kl 208) 21 = some (.iload_n 3, 1) := by decide +kernel
theorem k208_22 : pm_look (pm_kl 208) 22 = some (.invokevirtual 167, 3) := by decide +kernel
theorem k208_25 : pm_look (pm_kl 208) 25 = some (.ifCond .eq 42, 3) := by decide +kernel
theorem k208_28 : pm_look (pm_kl 208) 28 = some (.iload 5, 2) := by decide +kernel
theorem k208_30 : pm_look (pm_kl 208) 30 = some (.i2l, 1) := by decide +kernel
theorem k208_31 : pm_look (pm_kl 208) 31 = some (.lconst 0, 1) := by decide +kernel
theorem k208_32 : pm_look (pm_kl 208) 32 = some (.ldc2_w 186, 3) := by decide +kernel
theorem k208_35 : pm_look (pm_kl 208) 35 = some (.invokestatic 137, 3) := by decide +kernel
theorem k208_38 : pm_look (pm_kl 208) 38 = some (.ifCond .eq 29, 3) := by decide +kernel
theorem k208_41 : pm_look (pm_kl 208) 41 = some (.iload 4, 2) := by decide +kernel
theorem k208_43 : pm_look (pm_kl 208) 43 = some (.i2l, 1) := by decide +kernel
theorem k208_44 : pm_look (pm_kl 208) 44 = some (.lconst 0, 1) := by decide +kernel
theorem k208_45 : pm_look (pm_kl 208) 45 = some (.iload 5, 2) := by decide +kernel
theorem k208_47 : pm_look (pm_kl 208) 47 = some (.i2l, 1) := by decide +kernel
theorem k208_48 : pm_look (pm_kl 208) 48 = some (.invokestatic 137, 3) := by decide +kernel
theorem k208_51 : pm_look (pm_kl 208) 51 = some (.ifCond .eq 16, 3) := by decide +kernel
theorem k208_54 : pm_look (pm_kl 208) 54 = some (.iload 6, 2) := by decide +kernel
theorem k208_56 : pm_look (pm_kl 208) 56 = some (.i2l, 1) := by decide +kernel
theorem k208_57 : pm_look (pm_kl 208) 57 = some (.lconst 0, 1) := by decide +kernel
theorem k208_58 : pm_look (pm_kl 208) 58 = some (.ldc2_w 383, 3) := by decide +kernel
theorem k208_61 : pm_look (pm_kl 208) 61 = some (.invokestatic 137, 3) := by decide +kernel
theorem k208_64 : pm_look (pm_kl 208) 64 = some (.ifCond .ne 7, 3) := by decide +kernel
theorem k208_67 : pm_look (pm_kl 208) 67 = some (.sipush (-1002), 3) := by decide +kernel
theorem k208_70 : pm_look (pm_kl 208) 70 = some (.ireturn, 1) := by decide +kernel
theorem k208_71 : pm_look (pm_kl 208) 71 = some (.aload_n 0, 1) := by decide +kernel
theorem k208_72 : pm_look (pm_kl 208) 72 = some (.iload_n 3, 1) := by decide +kernel
theorem k208_73 : pm_look (pm_kl 208) 73 = some (.invokevirtual 238, 3) := by decide +kernel
theorem k208_76 : pm_look (pm_kl 208) 76 = some (.aload_n 0, 1) := by decide +kernel
theorem k208_77 : pm_look (pm_kl 208) 77 = some (.iload_n 1, 1) := by decide +kernel
theorem k208_78 : pm_look (pm_kl 208) 78 = some (.iload_n 2, 1) := by decide +kernel
theorem k208_79 : pm_look (pm_kl 208) 79 = some (.iload 4, 2) := by decide +kernel
theorem k208_81 : pm_look (pm_kl 208) 81 = some (.iload 5, 2) := by decide +kernel
theorem k208_83 : pm_look (pm_kl 208) 83 = some (.invokevirtual 401, 3) := by decide +kernel
theorem k208_86 : pm_look (pm_kl 208) 86 = some (.istore 7, 2) := by decide +kernel
theorem k208_88 : pm_look (pm_kl 208) 88 = some (.iload 6, 2) := by decide +kernel
theorem k208_90 : pm_look (pm_kl 208) 90 = some (.ifCond .ne 10, 3) := by decide +kernel
theorem k208_93 : pm_look (pm_kl 208) 93 = some (.aload_n 0, 1) := by decide +kernel
theorem k208_94 : pm_look (pm_kl 208) 94 = some (.getfield 389, 3) := by decide +kernel
theorem k208_97 : pm_look (pm_kl 208) 97 = some (.goto 52, 3) := by decide +kernel
theorem k208_100 : pm_look (pm_kl 208) 100 = some (.iload 6, 2) := by decide +kernel
theorem k208_102 : pm_look (pm_kl 208) 102 = some (.iconst 1, 1) := by decide +kernel
theorem k208_103 : pm_look (pm_kl 208) 103 = some (.if_icmp .ne 10, 3) := by decide +kernel
theorem k208_106 : pm_look (pm_kl 208) 106 = some (.aload_n 0, 1) := by decide +kernel
theorem k208_107 : pm_look (pm_kl 208) 107 = some (.getfield 392, 3) := by decide +kernel
theorem k208_110 : pm_look (pm_kl 208) 110 = some (.goto 39, 3) := by decide +kernel
theorem k208_113 : pm_look (pm_kl 208) 113 = some (.iload 6, 2) := by decide +kernel
theorem k208_115 : pm_look (pm_kl 208) 115 = some (.iconst 2, 1) := by decide +kernel
theorem k208_116 : pm_look (pm_kl 208) 116 = some (.if_icmp .ne 10, 3) := by decide +kernel
theorem k208_119 : pm_look (pm_kl 208) 119 = some (.aload_n 0, 1) := by decide +kernel
theorem k208_120 : pm_look (pm_kl 208) 120 = some (.getfield 395, 3) := by decide +kernel
theorem k208_123 : pm_look (pm_kl 208) 123 = some (.goto 26, 3) := by decide +kernel
theorem k208_126 : pm_look (pm_kl 208) 126 = some (.iload 6, 2) := by decide +kernel
theorem k208_128 : pm_look (pm_kl 208) 128 = some (.iconst 3, 1) := by decide +kernel
theorem k208_129 : pm_look (pm_kl 208) 129 = some (.if_icmp .ne 10, 3) := by decide +kernel
theorem k208_132 : pm_look (pm_kl 208) 132 = some (.aload_n 0, 1) := by decide +kernel
theorem k208_133 : pm_look (pm_kl 208) 133 = some (.getfield 398, 3) := by decide +kernel
theorem k208_136 : pm_look (pm_kl 208) 136 = some (.goto 13, 3) := by decide +kernel
theorem k208_139 : pm_look (pm_kl 208) 139 = some (.iload 7, 2) := by decide +kernel
theorem k208_141 : pm_look (pm_kl 208) 141 = some (.ifCond .eq 7, 3) := by decide +kernel
theorem k208_144 : pm_look (pm_kl 208) 144 = some (.iconst 1, 1) := by decide +kernel
theorem k208_145 : pm_look (pm_kl 208) 145 = some (.goto 4, 3) := by decide +kernel
theorem k208_148 : pm_look (pm_kl 208) 148 = some (.iconst 0, 1) := by decide +kernel
theorem k208_149 : pm_look (pm_kl 208) 149 = some (.ireturn, 1) := by decide +kernel
theorem k209_0 : pm_look (pm_kl 209) 0 = some (.aload_n 0, 1) := by decide +kernel
theorem k209_1 : pm_look (pm_kl 209) 1 = some (.iload_n 2, 1) := by decide +kernel
theorem k209_2 : pm_look (pm_kl 209) 2 = some (.iload_n 3, 1) := by decide +kernel
theorem k209_3 : pm_look (pm_kl 209) 3 = some (.invokevirtual 160, 3) := by decide +kernel
theorem k209_6 : pm_look (pm_kl 209) 6 = some (.ifCond .eq 27, 3) := by decide +kernel
theorem k209_9 : pm_look (pm_kl 209) 9 = some (.aload_n 0, 1) := by decide +kernel
theorem k209_10 : pm_look (pm_kl 209) 10 = some (.iload_n 2, 1) := by decide +kernel
theorem k209_11 : pm_look (pm_kl 209) 11 = some (.iload_n 1, 1) := by decide +kernel
theorem k209_12 : pm_look (pm_kl 209) 12 = some (.iload_n 3, 1) := by decide +kernel
theorem k209_13 : pm_look (pm_kl 209) 13 = some (.invokevirtual 156, 3) := by decide +kernel
theorem k209_16 : pm_look (pm_kl 209) 16 = some (.ifCond .ne 17, 3) := by decide +kernel
theorem k209_19 : pm_look (pm_kl 209) 19 = some (.aload_n 0, 1) := by decide +kernel
theorem k209_20 : pm_look (pm_kl 209) 20 = some (.iload_n 1, 1) := by decide +kernel
theorem k209_21 : pm_look (pm_kl 209) 21 = some (.iload_n 2, 1) := by decide +kernel
theorem k209_22 : pm_look (pm_kl 209) 22 = some (.iload_n 3, 1) := by decide +kernel
theorem k209_23 : pm_look (pm_kl 209) 23 = some (.invokevirtual 156, 3) := by decide +kernel
theorem k209_26 : pm_look (pm_kl 209) 26 = some (.ifCond .ne 7, 3) := by decide +kernel
theorem k209_29 : pm_look (pm_kl 209) 29 = some (.iconst 1, 1) := by decide +kernel
theorem k209_30 : pm_look (pm_kl 209) 30 = some (.goto 4, 3) := by decide +kernel
theorem k209_33 : pm_look (pm_kl 209) 33 = some (.iconst 0, 1) := by decide +kernel
theorem k209_34 : pm_look (pm_kl 209) 34 = some (.ireturn, 1) := by decide +kernel
theorem k210_0 : pm_look (pm_kl 210) 0 = some (.aload_n 0, 1) := by decide +kernel
theorem k210_1 : pm_look (pm_kl 210) 1 = some (.iload_n 1, 1) := by decide +kernel
theorem k210_2 : pm_look (pm_kl 210) 2 = some (.iload_n 2, 1) := by decide +kernel
theorem k210_3 : pm_look (pm_kl 210) 3 = some (.iload_n 3, 1) := by decide +kernel
theorem k210_4 : pm_look (pm_kl 210) 4 = some (.invokevirtual 404, 3) := by decide +kernel
theorem k210_7 : pm_look (pm_kl 210) 7 = some (.ifCond .eq 20, 3) := by decide +kernel
theorem k210_10 : pm_look (pm_kl 210) 10 = some (.aload_n 0, 1) := by decide +kernel
theorem k210_11 : pm_look (pm_kl 210) 11 = some (.iload_n 1, 1) := by decide +kernel
theorem k210_12 : pm_look (pm_kl 210) 12 = some (.iload_n 2, 1) := by decide +kernel
theorem k210_13 : pm_look (pm_kl 210) 13 = some (.iconst 0, 1) := by decide +kernel
theorem k210_14 : pm_look (pm_kl 210) 14 = some (.sipush 999, 3) := by decide +kernel
theorem k210_17 : pm_look (pm_kl 210) 17 = some (.invokevirtual 401, 3) := by decide +kernel
theorem k210_20 : pm_look (pm_kl 210) 20 = some (.ifCond .eq 7, 3) := by decide +kernel
theorem k210_23 : pm_look (pm_kl 210) 23 = some (.iconst 1, 1) := by decide +kernel
theorem k210_24 : pm_look (pm_kl 210) 24 = some (.goto 4, 3) := by decide +kernel
theorem k210_27 : pm_look (pm_kl 210) 27 = some (.iconst 0, 1) := by decide +kernel
theorem k210_28 : pm_look (pm_kl 210) 28 = some (.ireturn, 1) := by decide +kernel
theorem k211_0 : pm_look (pm_kl 211) 0 = some (.aload_n 0, 1) := by decide +kernel
theorem k211_1 : pm_look (pm_kl 211) 1 = some (.iload_n 1, 1) := by decide +kernel
theorem k211_2 : pm_look (pm_kl 211) 2 = some (.invokevirtual 148, 3) := by decide +kernel
theorem k211_5 : pm_look (pm_kl 211) 5 = some (.ifCond .ne 7, 3) := by decide +kernel
theorem k211_8 : pm_look (pm_kl 211) 8 = some (.sipush (-1001), 3) := by decide +kernel
theorem k211_11 : pm_look (pm_kl 211) 11 = some (.ireturn, 1) := by decide +kernel
theorem k211_12 : pm_look (pm_kl 211) 12 = some (.aload_n 0, 1) := by decide +kernel
theorem k211_13 : pm_look (pm_kl 211) 13 = some (.iload_n 2, 1) := by decide +kernel
theorem k211_14 : pm_look (pm_kl 211) 14 = some (.invokevirtual 167, 3) := by decide +kernel
theorem k211_17 : pm_look (pm_kl 211) 17 = some (.ifCond .ne 7, 3) := by decide +kernel
theorem k211_20 : pm_look (pm_kl 211) 20 = some (.sipush (-1002), 3) := by decide +kernel
theorem k211_23 : pm_look (pm_kl 211) 23 = some (.ireturn, 1) := by decide +kernel
theorem k211_24 : pm_look (pm_kl 211) 24 = some (.aload_n 0, 1) := by decide +kernel
theorem k211_25 : pm_look (pm_kl 211) 25 = some (.iload_n 2, 1) := by decide +kernel
theorem k211_26 : pm_look (pm_kl 211) 26 = some (.invokevirtual 238, 3) := by decide +kernel
theorem k211_29 : pm_look (pm_kl 211) 29 = some (.iconst 0, 1) := by decide +kernel
theorem k211_30 : pm_look (pm_kl 211) 30 = some (.istore 4, 2) := by decide +kernel
theorem k211_32 : pm_look (pm_kl 211) 32 = some (.iconst 0, 1) := by decide +kernel
theorem k211_33 : pm_look (pm_kl 211) 33 = some (.istore 5, 2) := by decide +kernel
theorem k211_35 : pm_look (pm_kl 211) 35 = some (.iload 5, 2) := by decide +kernel
theorem k211_37 : pm_look (pm_kl 211) 37 = some (.aload_n 0, 1) := by decide +kernel
theorem k211_38 : pm_look (pm_kl 211) 38 = some (.getfield 134, 3) := by decide +kernel
theorem k211_41 : pm_look (pm_kl 211) 41 = some (.if_icmp .ge 32, 3) := by decide +kernel
theorem k211_44 : pm_look (pm_kl 211) 44 = some (.aload_n 0, 1) := by decide +kernel
theorem k211_45 : pm_look (pm_kl 211) 45 = some (.iload_n 1, 1) := by decide +kernel
theorem k211_46 : pm_look (pm_kl 211) 46 = some (.iload 5, 2) := by decide +kernel
theorem k211_48 : pm_look (pm_kl 211) 48 = some (.iload_n 2, 1) := by decide +kernel
theorem k211_49 : pm_look (pm_kl 211) 49 = some (.invokevirtual 407, 3) := by decide +kernel
theorem k211_52 : pm_look (pm_kl 211) 52 = some (.ifCond .eq 15, 3) := by decide +kernel
theorem k211_55 : pm_look (pm_kl 211) 55 = some (.iload 4, 2) := by decide +kernel
theorem k211_57 : pm_look (pm_kl 211) 57 = some (.iload_n 3, 1) := by decide +kernel
theorem k211_58 : pm_look (pm_kl 211) 58 = some (.if_icmp .ne 6, 3) := by decide +kernel
theorem k211_61 : pm_look (pm_kl 211) 61 = some (.iload 5, 2) := by decide +kernel
theorem k211_63 : pm_look (pm_kl 211) 63 = some (.ireturn, 1) := by decide +kernel
theorem k211_64 : pm_look (pm_kl 211) 64 = some (.iinc 4 1, 3) := by decide +kernel
theorem k211_67 : pm_look (pm_kl 211) 67 = some (.iinc 5 1, 3) := by decide +kernel
theorem k211_70 : pm_look (pm_kl 211) 70 = some (.goto (-35), 3) := by decide +kernel
theorem k211_73 : pm_look (pm_kl 211) 73 = some (.iload_n 3, 1) := by decide +kernel
theorem k211_74 : pm_look (pm_kl 211) 74 = some (.iconst (-1), 1) := by decide +kernel
theorem k211_75 : pm_look (pm_kl 211) 75 = some (.if_icmp .ne 8, 3) := by decide +kernel
theorem k211_78 : pm_look (pm_kl 211) 78 = some (.iload 4, 2) := by decide +kernel
theorem k211_80 : pm_look (pm_kl 211) 80 = some (.goto 4, 3) := by decide +kernel
theorem k211_83 : pm_look (pm_kl 211) 83 = some (.iconst (-1), 1) := by decide +kernel
theorem k211_84 : pm_look (pm_kl 211) 84 = some (.ireturn, 1) := by decide +kernel
theorem k212_0 : pm_look (pm_kl 212) 0 = some (.aload_n 0, 1) := by decide +kernel
theorem k212_1 : pm_look (pm_kl 212) 1 = some (.iload_n 1, 1) := by decide +kernel
theorem k212_2 : pm_look (pm_kl 212) 2 = some (.invokevirtual 148, 3) := by decide +kernel
theorem k212_5 : pm_look (pm_kl 212) 5 = some (.ifCond .ne 7, 3) := by decide +kernel
theorem k212_8 : pm_look (pm_kl 212) 8 = some (.sipush (-1001), 3) := by decide +kernel
theorem k212_11 : pm_look (pm_kl 212) 11 = some (.ireturn, 1) := by decide +kernel
theorem k212_12 : pm_look (pm_kl 212) 12 = some (.aload_n 0, 1) := by decide +kernel
theorem k212_13 : pm_look (pm_kl 212) 13 = some (.iload_n 2, 1) := by decide +kernel
theorem k212_14 : pm_look (pm_kl 212) 14 = some (.invokevirtual 167, 3) := by decide +kernel
theorem k212_17 : pm_look (pm_kl 212) 17 = some (.ifCond .ne 7, 3) := by decide +kernel
theorem k212_20 : pm_look (pm_kl 212) 20 = some (.sipush (-1002), 3) := by decide +kernel
theorem k212_23 : pm_look (pm_kl 212) 23 = some (.ireturn, 1) := by decide +kernel
theorem k212_24 : pm_look (pm_kl 212) 24 = some (.aload_n 0, 1) := by decide +kernel
theorem k212_25 : pm_look (pm_kl 212) 25 = some (.iload_n 2, 1) := by decide +kernel
theorem k212_26 : pm_look (pm_kl 212) 26 = some (.invokevirtual 238, 3) := by decide +kernel
theorem k212_29 : pm_look (pm_kl 212) 29 = some (.iconst 0, 1) := by decide +kernel
theorem k212_30 : pm_look (pm_kl 212) 30 = some (.istore 4, 2) := by decide +kernel
theorem k212_32 : pm_look (pm_kl 212) 32 = some (.iload 4, 2) := by decide +kernel
theorem k212_34 : pm_look (pm_kl 212) 34 = some (.aload_n 0, 1) := by decide +kernel
theorem k212_35 : pm_look (pm_kl 212) 35 = some (.getfield 175, 3) := by decide +kernel
theorem k212_38 : pm_look (pm_kl 212) 38 = some (.if_icmp .ge 17, 3) := by decide +kernel
theorem k212_41 : pm_look (pm_kl 212) 41 = some (.aload_n 0, 1) := by decide +kernel
theorem k212_42 : pm_look (pm_kl 212) 42 = some (.getfield 118, 3) := by decide +kernel
theorem k212_45 : pm_look (pm_kl 212) 45 = some (.iload 4, 2) := by decide +kernel
theorem k212_47 : pm_look (pm_kl 212) 47 = some (.iconst 0, 1) := by decide +kernel
theorem k212_48 : pm_look (pm_kl 212) 48 = some (.iastore, 1) := by decide +kernel
theorem k212_49 : pm_look (pm_kl 212) 49 = some (.iinc 4 1, 3) := by decide +kernel
theorem k212_52 : pm_look (pm_kl 212) 52 = some (.goto (-20), 3) := by decide +kernel
theorem k212_55 : pm_look (pm_kl 212) 55 = some (.iconst 0, 1) := by decide +kernel
theorem k212_56 : pm_look (pm_kl 212) 56 = some (.istore 4, 2) := by decide +kernel
theorem k212_58 : pm_look (pm_kl 212) 58 = some (.iload 4, 2) := by decide +kernel
theorem k212_60 : pm_look (pm_kl 212) 60 = some (.aload_n 0, 1) := by decide +kernel
theorem k212_61 : pm_look (pm_kl 212) 61 = some (.getfield 134, 3) := by decide +kernel
theorem k212_64 : pm_look (pm_kl 212) 64 = some (.if_icmp .ge 78, 3) := by decide +kernel
theorem k212_67 : pm_look (pm_kl 212) 67 = some (.aload_n 0, 1) := by decide +kernel
theorem k212_68 : pm_look (pm_kl 212) 68 = some (.iload_n 1, 1) := by decide +kernel
theorem k212_69 : pm_look (pm_kl 212) 69 = some (.iload 4, 2) := by decide +kernel
theorem k212_71 : pm_look (pm_kl 212) 71 = some (.iload_n 2, 1) := by decide +kernel
theorem k212_72 : pm_look (pm_kl 212) 72 = some (.invokevirtual 407, 3) := by decide +kernel
theorem k212_75 : pm_look (pm_kl 212) 75 = some (.istore 5, 2) := by decide +kernel
theorem k212_77 : pm_look (pm_kl 212) 77 = some (.iconst 0, 1) := by decide +kernel
theorem k212_78 : pm_look (pm_kl 212) 78 = some (.istore 6, 2) := by decide +kernel
theorem k212_80 : pm_look (pm_kl 212) 80 = some (.iload 6, 2) := by decide +kernel
theorem k212_82 : pm_look (pm_kl 212) 82 = some (.aload_n 0, 1) := by decide +kernel
theorem k212_83 : pm_look (pm_kl 212) 83 = some (.getfield 175, 3) := by decide +kernel
theorem k212_86 : pm_look (pm_kl 212) 86 = some (.if_icmp .ge 50, 3) := by decide +kernel
theorem k212_89 : pm_look (pm_kl 212) 89 = some (.iload 5, 2) := by decide +kernel
theorem k212_91 : pm_look (pm_kl 212) 91 = some (.ifCond .eq 45, 3) := by decide +kernel
theorem k212_94 : pm_look (pm_kl 212) 94 = some (.aload_n 0, 1) := by decide +kernel
theorem k212_95 : pm_look (pm_kl 212) 95 = some (.getfield 118, 3) := by decide +kernel
theorem k212_98 : pm_look (pm_kl 212) 98 = some (.iload 6, 2) := by decide +kernel
theorem k212_100 : pm_look (pm_kl 212) 100 = some (.dup2, 1) := by decide +kernel
theorem k212_101 : pm_look (pm_kl 212) 101 = some (.iaload, 1) := by decide +kernel
theorem k212_102 : pm_look (pm_kl 212) 102 = some (.aload_n 0, 1) := by decide +kernel
theorem k212_103 : pm_look (pm_kl 212) 103 = some (.iload 6, 2) := by decide +kernel
theorem k212_105 : pm_look (pm_kl 212) 105 = some (.iload_n 1, 1) := by decide +kernel
theorem k212_106 : pm_look (pm_kl 212) 106 = some (.invokevirtual 241, 3) := by decide +kernel
theorem k212_109 : pm_look (pm_kl 212) 109 = some (.ifCond .ne 18, 3) := by decide +kernel
theorem k212_112 : pm_look (pm_kl 212) 112 = some (.aload_n 0, 1) := by decide +kernel
theorem k212_113 : pm_look (pm_kl 212) 113 = some (.iload 6, 2) := by decide +kernel
theorem k212_115 : pm_look (pm_kl 212) 115 = some (.iload 4, 2) := by decide +kernel
theorem k212_117 : pm_look (pm_kl 212) 117 = some (.invokevirtual 241, 3) := by decide +kernel
theorem k212_120 : pm_look (pm_kl 212) 120 = some (.ifCond .eq 7, 3) := by decide +kernel
theorem k212_123 : pm_look (pm_kl 212) 123 = some (.iconst 1, 1) := by decide +kernel
theorem k212_124 : pm_look (pm_kl 212) 124 = some (.goto 4, 3) := by decide +kernel
theorem k212_127 : pm_look (pm_kl 212) 127 = some (.iconst 0, 1) := by decide +kernel
theorem k212_128 : pm_look (pm_kl 212) 128 = some (.iadd, 1) := by decide +kernel
theorem k212_129 : pm_look (pm_kl 212) 129 = some (.iastore, 1) := by decide +kernel
theorem k212_130 : pm_look (pm_kl 212) 130 = some (.iinc 6 1, 3) := by decide +kernel
theorem k212_133 : pm_look (pm_kl 212) 133 = some (.goto (-53), 3) := by decide +kernel
theorem k212_136 : pm_look (pm_kl 212) 136 = some (.iinc 4 1, 3) := by decide +kernel
theorem k212_139 : pm_look (pm_kl 212) 139 = some (.goto (-81), 3) := by decide +kernel
theorem k212_142 : pm_look (pm_kl 212) 142 = some (.iconst 0, 1) := by decide +kernel
theorem k212_143 : pm_look (pm_kl 212) 143 = some (.istore 4, 2) := by decide +kernel
theorem k212_145 : pm_look (pm_kl 212) 145 = some (.bipush 40, 2) := by decide +kernel
theorem k212_147 : pm_look (pm_kl 212) 147 = some (.istore 5, 2) := by decide +kernel
theorem k212_149 : pm_look (pm_kl 212) 149 = some (.iload 5, 2) := by decide +kernel
theorem k212_151 : pm_look (pm_kl 212) 151 = some (.ifCond .le 51, 3) := by decide +kernel
theorem k212_154 : pm_look (pm_kl 212) 154 = some (.iconst 0, 1) := by decide +kernel
theorem k212_155 : pm_look (pm_kl 212) 155 = some (.istore 6, 2) := by decide +kernel
theorem k212_157 : pm_look (pm_kl 212) 157 = some (.iload 6, 2) := by decide +kernel
theorem k212_159 : pm_look (pm_kl 212) 159 = some (.aload_n 0, 1) := by decide +kernel
theorem k212_160 : pm_look (pm_kl 212) 160 = some (.getfield 175, 3) := by decide +kernel
theorem k212_163 : pm_look (pm_kl 212) 163 = some (.if_icmp .ge 33, 3) := by decide +kernel
theorem k212_166 : pm_look (pm_kl 212) 166 = some (.aload_n 0, 1) := by decide +kernel
theorem k212_167 : pm_look (pm_kl 212) 167 = some (.getfield 118, 3) := by decide +kernel
theorem k212_170 : pm_look (pm_kl 212) 170 = some (.iload 6, 2) := by decide +kernel
theorem k212_172 : pm_look (pm_kl 212) 172 = some (.iaload, 1) := by decide +kernel
theorem k212_173 : pm_look (pm_kl 212) 173 = some (.iload 5, 2) := by decide +kernel
theorem k212_175 : pm_look (pm_kl 212) 175 = some (.if_icmp .ne 15, 3) := by decide +kernel
theorem k212_178 : pm_look (pm_kl 212) 178 = some (.iload 4, 2) := by decide +kernel
theorem k212_180 : pm_look (pm_kl 212) 180 = some (.iload_n 3, 1) := by decide +kernel
theorem k212_181 : pm_look (pm_kl 212) 181 = some (.if_icmp .ne 6, 3) := by decide +kernel
theorem k212_184 : pm_look (pm_kl 212) 184 = some (.iload 6, 2) := by decide +kernel
theorem k212_186 : pm_look (pm_kl 212) 186 = some (.ireturn, 1) := by decide +kernel
theorem k212_187 : pm_look (pm_kl 212) 187 = some (.iinc 4 1, 3) := by decide +kernel
theorem k212_190 : pm_look (pm_kl 212) 190 = some (.iinc 6 1, 3) := by decide +kernel
theorem k212_193 : pm_look (pm_kl 212) 193 = some (.goto (-36), 3) := by decide +kernel
theorem k212_196 : pm_look (pm_kl 212) 196 = some (.iinc 5 (-1), 3) := by decide +kernel
theorem k212_199 : pm_look (pm_kl 212) 199 = some (.goto (-50), 3) := by decide +kernel
theorem k212_202 : pm_look (pm_kl 212) 202 = some (.iload_n 3, 1) := by decide +kernel
theorem k212_203 : pm_look (pm_kl 212) 203 = some (.iconst (-1), 1) := by decide +kernel
theorem k212_204 : pm_look (pm_kl 212) 204 = some (.if_icmp .ne 8, 3) := by decide +kernel
theorem k212_207 : pm_look (pm_kl 212) 207 = some (.iload 4, 2) := by decide +kernel
theorem k212_209 : pm_look (pm_kl 212) 209 = some (.goto 4, 3) := by decide +kernel
theorem k212_212 : pm_look (pm_kl 212) 212 = some (.iconst (-1), 1) := by decide +kernel
theorem k212_213 : pm_look (pm_kl 212) 213 = some (.ireturn, 1) := by decide +kernel
theorem k213_0 : pm_look (pm_kl 213) 0 = some (.iload_n 1, 1) := by decide +kernel
theorem k213_1 : pm_look (pm_kl 213) 1 = some (.istore_n 2, 1) := by decide +kernel
theorem k213_2 : pm_look (pm_kl 213) 2 = some (.aload_n 0, 1) := by decide +kernel
theorem k213_3 : pm_look (pm_kl 213) 3 = some (.getfield 28, 3) := by decide +kernel
theorem k213_6 : pm_look (pm_kl 213) 6 = some (.iload_n 2, 1) := by decide +kernel
theorem k213_7 : pm_look (pm_kl 213) 7 = some (.iaload, 1) := by decide +kernel
theorem k213_8 : pm_look (pm_kl 213) 8 = some (.ifCond .lt 13, 3) := by decide +kernel
theorem k213_11 : pm_look (pm_kl 213) 11 = some (.aload_n 0, 1) := by decide +kernel
theorem k213_12 : pm_look (pm_kl 213) 12 = some (.getfield 28, 3) := by decide +kernel
theorem k213_15 : pm_look (pm_kl 213) 15 = some (.iload_n 2, 1) := by decide +kernel
theorem k213_16 : pm_look (pm_kl 213) 16 = some (.iaload, 1) := by decide +kernel
theorem k213_17 : pm_look (pm_kl 213) 17 = some (.istore_n 2, 1) := by decide +kernel
theorem k213_18 : pm_look (pm_kl 213) 18 = some (.goto (-16), 3) := by decide +kernel
theorem k213_21 : pm_look (pm_kl 213) 21 = some (.iload_n 2, 1) := by decide +kernel
theorem k213_22 : pm_look (pm_kl 213) 22 = some (.ireturn, 1) := by decide +kernel
theorem k214_0 : pm_look (pm_kl 214) 0 = some (.aload_n 0, 1) := by decide +kernel
theorem k214_1 : pm_look (pm_kl 214) 1 = some (.iload_n 1, 1) := by decide +kernel
theorem k214_2 : pm_look (pm_kl 214) 2 = some (.invokevirtual 183, 3) := by decide +kernel
theorem k214_5 : pm_look (pm_kl 214) 5 = some (.ifCond .ne 7, 3) := by decide +kernel
theorem k214_8 : pm_look (pm_kl 214) 8 = some (.ldc2_w 410, 3) := by decide +kernel
theorem k214_11 : pm_look (pm_kl 214) 11 = some (.lreturn, 1) := by decide +kernel
theorem k214_12 : pm_look (pm_kl 214) 12 = some (.aload_n 0, 1) := by decide +kernel
theorem k214_13 : pm_look (pm_kl 214) 13 = some (.iload_n 2, 1) := by decide +kernel
theorem k214_14 : pm_look (pm_kl 214) 14 = some (.invokevirtual 167, 3) := by decide +kernel
theorem k214_17 : pm_look (pm_kl 214) 17 = some (.ifCond .ne 7, 3) := by decide +kernel
theorem k214_20 : pm_look (pm_kl 214) 20 = some (.ldc2_w 412, 3) := by decide +kernel
theorem k214_23 : pm_look (pm_kl 214) 23 = some (.lreturn, 1) := by decide +kernel
theorem k214_24 : pm_look (pm_kl 214) 24 = some (.aload_n 0, 1) := by decide +kernel
theorem k214_25 : pm_look (pm_kl 214) 25 = some (.iload_n 2, 1) := by decide +kernel
theorem k214_26 : pm_look (pm_kl 214) 26 = some (.invokevirtual 238, 3) := by decide +kernel
theorem k214_29 : pm_look (pm_kl 214) 29 = some (.lconst 0, 1) := by decide +kernel
theorem k214_30 : pm_look (pm_kl 214) 30 = some (.lstore_n 3, 1) := by decide +kernel
theorem k214_31 : pm_look (pm_kl 214) 31 = some (.iconst 0, 1) := by decide +kernel
theorem k214_32 : pm_look (pm_kl 214) 32 = some (.istore 5, 2) := by decide +kernel
theorem k214_34 : pm_look (pm_kl 214) 34 = some (.iload 5, 2) := by decide +kernel
theorem k214_36 : pm_look (pm_kl 214) 36 = some (.aload_n 0, 1) := by decide +kernel
theorem k214_37 : pm_look (pm_kl 214) 37 = some (.getfield 178, 3) := by decide +kernel
theorem k214_40 : pm_look (pm_kl 214) 40 = some (.if_icmp .ge 92, 3) := by decide +kernel
theorem k214_43 : pm_look (pm_kl 214) 43 = some (.aload_n 0, 1) := by decide +kernel
theorem k214_44 : pm_look (pm_kl 214) 44 = some (.getfield 31, 3) := by decide +kernel
theorem k214_47 : pm_look (pm_kl 214) 47 = some (.iload 5, 2) := by decide +kernel
theorem k214_49 : pm_look (pm_kl 214) 49 = some (.iaload, 1) := by decide +kernel
theorem k214_50 : pm_look (pm_kl 214) 50 = some (.iload_n 1, 1) := by decide +kernel
theorem k214_51 : pm_look (pm_kl 214) 51 = some (.if_icmp .eq 36, 3) := by decide +kernel
theorem k214_54 : pm_look (pm_kl 214) 54 = some (.aload_n 0, 1) := by decide +kernel
theorem k214_55 : pm_look (pm_kl 214) 55 = some (.aload_n 0, 1) := by decide +kernel
theorem k214_56 : pm_look (pm_kl 214) 56 = some (.getfield 31, 3) := by decide +kernel
theorem k214_59 : pm_look (pm_kl 214) 59 = some (.iload 5, 2) := by decide +kernel
theorem k214_61 : pm_look (pm_kl 214) 61 = some (.iaload, 1) := by decide +kernel
theorem k214_62 : pm_look (pm_kl 214) 62 = some (.invokevirtual 414, 3) := by decide +kernel
theorem k214_65 : pm_look (pm_kl 214) 65 = some (.aload_n 0, 1) := by decide +kernel
theorem k214_66 : pm_look (pm_kl 214) 66 = some (.iload_n 1, 1) := by decide +kernel
theorem k214_67 : pm_look (pm_kl 214) 67 = some (.invokevirtual 414, 3) := by decide +kernel
theorem k214_70 : pm_look (pm_kl 214) 70 = some (.if_icmp .ne 17, 3) := by decide +kernel
theorem k214_73 : pm_look (pm_kl 214) 73 = some (.aload_n 0, 1) := by decide +kernel
theorem k214_74 : pm_look (pm_kl 214) 74 = some (.getfield 80, 3) := by decide +kernel
theorem k214_77 : pm_look (pm_kl 214) 77 = some (.iload 5, 2) := by decide +kernel
theorem k214_79 : pm_look (pm_kl 214) 79 = some (.iaload, 1) := by decide +kernel
theorem k214_80 : pm_look (pm_kl 214) 80 = some (.ifCond .lt 7, 3) := by decide +kernel
theorem k214_83 : pm_look (pm_kl 214) 83 = some (.iconst 1, 1) := by decide +kernel
theorem k214_84 : pm_look (pm_kl 214) 84 = some (.goto 4, 3) := by decide +kernel
theorem k214_87 : pm_look (pm_kl 214) 87 = some (.iconst 0, 1) := by decide +kernel
theorem k214_88 : pm_look (pm_kl 214) 88 = some (.istore 6, 2) := by decide +kernel
theorem k214_90 : pm_look (pm_kl 214) 90 = some (.lload_n 3, 1) := by decide +kernel
theorem k214_91 : pm_look (pm_kl 214) 91 = some (.iload 6, 2) := by decide +kernel
theorem k214_93 : pm_look (pm_kl 214) 93 = some (.ifCond .eq 30, 3) := by decide +kernel
theorem k214_96 : pm_look (pm_kl 214) 96 = some (.aload_n 0, 1) := by decide +kernel
theorem k214_97 : pm_look (pm_kl 214) 97 = some (.iload_n 1, 1) := by decide +kernel
theorem k214_98 : pm_look (pm_kl 214) 98 = some (.aload_n 0, 1) := by decide +kernel
theorem k214_99 : pm_look (pm_kl 214) 99 = some (.getfield 80, 3) := by decide +kernel
theorem k214_102 : pm_look (pm_kl 214) 102 = some (.iload 5, 2) := by decide +kernel
theorem k214_104 : pm_look (pm_kl 214) 104 = some (.iaload, 1) := by decide +kernel
theorem k214_105 : pm_look (pm_kl 214) 105 = some (.invokevirtual 241, 3) := by decide +kernel
theorem k214_108 : pm_look (pm_kl 214) 108 = some (.ifCond .ne 15, 3) := by decide +kernel
theorem k214_111 : pm_look (pm_kl 214) 111 = some (.lconst 1, 1) := by decide +kernel
theorem k214_112 : pm_look (pm_kl 214) 112 = some (.aload_n 0, 1) := by decide +kernel
theorem k214_113 : pm_look (pm_kl 214) 113 = some (.getfield 80, 3) := by decide +kernel
theorem k214_116 : pm_look (pm_kl 214) 116 = some (.iload 5, 2) := by decide +kernel
theorem k214_118 : pm_look (pm_kl 214) 118 = some (.iaload, 1) := by decide +kernel
theorem k214_119 : pm_look (pm_kl 214) 119 = some (.lshl, 1) := by decide +kernel
theorem k214_120 : pm_look (pm_kl 214) 120 = some (.goto 4, 3) := by decide +kernel
theorem k214_123 : pm_look (pm_kl 214) 123 = some (.lconst 0, 1) := by decide +kernel
theorem k214_124 : pm_look (pm_kl 214) 124 = some (.lor, 1) := by decide +kernel
theorem k214_125 : pm_look (pm_kl 214) 125 = some (.lstore_n 3, 1) := by decide +kernel
theorem k214_126 : pm_look (pm_kl 214) 126 = some (.iinc 5 1, 3) := by decide +kernel
theorem k214_129 : pm_look (pm_kl 214) 129 = some (.goto (-95), 3) := by decide +kernel
theorem k214_132 : pm_look (pm_kl 214) 132 = some (.lload_n 3, 1) := by decide +kernel
theorem k214_133 : pm_look (pm_kl 214) 133 = some (.lreturn, 1) := by decide +kernel
theorem k215_0 : pm_look (pm_kl 215) 0 = some (.aload_n 0, 1) := by decide +kernel
theorem k215_1 : pm_look (pm_kl 215) 1 = some (.getfield 258, 3) := by decide +kernel
theorem k215_4 : pm_look (pm_kl 215) 4 = some (.iconst 4, 1) := by decide +kernel
theorem k215_5 : pm_look (pm_kl 215) 5 = some (.if_icmp .ne 7, 3) := by decide +kernel
theorem k215_8 : pm_look (pm_kl 215) 8 = some (.sipush (-1004), 3) := by decide +kernel
theorem k215_11 : pm_look (pm_kl 215) 11 = some (.ireturn, 1) := by decide +kernel
theorem k215_12 : pm_look (pm_kl 215) 12 = some (.aload_n 0, 1) := by decide +kernel
theorem k215_13 : pm_look (pm_kl 215) 13 = some (.getfield 121, 3) := by decide +kernel
theorem k215_16 : pm_look (pm_kl 215) 16 = some (.aload_n 0, 1) := by decide +kernel
theorem k215_17 : pm_look (pm_kl 215) 17 = some (.getfield 258, 3) := by decide +kernel
theorem k215_20 : pm_look (pm_kl 215) 20 = some (.iconst 0, 1) := by decide +kernel
theorem k215_21 : pm_look (pm_kl 215) 21 = some (.iastore, 1) := by decide +kernel
theorem k215_22 : pm_look (pm_kl 215) 22 = some (.aload_n 0, 1) := by decide +kernel
theorem k215_23 : pm_look (pm_kl 215) 23 = some (.dup, 1) := by decide +kernel
theorem k215_24 : pm_look (pm_kl 215) 24 = some (.getfield 258, 3) := by decide +kernel
theorem k215_27 : pm_look (pm_kl 215) 27 = some (.iconst 1, 1) := by decide +kernel
theorem k215_28 : pm_look (pm_kl 215) 28 = some (.iadd, 1) := by decide +kernel
theorem k215_29 : pm_look (pm_kl 215) 29 = some (.putfield 258, 3) := by decide +kernel
theorem k215_32 : pm_look (pm_kl 215) 32 = some (.aload_n 0, 1) := by decide +kernel
theorem k215_33 : pm_look (pm_kl 215) 33 = some (.getfield 258, 3) := by decide +kernel
theorem k215_36 : pm_look (pm_kl 215) 36 = some (.iconst 1, 1) := by decide +kernel
theorem k215_37 : pm_look (pm_kl 215) 37 = some (.isub, 1) := by decide +kernel
theorem k215_38 : pm_look (pm_kl 215) 38 = some (.ireturn, 1) := by decide +kernel
theorem k216_0 : pm_look (pm_kl 216) 0 = some (.iload_n 1, 1) := by decide +kernel
theorem k216_1 : pm_look (pm_kl 216) 1 = some (.i2l, 1) := by decide +kernel
theorem k216_2 : pm_look (pm_kl 216) 2 = some (.lconst 0, 1) := by decide +kernel
theorem k216_3 : pm_look (pm_kl 216) 3 = some (.aload_n 0, 1) := by decide +kernel
theorem k216_4 : pm_look (pm_kl 216) 4 = some (.getfield 258, 3) := by decide +kernel
theorem k216_7 : pm_look (pm_kl 216) 7 = some (.iconst 1, 1) := by decide +kernel
theorem k216_8 : pm_look (pm_kl 216) 8 = some (.isub, 1) := by decide +kernel
theorem k216_9 : pm_look (pm_kl 216) 9 = some (.i2l, 1) := by decide +kernel
theorem k216_10 : pm_look (pm_kl 216) 10 = some (.invokestatic 137, 3) := by decide +kernel
theorem k216_13 : pm_look (pm_kl 216) 13 = some (.ifCond .eq 11, 3) := by decide +kernel
theorem k216_16 : pm_look (pm_kl 216) 16 = some (.aload_n 0, 1) := by decide +kernel
theorem k216_17 : pm_look (pm_kl 216) 17 = some (.iload_n 3, 1) := by decide +kernel
theorem k216_18 : pm_look (pm_kl 216) 18 = some (.invokevirtual 148, 3) := by decide +kernel
theorem k216_21 : pm_look (pm_kl 216) 21 = some (.ifCond .ne 7, 3) := by decide +kernel
theorem k216_24 : pm_look (pm_kl 216) 24 = some (.sipush (-1001), 3) := by decide +kernel
theorem k216_27 : pm_look (pm_kl 216) 27 = some (.ireturn, 1) := by decide +kernel
theorem k216_28 : pm_look (pm_kl 216) 28 = some (.iload_n 2, 1) := by decide +kernel
theorem k216_29 : pm_look (pm_kl 216) 29 = some (.i2l, 1) := by decide +kernel
theorem k216_30 : pm_look (pm_kl 216) 30 = some (.lconst 0, 1) := by decide +kernel
theorem k216_31 : pm_look (pm_kl 216) 31 = some (.aload_n 0, 1) := by decide +kernel
theorem k216_32 : pm_look (pm_kl 216) 32 = some (.getfield 121, 3) := by decide +kernel
theorem k216_35 : pm_look (pm_kl 216) 35 = some (.iload_n 1, 1) := by decide +kernel
theorem k216_36 : pm_look (pm_kl 216) 36 = some (.iaload, 1) := by decide +kernel
theorem k216_37 : pm_look (pm_kl 216) 37 = some (.i2l, 1) := by decide +kernel
theorem k216_38 : pm_look (pm_kl 216) 38 = some (.invokestatic 137, 3) := by decide +kernel
theorem k216_41 : pm_look (pm_kl 216) 41 = some (.ifCond .ne 7, 3) := by decide +kernel
theorem k216_44 : pm_look (pm_kl 216) 44 = some (.sipush (-1002), 3) := by decide +kernel
theorem k216_47 : pm_look (pm_kl 216) 47 = some (.ireturn, 1) := by decide +kernel
theorem k216_48 : pm_look (pm_kl 216) 48 = some (.iconst 5, 1) := by decide +kernel
theorem k216_49 : pm_look (pm_kl 216) 49 = some (.iload_n 1, 1) := by decide +kernel
theorem k216_50 : pm_look (pm_kl 216) 50 = some (.imul, 1) := by decide +kernel
theorem k216_51 : pm_look (pm_kl 216) 51 = some (.iload_n 2, 1) := by decide +kernel
theorem k216_52 : pm_look (pm_kl 216) 52 = some (.iadd, 1) := by decide +kernel
theorem k216_53 : pm_look (pm_kl 216) 53 = some (.istore 4, 2) := by decide +kernel
theorem k216_55 : pm_look (pm_kl 216) 55 = some (.iload_n 2, 1) := by decide +kernel
theorem k216_56 : pm_look (pm_kl 216) 56 = some (.iconst 5, 1) := by decide +kernel
theorem k216_57 : pm_look (pm_kl 216) 57 = some (.if_icmp .eq 24, 3) := by decide +kernel
theorem k216_60 : pm_look (pm_kl 216) 60 = some (.iload_n 2, 1) := by decide +kernel
theorem k216_61 : pm_look (pm_kl 216) 61 = some (.aload_n 0, 1) := by decide +kernel
theorem k216_62 : pm_look (pm_kl 216) 62 = some (.getfield 121, 3) := by decide +kernel
theorem k216_65 : pm_look (pm_kl 216) 65 = some (.iload_n 1, 1) := by decide +kernel
theorem k216_66 : pm_look (pm_kl 216) 66 = some (.iaload, 1) := by decide +kernel
theorem k216_67 : pm_look (pm_kl 216) 67 = some (.if_icmp .ge 18, 3) := by decide +kernel
theorem k216_70 : pm_look (pm_kl 216) 70 = some (.aload_n 0, 1) := by decide +kernel
theorem k216_71 : pm_look (pm_kl 216) 71 = some (.getfield 124, 3) := by decide +kernel
theorem k216_74 : pm_look (pm_kl 216) 74 = some (.iload 4, 2) := by decide +kernel
theorem k216_76 : pm_look (pm_kl 216) 76 = some (.iaload, 1) := by decide +kernel
theorem k216_77 : pm_look (pm_kl 216) 77 = some (.iconst 3, 1) := by decide +kernel
theorem k216_78 : pm_look (pm_kl 216) 78 = some (.if_icmp .ne 7, 3) := by decide +kernel
theorem k216_81 : pm_look (pm_kl 216) 81 = some (.sipush (-1004), 3) := by decide +kernel
theorem k216_84 : pm_look (pm_kl 216) 84 = some (.ireturn, 1) := by decide +kernel
theorem k216_85 : pm_look (pm_kl 216) 85 = some (.iload_n 2, 1) := by decide +kernel
theorem k216_86 : pm_look (pm_kl 216) 86 = some (.aload_n 0, 1) := by decide +kernel
theorem k216_87 : pm_look (pm_kl 216) 87 = some (.getfield 121, 3) := by decide +kernel
theorem k216_90 : pm_look (pm_kl 216) 90 = some (.iload_n 1, 1) := by decide +kernel
theorem k216_91 : pm_look (pm_kl 216) 91 = some (.iaload, 1) := by decide +kernel
theorem k216_92 : pm_look (pm_kl 216) 92 = some (.if_icmp .ne 21, 3) := by decide +kernel
theorem k216_95 : pm_look (pm_kl 216) 95 = some (.aload_n 0, 1) := by decide +kernel
theorem k216_96 : pm_look (pm_kl 216) 96 = some (.getfield 121, 3) := by decide +kernel
theorem k216_99 : pm_look (pm_kl 216) 99 = some (.iload_n 1, 1) := by decide +kernel
theorem k216_100 : pm_look (pm_kl 216) 100 = some (.dup2, 1) := by decide +kernel
theorem k216_101 : pm_look (pm_kl 216) 101 = some (.iaload, 1) := by decide +kernel
theorem k216_102 : pm_look (pm_kl 216) 102 = some (.iconst 1, 1) := by decide +kernel
theorem k216_103 : pm_look (pm_kl 216) 103 = some (.iadd, 1) := by decide +kernel
theorem k216_104 : pm_look (pm_kl 216) 104 = some (.iastore, 1) := by decide +kernel
theorem k216_105 : pm_look (pm_kl 216) 105 = some (.aload_n 0, 1) := by decide +kernel
theorem k216_106 : pm_look (pm_kl 216) 106 = some (.getfield 124, 3) := by decide +kernel
theorem k216_109 : pm_look (pm_kl 216) 109 = some (.iload 4, 2) := by decide +kernel
theorem k216_111 : pm_look (pm_kl 216) 111 = some (.iconst 0, 1) := by decide +kernel
theorem k216_112 : pm_look (pm_kl 216) 112 = some (.iastore, 1) := by decide +kernel
theorem k216_113 : pm_look (pm_kl 216) 113 = some (.aload_n 0, 1) := by decide +kernel
theorem k216_114 : pm_look (pm_kl 216) 114 = some (.getfield 127, 3) := by decide +kernel
theorem k216_117 : pm_look (pm_kl 216) 117 = some (.iconst 3, 1) := by decide +kernel
theorem k216_118 : pm_look (pm_kl 216) 118 = some (.iload 4, 2) := by decide +kernel
theorem k216_120 : pm_look (pm_kl 216) 120 = some (.imul, 1) := by decide +kernel
theorem k216_121 : pm_look (pm_kl 216) 121 = some (.aload_n 0, 1) := by decide +kernel
theorem k216_122 : pm_look (pm_kl 216) 122 = some (.getfield 124, 3) := by decide +kernel
theorem k216_125 : pm_look (pm_kl 216) 125 = some (.iload 4, 2) := by decide +kernel
theorem k216_127 : pm_look (pm_kl 216) 127 = some (.iaload, 1) := by decide +kernel
theorem k216_128 : pm_look (pm_kl 216) 128 = some (.iadd, 1) := by decide +kernel
theorem k216_129 : pm_look (pm_kl 216) 129 = some (.iload_n 3, 1) := by decide +kernel
theorem k216_130 : pm_look (pm_kl 216) 130 = some (.iastore, 1) := by decide +kernel
theorem k216_131 : pm_look (pm_kl 216) 131 = some (.aload_n 0, 1) := by decide +kernel
theorem k216_132 : pm_look (pm_kl 216) 132 = some (.getfield 124, 3) := by decide +kernel
theorem k216_135 : pm_look (pm_kl 216) 135 = some (.iload 4, 2) := by decide +kernel
theorem k216_137 : pm_look (pm_kl 216) 137 = some (.dup2, 1) := by decide +kernel
theorem k216_138 : pm_look (pm_kl 216) 138 = some (.iaload, 1) := by decide +kernel
theorem k216_139 : pm_look (pm_kl 216) 139 = some (.iconst 1, 1) := by decide +kernel
theorem k216_140 : pm_look (pm_kl 216) 140 = some (.iadd, 1) := by decide +kernel
theorem k216_141 : pm_look (pm_kl 216) 141 = some (.iastore, 1) := by decide +kernel
theorem k216_142 : pm_look (pm_kl 216) 142 = some (.aload_n 0, 1) := by decide +kernel
theorem k216_143 : pm_look (pm_kl 216) 143 = some (.getfield 124, 3) := by decide +kernel
theorem k216_146 : pm_look (pm_kl 216) 146 = some (.iload 4, 2) := by decide +kernel
theorem k216_148 : pm_look (pm_kl 216) 148 = some (.iaload, 1) := by decide +kernel
theorem k216_149 : pm_look (pm_kl 216) 149 = some (.ireturn, 1) := by decide +kernel
theorem k217_0 : pm_look (pm_kl 217) 0 = some (.aload_n 0, 1) := by decide +kernel
theorem k217_1 : pm_look (pm_kl 217) 1 = some (.iload_n 1, 1) := by decide +kernel
theorem k217_2 : pm_look (pm_kl 217) 2 = some (.invokevirtual 183, 3) := by decide +kernel
theorem k217_5 : pm_look (pm_kl 217) 5 = some (.ifCond .eq 19, 3) := by decide +kernel
theorem k217_8 : pm_look (pm_kl 217) 8 = some (.iload_n 2, 1) := by decide +kernel
theorem k217_9 : pm_look (pm_kl 217) 9 = some (.i2l, 1) := by decide +kernel
theorem k217_10 : pm_look (pm_kl 217) 10 = some (.lconst 0, 1) := by decide +kernel
theorem k217_11 : pm_look (pm_kl 217) 11 = some (.aload_n 0, 1) := by decide +kernel
theorem k217_12 : pm_look (pm_kl 217) 12 = some (.getfield 258, 3) := by decide +kernel
theorem k217_15 : pm_look (pm_kl 217) 15 = some (.iconst 1, 1) := by decide +kernel
theorem k217_16 : pm_look (pm_kl 217) 16 = some (.isub, 1) := by decide +kernel
theorem k217_17 : pm_look (pm_kl 217) 17 = some (.i2l, 1) := by decide +kernel
theorem k217_18 : pm_look (pm_kl 217) 18 = some (.invokestatic 137, 3) := by decide +kernel
theorem k217_21 : pm_look (pm_kl 217) 21 = some (.ifCond .ne 7, 3) := by decide +kernel
theorem k217_24 : pm_look (pm_kl 217) 24 = some (.sipush (-1001), 3) := by decide +kernel
theorem k217_27 : pm_look (pm_kl 217) 27 = some (.ireturn, 1) := by decide +kernel
theorem k217_28 : pm_look (pm_kl 217) 28 = some (.aload_n 0, 1) := by decide +kernel
theorem k217_29 : pm_look (pm_kl 217) 29 = some (.iload_n 3, 1) := by decide +kernel
theorem k217_30 : pm_look (pm_kl 217) 30 = some (.invokevirtual 167, 3) := by decide +kernel
theorem k217_33 : pm_look (pm_kl 217) 33 = some (.ifCond .eq 16, 3) := by decide +kernel
theorem k217_36 : pm_look (pm_kl 217) 36 = some (.iload 4, 2) := by decide +kernel
theorem k217_38 : pm_look (pm_kl 217) 38 = some (.i2l, 1) := by decide +kernel
theorem k217_39 : pm_look (pm_kl 217) 39 = some (.lconst 0, 1) := by decide +kernel
theorem k217_40 : pm_look (pm_kl 217) 40 = some (.ldc2_w 244, 3) := by decide +kernel
theorem k217_43 : pm_look (pm_kl 217) 43 = some (.invokestatic 137, 3) := by decide +kernel
theorem k217_46 : pm_look (pm_kl 217) 46 = some (.ifCond .ne 7, 3) := by decide +kernel
theorem k217_49 : pm_look (pm_kl 217) 49 = some (.sipush (-1002), 3) := by decide +kernel
theorem k217_52 : pm_look (pm_kl 217) 52 = some (.ireturn, 1) := by decide +kernel
theorem k217_53 : pm_look (pm_kl 217) 53 = some (.aload_n 0, 1) := by decide +kernel
theorem k217_54 : pm_look (pm_kl 217) 54 = some (.iload_n 3, 1) := by decide +kernel
theorem k217_55 : pm_look (pm_kl 217) 55 = some (.invokevirtual 238, 3) := by decide +kernel
theorem k217_58 : pm_look (pm_kl 217) 58 = some (.iconst 0, 1) := by decide +kernel
theorem k217_59 : pm_look (pm_kl 217) 59 = some (.istore 5, 2) := by decide +kernel
theorem k217_61 : pm_look (pm_kl 217) 61 = some (.iconst (-1), 1) := by decide +kernel
theorem k217_62 : pm_look (pm_kl 217) 62 = some (.istore 6, 2) := by decide +kernel
theorem k217_64 : pm_look (pm_kl 217) 64 = some (.iconst 0, 1) := by decide +kernel
theorem k217_65 : pm_look (pm_kl 217) 65 = some (.istore 7, 2) := by decide +kernel
theorem k217_67 : pm_look (pm_kl 217) 67 = some (.iload 7, 2) := by decide +kernel
theorem k217_69 : pm_look (pm_kl 217) 69 = some (.aload_n 0, 1) := by decide +kernel
theorem k217_70 : pm_look (pm_kl 217) 70 = some (.getfield 121, 3) := by decide +kernel
theorem k217_73 : pm_look (pm_kl 217) 73 = some (.iload_n 2, 1) := by decide +kernel
theorem k217_74 : pm_look (pm_kl 217) 74 = some (.iaload, 1) := by decide +kernel
theorem k217_75 : pm_look (pm_kl 217) 75 = some (.if_icmp .ge 125, 3) := by decide +kernel
theorem k217_78 : pm_look (pm_kl 217) 78 = some (.aload_n 0, 1) := by decide +kernel
theorem k217_79 : pm_look (pm_kl 217) 79 = some (.getfield 124, 3) := by decide +kernel
theorem k217_82 : pm_look (pm_kl 217) 82 = some (.iconst 5, 1) := by decide +kernel
theorem k217_83 : pm_look (pm_kl 217) 83 = some (.iload_n 2, 1) := by decide +kernel
theorem k217_84 : pm_look (pm_kl 217) 84 = some (.imul, 1) := by decide +kernel
theorem k217_85 : pm_look (pm_kl 217) 85 = some (.iload 7, 2) := by decide +kernel
theorem k217_87 : pm_look (pm_kl 217) 87 = some (.iadd, 1) := by decide +kernel
theorem k217_88 : pm_look (pm_kl 217) 88 = some (.iaload, 1) := by decide +kernel
theorem k217_89 : pm_look (pm_kl 217) 89 = some (.ifCond .le 7, 3) := by decide +kernel
theorem k217_92 : pm_look (pm_kl 217) 92 = some (.iconst 1, 1) := by decide +kernel
theorem k217_93 : pm_look (pm_kl 217) 93 = some (.goto 4, 3) := by decide +kernel
theorem k217_96 : pm_look (pm_kl 217) 96 = some (.iconst 0, 1) := by decide +kernel
theorem k217_97 : pm_look (pm_kl 217) 97 = some (.istore 8, 2) := by decide +kernel
theorem k217_99 : pm_look (pm_kl 217) 99 = some (.iconst 0, 1) := by decide +kernel
theorem k217_100 : pm_look (pm_kl 217) 100 = some (.istore 9, 2) := by decide +kernel
theorem k217_102 : pm_look (pm_kl 217) 102 = some (.iload 9, 2) := by decide +kernel
theorem k217_104 : pm_look (pm_kl 217) 104 = some (.aload_n 0, 1) := by decide +kernel
theorem k217_105 : pm_look (pm_kl 217) 105 = some (.getfield 124, 3) := by decide +kernel
theorem k217_108 : pm_look (pm_kl 217) 108 = some (.iconst 5, 1) := by decide +kernel
theorem k217_109 : pm_look (pm_kl 217) 109 = some (.iload_n 2, 1) := by decide +kernel
theorem k217_110 : pm_look (pm_kl 217) 110 = some (.imul, 1) := by decide +kernel
theorem k217_111 : pm_look (pm_kl 217) 111 = some (.iload 7, 2) := by decide +kernel
theorem k217_113 : pm_look (pm_kl 217) 113 = some (.iadd, 1) := by decide +kernel
theorem k217_114 : pm_look (pm_kl 217) 114 = some (.iaload, 1) := by decide +kernel
theorem k217_115 : pm_look (pm_kl 217) 115 = some (.if_icmp .ge 45, 3) := by decide +kernel
theorem k217_118 : pm_look (pm_kl 217) 118 = some (.iload 8, 2) := by decide +kernel
theorem k217_120 : pm_look (pm_kl 217) 120 = some (.ifCond .eq 31, 3) := by decide +kernel
theorem k217_123 : pm_look (pm_kl 217) 123 = some (.aload_n 0, 1) := by decide +kernel
theorem k217_124 : pm_look (pm_kl 217) 124 = some (.iload_n 1, 1) := by decide +kernel
theorem k217_125 : pm_look (pm_kl 217) 125 = some (.aload_n 0, 1) := by decide +kernel
theorem k217_126 : pm_look (pm_kl 217) 126 = some (.getfield 127, 3) := by decide +kernel
theorem k217_129 : pm_look (pm_kl 217) 129 = some (.iconst 3, 1) := by decide +kernel
theorem k217_130 : pm_look (pm_kl 217) 130 = some (.iconst 5, 1) := by decide +kernel
theorem k217_131 : pm_look (pm_kl 217) 131 = some (.iload_n 2, 1) := by decide +kernel
theorem k217_132 : pm_look (pm_kl 217) 132 = some (.imul, 1) := by decide +kernel
theorem k217_133 : pm_look (pm_kl 217) 133 = some (.iload 7, 2) := by decide +kernel
theorem k217_135 : pm_look (pm_kl 217) 135 = some (.iadd, 1) := by decide +kernel
theorem k217_136 : pm_look (pm_kl 217) 136 = some (.imul, 1) := by decide +kernel
theorem k217_137 : pm_look (pm_kl 217) 137 = some (.iload 9, 2) := by decide +kernel
theorem k217_139 : pm_look (pm_kl 217) 139 = some (.iadd, 1) := by decide +kernel
theorem k217_140 : pm_look (pm_kl 217) 140 = some (.iaload, 1) := by decide +kernel
theorem k217_141 : pm_look (pm_kl 217) 141 = some (.invokevirtual 241, 3) := by decide +kernel
theorem k217_144 : pm_look (pm_kl 217) 144 = some (.ifCond .eq 7, 3) := by decide +kernel
theorem k217_147 : pm_look (pm_kl 217) 147 = some (.iconst 1, 1) := by decide +kernel
theorem k217_148 : pm_look (pm_kl 217) 148 = some (.goto 4, 3) := by decide +kernel
theorem k217_151 : pm_look (pm_kl 217) 151 = some (.iconst 0, 1) := by decide +kernel
theorem k217_152 : pm_look (pm_kl 217) 152 = some (.istore 8, 2) := by decide +kernel
theorem k217_154 : pm_look (pm_kl 217) 154 = some (.iinc 9 1, 3) := by decide +kernel
theorem k217_157 : pm_look (pm_kl 217) 157 = some (.goto (-55), 3) := by decide +kernel
theorem k217_160 : pm_look (pm_kl 217) 160 = some (.iload 5, 2) := by decide +kernel
theorem k217_162 : pm_look (pm_kl 217) 162 = some (.iload 8, 2) := by decide +kernel
theorem k217_164 : pm_look (pm_kl 217) 164 = some (.ifCond .eq 7, 3) := by decide +kernel
theorem k217_167 : pm_look (pm_kl 217) 167 = some (.iconst 1, 1) := by decide +kernel
theorem k217_168 : pm_look (pm_kl 217) 168 = some (.goto 4, 3) := by decide +kernel
theorem k217_171 : pm_look (pm_kl 217) 171 = some (.iconst 0, 1) := by decide +kernel
theorem k217_172 : pm_look (pm_kl 217) 172 = some (.iadd, 1) := by decide +kernel
theorem k217_173 : pm_look (pm_kl 217) 173 = some (.istore 5, 2) := by decide +kernel
theorem k217_175 : pm_look (pm_kl 217) 175 = some (.iload 8, 2) := by decide +kernel
theorem k217_177 : pm_look (pm_kl 217) 177 = some (.ifCond .eq 13, 3) := by decide +kernel
theorem k217_180 : pm_look (pm_kl 217) 180 = some (.iload 6, 2) := by decide +kernel
theorem k217_182 : pm_look (pm_kl 217) 182 = some (.ifCond .ge 8, 3) := by decide +kernel
theorem k217_185 : pm_look (pm_kl 217) 185 = some (.iload 7, 2) := by decide +kernel
theorem k217_187 : pm_look (pm_kl 217) 187 = some (.goto 5, 3) := by decide +kernel
theorem k217_190 : pm_look (pm_kl 217) 190 = some (.iload 6, 2) := by decide +kernel
theorem k217_192 : pm_look (pm_kl 217) 192 = some (.istore 6, 2) := by decide +kernel
theorem k217_194 : pm_look (pm_kl 217) 194 = some (.iinc 7 1, 3) := by decide +kernel
theorem k217_197 : pm_look (pm_kl 217) 197 = some (.goto (-130), 3) := by decide +kernel
theorem k217_200 : pm_look (pm_kl 217) 200 = some (.iload 4, 2) := by decide +kernel
theorem k217_202 : pm_look (pm_kl 217) 202 = some (.ifCond .ne 8, 3) := by decide +kernel
theorem k217_205 : pm_look (pm_kl 217) 205 = some (.iload 5, 2) := by decide +kernel
theorem k217_207 : pm_look (pm_kl 217) 207 = some (.goto 25, 3) := by decide +kernel
theorem k217_210 : pm_look (pm_kl 217) 210 = some (.iload 4, 2) := by decide +kernel
theorem k217_212 : pm_look (pm_kl 217) 212 = some (.iconst 1, 1) := by decide +kernel
theorem k217_213 : pm_look (pm_kl 217) 213 = some (.if_icmp .ne 8, 3) := by decide +kernel
theorem k217_216 : pm_look (pm_kl 217) 216 = some (.iload 6, 2) := by decide +kernel
theorem k217_218 : pm_look (pm_kl 217) 218 = some (.goto 14, 3) := by decide +kernel
theorem k217_221 : pm_look (pm_kl 217) 221 = some (.iload 5, 2) := by decide +kernel
theorem k217_223 : pm_look (pm_kl 217) 223 = some (.iconst 1, 1) := by decide +kernel
theorem k217_224 : pm_look (pm_kl 217) 224 = some (.if_icmp .ne 7, 3) := by decide +kernel
theorem k217_227 : pm_look (pm_kl 217) 227 = some (.iconst 1, 1) := by decide +kernel
theorem k217_228 : pm_look (pm_kl 217) 228 = some (.goto 4, 3) := by decide +kernel
theorem k217_231 : pm_look (pm_kl 217) 231 = some (.iconst 0, 1) := by decide +kernel
theorem k217_232 : pm_look (pm_kl 217) 232 = some (.ireturn, 1) := by decide +kernel
theorem k218_0 : pm_look (pm_kl 218) 0 = some (.aload_n 0, 1) := by decide +kernel
theorem k218_1 : pm_look (pm_kl 218) 1 = some (.iload_n 1, 1) := by decide +kernel
theorem k218_2 : pm_look (pm_kl 218) 2 = some (.invokevirtual 148, 3) := by decide +kernel
theorem k218_5 : pm_look (pm_kl 218) 5 = some (.ifCond .ne 7, 3) := by decide +kernel
theorem k218_8 : pm_look (pm_kl 218) 8 = some (.sipush (-1001), 3) := by decide +kernel
theorem k218_11 : pm_look (pm_kl 218) 11 = some (.ireturn, 1) := by decide +kernel
theorem k218_12 : pm_look (pm_kl 218) 12 = some (.aload_n 0, 1) := by decide +kernel
theorem k218_13 : pm_look (pm_kl 218) 13 = some (.iload_n 2, 1) := by decide +kernel
theorem k218_14 : pm_look (pm_kl 218) 14 = some (.invokevirtual 167, 3) := by decide +kernel
theorem k218_17 : pm_look (pm_kl 218) 17 = some (.ifCond .eq 13, 3) := by decide +kernel
theorem k218_20 : pm_look (pm_kl 218) 20 = some (.iload_n 3, 1) := by decide +kernel
theorem k218_21 : pm_look (pm_kl 218) 21 = some (.i2l, 1) := by decide +kernel
theorem k218_22 : pm_look (pm_kl 218) 22 = some (.lconst 0, 1) := by decide +kernel
theorem k218_23 : pm_look (pm_kl 218) 23 = some (.lconst 1, 1) := by decide +kernel
theorem k218_24 : pm_look (pm_kl 218) 24 = some (.invokestatic 137, 3) := by decide +kernel
theorem k218_27 : pm_look (pm_kl 218) 27 = some (.ifCond .ne 7, 3) := by decide +kernel
theorem k218_30 : pm_look (pm_kl 218) 30 = some (.sipush (-1002), 3) := by decide +kernel
theorem k218_33 : pm_look (pm_kl 218) 33 = some (.ireturn, 1) := by decide +kernel
theorem k218_34 : pm_look (pm_kl 218) 34 = some (.aload_n 0, 1) := by decide +kernel
theorem k218_35 : pm_look (pm_kl 218) 35 = some (.iload_n 2, 1) := by decide +kernel
theorem k218_36 : pm_look (pm_kl 218) 36 = some (.invokevirtual 238, 3) := by decide +kernel
theorem k218_39 : pm_look (pm_kl 218) 39 = some (.iconst (-1), 1) := by decide +kernel
theorem k218_40 : pm_look (pm_kl 218) 40 = some (.istore 4, 2) := by decide +kernel
theorem k218_42 : pm_look (pm_kl 218) 42 = some (.iconst (-1), 1) := by decide +kernel
theorem k218_43 : pm_look (pm_kl 218) 43 = some (.istore 5, 2) := by decide +kernel
theorem k218_45 : pm_look (pm_kl 218) 45 = some (.iconst 0, 1) := by decide +kernel
theorem k218_46 : pm_look (pm_kl 218) 46 = some (.istore 6, 2) := by decide +kernel
theorem k218_48 : pm_look (pm_kl 218) 48 = some (.iload 6, 2) := by decide +kernel
theorem k218_50 : pm_look (pm_kl 218) 50 = some (.aload_n 0, 1) := by decide +kernel
theorem k218_51 : pm_look (pm_kl 218) 51 = some (.getfield 134, 3) := by decide +kernel
theorem k218_54 : pm_look (pm_kl 218) 54 = some (.if_icmp .ge 142, 3) := by decide +kernel
theorem k218_57 : pm_look (pm_kl 218) 57 = some (.iconst 0, 1) := by decide +kernel
theorem k218_58 : pm_look (pm_kl 218) 58 = some (.istore 7, 2) := by decide +kernel
theorem k218_60 : pm_look (pm_kl 218) 60 = some (.iconst 0, 1) := by decide +kernel
theorem k218_61 : pm_look (pm_kl 218) 61 = some (.istore 8, 2) := by decide +kernel
theorem k218_63 : pm_look (pm_kl 218) 63 = some (.iconst 0, 1) := by decide +kernel
theorem k218_64 : pm_look (pm_kl 218) 64 = some (.istore 9, 2) := by decide +kernel
theorem k218_66 : pm_look (pm_kl 218) 66 = some (.iload 9, 2) := by decide +kernel
theorem k218_68 : pm_look (pm_kl 218) 68 = some (.aload_n 0, 1) := by decide +kernel
theorem k218_69 : pm_look (pm_kl 218) 69 = some (.getfield 175, 3) := by decide +kernel
theorem k218_72 : pm_look (pm_kl 218) 72 = some (.if_icmp .ge 71, 3) := by decide +kernel
theorem k218_75 : pm_look (pm_kl 218) 75 = some (.iload 7, 2) := by decide +kernel
theorem k218_77 : pm_look (pm_kl 218) 77 = some (.aload_n 0, 1) := by decide +kernel
theorem k218_78 : pm_look (pm_kl 218) 78 = some (.iload 9, 2) := by decide +kernel
theorem k218_80 : pm_look (pm_kl 218) 80 = some (.iload_n 1, 1) := by decide +kernel
theorem k218_81 : pm_look (pm_kl 218) 81 = some (.invokevirtual 241, 3) := by decide +kernel
theorem k218_84 : pm_look (pm_kl 218) 84 = some (.ifCond .eq 18, 3) := by decide +kernel
theorem k218_87 : pm_look (pm_kl 218) 87 = some (.aload_n 0, 1) := by decide +kernel
theorem k218_88 : pm_look (pm_kl 218) 88 = some (.iload 9, 2) := by decide +kernel
theorem k218_90 : pm_look (pm_kl 218) 90 = some (.iload 6, 2) := by decide +kernel
theorem k218_92 : pm_look (pm_kl 218) 92 = some (.invokevirtual 241, 3) := by decide +kernel
theorem k218_95 : pm_look (pm_kl 218) 95 = some (.ifCond .eq 7, 3) := by decide +kernel
theorem k218_98 : pm_look (pm_kl 218) 98 = some (.iconst 1, 1) := by decide +kernel
theorem k218_99 : pm_look (pm_kl 218) 99 = some (.goto 4, 3) := by decide +kernel
theorem k218_102 : pm_look (pm_kl 218) 102 = some (.iconst 0, 1) := by decide +kernel
theorem k218_103 : pm_look (pm_kl 218) 103 = some (.iadd, 1) := by decide +kernel
theorem k218_104 : pm_look (pm_kl 218) 104 = some (.istore 7, 2) := by decide +kernel
theorem k218_106 : pm_look (pm_kl 218) 106 = some (.iload 8, 2) := by decide +kernel
theorem k218_108 : pm_look (pm_kl 218) 108 = some (.aload_n 0, 1) := by decide +kernel
theorem k218_109 : pm_look (pm_kl 218) 109 = some (.iload 9, 2) := by decide +kernel
theorem k218_111 : pm_look (pm_kl 218) 111 = some (.iload_n 1, 1) := by decide +kernel
theorem k218_112 : pm_look (pm_kl 218) 112 = some (.invokevirtual 241, 3) := by decide +kernel
theorem k218_115 : pm_look (pm_kl 218) 115 = some (.ifCond .eq 18, 3) := by decide +kernel
theorem k218_118 : pm_look (pm_kl 218) 118 = some (.aload_n 0, 1) := by decide +kernel
theorem k218_119 : pm_look (pm_kl 218) 119 = some (.iload 9, 2) := by decide +kernel
theorem k218_121 : pm_look (pm_kl 218) 121 = some (.iload 6, 2) := by decide +kernel
theorem k218_123 : pm_look (pm_kl 218) 123 = some (.invokevirtual 241, 3) := by decide +kernel
theorem k218_126 : pm_look (pm_kl 218) 126 = some (.ifCond .ne 7, 3) := by decide +kernel
theorem k218_129 : pm_look (pm_kl 218) 129 = some (.iconst 1, 1) := by decide +kernel
theorem k218_130 : pm_look (pm_kl 218) 130 = some (.goto 4, 3) := by decide +kernel
theorem k218_133 : pm_look (pm_kl 218) 133 = some (.iconst 0, 1) := by decide +kernel
theorem k218_134 : pm_look (pm_kl 218) 134 = some (.iadd, 1) := by decide +kernel
theorem k218_135 : pm_look (pm_kl 218) 135 = some (.istore 8, 2) := by decide +kernel
theorem k218_137 : pm_look (pm_kl 218) 137 = some (.iinc 9 1, 3) := by decide +kernel
theorem k218_140 : pm_look (pm_kl 218) 140 = some (.goto (-74), 3) := by decide +kernel
theorem k218_143 : pm_look (pm_kl 218) 143 = some (.iload 7, 2) := by decide +kernel
theorem k218_145 : pm_look (pm_kl 218) 145 = some (.iload 8, 2) := by decide +kernel
theorem k218_147 : pm_look (pm_kl 218) 147 = some (.if_icmp .le 8, 3) := by decide +kernel
theorem k218_150 : pm_look (pm_kl 218) 150 = some (.iload 7, 2) := by decide +kernel
theorem k218_152 : pm_look (pm_kl 218) 152 = some (.goto 5, 3) := by decide +kernel
theorem k218_155 : pm_look (pm_kl 218) 155 = some (.iload 8, 2) := by decide +kernel
theorem k218_157 : pm_look (pm_kl 218) 157 = some (.istore 9, 2) := by decide +kernel
theorem k218_159 : pm_look (pm_kl 218) 159 = some (.aload_n 0, 1) := by decide +kernel
theorem k218_160 : pm_look (pm_kl 218) 160 = some (.iload_n 1, 1) := by decide +kernel
theorem k218_161 : pm_look (pm_kl 218) 161 = some (.iload 6, 2) := by decide +kernel
theorem k218_163 : pm_look (pm_kl 218) 163 = some (.iload_n 2, 1) := by decide +kernel
theorem k218_164 : pm_look (pm_kl 218) 164 = some (.invokevirtual 404, 3) := by decide +kernel
theorem k218_167 : pm_look (pm_kl 218) 167 = some (.ifCond .eq 23, 3) := by decide +kernel
theorem k218_170 : pm_look (pm_kl 218) 170 = some (.iload 4, 2) := by decide +kernel
theorem k218_172 : pm_look (pm_kl 218) 172 = some (.ifCond .lt 10, 3) := by decide +kernel
theorem k218_175 : pm_look (pm_kl 218) 175 = some (.iload 9, 2) := by decide +kernel
theorem k218_177 : pm_look (pm_kl 218) 177 = some (.iload 5, 2) := by decide +kernel
theorem k218_179 : pm_look (pm_kl 218) 179 = some (.if_icmp .ge 11, 3) := by decide +kernel
theorem k218_182 : pm_look (pm_kl 218) 182 = some (.iload 6, 2) := by decide +kernel
theorem k218_184 : pm_look (pm_kl 218) 184 = some (.istore 4, 2) := by decide +kernel
theorem k218_186 : pm_look (pm_kl 218) 186 = some (.iload 9, 2) := by decide +kernel
theorem k218_188 : pm_look (pm_kl 218) 188 = some (.istore 5, 2) := by decide +kernel
theorem k218_190 : pm_look (pm_kl 218) 190 = some (.iinc 6 1, 3) := by decide +kernel
theorem k218_193 : pm_look (pm_kl 218) 193 = some (.goto (-145), 3) := by decide +kernel
theorem k218_196 : pm_look (pm_kl 218) 196 = some (.iload_n 3, 1) := by decide +kernel
theorem k218_197 : pm_look (pm_kl 218) 197 = some (.ifCond .ne 8, 3) := by decide +kernel
theorem k218_200 : pm_look (pm_kl 218) 200 = some (.iload 4, 2) := by decide +kernel
theorem k218_202 : pm_look (pm_kl 218) 202 = some (.goto 5, 3) := by decide +kernel
theorem k218_205 : pm_look (pm_kl 218) 205 = some (.iload 5, 2) := by decide +kernel
theorem k218_207 : pm_look (pm_kl 218) 207 = some (.ireturn, 1) := by decide +kernel
theorem k219_0 : pm_look (pm_kl 219) 0 = some (.lload_n 0, 1) := by decide +kernel
theorem k219_1 : pm_look (pm_kl 219) 1 = some (.lload_n 0, 1) := by decide +kernel
theorem k219_2 : pm_look (pm_kl 219) 2 = some (.iconst 1, 1) := by decide +kernel
theorem k219_3 : pm_look (pm_kl 219) 3 = some (.lushr, 1) := by decide +kernel
theorem k219_4 : pm_look (pm_kl 219) 4 = some (.ldc2_w 314, 3) := by decide +kernel
theorem k219_7 : pm_look (pm_kl 219) 7 = some (.land, 1) := by decide +kernel
theorem k219_8 : pm_look (pm_kl 219) 8 = some (.lsub, 1) := by decide +kernel
theorem k219_9 : pm_look (pm_kl 219) 9 = some (.lstore_n 0, 1) := by decide +kernel
theorem k219_10 : pm_look (pm_kl 219) 10 = some (.lload_n 0, 1) := by decide +kernel
theorem k219_11 : pm_look (pm_kl 219) 11 = some (.ldc2_w 316, 3) := by decide +kernel
theorem k219_14 : pm_look (pm_kl 219) 14 = some (.land, 1) := by decide +kernel
theorem k219_15 : pm_look (pm_kl 219) 15 = some (.lload_n 0, 1) := by decide +kernel
theorem k219_16 : pm_look (pm_kl 219) 16 = some (.iconst 2, 1) := by decide +kernel
theorem k219_17 : pm_look (pm_kl 219) 17 = some (.lushr, 1) := by decide +kernel
theorem k219_18 : pm_look (pm_kl 219) 18 = some (.ldc2_w 316, 3) := by decide +kernel
theorem k219_21 : pm_look (pm_kl 219) 21 = some (.land, 1) := by decide +kernel
theorem k219_22 : pm_look (pm_kl 219) 22 = some (.ladd, 1) := by decide +kernel
theorem k219_23 : pm_look (pm_kl 219) 23 = some (.lstore_n 0, 1) := by decide +kernel
theorem k219_24 : pm_look (pm_kl 219) 24 = some (.lload_n 0, 1) := by decide +kernel
theorem k219_25 : pm_look (pm_kl 219) 25 = some (.lload_n 0, 1) := by decide +kernel
theorem k219_26 : pm_look (pm_kl 219) 26 = some (.iconst 4, 1) := by decide +kernel
theorem k219_27 : pm_look (pm_kl 219) 27 = some (.lushr, 1) := by decide +kernel
theorem k219_28 : pm_look (pm_kl 219) 28 = some (.ladd, 1) := by decide +kernel
theorem k219_29 : pm_look (pm_kl 219) 29 = some (.ldc2_w 318, 3) := by decide +kernel
theorem k219_32 : pm_look (pm_kl 219) 32 = some (.land, 1) := by decide +kernel
theorem k219_33 : pm_look (pm_kl 219) 33 = some (.lstore_n 0, 1) := by decide +kernel
theorem k219_34 : pm_look (pm_kl 219) 34 = some (.lload_n 0, 1) := by decide +kernel
theorem k219_35 : pm_look (pm_kl 219) 35 = some (.lload_n 0, 1) := by decide +kernel
theorem k219_36 : pm_look (pm_kl 219) 36 = some (.bipush 8, 2) := by decide +kernel
theorem k219_38 : pm_look (pm_kl 219) 38 = some (.lushr, 1) := by decide +kernel
theorem k219_39 : pm_look (pm_kl 219) 39 = some (.ladd, 1) := by decide +kernel
theorem k219_40 : pm_look (pm_kl 219) 40 = some (.lstore_n 0, 1) := by decide +kernel
theorem k219_41 : pm_look (pm_kl 219) 41 = some (.lload_n 0, 1) := by decide +kernel
theorem k219_42 : pm_look (pm_kl 219) 42 = some (.lload_n 0, 1) := by decide +kernel
theorem k219_43 : pm_look (pm_kl 219) 43 = some (.bipush 16, 2) := by decide +kernel
theorem k219_45 : pm_look (pm_kl 219) 45 = some (.lushr, 1) := by decide +kernel
theorem k219_46 : pm_look (pm_kl 219) 46 = some (.ladd, 1) := by decide +kernel
theorem k219_47 : pm_look (pm_kl 219) 47 = some (.lstore_n 0, 1) := by decide +kernel
theorem k219_48 : pm_look (pm_kl 219) 48 = some (.lload_n 0, 1) := by decide +kernel
theorem k219_49 : pm_look (pm_kl 219) 49 = some (.lload_n 0, 1) := by decide +kernel
theorem k219_50 : pm_look (pm_kl 219) 50 = some (.bipush 32, 2) := by decide +kernel
theorem k219_52 : pm_look (pm_kl 219) 52 = some (.lushr, 1) := by decide +kernel
theorem k219_53 : pm_look (pm_kl 219) 53 = some (.ladd, 1) := by decide +kernel
theorem k219_54 : pm_look (pm_kl 219) 54 = some (.lstore_n 0, 1) := by decide +kernel
theorem k219_55 : pm_look (pm_kl 219) 55 = some (.lload_n 0, 1) := by decide +kernel
theorem k219_56 : pm_look (pm_kl 219) 56 = some (.l2i, 1) := by decide +kernel
theorem k219_57 : pm_look (pm_kl 219) 57 = some (.bipush 127, 2) := by decide +kernel
theorem k219_59 : pm_look (pm_kl 219) 59 = some (.iand, 1) := by decide +kernel
theorem k219_60 : pm_look (pm_kl 219) 60 = some (.ireturn, 1) := by decide +kernel
theorem k220_0 : pm_look (pm_kl 220) 0 = some (.iload_n 0, 1) := by decide +kernel
theorem k220_1 : pm_look (pm_kl 220) 1 = some (.iload_n 1, 1) := by decide +kernel
theorem k220_2 : pm_look (pm_kl 220) 2 = some (.if_icmp .lt 7, 3) := by decide +kernel
theorem k220_5 : pm_look (pm_kl 220) 5 = some (.iload_n 0, 1) := by decide +kernel
theorem k220_6 : pm_look (pm_kl 220) 6 = some (.goto 4, 3) := by decide +kernel
theorem k220_9 : pm_look (pm_kl 220) 9 = some (.iload_n 1, 1) := by decide +kernel
theorem k220_10 : pm_look (pm_kl 220) 10 = some (.ireturn, 1) := by decide +kernel
theorem k221_0 : pm_look (pm_kl 221) 0 = some (.iload_n 0, 1) := by decide +kernel
theorem k221_1 : pm_look (pm_kl 221) 1 = some (.iload_n 1, 1) := by decide +kernel
theorem k221_2 : pm_look (pm_kl 221) 2 = some (.if_icmp .gt 7, 3) := by decide +kernel
theorem k221_5 : pm_look (pm_kl 221) 5 = some (.iload_n 0, 1) := by decide +kernel
theorem k221_6 : pm_look (pm_kl 221) 6 = some (.goto 4, 3) := by decide +kernel
theorem k221_9 : pm_look (pm_kl 221) 9 = some (.iload_n 1, 1) := by decide +kernel
theorem k221_10 : pm_look (pm_kl 221) 10 = some (.ireturn, 1) := by decide +kernel
theorem k222_0 : pm_look (pm_kl 222) 0 = some (.aload_n 0, 1) := by decide +kernel
theorem k222_1 : pm_look (pm_kl 222) 1 = some (.getfield 9, 3) := by decide +kernel
theorem k222_4 : pm_look (pm_kl 222) 4 = some (.arraylength, 1) := by decide +kernel
theorem k222_5 : pm_look (pm_kl 222) 5 = some (.aload_n 0, 1) := by decide +kernel
theorem k222_6 : pm_look (pm_kl 222) 6 = some (.invokevirtual 335, 3) := by decide +kernel
theorem k222_9 : pm_look (pm_kl 222) 9 = some (.ishr, 1) := by decide +kernel
theorem k222_10 : pm_look (pm_kl 222) 10 = some (.ireturn, 1) := by decide +kernel
theorem k223_0 : pm_look (pm_kl 223) 0 = some (.aload_n 0, 1) := by decide +kernel
theorem k223_1 : pm_look (pm_kl 223) 1 = some (.invokevirtual 492, 3) := by decide +kernel
theorem k223_4 : pm_look (pm_kl 223) 4 = some (.ifCond .eq 12, 3) := by decide +kernel
theorem k223_7 : pm_look (pm_kl 223) 7 = some (.aload_n 0, 1) := by decide +kernel
theorem k223_8 : pm_look (pm_kl 223) 8 = some (.getfield 9, 3) := by decide +kernel
theorem k223_11 : pm_look (pm_kl 223) 11 = some (.iload_n 1, 1) := by decide +kernel
theorem k223_12 : pm_look (pm_kl 223) 12 = some (.invokestatic 495, 3) := by decide +kernel
theorem k223_15 : pm_look (pm_kl 223) 15 = some (.ireturn, 1) := by decide +kernel
theorem k223_16 : pm_look (pm_kl 223) 16 = some (.aload_n 0, 1) := by decide +kernel
theorem k223_17 : pm_look (pm_kl 223) 17 = some (.getfield 9, 3) := by decide +kernel
theorem k223_20 : pm_look (pm_kl 223) 20 = some (.iload_n 1, 1) := by decide +kernel
theorem k223_21 : pm_look (pm_kl 223) 21 = some (.invokestatic 498, 3) := by decide +kernel
theorem k223_24 : pm_look (pm_kl 223) 24 = some (.ireturn, 1) := by decide +kernel
theorem k224_0 : pm_look (pm_kl 224) 0 = some (.getstatic 38, 3) := by decide +kernel
theorem k224_3 : pm_look (pm_kl 224) 3 = some (.ifCond .eq 10, 3) := by decide +kernel
theorem k224_6 : pm_look (pm_kl 224) 6 = some (.aload_n 0, 1) := by decide +kernel
theorem k224_7 : pm_look (pm_kl 224) 7 = some (.getfield 15, 3) := by decide +kernel
theorem k224_10 : pm_look (pm_kl 224) 10 = some (.goto 4, 3) := by decide +kernel
theorem k224_13 : pm_look (pm_kl 224) 13 = some (.iconst 1, 1) := by decide +kernel
theorem k224_14 : pm_look (pm_kl 224) 14 = some (.ireturn, 1) := by decide +kernel
theorem k225_0 : pm_look (pm_kl 225) 0 = some (.getstatic 38, 3) := by decide +kernel
theorem k225_3 : pm_look (pm_kl 225) 3 = some (.ifCond .eq 14, 3) := by decide +kernel
theorem k225_6 : pm_look (pm_kl 225) 6 = some (.aload_n 0, 1) := by decide +kernel
theorem k225_7 : pm_look (pm_kl 225) 7 = some (.getfield 15, 3) := by decide +kernel
theorem k225_10 : pm_look (pm_kl 225) 10 = some (.ifCond .ne 7, 3) := by decide +kernel
theorem k225_13 : pm_look (pm_kl 225) 13 = some (.iconst 1, 1) := by decide +kernel
theorem k225_14 : pm_look (pm_kl 225) 14 = some (.goto 4, 3) := by decide +kernel
theorem k225_17 : pm_look (pm_kl 225) 17 = some (.iconst 0, 1) := by decide +kernel
theorem k225_18 : pm_look (pm_kl 225) 18 = some (.ireturn, 1) := by decide +kernel
theorem k226_0 : pm_look (pm_kl 226) 0 = some (.iload_n 0, 1) := by decide +kernel
theorem k226_1 : pm_look (pm_kl 226) 1 = some (.iload_n 1, 1) := by decide +kernel
theorem k226_2 : pm_look (pm_kl 226) 2 = some (.getstatic 1053, 3) := by decide +kernel
theorem k226_5 : pm_look (pm_kl 226) 5 = some (.invokestatic 1059, 3) := by decide +kernel
theorem k226_8 : pm_look (pm_kl 226) 8 = some (.pop, 1) := by decide +kernel
theorem k226_9 : pm_look (pm_kl 226) 9 = some (.return_, 1) := by decide +kernel
theorem k227_0 : pm_look (pm_kl 227) 0 = some (.iload_n 1, 1) := by decide +kernel
theorem k227_1 : pm_look (pm_kl 227) 1 = some (.aload_n 0, 1) := by decide +kernel
theorem k227_2 : pm_look (pm_kl 227) 2 = some (.arraylength, 1) := by decide +kernel
theorem k227_3 : pm_look (pm_kl 227) 3 = some (.invokestatic 9, 3) := by decide +kernel
theorem k227_6 : pm_look (pm_kl 227) 6 = some (.aload_n 0, 1) := by decide +kernel
theorem k227_7 : pm_look (pm_kl 227) 7 = some (.iload_n 1, 1) := by decide +kernel
theorem k227_8 : pm_look (pm_kl 227) 8 = some (.baload, 1) := by decide +kernel
theorem k227_9 : pm_look (pm_kl 227) 9 = some (.sipush 255, 3) := by decide +kernel
theorem k227_12 : pm_look (pm_kl 227) 12 = some (.iand, 1) := by decide +kernel
theorem k227_13 : pm_look (pm_kl 227) 13 = some (.i2c, 1) := by decide +kernel
theorem k227_14 : pm_look (pm_kl 227) 14 = some (.ireturn, 1) := by decide +kernel
theorem k228_0 : pm_look (pm_kl 228) 0 = some (.iconst 0, 1) := by decide +kernel
theorem k228_1 : pm_look (pm_kl 228) 1 = some (.istore_n 3, 1) := by decide +kernel
theorem k228_2 : pm_look (pm_kl 228) 2 = some (.aload_n 0, 1) := by decide +kernel
theorem k228_3 : pm_look (pm_kl 228) 3 = some (.arraylength, 1) := by decide +kernel
theorem k228_4 : pm_look (pm_kl 228) 4 = some (.istore 4, 2) := by decide +kernel
theorem k228_6 : pm_look (pm_kl 228) 6 = some (.iload_n 3, 1) := by decide +kernel
theorem k228_7 : pm_look (pm_kl 228) 7 = some (.iload 4, 2) := by decide +kernel
theorem k228_9 : pm_look (pm_kl 228) 9 = some (.if_icmp .ge 13, 3) := by decide +kernel
theorem k228_12 : pm_look (pm_kl 228) 12 = some (.aload_n 0, 1) := by decide +kernel
theorem k228_13 : pm_look (pm_kl 228) 13 = some (.iload_n 3, 1) := by decide +kernel
theorem k228_14 : pm_look (pm_kl 228) 14 = some (.lload_n 1, 1) := by decide +kernel
theorem k228_15 : pm_look (pm_kl 228) 15 = some (.lastore, 1) := by decide +kernel
theorem k228_16 : pm_look (pm_kl 228) 16 = some (.iinc 3 1, 3) := by decide +kernel
theorem k228_19 : pm_look (pm_kl 228) 19 = some (.goto (-13), 3) := by decide +kernel
theorem k228_22 : pm_look (pm_kl 228) 22 = some (.return_, 1) := by decide +kernel
theorem k229_0 : pm_look (pm_kl 229) 0 = some (.iconst 0, 1) := by decide +kernel
theorem k229_1 : pm_look (pm_kl 229) 1 = some (.istore_n 2, 1) := by decide +kernel
theorem k229_2 : pm_look (pm_kl 229) 2 = some (.aload_n 0, 1) := by decide +kernel
theorem k229_3 : pm_look (pm_kl 229) 3 = some (.arraylength, 1) := by decide +kernel
theorem k229_4 : pm_look (pm_kl 229) 4 = some (.istore_n 3, 1) := by decide +kernel
theorem k229_5 : pm_look (pm_kl 229) 5 = some (.iload_n 2, 1) := by decide +kernel
theorem k229_6 : pm_look (pm_kl 229) 6 = some (.iload_n 3, 1) := by decide +kernel
theorem k229_7 : pm_look (pm_kl 229) 7 = some (.if_icmp .ge 13, 3) := by decide +kernel
theorem k229_10 : pm_look (pm_kl 229) 10 = some (.aload_n 0, 1) := by decide +kernel
theorem k229_11 : pm_look (pm_kl 229) 11 = some (.iload_n 2, 1) := by decide +kernel
theorem k229_12 : pm_look (pm_kl 229) 12 = some (.iload_n 1, 1) := by decide +kernel
theorem k229_13 : pm_look (pm_kl 229) 13 = some (.iastore, 1) := by decide +kernel
theorem k229_14 : pm_look (pm_kl 229) 14 = some (.iinc 2 1, 3) := by decide +kernel
theorem k229_17 : pm_look (pm_kl 229) 17 = some (.goto (-12), 3) := by decide +kernel
theorem k229_20 : pm_look (pm_kl 229) 20 = some (.return_, 1) := by decide +kernel
theorem k230_0 : pm_look (pm_kl 230) 0 = some (.iload_n 0, 1) := by decide +kernel
theorem k230_1 : pm_look (pm_kl 230) 1 = some (.ifCond .lt 8, 3) := by decide +kernel
theorem k230_4 : pm_look (pm_kl 230) 4 = some (.iload_n 0, 1) := by decide +kernel
theorem k230_5 : pm_look (pm_kl 230) 5 = some (.iload_n 1, 1) := by decide +kernel
theorem k230_6 : pm_look (pm_kl 230) 6 = some (.if_icmp .lt 10, 3) := by decide +kernel
theorem k230_9 : pm_look (pm_kl 230) 9 = some (.aload_n 2, 1) := by decide +kernel
theorem k230_10 : pm_look (pm_kl 230) 10 = some (.iload_n 0, 1) := by decide +kernel
theorem k230_11 : pm_look (pm_kl 230) 11 = some (.iload_n 1, 1) := by decide +kernel
theorem k230_12 : pm_look (pm_kl 230) 12 = some (.invokestatic 95, 3) := by decide +kernel
theorem k230_15 : pm_look (pm_kl 230) 15 = some (.athrow, 1) := by decide +kernel
theorem k230_16 : pm_look (pm_kl 230) 16 = some (.iload_n 0, 1) := by decide +kernel
theorem k230_17 : pm_look (pm_kl 230) 17 = some (.ireturn, 1) := by decide +kernel
