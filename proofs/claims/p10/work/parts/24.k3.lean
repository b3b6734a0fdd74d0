theorem k160_174 : pm_look (pm_kl 160) 174 = some (.iload_n 2, 1) := by decide +kernel
theorem k160_175 : pm_look (pm_kl 160) 175 = some (.if_icmp .ne 67, 3) := by decide +kernel
theorem k160_178 : pm_look (pm_kl 160) 178 = some (.aload_n 0, 1) := by decide +kernel
theorem k160_179 : pm_look (pm_kl 160) 179 = some (.getfield 55, 3) := by decide +kernel
theorem k160_182 : pm_look (pm_kl 160) 182 = some (.iload 4, 2) := by decide +kernel
theorem k160_184 : pm_look (pm_kl 160) 184 = some (.iaload, 1) := by decide +kernel
theorem k160_185 : pm_look (pm_kl 160) 185 = some (.ifCond .ne 22, 3) := by decide +kernel
theorem k160_188 : pm_look (pm_kl 160) 188 = some (.aload_n 0, 1) := by decide +kernel
theorem k160_189 : pm_look (pm_kl 160) 189 = some (.getfield 68, 3) := by decide +kernel
theorem k160_192 : pm_look (pm_kl 160) 192 = some (.aload_n 0, 1) := by decide +kernel
theorem k160_193 : pm_look (pm_kl 160) 193 = some (.getfield 58, 3) := by decide +kernel
theorem k160_196 : pm_look (pm_kl 160) 196 = some (.iload 4, 2) := by decide +kernel
theorem k160_198 : pm_look (pm_kl 160) 198 = some (.iaload, 1) := by decide +kernel
theorem k160_199 : pm_look (pm_kl 160) 199 = some (.aload_n 0, 1) := by decide +kernel
theorem k160_200 : pm_look (pm_kl 160) 200 = some (.getfield 61, 3) := by decide +kernel
theorem k160_203 : pm_look (pm_kl 160) 203 = some (.iload 4, 2) := by decide +kernel
theorem k160_205 : pm_look (pm_kl 160) 205 = some (.iaload, 1) := by decide +kernel
theorem k160_206 : pm_look (pm_kl 160) 206 = some (.iastore, 1) := by decide +kernel
theorem k160_207 : pm_look (pm_kl 160) 207 = some (.aload_n 0, 1) := by decide +kernel
theorem k160_208 : pm_look (pm_kl 160) 208 = some (.aload_n 0, 1) := by decide +kernel
theorem k160_209 : pm_look (pm_kl 160) 209 = some (.getfield 55, 3) := by decide +kernel
theorem k160_212 : pm_look (pm_kl 160) 212 = some (.iload 4, 2) := by decide +kernel
theorem k160_214 : pm_look (pm_kl 160) 214 = some (.iaload, 1) := by decide +kernel
theorem k160_215 : pm_look (pm_kl 160) 215 = some (.iconst 4, 1) := by decide +kernel
theorem k160_216 : pm_look (pm_kl 160) 216 = some (.if_icmp .ne 13, 3) := by decide +kernel
theorem k160_219 : pm_look (pm_kl 160) 219 = some (.aload_n 0, 1) := by decide +kernel
theorem k160_220 : pm_look (pm_kl 160) 220 = some (.getfield 58, 3) := by decide +kernel
theorem k160_223 : pm_look (pm_kl 160) 223 = some (.iload 4, 2) := by decide +kernel
theorem k160_225 : pm_look (pm_kl 160) 225 = some (.iaload, 1) := by decide +kernel
theorem k160_226 : pm_look (pm_kl 160) 226 = some (.goto 7, 3) := by decide +kernel
theorem k160_229 : pm_look (pm_kl 160) 229 = some (.aload_n 0, 1) := by decide +kernel
theorem k160_230 : pm_look (pm_kl 160) 230 = some (.getfield 210, 3) := by decide +kernel
theorem k160_233 : pm_look (pm_kl 160) 233 = some (.putfield 210, 3) := by decide +kernel
theorem k160_236 : pm_look (pm_kl 160) 236 = some (.iinc 4 1, 3) := by decide +kernel
theorem k160_239 : pm_look (pm_kl 160) 239 = some (.goto (-93), 3) := by decide +kernel
theorem k160_242 : pm_look (pm_kl 160) 242 = some (.iinc 3 1, 3) := by decide +kernel
theorem k160_245 : pm_look (pm_kl 160) 245 = some (.goto (-115), 3) := by decide +kernel
theorem k160_248 : pm_look (pm_kl 160) 248 = some (.iinc 2 1, 3) := by decide +kernel
theorem k160_251 : pm_look (pm_kl 160) 251 = some (.goto (-128), 3) := by decide +kernel
theorem k160_254 : pm_look (pm_kl 160) 254 = some (.return_, 1) := by decide +kernel
theorem k161_0 : pm_look (pm_kl 161) 0 = some (.iconst 0, 1) := by decide +kernel
theorem k161_1 : pm_look (pm_kl 161) 1 = some (.istore_n 2, 1) := by decide +kernel
theorem k161_2 : pm_look (pm_kl 161) 2 = some (.iload_n 1, 1) := by decide +kernel
theorem k161_3 : pm_look (pm_kl 161) 3 = some (.aload_n 0, 1) := by decide +kernel
theorem k161_4 : pm_look (pm_kl 161) 4 = some (.getfield 52, 3) := by decide +kernel
theorem k161_7 : pm_look (pm_kl 161) 7 = some (.iload_n 2, 1) := by decide +kernel
theorem k161_8 : pm_look (pm_kl 161) 8 = some (.iconst 1, 1) := by decide +kernel
theorem k161_9 : pm_look (pm_kl 161) 9 = some (.iadd, 1) := by decide +kernel
theorem k161_10 : pm_look (pm_kl 161) 10 = some (.iaload, 1) := by decide +kernel
theorem k161_11 : pm_look (pm_kl 161) 11 = some (.if_icmp .lt 9, 3) := by decide +kernel
theorem k161_14 : pm_look (pm_kl 161) 14 = some (.iinc 2 1, 3) := by decide +kernel
theorem k161_17 : pm_look (pm_kl 161) 17 = some (.goto (-15), 3) := by decide +kernel
theorem k161_20 : pm_look (pm_kl 161) 20 = some (.iload_n 2, 1) := by decide +kernel
theorem k161_21 : pm_look (pm_kl 161) 21 = some (.ireturn, 1) := by decide +kernel
theorem k162_0 : pm_look (pm_kl 162) 0 = some (.aload_n 0, 1) := by decide +kernel
theorem k162_1 : pm_look (pm_kl 162) 1 = some (.getfield 55, 3) := by decide +kernel
theorem k162_4 : pm_look (pm_kl 162) 4 = some (.iload_n 1, 1) := by decide +kernel
theorem k162_5 : pm_look (pm_kl 162) 5 = some (.iaload, 1) := by decide +kernel
theorem k162_6 : pm_look (pm_kl 162) 6 = some (.iload_n 2, 1) := by decide +kernel
theorem k162_7 : pm_look (pm_kl 162) 7 = some (.if_icmp .ne 20, 3) := by decide +kernel
theorem k162_10 : pm_look (pm_kl 162) 10 = some (.aload_n 0, 1) := by decide +kernel
theorem k162_11 : pm_look (pm_kl 162) 11 = some (.getfield 64, 3) := by decide +kernel
theorem k162_14 : pm_look (pm_kl 162) 14 = some (.aload_n 0, 1) := by decide +kernel
theorem k162_15 : pm_look (pm_kl 162) 15 = some (.iload_n 1, 1) := by decide +kernel
theorem k162_16 : pm_look (pm_kl 162) 16 = some (.invokevirtual 213, 3) := by decide +kernel
theorem k162_19 : pm_look (pm_kl 162) 19 = some (.baload, 1) := by decide +kernel
theorem k162_20 : pm_look (pm_kl 162) 20 = some (.ifCond .eq 7, 3) := by decide +kernel
theorem k162_23 : pm_look (pm_kl 162) 23 = some (.iconst 1, 1) := by decide +kernel
theorem k162_24 : pm_look (pm_kl 162) 24 = some (.goto 4, 3) := by decide +kernel
theorem k162_27 : pm_look (pm_kl 162) 27 = some (.iconst 0, 1) := by decide +kernel
theorem k162_28 : pm_look (pm_kl 162) 28 = some (.ireturn, 1) := by decide +kernel
theorem k163_0 : pm_look (pm_kl 163) 0 = some (.iconst 0, 1) := by decide +kernel
theorem k163_1 : pm_look (pm_kl 163) 1 = some (.istore_n 2, 1) := by decide +kernel
theorem k163_2 : pm_look (pm_kl 163) 2 = some (.iconst 0, 1) := by decide +kernel
theorem k163_3 : pm_look (pm_kl 163) 3 = some (.istore_n 3, 1) := by decide +kernel
theorem k163_4 : pm_look (pm_kl 163) 4 = some (.iload_n 3, 1) := by decide +kernel
theorem k163_5 : pm_look (pm_kl 163) 5 = some (.aload_n 0, 1) := by decide +kernel
theorem k163_6 : pm_look (pm_kl 163) 6 = some (.getfield 217, 3) := by decide +kernel
theorem k163_9 : pm_look (pm_kl 163) 9 = some (.if_icmp .ge 78, 3) := by decide +kernel
theorem k163_12 : pm_look (pm_kl 163) 12 = some (.iload_n 1, 1) := by decide +kernel
theorem k163_13 : pm_look (pm_kl 163) 13 = some (.aload_n 0, 1) := by decide +kernel
theorem k163_14 : pm_look (pm_kl 163) 14 = some (.getfield 58, 3) := by decide +kernel
theorem k163_17 : pm_look (pm_kl 163) 17 = some (.iload_n 3, 1) := by decide +kernel
theorem k163_18 : pm_look (pm_kl 163) 18 = some (.iaload, 1) := by decide +kernel
theorem k163_19 : pm_look (pm_kl 163) 19 = some (.ishr, 1) := by decide +kernel
theorem k163_20 : pm_look (pm_kl 163) 20 = some (.iload_n 1, 1) := by decide +kernel
theorem k163_21 : pm_look (pm_kl 163) 21 = some (.aload_n 0, 1) := by decide +kernel
theorem k163_22 : pm_look (pm_kl 163) 22 = some (.getfield 61, 3) := by decide +kernel
theorem k163_25 : pm_look (pm_kl 163) 25 = some (.iload_n 3, 1) := by decide +kernel
theorem k163_26 : pm_look (pm_kl 163) 26 = some (.iaload, 1) := by decide +kernel
theorem k163_27 : pm_look (pm_kl 163) 27 = some (.ishr, 1) := by decide +kernel
theorem k163_28 : pm_look (pm_kl 163) 28 = some (.iand, 1) := by decide +kernel
theorem k163_29 : pm_look (pm_kl 163) 29 = some (.iconst 1, 1) := by decide +kernel
theorem k163_30 : pm_look (pm_kl 163) 30 = some (.iand, 1) := by decide +kernel
theorem k163_31 : pm_look (pm_kl 163) 31 = some (.iconst 1, 1) := by decide +kernel
theorem k163_32 : pm_look (pm_kl 163) 32 = some (.if_icmp .ne 7, 3) := by decide +kernel
theorem k163_35 : pm_look (pm_kl 163) 35 = some (.iconst 1, 1) := by decide +kernel
theorem k163_36 : pm_look (pm_kl 163) 36 = some (.goto 4, 3) := by decide +kernel
theorem k163_39 : pm_look (pm_kl 163) 39 = some (.iconst 0, 1) := by decide +kernel
theorem k163_40 : pm_look (pm_kl 163) 40 = some (.istore 4, 2) := by decide +kernel
theorem k163_42 : pm_look (pm_kl 163) 42 = some (.iload_n 2, 1) := by decide +kernel
theorem k163_43 : pm_look (pm_kl 163) 43 = some (.ifCond .ne 32, 3) := by decide +kernel
theorem k163_46 : pm_look (pm_kl 163) 46 = some (.aload_n 0, 1) := by decide +kernel
theorem k163_47 : pm_look (pm_kl 163) 47 = some (.iload_n 3, 1) := by decide +kernel
theorem k163_48 : pm_look (pm_kl 163) 48 = some (.iconst 2, 1) := by decide +kernel
theorem k163_49 : pm_look (pm_kl 163) 49 = some (.invokevirtual 220, 3) := by decide +kernel
theorem k163_52 : pm_look (pm_kl 163) 52 = some (.ifCond .eq 27, 3) := by decide +kernel
theorem k163_55 : pm_look (pm_kl 163) 55 = some (.aload_n 0, 1) := by decide +kernel
theorem k163_56 : pm_look (pm_kl 163) 56 = some (.getfield 58, 3) := by decide +kernel
theorem k163_59 : pm_look (pm_kl 163) 59 = some (.iload_n 3, 1) := by decide +kernel
theorem k163_60 : pm_look (pm_kl 163) 60 = some (.iaload, 1) := by decide +kernel
theorem k163_61 : pm_look (pm_kl 163) 61 = some (.aload_n 0, 1) := by decide +kernel
theorem k163_62 : pm_look (pm_kl 163) 62 = some (.getfield 61, 3) := by decide +kernel
theorem k163_65 : pm_look (pm_kl 163) 65 = some (.iload_n 3, 1) := by decide +kernel
theorem k163_66 : pm_look (pm_kl 163) 66 = some (.iaload, 1) := by decide +kernel
theorem k163_67 : pm_look (pm_kl 163) 67 = some (.if_icmp .eq 12, 3) := by decide +kernel
theorem k163_70 : pm_look (pm_kl 163) 70 = some (.iload 4, 2) := by decide +kernel
theorem k163_72 : pm_look (pm_kl 163) 72 = some (.ifCond .eq 7, 3) := by decide +kernel
theorem k163_75 : pm_look (pm_kl 163) 75 = some (.iconst 1, 1) := by decide +kernel
theorem k163_76 : pm_look (pm_kl 163) 76 = some (.goto 4, 3) := by decide +kernel
theorem k163_79 : pm_look (pm_kl 163) 79 = some (.iconst 0, 1) := by decide +kernel
theorem k163_80 : pm_look (pm_kl 163) 80 = some (.istore_n 2, 1) := by decide +kernel
theorem k163_81 : pm_look (pm_kl 163) 81 = some (.iinc 3 1, 3) := by decide +kernel
theorem k163_84 : pm_look (pm_kl 163) 84 = some (.goto (-80), 3) := by decide +kernel
theorem k163_87 : pm_look (pm_kl 163) 87 = some (.iload_n 2, 1) := by decide +kernel
theorem k163_88 : pm_look (pm_kl 163) 88 = some (.ireturn, 1) := by decide +kernel
theorem k164_0 : pm_look (pm_kl 164) 0 = some (.iconst 0, 1) := by decide +kernel
theorem k164_1 : pm_look (pm_kl 164) 1 = some (.istore 4, 2) := by decide +kernel
theorem k164_3 : pm_look (pm_kl 164) 3 = some (.iconst 0, 1) := by decide +kernel
theorem k164_4 : pm_look (pm_kl 164) 4 = some (.istore 5, 2) := by decide +kernel
theorem k164_6 : pm_look (pm_kl 164) 6 = some (.iconst 0, 1) := by decide +kernel
theorem k164_7 : pm_look (pm_kl 164) 7 = some (.istore 6, 2) := by decide +kernel
theorem k164_9 : pm_look (pm_kl 164) 9 = some (.iload 6, 2) := by decide +kernel
theorem k164_11 : pm_look (pm_kl 164) 11 = some (.aload_n 0, 1) := by decide +kernel
theorem k164_12 : pm_look (pm_kl 164) 12 = some (.getfield 217, 3) := by decide +kernel
theorem k164_15 : pm_look (pm_kl 164) 15 = some (.if_icmp .ge 87, 3) := by decide +kernel
theorem k164_18 : pm_look (pm_kl 164) 18 = some (.aload_n 0, 1) := by decide +kernel
theorem k164_19 : pm_look (pm_kl 164) 19 = some (.iload 6, 2) := by decide +kernel
theorem k164_21 : pm_look (pm_kl 164) 21 = some (.iconst 1, 1) := by decide +kernel
theorem k164_22 : pm_look (pm_kl 164) 22 = some (.invokevirtual 220, 3) := by decide +kernel
theorem k164_25 : pm_look (pm_kl 164) 25 = some (.ifCond .eq 18, 3) := by decide +kernel
theorem k164_28 : pm_look (pm_kl 164) 28 = some (.aload_n 0, 1) := by decide +kernel
theorem k164_29 : pm_look (pm_kl 164) 29 = some (.getfield 58, 3) := by decide +kernel
theorem k164_32 : pm_look (pm_kl 164) 32 = some (.iload 6, 2) := by decide +kernel
theorem k164_34 : pm_look (pm_kl 164) 34 = some (.iaload, 1) := by decide +kernel
theorem k164_35 : pm_look (pm_kl 164) 35 = some (.iload_n 1, 1) := by decide +kernel
theorem k164_36 : pm_look (pm_kl 164) 36 = some (.if_icmp .ne 7, 3) := by decide +kernel
theorem k164_39 : pm_look (pm_kl 164) 39 = some (.iconst 1, 1) := by decide +kernel
theorem k164_40 : pm_look (pm_kl 164) 40 = some (.goto 4, 3) := by decide +kernel
theorem k164_43 : pm_look (pm_kl 164) 43 = some (.iconst 0, 1) := by decide +kernel
theorem k164_44 : pm_look (pm_kl 164) 44 = some (.istore 7, 2) := by decide +kernel
theorem k164_46 : pm_look (pm_kl 164) 46 = some (.iload 4, 2) := by decide +kernel
theorem k164_48 : pm_look (pm_kl 164) 48 = some (.ifCond .ne 8, 3) := by decide +kernel
theorem k164_51 : pm_look (pm_kl 164) 51 = some (.iload 7, 2) := by decide +kernel
theorem k164_53 : pm_look (pm_kl 164) 53 = some (.ifCond .eq 7, 3) := by decide +kernel
theorem k164_56 : pm_look (pm_kl 164) 56 = some (.iconst 1, 1) := by decide +kernel
theorem k164_57 : pm_look (pm_kl 164) 57 = some (.goto 4, 3) := by decide +kernel
theorem k164_60 : pm_look (pm_kl 164) 60 = some (.iconst 0, 1) := by decide +kernel
theorem k164_61 : pm_look (pm_kl 164) 61 = some (.istore 4, 2) := by decide +kernel
theorem k164_63 : pm_look (pm_kl 164) 63 = some (.iload 5, 2) := by decide +kernel
theorem k164_65 : pm_look (pm_kl 164) 65 = some (.ifCond .ne 24, 3) := by decide +kernel
theorem k164_68 : pm_look (pm_kl 164) 68 = some (.iload 7, 2) := by decide +kernel
theorem k164_70 : pm_look (pm_kl 164) 70 = some (.ifCond .eq 23, 3) := by decide +kernel
theorem k164_73 : pm_look (pm_kl 164) 73 = some (.aload_n 0, 1) := by decide +kernel
theorem k164_74 : pm_look (pm_kl 164) 74 = some (.iload_n 2, 1) := by decide +kernel
theorem k164_75 : pm_look (pm_kl 164) 75 = some (.aload_n 0, 1) := by decide +kernel
theorem k164_76 : pm_look (pm_kl 164) 76 = some (.getfield 61, 3) := by decide +kernel
theorem k164_79 : pm_look (pm_kl 164) 79 = some (.iload 6, 2) := by decide +kernel
theorem k164_81 : pm_look (pm_kl 164) 81 = some (.iaload, 1) := by decide +kernel
theorem k164_82 : pm_look (pm_kl 164) 82 = some (.iload_n 3, 1) := by decide +kernel
theorem k164_83 : pm_look (pm_kl 164) 83 = some (.invokevirtual 156, 3) := by decide +kernel
theorem k164_86 : pm_look (pm_kl 164) 86 = some (.ifCond .eq 7, 3) := by decide +kernel
theorem k164_89 : pm_look (pm_kl 164) 89 = some (.iconst 1, 1) := by decide +kernel
theorem k164_90 : pm_look (pm_kl 164) 90 = some (.goto 4, 3) := by decide +kernel
theorem k164_93 : pm_look (pm_kl 164) 93 = some (.iconst 0, 1) := by decide +kernel
theorem k164_94 : pm_look (pm_kl 164) 94 = some (.istore 5, 2) := by decide +kernel
theorem k164_96 : pm_look (pm_kl 164) 96 = some (.iinc 6 1, 3) := by decide +kernel
theorem k164_99 : pm_look (pm_kl 164) 99 = some (.goto (-90), 3) := by decide +kernel
theorem k164_102 : pm_look (pm_kl 164) 102 = some (.iload 5, 2) := by decide +kernel
theorem k164_104 : pm_look (pm_kl 164) 104 = some (.ifCond .ne 8, 3) := by decide +kernel
theorem k164_107 : pm_look (pm_kl 164) 107 = some (.iload 4, 2) := by decide +kernel
theorem k164_109 : pm_look (pm_kl 164) 109 = some (.ifCond .ne 7, 3) := by decide +kernel
theorem k164_112 : pm_look (pm_kl 164) 112 = some (.iconst 1, 1) := by decide +kernel
theorem k164_113 : pm_look (pm_kl 164) 113 = some (.goto 4, 3) := by decide +kernel
theorem k164_116 : pm_look (pm_kl 164) 116 = some (.iconst 0, 1) := by decide +kernel
theorem k164_117 : pm_look (pm_kl 164) 117 = some (.ireturn, 1) := by decide +kernel
theorem k165_0 : pm_look (pm_kl 165) 0 = some (.aload_n 0, 1) := by decide +kernel
theorem k165_1 : pm_look (pm_kl 165) 1 = some (.getfield 43, 3) := by decide +kernel
theorem k165_4 : pm_look (pm_kl 165) 4 = some (.iload_n 1, 1) := by decide +kernel
theorem k165_5 : pm_look (pm_kl 165) 5 = some (.iaload, 1) := by decide +kernel
theorem k165_6 : pm_look (pm_kl 165) 6 = some (.istore_n 2, 1) := by decide +kernel
theorem k165_7 : pm_look (pm_kl 165) 7 = some (.aload_n 0, 1) := by decide +kernel
theorem k165_8 : pm_look (pm_kl 165) 8 = some (.aload_n 0, 1) := by decide +kernel
theorem k165_9 : pm_look (pm_kl 165) 9 = some (.getfield 34, 3) := by decide +kernel
theorem k165_12 : pm_look (pm_kl 165) 12 = some (.iload_n 1, 1) := by decide +kernel
theorem k165_13 : pm_look (pm_kl 165) 13 = some (.iaload, 1) := by decide +kernel
theorem k165_14 : pm_look (pm_kl 165) 14 = some (.iload_n 2, 1) := by decide +kernel
theorem k165_15 : pm_look (pm_kl 165) 15 = some (.invokevirtual 160, 3) := by decide +kernel
theorem k165_18 : pm_look (pm_kl 165) 18 = some (.ifCond .ne 5, 3) := by decide +kernel
theorem k165_21 : pm_look (pm_kl 165) 21 = some (.iconst 1, 1) := by decide +kernel
theorem k165_22 : pm_look (pm_kl 165) 22 = some (.ireturn, 1) := by decide +kernel
theorem k165_23 : pm_look (pm_kl 165) 23 = some (.iconst 0, 1) := by decide +kernel
theorem k165_24 : pm_look (pm_kl 165) 24 = some (.istore_n 3, 1) := by decide +kernel
theorem k165_25 : pm_look (pm_kl 165) 25 = some (.iload_n 3, 1) := by decide +kernel
theorem k165_26 : pm_look (pm_kl 165) 26 = some (.bipush 6, 2) := by decide +kernel
theorem k165_28 : pm_look (pm_kl 165) 28 = some (.if_icmp .ge 40, 3) := by decide +kernel
theorem k165_31 : pm_look (pm_kl 165) 31 = some (.aload_n 0, 1) := by decide +kernel
theorem k165_32 : pm_look (pm_kl 165) 32 = some (.getfield 40, 3) := by decide +kernel
theorem k165_35 : pm_look (pm_kl 165) 35 = some (.iload_n 1, 1) := by decide +kernel
theorem k165_36 : pm_look (pm_kl 165) 36 = some (.iaload, 1) := by decide +kernel
theorem k165_37 : pm_look (pm_kl 165) 37 = some (.iload_n 3, 1) := by decide +kernel
theorem k165_38 : pm_look (pm_kl 165) 38 = some (.ishr, 1) := by decide +kernel
theorem k165_39 : pm_look (pm_kl 165) 39 = some (.iconst 1, 1) := by decide +kernel
theorem k165_40 : pm_look (pm_kl 165) 40 = some (.iand, 1) := by decide +kernel
theorem k165_41 : pm_look (pm_kl 165) 41 = some (.iconst 1, 1) := by decide +kernel
theorem k165_42 : pm_look (pm_kl 165) 42 = some (.if_icmp .ne 20, 3) := by decide +kernel
theorem k165_45 : pm_look (pm_kl 165) 45 = some (.aload_n 0, 1) := by decide +kernel
theorem k165_46 : pm_look (pm_kl 165) 46 = some (.iload_n 3, 1) := by decide +kernel
theorem k165_47 : pm_look (pm_kl 165) 47 = some (.aload_n 0, 1) := by decide +kernel
theorem k165_48 : pm_look (pm_kl 165) 48 = some (.getfield 34, 3) := by decide +kernel
theorem k165_51 : pm_look (pm_kl 165) 51 = some (.iload_n 1, 1) := by decide +kernel
theorem k165_52 : pm_look (pm_kl 165) 52 = some (.iaload, 1) := by decide +kernel
theorem k165_53 : pm_look (pm_kl 165) 53 = some (.iload_n 2, 1) := by decide +kernel
theorem k165_54 : pm_look (pm_kl 165) 54 = some (.invokevirtual 223, 3) := by decide +kernel
theorem k165_57 : pm_look (pm_kl 165) 57 = some (.ifCond .ne 5, 3) := by decide +kernel
theorem k165_60 : pm_look (pm_kl 165) 60 = some (.iconst 2, 1) := by decide +kernel
theorem k165_61 : pm_look (pm_kl 165) 61 = some (.ireturn, 1) := by decide +kernel
theorem k165_62 : pm_look (pm_kl 165) 62 = some (.iinc 3 1, 3) := by decide +kernel
theorem k165_65 : pm_look (pm_kl 165) 65 = some (.goto (-40), 3) := by decide +kernel
theorem k165_68 : pm_look (pm_kl 165) 68 = some (.aload_n 0, 1) := by decide +kernel
theorem k165_69 : pm_look (pm_kl 165) 69 = some (.aload_n 0, 1) := by decide +kernel
theorem k165_70 : pm_look (pm_kl 165) 70 = some (.getfield 40, 3) := by decide +kernel
theorem k165_73 : pm_look (pm_kl 165) 73 = some (.iload_n 1, 1) := by decide +kernel
theorem k165_74 : pm_look (pm_kl 165) 74 = some (.iaload, 1) := by decide +kernel
theorem k165_75 : pm_look (pm_kl 165) 75 = some (.invokevirtual 226, 3) := by decide +kernel
theorem k165_78 : pm_look (pm_kl 165) 78 = some (.ifCond .eq 5, 3) := by decide +kernel
theorem k165_81 : pm_look (pm_kl 165) 81 = some (.iconst 3, 1) := by decide +kernel
theorem k165_82 : pm_look (pm_kl 165) 82 = some (.ireturn, 1) := by decide +kernel
theorem k165_83 : pm_look (pm_kl 165) 83 = some (.iconst 0, 1) := by decide +kernel
theorem k165_84 : pm_look (pm_kl 165) 84 = some (.istore_n 3, 1) := by decide +kernel
theorem k165_85 : pm_look (pm_kl 165) 85 = some (.iconst 0, 1) := by decide +kernel
theorem k165_86 : pm_look (pm_kl 165) 86 = some (.istore 4, 2) := by decide +kernel
theorem k165_88 : pm_look (pm_kl 165) 88 = some (.iload 4, 2) := by decide +kernel
theorem k165_90 : pm_look (pm_kl 165) 90 = some (.iload_n 1, 1) := by decide +kernel
theorem k165_91 : pm_look (pm_kl 165) 91 = some (.if_icmp .ge 43, 3) := by decide +kernel
theorem k165_94 : pm_look (pm_kl 165) 94 = some (.iload_n 3, 1) := by decide +kernel
theorem k165_95 : pm_look (pm_kl 165) 95 = some (.aload_n 0, 1) := by decide +kernel
theorem k165_96 : pm_look (pm_kl 165) 96 = some (.getfield 31, 3) := by decide +kernel
theorem k165_99 : pm_look (pm_kl 165) 99 = some (.iload 4, 2) := by decide +kernel
theorem k165_101 : pm_look (pm_kl 165) 101 = some (.iaload, 1) := by decide +kernel
theorem k165_102 : pm_look (pm_kl 165) 102 = some (.aload_n 0, 1) := by decide +kernel
theorem k165_103 : pm_look (pm_kl 165) 103 = some (.getfield 31, 3) := by decide +kernel
theorem k165_106 : pm_look (pm_kl 165) 106 = some (.iload_n 1, 1) := by decide +kernel
theorem k165_107 : pm_look (pm_kl 165) 107 = some (.iaload, 1) := by decide +kernel
theorem k165_108 : pm_look (pm_kl 165) 108 = some (.if_icmp .ne 17, 3) := by decide +kernel
theorem k165_111 : pm_look (pm_kl 165) 111 = some (.aload_n 0, 1) := by decide +kernel
theorem k165_112 : pm_look (pm_kl 165) 112 = some (.getfield 71, 3) := by decide +kernel
theorem k165_115 : pm_look (pm_kl 165) 115 = some (.iload 4, 2) := by decide +kernel
theorem k165_117 : pm_look (pm_kl 165) 117 = some (.iaload, 1) := by decide +kernel
theorem k165_118 : pm_look (pm_kl 165) 118 = some (.ifCond .ne 7, 3) := by decide +kernel
theorem k165_121 : pm_look (pm_kl 165) 121 = some (.iconst 1, 1) := by decide +kernel
theorem k165_122 : pm_look (pm_kl 165) 122 = some (.goto 4, 3) := by decide +kernel
theorem k165_125 : pm_look (pm_kl 165) 125 = some (.iconst 0, 1) := by decide +kernel
theorem k165_126 : pm_look (pm_kl 165) 126 = some (.iadd, 1) := by decide +kernel
theorem k165_127 : pm_look (pm_kl 165) 127 = some (.istore_n 3, 1) := by decide +kernel
theorem k165_128 : pm_look (pm_kl 165) 128 = some (.iinc 4 1, 3) := by decide +kernel
theorem k165_131 : pm_look (pm_kl 165) 131 = some (.goto (-43), 3) := by decide +kernel
theorem k165_134 : pm_look (pm_kl 165) 134 = some (.iload_n 3, 1) := by decide +kernel
theorem k165_135 : pm_look (pm_kl 165) 135 = some (.aload_n 0, 1) := by decide +kernel
theorem k165_136 : pm_look (pm_kl 165) 136 = some (.getfield 210, 3) := by decide +kernel
theorem k165_139 : pm_look (pm_kl 165) 139 = some (.if_icmp .lt 7, 3) := by decide +kernel
theorem k165_142 : pm_look (pm_kl 165) 142 = some (.iconst 4, 1) := by decide +kernel
theorem k165_143 : pm_look (pm_kl 165) 143 = some (.goto 4, 3) := by decide +kernel
theorem k165_146 : pm_look (pm_kl 165) 146 = some (.iconst 0, 1) := by decide +kernel
theorem k165_147 : pm_look (pm_kl 165) 147 = some (.ireturn, 1) := by decide +kernel
theorem k166_0 : pm_look (pm_kl 166) 0 = some (.iconst (-1), 1) := by decide +kernel
theorem k166_1 : pm_look (pm_kl 166) 1 = some (.istore_n 1, 1) := by decide +kernel
theorem k166_2 : pm_look (pm_kl 166) 2 = some (.iconst 0, 1) := by decide +kernel
theorem k166_3 : pm_look (pm_kl 166) 3 = some (.istore_n 2, 1) := by decide +kernel
theorem k166_4 : pm_look (pm_kl 166) 4 = some (.iload_n 2, 1) := by decide +kernel
theorem k166_5 : pm_look (pm_kl 166) 5 = some (.aload_n 0, 1) := by decide +kernel
theorem k166_6 : pm_look (pm_kl 166) 6 = some (.getfield 178, 3) := by decide +kernel
theorem k166_9 : pm_look (pm_kl 166) 9 = some (.if_icmp .ge 155, 3) := by decide +kernel
theorem k166_12 : pm_look (pm_kl 166) 12 = some (.aload_n 0, 1) := by decide +kernel
theorem k166_13 : pm_look (pm_kl 166) 13 = some (.getfield 43, 3) := by decide +kernel
theorem k166_16 : pm_look (pm_kl 166) 16 = some (.iload_n 2, 1) := by decide +kernel
theorem k166_17 : pm_look (pm_kl 166) 17 = some (.iaload, 1) := by decide +kernel
theorem k166_18 : pm_look (pm_kl 166) 18 = some (.iload_n 1, 1) := by decide +kernel
theorem k166_19 : pm_look (pm_kl 166) 19 = some (.if_icmp .eq 15, 3) := by decide +kernel
theorem k166_22 : pm_look (pm_kl 166) 22 = some (.aload_n 0, 1) := by decide +kernel
theorem k166_23 : pm_look (pm_kl 166) 23 = some (.getfield 43, 3) := by decide +kernel
theorem k166_26 : pm_look (pm_kl 166) 26 = some (.iload_n 2, 1) := by decide +kernel
theorem k166_27 : pm_look (pm_kl 166) 27 = some (.iaload, 1) := by decide +kernel
theorem k166_28 : pm_look (pm_kl 166) 28 = some (.istore_n 1, 1) := by decide +kernel
theorem k166_29 : pm_look (pm_kl 166) 29 = some (.aload_n 0, 1) := by decide +kernel
theorem k166_30 : pm_look (pm_kl 166) 30 = some (.iload_n 1, 1) := by decide +kernel
theorem k166_31 : pm_look (pm_kl 166) 31 = some (.invokevirtual 229, 3) := by decide +kernel
theorem k166_34 : pm_look (pm_kl 166) 34 = some (.aload_n 0, 1) := by decide +kernel
theorem k166_35 : pm_look (pm_kl 166) 35 = some (.getfield 71, 3) := by decide +kernel
theorem k166_38 : pm_look (pm_kl 166) 38 = some (.iload_n 2, 1) := by decide +kernel
theorem k166_39 : pm_look (pm_kl 166) 39 = some (.aload_n 0, 1) := by decide +kernel
theorem k166_40 : pm_look (pm_kl 166) 40 = some (.iload_n 2, 1) := by decide +kernel
theorem k166_41 : pm_look (pm_kl 166) 41 = some (.invokevirtual 232, 3) := by decide +kernel
theorem k166_44 : pm_look (pm_kl 166) 44 = some (.iastore, 1) := by decide +kernel
theorem k166_45 : pm_look (pm_kl 166) 45 = some (.aload_n 0, 1) := by decide +kernel
theorem k166_46 : pm_look (pm_kl 166) 46 = some (.getfield 74, 3) := by decide +kernel
theorem k166_49 : pm_look (pm_kl 166) 49 = some (.iload_n 2, 1) := by decide +kernel
theorem k166_50 : pm_look (pm_kl 166) 50 = some (.iconst 0, 1) := by decide +kernel
theorem k166_51 : pm_look (pm_kl 166) 51 = some (.bastore, 1) := by decide +kernel
theorem k166_52 : pm_look (pm_kl 166) 52 = some (.aload_n 0, 1) := by decide +kernel
theorem k166_53 : pm_look (pm_kl 166) 53 = some (.getfield 77, 3) := by decide +kernel
theorem k166_56 : pm_look (pm_kl 166) 56 = some (.iload_n 2, 1) := by decide +kernel
theorem k166_57 : pm_look (pm_kl 166) 57 = some (.iconst 0, 1) := by decide +kernel
theorem k166_58 : pm_look (pm_kl 166) 58 = some (.iastore, 1) := by decide +kernel
theorem k166_59 : pm_look (pm_kl 166) 59 = some (.iconst 0, 1) := by decide +kernel
theorem k166_60 : pm_look (pm_kl 166) 60 = some (.istore_n 3, 1) := by decide +kernel
theorem k166_61 : pm_look (pm_kl 166) 61 = some (.iload_n 3, 1) := by decide +kernel
theorem k166_62 : pm_look (pm_kl 166) 62 = some (.bipush 6, 2) := by decide +kernel
theorem k166_64 : pm_look (pm_kl 166) 64 = some (.if_icmp .ge 94, 3) := by decide +kernel
theorem k166_67 : pm_look (pm_kl 166) 67 = some (.aload_n 0, 1) := by decide +kernel
theorem k166_68 : pm_look (pm_kl 166) 68 = some (.getfield 40, 3) := by decide +kernel
theorem k166_71 : pm_look (pm_kl 166) 71 = some (.iload_n 2, 1) := by decide +kernel
theorem k166_72 : pm_look (pm_kl 166) 72 = some (.iaload, 1) := by decide +kernel
theorem k166_73 : pm_look (pm_kl 166) 73 = some (.iload_n 3, 1) := by decide +kernel
theorem k166_74 : pm_look (pm_kl 166) 74 = some (.ishr, 1) := by decide +kernel
theorem k166_75 : pm_look (pm_kl 166) 75 = some (.iconst 1, 1) := by decide +kernel
theorem k166_76 : pm_look (pm_kl 166) 76 = some (.iand, 1) := by decide +kernel
theorem k166_77 : pm_look (pm_kl 166) 77 = some (.iconst 1, 1) := by decide +kernel
theorem k166_78 : pm_look (pm_kl 166) 78 = some (.if_icmp .ne 7, 3) := by decide +kernel
theorem k166_81 : pm_look (pm_kl 166) 81 = some (.iconst 1, 1) := by decide +kernel
theorem k166_82 : pm_look (pm_kl 166) 82 = some (.goto 4, 3) := by decide +kernel
theorem k166_85 : pm_look (pm_kl 166) 85 = some (.iconst 0, 1) := by decide +kernel
theorem k166_86 : pm_look (pm_kl 166) 86 = some (.istore 4, 2) := by decide +kernel
theorem k166_88 : pm_look (pm_kl 166) 88 = some (.aload_n 0, 1) := by decide +kernel
theorem k166_89 : pm_look (pm_kl 166) 89 = some (.getfield 74, 3) := by decide +kernel
theorem k166_92 : pm_look (pm_kl 166) 92 = some (.iload_n 2, 1) := by decide +kernel
theorem k166_93 : pm_look (pm_kl 166) 93 = some (.aload_n 0, 1) := by decide +kernel
theorem k166_94 : pm_look (pm_kl 166) 94 = some (.getfield 74, 3) := by decide +kernel
theorem k166_97 : pm_look (pm_kl 166) 97 = some (.iload_n 2, 1) := by decide +kernel
theorem k166_98 : pm_look (pm_kl 166) 98 = some (.baload, 1) := by decide +kernel
theorem k166_99 : pm_look (pm_kl 166) 99 = some (.ifCond .ne 18, 3) := by decide +kernel
theorem k166_102 : pm_look (pm_kl 166) 102 = some (.iload 4, 2) := by decide +kernel
theorem k166_104 : pm_look (pm_kl 166) 104 = some (.ifCond .eq 17, 3) := by decide +kernel
theorem k166_107 : pm_look (pm_kl 166) 107 = some (.aload_n 0, 1) := by decide +kernel
theorem k166_108 : pm_look (pm_kl 166) 108 = some (.getfield 68, 3) := by decide +kernel
theorem k166_111 : pm_look (pm_kl 166) 111 = some (.iload_n 3, 1) := by decide +kernel
theorem k166_112 : pm_look (pm_kl 166) 112 = some (.iaload, 1) := by decide +kernel
theorem k166_113 : pm_look (pm_kl 166) 113 = some (.iconst 1, 1) := by decide +kernel
theorem k166_114 : pm_look (pm_kl 166) 114 = some (.if_icmp .ne 7, 3) := by decide +kernel
theorem k166_117 : pm_look (pm_kl 166) 117 = some (.iconst 1, 1) := by decide +kernel
theorem k166_118 : pm_look (pm_kl 166) 118 = some (.goto 4, 3) := by decide +kernel
theorem k166_121 : pm_look (pm_kl 166) 121 = some (.iconst 0, 1) := by decide +kernel
theorem k166_122 : pm_look (pm_kl 166) 122 = some (.bastore, 1) := by decide +kernel
theorem k166_123 : pm_look (pm_kl 166) 123 = some (.aload_n 0, 1) := by decide +kernel
theorem k166_124 : pm_look (pm_kl 166) 124 = some (.getfield 77, 3) := by decide +kernel
theorem k166_127 : pm_look (pm_kl 166) 127 = some (.iload_n 2, 1) := by decide +kernel
theorem k166_128 : pm_look (pm_kl 166) 128 = some (.dup2, 1) := by decide +kernel
theorem k166_129 : pm_look (pm_kl 166) 129 = some (.iaload, 1) := by decide +kernel
theorem k166_130 : pm_look (pm_kl 166) 130 = some (.iload 4, 2) := by decide +kernel
theorem k166_132 : pm_look (pm_kl 166) 132 = some (.ifCond .eq 17, 3) := by decide +kernel
theorem k166_135 : pm_look (pm_kl 166) 135 = some (.aload_n 0, 1) := by decide +kernel
theorem k166_136 : pm_look (pm_kl 166) 136 = some (.getfield 68, 3) := by decide +kernel
theorem k166_139 : pm_look (pm_kl 166) 139 = some (.iload_n 3, 1) := by decide +kernel
theorem k166_140 : pm_look (pm_kl 166) 140 = some (.iaload, 1) := by decide +kernel
theorem k166_141 : pm_look (pm_kl 166) 141 = some (.iconst 2, 1) := by decide +kernel
theorem k166_142 : pm_look (pm_kl 166) 142 = some (.if_icmp .ne 7, 3) := by decide +kernel
theorem k166_145 : pm_look (pm_kl 166) 145 = some (.iconst 1, 1) := by decide +kernel
theorem k166_146 : pm_look (pm_kl 166) 146 = some (.goto 4, 3) := by decide +kernel
theorem k166_149 : pm_look (pm_kl 166) 149 = some (.iconst 0, 1) := by decide +kernel
theorem k166_150 : pm_look (pm_kl 166) 150 = some (.iadd, 1) := by decide +kernel
theorem k166_151 : pm_look (pm_kl 166) 151 = some (.iastore, 1) := by decide +kernel
theorem k166_152 : pm_look (pm_kl 166) 152 = some (.iinc 3 1, 3) := by decide +kernel
theorem k166_155 : pm_look (pm_kl 166) 155 = some (.goto (-94), 3) := by decide +kernel
theorem k166_158 : pm_look (pm_kl 166) 158 = some (.iinc 2 1, 3) := by decide +kernel
theorem k166_161 : pm_look (pm_kl 166) 161 = some (.goto (-157), 3) := by decide +kernel
theorem k166_164 : pm_look (pm_kl 166) 164 = some (.return_, 1) := by decide +kernel
theorem k167_0 : pm_look (pm_kl 167) 0 = some (.aload_n 0, 1) := by decide +kernel
theorem k167_1 : pm_look (pm_kl 167) 1 = some (.getfield 83, 3) := by decide +kernel
theorem k167_4 : pm_look (pm_kl 167) 4 = some (.iload_n 1, 1) := by decide +kernel
theorem k167_5 : pm_look (pm_kl 167) 5 = some (.iconst 0, 1) := by decide +kernel
theorem k167_6 : pm_look (pm_kl 167) 6 = some (.bastore, 1) := by decide +kernel
theorem k167_7 : pm_look (pm_kl 167) 7 = some (.aload_n 0, 1) := by decide +kernel
theorem k167_8 : pm_look (pm_kl 167) 8 = some (.getfield 80, 3) := by decide +kernel
theorem k167_11 : pm_look (pm_kl 167) 11 = some (.iload_n 1, 1) := by decide +kernel
theorem k167_12 : pm_look (pm_kl 167) 12 = some (.iconst (-1), 1) := by decide +kernel
theorem k167_13 : pm_look (pm_kl 167) 13 = some (.iastore, 1) := by decide +kernel
theorem k167_14 : pm_look (pm_kl 167) 14 = some (.aload_n 0, 1) := by decide +kernel
theorem k167_15 : pm_look (pm_kl 167) 15 = some (.getfield 43, 3) := by decide +kernel
theorem k167_18 : pm_look (pm_kl 167) 18 = some (.iload_n 1, 1) := by decide +kernel
theorem k167_19 : pm_look (pm_kl 167) 19 = some (.iaload, 1) := by decide +kernel
theorem k167_20 : pm_look (pm_kl 167) 20 = some (.iload_n 2, 1) := by decide +kernel
theorem k167_21 : pm_look (pm_kl 167) 21 = some (.if_icmp .gt 31, 3) := by decide +kernel
theorem k167_24 : pm_look (pm_kl 167) 24 = some (.aload_n 0, 1) := by decide +kernel
theorem k167_25 : pm_look (pm_kl 167) 25 = some (.getfield 71, 3) := by decide +kernel
theorem k167_28 : pm_look (pm_kl 167) 28 = some (.iload_n 1, 1) := by decide +kernel
theorem k167_29 : pm_look (pm_kl 167) 29 = some (.iaload, 1) := by decide +kernel
theorem k167_30 : pm_look (pm_kl 167) 30 = some (.ifCond .gt 22, 3) := by decide +kernel
theorem k167_33 : pm_look (pm_kl 167) 33 = some (.aload_n 0, 1) := by decide +kernel
theorem k167_34 : pm_look (pm_kl 167) 34 = some (.getfield 74, 3) := by decide +kernel
theorem k167_37 : pm_look (pm_kl 167) 37 = some (.iload_n 1, 1) := by decide +kernel
theorem k167_38 : pm_look (pm_kl 167) 38 = some (.baload, 1) := by decide +kernel
theorem k167_39 : pm_look (pm_kl 167) 39 = some (.ifCond .ne 13, 3) := by decide +kernel
theorem k167_42 : pm_look (pm_kl 167) 42 = some (.aload_n 0, 1) := by decide +kernel
theorem k167_43 : pm_look (pm_kl 167) 43 = some (.iload_n 1, 1) := by decide +kernel
theorem k167_44 : pm_look (pm_kl 167) 44 = some (.iload_n 2, 1) := by decide +kernel
theorem k167_45 : pm_look (pm_kl 167) 45 = some (.invokevirtual 198, 3) := by decide +kernel
theorem k167_48 : pm_look (pm_kl 167) 48 = some (.iconst 1, 1) := by decide +kernel
theorem k167_49 : pm_look (pm_kl 167) 49 = some (.if_icmp .le 4, 3) := by decide +kernel
theorem k167_52 : pm_look (pm_kl 167) 52 = some (.return_, 1) := by decide +kernel
theorem k167_53 : pm_look (pm_kl 167) 53 = some (.aload_n 0, 1) := by decide +kernel
theorem k167_54 : pm_look (pm_kl 167) 54 = some (.getfield 34, 3) := by decide +kernel
theorem k167_57 : pm_look (pm_kl 167) 57 = some (.iload_n 1, 1) := by decide +kernel
theorem k167_58 : pm_look (pm_kl 167) 58 = some (.iaload, 1) := by decide +kernel
theorem k167_59 : pm_look (pm_kl 167) 59 = some (.istore_n 3, 1) := by decide +kernel
theorem k167_60 : pm_look (pm_kl 167) 60 = some (.aload_n 0, 1) := by decide +kernel
theorem k167_61 : pm_look (pm_kl 167) 61 = some (.getfield 13, 3) := by decide +kernel
theorem k167_64 : pm_look (pm_kl 167) 64 = some (.iload_n 3, 1) := by decide +kernel
theorem k167_65 : pm_look (pm_kl 167) 65 = some (.iaload, 1) := by decide +kernel
theorem k167_66 : pm_look (pm_kl 167) 66 = some (.ifCond .lt 63, 3) := by decide +kernel
theorem k167_69 : pm_look (pm_kl 167) 69 = some (.aload_n 0, 1) := by decide +kernel
theorem k167_70 : pm_look (pm_kl 167) 70 = some (.getfield 13, 3) := by decide +kernel
theorem k167_73 : pm_look (pm_kl 167) 73 = some (.iload_n 3, 1) := by decide +kernel
theorem k167_74 : pm_look (pm_kl 167) 74 = some (.iaload, 1) := by decide +kernel
theorem k167_75 : pm_look (pm_kl 167) 75 = some (.iload_n 2, 1) := by decide +kernel
theorem k167_76 : pm_look (pm_kl 167) 76 = some (.if_icmp .gt 53, 3) := by decide +kernel
theorem k167_79 : pm_look (pm_kl 167) 79 = some (.aload_n 0, 1) := by decide +kernel
theorem k167_80 : pm_look (pm_kl 167) 80 = some (.getfield 16, 3) := by decide +kernel
theorem k167_83 : pm_look (pm_kl 167) 83 = some (.iload_n 3, 1) := by decide +kernel
theorem k167_84 : pm_look (pm_kl 167) 84 = some (.iaload, 1) := by decide +kernel
theorem k167_85 : pm_look (pm_kl 167) 85 = some (.ifCond .lt 13, 3) := by decide +kernel
theorem k167_88 : pm_look (pm_kl 167) 88 = some (.aload_n 0, 1) := by decide +kernel
theorem k167_89 : pm_look (pm_kl 167) 89 = some (.getfield 16, 3) := by decide +kernel
theorem k167_92 : pm_look (pm_kl 167) 92 = some (.iload_n 3, 1) := by decide +kernel
theorem k167_93 : pm_look (pm_kl 167) 93 = some (.iaload, 1) := by decide +kernel
theorem k167_94 : pm_look (pm_kl 167) 94 = some (.istore_n 3, 1) := by decide +kernel
theorem k167_95 : pm_look (pm_kl 167) 95 = some (.goto (-35), 3) := by decide +kernel
theorem k167_98 : pm_look (pm_kl 167) 98 = some (.aload_n 0, 1) := by decide +kernel
theorem k167_99 : pm_look (pm_kl 167) 99 = some (.getfield 83, 3) := by decide +kernel
theorem k167_102 : pm_look (pm_kl 167) 102 = some (.iload_n 1, 1) := by decide +kernel
theorem k167_103 : pm_look (pm_kl 167) 103 = some (.iconst 1, 1) := by decide +kernel
theorem k167_104 : pm_look (pm_kl 167) 104 = some (.bastore, 1) := by decide +kernel
theorem k167_105 : pm_look (pm_kl 167) 105 = some (.aload_n 0, 1) := by decide +kernel
theorem k167_106 : pm_look (pm_kl 167) 106 = some (.iload_n 3, 1) := by decide +kernel
theorem k167_107 : pm_look (pm_kl 167) 107 = some (.iload_n 2, 1) := by decide +kernel
theorem k167_108 : pm_look (pm_kl 167) 108 = some (.invokevirtual 160, 3) := by decide +kernel
theorem k167_111 : pm_look (pm_kl 167) 111 = some (.ifCond .ne (-51), 3) := by decide +kernel
theorem k167_114 : pm_look (pm_kl 167) 114 = some (.aload_n 0, 1) := by decide +kernel
theorem k167_115 : pm_look (pm_kl 167) 115 = some (.getfield 19, 3) := by decide +kernel
theorem k167_118 : pm_look (pm_kl 167) 118 = some (.bipush 10, 2) := by decide +kernel
theorem k167_120 : pm_look (pm_kl 167) 120 = some (.iload_n 3, 1) := by decide +kernel
theorem k167_121 : pm_look (pm_kl 167) 121 = some (.imul, 1) := by decide +kernel
theorem k167_122 : pm_look (pm_kl 167) 122 = some (.iload_n 2, 1) := by decide +kernel
theorem k167_123 : pm_look (pm_kl 167) 123 = some (.iadd, 1) := by decide +kernel
theorem k167_124 : pm_look (pm_kl 167) 124 = some (.iaload, 1) := by decide +kernel
theorem k167_125 : pm_look (pm_kl 167) 125 = some (.istore_n 3, 1) := by decide +kernel
theorem k167_126 : pm_look (pm_kl 167) 126 = some (.goto (-21), 3) := by decide +kernel
theorem k167_129 : pm_look (pm_kl 167) 129 = some (.iconst 0, 1) := by decide +kernel
theorem k167_130 : pm_look (pm_kl 167) 130 = some (.istore 4, 2) := by decide +kernel
theorem k167_132 : pm_look (pm_kl 167) 132 = some (.iload 4, 2) := by decide +kernel
theorem k167_134 : pm_look (pm_kl 167) 134 = some (.aload_n 0, 1) := by decide +kernel
theorem k167_135 : pm_look (pm_kl 167) 135 = some (.getfield 77, 3) := by decide +kernel
theorem k167_138 : pm_look (pm_kl 167) 138 = some (.iload_n 1, 1) := by decide +kernel
theorem k167_139 : pm_look (pm_kl 167) 139 = some (.iaload, 1) := by decide +kernel
theorem k167_140 : pm_look (pm_kl 167) 140 = some (.if_icmp .ge 29, 3) := by decide +kernel
theorem k167_143 : pm_look (pm_kl 167) 143 = some (.iload_n 3, 1) := by decide +kernel
theorem k167_144 : pm_look (pm_kl 167) 144 = some (.ifCond .ne 7, 3) := by decide +kernel
theorem k167_147 : pm_look (pm_kl 167) 147 = some (.iconst 0, 1) := by decide +kernel
theorem k167_148 : pm_look (pm_kl 167) 148 = some (.goto 14, 3) := by decide +kernel
theorem k167_151 : pm_look (pm_kl 167) 151 = some (.aload_n 0, 1) := by decide +kernel
theorem k167_152 : pm_look (pm_kl 167) 152 = some (.getfield 19, 3) := by decide +kernel
theorem k167_155 : pm_look (pm_kl 167) 155 = some (.bipush 10, 2) := by decide +kernel
theorem k167_157 : pm_look (pm_kl 167) 157 = some (.iload_n 3, 1) := by decide +kernel
theorem k167_158 : pm_look (pm_kl 167) 158 = some (.imul, 1) := by decide +kernel
theorem k167_159 : pm_look (pm_kl 167) 159 = some (.iload_n 2, 1) := by decide +kernel
theorem k167_160 : pm_look (pm_kl 167) 160 = some (.iadd, 1) := by decide +kernel
theorem k167_161 : pm_look (pm_kl 167) 161 = some (.iaload, 1) := by decide +kernel
theorem k167_162 : pm_look (pm_kl 167) 162 = some (.istore_n 3, 1) := by decide +kernel
theorem k167_163 : pm_look (pm_kl 167) 163 = some (.iinc 4 1, 3) := by decide +kernel
theorem k167_166 : pm_look (pm_kl 167) 166 = some (.goto (-34), 3) := by decide +kernel
theorem k167_169 : pm_look (pm_kl 167) 169 = some (.aload_n 0, 1) := by decide +kernel
theorem k167_170 : pm_look (pm_kl 167) 170 = some (.getfield 80, 3) := by decide +kernel
theorem k167_173 : pm_look (pm_kl 167) 173 = some (.iload_n 1, 1) := by decide +kernel
theorem k167_174 : pm_look (pm_kl 167) 174 = some (.iload_n 3, 1) := by decide +kernel
theorem k167_175 : pm_look (pm_kl 167) 175 = some (.iastore, 1) := by decide +kernel
theorem k167_176 : pm_look (pm_kl 167) 176 = some (.return_, 1) := by decide +kernel
theorem k168_0 : pm_look (pm_kl 168) 0 = some (.aload_n 0, 1) := by decide +kernel
theorem k168_1 : pm_look (pm_kl 168) 1 = some (.invokevirtual 201, 3) := by decide +kernel
theorem k168_4 : pm_look (pm_kl 168) 4 = some (.iconst 0, 1) := by decide +kernel
theorem k168_5 : pm_look (pm_kl 168) 5 = some (.istore_n 2, 1) := by decide +kernel
theorem k168_6 : pm_look (pm_kl 168) 6 = some (.iload_n 2, 1) := by decide +kernel
theorem k168_7 : pm_look (pm_kl 168) 7 = some (.aload_n 0, 1) := by decide +kernel
theorem k168_8 : pm_look (pm_kl 168) 8 = some (.getfield 175, 3) := by decide +kernel
theorem k168_11 : pm_look (pm_kl 168) 11 = some (.if_icmp .ge 16, 3) := by decide +kernel
theorem k168_14 : pm_look (pm_kl 168) 14 = some (.aload_n 0, 1) := by decide +kernel
theorem k168_15 : pm_look (pm_kl 168) 15 = some (.getfield 86, 3) := by decide +kernel
theorem k168_18 : pm_look (pm_kl 168) 18 = some (.iload_n 2, 1) := by decide +kernel
theorem k168_19 : pm_look (pm_kl 168) 19 = some (.lconst 0, 1) := by decide +kernel
theorem k168_20 : pm_look (pm_kl 168) 20 = some (.lastore, 1) := by decide +kernel
theorem k168_21 : pm_look (pm_kl 168) 21 = some (.iinc 2 1, 3) := by decide +kernel
theorem k168_24 : pm_look (pm_kl 168) 24 = some (.goto (-18), 3) := by decide +kernel
theorem k168_27 : pm_look (pm_kl 168) 27 = some (.iconst 0, 1) := by decide +kernel
theorem k168_28 : pm_look (pm_kl 168) 28 = some (.istore_n 2, 1) := by decide +kernel
theorem k168_29 : pm_look (pm_kl 168) 29 = some (.iload_n 2, 1) := by decide +kernel
theorem k168_30 : pm_look (pm_kl 168) 30 = some (.aload_n 0, 1) := by decide +kernel
theorem k168_31 : pm_look (pm_kl 168) 31 = some (.getfield 178, 3) := by decide +kernel
theorem k168_34 : pm_look (pm_kl 168) 34 = some (.if_icmp .ge 58, 3) := by decide +kernel
theorem k168_37 : pm_look (pm_kl 168) 37 = some (.aload_n 0, 1) := by decide +kernel
theorem k168_38 : pm_look (pm_kl 168) 38 = some (.iload_n 2, 1) := by decide +kernel
theorem k168_39 : pm_look (pm_kl 168) 39 = some (.iload_n 1, 1) := by decide +kernel
theorem k168_40 : pm_look (pm_kl 168) 40 = some (.invokevirtual 235, 3) := by decide +kernel
theorem k168_43 : pm_look (pm_kl 168) 43 = some (.aload_n 0, 1) := by decide +kernel
theorem k168_44 : pm_look (pm_kl 168) 44 = some (.getfield 80, 3) := by decide +kernel
theorem k168_47 : pm_look (pm_kl 168) 47 = some (.iload_n 2, 1) := by decide +kernel
theorem k168_48 : pm_look (pm_kl 168) 48 = some (.iaload, 1) := by decide +kernel
theorem k168_49 : pm_look (pm_kl 168) 49 = some (.istore_n 3, 1) := by decide +kernel
theorem k168_50 : pm_look (pm_kl 168) 50 = some (.iload_n 3, 1) := by decide +kernel
theorem k168_51 : pm_look (pm_kl 168) 51 = some (.ifCond .lt 35, 3) := by decide +kernel
theorem k168_54 : pm_look (pm_kl 168) 54 = some (.aload_n 0, 1) := by decide +kernel
theorem k168_55 : pm_look (pm_kl 168) 55 = some (.getfield 86, 3) := by decide +kernel
theorem k168_58 : pm_look (pm_kl 168) 58 = some (.aload_n 0, 1) := by decide +kernel
theorem k168_59 : pm_look (pm_kl 168) 59 = some (.getfield 31, 3) := by decide +kernel
theorem k168_62 : pm_look (pm_kl 168) 62 = some (.iload_n 2, 1) := by decide +kernel
theorem k168_63 : pm_look (pm_kl 168) 63 = some (.iaload, 1) := by decide +kernel
theorem k168_64 : pm_look (pm_kl 168) 64 = some (.dup2, 1) := by decide +kernel
theorem k168_65 : pm_look (pm_kl 168) 65 = some (.laload, 1) := by decide +kernel
theorem k168_66 : pm_look (pm_kl 168) 66 = some (.lconst 1, 1) := by decide +kernel
theorem k168_67 : pm_look (pm_kl 168) 67 = some (.iload_n 3, 1) := by decide +kernel
theorem k168_68 : pm_look (pm_kl 168) 68 = some (.lshl, 1) := by decide +kernel
theorem k168_69 : pm_look (pm_kl 168) 69 = some (.lor, 1) := by decide +kernel
theorem k168_70 : pm_look (pm_kl 168) 70 = some (.lastore, 1) := by decide +kernel
theorem k168_71 : pm_look (pm_kl 168) 71 = some (.aload_n 0, 1) := by decide +kernel
theorem k168_72 : pm_look (pm_kl 168) 72 = some (.getfield 19, 3) := by decide +kernel
theorem k168_75 : pm_look (pm_kl 168) 75 = some (.bipush 10, 2) := by decide +kernel
theorem k168_77 : pm_look (pm_kl 168) 77 = some (.iload_n 3, 1) := by decide +kernel
theorem k168_78 : pm_look (pm_kl 168) 78 = some (.imul, 1) := by decide +kernel
theorem k168_79 : pm_look (pm_kl 168) 79 = some (.iload_n 1, 1) := by decide +kernel
theorem k168_80 : pm_look (pm_kl 168) 80 = some (.iadd, 1) := by decide +kernel
theorem k168_81 : pm_look (pm_kl 168) 81 = some (.iaload, 1) := by decide +kernel
theorem k168_82 : pm_look (pm_kl 168) 82 = some (.istore_n 3, 1) := by decide +kernel
theorem k168_83 : pm_look (pm_kl 168) 83 = some (.goto (-33), 3) := by decide +kernel
theorem k168_86 : pm_look (pm_kl 168) 86 = some (.iinc 2 1, 3) := by decide +kernel
theorem k168_89 : pm_look (pm_kl 168) 89 = some (.goto (-60), 3) := by decide +kernel
theorem k168_92 : pm_look (pm_kl 168) 92 = some (.return_, 1) := by decide +kernel
theorem k169_0 : pm_look (pm_kl 169) 0 = some (.iload_n 2, 1) := by decide +kernel
theorem k169_1 : pm_look (pm_kl 169) 1 = some (.bipush 40, 2) := by decide +kernel
theorem k169_3 : pm_look (pm_kl 169) 3 = some (.if_icmp .ge 22, 3) := by decide +kernel
theorem k169_6 : pm_look (pm_kl 169) 6 = some (.aload_n 0, 1) := by decide +kernel
theorem k169_7 : pm_look (pm_kl 169) 7 = some (.getfield 86, 3) := by decide +kernel
theorem k169_10 : pm_look (pm_kl 169) 10 = some (.iload_n 1, 1) := by decide +kernel
theorem k169_11 : pm_look (pm_kl 169) 11 = some (.laload, 1) := by decide +kernel
theorem k169_12 : pm_look (pm_kl 169) 12 = some (.iload_n 2, 1) := by decide +kernel
theorem k169_13 : pm_look (pm_kl 169) 13 = some (.lshr, 1) := by decide +kernel
theorem k169_14 : pm_look (pm_kl 169) 14 = some (.lconst 1, 1) := by decide +kernel
theorem k169_15 : pm_look (pm_kl 169) 15 = some (.land, 1) := by decide +kernel
theorem k169_16 : pm_look (pm_kl 169) 16 = some (.lconst 1, 1) := by decide +kernel
theorem k169_17 : pm_look (pm_kl 169) 17 = some (.lcmp, 1) := by decide +kernel
theorem k169_18 : pm_look (pm_kl 169) 18 = some (.ifCond .ne 7, 3) := by decide +kernel
theorem k169_21 : pm_look (pm_kl 169) 21 = some (.iconst 1, 1) := by decide +kernel
theorem k169_22 : pm_look (pm_kl 169) 22 = some (.goto 4, 3) := by decide +kernel
theorem k169_25 : pm_look (pm_kl 169) 25 = some (.iconst 0, 1) := by decide +kernel
theorem k169_26 : pm_look (pm_kl 169) 26 = some (.ireturn, 1) := by decide +kernel
theorem k170_0 : pm_look (pm_kl 170) 0 = some (.aload_n 0, 1) := by decide +kernel
theorem k170_1 : pm_look (pm_kl 170) 1 = some (.iload_n 2, 1) := by decide +kernel
theorem k170_2 : pm_look (pm_kl 170) 2 = some (.invokevirtual 238, 3) := by decide +kernel
theorem k170_5 : pm_look (pm_kl 170) 5 = some (.iconst 0, 1) := by decide +kernel
theorem k170_6 : pm_look (pm_kl 170) 6 = some (.istore_n 3, 1) := by decide +kernel
theorem k170_7 : pm_look (pm_kl 170) 7 = some (.iconst 0, 1) := by decide +kernel
theorem k170_8 : pm_look (pm_kl 170) 8 = some (.istore 4, 2) := by decide +kernel
theorem k170_10 : pm_look (pm_kl 170) 10 = some (.iload 4, 2) := by decide +kernel
theorem k170_12 : pm_look (pm_kl 170) 12 = some (.aload_n 0, 1) := by decide +kernel
theorem k170_13 : pm_look (pm_kl 170) 13 = some (.getfield 175, 3) := by decide +kernel
theorem k170_16 : pm_look (pm_kl 170) 16 = some (.if_icmp .ge 27, 3) := by decide +kernel
theorem k170_19 : pm_look (pm_kl 170) 19 = some (.iload_n 3, 1) := by decide +kernel
theorem k170_20 : pm_look (pm_kl 170) 20 = some (.aload_n 0, 1) := by decide +kernel
theorem k170_21 : pm_look (pm_kl 170) 21 = some (.iload 4, 2) := by decide +kernel
theorem k170_23 : pm_look (pm_kl 170) 23 = some (.iload_n 1, 1) := by decide +kernel
theorem k170_24 : pm_look (pm_kl 170) 24 = some (.invokevirtual 241, 3) := by decide +kernel
theorem k170_27 : pm_look (pm_kl 170) 27 = some (.ifCond .eq 7, 3) := by decide +kernel
theorem k170_30 : pm_look (pm_kl 170) 30 = some (.iconst 1, 1) := by decide +kernel
theorem k170_31 : pm_look (pm_kl 170) 31 = some (.goto 4, 3) := by decide +kernel
theorem k170_34 : pm_look (pm_kl 170) 34 = some (.iconst 0, 1) := by decide +kernel
theorem k170_35 : pm_look (pm_kl 170) 35 = some (.iadd, 1) := by decide +kernel
theorem k170_36 : pm_look (pm_kl 170) 36 = some (.istore_n 3, 1) := by decide +kernel
theorem k170_37 : pm_look (pm_kl 170) 37 = some (.iinc 4 1, 3) := by decide +kernel
theorem k170_40 : pm_look (pm_kl 170) 40 = some (.goto (-30), 3) := by decide +kernel
theorem k170_43 : pm_look (pm_kl 170) 43 = some (.iload_n 3, 1) := by decide +kernel
theorem k170_44 : pm_look (pm_kl 170) 44 = some (.ireturn, 1) := by decide +kernel
theorem k171_0 : pm_look (pm_kl 171) 0 = some (.iconst 0, 1) := by decide +kernel
theorem k171_1 : pm_look (pm_kl 171) 1 = some (.istore_n 3, 1) := by decide +kernel
theorem k171_2 : pm_look (pm_kl 171) 2 = some (.aload_n 0, 1) := by decide +kernel
theorem k171_3 : pm_look (pm_kl 171) 3 = some (.iload_n 2, 1) := by decide +kernel
theorem k171_4 : pm_look (pm_kl 171) 4 = some (.invokevirtual 229, 3) := by decide +kernel
theorem k171_7 : pm_look (pm_kl 171) 7 = some (.iconst 0, 1) := by decide +kernel
theorem k171_8 : pm_look (pm_kl 171) 8 = some (.istore 4, 2) := by decide +kernel
theorem k171_10 : pm_look (pm_kl 171) 10 = some (.iload 4, 2) := by decide +kernel
theorem k171_12 : pm_look (pm_kl 171) 12 = some (.aload_n 0, 1) := by decide +kernel
theorem k171_13 : pm_look (pm_kl 171) 13 = some (.getfield 217, 3) := by decide +kernel
theorem k171_16 : pm_look (pm_kl 171) 16 = some (.if_icmp .ge 70, 3) := by decide +kernel
theorem k171_19 : pm_look (pm_kl 171) 19 = some (.iload_n 3, 1) := by decide +kernel
theorem k171_20 : pm_look (pm_kl 171) 20 = some (.ifCond .ne 54, 3) := by decide +kernel
theorem k171_23 : pm_look (pm_kl 171) 23 = some (.aload_n 0, 1) := by decide +kernel
theorem k171_24 : pm_look (pm_kl 171) 24 = some (.iload 4, 2) := by decide +kernel
theorem k171_26 : pm_look (pm_kl 171) 26 = some (.iconst 3, 1) := by decide +kernel
theorem k171_27 : pm_look (pm_kl 171) 27 = some (.invokevirtual 220, 3) := by decide +kernel
theorem k171_30 : pm_look (pm_kl 171) 30 = some (.ifCond .eq 48, 3) := by decide +kernel
theorem k171_33 : pm_look (pm_kl 171) 33 = some (.aload_n 0, 1) := by decide +kernel
theorem k171_34 : pm_look (pm_kl 171) 34 = some (.aload_n 0, 1) := by decide +kernel
theorem k171_35 : pm_look (pm_kl 171) 35 = some (.getfield 34, 3) := by decide +kernel
theorem k171_38 : pm_look (pm_kl 171) 38 = some (.iload_n 1, 1) := by decide +kernel
theorem k171_39 : pm_look (pm_kl 171) 39 = some (.iaload, 1) := by decide +kernel
theorem k171_40 : pm_look (pm_kl 171) 40 = some (.aload_n 0, 1) := by decide +kernel
theorem k171_41 : pm_look (pm_kl 171) 41 = some (.getfield 58, 3) := by decide +kernel
theorem k171_44 : pm_look (pm_kl 171) 44 = some (.iload 4, 2) := by decide +kernel
theorem k171_46 : pm_look (pm_kl 171) 46 = some (.iaload, 1) := by decide +kernel
theorem k171_47 : pm_look (pm_kl 171) 47 = some (.iload_n 2, 1) := by decide +kernel
theorem k171_48 : pm_look (pm_kl 171) 48 = some (.invokevirtual 156, 3) := by decide +kernel
theorem k171_51 : pm_look (pm_kl 171) 51 = some (.ifCond .eq 27, 3) := by decide +kernel
theorem k171_54 : pm_look (pm_kl 171) 54 = some (.aload_n 0, 1) := by decide +kernel
theorem k171_55 : pm_look (pm_kl 171) 55 = some (.aload_n 0, 1) := by decide +kernel
theorem k171_56 : pm_look (pm_kl 171) 56 = some (.getfield 31, 3) := by decide +kernel
theorem k171_59 : pm_look (pm_kl 171) 59 = some (.iload_n 1, 1) := by decide +kernel
theorem k171_60 : pm_look (pm_kl 171) 60 = some (.iaload, 1) := by decide +kernel
theorem k171_61 : pm_look (pm_kl 171) 61 = some (.aload_n 0, 1) := by decide +kernel
theorem k171_62 : pm_look (pm_kl 171) 62 = some (.getfield 61, 3) := by decide +kernel
theorem k171_65 : pm_look (pm_kl 171) 65 = some (.iload 4, 2) := by decide +kernel
theorem k171_67 : pm_look (pm_kl 171) 67 = some (.iaload, 1) := by decide +kernel
theorem k171_68 : pm_look (pm_kl 171) 68 = some (.invokevirtual 241, 3) := by decide +kernel
theorem k171_71 : pm_look (pm_kl 171) 71 = some (.ifCond .ne 7, 3) := by decide +kernel
theorem k171_74 : pm_look (pm_kl 171) 74 = some (.iconst 1, 1) := by decide +kernel
theorem k171_75 : pm_look (pm_kl 171) 75 = some (.goto 4, 3) := by decide +kernel
theorem k171_78 : pm_look (pm_kl 171) 78 = some (.iconst 0, 1) := by decide +kernel
theorem k171_79 : pm_look (pm_kl 171) 79 = some (.istore_n 3, 1) := by decide +kernel
theorem k171_80 : pm_look (pm_kl 171) 80 = some (.iinc 4 1, 3) := by decide +kernel
theorem k171_83 : pm_look (pm_kl 171) 83 = some (.goto (-73), 3) := by decide +kernel
theorem k171_86 : pm_look (pm_kl 171) 86 = some (.iload_n 3, 1) := by decide +kernel
theorem k171_87 : pm_look (pm_kl 171) 87 = some (.ifCond .eq 16, 3) := by decide +kernel
theorem k171_90 : pm_look (pm_kl 171) 90 = some (.aload_n 0, 1) := by decide +kernel
theorem k171_91 : pm_look (pm_kl 171) 91 = some (.getfield 71, 3) := by decide +kernel
theorem k171_94 : pm_look (pm_kl 171) 94 = some (.iload_n 1, 1) := by decide +kernel
theorem k171_95 : pm_look (pm_kl 171) 95 = some (.iaload, 1) := by decide +kernel
theorem k171_96 : pm_look (pm_kl 171) 96 = some (.ifCond .ne 7, 3) := by decide +kernel
theorem k171_99 : pm_look (pm_kl 171) 99 = some (.iconst 1, 1) := by decide +kernel
theorem k171_100 : pm_look (pm_kl 171) 100 = some (.goto 4, 3) := by decide +kernel
theorem k171_103 : pm_look (pm_kl 171) 103 = some (.iconst 0, 1) := by decide +kernel
theorem k171_104 : pm_look (pm_kl 171) 104 = some (.ireturn, 1) := by decide +kernel
theorem k172_0 : pm_look (pm_kl 172) 0 = some (.aload_n 0, 1) := by decide +kernel
theorem k172_1 : pm_look (pm_kl 172) 1 = some (.iload_n 1, 1) := by decide +kernel
theorem k172_2 : pm_look (pm_kl 172) 2 = some (.invokevirtual 195, 3) := by decide +kernel
theorem k172_5 : pm_look (pm_kl 172) 5 = some (.ifCond .ne 7, 3) := by decide +kernel
theorem k172_8 : pm_look (pm_kl 172) 8 = some (.sipush (-1001), 3) := by decide +kernel
theorem k172_11 : pm_look (pm_kl 172) 11 = some (.ireturn, 1) := by decide +kernel
theorem k172_12 : pm_look (pm_kl 172) 12 = some (.aload_n 0, 1) := by decide +kernel
theorem k172_13 : pm_look (pm_kl 172) 13 = some (.iload_n 2, 1) := by decide +kernel
theorem k172_14 : pm_look (pm_kl 172) 14 = some (.invokevirtual 167, 3) := by decide +kernel
theorem k172_17 : pm_look (pm_kl 172) 17 = some (.ifCond .eq 15, 3) := by decide +kernel
theorem k172_20 : pm_look (pm_kl 172) 20 = some (.iload_n 3, 1) := by decide +kernel
theorem k172_21 : pm_look (pm_kl 172) 21 = some (.i2l, 1) := by decide +kernel
theorem k172_22 : pm_look (pm_kl 172) 22 = some (.lconst 0, 1) := by decide +kernel
theorem k172_23 : pm_look (pm_kl 172) 23 = some (.ldc2_w 244, 3) := by decide +kernel
theorem k172_26 : pm_look (pm_kl 172) 26 = some (.invokestatic 137, 3) := by decide +kernel
theorem k172_29 : pm_look (pm_kl 172) 29 = some (.ifCond .ne 7, 3) := by decide +kernel
theorem k172_32 : pm_look (pm_kl 172) 32 = some (.sipush (-1002), 3) := by decide +kernel
theorem k172_35 : pm_look (pm_kl 172) 35 = some (.ireturn, 1) := by decide +kernel
theorem k172_36 : pm_look (pm_kl 172) 36 = some (.aload_n 0, 1) := by decide +kernel
theorem k172_37 : pm_look (pm_kl 172) 37 = some (.getfield 43, 3) := by decide +kernel
theorem k172_40 : pm_look (pm_kl 172) 40 = some (.iload_n 1, 1) := by decide +kernel
theorem k172_41 : pm_look (pm_kl 172) 41 = some (.iaload, 1) := by decide +kernel
theorem k172_42 : pm_look (pm_kl 172) 42 = some (.iload_n 2, 1) := by decide +kernel
theorem k172_43 : pm_look (pm_kl 172) 43 = some (.if_icmp .le 7, 3) := by decide +kernel
theorem k172_46 : pm_look (pm_kl 172) 46 = some (.sipush (-1003), 3) := by decide +kernel
theorem k172_49 : pm_look (pm_kl 172) 49 = some (.ireturn, 1) := by decide +kernel
theorem k172_50 : pm_look (pm_kl 172) 50 = some (.aload_n 0, 1) := by decide +kernel
theorem k172_51 : pm_look (pm_kl 172) 51 = some (.iload_n 2, 1) := by decide +kernel
theorem k172_52 : pm_look (pm_kl 172) 52 = some (.invokevirtual 238, 3) := by decide +kernel
theorem k172_55 : pm_look (pm_kl 172) 55 = some (.iload_n 3, 1) := by decide +kernel
theorem k172_56 : pm_look (pm_kl 172) 56 = some (.ifCond .ne 12, 3) := by decide +kernel
theorem k172_59 : pm_look (pm_kl 172) 59 = some (.aload_n 0, 1) := by decide +kernel
theorem k172_60 : pm_look (pm_kl 172) 60 = some (.getfield 80, 3) := by decide +kernel
theorem k172_63 : pm_look (pm_kl 172) 63 = some (.iload_n 1, 1) := by decide +kernel
theorem k172_64 : pm_look (pm_kl 172) 64 = some (.iaload, 1) := by decide +kernel
theorem k172_65 : pm_look (pm_kl 172) 65 = some (.goto 34, 3) := by decide +kernel
theorem k172_68 : pm_look (pm_kl 172) 68 = some (.iload_n 3, 1) := by decide +kernel
theorem k172_69 : pm_look (pm_kl 172) 69 = some (.iconst 1, 1) := by decide +kernel
theorem k172_70 : pm_look (pm_kl 172) 70 = some (.if_icmp .ne 15, 3) := by decide +kernel
theorem k172_73 : pm_look (pm_kl 172) 73 = some (.aload_n 0, 1) := by decide +kernel
theorem k172_74 : pm_look (pm_kl 172) 74 = some (.getfield 83, 3) := by decide +kernel
theorem k172_77 : pm_look (pm_kl 172) 77 = some (.iload_n 1, 1) := by decide +kernel
theorem k172_78 : pm_look (pm_kl 172) 78 = some (.baload, 1) := by decide +kernel
theorem k172_79 : pm_look (pm_kl 172) 79 = some (.ifCond .eq 19, 3) := by decide +kernel
theorem k172_82 : pm_look (pm_kl 172) 82 = some (.goto 12, 3) := by decide +kernel
theorem k172_85 : pm_look (pm_kl 172) 85 = some (.aload_n 0, 1) := by decide +kernel
theorem k172_86 : pm_look (pm_kl 172) 86 = some (.iload_n 1, 1) := by decide +kernel
theorem k172_87 : pm_look (pm_kl 172) 87 = some (.iload_n 2, 1) := by decide +kernel
theorem k172_88 : pm_look (pm_kl 172) 88 = some (.invokevirtual 246, 3) := by decide +kernel
theorem k172_91 : pm_look (pm_kl 172) 91 = some (.ifCond .eq 7, 3) := by decide +kernel
theorem k172_94 : pm_look (pm_kl 172) 94 = some (.iconst 1, 1) := by decide +kernel
theorem k172_95 : pm_look (pm_kl 172) 95 = some (.goto 4, 3) := by decide +kernel
theorem k172_98 : pm_look (pm_kl 172) 98 = some (.iconst 0, 1) := by decide +kernel
theorem k172_99 : pm_look (pm_kl 172) 99 = some (.ireturn, 1) := by decide +kernel
theorem k173_0 : pm_look (pm_kl 173) 0 = some (.aload_n 0, 1) := by decide +kernel
theorem k173_1 : pm_look (pm_kl 173) 1 = some (.iload_n 1, 1) := by decide +kernel
theorem k173_2 : pm_look (pm_kl 173) 2 = some (.invokevirtual 183, 3) := by decide +kernel
theorem k173_5 : pm_look (pm_kl 173) 5 = some (.ifCond .eq 11, 3) := by decide +kernel
theorem k173_8 : pm_look (pm_kl 173) 8 = some (.aload_n 0, 1) := by decide +kernel
theorem k173_9 : pm_look (pm_kl 173) 9 = some (.iload_n 2, 1) := by decide +kernel
theorem k173_10 : pm_look (pm_kl 173) 10 = some (.invokevirtual 148, 3) := by decide +kernel
theorem k173_13 : pm_look (pm_kl 173) 13 = some (.ifCond .ne 7, 3) := by decide +kernel
theorem k173_16 : pm_look (pm_kl 173) 16 = some (.sipush (-1001), 3) := by decide +kernel
theorem k173_19 : pm_look (pm_kl 173) 19 = some (.ireturn, 1) := by decide +kernel
theorem k173_20 : pm_look (pm_kl 173) 20 = some (.aload_n 0, 1) := by decide +kernel
theorem k173_21 : pm_look (pm_kl 173) 21 = some (.iload_n 3, 1) := by decide +kernel
theorem k173_22 : pm_look (pm_kl 173) 22 = some (.invokevirtual 167, 3) := by decide +kernel
theorem k173_25 : pm_look (pm_kl 173) 25 = some (.ifCond .ne 7, 3) := by decide +kernel
theorem k173_28 : pm_look (pm_kl 173) 28 = some (.sipush (-1002), 3) := by decide +kernel
theorem k173_31 : pm_look (pm_kl 173) 31 = some (.ireturn, 1) := by decide +kernel
theorem k173_32 : pm_look (pm_kl 173) 32 = some (.aload_n 0, 1) := by decide +kernel
theorem k173_33 : pm_look (pm_kl 173) 33 = some (.iload_n 3, 1) := by decide +kernel
theorem k173_34 : pm_look (pm_kl 173) 34 = some (.invokevirtual 238, 3) := by decide +kernel
theorem k173_37 : pm_look (pm_kl 173) 37 = some (.iconst 0, 1) := by decide +kernel
theorem k173_38 : pm_look (pm_kl 173) 38 = some (.istore 4, 2) := by decide +kernel
theorem k173_40 : pm_look (pm_kl 173) 40 = some (.iload 4, 2) := by decide +kernel
theorem k173_42 : pm_look (pm_kl 173) 42 = some (.aload_n 0, 1) := by decide +kernel
theorem k173_43 : pm_look (pm_kl 173) 43 = some (.getfield 178, 3) := by decide +kernel
theorem k173_46 : pm_look (pm_kl 173) 46 = some (.if_icmp .ge 49, 3) := by decide +kernel
theorem k173_49 : pm_look (pm_kl 173) 49 = some (.aload_n 0, 1) := by decide +kernel
theorem k173_50 : pm_look (pm_kl 173) 50 = some (.getfield 31, 3) := by decide +kernel
theorem k173_53 : pm_look (pm_kl 173) 53 = some (.iload 4, 2) := by decide +kernel
theorem k173_55 : pm_look (pm_kl 173) 55 = some (.iaload, 1) := by decide +kernel
theorem k173_56 : pm_look (pm_kl 173) 56 = some (.iload_n 1, 1) := by decide +kernel
theorem k173_57 : pm_look (pm_kl 173) 57 = some (.if_icmp .ne 32, 3) := by decide +kernel
theorem k173_60 : pm_look (pm_kl 173) 60 = some (.aload_n 0, 1) := by decide +kernel
theorem k173_61 : pm_look (pm_kl 173) 61 = some (.getfield 80, 3) := by decide +kernel
theorem k173_64 : pm_look (pm_kl 173) 64 = some (.iload 4, 2) := by decide +kernel
theorem k173_66 : pm_look (pm_kl 173) 66 = some (.iaload, 1) := by decide +kernel
theorem k173_67 : pm_look (pm_kl 173) 67 = some (.ifCond .lt 22, 3) := by decide +kernel
theorem k173_70 : pm_look (pm_kl 173) 70 = some (.aload_n 0, 1) := by decide +kernel
theorem k173_71 : pm_look (pm_kl 173) 71 = some (.aload_n 0, 1) := by decide +kernel
theorem k173_72 : pm_look (pm_kl 173) 72 = some (.getfield 80, 3) := by decide +kernel
theorem k173_75 : pm_look (pm_kl 173) 75 = some (.iload 4, 2) := by decide +kernel
theorem k173_77 : pm_look (pm_kl 173) 77 = some (.iaload, 1) := by decide +kernel
theorem k173_78 : pm_look (pm_kl 173) 78 = some (.iload_n 2, 1) := by decide +kernel
theorem k173_79 : pm_look (pm_kl 173) 79 = some (.iload_n 3, 1) := by decide +kernel
theorem k173_80 : pm_look (pm_kl 173) 80 = some (.invokevirtual 156, 3) := by decide +kernel
theorem k173_83 : pm_look (pm_kl 173) 83 = some (.ifCond .eq 6, 3) := by decide +kernel
theorem k173_86 : pm_look (pm_kl 173) 86 = some (.iload 4, 2) := by decide +kernel
theorem k173_88 : pm_look (pm_kl 173) 88 = some (.ireturn, 1) := by decide +kernel
theorem k173_89 : pm_look (pm_kl 173) 89 = some (.iinc 4 1, 3) := by decide +kernel
theorem k173_92 : pm_look (pm_kl 173) 92 = some (.goto (-52), 3) := by decide +kernel
theorem k173_95 : pm_look (pm_kl 173) 95 = some (.iconst (-1), 1) := by decide +kernel
theorem k173_96 : pm_look (pm_kl 173) 96 = some (.ireturn, 1) := by decide +kernel
theorem k174_0 : pm_look (pm_kl 174) 0 = some (.aload_n 0, 1) := by decide +kernel
theorem k174_1 : pm_look (pm_kl 174) 1 = some (.aload_n 0, 1) := by decide +kernel
theorem k174_2 : pm_look (pm_kl 174) 2 = some (.getfield 141, 3) := by decide +kernel
theorem k174_5 : pm_look (pm_kl 174) 5 = some (.invokevirtual 238, 3) := by decide +kernel
theorem k174_8 : pm_look (pm_kl 174) 8 = some (.iconst 0, 1) := by decide +kernel
theorem k174_9 : pm_look (pm_kl 174) 9 = some (.istore_n 2, 1) := by decide +kernel
theorem k174_10 : pm_look (pm_kl 174) 10 = some (.iconst 0, 1) := by decide +kernel
theorem k174_11 : pm_look (pm_kl 174) 11 = some (.istore_n 3, 1) := by decide +kernel
theorem k174_12 : pm_look (pm_kl 174) 12 = some (.iload_n 3, 1) := by decide +kernel
theorem k174_13 : pm_look (pm_kl 174) 13 = some (.aload_n 0, 1) := by decide +kernel
theorem k174_14 : pm_look (pm_kl 174) 14 = some (.getfield 134, 3) := by decide +kernel
theorem k174_17 : pm_look (pm_kl 174) 17 = some (.if_icmp .ge 29, 3) := by decide +kernel
theorem k174_20 : pm_look (pm_kl 174) 20 = some (.iload_n 2, 1) := by decide +kernel
theorem k174_21 : pm_look (pm_kl 174) 21 = some (.aload_n 0, 1) := by decide +kernel
theorem k174_22 : pm_look (pm_kl 174) 22 = some (.iload_n 3, 1) := by decide +kernel
theorem k174_23 : pm_look (pm_kl 174) 23 = some (.aload_n 0, 1) := by decide +kernel
theorem k174_24 : pm_look (pm_kl 174) 24 = some (.getfield 141, 3) := by decide +kernel
theorem k174_27 : pm_look (pm_kl 174) 27 = some (.invokevirtual 160, 3) := by decide +kernel
theorem k174_30 : pm_look (pm_kl 174) 30 = some (.ifCond .eq 7, 3) := by decide +kernel
theorem k174_33 : pm_look (pm_kl 174) 33 = some (.iconst 1, 1) := by decide +kernel
theorem k174_34 : pm_look (pm_kl 174) 34 = some (.goto 4, 3) := by decide +kernel
theorem k174_37 : pm_look (pm_kl 174) 37 = some (.iconst 0, 1) := by decide +kernel
theorem k174_38 : pm_look (pm_kl 174) 38 = some (.iadd, 1) := by decide +kernel
theorem k174_39 : pm_look (pm_kl 174) 39 = some (.istore_n 2, 1) := by decide +kernel
theorem k174_40 : pm_look (pm_kl 174) 40 = some (.iinc 3 1, 3) := by decide +kernel
theorem k174_43 : pm_look (pm_kl 174) 43 = some (.goto (-31), 3) := by decide +kernel
theorem k174_46 : pm_look (pm_kl 174) 46 = some (.iconst 0, 1) := by decide +kernel
theorem k174_47 : pm_look (pm_kl 174) 47 = some (.istore_n 3, 1) := by decide +kernel
theorem k174_48 : pm_look (pm_kl 174) 48 = some (.iconst 0, 1) := by decide +kernel
theorem k174_49 : pm_look (pm_kl 174) 49 = some (.istore 4, 2) := by decide +kernel
theorem k174_51 : pm_look (pm_kl 174) 51 = some (.iconst 0, 1) := by decide +kernel
theorem k174_52 : pm_look (pm_kl 174) 52 = some (.istore 5, 2) := by decide +kernel
theorem k174_54 : pm_look (pm_kl 174) 54 = some (.iconst 0, 1) := by decide +kernel
theorem k174_55 : pm_look (pm_kl 174) 55 = some (.istore 6, 2) := by decide +kernel
theorem k174_57 : pm_look (pm_kl 174) 57 = some (.iload 6, 2) := by decide +kernel
theorem k174_59 : pm_look (pm_kl 174) 59 = some (.aload_n 0, 1) := by decide +kernel
theorem k174_60 : pm_look (pm_kl 174) 60 = some (.getfield 178, 3) := by decide +kernel
theorem k174_63 : pm_look (pm_kl 174) 63 = some (.if_icmp .ge 76, 3) := by decide +kernel
theorem k174_66 : pm_look (pm_kl 174) 66 = some (.iload_n 3, 1) := by decide +kernel
theorem k174_67 : pm_look (pm_kl 174) 67 = some (.aload_n 0, 1) := by decide +kernel
theorem k174_68 : pm_look (pm_kl 174) 68 = some (.getfield 71, 3) := by decide +kernel
theorem k174_71 : pm_look (pm_kl 174) 71 = some (.iload 6, 2) := by decide +kernel
theorem k174_73 : pm_look (pm_kl 174) 73 = some (.iaload, 1) := by decide +kernel
theorem k174_74 : pm_look (pm_kl 174) 74 = some (.ifCond .le 7, 3) := by decide +kernel
theorem k174_77 : pm_look (pm_kl 174) 77 = some (.iconst 1, 1) := by decide +kernel
theorem k174_78 : pm_look (pm_kl 174) 78 = some (.goto 4, 3) := by decide +kernel
theorem k174_81 : pm_look (pm_kl 174) 81 = some (.iconst 0, 1) := by decide +kernel
theorem k174_82 : pm_look (pm_kl 174) 82 = some (.iadd, 1) := by decide +kernel
theorem k174_83 : pm_look (pm_kl 174) 83 = some (.istore_n 3, 1) := by decide +kernel
theorem k174_84 : pm_look (pm_kl 174) 84 = some (.iload 4, 2) := by decide +kernel
theorem k174_86 : pm_look (pm_kl 174) 86 = some (.aload_n 0, 1) := by decide +kernel
theorem k174_87 : pm_look (pm_kl 174) 87 = some (.getfield 83, 3) := by decide +kernel
theorem k174_90 : pm_look (pm_kl 174) 90 = some (.iload 6, 2) := by decide +kernel
theorem k174_92 : pm_look (pm_kl 174) 92 = some (.baload, 1) := by decide +kernel
theorem k174_93 : pm_look (pm_kl 174) 93 = some (.ifCond .eq 7, 3) := by decide +kernel
theorem k174_96 : pm_look (pm_kl 174) 96 = some (.iconst 1, 1) := by decide +kernel
theorem k174_97 : pm_look (pm_kl 174) 97 = some (.goto 4, 3) := by decide +kernel
theorem k174_100 : pm_look (pm_kl 174) 100 = some (.iconst 0, 1) := by decide +kernel
theorem k174_101 : pm_look (pm_kl 174) 101 = some (.iadd, 1) := by decide +kernel
theorem k174_102 : pm_look (pm_kl 174) 102 = some (.istore 4, 2) := by decide +kernel
theorem k174_104 : pm_look (pm_kl 174) 104 = some (.iload 5, 2) := by decide +kernel
theorem k174_106 : pm_look (pm_kl 174) 106 = some (.iload_n 1, 1) := by decide +kernel
theorem k174_107 : pm_look (pm_kl 174) 107 = some (.bipush 7, 2) := by decide +kernel
theorem k174_109 : pm_look (pm_kl 174) 109 = some (.if_icmp .ne 20, 3) := by decide +kernel
theorem k174_112 : pm_look (pm_kl 174) 112 = some (.aload_n 0, 1) := by decide +kernel
theorem k174_113 : pm_look (pm_kl 174) 113 = some (.iload 6, 2) := by decide +kernel
theorem k174_115 : pm_look (pm_kl 174) 115 = some (.aload_n 0, 1) := by decide +kernel
theorem k174_116 : pm_look (pm_kl 174) 116 = some (.getfield 141, 3) := by decide +kernel
theorem k174_119 : pm_look (pm_kl 174) 119 = some (.invokevirtual 246, 3) := by decide +kernel
theorem k174_122 : pm_look (pm_kl 174) 122 = some (.ifCond .eq 7, 3) := by decide +kernel
theorem k174_125 : pm_look (pm_kl 174) 125 = some (.iconst 1, 1) := by decide +kernel
theorem k174_126 : pm_look (pm_kl 174) 126 = some (.goto 4, 3) := by decide +kernel
theorem k174_129 : pm_look (pm_kl 174) 129 = some (.iconst 0, 1) := by decide +kernel
theorem k174_130 : pm_look (pm_kl 174) 130 = some (.iadd, 1) := by decide +kernel
theorem k174_131 : pm_look (pm_kl 174) 131 = some (.istore 5, 2) := by decide +kernel
theorem k174_133 : pm_look (pm_kl 174) 133 = some (.iinc 6 1, 3) := by decide +kernel
theorem k174_136 : pm_look (pm_kl 174) 136 = some (.goto (-79), 3) := by decide +kernel
theorem k174_139 : pm_look (pm_kl 174) 139 = some (.iload_n 1, 1) := by decide +kernel
theorem k174_140 : pm_look (pm_kl 174) 140 = some (.tableswitch 123 0 12 #[68, 73, 78, 80, 85, 90, 92, 95, 98, 103, 108, 113, 118], 68) := by decide +kernel
theorem k174_208 : pm_look (pm_kl 174) 208 = some (.aload_n 0, 1) := by decide +kernel
theorem k174_209 : pm_look (pm_kl 174) 209 = some (.getfield 141, 3) := by decide +kernel
theorem k174_212 : pm_look (pm_kl 174) 212 = some (.ireturn, 1) := by decide +kernel
theorem k174_213 : pm_look (pm_kl 174) 213 = some (.aload_n 0, 1) := by decide +kernel
theorem k174_214 : pm_look (pm_kl 174) 214 = some (.getfield 134, 3) := by decide +kernel
theorem k174_217 : pm_look (pm_kl 174) 217 = some (.ireturn, 1) := by decide +kernel
theorem k174_218 : pm_look (pm_kl 174) 218 = some (.iload_n 2, 1) := by decide +kernel
theorem k174_219 : pm_look (pm_kl 174) 219 = some (.ireturn, 1) := by decide +kernel
theorem k174_220 : pm_look (pm_kl 174) 220 = some (.aload_n 0, 1) := by decide +kernel
theorem k174_221 : pm_look (pm_kl 174) 221 = some (.getfield 175, 3) := by decide +kernel
theorem k174_224 : pm_look (pm_kl 174) 224 = some (.ireturn, 1) := by decide +kernel
theorem k174_225 : pm_look (pm_kl 174) 225 = some (.aload_n 0, 1) := by decide +kernel
theorem k174_226 : pm_look (pm_kl 174) 226 = some (.getfield 178, 3) := by decide +kernel
theorem k174_229 : pm_look (pm_kl 174) 229 = some (.ireturn, 1) := by decide +kernel
theorem k174_230 : pm_look (pm_kl 174) 230 = some (.iload_n 3, 1) := by decide +kernel
theorem k174_231 : pm_look (pm_kl 174) 231 = some (.ireturn, 1) := by decide +kernel
theorem k174_232 : pm_look (pm_kl 174) 232 = some (.iload 4, 2) := by decide +kernel
theorem k174_234 : pm_look (pm_kl 174) 234 = some (.ireturn, 1) := by decide +kernel
theorem k174_235 : pm_look (pm_kl 174) 235 = some (.iload 5, 2) := by decide +kernel
theorem k174_237 : pm_look (pm_kl 174) 237 = some (.ireturn, 1) := by decide +kernel
theorem k174_238 : pm_look (pm_kl 174) 238 = some (.aload_n 0, 1) := by decide +kernel
theorem k174_239 : pm_look (pm_kl 174) 239 = some (.getfield 204, 3) := by decide +kernel
theorem k174_242 : pm_look (pm_kl 174) 242 = some (.ireturn, 1) := by decide +kernel
theorem k174_243 : pm_look (pm_kl 174) 243 = some (.aload_n 0, 1) := by decide +kernel
theorem k174_244 : pm_look (pm_kl 174) 244 = some (.getfield 249, 3) := by decide +kernel
theorem k174_247 : pm_look (pm_kl 174) 247 = some (.ireturn, 1) := by decide +kernel
theorem k174_248 : pm_look (pm_kl 174) 248 = some (.aload_n 0, 1) := by decide +kernel
theorem k174_249 : pm_look (pm_kl 174) 249 = some (.getfield 252, 3) := by decide +kernel
theorem k174_252 : pm_look (pm_kl 174) 252 = some (.ireturn, 1) := by decide +kernel
theorem k174_253 : pm_look (pm_kl 174) 253 = some (.aload_n 0, 1) := by decide +kernel
theorem k174_254 : pm_look (pm_kl 174) 254 = some (.getfield 255, 3) := by decide +kernel
theorem k174_257 : pm_look (pm_kl 174) 257 = some (.ireturn, 1) := by decide +kernel
theorem k174_258 : pm_look (pm_kl 174) 258 = some (.aload_n 0, 1) := by decide +kernel
theorem k174_259 : pm_look (pm_kl 174) 259 = some (.getfield 258, 3) := by decide +kernel
theorem k174_262 : pm_look (pm_kl 174) 262 = some (.ireturn, 1) := by decide +kernel
theorem k174_263 : pm_look (pm_kl 174) 263 = some (.sipush (-1002), 3) := by decide +kernel
theorem k174_266 : pm_look (pm_kl 174) 266 = some (.ireturn, 1) := by decide +kernel
theorem k175_0 : pm_look (pm_kl 175) 0 = some (.iload_n 1, 1) := by decide +kernel
theorem k175_1 : pm_look (pm_kl 175) 1 = some (.i2l, 1) := by decide +kernel
theorem k175_2 : pm_look (pm_kl 175) 2 = some (.lconst 1, 1) := by decide +kernel
theorem k175_3 : pm_look (pm_kl 175) 3 = some (.ldc2_w 261, 3) := by decide +kernel
theorem k175_6 : pm_look (pm_kl 175) 6 = some (.invokestatic 137, 3) := by decide +kernel
theorem k175_9 : pm_look (pm_kl 175) 9 = some (.ifCond .ne 7, 3) := by decide +kernel
theorem k175_12 : pm_look (pm_kl 175) 12 = some (.sipush (-1002), 3) := by decide +kernel
theorem k175_15 : pm_look (pm_kl 175) 15 = some (.ireturn, 1) := by decide +kernel
theorem k175_16 : pm_look (pm_kl 175) 16 = some (.aload_n 0, 1) := by decide +kernel
theorem k175_17 : pm_look (pm_kl 175) 17 = some (.getfield 249, 3) := by decide +kernel
theorem k175_20 : pm_look (pm_kl 175) 20 = some (.iload_n 1, 1) := by decide +kernel
theorem k175_21 : pm_look (pm_kl 175) 21 = some (.iadd, 1) := by decide +kernel
theorem k175_22 : pm_look (pm_kl 175) 22 = some (.sipush 160, 3) := by decide +kernel
theorem k175_25 : pm_look (pm_kl 175) 25 = some (.if_icmp .le 7, 3) := by decide +kernel
theorem k175_28 : pm_look (pm_kl 175) 28 = some (.sipush (-1004), 3) := by decide +kernel
theorem k175_31 : pm_look (pm_kl 175) 31 = some (.ireturn, 1) := by decide +kernel
theorem k175_32 : pm_look (pm_kl 175) 32 = some (.iload_n 1, 1) := by decide +kernel
theorem k175_33 : pm_look (pm_kl 175) 33 = some (.iconst 1, 1) := by decide +kernel
theorem k175_34 : pm_look (pm_kl 175) 34 = some (.isub, 1) := by decide +kernel
theorem k175_35 : pm_look (pm_kl 175) 35 = some (.istore 4, 2) := by decide +kernel
theorem k175_37 : pm_look (pm_kl 175) 37 = some (.iload 4, 2) := by decide +kernel
theorem k175_39 : pm_look (pm_kl 175) 39 = some (.ifCond .lt 40, 3) := by decide +kernel
theorem k175_42 : pm_look (pm_kl 175) 42 = some (.aload_n 0, 1) := by decide +kernel
theorem k175_43 : pm_look (pm_kl 175) 43 = some (.getfield 90, 3) := by decide +kernel
theorem k175_46 : pm_look (pm_kl 175) 46 = some (.aload_n 0, 1) := by decide +kernel
theorem k175_47 : pm_look (pm_kl 175) 47 = some (.getfield 249, 3) := by decide +kernel
theorem k175_50 : pm_look (pm_kl 175) 50 = some (.lload_n 2, 1) := by decide +kernel
theorem k175_51 : pm_look (pm_kl 175) 51 = some (.bipush 8, 2) := by decide +kernel
theorem k175_53 : pm_look (pm_kl 175) 53 = some (.iload 4, 2) := by decide +kernel
theorem k175_55 : pm_look (pm_kl 175) 55 = some (.imul, 1) := by decide +kernel
theorem k175_56 : pm_look (pm_kl 175) 56 = some (.lshr, 1) := by decide +kernel
theorem k175_57 : pm_look (pm_kl 175) 57 = some (.ldc2_w 263, 3) := by decide +kernel
theorem k175_60 : pm_look (pm_kl 175) 60 = some (.land, 1) := by decide +kernel
theorem k175_61 : pm_look (pm_kl 175) 61 = some (.l2i, 1) := by decide +kernel
theorem k175_62 : pm_look (pm_kl 175) 62 = some (.iastore, 1) := by decide +kernel
theorem k175_63 : pm_look (pm_kl 175) 63 = some (.aload_n 0, 1) := by decide +kernel
theorem k175_64 : pm_look (pm_kl 175) 64 = some (.dup, 1) := by decide +kernel
theorem k175_65 : pm_look (pm_kl 175) 65 = some (.getfield 249, 3) := by decide +kernel
theorem k175_68 : pm_look (pm_kl 175) 68 = some (.iconst 1, 1) := by decide +kernel
theorem k175_69 : pm_look (pm_kl 175) 69 = some (.iadd, 1) := by decide +kernel
theorem k175_70 : pm_look (pm_kl 175) 70 = some (.putfield 249, 3) := by decide +kernel
theorem k175_73 : pm_look (pm_kl 175) 73 = some (.iinc 4 (-1), 3) := by decide +kernel
theorem k175_76 : pm_look (pm_kl 175) 76 = some (.goto (-39), 3) := by decide +kernel
theorem k175_79 : pm_look (pm_kl 175) 79 = some (.aload_n 0, 1) := by decide +kernel
theorem k175_80 : pm_look (pm_kl 175) 80 = some (.getfield 249, 3) := by decide +kernel
theorem k175_83 : pm_look (pm_kl 175) 83 = some (.ireturn, 1) := by decide +kernel
theorem k176_0 : pm_look (pm_kl 176) 0 = some (.aload_n 0, 1) := by decide +kernel
theorem k176_1 : pm_look (pm_kl 176) 1 = some (.getfield 265, 3) := by decide +kernel
theorem k176_4 : pm_look (pm_kl 176) 4 = some (.aload_n 0, 1) := by decide +kernel
theorem k176_5 : pm_look (pm_kl 176) 5 = some (.getfield 249, 3) := by decide +kernel
theorem k176_8 : pm_look (pm_kl 176) 8 = some (.if_icmp .ge 30, 3) := by decide +kernel
theorem k176_11 : pm_look (pm_kl 176) 11 = some (.aload_n 0, 1) := by decide +kernel
theorem k176_12 : pm_look (pm_kl 176) 12 = some (.getfield 90, 3) := by decide +kernel
theorem k176_15 : pm_look (pm_kl 176) 15 = some (.aload_n 0, 1) := by decide +kernel
theorem k176_16 : pm_look (pm_kl 176) 16 = some (.getfield 265, 3) := by decide +kernel
theorem k176_19 : pm_look (pm_kl 176) 19 = some (.iaload, 1) := by decide +kernel
theorem k176_20 : pm_look (pm_kl 176) 20 = some (.bipush 32, 2) := by decide +kernel
theorem k176_22 : pm_look (pm_kl 176) 22 = some (.if_icmp .ne 16, 3) := by decide +kernel
theorem k176_25 : pm_look (pm_kl 176) 25 = some (.aload_n 0, 1) := by decide +kernel
theorem k176_26 : pm_look (pm_kl 176) 26 = some (.dup, 1) := by decide +kernel
theorem k176_27 : pm_look (pm_kl 176) 27 = some (.getfield 265, 3) := by decide +kernel
theorem k176_30 : pm_look (pm_kl 176) 30 = some (.iconst 1, 1) := by decide +kernel
theorem k176_31 : pm_look (pm_kl 176) 31 = some (.iadd, 1) := by decide +kernel
theorem k176_32 : pm_look (pm_kl 176) 32 = some (.putfield 265, 3) := by decide +kernel
theorem k176_35 : pm_look (pm_kl 176) 35 = some (.goto (-35), 3) := by decide +kernel
theorem k176_38 : pm_look (pm_kl 176) 38 = some (.aload_n 0, 1) := by decide +kernel
theorem k176_39 : pm_look (pm_kl 176) 39 = some (.getfield 265, 3) := by decide +kernel
theorem k176_42 : pm_look (pm_kl 176) 42 = some (.aload_n 0, 1) := by decide +kernel
theorem k176_43 : pm_look (pm_kl 176) 43 = some (.getfield 249, 3) := by decide +kernel
theorem k176_46 : pm_look (pm_kl 176) 46 = some (.if_icmp .ge 15, 3) := by decide +kernel
theorem k176_49 : pm_look (pm_kl 176) 49 = some (.aload_n 0, 1) := by decide +kernel
theorem k176_50 : pm_look (pm_kl 176) 50 = some (.getfield 90, 3) := by decide +kernel
theorem k176_53 : pm_look (pm_kl 176) 53 = some (.aload_n 0, 1) := by decide +kernel
theorem k176_54 : pm_look (pm_kl 176) 54 = some (.getfield 265, 3) := by decide +kernel
theorem k176_57 : pm_look (pm_kl 176) 57 = some (.iaload, 1) := by decide +kernel
theorem k176_58 : pm_look (pm_kl 176) 58 = some (.goto 4, 3) := by decide +kernel
theorem k176_61 : pm_look (pm_kl 176) 61 = some (.iconst (-1), 1) := by decide +kernel
theorem k176_62 : pm_look (pm_kl 176) 62 = some (.ireturn, 1) := by decide +kernel
theorem k177_0 : pm_look (pm_kl 177) 0 = some (.aload_n 0, 1) := by decide +kernel
theorem k177_1 : pm_look (pm_kl 177) 1 = some (.iload_n 2, 1) := by decide +kernel
theorem k177_2 : pm_look (pm_kl 177) 2 = some (.putfield 93, 3) := by decide +kernel
theorem k177_5 : pm_look (pm_kl 177) 5 = some (.iload_n 1, 1) := by decide +kernel
theorem k177_6 : pm_look (pm_kl 177) 6 = some (.ireturn, 1) := by decide +kernel
theorem k178_0 : pm_look (pm_kl 178) 0 = some (.aload_n 0, 1) := by decide +kernel
theorem k178_1 : pm_look (pm_kl 178) 1 = some (.invokevirtual 268, 3) := by decide +kernel
theorem k178_4 : pm_look (pm_kl 178) 4 = some (.istore_n 1, 1) := by decide +kernel
theorem k178_5 : pm_look (pm_kl 178) 5 = some (.aload_n 0, 1) := by decide +kernel
theorem k178_6 : pm_look (pm_kl 178) 6 = some (.lconst 0, 1) := by decide +kernel
theorem k178_7 : pm_look (pm_kl 178) 7 = some (.putfield 272, 3) := by decide +kernel
theorem k178_10 : pm_look (pm_kl 178) 10 = some (.aload_n 0, 1) := by decide +kernel
theorem k178_11 : pm_look (pm_kl 178) 11 = some (.aload_n 0, 1) := by decide +kernel
theorem k178_12 : pm_look (pm_kl 178) 12 = some (.getfield 265, 3) := by decide +kernel
theorem k178_15 : pm_look (pm_kl 178) 15 = some (.putfield 276, 3) := by decide +kernel
theorem k178_18 : pm_look (pm_kl 178) 18 = some (.aload_n 0, 1) := by decide +kernel
theorem k178_19 : pm_look (pm_kl 178) 19 = some (.getfield 276, 3) := by decide +kernel
theorem k178_22 : pm_look (pm_kl 178) 22 = some (.aload_n 0, 1) := by decide +kernel
theorem k178_23 : pm_look (pm_kl 178) 23 = some (.getfield 249, 3) := by decide +kernel
theorem k178_26 : pm_look (pm_kl 178) 26 = some (.if_icmp .ge 82, 3) := by decide +kernel
theorem k178_29 : pm_look (pm_kl 178) 29 = some (.aload_n 0, 1) := by decide +kernel
theorem k178_30 : pm_look (pm_kl 178) 30 = some (.getfield 90, 3) := by decide +kernel
theorem k178_33 : pm_look (pm_kl 178) 33 = some (.aload_n 0, 1) := by decide +kernel
theorem k178_34 : pm_look (pm_kl 178) 34 = some (.getfield 276, 3) := by decide +kernel
theorem k178_37 : pm_look (pm_kl 178) 37 = some (.iaload, 1) := by decide +kernel
theorem k178_38 : pm_look (pm_kl 178) 38 = some (.i2l, 1) := by decide +kernel
theorem k178_39 : pm_look (pm_kl 178) 39 = some (.ldc2_w 279, 3) := by decide +kernel
theorem k178_42 : pm_look (pm_kl 178) 42 = some (.ldc2_w 281, 3) := by decide +kernel
theorem k178_45 : pm_look (pm_kl 178) 45 = some (.invokestatic 137, 3) := by decide +kernel
theorem k178_48 : pm_look (pm_kl 178) 48 = some (.ifCond .eq 60, 3) := by decide +kernel
theorem k178_51 : pm_look (pm_kl 178) 51 = some (.aload_n 0, 1) := by decide +kernel
theorem k178_52 : pm_look (pm_kl 178) 52 = some (.aload_n 0, 1) := by decide +kernel
theorem k178_53 : pm_look (pm_kl 178) 53 = some (.getfield 272, 3) := by decide +kernel
theorem k178_56 : pm_look (pm_kl 178) 56 = some (.ldc2_w 283, 3) := by decide +kernel
theorem k178_59 : pm_look (pm_kl 178) 59 = some (.lcmp, 1) := by decide +kernel
theorem k178_60 : pm_look (pm_kl 178) 60 = some (.ifCond .le 9, 3) := by decide +kernel
theorem k178_63 : pm_look (pm_kl 178) 63 = some (.ldc2_w 285, 3) := by decide +kernel
theorem k178_66 : pm_look (pm_kl 178) 66 = some (.goto 26, 3) := by decide +kernel
theorem k178_69 : pm_look (pm_kl 178) 69 = some (.ldc2_w 287, 3) := by decide +kernel
theorem k178_72 : pm_look (pm_kl 178) 72 = some (.aload_n 0, 1) := by decide +kernel
theorem k178_73 : pm_look (pm_kl 178) 73 = some (.getfield 272, 3) := by decide +kernel
theorem k178_76 : pm_look (pm_kl 178) 76 = some (.lmul, 1) := by decide +kernel
theorem k178_77 : pm_look (pm_kl 178) 77 = some (.aload_n 0, 1) := by decide +kernel
theorem k178_78 : pm_look (pm_kl 178) 78 = some (.getfield 90, 3) := by decide +kernel
theorem k178_81 : pm_look (pm_kl 178) 81 = some (.aload_n 0, 1) := by decide +kernel
theorem k178_82 : pm_look (pm_kl 178) 82 = some (.getfield 276, 3) := by decide +kernel
theorem k178_85 : pm_look (pm_kl 178) 85 = some (.iaload, 1) := by decide +kernel
theorem k178_86 : pm_look (pm_kl 178) 86 = some (.i2l, 1) := by decide +kernel
theorem k178_87 : pm_look (pm_kl 178) 87 = some (.ladd, 1) := by decide +kernel
theorem k178_88 : pm_look (pm_kl 178) 88 = some (.ldc2_w 289, 3) := by decide +kernel
theorem k178_91 : pm_look (pm_kl 178) 91 = some (.lsub, 1) := by decide +kernel
theorem k178_92 : pm_look (pm_kl 178) 92 = some (.putfield 272, 3) := by decide +kernel
theorem k178_95 : pm_look (pm_kl 178) 95 = some (.aload_n 0, 1) := by decide +kernel
theorem k178_96 : pm_look (pm_kl 178) 96 = some (.dup, 1) := by decide +kernel
theorem k178_97 : pm_look (pm_kl 178) 97 = some (.getfield 276, 3) := by decide +kernel
theorem k178_100 : pm_look (pm_kl 178) 100 = some (.iconst 1, 1) := by decide +kernel
theorem k178_101 : pm_look (pm_kl 178) 101 = some (.iadd, 1) := by decide +kernel
theorem k178_102 : pm_look (pm_kl 178) 102 = some (.putfield 276, 3) := by decide +kernel
theorem k178_105 : pm_look (pm_kl 178) 105 = some (.goto (-87), 3) := by decide +kernel
theorem k178_108 : pm_look (pm_kl 178) 108 = some (.return_, 1) := by decide +kernel
theorem k179_0 : pm_look (pm_kl 179) 0 = some (.ldc2_w 287, 3) := by decide +kernel
theorem k179_3 : pm_look (pm_kl 179) 3 = some (.iload_n 0, 1) := by decide +kernel
theorem k179_4 : pm_look (pm_kl 179) 4 = some (.i2l, 1) := by decide +kernel
theorem k179_5 : pm_look (pm_kl 179) 5 = some (.ldc2_w 289, 3) := by decide +kernel
theorem k179_8 : pm_look (pm_kl 179) 8 = some (.lsub, 1) := by decide +kernel
theorem k179_9 : pm_look (pm_kl 179) 9 = some (.lmul, 1) := by decide +kernel
theorem k179_10 : pm_look (pm_kl 179) 10 = some (.iload_n 1, 1) := by decide +kernel
theorem k179_11 : pm_look (pm_kl 179) 11 = some (.i2l, 1) := by decide +kernel
theorem k179_12 : pm_look (pm_kl 179) 12 = some (.ladd, 1) := by decide +kernel
theorem k179_13 : pm_look (pm_kl 179) 13 = some (.ldc2_w 289, 3) := by decide +kernel
theorem k179_16 : pm_look (pm_kl 179) 16 = some (.lsub, 1) := by decide +kernel
theorem k179_17 : pm_look (pm_kl 179) 17 = some (.lstore 6, 2) := by decide +kernel
theorem k179_19 : pm_look (pm_kl 179) 19 = some (.iload_n 2, 1) := by decide +kernel
theorem k179_20 : pm_look (pm_kl 179) 20 = some (.ifCond .ne 8, 3) := by decide +kernel
theorem k179_23 : pm_look (pm_kl 179) 23 = some (.lload 6, 2) := by decide +kernel
theorem k179_25 : pm_look (pm_kl 179) 25 = some (.goto 16, 3) := by decide +kernel
theorem k179_28 : pm_look (pm_kl 179) 28 = some (.ldc2_w 287, 3) := by decide +kernel
theorem k179_31 : pm_look (pm_kl 179) 31 = some (.lload 6, 2) := by decide +kernel
theorem k179_33 : pm_look (pm_kl 179) 33 = some (.lmul, 1) := by decide +kernel
theorem k179_34 : pm_look (pm_kl 179) 34 = some (.iload_n 2, 1) := by decide +kernel
theorem k179_35 : pm_look (pm_kl 179) 35 = some (.i2l, 1) := by decide +kernel
theorem k179_36 : pm_look (pm_kl 179) 36 = some (.ladd, 1) := by decide +kernel
theorem k179_37 : pm_look (pm_kl 179) 37 = some (.ldc2_w 289, 3) := by decide +kernel
theorem k179_40 : pm_look (pm_kl 179) 40 = some (.lsub, 1) := by decide +kernel
theorem k179_41 : pm_look (pm_kl 179) 41 = some (.lstore 6, 2) := by decide +kernel
theorem k179_43 : pm_look (pm_kl 179) 43 = some (.iload_n 3, 1) := by decide +kernel
theorem k179_44 : pm_look (pm_kl 179) 44 = some (.ifCond .ne 8, 3) := by decide +kernel
theorem k179_47 : pm_look (pm_kl 179) 47 = some (.lload 6, 2) := by decide +kernel
theorem k179_49 : pm_look (pm_kl 179) 49 = some (.goto 16, 3) := by decide +kernel
theorem k179_52 : pm_look (pm_kl 179) 52 = some (.ldc2_w 287, 3) := by decide +kernel
theorem k179_55 : pm_look (pm_kl 179) 55 = some (.lload 6, 2) := by decide +kernel
theorem k179_57 : pm_look (pm_kl 179) 57 = some (.lmul, 1) := by decide +kernel
theorem k179_58 : pm_look (pm_kl 179) 58 = some (.iload_n 3, 1) := by decide +kernel
theorem k179_59 : pm_look (pm_kl 179) 59 = some (.i2l, 1) := by decide +kernel
theorem k179_60 : pm_look (pm_kl 179) 60 = some (.ladd, 1) := by decide +kernel
theorem k179_61 : pm_look (pm_kl 179) 61 = some (.ldc2_w 289, 3) := by decide +kernel
theorem k179_64 : pm_look (pm_kl 179) 64 = some (.lsub, 1) := by decide +kernel
theorem k179_65 : pm_look (pm_kl 179) 65 = some (.lstore 6, 2) := by decide +kernel
theorem k179_67 : pm_look (pm_kl 179) 67 = some (.iload 4, 2) := by decide +kernel
theorem k179_69 : pm_look (pm_kl 179) 69 = some (.ifCond .ne 8, 3) := by decide +kernel
theorem k179_72 : pm_look (pm_kl 179) 72 = some (.lload 6, 2) := by decide +kernel
theorem k179_74 : pm_look (pm_kl 179) 74 = some (.goto 17, 3) := by decide +kernel
theorem k179_77 : pm_look (pm_kl 179) 77 = some (.ldc2_w 287, 3) := by decide +kernel
theorem k179_80 : pm_look (pm_kl 179) 80 = some (.lload 6, 2) := by decide +kernel
theorem k179_82 : pm_look (pm_kl 179) 82 = some (.lmul, 1) := by decide +kernel
theorem k179_83 : pm_look (pm_kl 179) 83 = some (.iload 4, 2) := by decide +kernel
theorem k179_85 : pm_look (pm_kl 179) 85 = some (.i2l, 1) := by decide +kernel
theorem k179_86 : pm_look (pm_kl 179) 86 = some (.ladd, 1) := by decide +kernel
theorem k179_87 : pm_look (pm_kl 179) 87 = some (.ldc2_w 289, 3) := by decide +kernel
theorem k179_90 : pm_look (pm_kl 179) 90 = some (.lsub, 1) := by decide +kernel
theorem k179_91 : pm_look (pm_kl 179) 91 = some (.lstore 6, 2) := by decide +kernel
theorem k179_93 : pm_look (pm_kl 179) 93 = some (.iload 5, 2) := by decide +kernel
theorem k179_95 : pm_look (pm_kl 179) 95 = some (.ifCond .ne 8, 3) := by decide +kernel
theorem k179_98 : pm_look (pm_kl 179) 98 = some (.lload 6, 2) := by decide +kernel
theorem k179_100 : pm_look (pm_kl 179) 100 = some (.goto 17, 3) := by decide +kernel
theorem k179_103 : pm_look (pm_kl 179) 103 = some (.ldc2_w 287, 3) := by decide +kernel
theorem k179_106 : pm_look (pm_kl 179) 106 = some (.lload 6, 2) := by decide +kernel
theorem k179_108 : pm_look (pm_kl 179) 108 = some (.lmul, 1) := by decide +kernel
theorem k179_109 : pm_look (pm_kl 179) 109 = some (.iload 5, 2) := by decide +kernel
theorem k179_111 : pm_look (pm_kl 179) 111 = some (.i2l, 1) := by decide +kernel
theorem k179_112 : pm_look (pm_kl 179) 112 = some (.ladd, 1) := by decide +kernel
theorem k179_113 : pm_look (pm_kl 179) 113 = some (.ldc2_w 289, 3) := by decide +kernel
theorem k179_116 : pm_look (pm_kl 179) 116 = some (.lsub, 1) := by decide +kernel
theorem k179_117 : pm_look (pm_kl 179) 117 = some (.lreturn, 1) := by decide +kernel
theorem k180_0 : pm_look (pm_kl 180) 0 = some (.aload_n 0, 1) := by decide +kernel
theorem k180_1 : pm_look (pm_kl 180) 1 = some (.invokevirtual 268, 3) := by decide +kernel
theorem k180_4 : pm_look (pm_kl 180) 4 = some (.istore 5, 2) := by decide +kernel
theorem k180_6 : pm_look (pm_kl 180) 6 = some (.iload 5, 2) := by decide +kernel
theorem k180_8 : pm_look (pm_kl 180) 8 = some (.i2l, 1) := by decide +kernel
theorem k180_9 : pm_look (pm_kl 180) 9 = some (.ldc2_w 291, 3) := by decide +kernel
theorem k180_12 : pm_look (pm_kl 180) 12 = some (.ldc2_w 293, 3) := by decide +kernel
theorem k180_15 : pm_look (pm_kl 180) 15 = some (.invokestatic 137, 3) := by decide +kernel
theorem k180_18 : pm_look (pm_kl 180) 18 = some (.ifCond .ne 13, 3) := by decide +kernel
theorem k180_21 : pm_look (pm_kl 180) 21 = some (.aload_n 0, 1) := by decide +kernel
theorem k180_22 : pm_look (pm_kl 180) 22 = some (.iconst 1, 1) := by decide +kernel
theorem k180_23 : pm_look (pm_kl 180) 23 = some (.aload_n 0, 1) := by decide +kernel
theorem k180_24 : pm_look (pm_kl 180) 24 = some (.getfield 265, 3) := by decide +kernel
theorem k180_27 : pm_look (pm_kl 180) 27 = some (.invokevirtual 295, 3) := by decide +kernel
theorem k180_30 : pm_look (pm_kl 180) 30 = some (.ireturn, 1) := by decide +kernel
theorem k180_31 : pm_look (pm_kl 180) 31 = some (.aload_n 0, 1) := by decide +kernel
theorem k180_32 : pm_look (pm_kl 180) 32 = some (.getfield 265, 3) := by decide +kernel
theorem k180_35 : pm_look (pm_kl 180) 35 = some (.istore 6, 2) := by decide +kernel
theorem k180_37 : pm_look (pm_kl 180) 37 = some (.aload_n 0, 1) := by decide +kernel
theorem k180_38 : pm_look (pm_kl 180) 38 = some (.iconst 0, 1) := by decide +kernel
theorem k180_39 : pm_look (pm_kl 180) 39 = some (.putfield 298, 3) := by decide +kernel
theorem k180_42 : pm_look (pm_kl 180) 42 = some (.aload_n 0, 1) := by decide +kernel
theorem k180_43 : pm_look (pm_kl 180) 43 = some (.getfield 265, 3) := by decide +kernel
theorem k180_46 : pm_look (pm_kl 180) 46 = some (.aload_n 0, 1) := by decide +kernel
theorem k180_47 : pm_look (pm_kl 180) 47 = some (.getfield 249, 3) := by decide +kernel
theorem k180_50 : pm_look (pm_kl 180) 50 = some (.if_icmp .ge 79, 3) := by decide +kernel
theorem k180_53 : pm_look (pm_kl 180) 53 = some (.aload_n 0, 1) := by decide +kernel
theorem k180_54 : pm_look (pm_kl 180) 54 = some (.getfield 90, 3) := by decide +kernel
theorem k180_57 : pm_look (pm_kl 180) 57 = some (.aload_n 0, 1) := by decide +kernel
theorem k180_58 : pm_look (pm_kl 180) 58 = some (.getfield 265, 3) := by decide +kernel
theorem k180_61 : pm_look (pm_kl 180) 61 = some (.iaload, 1) := by decide +kernel
theorem k180_62 : pm_look (pm_kl 180) 62 = some (.i2l, 1) := by decide +kernel
theorem k180_63 : pm_look (pm_kl 180) 63 = some (.ldc2_w 291, 3) := by decide +kernel
theorem k180_66 : pm_look (pm_kl 180) 66 = some (.ldc2_w 293, 3) := by decide +kernel
theorem k180_69 : pm_look (pm_kl 180) 69 = some (.invokestatic 137, 3) := by decide +kernel
theorem k180_72 : pm_look (pm_kl 180) 72 = some (.ifCond .eq 57, 3) := by decide +kernel
theorem k180_75 : pm_look (pm_kl 180) 75 = some (.aload_n 0, 1) := by decide +kernel
theorem k180_76 : pm_look (pm_kl 180) 76 = some (.aload_n 0, 1) := by decide +kernel
theorem k180_77 : pm_look (pm_kl 180) 77 = some (.getfield 298, 3) := by decide +kernel
theorem k180_80 : pm_look (pm_kl 180) 80 = some (.ldc_w 301, 3) := by decide +kernel
theorem k180_83 : pm_look (pm_kl 180) 83 = some (.if_icmp .le 10, 3) := by decide +kernel
theorem k180_86 : pm_look (pm_kl 180) 86 = some (.aload_n 0, 1) := by decide +kernel
theorem k180_87 : pm_look (pm_kl 180) 87 = some (.getfield 298, 3) := by decide +kernel
theorem k180_90 : pm_look (pm_kl 180) 90 = some (.goto 23, 3) := by decide +kernel
theorem k180_93 : pm_look (pm_kl 180) 93 = some (.bipush 10, 2) := by decide +kernel
theorem k180_95 : pm_look (pm_kl 180) 95 = some (.aload_n 0, 1) := by decide +kernel
theorem k180_96 : pm_look (pm_kl 180) 96 = some (.getfield 298, 3) := by decide +kernel
theorem k180_99 : pm_look (pm_kl 180) 99 = some (.imul, 1) := by decide +kernel
theorem k180_100 : pm_look (pm_kl 180) 100 = some (.aload_n 0, 1) := by decide +kernel
theorem k180_101 : pm_look (pm_kl 180) 101 = some (.getfield 90, 3) := by decide +kernel
theorem k180_104 : pm_look (pm_kl 180) 104 = some (.aload_n 0, 1) := by decide +kernel
theorem k180_105 : pm_look (pm_kl 180) 105 = some (.getfield 265, 3) := by decide +kernel
theorem k180_108 : pm_look (pm_kl 180) 108 = some (.iaload, 1) := by decide +kernel
theorem k180_109 : pm_look (pm_kl 180) 109 = some (.iadd, 1) := by decide +kernel
theorem k180_110 : pm_look (pm_kl 180) 110 = some (.bipush 48, 2) := by decide +kernel
theorem k180_112 : pm_look (pm_kl 180) 112 = some (.isub, 1) := by decide +kernel
theorem k180_113 : pm_look (pm_kl 180) 113 = some (.putfield 298, 3) := by decide +kernel
theorem k180_116 : pm_look (pm_kl 180) 116 = some (.aload_n 0, 1) := by decide +kernel
theorem k180_117 : pm_look (pm_kl 180) 117 = some (.dup, 1) := by decide +kernel
theorem k180_118 : pm_look (pm_kl 180) 118 = some (.getfield 265, 3) := by decide +kernel
theorem k180_121 : pm_look (pm_kl 180) 121 = some (.iconst 1, 1) := by decide +kernel
theorem k180_122 : pm_look (pm_kl 180) 122 = some (.iadd, 1) := by decide +kernel
theorem k180_123 : pm_look (pm_kl 180) 123 = some (.putfield 265, 3) := by decide +kernel
theorem k180_126 : pm_look (pm_kl 180) 126 = some (.goto (-84), 3) := by decide +kernel
theorem k180_129 : pm_look (pm_kl 180) 129 = some (.aload_n 0, 1) := by decide +kernel
theorem k180_130 : pm_look (pm_kl 180) 130 = some (.getfield 265, 3) := by decide +kernel
theorem k180_133 : pm_look (pm_kl 180) 133 = some (.iload 6, 2) := by decide +kernel
theorem k180_135 : pm_look (pm_kl 180) 135 = some (.isub, 1) := by decide +kernel
theorem k180_136 : pm_look (pm_kl 180) 136 = some (.iload_n 3, 1) := by decide +kernel
theorem k180_137 : pm_look (pm_kl 180) 137 = some (.if_icmp .le 11, 3) := by decide +kernel
theorem k180_140 : pm_look (pm_kl 180) 140 = some (.aload_n 0, 1) := by decide +kernel
theorem k180_141 : pm_look (pm_kl 180) 141 = some (.iconst 2, 1) := by decide +kernel
theorem k180_142 : pm_look (pm_kl 180) 142 = some (.iload 6, 2) := by decide +kernel
theorem k180_144 : pm_look (pm_kl 180) 144 = some (.invokevirtual 295, 3) := by decide +kernel
theorem k180_147 : pm_look (pm_kl 180) 147 = some (.ireturn, 1) := by decide +kernel
theorem k180_148 : pm_look (pm_kl 180) 148 = some (.aload_n 0, 1) := by decide +kernel
theorem k180_149 : pm_look (pm_kl 180) 149 = some (.getfield 298, 3) := by decide +kernel
theorem k180_152 : pm_look (pm_kl 180) 152 = some (.i2l, 1) := by decide +kernel
theorem k180_153 : pm_look (pm_kl 180) 153 = some (.iload_n 1, 1) := by decide +kernel
theorem k180_154 : pm_look (pm_kl 180) 154 = some (.i2l, 1) := by decide +kernel
theorem k180_155 : pm_look (pm_kl 180) 155 = some (.iload_n 2, 1) := by decide +kernel
theorem k180_156 : pm_look (pm_kl 180) 156 = some (.i2l, 1) := by decide +kernel
theorem k180_157 : pm_look (pm_kl 180) 157 = some (.invokestatic 137, 3) := by decide +kernel
theorem k180_160 : pm_look (pm_kl 180) 160 = some (.ifCond .eq 7, 3) := by decide +kernel
theorem k180_163 : pm_look (pm_kl 180) 163 = some (.iconst 0, 1) := by decide +kernel
theorem k180_164 : pm_look (pm_kl 180) 164 = some (.goto 11, 3) := by decide +kernel
theorem k180_167 : pm_look (pm_kl 180) 167 = some (.aload_n 0, 1) := by decide +kernel
theorem k180_168 : pm_look (pm_kl 180) 168 = some (.iload 4, 2) := by decide +kernel
theorem k180_170 : pm_look (pm_kl 180) 170 = some (.iload 6, 2) := by decide +kernel
theorem k180_172 : pm_look (pm_kl 180) 172 = some (.invokevirtual 295, 3) := by decide +kernel
theorem k180_175 : pm_look (pm_kl 180) 175 = some (.ireturn, 1) := by decide +kernel
theorem k181_0 : pm_look (pm_kl 181) 0 = some (.aload_n 0, 1) := by decide +kernel
theorem k181_1 : pm_look (pm_kl 181) 1 = some (.invokevirtual 302, 3) := by decide +kernel
theorem k181_4 : pm_look (pm_kl 181) 4 = some (.aload_n 0, 1) := by decide +kernel
theorem k181_5 : pm_look (pm_kl 181) 5 = some (.getfield 272, 3) := by decide +kernel
theorem k181_8 : pm_look (pm_kl 181) 8 = some (.lload_n 1, 1) := by decide +kernel
theorem k181_9 : pm_look (pm_kl 181) 9 = some (.lcmp, 1) := by decide +kernel
theorem k181_10 : pm_look (pm_kl 181) 10 = some (.ifCond .eq 13, 3) := by decide +kernel
theorem k181_13 : pm_look (pm_kl 181) 13 = some (.aload_n 0, 1) := by decide +kernel
theorem k181_14 : pm_look (pm_kl 181) 14 = some (.iconst 1, 1) := by decide +kernel
theorem k181_15 : pm_look (pm_kl 181) 15 = some (.aload_n 0, 1) := by decide +kernel
theorem k181_16 : pm_look (pm_kl 181) 16 = some (.getfield 265, 3) := by decide +kernel
theorem k181_19 : pm_look (pm_kl 181) 19 = some (.invokevirtual 295, 3) := by decide +kernel
theorem k181_22 : pm_look (pm_kl 181) 22 = some (.ireturn, 1) := by decide +kernel
theorem k181_23 : pm_look (pm_kl 181) 23 = some (.aload_n 0, 1) := by decide +kernel
theorem k181_24 : pm_look (pm_kl 181) 24 = some (.aload_n 0, 1) := by decide +kernel
theorem k181_25 : pm_look (pm_kl 181) 25 = some (.getfield 276, 3) := by decide +kernel
theorem k181_28 : pm_look (pm_kl 181) 28 = some (.putfield 265, 3) := by decide +kernel
theorem k181_31 : pm_look (pm_kl 181) 31 = some (.iconst 0, 1) := by decide +kernel
theorem k181_32 : pm_look (pm_kl 181) 32 = some (.ireturn, 1) := by decide +kernel
theorem k182_0 : pm_look (pm_kl 182) 0 = some (.aload_n 0, 1) := by decide +kernel
theorem k182_1 : pm_look (pm_kl 182) 1 = some (.getfield 272, 3) := by decide +kernel
theorem k182_4 : pm_look (pm_kl 182) 4 = some (.bipush 107, 2) := by decide +kernel
theorem k182_6 : pm_look (pm_kl 182) 6 = some (.bipush 101, 2) := by decide +kernel
theorem k182_8 : pm_look (pm_kl 182) 8 = some (.bipush 101, 2) := by decide +kernel
theorem k182_10 : pm_look (pm_kl 182) 10 = some (.bipush 112, 2) := by decide +kernel
theorem k182_12 : pm_look (pm_kl 182) 12 = some (.bipush 115, 2) := by decide +kernel
theorem k182_14 : pm_look (pm_kl 182) 14 = some (.iconst 0, 1) := by decide +kernel
theorem k182_15 : pm_look (pm_kl 182) 15 = some (.invokestatic 305, 3) := by decide +kernel
theorem k182_18 : pm_look (pm_kl 182) 18 = some (.lcmp, 1) := by decide +kernel
theorem k182_19 : pm_look (pm_kl 182) 19 = some (.ifCond .ne 7, 3) := by decide +kernel
theorem k182_22 : pm_look (pm_kl 182) 22 = some (.iconst 0, 1) := by decide +kernel
theorem k182_23 : pm_look (pm_kl 182) 23 = some (.goto 57, 3) := by decide +kernel
theorem k182_26 : pm_look (pm_kl 182) 26 = some (.aload_n 0, 1) := by decide +kernel
theorem k182_27 : pm_look (pm_kl 182) 27 = some (.getfield 272, 3) := by decide +kernel
theorem k182_30 : pm_look (pm_kl 182) 30 = some (.bipush 116, 2) := by decide +kernel
theorem k182_32 : pm_look (pm_kl 182) 32 = some (.bipush 117, 2) := by decide +kernel
theorem k182_34 : pm_look (pm_kl 182) 34 = some (.bipush 114, 2) := by decide +kernel
theorem k182_36 : pm_look (pm_kl 182) 36 = some (.bipush 110, 2) := by decide +kernel
theorem k182_38 : pm_look (pm_kl 182) 38 = some (.bipush 115, 2) := by decide +kernel
theorem k182_40 : pm_look (pm_kl 182) 40 = some (.iconst 0, 1) := by decide +kernel
theorem k182_41 : pm_look (pm_kl 182) 41 = some (.invokestatic 305, 3) := by decide +kernel
theorem k182_44 : pm_look (pm_kl 182) 44 = some (.lcmp, 1) := by decide +kernel
theorem k182_45 : pm_look (pm_kl 182) 45 = some (.ifCond .ne 7, 3) := by decide +kernel
theorem k182_48 : pm_look (pm_kl 182) 48 = some (.iconst 1, 1) := by decide +kernel
theorem k182_49 : pm_look (pm_kl 182) 49 = some (.goto 31, 3) := by decide +kernel
theorem k182_52 : pm_look (pm_kl 182) 52 = some (.aload_n 0, 1) := by decide +kernel
theorem k182_53 : pm_look (pm_kl 182) 53 = some (.getfield 272, 3) := by decide +kernel
theorem k182_56 : pm_look (pm_kl 182) 56 = some (.bipush 114, 2) := by decide +kernel
theorem k182_58 : pm_look (pm_kl 182) 58 = some (.bipush 97, 2) := by decide +kernel
theorem k182_60 : pm_look (pm_kl 182) 60 = some (.bipush 105, 2) := by decide +kernel
theorem k182_62 : pm_look (pm_kl 182) 62 = some (.bipush 115, 2) := by decide +kernel
theorem k182_64 : pm_look (pm_kl 182) 64 = some (.bipush 101, 2) := by decide +kernel
theorem k182_66 : pm_look (pm_kl 182) 66 = some (.bipush 115, 2) := by decide +kernel
theorem k182_68 : pm_look (pm_kl 182) 68 = some (.invokestatic 305, 3) := by decide +kernel
theorem k182_71 : pm_look (pm_kl 182) 71 = some (.lcmp, 1) := by decide +kernel
theorem k182_72 : pm_look (pm_kl 182) 72 = some (.ifCond .ne 7, 3) := by decide +kernel
theorem k182_75 : pm_look (pm_kl 182) 75 = some (.iconst 2, 1) := by decide +kernel
theorem k182_76 : pm_look (pm_kl 182) 76 = some (.goto 4, 3) := by decide +kernel
theorem k182_79 : pm_look (pm_kl 182) 79 = some (.iconst (-1), 1) := by decide +kernel
theorem k182_80 : pm_look (pm_kl 182) 80 = some (.ireturn, 1) := by decide +kernel
theorem k183_0 : pm_look (pm_kl 183) 0 = some (.aload_n 0, 1) := by decide +kernel
theorem k183_1 : pm_look (pm_kl 183) 1 = some (.getfield 272, 3) := by decide +kernel
theorem k183_4 : pm_look (pm_kl 183) 4 = some (.bipush 107, 2) := by decide +kernel
theorem k183_6 : pm_look (pm_kl 183) 6 = some (.bipush 101, 2) := by decide +kernel
theorem k183_8 : pm_look (pm_kl 183) 8 = some (.bipush 121, 2) := by decide +kernel
theorem k183_10 : pm_look (pm_kl 183) 10 = some (.iconst 0, 1) := by decide +kernel
theorem k183_11 : pm_look (pm_kl 183) 11 = some (.iconst 0, 1) := by decide +kernel
theorem k183_12 : pm_look (pm_kl 183) 12 = some (.iconst 0, 1) := by decide +kernel
theorem k183_13 : pm_look (pm_kl 183) 13 = some (.invokestatic 305, 3) := by decide +kernel
theorem k183_16 : pm_look (pm_kl 183) 16 = some (.lcmp, 1) := by decide +kernel
theorem k183_17 : pm_look (pm_kl 183) 17 = some (.ifCond .ne 7, 3) := by decide +kernel
theorem k183_20 : pm_look (pm_kl 183) 20 = some (.iconst 0, 1) := by decide +kernel
theorem k183_21 : pm_look (pm_kl 183) 21 = some (.goto 131, 3) := by decide +kernel
theorem k183_24 : pm_look (pm_kl 183) 24 = some (.aload_n 0, 1) := by decide +kernel
theorem k183_25 : pm_look (pm_kl 183) 25 = some (.getfield 272, 3) := by decide +kernel
theorem k183_28 : pm_look (pm_kl 183) 28 = some (.bipush 97, 2) := by decide +kernel
theorem k183_30 : pm_look (pm_kl 183) 30 = some (.bipush 108, 2) := by decide +kernel
theorem k183_32 : pm_look (pm_kl 183) 32 = some (.bipush 108, 2) := by decide +kernel
theorem k183_34 : pm_look (pm_kl 183) 34 = some (.bipush 111, 2) := by decide +kernel
theorem k183_36 : pm_look (pm_kl 183) 36 = some (.bipush 119, 2) := by decide +kernel
theorem k183_38 : pm_look (pm_kl 183) 38 = some (.iconst 0, 1) := by decide +kernel
theorem k183_39 : pm_look (pm_kl 183) 39 = some (.invokestatic 305, 3) := by decide +kernel
theorem k183_42 : pm_look (pm_kl 183) 42 = some (.lcmp, 1) := by decide +kernel
theorem k183_43 : pm_look (pm_kl 183) 43 = some (.ifCond .ne 7, 3) := by decide +kernel
theorem k183_46 : pm_look (pm_kl 183) 46 = some (.iconst 1, 1) := by decide +kernel
theorem k183_47 : pm_look (pm_kl 183) 47 = some (.goto 105, 3) := by decide +kernel
theorem k183_50 : pm_look (pm_kl 183) 50 = some (.aload_n 0, 1) := by decide +kernel
theorem k183_51 : pm_look (pm_kl 183) 51 = some (.getfield 272, 3) := by decide +kernel
theorem k183_54 : pm_look (pm_kl 183) 54 = some (.bipush 98, 2) := by decide +kernel
theorem k183_56 : pm_look (pm_kl 183) 56 = some (.bipush 97, 2) := by decide +kernel
theorem k183_58 : pm_look (pm_kl 183) 58 = some (.bipush 114, 2) := by decide +kernel
theorem k183_60 : pm_look (pm_kl 183) 60 = some (.iconst 0, 1) := by decide +kernel
theorem k183_61 : pm_look (pm_kl 183) 61 = some (.iconst 0, 1) := by decide +kernel
theorem k183_62 : pm_look (pm_kl 183) 62 = some (.iconst 0, 1) := by decide +kernel
theorem k183_63 : pm_look (pm_kl 183) 63 = some (.invokestatic 305, 3) := by decide +kernel
theorem k183_66 : pm_look (pm_kl 183) 66 = some (.lcmp, 1) := by decide +kernel
theorem k183_67 : pm_look (pm_kl 183) 67 = some (.ifCond .ne 7, 3) := by decide +kernel
theorem k183_70 : pm_look (pm_kl 183) 70 = some (.iconst 2, 1) := by decide +kernel
theorem k183_71 : pm_look (pm_kl 183) 71 = some (.goto 81, 3) := by decide +kernel
theorem k183_74 : pm_look (pm_kl 183) 74 = some (.aload_n 0, 1) := by decide +kernel
theorem k183_75 : pm_look (pm_kl 183) 75 = some (.getfield 272, 3) := by decide +kernel
theorem k183_78 : pm_look (pm_kl 183) 78 = some (.bipush 110, 2) := by decide +kernel
theorem k183_80 : pm_look (pm_kl 183) 80 = some (.bipush 101, 2) := by decide +kernel
theorem k183_82 : pm_look (pm_kl 183) 82 = some (.bipush 101, 2) := by decide +kernel
theorem k183_84 : pm_look (pm_kl 183) 84 = some (.bipush 100, 2) := by decide +kernel
theorem k183_86 : pm_look (pm_kl 183) 86 = some (.iconst 0, 1) := by decide +kernel
theorem k183_87 : pm_look (pm_kl 183) 87 = some (.iconst 0, 1) := by decide +kernel
theorem k183_88 : pm_look (pm_kl 183) 88 = some (.invokestatic 305, 3) := by decide +kernel
theorem k183_91 : pm_look (pm_kl 183) 91 = some (.lcmp, 1) := by decide +kernel
theorem k183_92 : pm_look (pm_kl 183) 92 = some (.ifCond .ne 7, 3) := by decide +kernel
theorem k183_95 : pm_look (pm_kl 183) 95 = some (.iconst 3, 1) := by decide +kernel
theorem k183_96 : pm_look (pm_kl 183) 96 = some (.goto 56, 3) := by decide +kernel
theorem k183_99 : pm_look (pm_kl 183) 99 = some (.aload_n 0, 1) := by decide +kernel
theorem k183_100 : pm_look (pm_kl 183) 100 = some (.getfield 272, 3) := by decide +kernel
theorem k183_103 : pm_look (pm_kl 183) 103 = some (.bipush 109, 2) := by decide +kernel
theorem k183_105 : pm_look (pm_kl 183) 105 = some (.bipush 111, 2) := by decide +kernel
theorem k183_107 : pm_look (pm_kl 183) 107 = some (.bipush 115, 2) := by decide +kernel
theorem k183_109 : pm_look (pm_kl 183) 109 = some (.bipush 116, 2) := by decide +kernel
theorem k183_111 : pm_look (pm_kl 183) 111 = some (.iconst 0, 1) := by decide +kernel
theorem k183_112 : pm_look (pm_kl 183) 112 = some (.iconst 0, 1) := by decide +kernel
theorem k183_113 : pm_look (pm_kl 183) 113 = some (.invokestatic 305, 3) := by decide +kernel
theorem k183_116 : pm_look (pm_kl 183) 116 = some (.lcmp, 1) := by decide +kernel
theorem k183_117 : pm_look (pm_kl 183) 117 = some (.ifCond .ne 7, 3) := by decide +kernel
theorem k183_120 : pm_look (pm_kl 183) 120 = some (.iconst 4, 1) := by decide +kernel
theorem k183_121 : pm_look (pm_kl 183) 121 = some (.goto 31, 3) := by decide +kernel
theorem k183_124 : pm_look (pm_kl 183) 124 = some (.aload_n 0, 1) := by decide +kernel
theorem k183_125 : pm_look (pm_kl 183) 125 = some (.getfield 272, 3) := by decide +kernel
theorem k183_128 : pm_look (pm_kl 183) 128 = some (.bipush 115, 2) := by decide +kernel
theorem k183_130 : pm_look (pm_kl 183) 130 = some (.bipush 116, 2) := by decide +kernel
theorem k183_132 : pm_look (pm_kl 183) 132 = some (.bipush 114, 2) := by decide +kernel
theorem k183_134 : pm_look (pm_kl 183) 134 = some (.bipush 105, 2) := by decide +kernel
theorem k183_136 : pm_look (pm_kl 183) 136 = some (.bipush 107, 2) := by decide +kernel
theorem k183_138 : pm_look (pm_kl 183) 138 = some (.bipush 101, 2) := by decide +kernel
theorem k183_140 : pm_look (pm_kl 183) 140 = some (.invokestatic 305, 3) := by decide +kernel
theorem k183_143 : pm_look (pm_kl 183) 143 = some (.lcmp, 1) := by decide +kernel
theorem k183_144 : pm_look (pm_kl 183) 144 = some (.ifCond .ne 7, 3) := by decide +kernel
theorem k183_147 : pm_look (pm_kl 183) 147 = some (.iconst 5, 1) := by decide +kernel
theorem k183_148 : pm_look (pm_kl 183) 148 = some (.goto 4, 3) := by decide +kernel
theorem k183_151 : pm_look (pm_kl 183) 151 = some (.iconst (-1), 1) := by decide +kernel
theorem k183_152 : pm_look (pm_kl 183) 152 = some (.ireturn, 1) := by decide +kernel
theorem k184_0 : pm_look (pm_kl 184) 0 = some (.aload_n 0, 1) := by decide +kernel
theorem k184_1 : pm_look (pm_kl 184) 1 = some (.iconst 0, 1) := by decide +kernel
theorem k184_2 : pm_look (pm_kl 184) 2 = some (.iconst 5, 1) := by decide +kernel
theorem k184_3 : pm_look (pm_kl 184) 3 = some (.iconst 2, 1) := by decide +kernel
theorem k184_4 : pm_look (pm_kl 184) 4 = some (.iconst 2, 1) := by decide +kernel
theorem k184_5 : pm_look (pm_kl 184) 5 = some (.invokevirtual 309, 3) := by decide +kernel
theorem k184_8 : pm_look (pm_kl 184) 8 = some (.istore_n 2, 1) := by decide +kernel
theorem k184_9 : pm_look (pm_kl 184) 9 = some (.iload_n 2, 1) := by decide +kernel
theorem k184_10 : pm_look (pm_kl 184) 10 = some (.ifCond .le 5, 3) := by decide +kernel
theorem k184_13 : pm_look (pm_kl 184) 13 = some (.iload_n 2, 1) := by decide +kernel
theorem k184_14 : pm_look (pm_kl 184) 14 = some (.ireturn, 1) := by decide +kernel
theorem k184_15 : pm_look (pm_kl 184) 15 = some (.aload_n 0, 1) := by decide +kernel
theorem k184_16 : pm_look (pm_kl 184) 16 = some (.getfield 58, 3) := by decide +kernel
theorem k184_19 : pm_look (pm_kl 184) 19 = some (.iload_n 1, 1) := by decide +kernel
theorem k184_20 : pm_look (pm_kl 184) 20 = some (.aload_n 0, 1) := by decide +kernel
theorem k184_21 : pm_look (pm_kl 184) 21 = some (.getfield 298, 3) := by decide +kernel
theorem k184_24 : pm_look (pm_kl 184) 24 = some (.iastore, 1) := by decide +kernel
theorem k184_25 : pm_look (pm_kl 184) 25 = some (.aload_n 0, 1) := by decide +kernel
theorem k184_26 : pm_look (pm_kl 184) 26 = some (.invokevirtual 302, 3) := by decide +kernel
theorem k184_29 : pm_look (pm_kl 184) 29 = some (.aload_n 0, 1) := by decide +kernel
theorem k184_30 : pm_look (pm_kl 184) 30 = some (.invokevirtual 313, 3) := by decide +kernel
theorem k184_33 : pm_look (pm_kl 184) 33 = some (.ifCond .ge 13, 3) := by decide +kernel
theorem k184_36 : pm_look (pm_kl 184) 36 = some (.aload_n 0, 1) := by decide +kernel
theorem k184_37 : pm_look (pm_kl 184) 37 = some (.iconst 1, 1) := by decide +kernel
theorem k184_38 : pm_look (pm_kl 184) 38 = some (.aload_n 0, 1) := by decide +kernel
theorem k184_39 : pm_look (pm_kl 184) 39 = some (.getfield 265, 3) := by decide +kernel
theorem k184_42 : pm_look (pm_kl 184) 42 = some (.invokevirtual 295, 3) := by decide +kernel
theorem k184_45 : pm_look (pm_kl 184) 45 = some (.ireturn, 1) := by decide +kernel
theorem k184_46 : pm_look (pm_kl 184) 46 = some (.aload_n 0, 1) := by decide +kernel
theorem k184_47 : pm_look (pm_kl 184) 47 = some (.getfield 61, 3) := by decide +kernel
theorem k184_50 : pm_look (pm_kl 184) 50 = some (.iload_n 1, 1) := by decide +kernel
theorem k184_51 : pm_look (pm_kl 184) 51 = some (.aload_n 0, 1) := by decide +kernel
theorem k184_52 : pm_look (pm_kl 184) 52 = some (.invokevirtual 313, 3) := by decide +kernel
theorem k184_55 : pm_look (pm_kl 184) 55 = some (.iastore, 1) := by decide +kernel
theorem k184_56 : pm_look (pm_kl 184) 56 = some (.aload_n 0, 1) := by decide +kernel
theorem k184_57 : pm_look (pm_kl 184) 57 = some (.aload_n 0, 1) := by decide +kernel
theorem k184_58 : pm_look (pm_kl 184) 58 = some (.getfield 276, 3) := by decide +kernel
theorem k184_61 : pm_look (pm_kl 184) 61 = some (.putfield 265, 3) := by decide +kernel
theorem k184_64 : pm_look (pm_kl 184) 64 = some (.iconst 0, 1) := by decide +kernel
theorem k184_65 : pm_look (pm_kl 184) 65 = some (.ireturn, 1) := by decide +kernel
theorem k185_0 : pm_look (pm_kl 185) 0 = some (.aload_n 0, 1) := by decide +kernel
theorem k185_1 : pm_look (pm_kl 185) 1 = some (.iconst 0, 1) := by decide +kernel
theorem k185_2 : pm_look (pm_kl 185) 2 = some (.iload_n 2, 1) := by decide +kernel
theorem k185_3 : pm_look (pm_kl 185) 3 = some (.iconst 3, 1) := by decide +kernel
theorem k185_4 : pm_look (pm_kl 185) 4 = some (.if_icmp .ne 8, 3) := by decide +kernel
theorem k185_7 : pm_look (pm_kl 185) 7 = some (.bipush 39, 2) := by decide +kernel
theorem k185_9 : pm_look (pm_kl 185) 9 = some (.goto 4, 3) := by decide +kernel
theorem k185_12 : pm_look (pm_kl 185) 12 = some (.iconst 5, 1) := by decide +kernel
theorem k185_13 : pm_look (pm_kl 185) 13 = some (.iconst 2, 1) := by decide +kernel
theorem k185_14 : pm_look (pm_kl 185) 14 = some (.iconst 2, 1) := by decide +kernel
theorem k185_15 : pm_look (pm_kl 185) 15 = some (.invokevirtual 309, 3) := by decide +kernel
theorem k185_18 : pm_look (pm_kl 185) 18 = some (.istore_n 3, 1) := by decide +kernel
theorem k185_19 : pm_look (pm_kl 185) 19 = some (.aload_n 0, 1) := by decide +kernel
theorem k185_20 : pm_look (pm_kl 185) 20 = some (.getfield 58, 3) := by decide +kernel
theorem k185_23 : pm_look (pm_kl 185) 23 = some (.iload_n 1, 1) := by decide +kernel
theorem k185_24 : pm_look (pm_kl 185) 24 = some (.aload_n 0, 1) := by decide +kernel
theorem k185_25 : pm_look (pm_kl 185) 25 = some (.getfield 298, 3) := by decide +kernel
theorem k185_28 : pm_look (pm_kl 185) 28 = some (.iastore, 1) := by decide +kernel
theorem k185_29 : pm_look (pm_kl 185) 29 = some (.iload_n 3, 1) := by decide +kernel
theorem k185_30 : pm_look (pm_kl 185) 30 = some (.ifCond .le 7, 3) := by decide +kernel
theorem k185_33 : pm_look (pm_kl 185) 33 = some (.iload_n 3, 1) := by decide +kernel
theorem k185_34 : pm_look (pm_kl 185) 34 = some (.goto 42, 3) := by decide +kernel
theorem k185_37 : pm_look (pm_kl 185) 37 = some (.aload_n 0, 1) := by decide +kernel
theorem k185_38 : pm_look (pm_kl 185) 38 = some (.iload_n 2, 1) := by decide +kernel
theorem k185_39 : pm_look (pm_kl 185) 39 = some (.iconst 1, 1) := by decide +kernel
theorem k185_40 : pm_look (pm_kl 185) 40 = some (.if_icmp .ne 20, 3) := by decide +kernel
theorem k185_43 : pm_look (pm_kl 185) 43 = some (.bipush 117, 2) := by decide +kernel
theorem k185_45 : pm_look (pm_kl 185) 45 = some (.bipush 110, 2) := by decide +kernel
theorem k185_47 : pm_look (pm_kl 185) 47 = some (.bipush 100, 2) := by decide +kernel
theorem k185_49 : pm_look (pm_kl 185) 49 = some (.bipush 101, 2) := by decide +kernel
theorem k185_51 : pm_look (pm_kl 185) 51 = some (.bipush 114, 2) := by decide +kernel
theorem k185_53 : pm_look (pm_kl 185) 53 = some (.iconst 0, 1) := by decide +kernel
theorem k185_54 : pm_look (pm_kl 185) 54 = some (.invokestatic 305, 3) := by decide +kernel
theorem k185_57 : pm_look (pm_kl 185) 57 = some (.goto 16, 3) := by decide +kernel
theorem k185_60 : pm_look (pm_kl 185) 60 = some (.bipush 119, 2) := by decide +kernel
theorem k185_62 : pm_look (pm_kl 185) 62 = some (.bipush 105, 2) := by decide +kernel
theorem k185_64 : pm_look (pm_kl 185) 64 = some (.bipush 116, 2) := by decide +kernel
theorem k185_66 : pm_look (pm_kl 185) 66 = some (.bipush 104, 2) := by decide +kernel
theorem k185_68 : pm_look (pm_kl 185) 68 = some (.iconst 0, 1) := by decide +kernel
theorem k185_69 : pm_look (pm_kl 185) 69 = some (.iconst 0, 1) := by decide +kernel
theorem k185_70 : pm_look (pm_kl 185) 70 = some (.invokestatic 305, 3) := by decide +kernel
theorem k185_73 : pm_look (pm_kl 185) 73 = some (.invokevirtual 316, 3) := by decide +kernel
theorem k185_76 : pm_look (pm_kl 185) 76 = some (.istore_n 3, 1) := by decide +kernel
theorem k185_77 : pm_look (pm_kl 185) 77 = some (.iload_n 3, 1) := by decide +kernel
theorem k185_78 : pm_look (pm_kl 185) 78 = some (.ifCond .le 7, 3) := by decide +kernel
theorem k185_81 : pm_look (pm_kl 185) 81 = some (.iload_n 3, 1) := by decide +kernel
theorem k185_82 : pm_look (pm_kl 185) 82 = some (.goto 21, 3) := by decide +kernel
theorem k185_85 : pm_look (pm_kl 185) 85 = some (.aload_n 0, 1) := by decide +kernel
theorem k185_86 : pm_look (pm_kl 185) 86 = some (.iconst 0, 1) := by decide +kernel
theorem k185_87 : pm_look (pm_kl 185) 87 = some (.iload_n 2, 1) := by decide +kernel
theorem k185_88 : pm_look (pm_kl 185) 88 = some (.iconst 2, 1) := by decide +kernel
theorem k185_89 : pm_look (pm_kl 185) 89 = some (.if_icmp .ne 7, 3) := by decide +kernel
theorem k185_92 : pm_look (pm_kl 185) 92 = some (.iconst 5, 1) := by decide +kernel
theorem k185_93 : pm_look (pm_kl 185) 93 = some (.goto 5, 3) := by decide +kernel
theorem k185_96 : pm_look (pm_kl 185) 96 = some (.bipush 39, 2) := by decide +kernel
theorem k185_98 : pm_look (pm_kl 185) 98 = some (.iconst 2, 1) := by decide +kernel
theorem k185_99 : pm_look (pm_kl 185) 99 = some (.iconst 2, 1) := by decide +kernel
theorem k185_100 : pm_look (pm_kl 185) 100 = some (.invokevirtual 309, 3) := by decide +kernel
theorem k185_103 : pm_look (pm_kl 185) 103 = some (.istore_n 3, 1) := by decide +kernel
theorem k185_104 : pm_look (pm_kl 185) 104 = some (.aload_n 0, 1) := by decide +kernel
theorem k185_105 : pm_look (pm_kl 185) 105 = some (.getfield 61, 3) := by decide +kernel
theorem k185_108 : pm_look (pm_kl 185) 108 = some (.iload_n 1, 1) := by decide +kernel
theorem k185_109 : pm_look (pm_kl 185) 109 = some (.aload_n 0, 1) := by decide +kernel
theorem k185_110 : pm_look (pm_kl 185) 110 = some (.getfield 298, 3) := by decide +kernel
theorem k185_113 : pm_look (pm_kl 185) 113 = some (.iastore, 1) := by decide +kernel
theorem k185_114 : pm_look (pm_kl 185) 114 = some (.iload_n 3, 1) := by decide +kernel
theorem k185_115 : pm_look (pm_kl 185) 115 = some (.ireturn, 1) := by decide +kernel
theorem k186_0 : pm_look (pm_kl 186) 0 = some (.aload_n 0, 1) := by decide +kernel
theorem k186_1 : pm_look (pm_kl 186) 1 = some (.invokevirtual 302, 3) := by decide +kernel
theorem k186_4 : pm_look (pm_kl 186) 4 = some (.aload_n 0, 1) := by decide +kernel
theorem k186_5 : pm_look (pm_kl 186) 5 = some (.invokevirtual 320, 3) := by decide +kernel
theorem k186_8 : pm_look (pm_kl 186) 8 = some (.istore_n 3, 1) := by decide +kernel
theorem k186_9 : pm_look (pm_kl 186) 9 = some (.iload_n 3, 1) := by decide +kernel
theorem k186_10 : pm_look (pm_kl 186) 10 = some (.ifCond .lt 7, 3) := by decide +kernel
theorem k186_13 : pm_look (pm_kl 186) 13 = some (.iload_n 2, 1) := by decide +kernel
theorem k186_14 : pm_look (pm_kl 186) 14 = some (.ifCond .eq 21, 3) := by decide +kernel
theorem k186_17 : pm_look (pm_kl 186) 17 = some (.aload_n 0, 1) := by decide +kernel
theorem k186_18 : pm_look (pm_kl 186) 18 = some (.iload_n 3, 1) := by decide +kernel
theorem k186_19 : pm_look (pm_kl 186) 19 = some (.ifCond .ge 7, 3) := by decide +kernel
theorem k186_22 : pm_look (pm_kl 186) 22 = some (.iconst 1, 1) := by decide +kernel
theorem k186_23 : pm_look (pm_kl 186) 23 = some (.goto 4, 3) := by decide +kernel
theorem k186_26 : pm_look (pm_kl 186) 26 = some (.iconst 4, 1) := by decide +kernel
theorem k186_27 : pm_look (pm_kl 186) 27 = some (.aload_n 0, 1) := by decide +kernel
theorem k186_28 : pm_look (pm_kl 186) 28 = some (.getfield 265, 3) := by decide +kernel
theorem k186_31 : pm_look (pm_kl 186) 31 = some (.invokevirtual 295, 3) := by decide +kernel
theorem k186_34 : pm_look (pm_kl 186) 34 = some (.ireturn, 1) := by decide +kernel
theorem k186_35 : pm_look (pm_kl 186) 35 = some (.aload_n 0, 1) := by decide +kernel
theorem k186_36 : pm_look (pm_kl 186) 36 = some (.aload_n 0, 1) := by decide +kernel
theorem k186_37 : pm_look (pm_kl 186) 37 = some (.getfield 276, 3) := by decide +kernel
theorem k186_40 : pm_look (pm_kl 186) 40 = some (.putfield 265, 3) := by decide +kernel
theorem k186_43 : pm_look (pm_kl 186) 43 = some (.iconst 0, 1) := by decide +kernel
theorem k186_44 : pm_look (pm_kl 186) 44 = some (.istore 4, 2) := by decide +kernel
theorem k186_46 : pm_look (pm_kl 186) 46 = some (.iload_n 3, 1) := by decide +kernel
theorem k186_47 : pm_look (pm_kl 186) 47 = some (.ifCond .ne 13, 3) := by decide +kernel
theorem k186_50 : pm_look (pm_kl 186) 50 = some (.aload_n 0, 1) := by decide +kernel
theorem k186_51 : pm_look (pm_kl 186) 51 = some (.iload_n 1, 1) := by decide +kernel
theorem k186_52 : pm_look (pm_kl 186) 52 = some (.invokevirtual 323, 3) := by decide +kernel
theorem k186_55 : pm_look (pm_kl 186) 55 = some (.istore 4, 2) := by decide +kernel
theorem k186_57 : pm_look (pm_kl 186) 57 = some (.goto 68, 3) := by decide +kernel
theorem k186_60 : pm_look (pm_kl 186) 60 = some (.iload_n 3, 1) := by decide +kernel
theorem k186_61 : pm_look (pm_kl 186) 61 = some (.iconst 4, 1) := by decide +kernel
theorem k186_62 : pm_look (pm_kl 186) 62 = some (.if_icmp .ge 14, 3) := by decide +kernel
theorem k186_65 : pm_look (pm_kl 186) 65 = some (.aload_n 0, 1) := by decide +kernel
theorem k186_66 : pm_look (pm_kl 186) 66 = some (.iload_n 1, 1) := by decide +kernel
theorem k186_67 : pm_look (pm_kl 186) 67 = some (.iload_n 3, 1) := by decide +kernel
theorem k186_68 : pm_look (pm_kl 186) 68 = some (.invokevirtual 326, 3) := by decide +kernel
theorem k186_71 : pm_look (pm_kl 186) 71 = some (.istore 4, 2) := by decide +kernel
theorem k186_73 : pm_look (pm_kl 186) 73 = some (.goto 52, 3) := by decide +kernel
theorem k186_76 : pm_look (pm_kl 186) 76 = some (.iload_n 3, 1) := by decide +kernel
theorem k186_77 : pm_look (pm_kl 186) 77 = some (.iconst 4, 1) := by decide +kernel
theorem k186_78 : pm_look (pm_kl 186) 78 = some (.if_icmp .ne 15, 3) := by decide +kernel
theorem k186_81 : pm_look (pm_kl 186) 81 = some (.aload_n 0, 1) := by decide +kernel
theorem k186_82 : pm_look (pm_kl 186) 82 = some (.iconst 1, 1) := by decide +kernel
theorem k186_83 : pm_look (pm_kl 186) 83 = some (.bipush 20, 2) := by decide +kernel
theorem k186_85 : pm_look (pm_kl 186) 85 = some (.iconst 2, 1) := by decide +kernel
theorem k186_86 : pm_look (pm_kl 186) 86 = some (.iconst 2, 1) := by decide +kernel
theorem k186_87 : pm_look (pm_kl 186) 87 = some (.invokevirtual 309, 3) := by decide +kernel
theorem k186_90 : pm_look (pm_kl 186) 90 = some (.goto 16, 3) := by decide +kernel
theorem k186_93 : pm_look (pm_kl 186) 93 = some (.aload_n 0, 1) := by decide +kernel
theorem k186_94 : pm_look (pm_kl 186) 94 = some (.iconst 0, 1) := by decide +kernel
theorem k186_95 : pm_look (pm_kl 186) 95 = some (.aload_n 0, 1) := by decide +kernel
theorem k186_96 : pm_look (pm_kl 186) 96 = some (.getfield 204, 3) := by decide +kernel
theorem k186_99 : pm_look (pm_kl 186) 99 = some (.iconst 1, 1) := by decide +kernel
theorem k186_100 : pm_look (pm_kl 186) 100 = some (.isub, 1) := by decide +kernel
theorem k186_101 : pm_look (pm_kl 186) 101 = some (.iconst 2, 1) := by decide +kernel
theorem k186_102 : pm_look (pm_kl 186) 102 = some (.iconst 3, 1) := by decide +kernel
theorem k186_103 : pm_look (pm_kl 186) 103 = some (.invokevirtual 309, 3) := by decide +kernel
theorem k186_106 : pm_look (pm_kl 186) 106 = some (.istore 4, 2) := by decide +kernel
theorem k186_108 : pm_look (pm_kl 186) 108 = some (.aload_n 0, 1) := by decide +kernel
theorem k186_109 : pm_look (pm_kl 186) 109 = some (.getfield 58, 3) := by decide +kernel
theorem k186_112 : pm_look (pm_kl 186) 112 = some (.iload_n 1, 1) := by decide +kernel
theorem k186_113 : pm_look (pm_kl 186) 113 = some (.aload_n 0, 1) := by decide +kernel
theorem k186_114 : pm_look (pm_kl 186) 114 = some (.getfield 298, 3) := by decide +kernel
theorem k186_117 : pm_look (pm_kl 186) 117 = some (.iastore, 1) := by decide +kernel
theorem k186_118 : pm_look (pm_kl 186) 118 = some (.aload_n 0, 1) := by decide +kernel
theorem k186_119 : pm_look (pm_kl 186) 119 = some (.getfield 61, 3) := by decide +kernel
theorem k186_122 : pm_look (pm_kl 186) 122 = some (.iload_n 1, 1) := by decide +kernel
theorem k186_123 : pm_look (pm_kl 186) 123 = some (.iconst 0, 1) := by decide +kernel
theorem k186_124 : pm_look (pm_kl 186) 124 = some (.iastore, 1) := by decide +kernel
theorem k186_125 : pm_look (pm_kl 186) 125 = some (.iload 4, 2) := by decide +kernel
theorem k186_127 : pm_look (pm_kl 186) 127 = some (.ifCond .le 6, 3) := by decide +kernel
theorem k186_130 : pm_look (pm_kl 186) 130 = some (.iload 4, 2) := by decide +kernel
theorem k186_132 : pm_look (pm_kl 186) 132 = some (.ireturn, 1) := by decide +kernel
theorem k186_133 : pm_look (pm_kl 186) 133 = some (.aload_n 0, 1) := by decide +kernel
theorem k186_134 : pm_look (pm_kl 186) 134 = some (.invokevirtual 268, 3) := by decide +kernel
theorem k186_137 : pm_look (pm_kl 186) 137 = some (.bipush 59, 2) := by decide +kernel
theorem k186_139 : pm_look (pm_kl 186) 139 = some (.if_icmp .eq 13, 3) := by decide +kernel
theorem k186_142 : pm_look (pm_kl 186) 142 = some (.aload_n 0, 1) := by decide +kernel
theorem k186_143 : pm_look (pm_kl 186) 143 = some (.iconst 1, 1) := by decide +kernel
theorem k186_144 : pm_look (pm_kl 186) 144 = some (.aload_n 0, 1) := by decide +kernel
theorem k186_145 : pm_look (pm_kl 186) 145 = some (.getfield 265, 3) := by decide +kernel
theorem k186_148 : pm_look (pm_kl 186) 148 = some (.invokevirtual 295, 3) := by decide +kernel
theorem k186_151 : pm_look (pm_kl 186) 151 = some (.ireturn, 1) := by decide +kernel
theorem k186_152 : pm_look (pm_kl 186) 152 = some (.aload_n 0, 1) := by decide +kernel
theorem k186_153 : pm_look (pm_kl 186) 153 = some (.dup, 1) := by decide +kernel
theorem k186_154 : pm_look (pm_kl 186) 154 = some (.getfield 265, 3) := by decide +kernel
theorem k186_157 : pm_look (pm_kl 186) 157 = some (.iconst 1, 1) := by decide +kernel
theorem k186_158 : pm_look (pm_kl 186) 158 = some (.iadd, 1) := by decide +kernel
theorem k186_159 : pm_look (pm_kl 186) 159 = some (.putfield 265, 3) := by decide +kernel
theorem k186_162 : pm_look (pm_kl 186) 162 = some (.aload_n 0, 1) := by decide +kernel
theorem k186_163 : pm_look (pm_kl 186) 163 = some (.getfield 55, 3) := by decide +kernel
theorem k186_166 : pm_look (pm_kl 186) 166 = some (.iload_n 1, 1) := by decide +kernel
theorem k186_167 : pm_look (pm_kl 186) 167 = some (.iload_n 3, 1) := by decide +kernel
theorem k186_168 : pm_look (pm_kl 186) 168 = some (.iastore, 1) := by decide +kernel
theorem k186_169 : pm_look (pm_kl 186) 169 = some (.iconst 0, 1) := by decide +kernel
theorem k186_170 : pm_look (pm_kl 186) 170 = some (.ireturn, 1) := by decide +kernel
theorem k187_0 : pm_look (pm_kl 187) 0 = some (.iload_n 1, 1) := by decide +kernel
theorem k187_1 : pm_look (pm_kl 187) 1 = some (.i2l, 1) := by decide +kernel
theorem k187_2 : pm_look (pm_kl 187) 2 = some (.lconst 0, 1) := by decide +kernel
theorem k187_3 : pm_look (pm_kl 187) 3 = some (.ldc2_w 188, 3) := by decide +kernel
theorem k187_6 : pm_look (pm_kl 187) 6 = some (.invokestatic 137, 3) := by decide +kernel
theorem k187_9 : pm_look (pm_kl 187) 9 = some (.ifCond .ne 7, 3) := by decide +kernel
theorem k187_12 : pm_look (pm_kl 187) 12 = some (.sipush (-1002), 3) := by decide +kernel
theorem k187_15 : pm_look (pm_kl 187) 15 = some (.ireturn, 1) := by decide +kernel
theorem k187_16 : pm_look (pm_kl 187) 16 = some (.aload_n 0, 1) := by decide +kernel
theorem k187_17 : pm_look (pm_kl 187) 17 = some (.getfield 204, 3) := by decide +kernel
theorem k187_20 : pm_look (pm_kl 187) 20 = some (.bipush 8, 2) := by decide +kernel
theorem k187_22 : pm_look (pm_kl 187) 22 = some (.if_icmp .ne 7, 3) := by decide +kernel
theorem k187_25 : pm_look (pm_kl 187) 25 = some (.sipush (-1004), 3) := by decide +kernel
theorem k187_28 : pm_look (pm_kl 187) 28 = some (.ireturn, 1) := by decide +kernel
theorem k187_29 : pm_look (pm_kl 187) 29 = some (.aload_n 0, 1) := by decide +kernel
theorem k187_30 : pm_look (pm_kl 187) 30 = some (.iconst (-1), 1) := by decide +kernel
theorem k187_31 : pm_look (pm_kl 187) 31 = some (.putfield 93, 3) := by decide +kernel
theorem k187_34 : pm_look (pm_kl 187) 34 = some (.aload_n 0, 1) := by decide +kernel
theorem k187_35 : pm_look (pm_kl 187) 35 = some (.iconst 0, 1) := by decide +kernel
theorem k187_36 : pm_look (pm_kl 187) 36 = some (.putfield 265, 3) := by decide +kernel
theorem k187_39 : pm_look (pm_kl 187) 39 = some (.iconst 0, 1) := by decide +kernel
theorem k187_40 : pm_look (pm_kl 187) 40 = some (.istore_n 2, 1) := by decide +kernel
theorem k187_41 : pm_look (pm_kl 187) 41 = some (.iconst 0, 1) := by decide +kernel
theorem k187_42 : pm_look (pm_kl 187) 42 = some (.istore_n 3, 1) := by decide +kernel
theorem k187_43 : pm_look (pm_kl 187) 43 = some (.iload_n 3, 1) := by decide +kernel
theorem k187_44 : pm_look (pm_kl 187) 44 = some (.ifCond .ne 47, 3) := by decide +kernel
theorem k187_47 : pm_look (pm_kl 187) 47 = some (.aload_n 0, 1) := by decide +kernel
theorem k187_48 : pm_look (pm_kl 187) 48 = some (.invokevirtual 268, 3) := by decide +kernel
theorem k187_51 : pm_look (pm_kl 187) 51 = some (.ifCond .lt 40, 3) := by decide +kernel
theorem k187_54 : pm_look (pm_kl 187) 54 = some (.aload_n 0, 1) := by decide +kernel
theorem k187_55 : pm_look (pm_kl 187) 55 = some (.aload_n 0, 1) := by decide +kernel
theorem k187_56 : pm_look (pm_kl 187) 56 = some (.getfield 217, 3) := by decide +kernel
theorem k187_59 : pm_look (pm_kl 187) 59 = some (.iload_n 2, 1) := by decide +kernel
theorem k187_60 : pm_look (pm_kl 187) 60 = some (.iadd, 1) := by decide +kernel
theorem k187_61 : pm_look (pm_kl 187) 61 = some (.iload_n 2, 1) := by decide +kernel
theorem k187_62 : pm_look (pm_kl 187) 62 = some (.bipush 8, 2) := by decide +kernel
theorem k187_64 : pm_look (pm_kl 187) 64 = some (.if_icmp .ne 7, 3) := by decide +kernel
theorem k187_67 : pm_look (pm_kl 187) 67 = some (.iconst 1, 1) := by decide +kernel
theorem k187_68 : pm_look (pm_kl 187) 68 = some (.goto 4, 3) := by decide +kernel
theorem k187_71 : pm_look (pm_kl 187) 71 = some (.iconst 0, 1) := by decide +kernel
theorem k187_72 : pm_look (pm_kl 187) 72 = some (.invokevirtual 329, 3) := by decide +kernel
theorem k187_75 : pm_look (pm_kl 187) 75 = some (.istore_n 3, 1) := by decide +kernel
theorem k187_76 : pm_look (pm_kl 187) 76 = some (.iload_n 2, 1) := by decide +kernel
theorem k187_77 : pm_look (pm_kl 187) 77 = some (.iload_n 3, 1) := by decide +kernel
theorem k187_78 : pm_look (pm_kl 187) 78 = some (.ifCond .ne 7, 3) := by decide +kernel
theorem k187_81 : pm_look (pm_kl 187) 81 = some (.iconst 1, 1) := by decide +kernel
theorem k187_82 : pm_look (pm_kl 187) 82 = some (.goto 4, 3) := by decide +kernel
theorem k187_85 : pm_look (pm_kl 187) 85 = some (.iconst 0, 1) := by decide +kernel
theorem k187_86 : pm_look (pm_kl 187) 86 = some (.iadd, 1) := by decide +kernel
theorem k187_87 : pm_look (pm_kl 187) 87 = some (.istore_n 2, 1) := by decide +kernel
theorem k187_88 : pm_look (pm_kl 187) 88 = some (.goto (-45), 3) := by decide +kernel
theorem k187_91 : pm_look (pm_kl 187) 91 = some (.aload_n 0, 1) := by decide +kernel
theorem k187_92 : pm_look (pm_kl 187) 92 = some (.iconst 0, 1) := by decide +kernel
theorem k187_93 : pm_look (pm_kl 187) 93 = some (.putfield 249, 3) := by decide +kernel
theorem k187_96 : pm_look (pm_kl 187) 96 = some (.iload_n 3, 1) := by decide +kernel
theorem k187_97 : pm_look (pm_kl 187) 97 = some (.ifCond .le 8, 3) := by decide +kernel
theorem k187_100 : pm_look (pm_kl 187) 100 = some (.bipush (-10), 2) := by decide +kernel
theorem k187_102 : pm_look (pm_kl 187) 102 = some (.iload_n 3, 1) := by decide +kernel
theorem k187_103 : pm_look (pm_kl 187) 103 = some (.isub, 1) := by decide +kernel
theorem k187_104 : pm_look (pm_kl 187) 104 = some (.ireturn, 1) := by decide +kernel
theorem k187_105 : pm_look (pm_kl 187) 105 = some (.aload_n 0, 1) := by decide +kernel
theorem k187_106 : pm_look (pm_kl 187) 106 = some (.getfield 49, 3) := by decide +kernel
theorem k187_109 : pm_look (pm_kl 187) 109 = some (.aload_n 0, 1) := by decide +kernel
theorem k187_110 : pm_look (pm_kl 187) 110 = some (.getfield 204, 3) := by decide +kernel
theorem k187_113 : pm_look (pm_kl 187) 113 = some (.iload_n 1, 1) := by decide +kernel
theorem k187_114 : pm_look (pm_kl 187) 114 = some (.iastore, 1) := by decide +kernel
theorem k187_115 : pm_look (pm_kl 187) 115 = some (.aload_n 0, 1) := by decide +kernel
theorem k187_116 : pm_look (pm_kl 187) 116 = some (.getfield 52, 3) := by decide +kernel
theorem k187_119 : pm_look (pm_kl 187) 119 = some (.aload_n 0, 1) := by decide +kernel
theorem k187_120 : pm_look (pm_kl 187) 120 = some (.getfield 204, 3) := by decide +kernel
theorem k187_123 : pm_look (pm_kl 187) 123 = some (.aload_n 0, 1) := by decide +kernel
theorem k187_124 : pm_look (pm_kl 187) 124 = some (.getfield 217, 3) := by decide +kernel
theorem k187_127 : pm_look (pm_kl 187) 127 = some (.iastore, 1) := by decide +kernel
theorem k187_128 : pm_look (pm_kl 187) 128 = some (.aload_n 0, 1) := by decide +kernel
theorem k187_129 : pm_look (pm_kl 187) 129 = some (.dup, 1) := by decide +kernel
theorem k187_130 : pm_look (pm_kl 187) 130 = some (.getfield 217, 3) := by decide +kernel
theorem k187_133 : pm_look (pm_kl 187) 133 = some (.iload_n 2, 1) := by decide +kernel
theorem k187_134 : pm_look (pm_kl 187) 134 = some (.iadd, 1) := by decide +kernel
theorem k187_135 : pm_look (pm_kl 187) 135 = some (.putfield 217, 3) := by decide +kernel
theorem k187_138 : pm_look (pm_kl 187) 138 = some (.aload_n 0, 1) := by decide +kernel
theorem k187_139 : pm_look (pm_kl 187) 139 = some (.dup, 1) := by decide +kernel
theorem k187_140 : pm_look (pm_kl 187) 140 = some (.getfield 204, 3) := by decide +kernel
theorem k187_143 : pm_look (pm_kl 187) 143 = some (.iconst 1, 1) := by decide +kernel
theorem k187_144 : pm_look (pm_kl 187) 144 = some (.iadd, 1) := by decide +kernel
theorem k187_145 : pm_look (pm_kl 187) 145 = some (.putfield 204, 3) := by decide +kernel
theorem k187_148 : pm_look (pm_kl 187) 148 = some (.aload_n 0, 1) := by decide +kernel
theorem k187_149 : pm_look (pm_kl 187) 149 = some (.getfield 52, 3) := by decide +kernel
theorem k187_152 : pm_look (pm_kl 187) 152 = some (.aload_n 0, 1) := by decide +kernel
theorem k187_153 : pm_look (pm_kl 187) 153 = some (.getfield 204, 3) := by decide +kernel
theorem k187_156 : pm_look (pm_kl 187) 156 = some (.aload_n 0, 1) := by decide +kernel
theorem k187_157 : pm_look (pm_kl 187) 157 = some (.getfield 217, 3) := by decide +kernel
theorem k187_160 : pm_look (pm_kl 187) 160 = some (.iastore, 1) := by decide +kernel
theorem k187_161 : pm_look (pm_kl 187) 161 = some (.aload_n 0, 1) := by decide +kernel
theorem k187_162 : pm_look (pm_kl 187) 162 = some (.getfield 204, 3) := by decide +kernel
theorem k187_165 : pm_look (pm_kl 187) 165 = some (.iconst 1, 1) := by decide +kernel
theorem k187_166 : pm_look (pm_kl 187) 166 = some (.isub, 1) := by decide +kernel
theorem k187_167 : pm_look (pm_kl 187) 167 = some (.ireturn, 1) := by decide +kernel
theorem k188_0 : pm_look (pm_kl 188) 0 = some (.aload_n 0, 1) := by decide +kernel
theorem k188_1 : pm_look (pm_kl 188) 1 = some (.getfield 93, 3) := by decide +kernel
theorem k188_4 : pm_look (pm_kl 188) 4 = some (.ireturn, 1) := by decide +kernel
theorem k189_0 : pm_look (pm_kl 189) 0 = some (.iload_n 1, 1) := by decide +kernel
theorem k189_1 : pm_look (pm_kl 189) 1 = some (.i2l, 1) := by decide +kernel
theorem k189_2 : pm_look (pm_kl 189) 2 = some (.lconst 0, 1) := by decide +kernel
theorem k189_3 : pm_look (pm_kl 189) 3 = some (.ldc2_w 188, 3) := by decide +kernel
theorem k189_6 : pm_look (pm_kl 189) 6 = some (.invokestatic 137, 3) := by decide +kernel
theorem k189_9 : pm_look (pm_kl 189) 9 = some (.ifCond .eq 15, 3) := by decide +kernel
theorem k189_12 : pm_look (pm_kl 189) 12 = some (.iload_n 2, 1) := by decide +kernel
theorem k189_13 : pm_look (pm_kl 189) 13 = some (.i2l, 1) := by decide +kernel
theorem k189_14 : pm_look (pm_kl 189) 14 = some (.lconst 0, 1) := by decide +kernel
theorem k189_15 : pm_look (pm_kl 189) 15 = some (.ldc2_w 188, 3) := by decide +kernel
theorem k189_18 : pm_look (pm_kl 189) 18 = some (.invokestatic 137, 3) := by decide +kernel
theorem k189_21 : pm_look (pm_kl 189) 21 = some (.ifCond .ne 7, 3) := by decide +kernel
theorem k189_24 : pm_look (pm_kl 189) 24 = some (.sipush (-1002), 3) := by decide +kernel
theorem k189_27 : pm_look (pm_kl 189) 27 = some (.ireturn, 1) := by decide +kernel
theorem k189_28 : pm_look (pm_kl 189) 28 = some (.aload_n 0, 1) := by decide +kernel
theorem k189_29 : pm_look (pm_kl 189) 29 = some (.iload_n 1, 1) := by decide +kernel
theorem k189_30 : pm_look (pm_kl 189) 30 = some (.invokevirtual 229, 3) := by decide +kernel
theorem k189_33 : pm_look (pm_kl 189) 33 = some (.iload_n 2, 1) := by decide +kernel
theorem k189_34 : pm_look (pm_kl 189) 34 = some (.bipush 7, 2) := by decide +kernel
theorem k189_36 : pm_look (pm_kl 189) 36 = some (.if_icmp .ge 23, 3) := by decide +kernel
theorem k189_39 : pm_look (pm_kl 189) 39 = some (.iload_n 2, 1) := by decide +kernel
theorem k189_40 : pm_look (pm_kl 189) 40 = some (.ifCond .ne 10, 3) := by decide +kernel
theorem k189_43 : pm_look (pm_kl 189) 43 = some (.aload_n 0, 1) := by decide +kernel
theorem k189_44 : pm_look (pm_kl 189) 44 = some (.getfield 210, 3) := by decide +kernel
theorem k189_47 : pm_look (pm_kl 189) 47 = some (.goto 11, 3) := by decide +kernel
theorem k189_50 : pm_look (pm_kl 189) 50 = some (.aload_n 0, 1) := by decide +kernel
theorem k189_51 : pm_look (pm_kl 189) 51 = some (.getfield 68, 3) := by decide +kernel
theorem k189_54 : pm_look (pm_kl 189) 54 = some (.iload_n 2, 1) := by decide +kernel
theorem k189_55 : pm_look (pm_kl 189) 55 = some (.iconst 1, 1) := by decide +kernel
theorem k189_56 : pm_look (pm_kl 189) 56 = some (.isub, 1) := by decide +kernel
theorem k189_57 : pm_look (pm_kl 189) 57 = some (.iaload, 1) := by decide +kernel
theorem k189_58 : pm_look (pm_kl 189) 58 = some (.ireturn, 1) := by decide +kernel
theorem k189_59 : pm_look (pm_kl 189) 59 = some (.iconst 0, 1) := by decide +kernel
theorem k189_60 : pm_look (pm_kl 189) 60 = some (.istore_n 3, 1) := by decide +kernel
theorem k189_61 : pm_look (pm_kl 189) 61 = some (.iconst 0, 1) := by decide +kernel
theorem k189_62 : pm_look (pm_kl 189) 62 = some (.istore 4, 2) := by decide +kernel
theorem k189_64 : pm_look (pm_kl 189) 64 = some (.iload 4, 2) := by decide +kernel
theorem k189_66 : pm_look (pm_kl 189) 66 = some (.aload_n 0, 1) := by decide +kernel
theorem k189_67 : pm_look (pm_kl 189) 67 = some (.getfield 217, 3) := by decide +kernel
theorem k189_70 : pm_look (pm_kl 189) 70 = some (.if_icmp .ge 30, 3) := by decide +kernel
theorem k189_73 : pm_look (pm_kl 189) 73 = some (.iload_n 3, 1) := by decide +kernel
theorem k189_74 : pm_look (pm_kl 189) 74 = some (.aload_n 0, 1) := by decide +kernel
theorem k189_75 : pm_look (pm_kl 189) 75 = some (.iload 4, 2) := by decide +kernel
theorem k189_77 : pm_look (pm_kl 189) 77 = some (.iload_n 2, 1) := by decide +kernel
theorem k189_78 : pm_look (pm_kl 189) 78 = some (.bipush 6, 2) := by decide +kernel
theorem k189_80 : pm_look (pm_kl 189) 80 = some (.isub, 1) := by decide +kernel
theorem k189_81 : pm_look (pm_kl 189) 81 = some (.invokevirtual 220, 3) := by decide +kernel
theorem k189_84 : pm_look (pm_kl 189) 84 = some (.ifCond .eq 7, 3) := by decide +kernel
theorem k189_87 : pm_look (pm_kl 189) 87 = some (.iconst 1, 1) := by decide +kernel
theorem k189_88 : pm_look (pm_kl 189) 88 = some (.goto 4, 3) := by decide +kernel
theorem k189_91 : pm_look (pm_kl 189) 91 = some (.iconst 0, 1) := by decide +kernel
theorem k189_92 : pm_look (pm_kl 189) 92 = some (.iadd, 1) := by decide +kernel
theorem k189_93 : pm_look (pm_kl 189) 93 = some (.istore_n 3, 1) := by decide +kernel
theorem k189_94 : pm_look (pm_kl 189) 94 = some (.iinc 4 1, 3) := by decide +kernel
theorem k189_97 : pm_look (pm_kl 189) 97 = some (.goto (-33), 3) := by decide +kernel
theorem k189_100 : pm_look (pm_kl 189) 100 = some (.iload_n 3, 1) := by decide +kernel
theorem k189_101 : pm_look (pm_kl 189) 101 = some (.ireturn, 1) := by decide +kernel
theorem k190_0 : pm_look (pm_kl 190) 0 = some (.iload_n 0, 1) := by decide +kernel
theorem k190_1 : pm_look (pm_kl 190) 1 = some (.i2l, 1) := by decide +kernel
theorem k190_2 : pm_look (pm_kl 190) 2 = some (.lconst 0, 1) := by decide +kernel
theorem k190_3 : pm_look (pm_kl 190) 3 = some (.ldc2_w 333, 3) := by decide +kernel
theorem k190_6 : pm_look (pm_kl 190) 6 = some (.invokestatic 137, 3) := by decide +kernel
theorem k190_9 : pm_look (pm_kl 190) 9 = some (.ifCond .eq 19, 3) := by decide +kernel
theorem k190_12 : pm_look (pm_kl 190) 12 = some (.iload_n 1, 1) := by decide +kernel
theorem k190_13 : pm_look (pm_kl 190) 13 = some (.i2l, 1) := by decide +kernel
theorem k190_14 : pm_look (pm_kl 190) 14 = some (.lconst 0, 1) := by decide +kernel
theorem k190_15 : pm_look (pm_kl 190) 15 = some (.ldc2_w 335, 3) := by decide +kernel
theorem k190_18 : pm_look (pm_kl 190) 18 = some (.invokestatic 137, 3) := by decide +kernel
theorem k190_21 : pm_look (pm_kl 190) 21 = some (.ifCond .eq 7, 3) := by decide +kernel
theorem k190_24 : pm_look (pm_kl 190) 24 = some (.iconst 1, 1) := by decide +kernel
theorem k190_25 : pm_look (pm_kl 190) 25 = some (.goto 4, 3) := by decide +kernel
theorem k190_28 : pm_look (pm_kl 190) 28 = some (.iconst 0, 1) := by decide +kernel
theorem k190_29 : pm_look (pm_kl 190) 29 = some (.ireturn, 1) := by decide +kernel
theorem k191_0 : pm_look (pm_kl 191) 0 = some (.iconst 0, 1) := by decide +kernel
theorem k191_1 : pm_look (pm_kl 191) 1 = some (.istore_n 3, 1) := by decide +kernel
theorem k191_2 : pm_look (pm_kl 191) 2 = some (.iconst 0, 1) := by decide +kernel
theorem k191_3 : pm_look (pm_kl 191) 3 = some (.istore 4, 2) := by decide +kernel
theorem k191_5 : pm_look (pm_kl 191) 5 = some (.iload 4, 2) := by decide +kernel
theorem k191_7 : pm_look (pm_kl 191) 7 = some (.aload_n 0, 1) := by decide +kernel
theorem k191_8 : pm_look (pm_kl 191) 8 = some (.getfield 252, 3) := by decide +kernel
theorem k191_11 : pm_look (pm_kl 191) 11 = some (.if_icmp .ge 33, 3) := by decide +kernel
theorem k191_14 : pm_look (pm_kl 191) 14 = some (.iload_n 3, 1) := by decide +kernel
theorem k191_15 : pm_look (pm_kl 191) 15 = some (.aload_n 0, 1) := by decide +kernel
theorem k191_16 : pm_look (pm_kl 191) 16 = some (.getfield 97, 3) := by decide +kernel
theorem k191_19 : pm_look (pm_kl 191) 19 = some (.iload 4, 2) := by decide +kernel
theorem k191_21 : pm_look (pm_kl 191) 21 = some (.iaload, 1) := by decide +kernel
theorem k191_22 : pm_look (pm_kl 191) 22 = some (.bipush 100, 2) := by decide +kernel
theorem k191_24 : pm_look (pm_kl 191) 24 = some (.iload_n 1, 1) := by decide +kernel
theorem k191_25 : pm_look (pm_kl 191) 25 = some (.imul, 1) := by decide +kernel
theorem k191_26 : pm_look (pm_kl 191) 26 = some (.iload_n 2, 1) := by decide +kernel
theorem k191_27 : pm_look (pm_kl 191) 27 = some (.iadd, 1) := by decide +kernel
theorem k191_28 : pm_look (pm_kl 191) 28 = some (.if_icmp .ne 7, 3) := by decide +kernel
theorem k191_31 : pm_look (pm_kl 191) 31 = some (.iconst 1, 1) := by decide +kernel
theorem k191_32 : pm_look (pm_kl 191) 32 = some (.goto 4, 3) := by decide +kernel
theorem k191_35 : pm_look (pm_kl 191) 35 = some (.iconst 0, 1) := by decide +kernel
theorem k191_36 : pm_look (pm_kl 191) 36 = some (.iadd, 1) := by decide +kernel
theorem k191_37 : pm_look (pm_kl 191) 37 = some (.istore_n 3, 1) := by decide +kernel
theorem k191_38 : pm_look (pm_kl 191) 38 = some (.iinc 4 1, 3) := by decide +kernel
theorem k191_41 : pm_look (pm_kl 191) 41 = some (.goto (-36), 3) := by decide +kernel
theorem k191_44 : pm_look (pm_kl 191) 44 = some (.iload_n 3, 1) := by decide +kernel
theorem k191_45 : pm_look (pm_kl 191) 45 = some (.ireturn, 1) := by decide +kernel
theorem k192_0 : pm_look (pm_kl 192) 0 = some (.aload_n 0, 1) := by decide +kernel
theorem k192_1 : pm_look (pm_kl 192) 1 = some (.iload_n 3, 1) := by decide +kernel
theorem k192_2 : pm_look (pm_kl 192) 2 = some (.invokevirtual 148, 3) := by decide +kernel
theorem k192_5 : pm_look (pm_kl 192) 5 = some (.ifCond .ne 7, 3) := by decide +kernel
theorem k192_8 : pm_look (pm_kl 192) 8 = some (.sipush (-1001), 3) := by decide +kernel
theorem k192_11 : pm_look (pm_kl 192) 11 = some (.ireturn, 1) := by decide +kernel
theorem k192_12 : pm_look (pm_kl 192) 12 = some (.iload_n 1, 1) := by decide +kernel
theorem k192_13 : pm_look (pm_kl 192) 13 = some (.iload_n 2, 1) := by decide +kernel
theorem k192_14 : pm_look (pm_kl 192) 14 = some (.invokestatic 337, 3) := by decide +kernel
theorem k192_17 : pm_look (pm_kl 192) 17 = some (.ifCond .ne 7, 3) := by decide +kernel
theorem k192_20 : pm_look (pm_kl 192) 20 = some (.sipush (-1002), 3) := by decide +kernel
theorem k192_23 : pm_look (pm_kl 192) 23 = some (.ireturn, 1) := by decide +kernel
theorem k192_24 : pm_look (pm_kl 192) 24 = some (.iconst 0, 1) := by decide +kernel
theorem k192_25 : pm_look (pm_kl 192) 25 = some (.istore 4, 2) := by decide +kernel
theorem k192_27 : pm_look (pm_kl 192) 27 = some (.iload 4, 2) := by decide +kernel
theorem k192_29 : pm_look (pm_kl 192) 29 = some (.aload_n 0, 1) := by decide +kernel
theorem k192_30 : pm_look (pm_kl 192) 30 = some (.getfield 252, 3) := by decide +kernel
theorem k192_33 : pm_look (pm_kl 192) 33 = some (.if_icmp .ge 40, 3) := by decide +kernel
theorem k192_36 : pm_look (pm_kl 192) 36 = some (.aload_n 0, 1) := by decide +kernel
theorem k192_37 : pm_look (pm_kl 192) 37 = some (.getfield 97, 3) := by decide +kernel
theorem k192_40 : pm_look (pm_kl 192) 40 = some (.iload 4, 2) := by decide +kernel
theorem k192_42 : pm_look (pm_kl 192) 42 = some (.iaload, 1) := by decide +kernel
theorem k192_43 : pm_look (pm_kl 192) 43 = some (.bipush 100, 2) := by decide +kernel
theorem k192_45 : pm_look (pm_kl 192) 45 = some (.iload_n 1, 1) := by decide +kernel
theorem k192_46 : pm_look (pm_kl 192) 46 = some (.imul, 1) := by decide +kernel
theorem k192_47 : pm_look (pm_kl 192) 47 = some (.iload_n 2, 1) := by decide +kernel
theorem k192_48 : pm_look (pm_kl 192) 48 = some (.iadd, 1) := by decide +kernel
theorem k192_49 : pm_look (pm_kl 192) 49 = some (.if_icmp .ne 18, 3) := by decide +kernel
theorem k192_52 : pm_look (pm_kl 192) 52 = some (.aload_n 0, 1) := by decide +kernel
theorem k192_53 : pm_look (pm_kl 192) 53 = some (.getfield 100, 3) := by decide +kernel
theorem k192_56 : pm_look (pm_kl 192) 56 = some (.iload 4, 2) := by decide +kernel
theorem k192_58 : pm_look (pm_kl 192) 58 = some (.iaload, 1) := by decide +kernel
theorem k192_59 : pm_look (pm_kl 192) 59 = some (.iload_n 3, 1) := by decide +kernel
theorem k192_60 : pm_look (pm_kl 192) 60 = some (.if_icmp .ne 7, 3) := by decide +kernel
theorem k192_63 : pm_look (pm_kl 192) 63 = some (.sipush (-1003), 3) := by decide +kernel
theorem k192_66 : pm_look (pm_kl 192) 66 = some (.ireturn, 1) := by decide +kernel
theorem k192_67 : pm_look (pm_kl 192) 67 = some (.iinc 4 1, 3) := by decide +kernel
theorem k192_70 : pm_look (pm_kl 192) 70 = some (.goto (-43), 3) := by decide +kernel
theorem k192_73 : pm_look (pm_kl 192) 73 = some (.aload_n 0, 1) := by decide +kernel
theorem k192_74 : pm_look (pm_kl 192) 74 = some (.getfield 252, 3) := by decide +kernel
theorem k192_77 : pm_look (pm_kl 192) 77 = some (.bipush 60, 2) := by decide +kernel
theorem k192_79 : pm_look (pm_kl 192) 79 = some (.if_icmp .ne 7, 3) := by decide +kernel
theorem k192_82 : pm_look (pm_kl 192) 82 = some (.sipush (-1004), 3) := by decide +kernel
theorem k192_85 : pm_look (pm_kl 192) 85 = some (.ireturn, 1) := by decide +kernel
theorem k192_86 : pm_look (pm_kl 192) 86 = some (.aload_n 0, 1) := by decide +kernel
theorem k192_87 : pm_look (pm_kl 192) 87 = some (.getfield 97, 3) := by decide +kernel
theorem k192_90 : pm_look (pm_kl 192) 90 = some (.aload_n 0, 1) := by decide +kernel
theorem k192_91 : pm_look (pm_kl 192) 91 = some (.getfield 252, 3) := by decide +kernel
theorem k192_94 : pm_look (pm_kl 192) 94 = some (.bipush 100, 2) := by decide +kernel
theorem k192_96 : pm_look (pm_kl 192) 96 = some (.iload_n 1, 1) := by decide +kernel
theorem k192_97 : pm_look (pm_kl 192) 97 = some (.imul, 1) := by decide +kernel
theorem k192_98 : pm_look (pm_kl 192) 98 = some (.iload_n 2, 1) := by decide +kernel
theorem k192_99 : pm_look (pm_kl 192) 99 = some (.iadd, 1) := by decide +kernel
theorem k192_100 : pm_look (pm_kl 192) 100 = some (.iastore, 1) := by decide +kernel
theorem k192_101 : pm_look (pm_kl 192) 101 = some (.aload_n 0, 1) := by decide +kernel
theorem k192_102 : pm_look (pm_kl 192) 102 = some (.getfield 100, 3) := by decide +kernel
theorem k192_105 : pm_look (pm_kl 192) 105 = some (.aload_n 0, 1) := by decide +kernel
theorem k192_106 : pm_look (pm_kl 192) 106 = some (.getfield 252, 3) := by decide +kernel
theorem k192_109 : pm_look (pm_kl 192) 109 = some (.iload_n 3, 1) := by decide +kernel
theorem k192_110 : pm_look (pm_kl 192) 110 = some (.iastore, 1) := by decide +kernel
theorem k192_111 : pm_look (pm_kl 192) 111 = some (.aload_n 0, 1) := by decide +kernel
theorem k192_112 : pm_look (pm_kl 192) 112 = some (.dup, 1) := by decide +kernel
theorem k192_113 : pm_look (pm_kl 192) 113 = some (.getfield 252, 3) := by decide +kernel
theorem k192_116 : pm_look (pm_kl 192) 116 = some (.iconst 1, 1) := by decide +kernel
theorem k192_117 : pm_look (pm_kl 192) 117 = some (.iadd, 1) := by decide +kernel
theorem k192_118 : pm_look (pm_kl 192) 118 = some (.putfield 252, 3) := by decide +kernel
theorem k192_121 : pm_look (pm_kl 192) 121 = some (.aload_n 0, 1) := by decide +kernel
theorem k192_122 : pm_look (pm_kl 192) 122 = some (.iload_n 1, 1) := by decide +kernel
theorem k192_123 : pm_look (pm_kl 192) 123 = some (.iload_n 2, 1) := by decide +kernel
theorem k192_124 : pm_look (pm_kl 192) 124 = some (.invokevirtual 340, 3) := by decide +kernel
theorem k192_127 : pm_look (pm_kl 192) 127 = some (.ireturn, 1) := by decide +kernel
theorem k193_0 : pm_look (pm_kl 193) 0 = some (.iload_n 1, 1) := by decide +kernel
theorem k193_1 : pm_look (pm_kl 193) 1 = some (.iload_n 2, 1) := by decide +kernel
theorem k193_2 : pm_look (pm_kl 193) 2 = some (.invokestatic 337, 3) := by decide +kernel
theorem k193_5 : pm_look (pm_kl 193) 5 = some (.ifCond .ne 7, 3) := by decide +kernel
theorem k193_8 : pm_look (pm_kl 193) 8 = some (.sipush (-1002), 3) := by decide +kernel
theorem k193_11 : pm_look (pm_kl 193) 11 = some (.ireturn, 1) := by decide +kernel
theorem k193_12 : pm_look (pm_kl 193) 12 = some (.aload_n 0, 1) := by decide +kernel
theorem k193_13 : pm_look (pm_kl 193) 13 = some (.iload_n 1, 1) := by decide +kernel
theorem k193_14 : pm_look (pm_kl 193) 14 = some (.iload_n 2, 1) := by decide +kernel
theorem k193_15 : pm_look (pm_kl 193) 15 = some (.invokevirtual 340, 3) := by decide +kernel
theorem k193_18 : pm_look (pm_kl 193) 18 = some (.istore_n 3, 1) := by decide +kernel
theorem k193_19 : pm_look (pm_kl 193) 19 = some (.iload_n 3, 1) := by decide +kernel
theorem k193_20 : pm_look (pm_kl 193) 20 = some (.iconst 2, 1) := by decide +kernel
theorem k193_21 : pm_look (pm_kl 193) 21 = some (.if_icmp .le 7, 3) := by decide +kernel
theorem k193_24 : pm_look (pm_kl 193) 24 = some (.iconst 2, 1) := by decide +kernel
theorem k193_25 : pm_look (pm_kl 193) 25 = some (.goto 4, 3) := by decide +kernel
theorem k193_28 : pm_look (pm_kl 193) 28 = some (.iload_n 3, 1) := by decide +kernel
theorem k193_29 : pm_look (pm_kl 193) 29 = some (.ireturn, 1) := by decide +kernel
theorem k194_0 : pm_look (pm_kl 194) 0 = some (.aload_n 0, 1) := by decide +kernel
theorem k194_1 : pm_look (pm_kl 194) 1 = some (.getfield 106, 3) := by decide +kernel
theorem k194_4 : pm_look (pm_kl 194) 4 = some (.bipush 110, 2) := by decide +kernel
theorem k194_6 : pm_look (pm_kl 194) 6 = some (.aload_n 0, 1) := by decide +kernel
theorem k194_7 : pm_look (pm_kl 194) 7 = some (.getfield 255, 3) := by decide +kernel
theorem k194_10 : pm_look (pm_kl 194) 10 = some (.imul, 1) := by decide +kernel
theorem k194_11 : pm_look (pm_kl 194) 11 = some (.aload_n 0, 1) := by decide +kernel
theorem k194_12 : pm_look (pm_kl 194) 12 = some (.getfield 343, 3) := by decide +kernel
theorem k194_15 : pm_look (pm_kl 194) 15 = some (.iadd, 1) := by decide +kernel
theorem k194_16 : pm_look (pm_kl 194) 16 = some (.iload_n 1, 1) := by decide +kernel
theorem k194_17 : pm_look (pm_kl 194) 17 = some (.iastore, 1) := by decide +kernel
theorem k194_18 : pm_look (pm_kl 194) 18 = some (.aload_n 0, 1) := by decide +kernel
theorem k194_19 : pm_look (pm_kl 194) 19 = some (.getfield 109, 3) := by decide +kernel
theorem k194_22 : pm_look (pm_kl 194) 22 = some (.bipush 110, 2) := by decide +kernel
theorem k194_24 : pm_look (pm_kl 194) 24 = some (.aload_n 0, 1) := by decide +kernel
theorem k194_25 : pm_look (pm_kl 194) 25 = some (.getfield 255, 3) := by decide +kernel
theorem k194_28 : pm_look (pm_kl 194) 28 = some (.imul, 1) := by decide +kernel
theorem k194_29 : pm_look (pm_kl 194) 29 = some (.aload_n 0, 1) := by decide +kernel
theorem k194_30 : pm_look (pm_kl 194) 30 = some (.getfield 343, 3) := by decide +kernel
theorem k194_33 : pm_look (pm_kl 194) 33 = some (.iadd, 1) := by decide +kernel
theorem k194_34 : pm_look (pm_kl 194) 34 = some (.iload_n 2, 1) := by decide +kernel
theorem k194_35 : pm_look (pm_kl 194) 35 = some (.iastore, 1) := by decide +kernel
theorem k194_36 : pm_look (pm_kl 194) 36 = some (.aload_n 0, 1) := by decide +kernel
theorem k194_37 : pm_look (pm_kl 194) 37 = some (.dup, 1) := by decide +kernel
theorem k194_38 : pm_look (pm_kl 194) 38 = some (.getfield 343, 3) := by decide +kernel
theorem k194_41 : pm_look (pm_kl 194) 41 = some (.iconst 1, 1) := by decide +kernel
theorem k194_42 : pm_look (pm_kl 194) 42 = some (.iadd, 1) := by decide +kernel
theorem k194_43 : pm_look (pm_kl 194) 43 = some (.putfield 343, 3) := by decide +kernel
theorem k194_46 : pm_look (pm_kl 194) 46 = some (.return_, 1) := by decide +kernel
theorem k195_0 : pm_look (pm_kl 195) 0 = some (.aload_n 0, 1) := by decide +kernel
theorem k195_1 : pm_look (pm_kl 195) 1 = some (.getfield 346, 3) := by decide +kernel
