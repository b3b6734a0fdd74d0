theorem k212_149 : pm_look (pm_kl 212) 149 = some (.iload 5, 2) := by decide +kernel
theorem k212_151 : pm_look (pm_kl 212) 151 = some (.ifCond .le 51, 3) := by decide +kernel
theorem k212_154 : pm_look (pm_kl 212) 154 = some (.iconst 0, 1) := by decide +kernel
theorem k212_155 : pm_look (pm_kl 212) 155 = some (.istore 6, 2) := by decide +kernel
theorem k212_157 : pm_look (pm_kl 212) 157 = some (.iload 6, 2) := by decide +kernel
theorem k212_159 : pm_look (pm_kl 212) 159 = some (.aload_n 0, 1) := by decide +kernel
theorem k212_160 : pm_look (pm_kl 212) 160 = some (.getfield 175, 3) := by decide +kernel
theorem k212_163 : pm_look (pm_kl 212) 163 = some (.if_icmp .ge 33, 3) := by decide +kernel
theorem k212_166 : pm_look (pm_kl 212) 166 = some (.aload_n 0, 1) := by decide +kernel
theorem k212_167 : pm_look (pm_kl 212) 167 = some (.getfield 118, 3) := by decide +kernel
theorem k212_170 : pm_look (pm_kl 212) 170 = some (.iload 6, 2) := by decide +kernel
theorem k212_172 : pm_look (pm_kl 212) 172 = some (.iaload, 1) := by decide +kernel
theorem k212_173 : pm_look (pm_kl 212) 173 = some (.iload 5, 2) := by decide +kernel
theorem k212_175 : pm_look (pm_kl 212) 175 = some (.if_icmp .ne 15, 3) := by decide +kernel
theorem k212_178 : pm_look (pm_kl 212) 178 = some (.iload 4, 2) := by decide +kernel
theorem k212_180 : pm_look (pm_kl 212) 180 = some (.iload_n 3, 1) := by decide +kernel
theorem k212_181 : pm_look (pm_kl 212) 181 = some (.if_icmp .ne 6, 3) := by decide +kernel
theorem k212_184 : pm_look (pm_kl 212) 184 = some (.iload 6, 2) := by decide +kernel
theorem k212_186 : pm_look (pm_kl 212) 186 = some (.ireturn, 1) := by decide +kernel
theorem k212_187 : pm_look (pm_kl 212) 187 = some (.iinc 4 1, 3) := by decide +kernel
theorem k212_190 : pm_look (pm_kl 212) 190 = some (.iinc 6 1, 3) := by decide +kernel
theorem k212_193 : pm_look (pm_kl 212) 193 = some (.goto (-36), 3) := by decide +kernel
theorem k212_196 : pm_look (pm_kl 212) 196 = some (.iinc 5 (-1), 3) := by decide +kernel
theorem k212_199 : pm_look (pm_kl 212) 199 = some (.goto (-50), 3) := by decide +kernel
theorem k212_202 : pm_look (pm_kl 212) 202 = some (.iload_n 3, 1) := by decide +kernel
theorem k212_203 : pm_look (pm_kl 212) 203 = some (.iconst (-1), 1) := by decide +kernel
theorem k212_204 : pm_look (pm_kl 212) 204 = some (.if_icmp .ne 8, 3) := by decide +kernel
theorem k212_207 : pm_look (pm_kl 212) 207 = some (.iload 4, 2) := by decide +kernel
theorem k212_209 : pm_look (pm_kl 212) 209 = some (.goto 4, 3) := by decide +kernel
theorem k212_212 : pm_look (pm_kl 212) 212 = some (.iconst (-1), 1) := by decide +kernel
theorem k212_213 : pm_look (pm_kl 212) 213 = some (.ireturn, 1) := by decide +kernel
theorem k213_0 : pm_look (pm_kl 213) 0 = some (.iload_n 1, 1) := by decide +kernel
theorem k213_1 : pm_look (pm_kl 213) 1 = some (.istore_n 2, 1) := by decide +kernel
theorem k213_2 : pm_look (pm_kl 213) 2 = some (.aload_n 0, 1) := by decide +kernel
theorem k213_3 : pm_look (pm_kl 213) 3 = some (.getfield 28, 3) := by decide +kernel
theorem k213_6 : pm_look (pm_kl 213) 6 = some (.iload_n 2, 1) := by decide +kernel
theorem k213_7 : pm_look (pm_kl 213) 7 = some (.iaload, 1) := by decide +kernel
theorem k213_8 : pm_look (pm_kl 213) 8 = some (.ifCond .lt 13, 3) := by decide +kernel
theorem k213_11 : pm_look (pm_kl 213) 11 = some (.aload_n 0, 1) := by decide +kernel
theorem k213_12 : pm_look (pm_kl 213) 12 = some (.getfield 28, 3) := by decide +kernel
theorem k213_15 : pm_look (pm_kl 213) 15 = some (.iload_n 2, 1) := by decide +kernel
theorem k213_16 : pm_look (pm_kl 213) 16 = some (.iaload, 1) := by decide +kernel
theorem k213_17 : pm_look (pm_kl 213) 17 = some (.istore_n 2, 1) := by decide +kernel
theorem k213_18 : pm_look (pm_kl 213) 18 = some (.goto (-16), 3) := by decide +kernel
theorem k213_21 : pm_look (pm_kl 213) 21 = some (.iload_n 2, 1) := by decide +kernel
theorem k213_22 : pm_look (pm_kl 213) 22 = some (.ireturn, 1) := by decide +kernel
theorem k214_0 : pm_look (pm_kl 214) 0 = some (.aload_n 0, 1) := by decide +kernel
theorem k214_1 : pm_look (pm_kl 214) 1 = some (.iload_n 1, 1) := by decide +kernel
theorem k214_2 : pm_look (pm_kl 214) 2 = some (.invokevirtual 183, 3) := by decide +kernel
theorem k214_5 : pm_look (pm_kl 214) 5 = some (.ifCond .ne 7, 3) := by decide +kernel
theorem k214_8 : pm_look (pm_kl 214) 8 = some (.ldc2_w 410, 3) := by decide +kernel
theorem k214_11 : pm_look (pm_kl 214) 11 = some (.lreturn, 1) := by decide +kernel
theorem k214_12 : pm_look (pm_kl 214) 12 = some (.aload_n 0, 1) := by decide +kernel
theorem k214_13 : pm_look (pm_kl 214) 13 = some (.iload_n 2, 1) := by decide +kernel
theorem k214_14 : pm_look (pm_kl 214) 14 = some (.invokevirtual 167, 3) := by decide +kernel
theorem k214_17 : pm_look (pm_kl 214) 17 = some (.ifCond .ne 7, 3) := by decide +kernel
theorem k214_20 : pm_look (pm_kl 214) 20 = some (.ldc2_w 412, 3) := by decide +kernel
theorem k214_23 : pm_look (pm_kl 214) 23 = some (.lreturn, 1) := by decide +kernel
theorem k214_24 : pm_look (pm_kl 214) 24 = some (.aload_n 0, 1) := by decide +kernel
theorem k214_25 : pm_look (pm_kl 214) 25 = some (.iload_n 2, 1) := by decide +kernel
theorem k214_26 : pm_look (pm_kl 214) 26 = some (.invokevirtual 238, 3) := by decide +kernel
theorem k214_29 : pm_look (pm_kl 214) 29 = some (.lconst 0, 1) := by decide +kernel
theorem k214_30 : pm_look (pm_kl 214) 30 = some (.lstore_n 3, 1) := by decide +kernel
theorem k214_31 : pm_look (pm_kl 214) 31 = some (.iconst 0, 1) := by decide +kernel
theorem k214_32 : pm_look (pm_kl 214) 32 = some (.istore 5, 2) := by decide +kernel
theorem k214_34 : pm_look (pm_kl 214) 34 = some (.iload 5, 2) := by decide +kernel
theorem k214_36 : pm_look (pm_kl 214) 36 = some (.aload_n 0, 1) := by decide +kernel
theorem k214_37 : pm_look (pm_kl 214) 37 = some (.getfield 178, 3) := by decide +kernel
theorem k214_40 : pm_look (pm_kl 214) 40 = some (.if_icmp .ge 92, 3) := by decide +kernel
theorem k214_43 : pm_look (pm_kl 214) 43 = some (.aload_n 0, 1) := by decide +kernel
theorem k214_44 : pm_look (pm_kl 214) 44 = some (.getfield 31, 3) := by decide +kernel
theorem k214_47 : pm_look (pm_kl 214) 47 = some (.iload 5, 2) := by decide +kernel
theorem k214_49 : pm_look (pm_kl 214) 49 = some (.iaload, 1) := by decide +kernel
theorem k214_50 : pm_look (pm_kl 214) 50 = some (.iload_n 1, 1) := by decide +kernel
theorem k214_51 : pm_look (pm_kl 214) 51 = some (.if_icmp .eq 36, 3) := by decide +kernel
theorem k214_54 : pm_look (pm_kl 214) 54 = some (.aload_n 0, 1) := by decide +kernel
theorem k214_55 : pm_look (pm_kl 214) 55 = some (.aload_n 0, 1) := by decide +kernel
theorem k214_56 : pm_look (pm_kl 214) 56 = some (.getfield 31, 3) := by decide +kernel
theorem k214_59 : pm_look (pm_kl 214) 59 = some (.iload 5, 2) := by decide +kernel
theorem k214_61 : pm_look (pm_kl 214) 61 = some (.iaload, 1) := by decide +kernel
theorem k214_62 : pm_look (pm_kl 214) 62 = some (.invokevirtual 414, 3) := by decide +kernel
theorem k214_65 : pm_look (pm_kl 214) 65 = some (.aload_n 0, 1) := by decide +kernel
theorem k214_66 : pm_look (pm_kl 214) 66 = some (.iload_n 1, 1) := by decide +kernel
theorem k214_67 : pm_look (pm_kl 214) 67 = some (.invokevirtual 414, 3) := by decide +kernel
theorem k214_70 : pm_look (pm_kl 214) 70 = some (.if_icmp .ne 17, 3) := by decide +kernel
theorem k214_73 : pm_look (pm_kl 214) 73 = some (.aload_n 0, 1) := by decide +kernel
theorem k214_74 : pm_look (pm_kl 214) 74 = some (.getfield 80, 3) := by decide +kernel
theorem k214_77 : pm_look (pm_kl 214) 77 = some (.iload 5, 2) := by decide +kernel
theorem k214_79 : pm_look (pm_kl 214) 79 = some (.iaload, 1) := by decide +kernel
theorem k214_80 : pm_look (pm_kl 214) 80 = some (.ifCond .lt 7, 3) := by decide +kernel
theorem k214_83 : pm_look (pm_kl 214) 83 = some (.iconst 1, 1) := by decide +kernel
theorem k214_84 : pm_look (pm_kl 214) 84 = some (.goto 4, 3) := by decide +kernel
theorem k214_87 : pm_look (pm_kl 214) 87 = some (.iconst 0, 1) := by decide +kernel
theorem k214_88 : pm_look (pm_kl 214) 88 = some (.istore 6, 2) := by decide +kernel
theorem k214_90 : pm_look (pm_kl 214) 90 = some (.lload_n 3, 1) := by decide +kernel
theorem k214_91 : pm_look (pm_kl 214) 91 = some (.iload 6, 2) := by decide +kernel
theorem k214_93 : pm_look (pm_kl 214) 93 = some (.ifCond .eq 30, 3) := by decide +kernel
theorem k214_96 : pm_look (pm_kl 214) 96 = some (.aload_n 0, 1) := by decide +kernel
theorem k214_97 : pm_look (pm_kl 214) 97 = some (.iload_n 1, 1) := by decide +kernel
theorem k214_98 : pm_look (pm_kl 214) 98 = some (.aload_n 0, 1) := by decide +kernel
theorem k214_99 : pm_look (pm_kl 214) 99 = some (.getfield 80, 3) := by decide +kernel
theorem k214_102 : pm_look (pm_kl 214) 102 = some (.iload 5, 2) := by decide +kernel
theorem k214_104 : pm_look (pm_kl 214) 104 = some (.iaload, 1) := by decide +kernel
theorem k214_105 : pm_look (pm_kl 214) 105 = some (.invokevirtual 241, 3) := by decide +kernel
theorem k214_108 : pm_look (pm_kl 214) 108 = some (.ifCond .ne 15, 3) := by decide +kernel
theorem k214_111 : pm_look (pm_kl 214) 111 = some (.lconst 1, 1) := by decide +kernel
theorem k214_112 : pm_look (pm_kl 214) 112 = some (.aload_n 0, 1) := by decide +kernel
theorem k214_113 : pm_look (pm_kl 214) 113 = some (.getfield 80, 3) := by decide +kernel
theorem k214_116 : pm_look (pm_kl 214) 116 = some (.iload 5, 2) := by decide +kernel
theorem k214_118 : pm_look (pm_kl 214) 118 = some (.iaload, 1) := by decide +kernel
theorem k214_119 : pm_look (pm_kl 214) 119 = some (.lshl, 1) := by decide +kernel
theorem k214_120 : pm_look (pm_kl 214) 120 = some (.goto 4, 3) := by decide +kernel
theorem k214_123 : pm_look (pm_kl 214) 123 = some (.lconst 0, 1) := by decide +kernel
theorem k214_124 : pm_look (pm_kl 214) 124 = some (.lor, 1) := by decide +kernel
theorem k214_125 : pm_look (pm_kl 214) 125 = some (.lstore_n 3, 1) := by decide +kernel
theorem k214_126 : pm_look (pm_kl 214) 126 = some (.iinc 5 1, 3) := by decide +kernel
theorem k214_129 : pm_look (pm_kl 214) 129 = some (.goto (-95), 3) := by decide +kernel
theorem k214_132 : pm_look (pm_kl 214) 132 = some (.lload_n 3, 1) := by decide +kernel
theorem k214_133 : pm_look (pm_kl 214) 133 = some (.lreturn, 1) := by decide +kernel
theorem k215_0 : pm_look (pm_kl 215) 0 = some (.aload_n 0, 1) := by decide +kernel
theorem k215_1 : pm_look (pm_kl 215) 1 = some (.getfield 258, 3) := by decide +kernel
theorem k215_4 : pm_look (pm_kl 215) 4 = some (.iconst 4, 1) := by decide +kernel
theorem k215_5 : pm_look (pm_kl 215) 5 = some (.if_icmp .ne 7, 3) := by decide +kernel
theorem k215_8 : pm_look (pm_kl 215) 8 = some (.sipush (-1004), 3) := by decide +kernel
theorem k215_11 : pm_look (pm_kl 215) 11 = some (.ireturn, 1) := by decide +kernel
theorem k215_12 : pm_look (pm_kl 215) 12 = some (.aload_n 0, 1) := by decide +kernel
theorem k215_13 : pm_look (pm_kl 215) 13 = some (.getfield 121, 3) := by decide +kernel
theorem k215_16 : pm_look (pm_kl 215) 16 = some (.aload_n 0, 1) := by decide +kernel
theorem k215_17 : pm_look (pm_kl 215) 17 = some (.getfield 258, 3) := by decide +kernel
theorem k215_20 : pm_look (pm_kl 215) 20 = some (.iconst 0, 1) := by decide +kernel
theorem k215_21 : pm_look (pm_kl 215) 21 = some (.iastore, 1) := by decide +kernel
theorem k215_22 : pm_look (pm_kl 215) 22 = some (.aload_n 0, 1) := by decide +kernel
theorem k215_23 : pm_look (pm_kl 215) 23 = some (.dup, 1) := by decide +kernel
theorem k215_24 : pm_look (pm_kl 215) 24 = some (.getfield 258, 3) := by decide +kernel
theorem k215_27 : pm_look (pm_kl 215) 27 = some (.iconst 1, 1) := by decide +kernel
theorem k215_28 : pm_look (pm_kl 215) 28 = some (.iadd, 1) := by decide +kernel
theorem k215_29 : pm_look (pm_kl 215) 29 = some (.putfield 258, 3) := by decide +kernel
theorem k215_32 : pm_look (pm_kl 215) 32 = some (.aload_n 0, 1) := by decide +kernel
theorem k215_33 : pm_look (pm_kl 215) 33 = some (.getfield 258, 3) := by decide +kernel
theorem k215_36 : pm_look (pm_kl 215) 36 = some (.iconst 1, 1) := by decide +kernel
theorem k215_37 : pm_look (pm_kl 215) 37 = some (.isub, 1) := by decide +kernel
theorem k215_38 : pm_look (pm_kl 215) 38 = some (.ireturn, 1) := by decide +kernel
theorem k216_0 : pm_look (pm_kl 216) 0 = some (.iload_n 1, 1) := by decide +kernel
theorem k216_1 : pm_look (pm_kl 216) 1 = some (.i2l, 1) := by decide +kernel
theorem k216_2 : pm_look (pm_kl 216) 2 = some (.lconst 0, 1) := by decide +kernel
theorem k216_3 : pm_look (pm_kl 216) 3 = some (.aload_n 0, 1) := by decide +kernel
theorem k216_4 : pm_look (pm_kl 216) 4 = some (.getfield 258, 3) := by decide +kernel
theorem k216_7 : pm_look (pm_kl 216) 7 = some (.iconst 1, 1) := by decide +kernel
theorem k216_8 : pm_look (pm_kl 216) 8 = some (.isub, 1) := by decide +kernel
theorem k216_9 : pm_look (pm_kl 216) 9 = some (.i2l, 1) := by decide +kernel
theorem k216_10 : pm_look (pm_kl 216) 10 = some (.invokestatic 137, 3) := by decide +kernel
theorem k216_13 : pm_look (pm_kl 216) 13 = some (.ifCond .eq 11, 3) := by decide +kernel
theorem k216_16 : pm_look (pm_kl 216) 16 = some (.aload_n 0, 1) := by decide +kernel
theorem k216_17 : pm_look (pm_kl 216) 17 = some (.iload_n 3, 1) := by decide +kernel
theorem k216_18 : pm_look (pm_kl 216) 18 = some (.invokevirtual 148, 3) := by decide +kernel
theorem k216_21 : pm_look (pm_kl 216) 21 = some (.ifCond .ne 7, 3) := by decide +kernel
theorem k216_24 : pm_look (pm_kl 216) 24 = some (.sipush (-1001), 3) := by decide +kernel
theorem k216_27 : pm_look (pm_kl 216) 27 = some (.ireturn, 1) := by decide +kernel
theorem k216_28 : pm_look (pm_kl 216) 28 = some (.iload_n 2, 1) := by decide +kernel
theorem k216_29 : pm_look (pm_kl 216) 29 = some (.i2l, 1) := by decide +kernel
theorem k216_30 : pm_look (pm_kl 216) 30 = some (.lconst 0, 1) := by decide +kernel
theorem k216_31 : pm_look (pm_kl 216) 31 = some (.aload_n 0, 1) := by decide +kernel
theorem k216_32 : pm_look (pm_kl 216) 32 = some (.getfield 121, 3) := by decide +kernel
theorem k216_35 : pm_look (pm_kl 216) 35 = some (.iload_n 1, 1) := by decide +kernel
theorem k216_36 : pm_look (pm_kl 216) 36 = some (.iaload, 1) := by decide +kernel
theorem k216_37 : pm_look (pm_kl 216) 37 = some (.i2l, 1) := by decide +kernel
theorem k216_38 : pm_look (pm_kl 216) 38 = some (.invokestatic 137, 3) := by decide +kernel
theorem k216_41 : pm_look (pm_kl 216) 41 = some (.ifCond .ne 7, 3) := by decide +kernel
theorem k216_44 : pm_look (pm_kl 216) 44 = some (.sipush (-1002), 3) := by decide +kernel
theorem k216_47 : pm_look (pm_kl 216) 47 = some (.ireturn, 1) := by decide +kernel
theorem k216_48 : pm_look (pm_kl 216) 48 = some (.iconst 5, 1) := by decide +kernel
theorem k216_49 : pm_look (pm_kl 216) 49 = some (.iload_n 1, 1) := by decide +kernel
theorem k216_50 : pm_look (pm_kl 216) 50 = some (.imul, 1) := by decide +kernel
theorem k216_51 : pm_look (pm_kl 216) 51 = some (.iload_n 2, 1) := by decide +kernel
theorem k216_52 : pm_look (pm_kl 216) 52 = some (.iadd, 1) := by decide +kernel
theorem k216_53 : pm_look (pm_kl 216) 53 = some (.istore 4, 2) := by decide +kernel
theorem k216_55 : pm_look (pm_kl 216) 55 = some (.iload_n 2, 1) := by decide +kernel
theorem k216_56 : pm_look (pm_kl 216) 56 = some (.iconst 5, 1) := by decide +kernel
theorem k216_57 : pm_look (pm_kl 216) 57 = some (.if_icmp .eq 24, 3) := by decide +kernel
theorem k216_60 : pm_look (pm_kl 216) 60 = some (.iload_n 2, 1) := by decide +kernel
theorem k216_61 : pm_look (pm_kl 216) 61 = some (.aload_n 0, 1) := by decide +kernel
theorem k216_62 : pm_look (pm_kl 216) 62 = some (.getfield 121, 3) := by decide +kernel
theorem k216_65 : pm_look (pm_kl 216) 65 = some (.iload_n 1, 1) := by decide +kernel
theorem k216_66 : pm_look (pm_kl 216) 66 = some (.iaload, 1) := by decide +kernel
theorem k216_67 : pm_look (pm_kl 216) 67 = some (.if_icmp .ge 18, 3) := by decide +kernel
theorem k216_70 : pm_look (pm_kl 216) 70 = some (.aload_n 0, 1) := by decide +kernel
theorem k216_71 : pm_look (pm_kl 216) 71 = some (.getfield 124, 3) := by decide +kernel
theorem k216_74 : pm_look (pm_kl 216) 74 = some (.iload 4, 2) := by decide +kernel
theorem k216_76 : pm_look (pm_kl 216) 76 = some (.iaload, 1) := by decide +kernel
theorem k216_77 : pm_look (pm_kl 216) 77 = some (.iconst 3, 1) := by decide +kernel
theorem k216_78 : pm_look (pm_kl 216) 78 = some (.if_icmp .ne 7, 3) := by decide +kernel
theorem k216_81 : pm_look (pm_kl 216) 81 = some (.sipush (-1004), 3) := by decide +kernel
theorem k216_84 : pm_look (pm_kl 216) 84 = some (.ireturn, 1) := by decide +kernel
theorem k216_85 : pm_look (pm_kl 216) 85 = some (.iload_n 2, 1) := by decide +kernel
theorem k216_86 : pm_look (pm_kl 216) 86 = some (.aload_n 0, 1) := by decide +kernel
theorem k216_87 : pm_look (pm_kl 216) 87 = some (.getfield 121, 3) := by decide +kernel
theorem k216_90 : pm_look (pm_kl 216) 90 = some (.iload_n 1, 1) := by decide +kernel
theorem k216_91 : pm_look (pm_kl 216) 91 = some (.iaload, 1) := by decide +kernel
theorem k216_92 : pm_look (pm_kl 216) 92 = some (.if_icmp .ne 21, 3) := by decide +kernel
theorem k216_95 : pm_look (pm_kl 216) 95 = some (.aload_n 0, 1) := by decide +kernel
theorem k216_96 : pm_look (pm_kl 216) 96 = some (.getfield 121, 3) := by decide +kernel
theorem k216_99 : pm_look (pm_kl 216) 99 = some (.iload_n 1, 1) := by decide +kernel
theorem k216_100 : pm_look (pm_kl 216) 100 = some (.dup2, 1) := by decide +kernel
theorem k216_101 : pm_look (pm_kl 216) 101 = some (.iaload, 1) := by decide +kernel
theorem k216_102 : pm_look (pm_kl 216) 102 = some (.iconst 1, 1) := by decide +kernel
theorem k216_103 : pm_look (pm_kl 216) 103 = some (.iadd, 1) := by decide +kernel
theorem k216_104 : pm_look (pm_kl 216) 104 = some (.iastore, 1) := by decide +kernel
theorem k216_105 : pm_look (pm_kl 216) 105 = some (.aload_n 0, 1) := by decide +kernel
theorem k216_106 : pm_look (pm_kl 216) 106 = some (.getfield 124, 3) := by decide +kernel
theorem k216_109 : pm_look (pm_kl 216) 109 = some (.iload 4, 2) := by decide +kernel
theorem k216_111 : pm_look (pm_kl 216) 111 = some (.iconst 0, 1) := by decide +kernel
theorem k216_112 : pm_look (pm_kl 216) 112 = some (.iastore, 1) := by decide +kernel
theorem k216_113 : pm_look (pm_kl 216) 113 = some (.aload_n 0, 1) := by decide +kernel
theorem k216_114 : pm_look (pm_kl 216) 114 = some (.getfield 127, 3) := by decide +kernel
theorem k216_117 : pm_look (pm_kl 216) 117 = some (.iconst 3, 1) := by decide +kernel
theorem k216_118 : pm_look (pm_kl 216) 118 = some (.iload 4, 2) := by decide +kernel
theorem k216_120 : pm_look (pm_kl 216) 120 = some (.imul, 1) := by decide +kernel
theorem k216_121 : pm_look (pm_kl 216) 121 = some (.aload_n 0, 1) := by decide +kernel
theorem k216_122 : pm_look (pm_kl 216) 122 = some (.getfield 124, 3) := by decide +kernel
theorem k216_125 : pm_look (pm_kl 216) 125 = some (.iload 4, 2) := by decide +kernel
theorem k216_127 : pm_look (pm_kl 216) 127 = some (.iaload, 1) := by decide +kernel
theorem k216_128 : pm_look (pm_kl 216) 128 = some (.iadd, 1) := by decide +kernel
theorem k216_129 : pm_look (pm_kl 216) 129 = some (.iload_n 3, 1) := by decide +kernel
theorem k216_130 : pm_look (pm_kl 216) 130 = some (.iastore, 1) := by decide +kernel
theorem k216_131 : pm_look (pm_kl 216) 131 = some (.aload_n 0, 1) := by decide +kernel
theorem k216_132 : pm_look (pm_kl 216) 132 = some (.getfield 124, 3) := by decide +kernel
theorem k216_135 : pm_look (pm_kl 216) 135 = some (.iload 4, 2) := by decide +kernel
theorem k216_137 : pm_look (pm_kl 216) 137 = some (.dup2, 1) := by decide +kernel
theorem k216_138 : pm_look (pm_kl 216) 138 = some (.iaload, 1) := by decide +kernel
theorem k216_139 : pm_look (pm_kl 216) 139 = some (.iconst 1, 1) := by decide +kernel
theorem k216_140 : pm_look (pm_kl 216) 140 = some (.iadd, 1) := by decide +kernel
theorem k216_141 : pm_look (pm_kl 216) 141 = some (.iastore, 1) := by decide +kernel
theorem k216_142 : pm_look (pm_kl 216) 142 = some (.aload_n 0, 1) := by decide +kernel
theorem k216_143 : pm_look (pm_kl 216) 143 = some (.getfield 124, 3) := by decide +kernel
theorem k216_146 : pm_look (pm_kl 216) 146 = some (.iload 4, 2) := by decide +kernel
theorem k216_148 : pm_look (pm_kl 216) 148 = some (.iaload, 1) := by decide +kernel
theorem k216_149 : pm_look (pm_kl 216) 149 = some (.ireturn, 1) := by decide +kernel
theorem k217_0 : pm_look (pm_kl 217) 0 = some (.aload_n 0, 1) := by decide +kernel
theorem k217_1 : pm_look (pm_kl 217) 1 = some (.iload_n 1, 1) := by decide +kernel
theorem k217_2 : pm_look (pm_kl 217) 2 = some (.invokevirtual 183, 3) := by decide +kernel
theorem k217_5 : pm_look (pm_kl 217) 5 = some (.ifCond .eq 19, 3) := by decide +kernel
theorem k217_8 : pm_look (pm_kl 217) 8 = some (.iload_n 2, 1) := by decide +kernel
theorem k217_9 : pm_look (pm_kl 217) 9 = some (.i2l, 1) := by decide +kernel
theorem k217_10 : pm_look (pm_kl 217) 10 = some (.lconst 0, 1) := by decide +kernel
theorem k217_11 : pm_look (pm_kl 217) 11 = some (.aload_n 0, 1) := by decide +kernel
theorem k217_12 : pm_look (pm_kl 217) 12 = some (.getfield 258, 3) := by decide +kernel
theorem k217_15 : pm_look (pm_kl 217) 15 = some (.iconst 1, 1) := by decide +kernel
theorem k217_16 : pm_look (pm_kl 217) 16 = some (.isub, 1) := by decide +kernel
theorem k217_17 : pm_look (pm_kl 217) 17 = some (.i2l, 1) := by decide +kernel
theorem k217_18 : pm_look (pm_kl 217) 18 = some (.invokestatic 137, 3) := by decide +kernel
theorem k217_21 : pm_look (pm_kl 217) 21 = some (.ifCond .ne 7, 3) := by decide +kernel
theorem k217_24 : pm_look (pm_kl 217) 24 = some (.sipush (-1001), 3) := by decide +kernel
theorem k217_27 : pm_look (pm_kl 217) 27 = some (.ireturn, 1) := by decide +kernel
theorem k217_28 : pm_look (pm_kl 217) 28 = some (.aload_n 0, 1) := by decide +kernel
theorem k217_29 : pm_look (pm_kl 217) 29 = some (.iload_n 3, 1) := by decide +kernel
theorem k217_30 : pm_look (pm_kl 217) 30 = some (.invokevirtual 167, 3) := by decide +kernel
theorem k217_33 : pm_look (pm_kl 217) 33 = some (.ifCond .eq 16, 3) := by decide +kernel
theorem k217_36 : pm_look (pm_kl 217) 36 = some (.iload 4, 2) := by decide +kernel
theorem k217_38 : pm_look (pm_kl 217) 38 = some (.i2l, 1) := by decide +kernel
theorem k217_39 : pm_look (pm_kl 217) 39 = some (.lconst 0, 1) := by decide +kernel
theorem k217_40 : pm_look (pm_kl 217) 40 = some (.ldc2_w 244, 3) := by decide +kernel
theorem k217_43 : pm_look (pm_kl 217) 43 = some (.invokestatic 137, 3) := by decide +kernel
theorem k217_46 : pm_look (pm_kl 217) 46 = some (.ifCond .ne 7, 3) := by decide +kernel
theorem k217_49 : pm_look (pm_kl 217) 49 = some (.sipush (-1002), 3) := by decide +kernel
theorem k217_52 : pm_look (pm_kl 217) 52 = some (.ireturn, 1) := by decide +kernel
theorem k217_53 : pm_look (pm_kl 217) 53 = some (.aload_n 0, 1) := by decide +kernel
theorem k217_54 : pm_look (pm_kl 217) 54 = some (.iload_n 3, 1) := by decide +kernel
theorem k217_55 : pm_look (pm_kl 217) 55 = some (.invokevirtual 238, 3) := by decide +kernel
theorem k217_58 : pm_look (pm_kl 217) 58 = some (.iconst 0, 1) := by decide +kernel
theorem k217_59 : pm_look (pm_kl 217) 59 = some (.istore 5, 2) := by decide +kernel
theorem k217_61 : pm_look (pm_kl 217) 61 = some (.iconst (-1), 1) := by decide +kernel
theorem k217_62 : pm_look (pm_kl 217) 62 = some (.istore 6, 2) := by decide +kernel
theorem k217_64 : pm_look (pm_kl 217) 64 = some (.iconst 0, 1) := by decide +kernel
theorem k217_65 : pm_look (pm_kl 217) 65 = some (.istore 7, 2) := by decide +kernel
theorem k217_67 : pm_look (pm_kl 217) 67 = some (.iload 7, 2) := by decide +kernel
theorem k217_69 : pm_look (pm_kl 217) 69 = some (.aload_n 0, 1) := by decide +kernel
theorem k217_70 : pm_look (pm_kl 217) 70 = some (.getfield 121, 3) := by decide +kernel
theorem k217_73 : pm_look (pm_kl 217) 73 = some (.iload_n 2, 1) := by decide +kernel
theorem k217_74 : pm_look (pm_kl 217) 74 = some (.iaload, 1) := by decide +kernel
theorem k217_75 : pm_look (pm_kl 217) 75 = some (.if_icmp .ge 125, 3) := by decide +kernel
theorem k217_78 : pm_look (pm_kl 217) 78 = some (.aload_n 0, 1) := by decide +kernel
theorem k217_79 : pm_look (pm_kl 217) 79 = some (.getfield 124, 3) := by decide +kernel
theorem k217_82 : pm_look (pm_kl 217) 82 = some (.iconst 5, 1) := by decide +kernel
theorem k217_83 : pm_look (pm_kl 217) 83 = some (.iload_n 2, 1) := by decide +kernel
theorem k217_84 : pm_look (pm_kl 217) 84 = some (.imul, 1) := by decide +kernel
theorem k217_85 : pm_look (pm_kl 217) 85 = some (.iload 7, 2) := by decide +kernel
theorem k217_87 : pm_look (pm_kl 217) 87 = some (.iadd, 1) := by decide +kernel
theorem k217_88 : pm_look (pm_kl 217) 88 = some (.iaload, 1) := by decide +kernel
theorem k217_89 : pm_look (pm_kl 217) 89 = some (.ifCond .le 7, 3) := by decide +kernel
theorem k217_92 : pm_look (pm_kl 217) 92 = some (.iconst 1, 1) := by decide +kernel
theorem k217_93 : pm_look (pm_kl 217) 93 = some (.goto 4, 3) := by decide +kernel
theorem k217_96 : pm_look (pm_kl 217) 96 = some (.iconst 0, 1) := by decide +kernel
theorem k217_97 : pm_look (pm_kl 217) 97 = some (.istore 8, 2) := by decide +kernel
theorem k217_99 : pm_look (pm_kl 217) 99 = some (.iconst 0, 1) := by decide +kernel
theorem k217_100 : pm_look (pm_kl 217) 100 = some (.istore 9, 2) := by decide +kernel
theorem k217_102 : pm_look (pm_kl 217) 102 = some (.iload 9, 2) := by decide +kernel
theorem k217_104 : pm_look (pm_kl 217) 104 = some (.aload_n 0, 1) := by decide +kernel
theorem k217_105 : pm_look (pm_kl 217) 105 = some (.getfield 124, 3) := by decide +kernel
theorem k217_108 : pm_look (pm_kl 217) 108 = some (.iconst 5, 1) := by decide +kernel
theorem k217_109 : pm_look (pm_kl 217) 109 = some (.iload_n 2, 1) := by decide +kernel
theorem k217_110 : pm_look (pm_kl 217) 110 = some (.imul, 1) := by decide +kernel
theorem k217_111 : pm_look (pm_kl 217) 111 = some (.iload 7, 2) := by decide +kernel
theorem k217_113 : pm_look (pm_kl 217) 113 = some (.iadd, 1) := by decide +kernel
theorem k217_114 : pm_look (pm_kl 217) 114 = some (.iaload, 1) := by decide +kernel
theorem k217_115 : pm_look (pm_kl 217) 115 = some (.if_icmp .ge 45, 3) := by decide +kernel
theorem k217_118 : pm_look (pm_kl 217) 118 = some (.iload 8, 2) := by decide +kernel
theorem k217_120 : pm_look (pm_kl 217) 120 = some (.ifCond .eq 31, 3) := by decide +kernel
theorem k217_123 : pm_look (pm_kl 217) 123 = some (.aload_n 0, 1) := by decide +kernel
theorem k217_124 : pm_look (pm_kl 217) 124 = some (.iload_n 1, 1) := by decide +kernel
theorem k217_125 : pm_look (pm_kl 217) 125 = some (.aload_n 0, 1) := by decide +kernel
theorem k217_126 : pm_look (pm_kl 217) 126 = some (.getfield 127, 3) := by decide +kernel
theorem k217_129 : pm_look (pm_kl 217) 129 = some (.iconst 3, 1) := by decide +kernel
theorem k217_130 : pm_look (pm_kl 217) 130 = some (.iconst 5, 1) := by decide +kernel
theorem k217_131 : pm_look (pm_kl 217) 131 = some (.iload_n 2, 1) := by decide +kernel
theorem k217_132 : pm_look (pm_kl 217) 132 = some (.imul, 1) := by decide +kernel
theorem k217_133 : pm_look (pm_kl 217) 133 = some (.iload 7, 2) := by decide +kernel
theorem k217_135 : pm_look (pm_kl 217) 135 = some (.iadd, 1) := by decide +kernel
theorem k217_136 : pm_look (pm_kl 217) 136 = some (.imul, 1) := by decide +kernel
theorem k217_137 : pm_look (pm_kl 217) 137 = some (.iload 9, 2) := by decide +kernel
theorem k217_139 : pm_look (pm_kl 217) 139 = some (.iadd, 1) := by decide +kernel
theorem k217_140 : pm_look (pm_kl 217) 140 = some (.iaload, 1) := by decide +kernel
theorem k217_141 : pm_look (pm_kl 217) 141 = some (.invokevirtual 241, 3) := by decide +kernel
theorem k217_144 : pm_look (pm_kl 217) 144 = some (.ifCond .eq 7, 3) := by decide +kernel
theorem k217_147 : pm_look (pm_kl 217) 147 = some (.iconst 1, 1) := by decide +kernel
theorem k217_148 : pm_look (pm_kl 217) 148 = some (.goto 4, 3) := by decide +kernel
theorem k217_151 : pm_look (pm_kl 217) 151 = some (.iconst 0, 1) := by decide +kernel
theorem k217_152 : pm_look (pm_kl 217) 152 = some (.istore 8, 2) := by decide +kernel
theorem k217_154 : pm_look (pm_kl 217) 154 = some (.iinc 9 1, 3) := by decide +kernel
theorem k217_157 : pm_look (pm_kl 217) 157 = some (.goto (-55), 3) := by decide +kernel
theorem k217_160 : pm_look (pm_kl 217) 160 = some (.iload 5, 2) := by decide +kernel
theorem k217_162 : pm_look (pm_kl 217) 162 = some (.iload 8, 2) := by decide +kernel
theorem k217_164 : pm_look (pm_kl 217) 164 = some (.ifCond .eq 7, 3) := by decide +kernel
theorem k217_167 : pm_look (pm_kl 217) 167 = some (.iconst 1, 1) := by decide +kernel
theorem k217_168 : pm_look (pm_kl 217) 168 = some (.goto 4, 3) := by decide +kernel
theorem k217_171 : pm_look (pm_kl 217) 171 = some (.iconst 0, 1) := by decide +kernel
theorem k217_172 : pm_look (pm_kl 217) 172 = some (.iadd, 1) := by decide +kernel
theorem k217_173 : pm_look (pm_kl 217) 173 = some (.istore 5, 2) := by decide +kernel
theorem k217_175 : pm_look (pm_kl 217) 175 = some (.iload 8, 2) := by decide +kernel
theorem k217_177 : pm_look (pm_kl 217) 177 = some (.ifCond .eq 13, 3) := by decide +kernel
theorem k217_180 : pm_look (pm_kl 217) 180 = some (.iload 6, 2) := by decide +kernel
theorem k217_182 : pm_look (pm_kl 217) 182 = some (.ifCond .ge 8, 3) := by decide +kernel
theorem k217_185 : pm_look (pm_kl 217) 185 = some (.iload 7, 2) := by decide +kernel
theorem k217_187 : pm_look (pm_kl 217) 187 = some (.goto 5, 3) := by decide +kernel
theorem k217_190 : pm_look (pm_kl 217) 190 = some (.iload 6, 2) := by decide +kernel
theorem k217_192 : pm_look (pm_kl 217) 192 = some (.istore 6, 2) := by decide +kernel
theorem k217_194 : pm_look (pm_kl 217) 194 = some (.iinc 7 1, 3) := by decide +kernel
theorem k217_197 : pm_look (pm_kl 217) 197 = some (.goto (-130), 3) := by decide +kernel
theorem k217_200 : pm_look (pm_kl 217) 200 = some (.iload 4, 2) := by decide +kernel
theorem k217_202 : pm_look (pm_kl 217) 202 = some (.ifCond .ne 8, 3) := by decide +kernel
theorem k217_205 : pm_look (pm_kl 217) 205 = some (.iload 5, 2) := by decide +kernel
theorem k217_207 : pm_look (pm_kl 217) 207 = some (.goto 25, 3) := by decide +kernel
theorem k217_210 : pm_look (pm_kl 217) 210 = some (.iload 4, 2) := by decide +kernel
theorem k217_212 : pm_look (pm_kl 217) 212 = some (.iconst 1, 1) := by decide +kernel
theorem k217_213 : pm_look (pm_kl 217) 213 = some (.if_icmp .ne 8, 3) := by decide +kernel
theorem k217_216 : pm_look (pm_kl 217) 216 = some (.iload 6, 2) := by decide +kernel
theorem k217_218 : pm_look (pm_kl 217) 218 = some (.goto 14, 3) := by decide +kernel
theorem k217_221 : pm_look (pm_kl 217) 221 = some (.iload 5, 2) := by decide +kernel
theorem k217_223 : pm_look (pm_kl 217) 223 = some (.iconst 1, 1) := by decide +kernel
theorem k217_224 : pm_look (pm_kl 217) 224 = some (.if_icmp .ne 7, 3) := by decide +kernel
theorem k217_227 : pm_look (pm_kl 217) 227 = some (.iconst 1, 1) := by decide +kernel
theorem k217_228 : pm_look (pm_kl 217) 228 = some (.goto 4, 3) := by decide +kernel
theorem k217_231 : pm_look (pm_kl 217) 231 = some (.iconst 0, 1) := by decide +kernel
theorem k217_232 : pm_look (pm_kl 217) 232 = some (.ireturn, 1) := by decide +kernel
theorem k218_0 : pm_look (pm_kl 218) 0 = some (.aload_n 0, 1) := by decide +kernel
theorem k218_1 : pm_look (pm_kl 218) 1 = some (.iload_n 1, 1) := by decide +kernel
theorem k218_2 : pm_look (pm_kl 218) 2 = some (.invokevirtual 148, 3) := by decide +kernel
theorem k218_5 : pm_look (pm_kl 218) 5 = some (.ifCond .ne 7, 3) := by decide +kernel
theorem k218_8 : pm_look (pm_kl 218) 8 = some (.sipush (-1001), 3) := by decide +kernel
theorem k218_11 : pm_look (pm_kl 218) 11 = some (.ireturn, 1) := by decide +kernel
theorem k218_12 : pm_look (pm_kl 218) 12 = some (.aload_n 0, 1) := by decide +kernel
theorem k218_13 : pm_look (pm_kl 218) 13 = some (.iload_n 2, 1) := by decide +kernel
theorem k218_14 : pm_look (pm_kl 218) 14 = some (.invokevirtual 167, 3) := by decide +kernel
theorem k218_17 : pm_look (pm_kl 218) 17 = some (.ifCond .eq 13, 3) := by decide +kernel
theorem k218_20 : pm_look (pm_kl 218) 20 = some (.iload_n 3, 1) := by decide +kernel
theorem k218_21 : pm_look (pm_kl 218) 21 = some (.i2l, 1) := by decide +kernel
theorem k218_22 : pm_look (pm_kl 218) 22 = some (.lconst 0, 1) := by decide +kernel
theorem k218_23 : pm_look (pm_kl 218) 23 = some (.lconst 1, 1) := by decide +kernel
theorem k218_24 : pm_look (pm_kl 218) 24 = some (.invokestatic 137, 3) := by decide +kernel
theorem k218_27 : pm_look (pm_kl 218) 27 = some (.ifCond .ne 7, 3) := by decide +kernel
theorem k218_30 : pm_look (pm_kl 218) 30 = some (.sipush (-1002), 3) := by decide +kernel
theorem k218_33 : pm_look (pm_kl 218) 33 = some (.ireturn, 1) := by decide +kernel
theorem k218_34 : pm_look (pm_kl 218) 34 = some (.aload_n 0, 1) := by decide +kernel
theorem k218_35 : pm_look (pm_kl 218) 35 = some (.iload_n 2, 1) := by decide +kernel
theorem k218_36 : pm_look (pm_kl 218) 36 = some (.invokevirtual 238, 3) := by decide +kernel
theorem k218_39 : pm_look (pm_kl 218) 39 = some (.iconst (-1), 1) := by decide +kernel
theorem k218_40 : pm_look (pm_kl 218) 40 = some (.istore 4, 2) := by decide +kernel
theorem k218_42 : pm_look (pm_kl 218) 42 = some (.iconst (-1), 1) := by decide +kernel
theorem k218_43 : pm_look (pm_kl 218) 43 = some (.istore 5, 2) := by decide +kernel
theorem k218_45 : pm_look (pm_kl 218) 45 = some (.iconst 0, 1) := by decide +kernel
theorem k218_46 : pm_look (pm_kl 218) 46 = some (.istore 6, 2) := by decide +kernel
theorem k218_48 : pm_look (pm_kl 218) 48 = some (.iload 6, 2) := by decide +kernel
theorem k218_50 : pm_look (pm_kl 218) 50 = some (.aload_n 0, 1) := by decide +kernel
theorem k218_51 : pm_look (pm_kl 218) 51 = some (.getfield 134, 3) := by decide +kernel
theorem k218_54 : pm_look (pm_kl 218) 54 = some (.if_icmp .ge 142, 3) := by decide +kernel
theorem k218_57 : pm_look (pm_kl 218) 57 = some (.iconst 0, 1) := by decide +kernel
theorem k218_58 : pm_look (pm_kl 218) 58 = some (.istore 7, 2) := by decide +kernel
theorem k218_60 : pm_look (pm_kl 218) 60 = some (.iconst 0, 1) := by decide +kernel
theorem k218_61 : pm_look (pm_kl 218) 61 = some (.istore 8, 2) := by decide +kernel
theorem k218_63 : pm_look (pm_kl 218) 63 = some (.iconst 0, 1) := by decide +kernel
theorem k218_64 : pm_look (pm_kl 218) 64 = some (.istore 9, 2) := by decide +kernel
theorem k218_66 : pm_look (pm_kl 218) 66 = some (.iload 9, 2) := by decide +kernel
theorem k218_68 : pm_look (pm_kl 218) 68 = some (.aload_n 0, 1) := by decide +kernel
theorem k218_69 : pm_look (pm_kl 218) 69 = some (.getfield 175, 3) := by decide +kernel
theorem k218_72 : pm_look (pm_kl 218) 72 = some (.if_icmp .ge 71, 3) := by decide +kernel
theorem k218_75 : pm_look (pm_kl 218) 75 = some (.iload 7, 2) := by decide +kernel
theorem k218_77 : pm_look (pm_kl 218) 77 = some (.aload_n 0, 1) := by decide +kernel
theorem k218_78 : pm_look (pm_kl 218) 78 = some (.iload 9, 2) := by decide +kernel
theorem k218_80 : pm_look (pm_kl 218) 80 = some (.iload_n 1, 1) := by decide +kernel
theorem k218_81 : pm_look (pm_kl 218) 81 = some (.invokevirtual 241, 3) := by decide +kernel
theorem k218_84 : pm_look (pm_kl 218) 84 = some (.ifCond .eq 18, 3) := by decide +kernel
theorem k218_87 : pm_look (pm_kl 218) 87 = some (.aload_n 0, 1) := by decide +kernel
theorem k218_88 : pm_look (pm_kl 218) 88 = some (.iload 9, 2) := by decide +kernel
theorem k218_90 : pm_look (pm_kl 218) 90 = some (.iload 6, 2) := by decide +kernel
theorem k218_92 : pm_look (pm_kl 218) 92 = some (.invokevirtual 241, 3) := by decide +kernel
theorem k218_95 : pm_look (pm_kl 218) 95 = some (.ifCond .eq 7, 3) := by decide +kernel
theorem k218_98 : pm_look (pm_kl 218) 98 = some (.iconst 1, 1) := by decide +kernel
theorem k218_99 : pm_look (pm_kl 218) 99 = some (.goto 4, 3) := by decide +kernel
theorem k218_102 : pm_look (pm_kl 218) 102 = some (.iconst 0, 1) := by decide +kernel
theorem k218_103 : pm_look (pm_kl 218) 103 = some (.iadd, 1) := by decide +kernel
theorem k218_104 : pm_look (pm_kl 218) 104 = some (.istore 7, 2) := by decide +kernel
theorem k218_106 : pm_look (pm_kl 218) 106 = some (.iload 8, 2) := by decide +kernel
theorem k218_108 : pm_look (pm_kl 218) 108 = some (.aload_n 0, 1) := by decide +kernel
theorem k218_109 : pm_look (pm_kl 218) 109 = some (.iload 9, 2) := by decide +kernel
theorem k218_111 : pm_look (pm_kl 218) 111 = some (.iload_n 1, 1) := by decide +kernel
theorem k218_112 : pm_look (pm_kl 218) 112 = some (.invokevirtual 241, 3) := by decide +kernel
theorem k218_115 : pm_look (pm_kl 218) 115 = some (.ifCond .eq 18, 3) := by decide +kernel
theorem k218_118 : pm_look (pm_kl 218) 118 = some (.aload_n 0, 1) := by decide +kernel
theorem k218_119 : pm_look (pm_kl 218) 119 = some (.iload 9, 2) := by decide +kernel
theorem k218_121 : pm_look (pm_kl 218) 121 = some (.iload 6, 2) := by decide +kernel
theorem k218_123 : pm_look (pm_kl 218) 123 = some (.invokevirtual 241, 3) := by decide +kernel
theorem k218_126 : pm_look (pm_kl 218) 126 = some (.ifCond .ne 7, 3) := by decide +kernel
theorem k218_129 : pm_look (pm_kl 218) 129 = some (.iconst 1, 1) := by decide +kernel
theorem k218_130 : pm_look (pm_kl 218) 130 = some (.goto 4, 3) := by decide +kernel
theorem k218_133 : pm_look (pm_kl 218) 133 = some (.iconst 0, 1) := by decide +kernel
theorem k218_134 : pm_look (pm_kl 218) 134 = some (.iadd, 1) := by decide +kernel
theorem k218_135 : pm_look (pm_kl 218) 135 = some (.istore 8, 2) := by decide +kernel
theorem k218_137 : pm_look (pm_kl 218) 137 = some (.iinc 9 1, 3) := by decide +kernel
theorem k218_140 : pm_look (pm_kl 218) 140 = some (.goto (-74), 3) := by decide +kernel
theorem k218_143 : pm_look (pm_kl 218) 143 = some (.iload 7, 2) := by decide +kernel
theorem k218_145 : pm_look (pm_kl 218) 145 = some (.iload 8, 2) := by decide +kernel
theorem k218_147 : pm_look (pm_kl 218) 147 = some (.if_icmp .le 8, 3) := by decide +kernel
theorem k218_150 : pm_look (pm_kl 218) 150 = some (.iload 7, 2) := by decide +kernel
theorem k218_152 : pm_look (pm_kl 218) 152 = some (.goto 5, 3) := by decide +kernel
theorem k218_155 : pm_look (pm_kl 218) 155 = some (.iload 8, 2) := by decide +kernel
theorem k218_157 : pm_look (pm_kl 218) 157 = some (.istore 9, 2) := by decide +kernel
theorem k218_159 : pm_look (pm_kl 218) 159 = some (.aload_n 0, 1) := by decide +kernel
theorem k218_160 : pm_look (pm_kl 218) 160 = some (.iload_n 1, 1) := by decide +kernel
theorem k218_161 : pm_look (pm_kl 218) 161 = some (.iload 6, 2) := by decide +kernel
theorem k218_163 : pm_look (pm_kl 218) 163 = some (.iload_n 2, 1) := by decide +kernel
theorem k218_164 : pm_look (pm_kl 218) 164 = some (.invokevirtual 404, 3) := by decide +kernel
theorem k218_167 : pm_look (pm_kl 218) 167 = some (.ifCond .eq 23, 3) := by decide +kernel
theorem k218_170 : pm_look (pm_kl 218) 170 = some (.iload 4, 2) := by decide +kernel
theorem k218_172 : pm_look (pm_kl 218) 172 = some (.ifCond .lt 10, 3) := by decide +kernel
theorem k218_175 : pm_look (pm_kl 218) 175 = some (.iload 9, 2) := by decide +kernel
theorem k218_177 : pm_look (pm_kl 218) 177 = some (.iload 5, 2) := by decide +kernel
theorem k218_179 : pm_look (pm_kl 218) 179 = some (.if_icmp .ge 11, 3) := by decide +kernel
theorem k218_182 : pm_look (pm_kl 218) 182 = some (.iload 6, 2) := by decide +kernel
theorem k218_184 : pm_look (pm_kl 218) 184 = some (.istore 4, 2) := by decide +kernel
theorem k218_186 : pm_look (pm_kl 218) 186 = some (.iload 9, 2) := by decide +kernel
theorem k218_188 : pm_look (pm_kl 218) 188 = some (.istore 5, 2) := by decide +kernel
theorem k218_190 : pm_look (pm_kl 218) 190 = some (.iinc 6 1, 3) := by decide +kernel
theorem k218_193 : pm_look (pm_kl 218) 193 = some (.goto (-145), 3) := by decide +kernel
theorem k218_196 : pm_look (pm_kl 218) 196 = some (.iload_n 3, 1) := by decide +kernel
theorem k218_197 : pm_look (pm_kl 218) 197 = some (.ifCond .ne 8, 3) := by decide +kernel
theorem k218_200 : pm_look (pm_kl 218) 200 = some (.iload 4, 2) := by decide +kernel
theorem k218_202 : pm_look (pm_kl 218) 202 = some (.goto 5, 3) := by decide +kernel
theorem k218_205 : pm_look (pm_kl 218) 205 = some (.iload 5, 2) := by decide +kernel
theorem k218_207 : pm_look (pm_kl 218) 207 = some (.ireturn, 1) := by decide +kernel
theorem k219_0 : pm_look (pm_kl 219) 0 = some (.lload_n 0, 1) := by decide +kernel
theorem k219_1 : pm_look (pm_kl 219) 1 = some (.lload_n 0, 1) := by decide +kernel
theorem k219_2 : pm_look (pm_kl 219) 2 = some (.iconst 1, 1) := by decide +kernel
theorem k219_3 : pm_look (pm_kl 219) 3 = some (.lushr, 1) := by decide +kernel
theorem k219_4 : pm_look (pm_kl 219) 4 = some (.ldc2_w 314, 3) := by decide +kernel
theorem k219_7 : pm_look (pm_kl 219) 7 = some (.land, 1) := by decide +kernel
theorem k219_8 : pm_look (pm_kl 219) 8 = some (.lsub, 1) := by decide +kernel
theorem k219_9 : pm_look (pm_kl 219) 9 = some (.lstore_n 0, 1) := by decide +kernel
theorem k219_10 : pm_look (pm_kl 219) 10 = some (.lload_n 0, 1) := by decide +kernel
theorem k219_11 : pm_look (pm_kl 219) 11 = some (.ldc2_w 316, 3) := by decide +kernel
theorem k219_14 : pm_look (pm_kl 219) 14 = some (.land, 1) := by decide +kernel
theorem k219_15 : pm_look (pm_kl 219) 15 = some (.lload_n 0, 1) := by decide +kernel
theorem k219_16 : pm_look (pm_kl 219) 16 = some (.iconst 2, 1) := by decide +kernel
theorem k219_17 : pm_look (pm_kl 219) 17 = some (.lushr, 1) := by decide +kernel
theorem k219_18 : pm_look (pm_kl 219) 18 = some (.ldc2_w 316, 3) := by decide +kernel
theorem k219_21 : pm_look (pm_kl 219) 21 = some (.land, 1) := by decide +kernel
theorem k219_22 : pm_look (pm_kl 219) 22 = some (.ladd, 1) := by decide +kernel
theorem k219_23 : pm_look (pm_kl 219) 23 = some (.lstore_n 0, 1) := by decide +kernel
theorem k219_24 : pm_look (pm_kl 219) 24 = some (.lload_n 0, 1) := by decide +kernel
theorem k219_25 : pm_look (pm_kl 219) 25 = some (.lload_n 0, 1) := by decide +kernel
theorem k219_26 : pm_look (pm_kl 219) 26 = some (.iconst 4, 1) := by decide +kernel
theorem k219_27 : pm_look (pm_kl 219) 27 = some (.lushr, 1) := by decide +kernel
theorem k219_28 : pm_look (pm_kl 219) 28 = some (.ladd, 1) := by decide +kernel
theorem k219_29 : pm_look (pm_kl 219) 29 = some (.ldc2_w 318, 3) := by decide +kernel
theorem k219_32 : pm_look (pm_kl 219) 32 = some (.land, 1) := by decide +kernel
theorem k219_33 : pm_look (pm_kl 219) 33 = some (.lstore_n 0, 1) := by decide +kernel
theorem k219_34 : pm_look (pm_kl 219) 34 = some (.lload_n 0, 1) := by decide +kernel
theorem k219_35 : pm_look (pm_kl 219) 35 = some (.lload_n 0, 1) := by decide +kernel
theorem k219_36 : pm_look (pm_kl 219) 36 = some (.bipush 8, 2) := by decide +kernel
theorem k219_38 : pm_look (pm_kl 219) 38 = some (.lushr, 1) := by decide +kernel
theorem k219_39 : pm_look (pm_kl 219) 39 = some (.ladd, 1) := by decide +kernel
theorem k219_40 : pm_look (pm_kl 219) 40 = some (.lstore_n 0, 1) := by decide +kernel
theorem k219_41 : pm_look (pm_kl 219) 41 = some (.lload_n 0, 1) := by decide +kernel
theorem k219_42 : pm_look (pm_kl 219) 42 = some (.lload_n 0, 1) := by decide +kernel
theorem k219_43 : pm_look (pm_kl 219) 43 = some (.bipush 16, 2) := by decide +kernel
theorem k219_45 : pm_look (pm_kl 219) 45 = some (.lushr, 1) := by decide +kernel
theorem k219_46 : pm_look (pm_kl 219) 46 = some (.ladd, 1) := by decide +kernel
theorem k219_47 : pm_look (pm_kl 219) 47 = some (.lstore_n 0, 1) := by decide +kernel
theorem k219_48 : pm_look (pm_kl 219) 48 = some (.lload_n 0, 1) := by decide +kernel
theorem k219_49 : pm_look (pm_kl 219) 49 = some (.lload_n 0, 1) := by decide +kernel
theorem k219_50 : pm_look (pm_kl 219) 50 = some (.bipush 32, 2) := by decide +kernel
theorem k219_52 : pm_look (pm_kl 219) 52 = some (.lushr, 1) := by decide +kernel
theorem k219_53 : pm_look (pm_kl 219) 53 = some (.ladd, 1) := by decide +kernel
theorem k219_54 : pm_look (pm_kl 219) 54 = some (.lstore_n 0, 1) := by decide +kernel
theorem k219_55 : pm_look (pm_kl 219) 55 = some (.lload_n 0, 1) := by decide +kernel
theorem k219_56 : pm_look (pm_kl 219) 56 = some (.l2i, 1) := by decide +kernel
theorem k219_57 : pm_look (pm_kl 219) 57 = some (.bipush 127, 2) := by decide +kernel
theorem k219_59 : pm_look (pm_kl 219) 59 = some (.iand, 1) := by decide +kernel
theorem k219_60 : pm_look (pm_kl 219) 60 = some (.ireturn, 1) := by decide +kernel
theorem k220_0 : pm_look (pm_kl 220) 0 = some (.iload_n 0, 1) := by decide +kernel
theorem k220_1 : pm_look (pm_kl 220) 1 = some (.iload_n 1, 1) := by decide +kernel
theorem k220_2 : pm_look (pm_kl 220) 2 = some (.if_icmp .lt 7, 3) := by decide +kernel
theorem k220_5 : pm_look (pm_kl 220) 5 = some (.iload_n 0, 1) := by decide +kernel
theorem k220_6 : pm_look (pm_kl 220) 6 = some (.goto 4, 3) := by decide +kernel
theorem k220_9 : pm_look (pm_kl 220) 9 = some (.iload_n 1, 1) := by decide +kernel
theorem k220_10 : pm_look (pm_kl 220) 10 = some (.ireturn, 1) := by decide +kernel
theorem k221_0 : pm_look (pm_kl 221) 0 = some (.iload_n 0, 1) := by decide +kernel
theorem k221_1 : pm_look (pm_kl 221) 1 = some (.iload_n 1, 1) := by decide +kernel
theorem k221_2 : pm_look (pm_kl 221) 2 = some (.if_icmp .gt 7, 3) := by decide +kernel
theorem k221_5 : pm_look (pm_kl 221) 5 = some (.iload_n 0, 1) := by decide +kernel
theorem k221_6 : pm_look (pm_kl 221) 6 = some (.goto 4, 3) := by decide +kernel
theorem k221_9 : pm_look (pm_kl 221) 9 = some (.iload_n 1, 1) := by decide +kernel
theorem k221_10 : pm_look (pm_kl 221) 10 = some (.ireturn, 1) := by decide +kernel
theorem k222_0 : pm_look (pm_kl 222) 0 = some (.aload_n 0, 1) := by decide +kernel
theorem k222_1 : pm_look (pm_kl 222) 1 = some (.getfield 9, 3) := by decide +kernel
theorem k222_4 : pm_look (pm_kl 222) 4 = some (.arraylength, 1) := by decide +kernel
theorem k222_5 : pm_look (pm_kl 222) 5 = some (.aload_n 0, 1) := by decide +kernel
theorem k222_6 : pm_look (pm_kl 222) 6 = some (.invokevirtual 335, 3) := by decide +kernel
theorem k222_9 : pm_look (pm_kl 222) 9 = some (.ishr, 1) := by decide +kernel
theorem k222_10 : pm_look (pm_kl 222) 10 = some (.ireturn, 1) := by decide +kernel
theorem k223_0 : pm_look (pm_kl 223) 0 = some (.aload_n 0, 1) := by decide +kernel
theorem k223_1 : pm_look (pm_kl 223) 1 = some (.invokevirtual 492, 3) := by decide +kernel
theorem k223_4 : pm_look (pm_kl 223) 4 = some (.ifCond .eq 12, 3) := by decide +kernel
theorem k223_7 : pm_look (pm_kl 223) 7 = some (.aload_n 0, 1) := by decide +kernel
theorem k223_8 : pm_look (pm_kl 223) 8 = some (.getfield 9, 3) := by decide +kernel
theorem k223_11 : pm_look (pm_kl 223) 11 = some (.iload_n 1, 1) := by decide +kernel
theorem k223_12 : pm_look (pm_kl 223) 12 = some (.invokestatic 495, 3) := by decide +kernel
theorem k223_15 : pm_look (pm_kl 223) 15 = some (.ireturn, 1) := by decide +kernel
theorem k223_16 : pm_look (pm_kl 223) 16 = some (.aload_n 0, 1) := by decide +kernel
theorem k223_17 : pm_look (pm_kl 223) 17 = some (.getfield 9, 3) := by decide +kernel
theorem k223_20 : pm_look (pm_kl 223) 20 = some (.iload_n 1, 1) := by decide +kernel
theorem k223_21 : pm_look (pm_kl 223) 21 = some (.invokestatic 498, 3) := by decide +kernel
theorem k223_24 : pm_look (pm_kl 223) 24 = some (.ireturn, 1) := by decide +kernel
theorem k224_0 : pm_look (pm_kl 224) 0 = some (.getstatic 38, 3) := by decide +kernel
theorem k224_3 : pm_look (pm_kl 224) 3 = some (.ifCond .eq 10, 3) := by decide +kernel
theorem k224_6 : pm_look (pm_kl 224) 6 = some (.aload_n 0, 1) := by decide +kernel
theorem k224_7 : pm_look (pm_kl 224) 7 = some (.getfield 15, 3) := by decide +kernel
theorem k224_10 : pm_look (pm_kl 224) 10 = some (.goto 4, 3) := by decide +kernel
theorem k224_13 : pm_look (pm_kl 224) 13 = some (.iconst 1, 1) := by decide +kernel
theorem k224_14 : pm_look (pm_kl 224) 14 = some (.ireturn, 1) := by decide +kernel
theorem k225_0 : pm_look (pm_kl 225) 0 = some (.getstatic 38, 3) := by decide +kernel
theorem k225_3 : pm_look (pm_kl 225) 3 = some (.ifCond .eq 14, 3) := by decide +kernel
theorem k225_6 : pm_look (pm_kl 225) 6 = some (.aload_n 0, 1) := by decide +kernel
theorem k225_7 : pm_look (pm_kl 225) 7 = some (.getfield 15, 3) := by decide +kernel
theorem k225_10 : pm_look (pm_kl 225) 10 = some (.ifCond .ne 7, 3) := by decide +kernel
theorem k225_13 : pm_look (pm_kl 225) 13 = some (.iconst 1, 1) := by decide +kernel
theorem k225_14 : pm_look (pm_kl 225) 14 = some (.goto 4, 3) := by decide +kernel
theorem k225_17 : pm_look (pm_kl 225) 17 = some (.iconst 0, 1) := by decide +kernel
theorem k225_18 : pm_look (pm_kl 225) 18 = some (.ireturn, 1) := by decide +kernel
theorem k226_0 : pm_look (pm_kl 226) 0 = some (.iload_n 0, 1) := by decide +kernel
theorem k226_1 : pm_look (pm_kl 226) 1 = some (.iload_n 1, 1) := by decide +kernel
theorem k226_2 : pm_look (pm_kl 226) 2 = some (.getstatic 1053, 3) := by decide +kernel
theorem k226_5 : pm_look (pm_kl 226) 5 = some (.invokestatic 1059, 3) := by decide +kernel
theorem k226_8 : pm_look (pm_kl 226) 8 = some (.pop, 1) := by decide +kernel
theorem k226_9 : pm_look (pm_kl 226) 9 = some (.return_, 1) := by decide +kernel
theorem k227_0 : pm_look (pm_kl 227) 0 = some (.iload_n 1, 1) := by decide +kernel
theorem k227_1 : pm_look (pm_kl 227) 1 = some (.aload_n 0, 1) := by decide +kernel
theorem k227_2 : pm_look (pm_kl 227) 2 = some (.arraylength, 1) := by decide +kernel
theorem k227_3 : pm_look (pm_kl 227) 3 = some (.invokestatic 9, 3) := by decide +kernel
theorem k227_6 : pm_look (pm_kl 227) 6 = some (.aload_n 0, 1) := by decide +kernel
theorem k227_7 : pm_look (pm_kl 227) 7 = some (.iload_n 1, 1) := by decide +kernel
theorem k227_8 : pm_look (pm_kl 227) 8 = some (.baload, 1) := by decide +kernel
theorem k227_9 : pm_look (pm_kl 227) 9 = some (.sipush 255, 3) := by decide +kernel
theorem k227_12 : pm_look (pm_kl 227) 12 = some (.iand, 1) := by decide +kernel
theorem k227_13 : pm_look (pm_kl 227) 13 = some (.i2c, 1) := by decide +kernel
theorem k227_14 : pm_look (pm_kl 227) 14 = some (.ireturn, 1) := by decide +kernel
theorem k228_0 : pm_look (pm_kl 228) 0 = some (.iconst 0, 1) := by decide +kernel
theorem k228_1 : pm_look (pm_kl 228) 1 = some (.istore_n 3, 1) := by decide +kernel
theorem k228_2 : pm_look (pm_kl 228) 2 = some (.aload_n 0, 1) := by decide +kernel
theorem k228_3 : pm_look (pm_kl 228) 3 = some (.arraylength, 1) := by decide +kernel
theorem k228_4 : pm_look (pm_kl 228) 4 = some (.istore 4, 2) := by decide +kernel
theorem k228_6 : pm_look (pm_kl 228) 6 = some (.iload_n 3, 1) := by decide +kernel
theorem k228_7 : pm_look (pm_kl 228) 7 = some (.iload 4, 2) := by decide +kernel
theorem k228_9 : pm_look (pm_kl 228) 9 = some (.if_icmp .ge 13, 3) := by decide +kernel
theorem k228_12 : pm_look (pm_kl 228) 12 = some (.aload_n 0, 1) := by decide +kernel
theorem k228_13 : pm_look (pm_kl 228) 13 = some (.iload_n 3, 1) := by decide +kernel
theorem k228_14 : pm_look (pm_kl 228) 14 = some (.lload_n 1, 1) := by decide +kernel
theorem k228_15 : pm_look (pm_kl 228) 15 = some (.lastore, 1) := by decide +kernel
theorem k228_16 : pm_look (pm_kl 228) 16 = some (.iinc 3 1, 3) := by decide +kernel
theorem k228_19 : pm_look (pm_kl 228) 19 = some (.goto (-13), 3) := by decide +kernel
theorem k228_22 : pm_look (pm_kl 228) 22 = some (.return_, 1) := by decide +kernel
theorem k229_0 : pm_look (pm_kl 229) 0 = some (.iconst 0, 1) := by decide +kernel
theorem k229_1 : pm_look (pm_kl 229) 1 = some (.istore_n 2, 1) := by decide +kernel
theorem k229_2 : pm_look (pm_kl 229) 2 = some (.aload_n 0, 1) := by decide +kernel
theorem k229_3 : pm_look (pm_kl 229) 3 = some (.arraylength, 1) := by decide +kernel
theorem k229_4 : pm_look (pm_kl 229) 4 = some (.istore_n 3, 1) := by decide +kernel
theorem k229_5 : pm_look (pm_kl 229) 5 = some (.iload_n 2, 1) := by decide +kernel
theorem k229_6 : pm_look (pm_kl 229) 6 = some (.iload_n 3, 1) := by decide +kernel
theorem k229_7 : pm_look (pm_kl 229) 7 = some (.if_icmp .ge 13, 3) := by decide +kernel
theorem k229_10 : pm_look (pm_kl 229) 10 = some (.aload_n 0, 1) := by decide +kernel
theorem k229_11 : pm_look (pm_kl 229) 11 = some (.iload_n 2, 1) := by decide +kernel
theorem k229_12 : pm_look (pm_kl 229) 12 = some (.iload_n 1, 1) := by decide +kernel
theorem k229_13 : pm_look (pm_kl 229) 13 = some (.iastore, 1) := by decide +kernel
theorem k229_14 : pm_look (pm_kl 229) 14 = some (.iinc 2 1, 3) := by decide +kernel
theorem k229_17 : pm_look (pm_kl 229) 17 = some (.goto (-12), 3) := by decide +kernel
theorem k229_20 : pm_look (pm_kl 229) 20 = some (.return_, 1) := by decide +kernel
theorem k230_0 : pm_look (pm_kl 230) 0 = some (.iload_n 0, 1) := by decide +kernel
theorem k230_1 : pm_look (pm_kl 230) 1 = some (.ifCond .lt 8, 3) := by decide +kernel
theorem k230_4 : pm_look (pm_kl 230) 4 = some (.iload_n 0, 1) := by decide +kernel
theorem k230_5 : pm_look (pm_kl 230) 5 = some (.iload_n 1, 1) := by decide +kernel
theorem k230_6 : pm_look (pm_kl 230) 6 = some (.if_icmp .lt 10, 3) := by decide +kernel
theorem k230_9 : pm_look (pm_kl 230) 9 = some (.aload_n 2, 1) := by decide +kernel
theorem k230_10 : pm_look (pm_kl 230) 10 = some (.iload_n 0, 1) := by decide +kernel
theorem k230_11 : pm_look (pm_kl 230) 11 = some (.iload_n 1, 1) := by decide +kernel
theorem k230_12 : pm_look (pm_kl 230) 12 = some (.invokestatic 95, 3) := by decide +kernel
theorem k230_15 : pm_look (pm_kl 230) 15 = some (.athrow, 1) := by decide +kernel
theorem k230_16 : pm_look (pm_kl 230) 16 = some (.iload_n 0, 1) := by decide +kernel
theorem k230_17 : pm_look (pm_kl 230) 17 = some (.ireturn, 1) := by decide +kernel
theorem k231_0 : pm_look (pm_kl 231) 0 = some (.new 7, 3) := by decide +kernel
theorem k231_3 : pm_look (pm_kl 231) 3 = some (.dup, 1) := by decide +kernel
theorem k231_4 : pm_look (pm_kl 231) 4 = some (.invokespecial 9, 3) := by decide +kernel
theorem k231_7 : pm_look (pm_kl 231) 7 = some (.astore_n 1, 1) := by decide +kernel
theorem k231_8 : pm_look (pm_kl 231) 8 = some (.new 10, 3) := by decide +kernel
theorem k231_11 : pm_look (pm_kl 231) 11 = some (.dup, 1) := by decide +kernel
theorem k231_12 : pm_look (pm_kl 231) 12 = some (.invokespecial 12, 3) := by decide +kernel
theorem k231_15 : pm_look (pm_kl 231) 15 = some (.astore_n 2, 1) := by decide +kernel
theorem k231_16 : pm_look (pm_kl 231) 16 = some (.iconst 0, 1) := by decide +kernel
theorem k231_17 : pm_look (pm_kl 231) 17 = some (.istore_n 3, 1) := by decide +kernel
theorem k231_18 : pm_look (pm_kl 231) 18 = some (.iload_n 3, 1) := by decide +kernel
theorem k231_19 : pm_look (pm_kl 231) 19 = some (.aload_n 0, 1) := by decide +kernel
theorem k231_20 : pm_look (pm_kl 231) 20 = some (.arraylength, 1) := by decide +kernel
theorem k231_21 : pm_look (pm_kl 231) 21 = some (.bipush 7, 2) := by decide +kernel
theorem k231_23 : pm_look (pm_kl 231) 23 = some (.isub, 1) := by decide +kernel
theorem k231_24 : pm_look (pm_kl 231) 24 = some (.if_icmp .gt 1282, 3) := by decide +kernel
theorem k231_27 : pm_look (pm_kl 231) 27 = some (.aload_n 0, 1) := by decide +kernel
theorem k231_28 : pm_look (pm_kl 231) 28 = some (.iload_n 3, 1) := by decide +kernel
theorem k231_29 : pm_look (pm_kl 231) 29 = some (.iaload, 1) := by decide +kernel
theorem k231_30 : pm_look (pm_kl 231) 30 = some (.bipush 31, 2) := by decide +kernel
theorem k231_32 : pm_look (pm_kl 231) 32 = some (.iand, 1) := by decide +kernel
theorem k231_33 : pm_look (pm_kl 231) 33 = some (.tableswitch 1267 0 29 #[135, 148, 171, 204, 237, 280, 323, 366, 419, 452, 485, 528, 571, 594, 657, 680, 693, 726, 769, 802, 815, 858, 921, 996, 1039, 1082, 1115, 1128, 1171, 1224], 135) := by decide +kernel
theorem k231_168 : pm_look (pm_kl 231) 168 = some (.aload_n 1, 1) := by decide +kernel
theorem k231_169 : pm_look (pm_kl 231) 169 = some (.invokevirtual 13, 3) := by decide +kernel
theorem k231_172 : pm_look (pm_kl 231) 172 = some (.pop, 1) := by decide +kernel
theorem k231_173 : pm_look (pm_kl 231) 173 = some (.aload_n 2, 1) := by decide +kernel
theorem k231_174 : pm_look (pm_kl 231) 174 = some (.invokevirtual 17, 3) := by decide +kernel
theorem k231_177 : pm_look (pm_kl 231) 177 = some (.pop, 1) := by decide +kernel
theorem k231_178 : pm_look (pm_kl 231) 178 = some (.goto 1122, 3) := by decide +kernel
theorem k231_181 : pm_look (pm_kl 231) 181 = some (.aload_n 1, 1) := by decide +kernel
theorem k231_182 : pm_look (pm_kl 231) 182 = some (.aload_n 0, 1) := by decide +kernel
theorem k231_183 : pm_look (pm_kl 231) 183 = some (.iload_n 3, 1) := by decide +kernel
theorem k231_184 : pm_look (pm_kl 231) 184 = some (.iconst 1, 1) := by decide +kernel
theorem k231_185 : pm_look (pm_kl 231) 185 = some (.iadd, 1) := by decide +kernel
theorem k231_186 : pm_look (pm_kl 231) 186 = some (.iaload, 1) := by decide +kernel
theorem k231_187 : pm_look (pm_kl 231) 187 = some (.invokevirtual 18, 3) := by decide +kernel
theorem k231_190 : pm_look (pm_kl 231) 190 = some (.pop, 1) := by decide +kernel
theorem k231_191 : pm_look (pm_kl 231) 191 = some (.aload_n 2, 1) := by decide +kernel
theorem k231_192 : pm_look (pm_kl 231) 192 = some (.aload_n 0, 1) := by decide +kernel
theorem k231_193 : pm_look (pm_kl 231) 193 = some (.iload_n 3, 1) := by decide +kernel
theorem k231_194 : pm_look (pm_kl 231) 194 = some (.iconst 1, 1) := by decide +kernel
theorem k231_195 : pm_look (pm_kl 231) 195 = some (.iadd, 1) := by decide +kernel
theorem k231_196 : pm_look (pm_kl 231) 196 = some (.iaload, 1) := by decide +kernel
theorem k231_197 : pm_look (pm_kl 231) 197 = some (.invokevirtual 22, 3) := by decide +kernel
theorem k231_200 : pm_look (pm_kl 231) 200 = some (.pop, 1) := by decide +kernel
theorem k231_201 : pm_look (pm_kl 231) 201 = some (.goto 1099, 3) := by decide +kernel
theorem k231_204 : pm_look (pm_kl 231) 204 = some (.aload_n 1, 1) := by decide +kernel
theorem k231_205 : pm_look (pm_kl 231) 205 = some (.aload_n 0, 1) := by decide +kernel
theorem k231_206 : pm_look (pm_kl 231) 206 = some (.iload_n 3, 1) := by decide +kernel
theorem k231_207 : pm_look (pm_kl 231) 207 = some (.iconst 1, 1) := by decide +kernel
theorem k231_208 : pm_look (pm_kl 231) 208 = some (.iadd, 1) := by decide +kernel
theorem k231_209 : pm_look (pm_kl 231) 209 = some (.iaload, 1) := by decide +kernel
theorem k231_210 : pm_look (pm_kl 231) 210 = some (.aload_n 0, 1) := by decide +kernel
theorem k231_211 : pm_look (pm_kl 231) 211 = some (.iload_n 3, 1) := by decide +kernel
theorem k231_212 : pm_look (pm_kl 231) 212 = some (.iconst 2, 1) := by decide +kernel
theorem k231_213 : pm_look (pm_kl 231) 213 = some (.iadd, 1) := by decide +kernel
theorem k231_214 : pm_look (pm_kl 231) 214 = some (.iaload, 1) := by decide +kernel
theorem k231_215 : pm_look (pm_kl 231) 215 = some (.invokevirtual 23, 3) := by decide +kernel
theorem k231_218 : pm_look (pm_kl 231) 218 = some (.pop, 1) := by decide +kernel
theorem k231_219 : pm_look (pm_kl 231) 219 = some (.aload_n 2, 1) := by decide +kernel
theorem k231_220 : pm_look (pm_kl 231) 220 = some (.aload_n 0, 1) := by decide +kernel
theorem k231_221 : pm_look (pm_kl 231) 221 = some (.iload_n 3, 1) := by decide +kernel
theorem k231_222 : pm_look (pm_kl 231) 222 = some (.iconst 1, 1) := by decide +kernel
theorem k231_223 : pm_look (pm_kl 231) 223 = some (.iadd, 1) := by decide +kernel
theorem k231_224 : pm_look (pm_kl 231) 224 = some (.iaload, 1) := by decide +kernel
theorem k231_225 : pm_look (pm_kl 231) 225 = some (.aload_n 0, 1) := by decide +kernel
theorem k231_226 : pm_look (pm_kl 231) 226 = some (.iload_n 3, 1) := by decide +kernel
theorem k231_227 : pm_look (pm_kl 231) 227 = some (.iconst 2, 1) := by decide +kernel
theorem k231_228 : pm_look (pm_kl 231) 228 = some (.iadd, 1) := by decide +kernel
theorem k231_229 : pm_look (pm_kl 231) 229 = some (.iaload, 1) := by decide +kernel
theorem k231_230 : pm_look (pm_kl 231) 230 = some (.invokevirtual 27, 3) := by decide +kernel
theorem k231_233 : pm_look (pm_kl 231) 233 = some (.pop, 1) := by decide +kernel
theorem k231_234 : pm_look (pm_kl 231) 234 = some (.goto 1066, 3) := by decide +kernel
theorem k231_237 : pm_look (pm_kl 231) 237 = some (.aload_n 1, 1) := by decide +kernel
theorem k231_238 : pm_look (pm_kl 231) 238 = some (.aload_n 0, 1) := by decide +kernel
theorem k231_239 : pm_look (pm_kl 231) 239 = some (.iload_n 3, 1) := by decide +kernel
theorem k231_240 : pm_look (pm_kl 231) 240 = some (.iconst 1, 1) := by decide +kernel
theorem k231_241 : pm_look (pm_kl 231) 241 = some (.iadd, 1) := by decide +kernel
theorem k231_242 : pm_look (pm_kl 231) 242 = some (.iaload, 1) := by decide +kernel
theorem k231_243 : pm_look (pm_kl 231) 243 = some (.aload_n 0, 1) := by decide +kernel
theorem k231_244 : pm_look (pm_kl 231) 244 = some (.iload_n 3, 1) := by decide +kernel
theorem k231_245 : pm_look (pm_kl 231) 245 = some (.iconst 2, 1) := by decide +kernel
theorem k231_246 : pm_look (pm_kl 231) 246 = some (.iadd, 1) := by decide +kernel
theorem k231_247 : pm_look (pm_kl 231) 247 = some (.iaload, 1) := by decide +kernel
theorem k231_248 : pm_look (pm_kl 231) 248 = some (.invokevirtual 28, 3) := by decide +kernel
theorem k231_251 : pm_look (pm_kl 231) 251 = some (.pop, 1) := by decide +kernel
theorem k231_252 : pm_look (pm_kl 231) 252 = some (.aload_n 2, 1) := by decide +kernel
theorem k231_253 : pm_look (pm_kl 231) 253 = some (.aload_n 0, 1) := by decide +kernel
theorem k231_254 : pm_look (pm_kl 231) 254 = some (.iload_n 3, 1) := by decide +kernel
theorem k231_255 : pm_look (pm_kl 231) 255 = some (.iconst 1, 1) := by decide +kernel
theorem k231_256 : pm_look (pm_kl 231) 256 = some (.iadd, 1) := by decide +kernel
theorem k231_257 : pm_look (pm_kl 231) 257 = some (.iaload, 1) := by decide +kernel
theorem k231_258 : pm_look (pm_kl 231) 258 = some (.aload_n 0, 1) := by decide +kernel
theorem k231_259 : pm_look (pm_kl 231) 259 = some (.iload_n 3, 1) := by decide +kernel
theorem k231_260 : pm_look (pm_kl 231) 260 = some (.iconst 2, 1) := by decide +kernel
theorem k231_261 : pm_look (pm_kl 231) 261 = some (.iadd, 1) := by decide +kernel
theorem k231_262 : pm_look (pm_kl 231) 262 = some (.iaload, 1) := by decide +kernel
theorem k231_263 : pm_look (pm_kl 231) 263 = some (.invokevirtual 31, 3) := by decide +kernel
theorem k231_266 : pm_look (pm_kl 231) 266 = some (.pop, 1) := by decide +kernel
theorem k231_267 : pm_look (pm_kl 231) 267 = some (.goto 1033, 3) := by decide +kernel
theorem k231_270 : pm_look (pm_kl 231) 270 = some (.aload_n 1, 1) := by decide +kernel
theorem k231_271 : pm_look (pm_kl 231) 271 = some (.aload_n 0, 1) := by decide +kernel
theorem k231_272 : pm_look (pm_kl 231) 272 = some (.iload_n 3, 1) := by decide +kernel
theorem k231_273 : pm_look (pm_kl 231) 273 = some (.iconst 1, 1) := by decide +kernel
theorem k231_274 : pm_look (pm_kl 231) 274 = some (.iadd, 1) := by decide +kernel
theorem k231_275 : pm_look (pm_kl 231) 275 = some (.iaload, 1) := by decide +kernel
theorem k231_276 : pm_look (pm_kl 231) 276 = some (.aload_n 0, 1) := by decide +kernel
theorem k231_277 : pm_look (pm_kl 231) 277 = some (.iload_n 3, 1) := by decide +kernel
theorem k231_278 : pm_look (pm_kl 231) 278 = some (.iconst 2, 1) := by decide +kernel
theorem k231_279 : pm_look (pm_kl 231) 279 = some (.iadd, 1) := by decide +kernel
theorem k231_280 : pm_look (pm_kl 231) 280 = some (.iaload, 1) := by decide +kernel
theorem k231_281 : pm_look (pm_kl 231) 281 = some (.aload_n 0, 1) := by decide +kernel
theorem k231_282 : pm_look (pm_kl 231) 282 = some (.iload_n 3, 1) := by decide +kernel
theorem k231_283 : pm_look (pm_kl 231) 283 = some (.iconst 3, 1) := by decide +kernel
theorem k231_284 : pm_look (pm_kl 231) 284 = some (.iadd, 1) := by decide +kernel
theorem k231_285 : pm_look (pm_kl 231) 285 = some (.iaload, 1) := by decide +kernel
theorem k231_286 : pm_look (pm_kl 231) 286 = some (.invokevirtual 32, 3) := by decide +kernel
theorem k231_289 : pm_look (pm_kl 231) 289 = some (.pop, 1) := by decide +kernel
theorem k231_290 : pm_look (pm_kl 231) 290 = some (.aload_n 2, 1) := by decide +kernel
theorem k231_291 : pm_look (pm_kl 231) 291 = some (.aload_n 0, 1) := by decide +kernel
theorem k231_292 : pm_look (pm_kl 231) 292 = some (.iload_n 3, 1) := by decide +kernel
theorem k231_293 : pm_look (pm_kl 231) 293 = some (.iconst 1, 1) := by decide +kernel
theorem k231_294 : pm_look (pm_kl 231) 294 = some (.iadd, 1) := by decide +kernel
theorem k231_295 : pm_look (pm_kl 231) 295 = some (.iaload, 1) := by decide +kernel
theorem k231_296 : pm_look (pm_kl 231) 296 = some (.aload_n 0, 1) := by decide +kernel
theorem k231_297 : pm_look (pm_kl 231) 297 = some (.iload_n 3, 1) := by decide +kernel
theorem k231_298 : pm_look (pm_kl 231) 298 = some (.iconst 2, 1) := by decide +kernel
theorem k231_299 : pm_look (pm_kl 231) 299 = some (.iadd, 1) := by decide +kernel
theorem k231_300 : pm_look (pm_kl 231) 300 = some (.iaload, 1) := by decide +kernel
theorem k231_301 : pm_look (pm_kl 231) 301 = some (.aload_n 0, 1) := by decide +kernel
theorem k231_302 : pm_look (pm_kl 231) 302 = some (.iload_n 3, 1) := by decide +kernel
theorem k231_303 : pm_look (pm_kl 231) 303 = some (.iconst 3, 1) := by decide +kernel
theorem k231_304 : pm_look (pm_kl 231) 304 = some (.iadd, 1) := by decide +kernel
theorem k231_305 : pm_look (pm_kl 231) 305 = some (.iaload, 1) := by decide +kernel
theorem k231_306 : pm_look (pm_kl 231) 306 = some (.invokevirtual 36, 3) := by decide +kernel
theorem k231_309 : pm_look (pm_kl 231) 309 = some (.pop, 1) := by decide +kernel
theorem k231_310 : pm_look (pm_kl 231) 310 = some (.goto 990, 3) := by decide +kernel
theorem k231_313 : pm_look (pm_kl 231) 313 = some (.aload_n 1, 1) := by decide +kernel
theorem k231_314 : pm_look (pm_kl 231) 314 = some (.aload_n 0, 1) := by decide +kernel
theorem k231_315 : pm_look (pm_kl 231) 315 = some (.iload_n 3, 1) := by decide +kernel
theorem k231_316 : pm_look (pm_kl 231) 316 = some (.iconst 1, 1) := by decide +kernel
theorem k231_317 : pm_look (pm_kl 231) 317 = some (.iadd, 1) := by decide +kernel
theorem k231_318 : pm_look (pm_kl 231) 318 = some (.iaload, 1) := by decide +kernel
theorem k231_319 : pm_look (pm_kl 231) 319 = some (.aload_n 0, 1) := by decide +kernel
theorem k231_320 : pm_look (pm_kl 231) 320 = some (.iload_n 3, 1) := by decide +kernel
theorem k231_321 : pm_look (pm_kl 231) 321 = some (.iconst 2, 1) := by decide +kernel
theorem k231_322 : pm_look (pm_kl 231) 322 = some (.iadd, 1) := by decide +kernel
theorem k231_323 : pm_look (pm_kl 231) 323 = some (.iaload, 1) := by decide +kernel
theorem k231_324 : pm_look (pm_kl 231) 324 = some (.aload_n 0, 1) := by decide +kernel
theorem k231_325 : pm_look (pm_kl 231) 325 = some (.iload_n 3, 1) := by decide +kernel
theorem k231_326 : pm_look (pm_kl 231) 326 = some (.iconst 3, 1) := by decide +kernel
theorem k231_327 : pm_look (pm_kl 231) 327 = some (.iadd, 1) := by decide +kernel
theorem k231_328 : pm_look (pm_kl 231) 328 = some (.iaload, 1) := by decide +kernel
theorem k231_329 : pm_look (pm_kl 231) 329 = some (.invokevirtual 37, 3) := by decide +kernel
theorem k231_332 : pm_look (pm_kl 231) 332 = some (.pop, 1) := by decide +kernel
theorem k231_333 : pm_look (pm_kl 231) 333 = some (.aload_n 2, 1) := by decide +kernel
theorem k231_334 : pm_look (pm_kl 231) 334 = some (.aload_n 0, 1) := by decide +kernel
theorem k231_335 : pm_look (pm_kl 231) 335 = some (.iload_n 3, 1) := by decide +kernel
theorem k231_336 : pm_look (pm_kl 231) 336 = some (.iconst 1, 1) := by decide +kernel
theorem k231_337 : pm_look (pm_kl 231) 337 = some (.iadd, 1) := by decide +kernel
theorem k231_338 : pm_look (pm_kl 231) 338 = some (.iaload, 1) := by decide +kernel
theorem k231_339 : pm_look (pm_kl 231) 339 = some (.aload_n 0, 1) := by decide +kernel
theorem k231_340 : pm_look (pm_kl 231) 340 = some (.iload_n 3, 1) := by decide +kernel
theorem k231_341 : pm_look (pm_kl 231) 341 = some (.iconst 2, 1) := by decide +kernel
theorem k231_342 : pm_look (pm_kl 231) 342 = some (.iadd, 1) := by decide +kernel
theorem k231_343 : pm_look (pm_kl 231) 343 = some (.iaload, 1) := by decide +kernel
theorem k231_344 : pm_look (pm_kl 231) 344 = some (.aload_n 0, 1) := by decide +kernel
theorem k231_345 : pm_look (pm_kl 231) 345 = some (.iload_n 3, 1) := by decide +kernel
theorem k231_346 : pm_look (pm_kl 231) 346 = some (.iconst 3, 1) := by decide +kernel
theorem k231_347 : pm_look (pm_kl 231) 347 = some (.iadd, 1) := by decide +kernel
theorem k231_348 : pm_look (pm_kl 231) 348 = some (.iaload, 1) := by decide +kernel
theorem k231_349 : pm_look (pm_kl 231) 349 = some (.invokevirtual 40, 3) := by decide +kernel
theorem k231_352 : pm_look (pm_kl 231) 352 = some (.pop, 1) := by decide +kernel
theorem k231_353 : pm_look (pm_kl 231) 353 = some (.goto 947, 3) := by decide +kernel
theorem k231_356 : pm_look (pm_kl 231) 356 = some (.aload_n 1, 1) := by decide +kernel
theorem k231_357 : pm_look (pm_kl 231) 357 = some (.aload_n 0, 1) := by decide +kernel
theorem k231_358 : pm_look (pm_kl 231) 358 = some (.iload_n 3, 1) := by decide +kernel
theorem k231_359 : pm_look (pm_kl 231) 359 = some (.iconst 1, 1) := by decide +kernel
theorem k231_360 : pm_look (pm_kl 231) 360 = some (.iadd, 1) := by decide +kernel
theorem k231_361 : pm_look (pm_kl 231) 361 = some (.iaload, 1) := by decide +kernel
theorem k231_362 : pm_look (pm_kl 231) 362 = some (.aload_n 0, 1) := by decide +kernel
theorem k231_363 : pm_look (pm_kl 231) 363 = some (.iload_n 3, 1) := by decide +kernel
theorem k231_364 : pm_look (pm_kl 231) 364 = some (.iconst 2, 1) := by decide +kernel
theorem k231_365 : pm_look (pm_kl 231) 365 = some (.iadd, 1) := by decide +kernel
theorem k231_366 : pm_look (pm_kl 231) 366 = some (.iaload, 1) := by decide +kernel
theorem k231_367 : pm_look (pm_kl 231) 367 = some (.aload_n 0, 1) := by decide +kernel
theorem k231_368 : pm_look (pm_kl 231) 368 = some (.iload_n 3, 1) := by decide +kernel
theorem k231_369 : pm_look (pm_kl 231) 369 = some (.iconst 3, 1) := by decide +kernel
theorem k231_370 : pm_look (pm_kl 231) 370 = some (.iadd, 1) := by decide +kernel
theorem k231_371 : pm_look (pm_kl 231) 371 = some (.iaload, 1) := by decide +kernel
theorem k231_372 : pm_look (pm_kl 231) 372 = some (.invokevirtual 41, 3) := by decide +kernel
theorem k231_375 : pm_look (pm_kl 231) 375 = some (.pop, 1) := by decide +kernel
theorem k231_376 : pm_look (pm_kl 231) 376 = some (.aload_n 2, 1) := by decide +kernel
theorem k231_377 : pm_look (pm_kl 231) 377 = some (.aload_n 0, 1) := by decide +kernel
theorem k231_378 : pm_look (pm_kl 231) 378 = some (.iload_n 3, 1) := by decide +kernel
theorem k231_379 : pm_look (pm_kl 231) 379 = some (.iconst 1, 1) := by decide +kernel
theorem k231_380 : pm_look (pm_kl 231) 380 = some (.iadd, 1) := by decide +kernel
theorem k231_381 : pm_look (pm_kl 231) 381 = some (.iaload, 1) := by decide +kernel
theorem k231_382 : pm_look (pm_kl 231) 382 = some (.aload_n 0, 1) := by decide +kernel
theorem k231_383 : pm_look (pm_kl 231) 383 = some (.iload_n 3, 1) := by decide +kernel
theorem k231_384 : pm_look (pm_kl 231) 384 = some (.iconst 2, 1) := by decide +kernel
theorem k231_385 : pm_look (pm_kl 231) 385 = some (.iadd, 1) := by decide +kernel
theorem k231_386 : pm_look (pm_kl 231) 386 = some (.iaload, 1) := by decide +kernel
theorem k231_387 : pm_look (pm_kl 231) 387 = some (.aload_n 0, 1) := by decide +kernel
theorem k231_388 : pm_look (pm_kl 231) 388 = some (.iload_n 3, 1) := by decide +kernel
theorem k231_389 : pm_look (pm_kl 231) 389 = some (.iconst 3, 1) := by decide +kernel
theorem k231_390 : pm_look (pm_kl 231) 390 = some (.iadd, 1) := by decide +kernel
theorem k231_391 : pm_look (pm_kl 231) 391 = some (.iaload, 1) := by decide +kernel
theorem k231_392 : pm_look (pm_kl 231) 392 = some (.invokevirtual 44, 3) := by decide +kernel
theorem k231_395 : pm_look (pm_kl 231) 395 = some (.pop, 1) := by decide +kernel
theorem k231_396 : pm_look (pm_kl 231) 396 = some (.goto 904, 3) := by decide +kernel
theorem k231_399 : pm_look (pm_kl 231) 399 = some (.aload_n 1, 1) := by decide +kernel
theorem k231_400 : pm_look (pm_kl 231) 400 = some (.aload_n 0, 1) := by decide +kernel
theorem k231_401 : pm_look (pm_kl 231) 401 = some (.iload_n 3, 1) := by decide +kernel
theorem k231_402 : pm_look (pm_kl 231) 402 = some (.iconst 1, 1) := by decide +kernel
theorem k231_403 : pm_look (pm_kl 231) 403 = some (.iadd, 1) := by decide +kernel
theorem k231_404 : pm_look (pm_kl 231) 404 = some (.iaload, 1) := by decide +kernel
theorem k231_405 : pm_look (pm_kl 231) 405 = some (.aload_n 0, 1) := by decide +kernel
theorem k231_406 : pm_look (pm_kl 231) 406 = some (.iload_n 3, 1) := by decide +kernel
theorem k231_407 : pm_look (pm_kl 231) 407 = some (.iconst 2, 1) := by decide +kernel
theorem k231_408 : pm_look (pm_kl 231) 408 = some (.iadd, 1) := by decide +kernel
theorem k231_409 : pm_look (pm_kl 231) 409 = some (.iaload, 1) := by decide +kernel
theorem k231_410 : pm_look (pm_kl 231) 410 = some (.aload_n 0, 1) := by decide +kernel
theorem k231_411 : pm_look (pm_kl 231) 411 = some (.iload_n 3, 1) := by decide +kernel
theorem k231_412 : pm_look (pm_kl 231) 412 = some (.iconst 3, 1) := by decide +kernel
theorem k231_413 : pm_look (pm_kl 231) 413 = some (.iadd, 1) := by decide +kernel
theorem k231_414 : pm_look (pm_kl 231) 414 = some (.iaload, 1) := by decide +kernel
theorem k231_415 : pm_look (pm_kl 231) 415 = some (.aload_n 0, 1) := by decide +kernel
theorem k231_416 : pm_look (pm_kl 231) 416 = some (.iload_n 3, 1) := by decide +kernel
theorem k231_417 : pm_look (pm_kl 231) 417 = some (.iconst 4, 1) := by decide +kernel
theorem k231_418 : pm_look (pm_kl 231) 418 = some (.iadd, 1) := by decide +kernel
theorem k231_419 : pm_look (pm_kl 231) 419 = some (.iaload, 1) := by decide +kernel
theorem k231_420 : pm_look (pm_kl 231) 420 = some (.invokevirtual 45, 3) := by decide +kernel
theorem k231_423 : pm_look (pm_kl 231) 423 = some (.pop, 1) := by decide +kernel
theorem k231_424 : pm_look (pm_kl 231) 424 = some (.aload_n 2, 1) := by decide +kernel
theorem k231_425 : pm_look (pm_kl 231) 425 = some (.aload_n 0, 1) := by decide +kernel
theorem k231_426 : pm_look (pm_kl 231) 426 = some (.iload_n 3, 1) := by decide +kernel
theorem k231_427 : pm_look (pm_kl 231) 427 = some (.iconst 1, 1) := by decide +kernel
theorem k231_428 : pm_look (pm_kl 231) 428 = some (.iadd, 1) := by decide +kernel
theorem k231_429 : pm_look (pm_kl 231) 429 = some (.iaload, 1) := by decide +kernel
theorem k231_430 : pm_look (pm_kl 231) 430 = some (.aload_n 0, 1) := by decide +kernel
theorem k231_431 : pm_look (pm_kl 231) 431 = some (.iload_n 3, 1) := by decide +kernel
theorem k231_432 : pm_look (pm_kl 231) 432 = some (.iconst 2, 1) := by decide +kernel
theorem k231_433 : pm_look (pm_kl 231) 433 = some (.iadd, 1) := by decide +kernel
theorem k231_434 : pm_look (pm_kl 231) 434 = some (.iaload, 1) := by decide +kernel
theorem k231_435 : pm_look (pm_kl 231) 435 = some (.aload_n 0, 1) := by decide +kernel
theorem k231_436 : pm_look (pm_kl 231) 436 = some (.iload_n 3, 1) := by decide +kernel
theorem k231_437 : pm_look (pm_kl 231) 437 = some (.iconst 3, 1) := by decide +kernel
theorem k231_438 : pm_look (pm_kl 231) 438 = some (.iadd, 1) := by decide +kernel
theorem k231_439 : pm_look (pm_kl 231) 439 = some (.iaload, 1) := by decide +kernel
theorem k231_440 : pm_look (pm_kl 231) 440 = some (.aload_n 0, 1) := by decide +kernel
theorem k231_441 : pm_look (pm_kl 231) 441 = some (.iload_n 3, 1) := by decide +kernel
theorem k231_442 : pm_look (pm_kl 231) 442 = some (.iconst 4, 1) := by decide +kernel
theorem k231_443 : pm_look (pm_kl 231) 443 = some (.iadd, 1) := by decide +kernel
theorem k231_444 : pm_look (pm_kl 231) 444 = some (.iaload, 1) := by decide +kernel
theorem k231_445 : pm_look (pm_kl 231) 445 = some (.invokevirtual 49, 3) := by decide +kernel
theorem k231_448 : pm_look (pm_kl 231) 448 = some (.pop, 1) := by decide +kernel
theorem k231_449 : pm_look (pm_kl 231) 449 = some (.goto 851, 3) := by decide +kernel
theorem k231_452 : pm_look (pm_kl 231) 452 = some (.aload_n 1, 1) := by decide +kernel
theorem k231_453 : pm_look (pm_kl 231) 453 = some (.aload_n 0, 1) := by decide +kernel
theorem k231_454 : pm_look (pm_kl 231) 454 = some (.iload_n 3, 1) := by decide +kernel
theorem k231_455 : pm_look (pm_kl 231) 455 = some (.iconst 1, 1) := by decide +kernel
theorem k231_456 : pm_look (pm_kl 231) 456 = some (.iadd, 1) := by decide +kernel
theorem k231_457 : pm_look (pm_kl 231) 457 = some (.iaload, 1) := by decide +kernel
theorem k231_458 : pm_look (pm_kl 231) 458 = some (.aload_n 0, 1) := by decide +kernel
theorem k231_459 : pm_look (pm_kl 231) 459 = some (.iload_n 3, 1) := by decide +kernel
theorem k231_460 : pm_look (pm_kl 231) 460 = some (.iconst 2, 1) := by decide +kernel
theorem k231_461 : pm_look (pm_kl 231) 461 = some (.iadd, 1) := by decide +kernel
theorem k231_462 : pm_look (pm_kl 231) 462 = some (.iaload, 1) := by decide +kernel
theorem k231_463 : pm_look (pm_kl 231) 463 = some (.invokevirtual 50, 3) := by decide +kernel
theorem k231_466 : pm_look (pm_kl 231) 466 = some (.pop, 1) := by decide +kernel
theorem k231_467 : pm_look (pm_kl 231) 467 = some (.aload_n 2, 1) := by decide +kernel
theorem k231_468 : pm_look (pm_kl 231) 468 = some (.aload_n 0, 1) := by decide +kernel
theorem k231_469 : pm_look (pm_kl 231) 469 = some (.iload_n 3, 1) := by decide +kernel
theorem k231_470 : pm_look (pm_kl 231) 470 = some (.iconst 1, 1) := by decide +kernel
theorem k231_471 : pm_look (pm_kl 231) 471 = some (.iadd, 1) := by decide +kernel
theorem k231_472 : pm_look (pm_kl 231) 472 = some (.iaload, 1) := by decide +kernel
theorem k231_473 : pm_look (pm_kl 231) 473 = some (.aload_n 0, 1) := by decide +kernel
theorem k231_474 : pm_look (pm_kl 231) 474 = some (.iload_n 3, 1) := by decide +kernel
theorem k231_475 : pm_look (pm_kl 231) 475 = some (.iconst 2, 1) := by decide +kernel
theorem k231_476 : pm_look (pm_kl 231) 476 = some (.iadd, 1) := by decide +kernel
theorem k231_477 : pm_look (pm_kl 231) 477 = some (.iaload, 1) := by decide +kernel
theorem k231_478 : pm_look (pm_kl 231) 478 = some (.invokevirtual 53, 3) := by decide +kernel
theorem k231_481 : pm_look (pm_kl 231) 481 = some (.pop, 1) := by decide +kernel
theorem k231_482 : pm_look (pm_kl 231) 482 = some (.goto 818, 3) := by decide +kernel
theorem k231_485 : pm_look (pm_kl 231) 485 = some (.aload_n 1, 1) := by decide +kernel
theorem k231_486 : pm_look (pm_kl 231) 486 = some (.aload_n 0, 1) := by decide +kernel
theorem k231_487 : pm_look (pm_kl 231) 487 = some (.iload_n 3, 1) := by decide +kernel
theorem k231_488 : pm_look (pm_kl 231) 488 = some (.iconst 1, 1) := by decide +kernel
theorem k231_489 : pm_look (pm_kl 231) 489 = some (.iadd, 1) := by decide +kernel
theorem k231_490 : pm_look (pm_kl 231) 490 = some (.iaload, 1) := by decide +kernel
theorem k231_491 : pm_look (pm_kl 231) 491 = some (.aload_n 0, 1) := by decide +kernel
theorem k231_492 : pm_look (pm_kl 231) 492 = some (.iload_n 3, 1) := by decide +kernel
theorem k231_493 : pm_look (pm_kl 231) 493 = some (.iconst 2, 1) := by decide +kernel
theorem k231_494 : pm_look (pm_kl 231) 494 = some (.iadd, 1) := by decide +kernel
theorem k231_495 : pm_look (pm_kl 231) 495 = some (.iaload, 1) := by decide +kernel
theorem k231_496 : pm_look (pm_kl 231) 496 = some (.invokevirtual 54, 3) := by decide +kernel
theorem k231_499 : pm_look (pm_kl 231) 499 = some (.pop, 1) := by decide +kernel
theorem k231_500 : pm_look (pm_kl 231) 500 = some (.aload_n 2, 1) := by decide +kernel
theorem k231_501 : pm_look (pm_kl 231) 501 = some (.aload_n 0, 1) := by decide +kernel
theorem k231_502 : pm_look (pm_kl 231) 502 = some (.iload_n 3, 1) := by decide +kernel
theorem k231_503 : pm_look (pm_kl 231) 503 = some (.iconst 1, 1) := by decide +kernel
theorem k231_504 : pm_look (pm_kl 231) 504 = some (.iadd, 1) := by decide +kernel
theorem k231_505 : pm_look (pm_kl 231) 505 = some (.iaload, 1) := by decide +kernel
theorem k231_506 : pm_look (pm_kl 231) 506 = some (.aload_n 0, 1) := by decide +kernel
theorem k231_507 : pm_look (pm_kl 231) 507 = some (.iload_n 3, 1) := by decide +kernel
theorem k231_508 : pm_look (pm_kl 231) 508 = some (.iconst 2, 1) := by decide +kernel
theorem k231_509 : pm_look (pm_kl 231) 509 = some (.iadd, 1) := by decide +kernel
theorem k231_510 : pm_look (pm_kl 231) 510 = some (.iaload, 1) := by decide +kernel
theorem k231_511 : pm_look (pm_kl 231) 511 = some (.invokevirtual 57, 3) := by decide +kernel
theorem k231_514 : pm_look (pm_kl 231) 514 = some (.pop, 1) := by decide +kernel
theorem k231_515 : pm_look (pm_kl 231) 515 = some (.goto 785, 3) := by decide +kernel
theorem k231_518 : pm_look (pm_kl 231) 518 = some (.aload_n 1, 1) := by decide +kernel
theorem k231_519 : pm_look (pm_kl 231) 519 = some (.aload_n 0, 1) := by decide +kernel
theorem k231_520 : pm_look (pm_kl 231) 520 = some (.iload_n 3, 1) := by decide +kernel
theorem k231_521 : pm_look (pm_kl 231) 521 = some (.iconst 1, 1) := by decide +kernel
theorem k231_522 : pm_look (pm_kl 231) 522 = some (.iadd, 1) := by decide +kernel
theorem k231_523 : pm_look (pm_kl 231) 523 = some (.iaload, 1) := by decide +kernel
theorem k231_524 : pm_look (pm_kl 231) 524 = some (.aload_n 0, 1) := by decide +kernel
theorem k231_525 : pm_look (pm_kl 231) 525 = some (.iload_n 3, 1) := by decide +kernel
theorem k231_526 : pm_look (pm_kl 231) 526 = some (.iconst 2, 1) := by decide +kernel
theorem k231_527 : pm_look (pm_kl 231) 527 = some (.iadd, 1) := by decide +kernel
theorem k231_528 : pm_look (pm_kl 231) 528 = some (.iaload, 1) := by decide +kernel
theorem k231_529 : pm_look (pm_kl 231) 529 = some (.aload_n 0, 1) := by decide +kernel
theorem k231_530 : pm_look (pm_kl 231) 530 = some (.iload_n 3, 1) := by decide +kernel
theorem k231_531 : pm_look (pm_kl 231) 531 = some (.iconst 3, 1) := by decide +kernel
theorem k231_532 : pm_look (pm_kl 231) 532 = some (.iadd, 1) := by decide +kernel
theorem k231_533 : pm_look (pm_kl 231) 533 = some (.iaload, 1) := by decide +kernel
theorem k231_534 : pm_look (pm_kl 231) 534 = some (.invokevirtual 58, 3) := by decide +kernel
theorem k231_537 : pm_look (pm_kl 231) 537 = some (.pop, 1) := by decide +kernel
theorem k231_538 : pm_look (pm_kl 231) 538 = some (.aload_n 2, 1) := by decide +kernel
theorem k231_539 : pm_look (pm_kl 231) 539 = some (.aload_n 0, 1) := by decide +kernel
theorem k231_540 : pm_look (pm_kl 231) 540 = some (.iload_n 3, 1) := by decide +kernel
theorem k231_541 : pm_look (pm_kl 231) 541 = some (.iconst 1, 1) := by decide +kernel
theorem k231_542 : pm_look (pm_kl 231) 542 = some (.iadd, 1) := by decide +kernel
theorem k231_543 : pm_look (pm_kl 231) 543 = some (.iaload, 1) := by decide +kernel
theorem k231_544 : pm_look (pm_kl 231) 544 = some (.aload_n 0, 1) := by decide +kernel
theorem k231_545 : pm_look (pm_kl 231) 545 = some (.iload_n 3, 1) := by decide +kernel
theorem k231_546 : pm_look (pm_kl 231) 546 = some (.iconst 2, 1) := by decide +kernel
theorem k231_547 : pm_look (pm_kl 231) 547 = some (.iadd, 1) := by decide +kernel
theorem k231_548 : pm_look (pm_kl 231) 548 = some (.iaload, 1) := by decide +kernel
theorem k231_549 : pm_look (pm_kl 231) 549 = some (.aload_n 0, 1) := by decide +kernel
theorem k231_550 : pm_look (pm_kl 231) 550 = some (.iload_n 3, 1) := by decide +kernel
theorem k231_551 : pm_look (pm_kl 231) 551 = some (.iconst 3, 1) := by decide +kernel
theorem k231_552 : pm_look (pm_kl 231) 552 = some (.iadd, 1) := by decide +kernel
theorem k231_553 : pm_look (pm_kl 231) 553 = some (.iaload, 1) := by decide +kernel
theorem k231_554 : pm_look (pm_kl 231) 554 = some (.invokevirtual 61, 3) := by decide +kernel
theorem k231_557 : pm_look (pm_kl 231) 557 = some (.pop, 1) := by decide +kernel
theorem k231_558 : pm_look (pm_kl 231) 558 = some (.goto 742, 3) := by decide +kernel
theorem k231_561 : pm_look (pm_kl 231) 561 = some (.aload_n 1, 1) := by decide +kernel
theorem k231_562 : pm_look (pm_kl 231) 562 = some (.aload_n 0, 1) := by decide +kernel
theorem k231_563 : pm_look (pm_kl 231) 563 = some (.iload_n 3, 1) := by decide +kernel
theorem k231_564 : pm_look (pm_kl 231) 564 = some (.iconst 1, 1) := by decide +kernel
theorem k231_565 : pm_look (pm_kl 231) 565 = some (.iadd, 1) := by decide +kernel
theorem k231_566 : pm_look (pm_kl 231) 566 = some (.iaload, 1) := by decide +kernel
theorem k231_567 : pm_look (pm_kl 231) 567 = some (.aload_n 0, 1) := by decide +kernel
theorem k231_568 : pm_look (pm_kl 231) 568 = some (.iload_n 3, 1) := by decide +kernel
theorem k231_569 : pm_look (pm_kl 231) 569 = some (.iconst 2, 1) := by decide +kernel
theorem k231_570 : pm_look (pm_kl 231) 570 = some (.iadd, 1) := by decide +kernel
theorem k231_571 : pm_look (pm_kl 231) 571 = some (.iaload, 1) := by decide +kernel
theorem k231_572 : pm_look (pm_kl 231) 572 = some (.aload_n 0, 1) := by decide +kernel
theorem k231_573 : pm_look (pm_kl 231) 573 = some (.iload_n 3, 1) := by decide +kernel
theorem k231_574 : pm_look (pm_kl 231) 574 = some (.iconst 3, 1) := by decide +kernel
theorem k231_575 : pm_look (pm_kl 231) 575 = some (.iadd, 1) := by decide +kernel
theorem k231_576 : pm_look (pm_kl 231) 576 = some (.iaload, 1) := by decide +kernel
theorem k231_577 : pm_look (pm_kl 231) 577 = some (.invokevirtual 62, 3) := by decide +kernel
theorem k231_580 : pm_look (pm_kl 231) 580 = some (.pop, 1) := by decide +kernel
theorem k231_581 : pm_look (pm_kl 231) 581 = some (.aload_n 2, 1) := by decide +kernel
theorem k231_582 : pm_look (pm_kl 231) 582 = some (.aload_n 0, 1) := by decide +kernel
theorem k231_583 : pm_look (pm_kl 231) 583 = some (.iload_n 3, 1) := by decide +kernel
theorem k231_584 : pm_look (pm_kl 231) 584 = some (.iconst 1, 1) := by decide +kernel
theorem k231_585 : pm_look (pm_kl 231) 585 = some (.iadd, 1) := by decide +kernel
theorem k231_586 : pm_look (pm_kl 231) 586 = some (.iaload, 1) := by decide +kernel
theorem k231_587 : pm_look (pm_kl 231) 587 = some (.aload_n 0, 1) := by decide +kernel
theorem k231_588 : pm_look (pm_kl 231) 588 = some (.iload_n 3, 1) := by decide +kernel
theorem k231_589 : pm_look (pm_kl 231) 589 = some (.iconst 2, 1) := by decide +kernel
theorem k231_590 : pm_look (pm_kl 231) 590 = some (.iadd, 1) := by decide +kernel
theorem k231_591 : pm_look (pm_kl 231) 591 = some (.iaload, 1) := by decide +kernel
theorem k231_592 : pm_look (pm_kl 231) 592 = some (.aload_n 0, 1) := by decide +kernel
theorem k231_593 : pm_look (pm_kl 231) 593 = some (.iload_n 3, 1) := by decide +kernel
theorem k231_594 : pm_look (pm_kl 231) 594 = some (.iconst 3, 1) := by decide +kernel
theorem k231_595 : pm_look (pm_kl 231) 595 = some (.iadd, 1) := by decide +kernel
theorem k231_596 : pm_look (pm_kl 231) 596 = some (.iaload, 1) := by decide +kernel
theorem k231_597 : pm_look (pm_kl 231) 597 = some (.invokevirtual 65, 3) := by decide +kernel
theorem k231_600 : pm_look (pm_kl 231) 600 = some (.pop, 1) := by decide +kernel
theorem k231_601 : pm_look (pm_kl 231) 601 = some (.goto 699, 3) := by decide +kernel
theorem k231_604 : pm_look (pm_kl 231) 604 = some (.aload_n 1, 1) := by decide +kernel
theorem k231_605 : pm_look (pm_kl 231) 605 = some (.aload_n 0, 1) := by decide +kernel
theorem k231_606 : pm_look (pm_kl 231) 606 = some (.iload_n 3, 1) := by decide +kernel
theorem k231_607 : pm_look (pm_kl 231) 607 = some (.iconst 1, 1) := by decide +kernel
theorem k231_608 : pm_look (pm_kl 231) 608 = some (.iadd, 1) := by decide +kernel
theorem k231_609 : pm_look (pm_kl 231) 609 = some (.iaload, 1) := by decide +kernel
theorem k231_610 : pm_look (pm_kl 231) 610 = some (.invokevirtual 66, 3) := by decide +kernel
theorem k231_613 : pm_look (pm_kl 231) 613 = some (.pop, 1) := by decide +kernel
theorem k231_614 : pm_look (pm_kl 231) 614 = some (.aload_n 2, 1) := by decide +kernel
theorem k231_615 : pm_look (pm_kl 231) 615 = some (.aload_n 0, 1) := by decide +kernel
theorem k231_616 : pm_look (pm_kl 231) 616 = some (.iload_n 3, 1) := by decide +kernel
theorem k231_617 : pm_look (pm_kl 231) 617 = some (.iconst 1, 1) := by decide +kernel
theorem k231_618 : pm_look (pm_kl 231) 618 = some (.iadd, 1) := by decide +kernel
theorem k231_619 : pm_look (pm_kl 231) 619 = some (.iaload, 1) := by decide +kernel
theorem k231_620 : pm_look (pm_kl 231) 620 = some (.invokevirtual 69, 3) := by decide +kernel
theorem k231_623 : pm_look (pm_kl 231) 623 = some (.pop, 1) := by decide +kernel
theorem k231_624 : pm_look (pm_kl 231) 624 = some (.goto 676, 3) := by decide +kernel
theorem k231_627 : pm_look (pm_kl 231) 627 = some (.aload_n 1, 1) := by decide +kernel
theorem k231_628 : pm_look (pm_kl 231) 628 = some (.aload_n 0, 1) := by decide +kernel
theorem k231_629 : pm_look (pm_kl 231) 629 = some (.iload_n 3, 1) := by decide +kernel
theorem k231_630 : pm_look (pm_kl 231) 630 = some (.iconst 1, 1) := by decide +kernel
theorem k231_631 : pm_look (pm_kl 231) 631 = some (.iadd, 1) := by decide +kernel
theorem k231_632 : pm_look (pm_kl 231) 632 = some (.iaload, 1) := by decide +kernel
theorem k231_633 : pm_look (pm_kl 231) 633 = some (.aload_n 0, 1) := by decide +kernel
theorem k231_634 : pm_look (pm_kl 231) 634 = some (.iload_n 3, 1) := by decide +kernel
theorem k231_635 : pm_look (pm_kl 231) 635 = some (.iconst 2, 1) := by decide +kernel
theorem k231_636 : pm_look (pm_kl 231) 636 = some (.iadd, 1) := by decide +kernel
theorem k231_637 : pm_look (pm_kl 231) 637 = some (.iaload, 1) := by decide +kernel
theorem k231_638 : pm_look (pm_kl 231) 638 = some (.i2l, 1) := by decide +kernel
theorem k231_639 : pm_look (pm_kl 231) 639 = some (.bipush 32, 2) := by decide +kernel
theorem k231_641 : pm_look (pm_kl 231) 641 = some (.lshl, 1) := by decide +kernel
theorem k231_642 : pm_look (pm_kl 231) 642 = some (.aload_n 0, 1) := by decide +kernel
theorem k231_643 : pm_look (pm_kl 231) 643 = some (.iload_n 3, 1) := by decide +kernel
theorem k231_644 : pm_look (pm_kl 231) 644 = some (.iconst 3, 1) := by decide +kernel
theorem k231_645 : pm_look (pm_kl 231) 645 = some (.iadd, 1) := by decide +kernel
theorem k231_646 : pm_look (pm_kl 231) 646 = some (.iaload, 1) := by decide +kernel
theorem k231_647 : pm_look (pm_kl 231) 647 = some (.i2l, 1) := by decide +kernel
theorem k231_648 : pm_look (pm_kl 231) 648 = some (.ldc2_w 70, 3) := by decide +kernel
theorem k231_651 : pm_look (pm_kl 231) 651 = some (.land, 1) := by decide +kernel
theorem k231_652 : pm_look (pm_kl 231) 652 = some (.lor, 1) := by decide +kernel
theorem k231_653 : pm_look (pm_kl 231) 653 = some (.invokevirtual 72, 3) := by decide +kernel
theorem k231_656 : pm_look (pm_kl 231) 656 = some (.pop, 1) := by decide +kernel
theorem k231_657 : pm_look (pm_kl 231) 657 = some (.aload_n 2, 1) := by decide +kernel
theorem k231_658 : pm_look (pm_kl 231) 658 = some (.aload_n 0, 1) := by decide +kernel
theorem k231_659 : pm_look (pm_kl 231) 659 = some (.iload_n 3, 1) := by decide +kernel
theorem k231_660 : pm_look (pm_kl 231) 660 = some (.iconst 1, 1) := by decide +kernel
theorem k231_661 : pm_look (pm_kl 231) 661 = some (.iadd, 1) := by decide +kernel
theorem k231_662 : pm_look (pm_kl 231) 662 = some (.iaload, 1) := by decide +kernel
theorem k231_663 : pm_look (pm_kl 231) 663 = some (.aload_n 0, 1) := by decide +kernel
theorem k231_664 : pm_look (pm_kl 231) 664 = some (.iload_n 3, 1) := by decide +kernel
theorem k231_665 : pm_look (pm_kl 231) 665 = some (.iconst 2, 1) := by decide +kernel
theorem k231_666 : pm_look (pm_kl 231) 666 = some (.iadd, 1) := by decide +kernel
theorem k231_667 : pm_look (pm_kl 231) 667 = some (.iaload, 1) := by decide +kernel
theorem k231_668 : pm_look (pm_kl 231) 668 = some (.i2l, 1) := by decide +kernel
theorem k231_669 : pm_look (pm_kl 231) 669 = some (.bipush 32, 2) := by decide +kernel
theorem k231_671 : pm_look (pm_kl 231) 671 = some (.lshl, 1) := by decide +kernel
theorem k231_672 : pm_look (pm_kl 231) 672 = some (.aload_n 0, 1) := by decide +kernel
theorem k231_673 : pm_look (pm_kl 231) 673 = some (.iload_n 3, 1) := by decide +kernel
theorem k231_674 : pm_look (pm_kl 231) 674 = some (.iconst 3, 1) := by decide +kernel
theorem k231_675 : pm_look (pm_kl 231) 675 = some (.iadd, 1) := by decide +kernel
theorem k231_676 : pm_look (pm_kl 231) 676 = some (.iaload, 1) := by decide +kernel
theorem k231_677 : pm_look (pm_kl 231) 677 = some (.i2l, 1) := by decide +kernel
theorem k231_678 : pm_look (pm_kl 231) 678 = some (.ldc2_w 70, 3) := by decide +kernel
theorem k231_681 : pm_look (pm_kl 231) 681 = some (.land, 1) := by decide +kernel
theorem k231_682 : pm_look (pm_kl 231) 682 = some (.lor, 1) := by decide +kernel
theorem k231_683 : pm_look (pm_kl 231) 683 = some (.invokevirtual 76, 3) := by decide +kernel
theorem k231_686 : pm_look (pm_kl 231) 686 = some (.pop, 1) := by decide +kernel
theorem k231_687 : pm_look (pm_kl 231) 687 = some (.goto 613, 3) := by decide +kernel
theorem k231_690 : pm_look (pm_kl 231) 690 = some (.aload_n 1, 1) := by decide +kernel
theorem k231_691 : pm_look (pm_kl 231) 691 = some (.aload_n 0, 1) := by decide +kernel
theorem k231_692 : pm_look (pm_kl 231) 692 = some (.iload_n 3, 1) := by decide +kernel
theorem k231_693 : pm_look (pm_kl 231) 693 = some (.iconst 1, 1) := by decide +kernel
theorem k231_694 : pm_look (pm_kl 231) 694 = some (.iadd, 1) := by decide +kernel
theorem k231_695 : pm_look (pm_kl 231) 695 = some (.iaload, 1) := by decide +kernel
theorem k231_696 : pm_look (pm_kl 231) 696 = some (.invokevirtual 77, 3) := by decide +kernel
theorem k231_699 : pm_look (pm_kl 231) 699 = some (.pop, 1) := by decide +kernel
theorem k231_700 : pm_look (pm_kl 231) 700 = some (.aload_n 2, 1) := by decide +kernel
theorem k231_701 : pm_look (pm_kl 231) 701 = some (.aload_n 0, 1) := by decide +kernel
theorem k231_702 : pm_look (pm_kl 231) 702 = some (.iload_n 3, 1) := by decide +kernel
theorem k231_703 : pm_look (pm_kl 231) 703 = some (.iconst 1, 1) := by decide +kernel
theorem k231_704 : pm_look (pm_kl 231) 704 = some (.iadd, 1) := by decide +kernel
theorem k231_705 : pm_look (pm_kl 231) 705 = some (.iaload, 1) := by decide +kernel
theorem k231_706 : pm_look (pm_kl 231) 706 = some (.invokevirtual 80, 3) := by decide +kernel
theorem k231_709 : pm_look (pm_kl 231) 709 = some (.pop, 1) := by decide +kernel
theorem k231_710 : pm_look (pm_kl 231) 710 = some (.goto 590, 3) := by decide +kernel
theorem k231_713 : pm_look (pm_kl 231) 713 = some (.aload_n 1, 1) := by decide +kernel
theorem k231_714 : pm_look (pm_kl 231) 714 = some (.invokevirtual 81, 3) := by decide +kernel
theorem k231_717 : pm_look (pm_kl 231) 717 = some (.pop, 1) := by decide +kernel
theorem k231_718 : pm_look (pm_kl 231) 718 = some (.aload_n 2, 1) := by decide +kernel
theorem k231_719 : pm_look (pm_kl 231) 719 = some (.invokevirtual 84, 3) := by decide +kernel
theorem k231_722 : pm_look (pm_kl 231) 722 = some (.pop, 1) := by decide +kernel
theorem k231_723 : pm_look (pm_kl 231) 723 = some (.goto 577, 3) := by decide +kernel
theorem k231_726 : pm_look (pm_kl 231) 726 = some (.aload_n 1, 1) := by decide +kernel
theorem k231_727 : pm_look (pm_kl 231) 727 = some (.aload_n 0, 1) := by decide +kernel
theorem k231_728 : pm_look (pm_kl 231) 728 = some (.iload_n 3, 1) := by decide +kernel
theorem k231_729 : pm_look (pm_kl 231) 729 = some (.iconst 1, 1) := by decide +kernel
theorem k231_730 : pm_look (pm_kl 231) 730 = some (.iadd, 1) := by decide +kernel
theorem k231_731 : pm_look (pm_kl 231) 731 = some (.iaload, 1) := by decide +kernel
theorem k231_732 : pm_look (pm_kl 231) 732 = some (.aload_n 0, 1) := by decide +kernel
theorem k231_733 : pm_look (pm_kl 231) 733 = some (.iload_n 3, 1) := by decide +kernel
theorem k231_734 : pm_look (pm_kl 231) 734 = some (.iconst 2, 1) := by decide +kernel
theorem k231_735 : pm_look (pm_kl 231) 735 = some (.iadd, 1) := by decide +kernel
theorem k231_736 : pm_look (pm_kl 231) 736 = some (.iaload, 1) := by decide +kernel
theorem k231_737 : pm_look (pm_kl 231) 737 = some (.invokevirtual 85, 3) := by decide +kernel
theorem k231_740 : pm_look (pm_kl 231) 740 = some (.pop, 1) := by decide +kernel
theorem k231_741 : pm_look (pm_kl 231) 741 = some (.aload_n 2, 1) := by decide +kernel
theorem k231_742 : pm_look (pm_kl 231) 742 = some (.aload_n 0, 1) := by decide +kernel
theorem k231_743 : pm_look (pm_kl 231) 743 = some (.iload_n 3, 1) := by decide +kernel
theorem k231_744 : pm_look (pm_kl 231) 744 = some (.iconst 1, 1) := by decide +kernel
theorem k231_745 : pm_look (pm_kl 231) 745 = some (.iadd, 1) := by decide +kernel
theorem k231_746 : pm_look (pm_kl 231) 746 = some (.iaload, 1) := by decide +kernel
theorem k231_747 : pm_look (pm_kl 231) 747 = some (.aload_n 0, 1) := by decide +kernel
theorem k231_748 : pm_look (pm_kl 231) 748 = some (.iload_n 3, 1) := by decide +kernel
theorem k231_749 : pm_look (pm_kl 231) 749 = some (.iconst 2, 1) := by decide +kernel
theorem k231_750 : pm_look (pm_kl 231) 750 = some (.iadd, 1) := by decide +kernel
theorem k231_751 : pm_look (pm_kl 231) 751 = some (.iaload, 1) := by decide +kernel
theorem k231_752 : pm_look (pm_kl 231) 752 = some (.invokevirtual 88, 3) := by decide +kernel
theorem k231_755 : pm_look (pm_kl 231) 755 = some (.pop, 1) := by decide +kernel
theorem k231_756 : pm_look (pm_kl 231) 756 = some (.goto 544, 3) := by decide +kernel
theorem k231_759 : pm_look (pm_kl 231) 759 = some (.aload_n 1, 1) := by decide +kernel
theorem k231_760 : pm_look (pm_kl 231) 760 = some (.aload_n 0, 1) := by decide +kernel
theorem k231_761 : pm_look (pm_kl 231) 761 = some (.iload_n 3, 1) := by decide +kernel
theorem k231_762 : pm_look (pm_kl 231) 762 = some (.iconst 1, 1) := by decide +kernel
theorem k231_763 : pm_look (pm_kl 231) 763 = some (.iadd, 1) := by decide +kernel
theorem k231_764 : pm_look (pm_kl 231) 764 = some (.iaload, 1) := by decide +kernel
theorem k231_765 : pm_look (pm_kl 231) 765 = some (.aload_n 0, 1) := by decide +kernel
theorem k231_766 : pm_look (pm_kl 231) 766 = some (.iload_n 3, 1) := by decide +kernel
theorem k231_767 : pm_look (pm_kl 231) 767 = some (.iconst 2, 1) := by decide +kernel
theorem k231_768 : pm_look (pm_kl 231) 768 = some (.iadd, 1) := by decide +kernel
theorem k231_769 : pm_look (pm_kl 231) 769 = some (.iaload, 1) := by decide +kernel
theorem k231_770 : pm_look (pm_kl 231) 770 = some (.aload_n 0, 1) := by decide +kernel
theorem k231_771 : pm_look (pm_kl 231) 771 = some (.iload_n 3, 1) := by decide +kernel
theorem k231_772 : pm_look (pm_kl 231) 772 = some (.iconst 3, 1) := by decide +kernel
theorem k231_773 : pm_look (pm_kl 231) 773 = some (.iadd, 1) := by decide +kernel
theorem k231_774 : pm_look (pm_kl 231) 774 = some (.iaload, 1) := by decide +kernel
theorem k231_775 : pm_look (pm_kl 231) 775 = some (.invokevirtual 89, 3) := by decide +kernel
theorem k231_778 : pm_look (pm_kl 231) 778 = some (.pop, 1) := by decide +kernel
theorem k231_779 : pm_look (pm_kl 231) 779 = some (.aload_n 2, 1) := by decide +kernel
theorem k231_780 : pm_look (pm_kl 231) 780 = some (.aload_n 0, 1) := by decide +kernel
theorem k231_781 : pm_look (pm_kl 231) 781 = some (.iload_n 3, 1) := by decide +kernel
theorem k231_782 : pm_look (pm_kl 231) 782 = some (.iconst 1, 1) := by decide +kernel
theorem k231_783 : pm_look (pm_kl 231) 783 = some (.iadd, 1) := by decide +kernel
theorem k231_784 : pm_look (pm_kl 231) 784 = some (.iaload, 1) := by decide +kernel
theorem k231_785 : pm_look (pm_kl 231) 785 = some (.aload_n 0, 1) := by decide +kernel
theorem k231_786 : pm_look (pm_kl 231) 786 = some (.iload_n 3, 1) := by decide +kernel
theorem k231_787 : pm_look (pm_kl 231) 787 = some (.iconst 2, 1) := by decide +kernel
theorem k231_788 : pm_look (pm_kl 231) 788 = some (.iadd, 1) := by decide +kernel
theorem k231_789 : pm_look (pm_kl 231) 789 = some (.iaload, 1) := by decide +kernel
theorem k231_790 : pm_look (pm_kl 231) 790 = some (.aload_n 0, 1) := by decide +kernel
theorem k231_791 : pm_look (pm_kl 231) 791 = some (.iload_n 3, 1) := by decide +kernel
theorem k231_792 : pm_look (pm_kl 231) 792 = some (.iconst 3, 1) := by decide +kernel
theorem k231_793 : pm_look (pm_kl 231) 793 = some (.iadd, 1) := by decide +kernel
theorem k231_794 : pm_look (pm_kl 231) 794 = some (.iaload, 1) := by decide +kernel
theorem k231_795 : pm_look (pm_kl 231) 795 = some (.invokevirtual 92, 3) := by decide +kernel
theorem k231_798 : pm_look (pm_kl 231) 798 = some (.pop, 1) := by decide +kernel
theorem k231_799 : pm_look (pm_kl 231) 799 = some (.goto 501, 3) := by decide +kernel
theorem k231_802 : pm_look (pm_kl 231) 802 = some (.aload_n 1, 1) := by decide +kernel
theorem k231_803 : pm_look (pm_kl 231) 803 = some (.aload_n 0, 1) := by decide +kernel
theorem k231_804 : pm_look (pm_kl 231) 804 = some (.iload_n 3, 1) := by decide +kernel
theorem k231_805 : pm_look (pm_kl 231) 805 = some (.iconst 1, 1) := by decide +kernel
theorem k231_806 : pm_look (pm_kl 231) 806 = some (.iadd, 1) := by decide +kernel
theorem k231_807 : pm_look (pm_kl 231) 807 = some (.iaload, 1) := by decide +kernel
theorem k231_808 : pm_look (pm_kl 231) 808 = some (.aload_n 0, 1) := by decide +kernel
theorem k231_809 : pm_look (pm_kl 231) 809 = some (.iload_n 3, 1) := by decide +kernel
theorem k231_810 : pm_look (pm_kl 231) 810 = some (.iconst 2, 1) := by decide +kernel
theorem k231_811 : pm_look (pm_kl 231) 811 = some (.iadd, 1) := by decide +kernel
theorem k231_812 : pm_look (pm_kl 231) 812 = some (.iaload, 1) := by decide +kernel
theorem k231_813 : pm_look (pm_kl 231) 813 = some (.invokevirtual 93, 3) := by decide +kernel
theorem k231_816 : pm_look (pm_kl 231) 816 = some (.pop, 1) := by decide +kernel
theorem k231_817 : pm_look (pm_kl 231) 817 = some (.aload_n 2, 1) := by decide +kernel
theorem k231_818 : pm_look (pm_kl 231) 818 = some (.aload_n 0, 1) := by decide +kernel
theorem k231_819 : pm_look (pm_kl 231) 819 = some (.iload_n 3, 1) := by decide +kernel
theorem k231_820 : pm_look (pm_kl 231) 820 = some (.iconst 1, 1) := by decide +kernel
theorem k231_821 : pm_look (pm_kl 231) 821 = some (.iadd, 1) := by decide +kernel
theorem k231_822 : pm_look (pm_kl 231) 822 = some (.iaload, 1) := by decide +kernel
theorem k231_823 : pm_look (pm_kl 231) 823 = some (.aload_n 0, 1) := by decide +kernel
theorem k231_824 : pm_look (pm_kl 231) 824 = some (.iload_n 3, 1) := by decide +kernel
theorem k231_825 : pm_look (pm_kl 231) 825 = some (.iconst 2, 1) := by decide +kernel
theorem k231_826 : pm_look (pm_kl 231) 826 = some (.iadd, 1) := by decide +kernel
theorem k231_827 : pm_look (pm_kl 231) 827 = some (.iaload, 1) := by decide +kernel
theorem k231_828 : pm_look (pm_kl 231) 828 = some (.invokevirtual 96, 3) := by decide +kernel
theorem k231_831 : pm_look (pm_kl 231) 831 = some (.pop, 1) := by decide +kernel
theorem k231_832 : pm_look (pm_kl 231) 832 = some (.goto 468, 3) := by decide +kernel
theorem k231_835 : pm_look (pm_kl 231) 835 = some (.aload_n 1, 1) := by decide +kernel
theorem k231_836 : pm_look (pm_kl 231) 836 = some (.invokevirtual 97, 3) := by decide +kernel
theorem k231_839 : pm_look (pm_kl 231) 839 = some (.aload_n 2, 1) := by decide +kernel
theorem k231_840 : pm_look (pm_kl 231) 840 = some (.invokevirtual 100, 3) := by decide +kernel
theorem k231_843 : pm_look (pm_kl 231) 843 = some (.if_icmp .eq 457, 3) := by decide +kernel
theorem k231_846 : pm_look (pm_kl 231) 846 = some (.iconst 0, 1) := by decide +kernel
theorem k231_847 : pm_look (pm_kl 231) 847 = some (.ireturn, 1) := by decide +kernel
theorem k231_848 : pm_look (pm_kl 231) 848 = some (.aload_n 1, 1) := by decide +kernel
theorem k231_849 : pm_look (pm_kl 231) 849 = some (.aload_n 0, 1) := by decide +kernel
theorem k231_850 : pm_look (pm_kl 231) 850 = some (.iload_n 3, 1) := by decide +kernel
theorem k231_851 : pm_look (pm_kl 231) 851 = some (.iconst 1, 1) := by decide +kernel
theorem k231_852 : pm_look (pm_kl 231) 852 = some (.iadd, 1) := by decide +kernel
theorem k231_853 : pm_look (pm_kl 231) 853 = some (.iaload, 1) := by decide +kernel
theorem k231_854 : pm_look (pm_kl 231) 854 = some (.aload_n 0, 1) := by decide +kernel
theorem k231_855 : pm_look (pm_kl 231) 855 = some (.iload_n 3, 1) := by decide +kernel
theorem k231_856 : pm_look (pm_kl 231) 856 = some (.iconst 2, 1) := by decide +kernel
theorem k231_857 : pm_look (pm_kl 231) 857 = some (.iadd, 1) := by decide +kernel
theorem k231_858 : pm_look (pm_kl 231) 858 = some (.iaload, 1) := by decide +kernel
theorem k231_859 : pm_look (pm_kl 231) 859 = some (.aload_n 0, 1) := by decide +kernel
theorem k231_860 : pm_look (pm_kl 231) 860 = some (.iload_n 3, 1) := by decide +kernel
theorem k231_861 : pm_look (pm_kl 231) 861 = some (.iconst 3, 1) := by decide +kernel
theorem k231_862 : pm_look (pm_kl 231) 862 = some (.iadd, 1) := by decide +kernel
theorem k231_863 : pm_look (pm_kl 231) 863 = some (.iaload, 1) := by decide +kernel
theorem k231_864 : pm_look (pm_kl 231) 864 = some (.invokevirtual 101, 3) := by decide +kernel
theorem k231_867 : pm_look (pm_kl 231) 867 = some (.pop, 1) := by decide +kernel
theorem k231_868 : pm_look (pm_kl 231) 868 = some (.aload_n 2, 1) := by decide +kernel
theorem k231_869 : pm_look (pm_kl 231) 869 = some (.aload_n 0, 1) := by decide +kernel
theorem k231_870 : pm_look (pm_kl 231) 870 = some (.iload_n 3, 1) := by decide +kernel
theorem k231_871 : pm_look (pm_kl 231) 871 = some (.iconst 1, 1) := by decide +kernel
theorem k231_872 : pm_look (pm_kl 231) 872 = some (.iadd, 1) := by decide +kernel
theorem k231_873 : pm_look (pm_kl 231) 873 = some (.iaload, 1) := by decide +kernel
theorem k231_874 : pm_look (pm_kl 231) 874 = some (.aload_n 0, 1) := by decide +kernel
theorem k231_875 : pm_look (pm_kl 231) 875 = some (.iload_n 3, 1) := by decide +kernel
theorem k231_876 : pm_look (pm_kl 231) 876 = some (.iconst 2, 1) := by decide +kernel
theorem k231_877 : pm_look (pm_kl 231) 877 = some (.iadd, 1) := by decide +kernel
theorem k231_878 : pm_look (pm_kl 231) 878 = some (.iaload, 1) := by decide +kernel
theorem k231_879 : pm_look (pm_kl 231) 879 = some (.aload_n 0, 1) := by decide +kernel
theorem k231_880 : pm_look (pm_kl 231) 880 = some (.iload_n 3, 1) := by decide +kernel
theorem k231_881 : pm_look (pm_kl 231) 881 = some (.iconst 3, 1) := by decide +kernel
theorem k231_882 : pm_look (pm_kl 231) 882 = some (.iadd, 1) := by decide +kernel
theorem k231_883 : pm_look (pm_kl 231) 883 = some (.iaload, 1) := by decide +kernel
theorem k231_884 : pm_look (pm_kl 231) 884 = some (.invokevirtual 104, 3) := by decide +kernel
theorem k231_887 : pm_look (pm_kl 231) 887 = some (.pop, 1) := by decide +kernel
theorem k231_888 : pm_look (pm_kl 231) 888 = some (.goto 412, 3) := by decide +kernel
theorem k231_891 : pm_look (pm_kl 231) 891 = some (.aload_n 1, 1) := by decide +kernel
theorem k231_892 : pm_look (pm_kl 231) 892 = some (.aload_n 0, 1) := by decide +kernel
theorem k231_893 : pm_look (pm_kl 231) 893 = some (.iload_n 3, 1) := by decide +kernel
theorem k231_894 : pm_look (pm_kl 231) 894 = some (.iconst 1, 1) := by decide +kernel
theorem k231_895 : pm_look (pm_kl 231) 895 = some (.iadd, 1) := by decide +kernel
theorem k231_896 : pm_look (pm_kl 231) 896 = some (.iaload, 1) := by decide +kernel
theorem k231_897 : pm_look (pm_kl 231) 897 = some (.aload_n 0, 1) := by decide +kernel
theorem k231_898 : pm_look (pm_kl 231) 898 = some (.iload_n 3, 1) := by decide +kernel
theorem k231_899 : pm_look (pm_kl 231) 899 = some (.iconst 2, 1) := by decide +kernel
theorem k231_900 : pm_look (pm_kl 231) 900 = some (.iadd, 1) := by decide +kernel
theorem k231_901 : pm_look (pm_kl 231) 901 = some (.iaload, 1) := by decide +kernel
theorem k231_902 : pm_look (pm_kl 231) 902 = some (.aload_n 0, 1) := by decide +kernel
theorem k231_903 : pm_look (pm_kl 231) 903 = some (.iload_n 3, 1) := by decide +kernel
theorem k231_904 : pm_look (pm_kl 231) 904 = some (.iconst 3, 1) := by decide +kernel
theorem k231_905 : pm_look (pm_kl 231) 905 = some (.iadd, 1) := by decide +kernel
theorem k231_906 : pm_look (pm_kl 231) 906 = some (.iaload, 1) := by decide +kernel
theorem k231_907 : pm_look (pm_kl 231) 907 = some (.aload_n 0, 1) := by decide +kernel
theorem k231_908 : pm_look (pm_kl 231) 908 = some (.iload_n 3, 1) := by decide +kernel
theorem k231_909 : pm_look (pm_kl 231) 909 = some (.iconst 4, 1) := by decide +kernel
theorem k231_910 : pm_look (pm_kl 231) 910 = some (.iadd, 1) := by decide +kernel
theorem k231_911 : pm_look (pm_kl 231) 911 = some (.iaload, 1) := by decide +kernel
theorem k231_912 : pm_look (pm_kl 231) 912 = some (.aload_n 0, 1) := by decide +kernel
theorem k231_913 : pm_look (pm_kl 231) 913 = some (.iload_n 3, 1) := by decide +kernel
theorem k231_914 : pm_look (pm_kl 231) 914 = some (.iconst 5, 1) := by decide +kernel
theorem k231_915 : pm_look (pm_kl 231) 915 = some (.iadd, 1) := by decide +kernel
theorem k231_916 : pm_look (pm_kl 231) 916 = some (.iaload, 1) := by decide +kernel
theorem k231_917 : pm_look (pm_kl 231) 917 = some (.invokevirtual 105, 3) := by decide +kernel
theorem k231_920 : pm_look (pm_kl 231) 920 = some (.pop, 1) := by decide +kernel
theorem k231_921 : pm_look (pm_kl 231) 921 = some (.aload_n 2, 1) := by decide +kernel
theorem k231_922 : pm_look (pm_kl 231) 922 = some (.aload_n 0, 1) := by decide +kernel
theorem k231_923 : pm_look (pm_kl 231) 923 = some (.iload_n 3, 1) := by decide +kernel
theorem k231_924 : pm_look (pm_kl 231) 924 = some (.iconst 1, 1) := by decide +kernel
theorem k231_925 : pm_look (pm_kl 231) 925 = some (.iadd, 1) := by decide +kernel
theorem k231_926 : pm_look (pm_kl 231) 926 = some (.iaload, 1) := by decide +kernel
theorem k231_927 : pm_look (pm_kl 231) 927 = some (.aload_n 0, 1) := by decide +kernel
theorem k231_928 : pm_look (pm_kl 231) 928 = some (.iload_n 3, 1) := by decide +kernel
theorem k231_929 : pm_look (pm_kl 231) 929 = some (.iconst 2, 1) := by decide +kernel
theorem k231_930 : pm_look (pm_kl 231) 930 = some (.iadd, 1) := by decide +kernel
theorem k231_931 : pm_look (pm_kl 231) 931 = some (.iaload, 1) := by decide +kernel
theorem k231_932 : pm_look (pm_kl 231) 932 = some (.aload_n 0, 1) := by decide +kernel
theorem k231_933 : pm_look (pm_kl 231) 933 = some (.iload_n 3, 1) := by decide +kernel
theorem k231_934 : pm_look (pm_kl 231) 934 = some (.iconst 3, 1) := by decide +kernel
theorem k231_935 : pm_look (pm_kl 231) 935 = some (.iadd, 1) := by decide +kernel
theorem k231_936 : pm_look (pm_kl 231) 936 = some (.iaload, 1) := by decide +kernel
theorem k231_937 : pm_look (pm_kl 231) 937 = some (.aload_n 0, 1) := by decide +kernel
theorem k231_938 : pm_look (pm_kl 231) 938 = some (.iload_n 3, 1) := by decide +kernel
theorem k231_939 : pm_look (pm_kl 231) 939 = some (.iconst 4, 1) := by decide +kernel
theorem k231_940 : pm_look (pm_kl 231) 940 = some (.iadd, 1) := by decide +kernel
theorem k231_941 : pm_look (pm_kl 231) 941 = some (.iaload, 1) := by decide +kernel
theorem k231_942 : pm_look (pm_kl 231) 942 = some (.aload_n 0, 1) := by decide +kernel
theorem k231_943 : pm_look (pm_kl 231) 943 = some (.iload_n 3, 1) := by decide +kernel
theorem k231_944 : pm_look (pm_kl 231) 944 = some (.iconst 5, 1) := by decide +kernel
theorem k231_945 : pm_look (pm_kl 231) 945 = some (.iadd, 1) := by decide +kernel
theorem k231_946 : pm_look (pm_kl 231) 946 = some (.iaload, 1) := by decide +kernel
theorem k231_947 : pm_look (pm_kl 231) 947 = some (.invokevirtual 109, 3) := by decide +kernel
theorem k231_950 : pm_look (pm_kl 231) 950 = some (.pop, 1) := by decide +kernel
theorem k231_951 : pm_look (pm_kl 231) 951 = some (.goto 349, 3) := by decide +kernel
theorem k231_954 : pm_look (pm_kl 231) 954 = some (.aload_n 1, 1) := by decide +kernel
theorem k231_955 : pm_look (pm_kl 231) 955 = some (.aload_n 0, 1) := by decide +kernel
theorem k231_956 : pm_look (pm_kl 231) 956 = some (.iload_n 3, 1) := by decide +kernel
theorem k231_957 : pm_look (pm_kl 231) 957 = some (.iconst 1, 1) := by decide +kernel
theorem k231_958 : pm_look (pm_kl 231) 958 = some (.iadd, 1) := by decide +kernel
theorem k231_959 : pm_look (pm_kl 231) 959 = some (.iaload, 1) := by decide +kernel
theorem k231_960 : pm_look (pm_kl 231) 960 = some (.aload_n 0, 1) := by decide +kernel
theorem k231_961 : pm_look (pm_kl 231) 961 = some (.iload_n 3, 1) := by decide +kernel
theorem k231_962 : pm_look (pm_kl 231) 962 = some (.iconst 2, 1) := by decide +kernel
theorem k231_963 : pm_look (pm_kl 231) 963 = some (.iadd, 1) := by decide +kernel
theorem k231_964 : pm_look (pm_kl 231) 964 = some (.iaload, 1) := by decide +kernel
theorem k231_965 : pm_look (pm_kl 231) 965 = some (.aload_n 0, 1) := by decide +kernel
theorem k231_966 : pm_look (pm_kl 231) 966 = some (.iload_n 3, 1) := by decide +kernel
theorem k231_967 : pm_look (pm_kl 231) 967 = some (.iconst 3, 1) := by decide +kernel
theorem k231_968 : pm_look (pm_kl 231) 968 = some (.iadd, 1) := by decide +kernel
theorem k231_969 : pm_look (pm_kl 231) 969 = some (.iaload, 1) := by decide +kernel
theorem k231_970 : pm_look (pm_kl 231) 970 = some (.aload_n 0, 1) := by decide +kernel
theorem k231_971 : pm_look (pm_kl 231) 971 = some (.iload_n 3, 1) := by decide +kernel
theorem k231_972 : pm_look (pm_kl 231) 972 = some (.iconst 4, 1) := by decide +kernel
theorem k231_973 : pm_look (pm_kl 231) 973 = some (.iadd, 1) := by decide +kernel
theorem k231_974 : pm_look (pm_kl 231) 974 = some (.iaload, 1) := by decide +kernel
theorem k231_975 : pm_look (pm_kl 231) 975 = some (.aload_n 0, 1) := by decide +kernel
theorem k231_976 : pm_look (pm_kl 231) 976 = some (.iload_n 3, 1) := by decide +kernel
theorem k231_977 : pm_look (pm_kl 231) 977 = some (.iconst 5, 1) := by decide +kernel
theorem k231_978 : pm_look (pm_kl 231) 978 = some (.iadd, 1) := by decide +kernel
theorem k231_979 : pm_look (pm_kl 231) 979 = some (.iaload, 1) := by decide +kernel
theorem k231_980 : pm_look (pm_kl 231) 980 = some (.aload_n 0, 1) := by decide +kernel
theorem k231_981 : pm_look (pm_kl 231) 981 = some (.iload_n 3, 1) := by decide +kernel
theorem k231_982 : pm_look (pm_kl 231) 982 = some (.bipush 6, 2) := by decide +kernel
theorem k231_984 : pm_look (pm_kl 231) 984 = some (.iadd, 1) := by decide +kernel
theorem k231_985 : pm_look (pm_kl 231) 985 = some (.iaload, 1) := by decide +kernel
theorem k231_986 : pm_look (pm_kl 231) 986 = some (.invokevirtual 110, 3) := by decide +kernel
theorem k231_989 : pm_look (pm_kl 231) 989 = some (.pop, 1) := by decide +kernel
theorem k231_990 : pm_look (pm_kl 231) 990 = some (.aload_n 2, 1) := by decide +kernel
theorem k231_991 : pm_look (pm_kl 231) 991 = some (.aload_n 0, 1) := by decide +kernel
theorem k231_992 : pm_look (pm_kl 231) 992 = some (.iload_n 3, 1) := by decide +kernel
theorem k231_993 : pm_look (pm_kl 231) 993 = some (.iconst 1, 1) := by decide +kernel
theorem k231_994 : pm_look (pm_kl 231) 994 = some (.iadd, 1) := by decide +kernel
theorem k231_995 : pm_look (pm_kl 231) 995 = some (.iaload, 1) := by decide +kernel
theorem k231_996 : pm_look (pm_kl 231) 996 = some (.aload_n 0, 1) := by decide +kernel
theorem k231_997 : pm_look (pm_kl 231) 997 = some (.iload_n 3, 1) := by decide +kernel
theorem k231_998 : pm_look (pm_kl 231) 998 = some (.iconst 2, 1) := by decide +kernel
theorem k231_999 : pm_look (pm_kl 231) 999 = some (.iadd, 1) := by decide +kernel
theorem k231_1000 : pm_look (pm_kl 231) 1000 = some (.iaload, 1) := by decide +kernel
theorem k231_1001 : pm_look (pm_kl 231) 1001 = some (.aload_n 0, 1) := by decide +kernel
theorem k231_1002 : pm_look (pm_kl 231) 1002 = some (.iload_n 3, 1) := by decide +kernel
theorem k231_1003 : pm_look (pm_kl 231) 1003 = some (.iconst 3, 1) := by decide +kernel
theorem k231_1004 : pm_look (pm_kl 231) 1004 = some (.iadd, 1) := by decide +kernel
theorem k231_1005 : pm_look (pm_kl 231) 1005 = some (.iaload, 1) := by decide +kernel
theorem k231_1006 : pm_look (pm_kl 231) 1006 = some (.aload_n 0, 1) := by decide +kernel
theorem k231_1007 : pm_look (pm_kl 231) 1007 = some (.iload_n 3, 1) := by decide +kernel
theorem k231_1008 : pm_look (pm_kl 231) 1008 = some (.iconst 4, 1) := by decide +kernel
theorem k231_1009 : pm_look (pm_kl 231) 1009 = some (.iadd, 1) := by decide +kernel
theorem k231_1010 : pm_look (pm_kl 231) 1010 = some (.iaload, 1) := by decide +kernel
theorem k231_1011 : pm_look (pm_kl 231) 1011 = some (.aload_n 0, 1) := by decide +kernel
theorem k231_1012 : pm_look (pm_kl 231) 1012 = some (.iload_n 3, 1) := by decide +kernel
theorem k231_1013 : pm_look (pm_kl 231) 1013 = some (.iconst 5, 1) := by decide +kernel
theorem k231_1014 : pm_look (pm_kl 231) 1014 = some (.iadd, 1) := by decide +kernel
theorem k231_1015 : pm_look (pm_kl 231) 1015 = some (.iaload, 1) := by decide +kernel
theorem k231_1016 : pm_look (pm_kl 231) 1016 = some (.aload_n 0, 1) := by decide +kernel
theorem k231_1017 : pm_look (pm_kl 231) 1017 = some (.iload_n 3, 1) := by decide +kernel
theorem k231_1018 : pm_look (pm_kl 231) 1018 = some (.bipush 6, 2) := by decide +kernel
theorem k231_1020 : pm_look (pm_kl 231) 1020 = some (.iadd, 1) := by decide +kernel
theorem k231_1021 : pm_look (pm_kl 231) 1021 = some (.iaload, 1) := by decide +kernel
theorem k231_1022 : pm_look (pm_kl 231) 1022 = some (.invokevirtual 114, 3) := by decide +kernel
theorem k231_1025 : pm_look (pm_kl 231) 1025 = some (.pop, 1) := by decide +kernel
theorem k231_1026 : pm_look (pm_kl 231) 1026 = some (.goto 274, 3) := by decide +kernel
theorem k231_1029 : pm_look (pm_kl 231) 1029 = some (.aload_n 1, 1) := by decide +kernel
theorem k231_1030 : pm_look (pm_kl 231) 1030 = some (.aload_n 0, 1) := by decide +kernel
theorem k231_1031 : pm_look (pm_kl 231) 1031 = some (.iload_n 3, 1) := by decide +kernel
theorem k231_1032 : pm_look (pm_kl 231) 1032 = some (.iconst 1, 1) := by decide +kernel
theorem k231_1033 : pm_look (pm_kl 231) 1033 = some (.iadd, 1) := by decide +kernel
theorem k231_1034 : pm_look (pm_kl 231) 1034 = some (.iaload, 1) := by decide +kernel
theorem k231_1035 : pm_look (pm_kl 231) 1035 = some (.aload_n 0, 1) := by decide +kernel
theorem k231_1036 : pm_look (pm_kl 231) 1036 = some (.iload_n 3, 1) := by decide +kernel
theorem k231_1037 : pm_look (pm_kl 231) 1037 = some (.iconst 2, 1) := by decide +kernel
theorem k231_1038 : pm_look (pm_kl 231) 1038 = some (.iadd, 1) := by decide +kernel
theorem k231_1039 : pm_look (pm_kl 231) 1039 = some (.iaload, 1) := by decide +kernel
theorem k231_1040 : pm_look (pm_kl 231) 1040 = some (.aload_n 0, 1) := by decide +kernel
theorem k231_1041 : pm_look (pm_kl 231) 1041 = some (.iload_n 3, 1) := by decide +kernel
theorem k231_1042 : pm_look (pm_kl 231) 1042 = some (.iconst 3, 1) := by decide +kernel
theorem k231_1043 : pm_look (pm_kl 231) 1043 = some (.iadd, 1) := by decide +kernel
theorem k231_1044 : pm_look (pm_kl 231) 1044 = some (.iaload, 1) := by decide +kernel
theorem k231_1045 : pm_look (pm_kl 231) 1045 = some (.invokevirtual 115, 3) := by decide +kernel
theorem k231_1048 : pm_look (pm_kl 231) 1048 = some (.pop, 1) := by decide +kernel
theorem k231_1049 : pm_look (pm_kl 231) 1049 = some (.aload_n 2, 1) := by decide +kernel
theorem k231_1050 : pm_look (pm_kl 231) 1050 = some (.aload_n 0, 1) := by decide +kernel
theorem k231_1051 : pm_look (pm_kl 231) 1051 = some (.iload_n 3, 1) := by decide +kernel
theorem k231_1052 : pm_look (pm_kl 231) 1052 = some (.iconst 1, 1) := by decide +kernel
theorem k231_1053 : pm_look (pm_kl 231) 1053 = some (.iadd, 1) := by decide +kernel
theorem k231_1054 : pm_look (pm_kl 231) 1054 = some (.iaload, 1) := by decide +kernel
theorem k231_1055 : pm_look (pm_kl 231) 1055 = some (.aload_n 0, 1) := by decide +kernel
theorem k231_1056 : pm_look (pm_kl 231) 1056 = some (.iload_n 3, 1) := by decide +kernel
theorem k231_1057 : pm_look (pm_kl 231) 1057 = some (.iconst 2, 1) := by decide +kernel
theorem k231_1058 : pm_look (pm_kl 231) 1058 = some (.iadd, 1) := by decide +kernel
theorem k231_1059 : pm_look (pm_kl 231) 1059 = some (.iaload, 1) := by decide +kernel
theorem k231_1060 : pm_look (pm_kl 231) 1060 = some (.aload_n 0, 1) := by decide +kernel
theorem k231_1061 : pm_look (pm_kl 231) 1061 = some (.iload_n 3, 1) := by decide +kernel
theorem k231_1062 : pm_look (pm_kl 231) 1062 = some (.iconst 3, 1) := by decide +kernel
theorem k231_1063 : pm_look (pm_kl 231) 1063 = some (.iadd, 1) := by decide +kernel
theorem k231_1064 : pm_look (pm_kl 231) 1064 = some (.iaload, 1) := by decide +kernel
theorem k231_1065 : pm_look (pm_kl 231) 1065 = some (.invokevirtual 118, 3) := by decide +kernel
theorem k231_1068 : pm_look (pm_kl 231) 1068 = some (.pop, 1) := by decide +kernel
theorem k231_1069 : pm_look (pm_kl 231) 1069 = some (.goto 231, 3) := by decide +kernel
theorem k231_1072 : pm_look (pm_kl 231) 1072 = some (.aload_n 1, 1) := by decide +kernel
theorem k231_1073 : pm_look (pm_kl 231) 1073 = some (.aload_n 0, 1) := by decide +kernel
theorem k231_1074 : pm_look (pm_kl 231) 1074 = some (.iload_n 3, 1) := by decide +kernel
theorem k231_1075 : pm_look (pm_kl 231) 1075 = some (.iconst 1, 1) := by decide +kernel
theorem k231_1076 : pm_look (pm_kl 231) 1076 = some (.iadd, 1) := by decide +kernel
theorem k231_1077 : pm_look (pm_kl 231) 1077 = some (.iaload, 1) := by decide +kernel
theorem k231_1078 : pm_look (pm_kl 231) 1078 = some (.aload_n 0, 1) := by decide +kernel
theorem k231_1079 : pm_look (pm_kl 231) 1079 = some (.iload_n 3, 1) := by decide +kernel
theorem k231_1080 : pm_look (pm_kl 231) 1080 = some (.iconst 2, 1) := by decide +kernel
theorem k231_1081 : pm_look (pm_kl 231) 1081 = some (.iadd, 1) := by decide +kernel
theorem k231_1082 : pm_look (pm_kl 231) 1082 = some (.iaload, 1) := by decide +kernel
theorem k231_1083 : pm_look (pm_kl 231) 1083 = some (.aload_n 0, 1) := by decide +kernel
theorem k231_1084 : pm_look (pm_kl 231) 1084 = some (.iload_n 3, 1) := by decide +kernel
theorem k231_1085 : pm_look (pm_kl 231) 1085 = some (.iconst 3, 1) := by decide +kernel
theorem k231_1086 : pm_look (pm_kl 231) 1086 = some (.iadd, 1) := by decide +kernel
theorem k231_1087 : pm_look (pm_kl 231) 1087 = some (.iaload, 1) := by decide +kernel
theorem k231_1088 : pm_look (pm_kl 231) 1088 = some (.invokevirtual 119, 3) := by decide +kernel
theorem k231_1091 : pm_look (pm_kl 231) 1091 = some (.pop, 1) := by decide +kernel
theorem k231_1092 : pm_look (pm_kl 231) 1092 = some (.aload_n 2, 1) := by decide +kernel
theorem k231_1093 : pm_look (pm_kl 231) 1093 = some (.aload_n 0, 1) := by decide +kernel
theorem k231_1094 : pm_look (pm_kl 231) 1094 = some (.iload_n 3, 1) := by decide +kernel
theorem k231_1095 : pm_look (pm_kl 231) 1095 = some (.iconst 1, 1) := by decide +kernel
theorem k231_1096 : pm_look (pm_kl 231) 1096 = some (.iadd, 1) := by decide +kernel
theorem k231_1097 : pm_look (pm_kl 231) 1097 = some (.iaload, 1) := by decide +kernel
theorem k231_1098 : pm_look (pm_kl 231) 1098 = some (.aload_n 0, 1) := by decide +kernel
theorem k231_1099 : pm_look (pm_kl 231) 1099 = some (.iload_n 3, 1) := by decide +kernel
theorem k231_1100 : pm_look (pm_kl 231) 1100 = some (.iconst 2, 1) := by decide +kernel
theorem k231_1101 : pm_look (pm_kl 231) 1101 = some (.iadd, 1) := by decide +kernel
theorem k231_1102 : pm_look (pm_kl 231) 1102 = some (.iaload, 1) := by decide +kernel
theorem k231_1103 : pm_look (pm_kl 231) 1103 = some (.aload_n 0, 1) := by decide +kernel
theorem k231_1104 : pm_look (pm_kl 231) 1104 = some (.iload_n 3, 1) := by decide +kernel
theorem k231_1105 : pm_look (pm_kl 231) 1105 = some (.iconst 3, 1) := by decide +kernel
theorem k231_1106 : pm_look (pm_kl 231) 1106 = some (.iadd, 1) := by decide +kernel
theorem k231_1107 : pm_look (pm_kl 231) 1107 = some (.iaload, 1) := by decide +kernel
theorem k231_1108 : pm_look (pm_kl 231) 1108 = some (.invokevirtual 122, 3) := by decide +kernel
theorem k231_1111 : pm_look (pm_kl 231) 1111 = some (.pop, 1) := by decide +kernel
theorem k231_1112 : pm_look (pm_kl 231) 1112 = some (.goto 188, 3) := by decide +kernel
theorem k231_1115 : pm_look (pm_kl 231) 1115 = some (.aload_n 1, 1) := by decide +kernel
theorem k231_1116 : pm_look (pm_kl 231) 1116 = some (.aload_n 0, 1) := by decide +kernel
theorem k231_1117 : pm_look (pm_kl 231) 1117 = some (.iload_n 3, 1) := by decide +kernel
theorem k231_1118 : pm_look (pm_kl 231) 1118 = some (.iconst 1, 1) := by decide +kernel
theorem k231_1119 : pm_look (pm_kl 231) 1119 = some (.iadd, 1) := by decide +kernel
theorem k231_1120 : pm_look (pm_kl 231) 1120 = some (.iaload, 1) := by decide +kernel
theorem k231_1121 : pm_look (pm_kl 231) 1121 = some (.aload_n 0, 1) := by decide +kernel
theorem k231_1122 : pm_look (pm_kl 231) 1122 = some (.iload_n 3, 1) := by decide +kernel
theorem k231_1123 : pm_look (pm_kl 231) 1123 = some (.iconst 2, 1) := by decide +kernel
theorem k231_1124 : pm_look (pm_kl 231) 1124 = some (.iadd, 1) := by decide +kernel
theorem k231_1125 : pm_look (pm_kl 231) 1125 = some (.iaload, 1) := by decide +kernel
theorem k231_1126 : pm_look (pm_kl 231) 1126 = some (.invokevirtual 123, 3) := by decide +kernel
theorem k231_1129 : pm_look (pm_kl 231) 1129 = some (.pop2, 1) := by decide +kernel
theorem k231_1130 : pm_look (pm_kl 231) 1130 = some (.aload_n 2, 1) := by decide +kernel
theorem k231_1131 : pm_look (pm_kl 231) 1131 = some (.aload_n 0, 1) := by decide +kernel
theorem k231_1132 : pm_look (pm_kl 231) 1132 = some (.iload_n 3, 1) := by decide +kernel
theorem k231_1133 : pm_look (pm_kl 231) 1133 = some (.iconst 1, 1) := by decide +kernel
theorem k231_1134 : pm_look (pm_kl 231) 1134 = some (.iadd, 1) := by decide +kernel
theorem k231_1135 : pm_look (pm_kl 231) 1135 = some (.iaload, 1) := by decide +kernel
theorem k231_1136 : pm_look (pm_kl 231) 1136 = some (.aload_n 0, 1) := by decide +kernel
theorem k231_1137 : pm_look (pm_kl 231) 1137 = some (.iload_n 3, 1) := by decide +kernel
theorem k231_1138 : pm_look (pm_kl 231) 1138 = some (.iconst 2, 1) := by decide +kernel
theorem k231_1139 : pm_look (pm_kl 231) 1139 = some (.iadd, 1) := by decide +kernel
theorem k231_1140 : pm_look (pm_kl 231) 1140 = some (.iaload, 1) := by decide +kernel
theorem k231_1141 : pm_look (pm_kl 231) 1141 = some (.invokevirtual 127, 3) := by decide +kernel
theorem k231_1144 : pm_look (pm_kl 231) 1144 = some (.pop2, 1) := by decide +kernel
theorem k231_1145 : pm_look (pm_kl 231) 1145 = some (.goto 155, 3) := by decide +kernel
theorem k231_1148 : pm_look (pm_kl 231) 1148 = some (.aload_n 1, 1) := by decide +kernel
theorem k231_1149 : pm_look (pm_kl 231) 1149 = some (.invokevirtual 128, 3) := by decide +kernel
theorem k231_1152 : pm_look (pm_kl 231) 1152 = some (.pop, 1) := by decide +kernel
theorem k231_1153 : pm_look (pm_kl 231) 1153 = some (.aload_n 2, 1) := by decide +kernel
theorem k231_1154 : pm_look (pm_kl 231) 1154 = some (.invokevirtual 131, 3) := by decide +kernel
theorem k231_1157 : pm_look (pm_kl 231) 1157 = some (.pop, 1) := by decide +kernel
theorem k231_1158 : pm_look (pm_kl 231) 1158 = some (.goto 142, 3) := by decide +kernel
theorem k231_1161 : pm_look (pm_kl 231) 1161 = some (.aload_n 1, 1) := by decide +kernel
theorem k231_1162 : pm_look (pm_kl 231) 1162 = some (.aload_n 0, 1) := by decide +kernel
theorem k231_1163 : pm_look (pm_kl 231) 1163 = some (.iload_n 3, 1) := by decide +kernel
theorem k231_1164 : pm_look (pm_kl 231) 1164 = some (.iconst 1, 1) := by decide +kernel
theorem k231_1165 : pm_look (pm_kl 231) 1165 = some (.iadd, 1) := by decide +kernel
theorem k231_1166 : pm_look (pm_kl 231) 1166 = some (.iaload, 1) := by decide +kernel
theorem k231_1167 : pm_look (pm_kl 231) 1167 = some (.aload_n 0, 1) := by decide +kernel
theorem k231_1168 : pm_look (pm_kl 231) 1168 = some (.iload_n 3, 1) := by decide +kernel
theorem k231_1169 : pm_look (pm_kl 231) 1169 = some (.iconst 2, 1) := by decide +kernel
theorem k231_1170 : pm_look (pm_kl 231) 1170 = some (.iadd, 1) := by decide +kernel
theorem k231_1171 : pm_look (pm_kl 231) 1171 = some (.iaload, 1) := by decide +kernel
theorem k231_1172 : pm_look (pm_kl 231) 1172 = some (.aload_n 0, 1) := by decide +kernel
theorem k231_1173 : pm_look (pm_kl 231) 1173 = some (.iload_n 3, 1) := by decide +kernel
theorem k231_1174 : pm_look (pm_kl 231) 1174 = some (.iconst 3, 1) := by decide +kernel
theorem k231_1175 : pm_look (pm_kl 231) 1175 = some (.iadd, 1) := by decide +kernel
theorem k231_1176 : pm_look (pm_kl 231) 1176 = some (.iaload, 1) := by decide +kernel
theorem k231_1177 : pm_look (pm_kl 231) 1177 = some (.invokevirtual 132, 3) := by decide +kernel
theorem k231_1180 : pm_look (pm_kl 231) 1180 = some (.pop, 1) := by decide +kernel
theorem k231_1181 : pm_look (pm_kl 231) 1181 = some (.aload_n 2, 1) := by decide +kernel
theorem k231_1182 : pm_look (pm_kl 231) 1182 = some (.aload_n 0, 1) := by decide +kernel
theorem k231_1183 : pm_look (pm_kl 231) 1183 = some (.iload_n 3, 1) := by decide +kernel
theorem k231_1184 : pm_look (pm_kl 231) 1184 = some (.iconst 1, 1) := by decide +kernel
theorem k231_1185 : pm_look (pm_kl 231) 1185 = some (.iadd, 1) := by decide +kernel
theorem k231_1186 : pm_look (pm_kl 231) 1186 = some (.iaload, 1) := by decide +kernel
theorem k231_1187 : pm_look (pm_kl 231) 1187 = some (.aload_n 0, 1) := by decide +kernel
theorem k231_1188 : pm_look (pm_kl 231) 1188 = some (.iload_n 3, 1) := by decide +kernel
theorem k231_1189 : pm_look (pm_kl 231) 1189 = some (.iconst 2, 1) := by decide +kernel
theorem k231_1190 : pm_look (pm_kl 231) 1190 = some (.iadd, 1) := by decide +kernel
theorem k231_1191 : pm_look (pm_kl 231) 1191 = some (.iaload, 1) := by decide +kernel
theorem k231_1192 : pm_look (pm_kl 231) 1192 = some (.aload_n 0, 1) := by decide +kernel
theorem k231_1193 : pm_look (pm_kl 231) 1193 = some (.iload_n 3, 1) := by decide +kernel
theorem k231_1194 : pm_look (pm_kl 231) 1194 = some (.iconst 3, 1) := by decide +kernel
theorem k231_1195 : pm_look (pm_kl 231) 1195 = some (.iadd, 1) := by decide +kernel
theorem k231_1196 : pm_look (pm_kl 231) 1196 = some (.iaload, 1) := by decide +kernel
theorem k231_1197 : pm_look (pm_kl 231) 1197 = some (.invokevirtual 135, 3) := by decide +kernel
theorem k231_1200 : pm_look (pm_kl 231) 1200 = some (.pop, 1) := by decide +kernel
theorem k231_1201 : pm_look (pm_kl 231) 1201 = some (.goto 99, 3) := by decide +kernel
theorem k231_1204 : pm_look (pm_kl 231) 1204 = some (.aload_n 1, 1) := by decide +kernel
theorem k231_1205 : pm_look (pm_kl 231) 1205 = some (.aload_n 0, 1) := by decide +kernel
theorem k231_1206 : pm_look (pm_kl 231) 1206 = some (.iload_n 3, 1) := by decide +kernel
theorem k231_1207 : pm_look (pm_kl 231) 1207 = some (.iconst 1, 1) := by decide +kernel
theorem k231_1208 : pm_look (pm_kl 231) 1208 = some (.iadd, 1) := by decide +kernel
theorem k231_1209 : pm_look (pm_kl 231) 1209 = some (.iaload, 1) := by decide +kernel
theorem k231_1210 : pm_look (pm_kl 231) 1210 = some (.aload_n 0, 1) := by decide +kernel
theorem k231_1211 : pm_look (pm_kl 231) 1211 = some (.iload_n 3, 1) := by decide +kernel
theorem k231_1212 : pm_look (pm_kl 231) 1212 = some (.iconst 2, 1) := by decide +kernel
theorem k231_1213 : pm_look (pm_kl 231) 1213 = some (.iadd, 1) := by decide +kernel
theorem k231_1214 : pm_look (pm_kl 231) 1214 = some (.iaload, 1) := by decide +kernel
theorem k231_1215 : pm_look (pm_kl 231) 1215 = some (.aload_n 0, 1) := by decide +kernel
theorem k231_1216 : pm_look (pm_kl 231) 1216 = some (.iload_n 3, 1) := by decide +kernel
theorem k231_1217 : pm_look (pm_kl 231) 1217 = some (.iconst 3, 1) := by decide +kernel
theorem k231_1218 : pm_look (pm_kl 231) 1218 = some (.iadd, 1) := by decide +kernel
theorem k231_1219 : pm_look (pm_kl 231) 1219 = some (.iaload, 1) := by decide +kernel
theorem k231_1220 : pm_look (pm_kl 231) 1220 = some (.aload_n 0, 1) := by decide +kernel
theorem k231_1221 : pm_look (pm_kl 231) 1221 = some (.iload_n 3, 1) := by decide +kernel
theorem k231_1222 : pm_look (pm_kl 231) 1222 = some (.iconst 4, 1) := by decide +kernel
theorem k231_1223 : pm_look (pm_kl 231) 1223 = some (.iadd, 1) := by decide +kernel
theorem k231_1224 : pm_look (pm_kl 231) 1224 = some (.iaload, 1) := by decide +kernel
theorem k231_1225 : pm_look (pm_kl 231) 1225 = some (.invokevirtual 136, 3) := by decide +kernel
theorem k231_1228 : pm_look (pm_kl 231) 1228 = some (.pop, 1) := by decide +kernel
theorem k231_1229 : pm_look (pm_kl 231) 1229 = some (.aload_n 2, 1) := by decide +kernel
theorem k231_1230 : pm_look (pm_kl 231) 1230 = some (.aload_n 0, 1) := by decide +kernel
theorem k231_1231 : pm_look (pm_kl 231) 1231 = some (.iload_n 3, 1) := by decide +kernel
theorem k231_1232 : pm_look (pm_kl 231) 1232 = some (.iconst 1, 1) := by decide +kernel
theorem k231_1233 : pm_look (pm_kl 231) 1233 = some (.iadd, 1) := by decide +kernel
theorem k231_1234 : pm_look (pm_kl 231) 1234 = some (.iaload, 1) := by decide +kernel
theorem k231_1235 : pm_look (pm_kl 231) 1235 = some (.aload_n 0, 1) := by decide +kernel
theorem k231_1236 : pm_look (pm_kl 231) 1236 = some (.iload_n 3, 1) := by decide +kernel
theorem k231_1237 : pm_look (pm_kl 231) 1237 = some (.iconst 2, 1) := by decide +kernel
theorem k231_1238 : pm_look (pm_kl 231) 1238 = some (.iadd, 1) := by decide +kernel
theorem k231_1239 : pm_look (pm_kl 231) 1239 = some (.iaload, 1) := by decide +kernel
theorem k231_1240 : pm_look (pm_kl 231) 1240 = some (.aload_n 0, 1) := by decide +kernel
theorem k231_1241 : pm_look (pm_kl 231) 1241 = some (.iload_n 3, 1) := by decide +kernel
theorem k231_1242 : pm_look (pm_kl 231) 1242 = some (.iconst 3, 1) := by decide +kernel
theorem k231_1243 : pm_look (pm_kl 231) 1243 = some (.iadd, 1) := by decide +kernel
theorem k231_1244 : pm_look (pm_kl 231) 1244 = some (.iaload, 1) := by decide +kernel
theorem k231_1245 : pm_look (pm_kl 231) 1245 = some (.aload_n 0, 1) := by decide +kernel
theorem k231_1246 : pm_look (pm_kl 231) 1246 = some (.iload_n 3, 1) := by decide +kernel
theorem k231_1247 : pm_look (pm_kl 231) 1247 = some (.iconst 4, 1) := by decide +kernel
theorem k231_1248 : pm_look (pm_kl 231) 1248 = some (.iadd, 1) := by decide +kernel
theorem k231_1249 : pm_look (pm_kl 231) 1249 = some (.iaload, 1) := by decide +kernel
theorem k231_1250 : pm_look (pm_kl 231) 1250 = some (.invokevirtual 139, 3) := by decide +kernel
theorem k231_1253 : pm_look (pm_kl 231) 1253 = some (.pop, 1) := by decide +kernel
theorem k231_1254 : pm_look (pm_kl 231) 1254 = some (.goto 46, 3) := by decide +kernel
theorem k231_1257 : pm_look (pm_kl 231) 1257 = some (.aload_n 1, 1) := by decide +kernel
theorem k231_1258 : pm_look (pm_kl 231) 1258 = some (.aload_n 0, 1) := by decide +kernel
theorem k231_1259 : pm_look (pm_kl 231) 1259 = some (.iload_n 3, 1) := by decide +kernel
theorem k231_1260 : pm_look (pm_kl 231) 1260 = some (.iconst 1, 1) := by decide +kernel
theorem k231_1261 : pm_look (pm_kl 231) 1261 = some (.iadd, 1) := by decide +kernel
theorem k231_1262 : pm_look (pm_kl 231) 1262 = some (.iaload, 1) := by decide +kernel
theorem k231_1263 : pm_look (pm_kl 231) 1263 = some (.aload_n 0, 1) := by decide +kernel
theorem k231_1264 : pm_look (pm_kl 231) 1264 = some (.iload_n 3, 1) := by decide +kernel
theorem k231_1265 : pm_look (pm_kl 231) 1265 = some (.iconst 2, 1) := by decide +kernel
theorem k231_1266 : pm_look (pm_kl 231) 1266 = some (.iadd, 1) := by decide +kernel
theorem k231_1267 : pm_look (pm_kl 231) 1267 = some (.iaload, 1) := by decide +kernel
theorem k231_1268 : pm_look (pm_kl 231) 1268 = some (.aload_n 0, 1) := by decide +kernel
theorem k231_1269 : pm_look (pm_kl 231) 1269 = some (.iload_n 3, 1) := by decide +kernel
theorem k231_1270 : pm_look (pm_kl 231) 1270 = some (.iconst 3, 1) := by decide +kernel
theorem k231_1271 : pm_look (pm_kl 231) 1271 = some (.iadd, 1) := by decide +kernel
theorem k231_1272 : pm_look (pm_kl 231) 1272 = some (.iaload, 1) := by decide +kernel
theorem k231_1273 : pm_look (pm_kl 231) 1273 = some (.invokevirtual 140, 3) := by decide +kernel
theorem k231_1276 : pm_look (pm_kl 231) 1276 = some (.pop, 1) := by decide +kernel
theorem k231_1277 : pm_look (pm_kl 231) 1277 = some (.aload_n 2, 1) := by decide +kernel
theorem k231_1278 : pm_look (pm_kl 231) 1278 = some (.aload_n 0, 1) := by decide +kernel
theorem k231_1279 : pm_look (pm_kl 231) 1279 = some (.iload_n 3, 1) := by decide +kernel
theorem k231_1280 : pm_look (pm_kl 231) 1280 = some (.iconst 1, 1) := by decide +kernel
theorem k231_1281 : pm_look (pm_kl 231) 1281 = some (.iadd, 1) := by decide +kernel
theorem k231_1282 : pm_look (pm_kl 231) 1282 = some (.iaload, 1) := by decide +kernel
theorem k231_1283 : pm_look (pm_kl 231) 1283 = some (.aload_n 0, 1) := by decide +kernel
theorem k231_1284 : pm_look (pm_kl 231) 1284 = some (.iload_n 3, 1) := by decide +kernel
theorem k231_1285 : pm_look (pm_kl 231) 1285 = some (.iconst 2, 1) := by decide +kernel
theorem k231_1286 : pm_look (pm_kl 231) 1286 = some (.iadd, 1) := by decide +kernel
theorem k231_1287 : pm_look (pm_kl 231) 1287 = some (.iaload, 1) := by decide +kernel
theorem k231_1288 : pm_look (pm_kl 231) 1288 = some (.aload_n 0, 1) := by decide +kernel
theorem k231_1289 : pm_look (pm_kl 231) 1289 = some (.iload_n 3, 1) := by decide +kernel
theorem k231_1290 : pm_look (pm_kl 231) 1290 = some (.iconst 3, 1) := by decide +kernel
theorem k231_1291 : pm_look (pm_kl 231) 1291 = some (.iadd, 1) := by decide +kernel
theorem k231_1292 : pm_look (pm_kl 231) 1292 = some (.iaload, 1) := by decide +kernel
theorem k231_1293 : pm_look (pm_kl 231) 1293 = some (.invokevirtual 143, 3) := by decide +kernel
theorem k231_1296 : pm_look (pm_kl 231) 1296 = some (.pop, 1) := by decide +kernel
theorem k231_1297 : pm_look (pm_kl 231) 1297 = some (.goto 3, 3) := by decide +kernel
theorem k231_1300 : pm_look (pm_kl 231) 1300 = some (.iinc 3 7, 3) := by decide +kernel
theorem k231_1303 : pm_look (pm_kl 231) 1303 = some (.goto (-1285), 3) := by decide +kernel
theorem k231_1306 : pm_look (pm_kl 231) 1306 = some (.iconst 1, 1) := by decide +kernel
theorem k231_1307 : pm_look (pm_kl 231) 1307 = some (.ireturn, 1) := by decide +kernel
