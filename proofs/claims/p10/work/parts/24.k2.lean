theorem k112_175 : pm_look (pm_kl 112) 175 = some (.invokestatic 145, 3) := by decide +kernel
theorem k112_178 : pm_look (pm_kl 112) 178 = some (.ireturn, 1) := by decide +kernel
theorem k112_179 : pm_look (pm_kl 112) 179 = some (.lload 8, 2) := by decide +kernel
theorem k112_181 : pm_look (pm_kl 112) 181 = some (.lload 10, 2) := by decide +kernel
theorem k112_183 : pm_look (pm_kl 112) 183 = some (.invokestatic 292, 3) := by decide +kernel
theorem k112_186 : pm_look (pm_kl 112) 186 = some (.ireturn, 1) := by decide +kernel
theorem k113_0 : pm_look (pm_kl 113) 0 = some (.aload_n 0, 1) := by decide +kernel
theorem k113_1 : pm_look (pm_kl 113) 1 = some (.getfield 10, 3) := by decide +kernel
theorem k113_4 : pm_look (pm_kl 113) 4 = some (.iload_n 1, 1) := by decide +kernel
theorem k113_5 : pm_look (pm_kl 113) 5 = some (.invokevirtual 88, 3) := by decide +kernel
theorem k113_8 : pm_look (pm_kl 113) 8 = some (.ifCond .eq 14, 3) := by decide +kernel
theorem k113_11 : pm_look (pm_kl 113) 11 = some (.aload_n 0, 1) := by decide +kernel
theorem k113_12 : pm_look (pm_kl 113) 12 = some (.getfield 10, 3) := by decide +kernel
theorem k113_15 : pm_look (pm_kl 113) 15 = some (.iload_n 2, 1) := by decide +kernel
theorem k113_16 : pm_look (pm_kl 113) 16 = some (.invokevirtual 88, 3) := by decide +kernel
theorem k113_19 : pm_look (pm_kl 113) 19 = some (.ifCond .ne 7, 3) := by decide +kernel
theorem k113_22 : pm_look (pm_kl 113) 22 = some (.sipush (-1001), 3) := by decide +kernel
theorem k113_25 : pm_look (pm_kl 113) 25 = some (.ireturn, 1) := by decide +kernel
theorem k113_26 : pm_look (pm_kl 113) 26 = some (.aload_n 0, 1) := by decide +kernel
theorem k113_27 : pm_look (pm_kl 113) 27 = some (.iload_n 3, 1) := by decide +kernel
theorem k113_28 : pm_look (pm_kl 113) 28 = some (.invokevirtual 124, 3) := by decide +kernel
theorem k113_31 : pm_look (pm_kl 113) 31 = some (.ifCond .eq 13, 3) := by decide +kernel
theorem k113_34 : pm_look (pm_kl 113) 34 = some (.iload 6, 2) := by decide +kernel
theorem k113_36 : pm_look (pm_kl 113) 36 = some (.iconst 0, 1) := by decide +kernel
theorem k113_37 : pm_look (pm_kl 113) 37 = some (.iconst 4, 1) := by decide +kernel
theorem k113_38 : pm_look (pm_kl 113) 38 = some (.invokestatic 127, 3) := by decide +kernel
theorem k113_41 : pm_look (pm_kl 113) 41 = some (.ifCond .ne 7, 3) := by decide +kernel
theorem k113_44 : pm_look (pm_kl 113) 44 = some (.sipush (-1002), 3) := by decide +kernel
theorem k113_47 : pm_look (pm_kl 113) 47 = some (.ireturn, 1) := by decide +kernel
theorem k113_48 : pm_look (pm_kl 113) 48 = some (.iload 4, 2) := by decide +kernel
theorem k113_50 : pm_look (pm_kl 113) 50 = some (.invokestatic 152, 3) := by decide +kernel
theorem k113_53 : pm_look (pm_kl 113) 53 = some (.ifCond .eq 18, 3) := by decide +kernel
theorem k113_56 : pm_look (pm_kl 113) 56 = some (.iload 5, 2) := by decide +kernel
theorem k113_58 : pm_look (pm_kl 113) 58 = some (.invokestatic 152, 3) := by decide +kernel
theorem k113_61 : pm_look (pm_kl 113) 61 = some (.ifCond .eq 10, 3) := by decide +kernel
theorem k113_64 : pm_look (pm_kl 113) 64 = some (.iload 5, 2) := by decide +kernel
theorem k113_66 : pm_look (pm_kl 113) 66 = some (.iload 4, 2) := by decide +kernel
theorem k113_68 : pm_look (pm_kl 113) 68 = some (.if_icmp .ge 7, 3) := by decide +kernel
theorem k113_71 : pm_look (pm_kl 113) 71 = some (.sipush (-1002), 3) := by decide +kernel
theorem k113_74 : pm_look (pm_kl 113) 74 = some (.ireturn, 1) := by decide +kernel
theorem k113_75 : pm_look (pm_kl 113) 75 = some (.aload_n 0, 1) := by decide +kernel
theorem k113_76 : pm_look (pm_kl 113) 76 = some (.getfield 77, 3) := by decide +kernel
theorem k113_79 : pm_look (pm_kl 113) 79 = some (.iload_n 3, 1) := by decide +kernel
theorem k113_80 : pm_look (pm_kl 113) 80 = some (.invokevirtual 137, 3) := by decide +kernel
theorem k113_83 : pm_look (pm_kl 113) 83 = some (.aload_n 0, 1) := by decide +kernel
theorem k113_84 : pm_look (pm_kl 113) 84 = some (.getfield 19, 3) := by decide +kernel
theorem k113_87 : pm_look (pm_kl 113) 87 = some (.iload 4, 2) := by decide +kernel
theorem k113_89 : pm_look (pm_kl 113) 89 = some (.iload 5, 2) := by decide +kernel
theorem k113_91 : pm_look (pm_kl 113) 91 = some (.invokevirtual 296, 3) := by decide +kernel
theorem k113_94 : pm_look (pm_kl 113) 94 = some (.lstore 7, 2) := by decide +kernel
theorem k113_96 : pm_look (pm_kl 113) 96 = some (.aload_n 0, 1) := by decide +kernel
theorem k113_97 : pm_look (pm_kl 113) 97 = some (.getfield 77, 3) := by decide +kernel
theorem k113_100 : pm_look (pm_kl 113) 100 = some (.iload_n 1, 1) := by decide +kernel
theorem k113_101 : pm_look (pm_kl 113) 101 = some (.invokevirtual 141, 3) := by decide +kernel
theorem k113_104 : pm_look (pm_kl 113) 104 = some (.lload 7, 2) := by decide +kernel
theorem k113_106 : pm_look (pm_kl 113) 106 = some (.land, 1) := by decide +kernel
theorem k113_107 : pm_look (pm_kl 113) 107 = some (.lstore 9, 2) := by decide +kernel
theorem k113_109 : pm_look (pm_kl 113) 109 = some (.aload_n 0, 1) := by decide +kernel
theorem k113_110 : pm_look (pm_kl 113) 110 = some (.getfield 77, 3) := by decide +kernel
theorem k113_113 : pm_look (pm_kl 113) 113 = some (.iload_n 2, 1) := by decide +kernel
theorem k113_114 : pm_look (pm_kl 113) 114 = some (.invokevirtual 141, 3) := by decide +kernel
theorem k113_117 : pm_look (pm_kl 113) 117 = some (.lload 7, 2) := by decide +kernel
theorem k113_119 : pm_look (pm_kl 113) 119 = some (.land, 1) := by decide +kernel
theorem k113_120 : pm_look (pm_kl 113) 120 = some (.lstore 11, 2) := by decide +kernel
theorem k113_122 : pm_look (pm_kl 113) 122 = some (.iload 6, 2) := by decide +kernel
theorem k113_124 : pm_look (pm_kl 113) 124 = some (.tableswitch 59 0 3 #[32, 38, 44, 53], 32) := by decide +kernel
theorem k113_156 : pm_look (pm_kl 113) 156 = some (.lload 9, 2) := by decide +kernel
theorem k113_158 : pm_look (pm_kl 113) 158 = some (.invokestatic 145, 3) := by decide +kernel
theorem k113_161 : pm_look (pm_kl 113) 161 = some (.ireturn, 1) := by decide +kernel
theorem k113_162 : pm_look (pm_kl 113) 162 = some (.lload 11, 2) := by decide +kernel
theorem k113_164 : pm_look (pm_kl 113) 164 = some (.invokestatic 145, 3) := by decide +kernel
theorem k113_167 : pm_look (pm_kl 113) 167 = some (.ireturn, 1) := by decide +kernel
theorem k113_168 : pm_look (pm_kl 113) 168 = some (.lload 9, 2) := by decide +kernel
theorem k113_170 : pm_look (pm_kl 113) 170 = some (.lload 11, 2) := by decide +kernel
theorem k113_172 : pm_look (pm_kl 113) 172 = some (.land, 1) := by decide +kernel
theorem k113_173 : pm_look (pm_kl 113) 173 = some (.invokestatic 145, 3) := by decide +kernel
theorem k113_176 : pm_look (pm_kl 113) 176 = some (.ireturn, 1) := by decide +kernel
theorem k113_177 : pm_look (pm_kl 113) 177 = some (.lload 7, 2) := by decide +kernel
theorem k113_179 : pm_look (pm_kl 113) 179 = some (.invokestatic 145, 3) := by decide +kernel
theorem k113_182 : pm_look (pm_kl 113) 182 = some (.ireturn, 1) := by decide +kernel
theorem k113_183 : pm_look (pm_kl 113) 183 = some (.lload 9, 2) := by decide +kernel
theorem k113_185 : pm_look (pm_kl 113) 185 = some (.lload 11, 2) := by decide +kernel
theorem k113_187 : pm_look (pm_kl 113) 187 = some (.lload 7, 2) := by decide +kernel
theorem k113_189 : pm_look (pm_kl 113) 189 = some (.invokestatic 145, 3) := by decide +kernel
theorem k113_192 : pm_look (pm_kl 113) 192 = some (.invokestatic 299, 3) := by decide +kernel
theorem k113_195 : pm_look (pm_kl 113) 195 = some (.invokestatic 130, 3) := by decide +kernel
theorem k113_198 : pm_look (pm_kl 113) 198 = some (.ireturn, 1) := by decide +kernel
theorem k114_0 : pm_look (pm_kl 114) 0 = some (.aload_n 0, 1) := by decide +kernel
theorem k114_1 : pm_look (pm_kl 114) 1 = some (.getfield 10, 3) := by decide +kernel
theorem k114_4 : pm_look (pm_kl 114) 4 = some (.iload_n 1, 1) := by decide +kernel
theorem k114_5 : pm_look (pm_kl 114) 5 = some (.invokevirtual 88, 3) := by decide +kernel
theorem k114_8 : pm_look (pm_kl 114) 8 = some (.ifCond .ne 7, 3) := by decide +kernel
theorem k114_11 : pm_look (pm_kl 114) 11 = some (.sipush (-1001), 3) := by decide +kernel
theorem k114_14 : pm_look (pm_kl 114) 14 = some (.ireturn, 1) := by decide +kernel
theorem k114_15 : pm_look (pm_kl 114) 15 = some (.aload_n 0, 1) := by decide +kernel
theorem k114_16 : pm_look (pm_kl 114) 16 = some (.iload_n 2, 1) := by decide +kernel
theorem k114_17 : pm_look (pm_kl 114) 17 = some (.invokevirtual 124, 3) := by decide +kernel
theorem k114_20 : pm_look (pm_kl 114) 20 = some (.ifCond .ne 7, 3) := by decide +kernel
theorem k114_23 : pm_look (pm_kl 114) 23 = some (.sipush (-1002), 3) := by decide +kernel
theorem k114_26 : pm_look (pm_kl 114) 26 = some (.ireturn, 1) := by decide +kernel
theorem k114_27 : pm_look (pm_kl 114) 27 = some (.aload_n 0, 1) := by decide +kernel
theorem k114_28 : pm_look (pm_kl 114) 28 = some (.getfield 77, 3) := by decide +kernel
theorem k114_31 : pm_look (pm_kl 114) 31 = some (.iload_n 2, 1) := by decide +kernel
theorem k114_32 : pm_look (pm_kl 114) 32 = some (.invokevirtual 137, 3) := by decide +kernel
theorem k114_35 : pm_look (pm_kl 114) 35 = some (.aload_n 0, 1) := by decide +kernel
theorem k114_36 : pm_look (pm_kl 114) 36 = some (.iload_n 1, 1) := by decide +kernel
theorem k114_37 : pm_look (pm_kl 114) 37 = some (.iload_n 2, 1) := by decide +kernel
theorem k114_38 : pm_look (pm_kl 114) 38 = some (.invokevirtual 303, 3) := by decide +kernel
theorem k114_41 : pm_look (pm_kl 114) 41 = some (.iload_n 3, 1) := by decide +kernel
theorem k114_42 : pm_look (pm_kl 114) 42 = some (.invokestatic 282, 3) := by decide +kernel
theorem k114_45 : pm_look (pm_kl 114) 45 = some (.ireturn, 1) := by decide +kernel
theorem k115_0 : pm_look (pm_kl 115) 0 = some (.aload_n 0, 1) := by decide +kernel
theorem k115_1 : pm_look (pm_kl 115) 1 = some (.getfield 10, 3) := by decide +kernel
theorem k115_4 : pm_look (pm_kl 115) 4 = some (.iload_n 1, 1) := by decide +kernel
theorem k115_5 : pm_look (pm_kl 115) 5 = some (.invokevirtual 88, 3) := by decide +kernel
theorem k115_8 : pm_look (pm_kl 115) 8 = some (.ifCond .ne 7, 3) := by decide +kernel
theorem k115_11 : pm_look (pm_kl 115) 11 = some (.sipush (-1001), 3) := by decide +kernel
theorem k115_14 : pm_look (pm_kl 115) 14 = some (.ireturn, 1) := by decide +kernel
theorem k115_15 : pm_look (pm_kl 115) 15 = some (.aload_n 0, 1) := by decide +kernel
theorem k115_16 : pm_look (pm_kl 115) 16 = some (.iload_n 2, 1) := by decide +kernel
theorem k115_17 : pm_look (pm_kl 115) 17 = some (.invokevirtual 124, 3) := by decide +kernel
theorem k115_20 : pm_look (pm_kl 115) 20 = some (.ifCond .ne 7, 3) := by decide +kernel
theorem k115_23 : pm_look (pm_kl 115) 23 = some (.sipush (-1002), 3) := by decide +kernel
theorem k115_26 : pm_look (pm_kl 115) 26 = some (.ireturn, 1) := by decide +kernel
theorem k115_27 : pm_look (pm_kl 115) 27 = some (.aload_n 0, 1) := by decide +kernel
theorem k115_28 : pm_look (pm_kl 115) 28 = some (.getfield 77, 3) := by decide +kernel
theorem k115_31 : pm_look (pm_kl 115) 31 = some (.iload_n 2, 1) := by decide +kernel
theorem k115_32 : pm_look (pm_kl 115) 32 = some (.invokevirtual 137, 3) := by decide +kernel
theorem k115_35 : pm_look (pm_kl 115) 35 = some (.aload_n 0, 1) := by decide +kernel
theorem k115_36 : pm_look (pm_kl 115) 36 = some (.iload_n 1, 1) := by decide +kernel
theorem k115_37 : pm_look (pm_kl 115) 37 = some (.iload_n 2, 1) := by decide +kernel
theorem k115_38 : pm_look (pm_kl 115) 38 = some (.invokevirtual 303, 3) := by decide +kernel
theorem k115_41 : pm_look (pm_kl 115) 41 = some (.lstore 4, 2) := by decide +kernel
theorem k115_43 : pm_look (pm_kl 115) 43 = some (.iconst 0, 1) := by decide +kernel
theorem k115_44 : pm_look (pm_kl 115) 44 = some (.istore 6, 2) := by decide +kernel
theorem k115_46 : pm_look (pm_kl 115) 46 = some (.lload 4, 2) := by decide +kernel
theorem k115_48 : pm_look (pm_kl 115) 48 = some (.invokestatic 145, 3) := by decide +kernel
theorem k115_51 : pm_look (pm_kl 115) 51 = some (.istore 7, 2) := by decide +kernel
theorem k115_53 : pm_look (pm_kl 115) 53 = some (.iload 7, 2) := by decide +kernel
theorem k115_55 : pm_look (pm_kl 115) 55 = some (.ifCond .le 79, 3) := by decide +kernel
theorem k115_58 : pm_look (pm_kl 115) 58 = some (.iconst 0, 1) := by decide +kernel
theorem k115_59 : pm_look (pm_kl 115) 59 = some (.istore 8, 2) := by decide +kernel
theorem k115_61 : pm_look (pm_kl 115) 61 = some (.iload 8, 2) := by decide +kernel
theorem k115_63 : pm_look (pm_kl 115) 63 = some (.aload_n 0, 1) := by decide +kernel
theorem k115_64 : pm_look (pm_kl 115) 64 = some (.getfield 19, 3) := by decide +kernel
theorem k115_67 : pm_look (pm_kl 115) 67 = some (.getfield 219, 3) := by decide +kernel
theorem k115_70 : pm_look (pm_kl 115) 70 = some (.if_icmp .ge 58, 3) := by decide +kernel
theorem k115_73 : pm_look (pm_kl 115) 73 = some (.aload_n 0, 1) := by decide +kernel
theorem k115_74 : pm_look (pm_kl 115) 74 = some (.getfield 77, 3) := by decide +kernel
theorem k115_77 : pm_look (pm_kl 115) 77 = some (.iload 8, 2) := by decide +kernel
theorem k115_79 : pm_look (pm_kl 115) 79 = some (.iload_n 1, 1) := by decide +kernel
theorem k115_80 : pm_look (pm_kl 115) 80 = some (.invokevirtual 306, 3) := by decide +kernel
theorem k115_83 : pm_look (pm_kl 115) 83 = some (.ifCond .ne 39, 3) := by decide +kernel
theorem k115_86 : pm_look (pm_kl 115) 86 = some (.aload_n 0, 1) := by decide +kernel
theorem k115_87 : pm_look (pm_kl 115) 87 = some (.getfield 77, 3) := by decide +kernel
theorem k115_90 : pm_look (pm_kl 115) 90 = some (.getfield 309, 3) := by decide +kernel
theorem k115_93 : pm_look (pm_kl 115) 93 = some (.iload 8, 2) := by decide +kernel
theorem k115_95 : pm_look (pm_kl 115) 95 = some (.laload, 1) := by decide +kernel
theorem k115_96 : pm_look (pm_kl 115) 96 = some (.lload 4, 2) := by decide +kernel
theorem k115_98 : pm_look (pm_kl 115) 98 = some (.land, 1) := by decide +kernel
theorem k115_99 : pm_look (pm_kl 115) 99 = some (.invokestatic 145, 3) := by decide +kernel
theorem k115_102 : pm_look (pm_kl 115) 102 = some (.iload 7, 2) := by decide +kernel
theorem k115_104 : pm_look (pm_kl 115) 104 = some (.if_icmp .eq 6, 3) := by decide +kernel
theorem k115_107 : pm_look (pm_kl 115) 107 = some (.goto 15, 3) := by decide +kernel
theorem k115_110 : pm_look (pm_kl 115) 110 = some (.iload 6, 2) := by decide +kernel
theorem k115_112 : pm_look (pm_kl 115) 112 = some (.iload_n 3, 1) := by decide +kernel
theorem k115_113 : pm_look (pm_kl 115) 113 = some (.if_icmp .ne 6, 3) := by decide +kernel
theorem k115_116 : pm_look (pm_kl 115) 116 = some (.iload 8, 2) := by decide +kernel
theorem k115_118 : pm_look (pm_kl 115) 118 = some (.ireturn, 1) := by decide +kernel
theorem k115_119 : pm_look (pm_kl 115) 119 = some (.iinc 6 1, 3) := by decide +kernel
theorem k115_122 : pm_look (pm_kl 115) 122 = some (.iinc 8 1, 3) := by decide +kernel
theorem k115_125 : pm_look (pm_kl 115) 125 = some (.goto (-64), 3) := by decide +kernel
theorem k115_128 : pm_look (pm_kl 115) 128 = some (.iinc 7 (-1), 3) := by decide +kernel
theorem k115_131 : pm_look (pm_kl 115) 131 = some (.goto (-78), 3) := by decide +kernel
theorem k115_134 : pm_look (pm_kl 115) 134 = some (.iload_n 3, 1) := by decide +kernel
theorem k115_135 : pm_look (pm_kl 115) 135 = some (.iconst (-1), 1) := by decide +kernel
theorem k115_136 : pm_look (pm_kl 115) 136 = some (.if_icmp .ne 8, 3) := by decide +kernel
theorem k115_139 : pm_look (pm_kl 115) 139 = some (.iload 6, 2) := by decide +kernel
theorem k115_141 : pm_look (pm_kl 115) 141 = some (.goto 4, 3) := by decide +kernel
theorem k115_144 : pm_look (pm_kl 115) 144 = some (.iconst (-1), 1) := by decide +kernel
theorem k115_145 : pm_look (pm_kl 115) 145 = some (.ireturn, 1) := by decide +kernel
theorem k116_0 : pm_look (pm_kl 116) 0 = some (.aload_n 0, 1) := by decide +kernel
theorem k116_1 : pm_look (pm_kl 116) 1 = some (.getfield 19, 3) := by decide +kernel
theorem k116_4 : pm_look (pm_kl 116) 4 = some (.iload_n 1, 1) := by decide +kernel
theorem k116_5 : pm_look (pm_kl 116) 5 = some (.invokevirtual 151, 3) := by decide +kernel
theorem k116_8 : pm_look (pm_kl 116) 8 = some (.ifCond .ne 7, 3) := by decide +kernel
theorem k116_11 : pm_look (pm_kl 116) 11 = some (.ldc2_w 313, 3) := by decide +kernel
theorem k116_14 : pm_look (pm_kl 116) 14 = some (.lreturn, 1) := by decide +kernel
theorem k116_15 : pm_look (pm_kl 116) 15 = some (.aload_n 0, 1) := by decide +kernel
theorem k116_16 : pm_look (pm_kl 116) 16 = some (.iload_n 2, 1) := by decide +kernel
theorem k116_17 : pm_look (pm_kl 116) 17 = some (.invokevirtual 124, 3) := by decide +kernel
theorem k116_20 : pm_look (pm_kl 116) 20 = some (.ifCond .ne 7, 3) := by decide +kernel
theorem k116_23 : pm_look (pm_kl 116) 23 = some (.ldc2_w 315, 3) := by decide +kernel
theorem k116_26 : pm_look (pm_kl 116) 26 = some (.lreturn, 1) := by decide +kernel
theorem k116_27 : pm_look (pm_kl 116) 27 = some (.aload_n 0, 1) := by decide +kernel
theorem k116_28 : pm_look (pm_kl 116) 28 = some (.getfield 77, 3) := by decide +kernel
theorem k116_31 : pm_look (pm_kl 116) 31 = some (.iload_n 2, 1) := by decide +kernel
theorem k116_32 : pm_look (pm_kl 116) 32 = some (.invokevirtual 137, 3) := by decide +kernel
theorem k116_35 : pm_look (pm_kl 116) 35 = some (.lconst 0, 1) := by decide +kernel
theorem k116_36 : pm_look (pm_kl 116) 36 = some (.lstore_n 3, 1) := by decide +kernel
theorem k116_37 : pm_look (pm_kl 116) 37 = some (.iconst 0, 1) := by decide +kernel
theorem k116_38 : pm_look (pm_kl 116) 38 = some (.istore 5, 2) := by decide +kernel
theorem k116_40 : pm_look (pm_kl 116) 40 = some (.iload 5, 2) := by decide +kernel
theorem k116_42 : pm_look (pm_kl 116) 42 = some (.aload_n 0, 1) := by decide +kernel
theorem k116_43 : pm_look (pm_kl 116) 43 = some (.getfield 26, 3) := by decide +kernel
theorem k116_46 : pm_look (pm_kl 116) 46 = some (.getfield 208, 3) := by decide +kernel
theorem k116_49 : pm_look (pm_kl 116) 49 = some (.if_icmp .ge 81, 3) := by decide +kernel
theorem k116_52 : pm_look (pm_kl 116) 52 = some (.aload_n 0, 1) := by decide +kernel
theorem k116_53 : pm_look (pm_kl 116) 53 = some (.getfield 26, 3) := by decide +kernel
theorem k116_56 : pm_look (pm_kl 116) 56 = some (.getfield 175, 3) := by decide +kernel
theorem k116_59 : pm_look (pm_kl 116) 59 = some (.iload 5, 2) := by decide +kernel
theorem k116_61 : pm_look (pm_kl 116) 61 = some (.iaload, 1) := by decide +kernel
theorem k116_62 : pm_look (pm_kl 116) 62 = some (.istore 6, 2) := by decide +kernel
theorem k116_64 : pm_look (pm_kl 116) 64 = some (.iload 6, 2) := by decide +kernel
theorem k116_66 : pm_look (pm_kl 116) 66 = some (.iload_n 1, 1) := by decide +kernel
theorem k116_67 : pm_look (pm_kl 116) 67 = some (.if_icmp .eq 57, 3) := by decide +kernel
theorem k116_70 : pm_look (pm_kl 116) 70 = some (.aload_n 0, 1) := by decide +kernel
theorem k116_71 : pm_look (pm_kl 116) 71 = some (.getfield 19, 3) := by decide +kernel
theorem k116_74 : pm_look (pm_kl 116) 74 = some (.getfield 317, 3) := by decide +kernel
theorem k116_77 : pm_look (pm_kl 116) 77 = some (.iload 6, 2) := by decide +kernel
theorem k116_79 : pm_look (pm_kl 116) 79 = some (.iaload, 1) := by decide +kernel
theorem k116_80 : pm_look (pm_kl 116) 80 = some (.aload_n 0, 1) := by decide +kernel
theorem k116_81 : pm_look (pm_kl 116) 81 = some (.getfield 19, 3) := by decide +kernel
theorem k116_84 : pm_look (pm_kl 116) 84 = some (.getfield 317, 3) := by decide +kernel
theorem k116_87 : pm_look (pm_kl 116) 87 = some (.iload_n 1, 1) := by decide +kernel
theorem k116_88 : pm_look (pm_kl 116) 88 = some (.iaload, 1) := by decide +kernel
theorem k116_89 : pm_look (pm_kl 116) 89 = some (.if_icmp .eq 6, 3) := by decide +kernel
theorem k116_92 : pm_look (pm_kl 116) 92 = some (.goto 32, 3) := by decide +kernel
theorem k116_95 : pm_look (pm_kl 116) 95 = some (.aload_n 0, 1) := by decide +kernel
theorem k116_96 : pm_look (pm_kl 116) 96 = some (.getfield 77, 3) := by decide +kernel
theorem k116_99 : pm_look (pm_kl 116) 99 = some (.getfield 193, 3) := by decide +kernel
theorem k116_102 : pm_look (pm_kl 116) 102 = some (.iload 5, 2) := by decide +kernel
theorem k116_104 : pm_look (pm_kl 116) 104 = some (.iaload, 1) := by decide +kernel
theorem k116_105 : pm_look (pm_kl 116) 105 = some (.iconst (-1), 1) := by decide +kernel
theorem k116_106 : pm_look (pm_kl 116) 106 = some (.if_icmp .eq 18, 3) := by decide +kernel
theorem k116_109 : pm_look (pm_kl 116) 109 = some (.lload_n 3, 1) := by decide +kernel
theorem k116_110 : pm_look (pm_kl 116) 110 = some (.lconst 1, 1) := by decide +kernel
theorem k116_111 : pm_look (pm_kl 116) 111 = some (.aload_n 0, 1) := by decide +kernel
theorem k116_112 : pm_look (pm_kl 116) 112 = some (.getfield 77, 3) := by decide +kernel
theorem k116_115 : pm_look (pm_kl 116) 115 = some (.getfield 193, 3) := by decide +kernel
theorem k116_118 : pm_look (pm_kl 116) 118 = some (.iload 5, 2) := by decide +kernel
theorem k116_120 : pm_look (pm_kl 116) 120 = some (.iaload, 1) := by decide +kernel
theorem k116_121 : pm_look (pm_kl 116) 121 = some (.lshl, 1) := by decide +kernel
theorem k116_122 : pm_look (pm_kl 116) 122 = some (.lor, 1) := by decide +kernel
theorem k116_123 : pm_look (pm_kl 116) 123 = some (.lstore_n 3, 1) := by decide +kernel
theorem k116_124 : pm_look (pm_kl 116) 124 = some (.iinc 5 1, 3) := by decide +kernel
theorem k116_127 : pm_look (pm_kl 116) 127 = some (.goto (-87), 3) := by decide +kernel
theorem k116_130 : pm_look (pm_kl 116) 130 = some (.lload_n 3, 1) := by decide +kernel
theorem k116_131 : pm_look (pm_kl 116) 131 = some (.aload_n 0, 1) := by decide +kernel
theorem k116_132 : pm_look (pm_kl 116) 132 = some (.getfield 77, 3) := by decide +kernel
theorem k116_135 : pm_look (pm_kl 116) 135 = some (.getfield 309, 3) := by decide +kernel
theorem k116_138 : pm_look (pm_kl 116) 138 = some (.iload_n 1, 1) := by decide +kernel
theorem k116_139 : pm_look (pm_kl 116) 139 = some (.laload, 1) := by decide +kernel
theorem k116_140 : pm_look (pm_kl 116) 140 = some (.ldc2_w 320, 3) := by decide +kernel
theorem k116_143 : pm_look (pm_kl 116) 143 = some (.lxor, 1) := by decide +kernel
theorem k116_144 : pm_look (pm_kl 116) 144 = some (.land, 1) := by decide +kernel
theorem k116_145 : pm_look (pm_kl 116) 145 = some (.lreturn, 1) := by decide +kernel
theorem k117_0 : pm_look (pm_kl 117) 0 = some (.aload_n 0, 1) := by decide +kernel
theorem k117_1 : pm_look (pm_kl 117) 1 = some (.getfield 68, 3) := by decide +kernel
theorem k117_4 : pm_look (pm_kl 117) 4 = some (.invokevirtual 322, 3) := by decide +kernel
theorem k117_7 : pm_look (pm_kl 117) 7 = some (.ireturn, 1) := by decide +kernel
theorem k118_0 : pm_look (pm_kl 118) 0 = some (.aload_n 0, 1) := by decide +kernel
theorem k118_1 : pm_look (pm_kl 118) 1 = some (.getfield 68, 3) := by decide +kernel
theorem k118_4 : pm_look (pm_kl 118) 4 = some (.iload_n 1, 1) := by decide +kernel
theorem k118_5 : pm_look (pm_kl 118) 5 = some (.invokevirtual 324, 3) := by decide +kernel
theorem k118_8 : pm_look (pm_kl 118) 8 = some (.ifCond .eq 14, 3) := by decide +kernel
theorem k118_11 : pm_look (pm_kl 118) 11 = some (.aload_n 0, 1) := by decide +kernel
theorem k118_12 : pm_look (pm_kl 118) 12 = some (.getfield 10, 3) := by decide +kernel
theorem k118_15 : pm_look (pm_kl 118) 15 = some (.iload_n 3, 1) := by decide +kernel
theorem k118_16 : pm_look (pm_kl 118) 16 = some (.invokevirtual 88, 3) := by decide +kernel
theorem k118_19 : pm_look (pm_kl 118) 19 = some (.ifCond .ne 7, 3) := by decide +kernel
theorem k118_22 : pm_look (pm_kl 118) 22 = some (.sipush (-1001), 3) := by decide +kernel
theorem k118_25 : pm_look (pm_kl 118) 25 = some (.ireturn, 1) := by decide +kernel
theorem k118_26 : pm_look (pm_kl 118) 26 = some (.iload_n 2, 1) := by decide +kernel
theorem k118_27 : pm_look (pm_kl 118) 27 = some (.iconst 0, 1) := by decide +kernel
theorem k118_28 : pm_look (pm_kl 118) 28 = some (.aload_n 0, 1) := by decide +kernel
theorem k118_29 : pm_look (pm_kl 118) 29 = some (.getfield 68, 3) := by decide +kernel
theorem k118_32 : pm_look (pm_kl 118) 32 = some (.getfield 325, 3) := by decide +kernel
theorem k118_35 : pm_look (pm_kl 118) 35 = some (.iload_n 1, 1) := by decide +kernel
theorem k118_36 : pm_look (pm_kl 118) 36 = some (.iaload, 1) := by decide +kernel
theorem k118_37 : pm_look (pm_kl 118) 37 = some (.invokestatic 127, 3) := by decide +kernel
theorem k118_40 : pm_look (pm_kl 118) 40 = some (.ifCond .ne 7, 3) := by decide +kernel
theorem k118_43 : pm_look (pm_kl 118) 43 = some (.sipush (-1002), 3) := by decide +kernel
theorem k118_46 : pm_look (pm_kl 118) 46 = some (.ireturn, 1) := by decide +kernel
theorem k118_47 : pm_look (pm_kl 118) 47 = some (.aload_n 0, 1) := by decide +kernel
theorem k118_48 : pm_look (pm_kl 118) 48 = some (.getfield 68, 3) := by decide +kernel
theorem k118_51 : pm_look (pm_kl 118) 51 = some (.iload_n 1, 1) := by decide +kernel
theorem k118_52 : pm_look (pm_kl 118) 52 = some (.iload_n 2, 1) := by decide +kernel
theorem k118_53 : pm_look (pm_kl 118) 53 = some (.iload_n 3, 1) := by decide +kernel
theorem k118_54 : pm_look (pm_kl 118) 54 = some (.invokevirtual 328, 3) := by decide +kernel
theorem k118_57 : pm_look (pm_kl 118) 57 = some (.ireturn, 1) := by decide +kernel
theorem k119_0 : pm_look (pm_kl 119) 0 = some (.aload_n 0, 1) := by decide +kernel
theorem k119_1 : pm_look (pm_kl 119) 1 = some (.getfield 19, 3) := by decide +kernel
theorem k119_4 : pm_look (pm_kl 119) 4 = some (.iload_n 1, 1) := by decide +kernel
theorem k119_5 : pm_look (pm_kl 119) 5 = some (.invokevirtual 151, 3) := by decide +kernel
theorem k119_8 : pm_look (pm_kl 119) 8 = some (.ifCond .eq 14, 3) := by decide +kernel
theorem k119_11 : pm_look (pm_kl 119) 11 = some (.aload_n 0, 1) := by decide +kernel
theorem k119_12 : pm_look (pm_kl 119) 12 = some (.getfield 68, 3) := by decide +kernel
theorem k119_15 : pm_look (pm_kl 119) 15 = some (.iload_n 2, 1) := by decide +kernel
theorem k119_16 : pm_look (pm_kl 119) 16 = some (.invokevirtual 324, 3) := by decide +kernel
theorem k119_19 : pm_look (pm_kl 119) 19 = some (.ifCond .ne 7, 3) := by decide +kernel
theorem k119_22 : pm_look (pm_kl 119) 22 = some (.sipush (-1001), 3) := by decide +kernel
theorem k119_25 : pm_look (pm_kl 119) 25 = some (.ireturn, 1) := by decide +kernel
theorem k119_26 : pm_look (pm_kl 119) 26 = some (.aload_n 0, 1) := by decide +kernel
theorem k119_27 : pm_look (pm_kl 119) 27 = some (.iload_n 3, 1) := by decide +kernel
theorem k119_28 : pm_look (pm_kl 119) 28 = some (.invokevirtual 124, 3) := by decide +kernel
theorem k119_31 : pm_look (pm_kl 119) 31 = some (.ifCond .eq 13, 3) := by decide +kernel
theorem k119_34 : pm_look (pm_kl 119) 34 = some (.iload 4, 2) := by decide +kernel
theorem k119_36 : pm_look (pm_kl 119) 36 = some (.iconst 0, 1) := by decide +kernel
theorem k119_37 : pm_look (pm_kl 119) 37 = some (.iconst 2, 1) := by decide +kernel
theorem k119_38 : pm_look (pm_kl 119) 38 = some (.invokestatic 127, 3) := by decide +kernel
theorem k119_41 : pm_look (pm_kl 119) 41 = some (.ifCond .ne 7, 3) := by decide +kernel
theorem k119_44 : pm_look (pm_kl 119) 44 = some (.sipush (-1002), 3) := by decide +kernel
theorem k119_47 : pm_look (pm_kl 119) 47 = some (.ireturn, 1) := by decide +kernel
theorem k119_48 : pm_look (pm_kl 119) 48 = some (.aload_n 0, 1) := by decide +kernel
theorem k119_49 : pm_look (pm_kl 119) 49 = some (.getfield 77, 3) := by decide +kernel
theorem k119_52 : pm_look (pm_kl 119) 52 = some (.iload_n 3, 1) := by decide +kernel
theorem k119_53 : pm_look (pm_kl 119) 53 = some (.invokevirtual 137, 3) := by decide +kernel
theorem k119_56 : pm_look (pm_kl 119) 56 = some (.iconst 0, 1) := by decide +kernel
theorem k119_57 : pm_look (pm_kl 119) 57 = some (.istore 5, 2) := by decide +kernel
theorem k119_59 : pm_look (pm_kl 119) 59 = some (.iconst (-1), 1) := by decide +kernel
theorem k119_60 : pm_look (pm_kl 119) 60 = some (.istore 6, 2) := by decide +kernel
theorem k119_62 : pm_look (pm_kl 119) 62 = some (.aload_n 0, 1) := by decide +kernel
theorem k119_63 : pm_look (pm_kl 119) 63 = some (.getfield 68, 3) := by decide +kernel
theorem k119_66 : pm_look (pm_kl 119) 66 = some (.getfield 325, 3) := by decide +kernel
theorem k119_69 : pm_look (pm_kl 119) 69 = some (.iload_n 2, 1) := by decide +kernel
theorem k119_70 : pm_look (pm_kl 119) 70 = some (.iaload, 1) := by decide +kernel
theorem k119_71 : pm_look (pm_kl 119) 71 = some (.iconst 1, 1) := by decide +kernel
theorem k119_72 : pm_look (pm_kl 119) 72 = some (.isub, 1) := by decide +kernel
theorem k119_73 : pm_look (pm_kl 119) 73 = some (.istore 7, 2) := by decide +kernel
theorem k119_75 : pm_look (pm_kl 119) 75 = some (.iload 7, 2) := by decide +kernel
theorem k119_77 : pm_look (pm_kl 119) 77 = some (.ifCond .lt 50, 3) := by decide +kernel
theorem k119_80 : pm_look (pm_kl 119) 80 = some (.aload_n 0, 1) := by decide +kernel
theorem k119_81 : pm_look (pm_kl 119) 81 = some (.getfield 68, 3) := by decide +kernel
theorem k119_84 : pm_look (pm_kl 119) 84 = some (.getfield 331, 3) := by decide +kernel
theorem k119_87 : pm_look (pm_kl 119) 87 = some (.iload_n 2, 1) := by decide +kernel
theorem k119_88 : pm_look (pm_kl 119) 88 = some (.aaload, 1) := by decide +kernel
theorem k119_89 : pm_look (pm_kl 119) 89 = some (.iload 7, 2) := by decide +kernel
theorem k119_91 : pm_look (pm_kl 119) 91 = some (.laload, 1) := by decide +kernel
theorem k119_92 : pm_look (pm_kl 119) 92 = some (.aload_n 0, 1) := by decide +kernel
theorem k119_93 : pm_look (pm_kl 119) 93 = some (.getfield 77, 3) := by decide +kernel
theorem k119_96 : pm_look (pm_kl 119) 96 = some (.getfield 309, 3) := by decide +kernel
theorem k119_99 : pm_look (pm_kl 119) 99 = some (.iload_n 1, 1) := by decide +kernel
theorem k119_100 : pm_look (pm_kl 119) 100 = some (.laload, 1) := by decide +kernel
theorem k119_101 : pm_look (pm_kl 119) 101 = some (.ldc2_w 320, 3) := by decide +kernel
theorem k119_104 : pm_look (pm_kl 119) 104 = some (.lxor, 1) := by decide +kernel
theorem k119_105 : pm_look (pm_kl 119) 105 = some (.land, 1) := by decide +kernel
theorem k119_106 : pm_look (pm_kl 119) 106 = some (.lconst 0, 1) := by decide +kernel
theorem k119_107 : pm_look (pm_kl 119) 107 = some (.lcmp, 1) := by decide +kernel
theorem k119_108 : pm_look (pm_kl 119) 108 = some (.ifCond .eq 6, 3) := by decide +kernel
theorem k119_111 : pm_look (pm_kl 119) 111 = some (.goto 10, 3) := by decide +kernel
theorem k119_114 : pm_look (pm_kl 119) 114 = some (.iinc 5 1, 3) := by decide +kernel
theorem k119_117 : pm_look (pm_kl 119) 117 = some (.iload 7, 2) := by decide +kernel
theorem k119_119 : pm_look (pm_kl 119) 119 = some (.istore 6, 2) := by decide +kernel
theorem k119_121 : pm_look (pm_kl 119) 121 = some (.iinc 7 (-1), 3) := by decide +kernel
theorem k119_124 : pm_look (pm_kl 119) 124 = some (.goto (-49), 3) := by decide +kernel
theorem k119_127 : pm_look (pm_kl 119) 127 = some (.iload 4, 2) := by decide +kernel
theorem k119_129 : pm_look (pm_kl 119) 129 = some (.lookupswitch 33 #[(0, 27), (1, 30)], 27) := by decide +kernel
theorem k119_156 : pm_look (pm_kl 119) 156 = some (.iload 5, 2) := by decide +kernel
theorem k119_158 : pm_look (pm_kl 119) 158 = some (.ireturn, 1) := by decide +kernel
theorem k119_159 : pm_look (pm_kl 119) 159 = some (.iload 6, 2) := by decide +kernel
theorem k119_161 : pm_look (pm_kl 119) 161 = some (.ireturn, 1) := by decide +kernel
theorem k119_162 : pm_look (pm_kl 119) 162 = some (.iload 5, 2) := by decide +kernel
theorem k119_164 : pm_look (pm_kl 119) 164 = some (.iconst 1, 1) := by decide +kernel
theorem k119_165 : pm_look (pm_kl 119) 165 = some (.if_icmp .ne 7, 3) := by decide +kernel
theorem k119_168 : pm_look (pm_kl 119) 168 = some (.iconst 1, 1) := by decide +kernel
theorem k119_169 : pm_look (pm_kl 119) 169 = some (.goto 4, 3) := by decide +kernel
theorem k119_172 : pm_look (pm_kl 119) 172 = some (.iconst 0, 1) := by decide +kernel
theorem k119_173 : pm_look (pm_kl 119) 173 = some (.invokestatic 130, 3) := by decide +kernel
theorem k119_176 : pm_look (pm_kl 119) 176 = some (.ireturn, 1) := by decide +kernel
theorem k120_0 : pm_look (pm_kl 120) 0 = some (.aload_n 0, 1) := by decide +kernel
theorem k120_1 : pm_look (pm_kl 120) 1 = some (.getfield 10, 3) := by decide +kernel
theorem k120_4 : pm_look (pm_kl 120) 4 = some (.iload_n 1, 1) := by decide +kernel
theorem k120_5 : pm_look (pm_kl 120) 5 = some (.invokevirtual 88, 3) := by decide +kernel
theorem k120_8 : pm_look (pm_kl 120) 8 = some (.ifCond .ne 7, 3) := by decide +kernel
theorem k120_11 : pm_look (pm_kl 120) 11 = some (.sipush (-1001), 3) := by decide +kernel
theorem k120_14 : pm_look (pm_kl 120) 14 = some (.ireturn, 1) := by decide +kernel
theorem k120_15 : pm_look (pm_kl 120) 15 = some (.aload_n 0, 1) := by decide +kernel
theorem k120_16 : pm_look (pm_kl 120) 16 = some (.iload_n 2, 1) := by decide +kernel
theorem k120_17 : pm_look (pm_kl 120) 17 = some (.invokevirtual 124, 3) := by decide +kernel
theorem k120_20 : pm_look (pm_kl 120) 20 = some (.ifCond .eq 12, 3) := by decide +kernel
theorem k120_23 : pm_look (pm_kl 120) 23 = some (.iload_n 3, 1) := by decide +kernel
theorem k120_24 : pm_look (pm_kl 120) 24 = some (.iconst 0, 1) := by decide +kernel
theorem k120_25 : pm_look (pm_kl 120) 25 = some (.iconst 1, 1) := by decide +kernel
theorem k120_26 : pm_look (pm_kl 120) 26 = some (.invokestatic 127, 3) := by decide +kernel
theorem k120_29 : pm_look (pm_kl 120) 29 = some (.ifCond .ne 7, 3) := by decide +kernel
theorem k120_32 : pm_look (pm_kl 120) 32 = some (.sipush (-1002), 3) := by decide +kernel
theorem k120_35 : pm_look (pm_kl 120) 35 = some (.ireturn, 1) := by decide +kernel
theorem k120_36 : pm_look (pm_kl 120) 36 = some (.aload_n 0, 1) := by decide +kernel
theorem k120_37 : pm_look (pm_kl 120) 37 = some (.getfield 77, 3) := by decide +kernel
theorem k120_40 : pm_look (pm_kl 120) 40 = some (.iload_n 2, 1) := by decide +kernel
theorem k120_41 : pm_look (pm_kl 120) 41 = some (.invokevirtual 137, 3) := by decide +kernel
theorem k120_44 : pm_look (pm_kl 120) 44 = some (.aload_n 0, 1) := by decide +kernel
theorem k120_45 : pm_look (pm_kl 120) 45 = some (.getfield 77, 3) := by decide +kernel
theorem k120_48 : pm_look (pm_kl 120) 48 = some (.iload_n 1, 1) := by decide +kernel
theorem k120_49 : pm_look (pm_kl 120) 49 = some (.invokevirtual 141, 3) := by decide +kernel
theorem k120_52 : pm_look (pm_kl 120) 52 = some (.lstore 4, 2) := by decide +kernel
theorem k120_54 : pm_look (pm_kl 120) 54 = some (.iconst (-1), 1) := by decide +kernel
theorem k120_55 : pm_look (pm_kl 120) 55 = some (.istore 6, 2) := by decide +kernel
theorem k120_57 : pm_look (pm_kl 120) 57 = some (.iconst (-1), 1) := by decide +kernel
theorem k120_58 : pm_look (pm_kl 120) 58 = some (.istore 7, 2) := by decide +kernel
theorem k120_60 : pm_look (pm_kl 120) 60 = some (.iconst 0, 1) := by decide +kernel
theorem k120_61 : pm_look (pm_kl 120) 61 = some (.istore 8, 2) := by decide +kernel
theorem k120_63 : pm_look (pm_kl 120) 63 = some (.iload 8, 2) := by decide +kernel
theorem k120_65 : pm_look (pm_kl 120) 65 = some (.aload_n 0, 1) := by decide +kernel
theorem k120_66 : pm_look (pm_kl 120) 66 = some (.getfield 10, 3) := by decide +kernel
theorem k120_69 : pm_look (pm_kl 120) 69 = some (.getfield 214, 3) := by decide +kernel
theorem k120_72 : pm_look (pm_kl 120) 72 = some (.if_icmp .ge 76, 3) := by decide +kernel
theorem k120_75 : pm_look (pm_kl 120) 75 = some (.aload_n 0, 1) := by decide +kernel
theorem k120_76 : pm_look (pm_kl 120) 76 = some (.iload 8, 2) := by decide +kernel
theorem k120_78 : pm_look (pm_kl 120) 78 = some (.iload_n 1, 1) := by decide +kernel
theorem k120_79 : pm_look (pm_kl 120) 79 = some (.iload_n 2, 1) := by decide +kernel
theorem k120_80 : pm_look (pm_kl 120) 80 = some (.invokevirtual 335, 3) := by decide +kernel
theorem k120_83 : pm_look (pm_kl 120) 83 = some (.ifCond .ne 6, 3) := by decide +kernel
theorem k120_86 : pm_look (pm_kl 120) 86 = some (.goto 56, 3) := by decide +kernel
theorem k120_89 : pm_look (pm_kl 120) 89 = some (.lload 4, 2) := by decide +kernel
theorem k120_91 : pm_look (pm_kl 120) 91 = some (.aload_n 0, 1) := by decide +kernel
theorem k120_92 : pm_look (pm_kl 120) 92 = some (.getfield 77, 3) := by decide +kernel
theorem k120_95 : pm_look (pm_kl 120) 95 = some (.iload 8, 2) := by decide +kernel
theorem k120_97 : pm_look (pm_kl 120) 97 = some (.invokevirtual 141, 3) := by decide +kernel
theorem k120_100 : pm_look (pm_kl 120) 100 = some (.land, 1) := by decide +kernel
theorem k120_101 : pm_look (pm_kl 120) 101 = some (.invokestatic 145, 3) := by decide +kernel
theorem k120_104 : pm_look (pm_kl 120) 104 = some (.istore 9, 2) := by decide +kernel
theorem k120_106 : pm_look (pm_kl 120) 106 = some (.iload 9, 2) := by decide +kernel
theorem k120_108 : pm_look (pm_kl 120) 108 = some (.lload 4, 2) := by decide +kernel
theorem k120_110 : pm_look (pm_kl 120) 110 = some (.invokestatic 145, 3) := by decide +kernel
theorem k120_113 : pm_look (pm_kl 120) 113 = some (.iload 9, 2) := by decide +kernel
theorem k120_115 : pm_look (pm_kl 120) 115 = some (.isub, 1) := by decide +kernel
theorem k120_116 : pm_look (pm_kl 120) 116 = some (.invokestatic 338, 3) := by decide +kernel
theorem k120_119 : pm_look (pm_kl 120) 119 = some (.istore 10, 2) := by decide +kernel
theorem k120_121 : pm_look (pm_kl 120) 121 = some (.iload 6, 2) := by decide +kernel
theorem k120_123 : pm_look (pm_kl 120) 123 = some (.iconst (-1), 1) := by decide +kernel
theorem k120_124 : pm_look (pm_kl 120) 124 = some (.if_icmp .eq 10, 3) := by decide +kernel
theorem k120_127 : pm_look (pm_kl 120) 127 = some (.iload 10, 2) := by decide +kernel
theorem k120_129 : pm_look (pm_kl 120) 129 = some (.iload 7, 2) := by decide +kernel
theorem k120_131 : pm_look (pm_kl 120) 131 = some (.if_icmp .ge 11, 3) := by decide +kernel
theorem k120_134 : pm_look (pm_kl 120) 134 = some (.iload 8, 2) := by decide +kernel
theorem k120_136 : pm_look (pm_kl 120) 136 = some (.istore 6, 2) := by decide +kernel
theorem k120_138 : pm_look (pm_kl 120) 138 = some (.iload 10, 2) := by decide +kernel
theorem k120_140 : pm_look (pm_kl 120) 140 = some (.istore 7, 2) := by decide +kernel
theorem k120_142 : pm_look (pm_kl 120) 142 = some (.iinc 8 1, 3) := by decide +kernel
theorem k120_145 : pm_look (pm_kl 120) 145 = some (.goto (-82), 3) := by decide +kernel
theorem k120_148 : pm_look (pm_kl 120) 148 = some (.iload_n 3, 1) := by decide +kernel
theorem k120_149 : pm_look (pm_kl 120) 149 = some (.ifCond .ne 8, 3) := by decide +kernel
theorem k120_152 : pm_look (pm_kl 120) 152 = some (.iload 6, 2) := by decide +kernel
theorem k120_154 : pm_look (pm_kl 120) 154 = some (.goto 5, 3) := by decide +kernel
theorem k120_157 : pm_look (pm_kl 120) 157 = some (.iload 7, 2) := by decide +kernel
theorem k120_159 : pm_look (pm_kl 120) 159 = some (.ireturn, 1) := by decide +kernel
theorem k121_0 : pm_look (pm_kl 121) 0 = some (.iload_n 0, 1) := by decide +kernel
theorem k121_1 : pm_look (pm_kl 121) 1 = some (.iload_n 1, 1) := by decide +kernel
theorem k121_2 : pm_look (pm_kl 121) 2 = some (.if_icmp .lt 12, 3) := by decide +kernel
theorem k121_5 : pm_look (pm_kl 121) 5 = some (.iload_n 0, 1) := by decide +kernel
theorem k121_6 : pm_look (pm_kl 121) 6 = some (.iload_n 2, 1) := by decide +kernel
theorem k121_7 : pm_look (pm_kl 121) 7 = some (.if_icmp .gt 7, 3) := by decide +kernel
theorem k121_10 : pm_look (pm_kl 121) 10 = some (.iconst 1, 1) := by decide +kernel
theorem k121_11 : pm_look (pm_kl 121) 11 = some (.goto 4, 3) := by decide +kernel
theorem k121_14 : pm_look (pm_kl 121) 14 = some (.iconst 0, 1) := by decide +kernel
theorem k121_15 : pm_look (pm_kl 121) 15 = some (.ireturn, 1) := by decide +kernel
theorem k122_0 : pm_look (pm_kl 122) 0 = some (.iload_n 0, 1) := by decide +kernel
theorem k122_1 : pm_look (pm_kl 122) 1 = some (.iconst 0, 1) := by decide +kernel
theorem k122_2 : pm_look (pm_kl 122) 2 = some (.sipush 999, 3) := by decide +kernel
theorem k122_5 : pm_look (pm_kl 122) 5 = some (.invokestatic 127, 3) := by decide +kernel
theorem k122_8 : pm_look (pm_kl 122) 8 = some (.ireturn, 1) := by decide +kernel
theorem k123_0 : pm_look (pm_kl 123) 0 = some (.iload_n 0, 1) := by decide +kernel
theorem k123_1 : pm_look (pm_kl 123) 1 = some (.iconst 0, 1) := by decide +kernel
theorem k123_2 : pm_look (pm_kl 123) 2 = some (.bipush 7, 2) := by decide +kernel
theorem k123_4 : pm_look (pm_kl 123) 4 = some (.invokestatic 127, 3) := by decide +kernel
theorem k123_7 : pm_look (pm_kl 123) 7 = some (.ireturn, 1) := by decide +kernel
theorem k124_0 : pm_look (pm_kl 124) 0 = some (.iload_n 0, 1) := by decide +kernel
theorem k124_1 : pm_look (pm_kl 124) 1 = some (.iconst 0, 1) := by decide +kernel
theorem k124_2 : pm_look (pm_kl 124) 2 = some (.iconst 3, 1) := by decide +kernel
theorem k124_3 : pm_look (pm_kl 124) 3 = some (.invokestatic 127, 3) := by decide +kernel
theorem k124_6 : pm_look (pm_kl 124) 6 = some (.ifCond .eq 17, 3) := by decide +kernel
theorem k124_9 : pm_look (pm_kl 124) 9 = some (.iload_n 1, 1) := by decide +kernel
theorem k124_10 : pm_look (pm_kl 124) 10 = some (.iconst 0, 1) := by decide +kernel
theorem k124_11 : pm_look (pm_kl 124) 11 = some (.bipush 99, 2) := by decide +kernel
theorem k124_13 : pm_look (pm_kl 124) 13 = some (.invokestatic 127, 3) := by decide +kernel
theorem k124_16 : pm_look (pm_kl 124) 16 = some (.ifCond .eq 7, 3) := by decide +kernel
theorem k124_19 : pm_look (pm_kl 124) 19 = some (.iconst 1, 1) := by decide +kernel
theorem k124_20 : pm_look (pm_kl 124) 20 = some (.goto 4, 3) := by decide +kernel
theorem k124_23 : pm_look (pm_kl 124) 23 = some (.iconst 0, 1) := by decide +kernel
theorem k124_24 : pm_look (pm_kl 124) 24 = some (.ireturn, 1) := by decide +kernel
theorem k125_0 : pm_look (pm_kl 125) 0 = some (.iload_n 1, 1) := by decide +kernel
theorem k125_1 : pm_look (pm_kl 125) 1 = some (.iconst 0, 1) := by decide +kernel
theorem k125_2 : pm_look (pm_kl 125) 2 = some (.aload_n 0, 1) := by decide +kernel
theorem k125_3 : pm_look (pm_kl 125) 3 = some (.getfield 81, 3) := by decide +kernel
theorem k125_6 : pm_look (pm_kl 125) 6 = some (.invokestatic 127, 3) := by decide +kernel
theorem k125_9 : pm_look (pm_kl 125) 9 = some (.ireturn, 1) := by decide +kernel
theorem k126_0 : pm_look (pm_kl 126) 0 = some (.iload_n 0, 1) := by decide +kernel
theorem k126_1 : pm_look (pm_kl 126) 1 = some (.ifCond .eq 7, 3) := by decide +kernel
theorem k126_4 : pm_look (pm_kl 126) 4 = some (.iconst 1, 1) := by decide +kernel
theorem k126_5 : pm_look (pm_kl 126) 5 = some (.goto 4, 3) := by decide +kernel
theorem k126_8 : pm_look (pm_kl 126) 8 = some (.iconst 0, 1) := by decide +kernel
theorem k126_9 : pm_look (pm_kl 126) 9 = some (.ireturn, 1) := by decide +kernel
theorem k127_0 : pm_look (pm_kl 127) 0 = some (.iload_n 2, 1) := by decide +kernel
theorem k127_1 : pm_look (pm_kl 127) 1 = some (.iconst (-1), 1) := by decide +kernel
theorem k127_2 : pm_look (pm_kl 127) 2 = some (.if_icmp .ne 8, 3) := by decide +kernel
theorem k127_5 : pm_look (pm_kl 127) 5 = some (.lload_n 0, 1) := by decide +kernel
theorem k127_6 : pm_look (pm_kl 127) 6 = some (.invokestatic 145, 3) := by decide +kernel
theorem k127_9 : pm_look (pm_kl 127) 9 = some (.ireturn, 1) := by decide +kernel
theorem k127_10 : pm_look (pm_kl 127) 10 = some (.iconst 0, 1) := by decide +kernel
theorem k127_11 : pm_look (pm_kl 127) 11 = some (.istore_n 3, 1) := by decide +kernel
theorem k127_12 : pm_look (pm_kl 127) 12 = some (.iconst 0, 1) := by decide +kernel
theorem k127_13 : pm_look (pm_kl 127) 13 = some (.istore 4, 2) := by decide +kernel
theorem k127_15 : pm_look (pm_kl 127) 15 = some (.iload 4, 2) := by decide +kernel
theorem k127_17 : pm_look (pm_kl 127) 17 = some (.bipush 40, 2) := by decide +kernel
theorem k127_19 : pm_look (pm_kl 127) 19 = some (.if_icmp .ge 34, 3) := by decide +kernel
theorem k127_22 : pm_look (pm_kl 127) 22 = some (.lload_n 0, 1) := by decide +kernel
theorem k127_23 : pm_look (pm_kl 127) 23 = some (.iload 4, 2) := by decide +kernel
theorem k127_25 : pm_look (pm_kl 127) 25 = some (.lushr, 1) := by decide +kernel
theorem k127_26 : pm_look (pm_kl 127) 26 = some (.lconst 1, 1) := by decide +kernel
theorem k127_27 : pm_look (pm_kl 127) 27 = some (.land, 1) := by decide +kernel
theorem k127_28 : pm_look (pm_kl 127) 28 = some (.lconst 0, 1) := by decide +kernel
theorem k127_29 : pm_look (pm_kl 127) 29 = some (.lcmp, 1) := by decide +kernel
theorem k127_30 : pm_look (pm_kl 127) 30 = some (.ifCond .ne 6, 3) := by decide +kernel
theorem k127_33 : pm_look (pm_kl 127) 33 = some (.goto 14, 3) := by decide +kernel
theorem k127_36 : pm_look (pm_kl 127) 36 = some (.iload_n 3, 1) := by decide +kernel
theorem k127_37 : pm_look (pm_kl 127) 37 = some (.iload_n 2, 1) := by decide +kernel
theorem k127_38 : pm_look (pm_kl 127) 38 = some (.if_icmp .ne 6, 3) := by decide +kernel
theorem k127_41 : pm_look (pm_kl 127) 41 = some (.iload 4, 2) := by decide +kernel
theorem k127_43 : pm_look (pm_kl 127) 43 = some (.ireturn, 1) := by decide +kernel
theorem k127_44 : pm_look (pm_kl 127) 44 = some (.iinc 3 1, 3) := by decide +kernel
theorem k127_47 : pm_look (pm_kl 127) 47 = some (.iinc 4 1, 3) := by decide +kernel
theorem k127_50 : pm_look (pm_kl 127) 50 = some (.goto (-35), 3) := by decide +kernel
theorem k127_53 : pm_look (pm_kl 127) 53 = some (.iconst (-1), 1) := by decide +kernel
theorem k127_54 : pm_look (pm_kl 127) 54 = some (.ireturn, 1) := by decide +kernel
theorem k128_0 : pm_look (pm_kl 128) 0 = some (.aload_n 0, 1) := by decide +kernel
theorem k128_1 : pm_look (pm_kl 128) 1 = some (.getfield 33, 3) := by decide +kernel
theorem k128_4 : pm_look (pm_kl 128) 4 = some (.getfield 341, 3) := by decide +kernel
theorem k128_7 : pm_look (pm_kl 128) 7 = some (.ifCond .ne 7, 3) := by decide +kernel
theorem k128_10 : pm_look (pm_kl 128) 10 = some (.iconst 1, 1) := by decide +kernel
theorem k128_11 : pm_look (pm_kl 128) 11 = some (.goto 4, 3) := by decide +kernel
theorem k128_14 : pm_look (pm_kl 128) 14 = some (.iconst 0, 1) := by decide +kernel
theorem k128_15 : pm_look (pm_kl 128) 15 = some (.istore_n 2, 1) := by decide +kernel
theorem k128_16 : pm_look (pm_kl 128) 16 = some (.aload_n 0, 1) := by decide +kernel
theorem k128_17 : pm_look (pm_kl 128) 17 = some (.iload_n 2, 1) := by decide +kernel
theorem k128_18 : pm_look (pm_kl 128) 18 = some (.ifCond .eq 7, 3) := by decide +kernel
theorem k128_21 : pm_look (pm_kl 128) 21 = some (.iconst (-1), 1) := by decide +kernel
theorem k128_22 : pm_look (pm_kl 128) 22 = some (.goto 10, 3) := by decide +kernel
theorem k128_25 : pm_look (pm_kl 128) 25 = some (.aload_n 0, 1) := by decide +kernel
theorem k128_26 : pm_look (pm_kl 128) 26 = some (.getfield 33, 3) := by decide +kernel
theorem k128_29 : pm_look (pm_kl 128) 29 = some (.getfield 344, 3) := by decide +kernel
theorem k128_32 : pm_look (pm_kl 128) 32 = some (.putfield 85, 3) := by decide +kernel
theorem k128_35 : pm_look (pm_kl 128) 35 = some (.aload_n 0, 1) := by decide +kernel
theorem k128_36 : pm_look (pm_kl 128) 36 = some (.getfield 33, 3) := by decide +kernel
theorem k128_39 : pm_look (pm_kl 128) 39 = some (.iconst 0, 1) := by decide +kernel
theorem k128_40 : pm_look (pm_kl 128) 40 = some (.putfield 232, 3) := by decide +kernel
theorem k128_43 : pm_look (pm_kl 128) 43 = some (.iload_n 2, 1) := by decide +kernel
theorem k128_44 : pm_look (pm_kl 128) 44 = some (.ifCond .eq 7, 3) := by decide +kernel
theorem k128_47 : pm_look (pm_kl 128) 47 = some (.iload_n 1, 1) := by decide +kernel
theorem k128_48 : pm_look (pm_kl 128) 48 = some (.goto 13, 3) := by decide +kernel
theorem k128_51 : pm_look (pm_kl 128) 51 = some (.bipush (-10), 2) := by decide +kernel
theorem k128_53 : pm_look (pm_kl 128) 53 = some (.aload_n 0, 1) := by decide +kernel
theorem k128_54 : pm_look (pm_kl 128) 54 = some (.getfield 33, 3) := by decide +kernel
theorem k128_57 : pm_look (pm_kl 128) 57 = some (.getfield 341, 3) := by decide +kernel
theorem k128_60 : pm_look (pm_kl 128) 60 = some (.isub, 1) := by decide +kernel
theorem k128_61 : pm_look (pm_kl 128) 61 = some (.ireturn, 1) := by decide +kernel
theorem k129_0 : pm_look (pm_kl 129) 0 = some (.lload_n 0, 1) := by decide +kernel
theorem k129_1 : pm_look (pm_kl 129) 1 = some (.lload_n 2, 1) := by decide +kernel
theorem k129_2 : pm_look (pm_kl 129) 2 = some (.land, 1) := by decide +kernel
theorem k129_3 : pm_look (pm_kl 129) 3 = some (.invokestatic 145, 3) := by decide +kernel
theorem k129_6 : pm_look (pm_kl 129) 6 = some (.istore 4, 2) := by decide +kernel
theorem k129_8 : pm_look (pm_kl 129) 8 = some (.iload 4, 2) := by decide +kernel
theorem k129_10 : pm_look (pm_kl 129) 10 = some (.ifCond .ne 5, 3) := by decide +kernel
theorem k129_13 : pm_look (pm_kl 129) 13 = some (.iconst (-1), 1) := by decide +kernel
theorem k129_14 : pm_look (pm_kl 129) 14 = some (.ireturn, 1) := by decide +kernel
theorem k129_15 : pm_look (pm_kl 129) 15 = some (.lload_n 0, 1) := by decide +kernel
theorem k129_16 : pm_look (pm_kl 129) 16 = some (.lload_n 2, 1) := by decide +kernel
theorem k129_17 : pm_look (pm_kl 129) 17 = some (.ldc2_w 320, 3) := by decide +kernel
theorem k129_20 : pm_look (pm_kl 129) 20 = some (.lxor, 1) := by decide +kernel
theorem k129_21 : pm_look (pm_kl 129) 21 = some (.land, 1) := by decide +kernel
theorem k129_22 : pm_look (pm_kl 129) 22 = some (.invokestatic 145, 3) := by decide +kernel
theorem k129_25 : pm_look (pm_kl 129) 25 = some (.lload_n 2, 1) := by decide +kernel
theorem k129_26 : pm_look (pm_kl 129) 26 = some (.lload_n 0, 1) := by decide +kernel
theorem k129_27 : pm_look (pm_kl 129) 27 = some (.ldc2_w 320, 3) := by decide +kernel
theorem k129_30 : pm_look (pm_kl 129) 30 = some (.lxor, 1) := by decide +kernel
theorem k129_31 : pm_look (pm_kl 129) 31 = some (.land, 1) := by decide +kernel
theorem k129_32 : pm_look (pm_kl 129) 32 = some (.invokestatic 145, 3) := by decide +kernel
theorem k129_35 : pm_look (pm_kl 129) 35 = some (.imul, 1) := by decide +kernel
theorem k129_36 : pm_look (pm_kl 129) 36 = some (.iload 4, 2) := by decide +kernel
theorem k129_38 : pm_look (pm_kl 129) 38 = some (.idiv, 1) := by decide +kernel
theorem k129_39 : pm_look (pm_kl 129) 39 = some (.ireturn, 1) := by decide +kernel
theorem k130_0 : pm_look (pm_kl 130) 0 = some (.lload_n 0, 1) := by decide +kernel
theorem k130_1 : pm_look (pm_kl 130) 1 = some (.lload_n 2, 1) := by decide +kernel
theorem k130_2 : pm_look (pm_kl 130) 2 = some (.land, 1) := by decide +kernel
theorem k130_3 : pm_look (pm_kl 130) 3 = some (.invokestatic 145, 3) := by decide +kernel
theorem k130_6 : pm_look (pm_kl 130) 6 = some (.iload 4, 2) := by decide +kernel
theorem k130_8 : pm_look (pm_kl 130) 8 = some (.imul, 1) := by decide +kernel
theorem k130_9 : pm_look (pm_kl 130) 9 = some (.lload_n 0, 1) := by decide +kernel
theorem k130_10 : pm_look (pm_kl 130) 10 = some (.invokestatic 145, 3) := by decide +kernel
theorem k130_13 : pm_look (pm_kl 130) 13 = some (.lload_n 2, 1) := by decide +kernel
theorem k130_14 : pm_look (pm_kl 130) 14 = some (.invokestatic 145, 3) := by decide +kernel
theorem k130_17 : pm_look (pm_kl 130) 17 = some (.imul, 1) := by decide +kernel
theorem k130_18 : pm_look (pm_kl 130) 18 = some (.if_icmp .le 7, 3) := by decide +kernel
theorem k130_21 : pm_look (pm_kl 130) 21 = some (.iconst 1, 1) := by decide +kernel
theorem k130_22 : pm_look (pm_kl 130) 22 = some (.goto 4, 3) := by decide +kernel
theorem k130_25 : pm_look (pm_kl 130) 25 = some (.iconst 0, 1) := by decide +kernel
theorem k130_26 : pm_look (pm_kl 130) 26 = some (.ireturn, 1) := by decide +kernel
theorem k131_0 : pm_look (pm_kl 131) 0 = some (.aload_n 0, 1) := by decide +kernel
theorem k131_1 : pm_look (pm_kl 131) 1 = some (.getfield 10, 3) := by decide +kernel
theorem k131_4 : pm_look (pm_kl 131) 4 = some (.iload_n 1, 1) := by decide +kernel
theorem k131_5 : pm_look (pm_kl 131) 5 = some (.iload_n 3, 1) := by decide +kernel
theorem k131_6 : pm_look (pm_kl 131) 6 = some (.invokevirtual 92, 3) := by decide +kernel
theorem k131_9 : pm_look (pm_kl 131) 9 = some (.ifCond .eq 33, 3) := by decide +kernel
theorem k131_12 : pm_look (pm_kl 131) 12 = some (.aload_n 0, 1) := by decide +kernel
theorem k131_13 : pm_look (pm_kl 131) 13 = some (.getfield 10, 3) := by decide +kernel
theorem k131_16 : pm_look (pm_kl 131) 16 = some (.iload_n 1, 1) := by decide +kernel
theorem k131_17 : pm_look (pm_kl 131) 17 = some (.iload_n 2, 1) := by decide +kernel
theorem k131_18 : pm_look (pm_kl 131) 18 = some (.iload_n 3, 1) := by decide +kernel
theorem k131_19 : pm_look (pm_kl 131) 19 = some (.invokevirtual 103, 3) := by decide +kernel
theorem k131_22 : pm_look (pm_kl 131) 22 = some (.ifCond .ne 20, 3) := by decide +kernel
theorem k131_25 : pm_look (pm_kl 131) 25 = some (.aload_n 0, 1) := by decide +kernel
theorem k131_26 : pm_look (pm_kl 131) 26 = some (.getfield 10, 3) := by decide +kernel
theorem k131_29 : pm_look (pm_kl 131) 29 = some (.iload_n 2, 1) := by decide +kernel
theorem k131_30 : pm_look (pm_kl 131) 30 = some (.iload_n 1, 1) := by decide +kernel
theorem k131_31 : pm_look (pm_kl 131) 31 = some (.iload_n 3, 1) := by decide +kernel
theorem k131_32 : pm_look (pm_kl 131) 32 = some (.invokevirtual 103, 3) := by decide +kernel
theorem k131_35 : pm_look (pm_kl 131) 35 = some (.ifCond .ne 7, 3) := by decide +kernel
theorem k131_38 : pm_look (pm_kl 131) 38 = some (.iconst 1, 1) := by decide +kernel
theorem k131_39 : pm_look (pm_kl 131) 39 = some (.goto 4, 3) := by decide +kernel
theorem k131_42 : pm_look (pm_kl 131) 42 = some (.iconst 0, 1) := by decide +kernel
theorem k131_43 : pm_look (pm_kl 131) 43 = some (.ireturn, 1) := by decide +kernel
theorem k132_0 : pm_look (pm_kl 132) 0 = some (.aload_n 0, 1) := by decide +kernel
theorem k132_1 : pm_look (pm_kl 132) 1 = some (.getfield 77, 3) := by decide +kernel
theorem k132_4 : pm_look (pm_kl 132) 4 = some (.iload_n 1, 1) := by decide +kernel
theorem k132_5 : pm_look (pm_kl 132) 5 = some (.invokevirtual 141, 3) := by decide +kernel
theorem k132_8 : pm_look (pm_kl 132) 8 = some (.lstore_n 3, 1) := by decide +kernel
theorem k132_9 : pm_look (pm_kl 132) 9 = some (.lconst 0, 1) := by decide +kernel
theorem k132_10 : pm_look (pm_kl 132) 10 = some (.lstore 5, 2) := by decide +kernel
theorem k132_12 : pm_look (pm_kl 132) 12 = some (.iconst 0, 1) := by decide +kernel
theorem k132_13 : pm_look (pm_kl 132) 13 = some (.istore 7, 2) := by decide +kernel
theorem k132_15 : pm_look (pm_kl 132) 15 = some (.iload 7, 2) := by decide +kernel
theorem k132_17 : pm_look (pm_kl 132) 17 = some (.aload_n 0, 1) := by decide +kernel
theorem k132_18 : pm_look (pm_kl 132) 18 = some (.getfield 10, 3) := by decide +kernel
theorem k132_21 : pm_look (pm_kl 132) 21 = some (.getfield 214, 3) := by decide +kernel
theorem k132_24 : pm_look (pm_kl 132) 24 = some (.if_icmp .ge 55, 3) := by decide +kernel
theorem k132_27 : pm_look (pm_kl 132) 27 = some (.aload_n 0, 1) := by decide +kernel
theorem k132_28 : pm_look (pm_kl 132) 28 = some (.iload 7, 2) := by decide +kernel
theorem k132_30 : pm_look (pm_kl 132) 30 = some (.iload_n 1, 1) := by decide +kernel
theorem k132_31 : pm_look (pm_kl 132) 31 = some (.iload_n 2, 1) := by decide +kernel
theorem k132_32 : pm_look (pm_kl 132) 32 = some (.invokevirtual 335, 3) := by decide +kernel
theorem k132_35 : pm_look (pm_kl 132) 35 = some (.ifCond .ne 6, 3) := by decide +kernel
theorem k132_38 : pm_look (pm_kl 132) 38 = some (.goto 35, 3) := by decide +kernel
theorem k132_41 : pm_look (pm_kl 132) 41 = some (.lload_n 3, 1) := by decide +kernel
theorem k132_42 : pm_look (pm_kl 132) 42 = some (.aload_n 0, 1) := by decide +kernel
theorem k132_43 : pm_look (pm_kl 132) 43 = some (.getfield 77, 3) := by decide +kernel
theorem k132_46 : pm_look (pm_kl 132) 46 = some (.iload 7, 2) := by decide +kernel
theorem k132_48 : pm_look (pm_kl 132) 48 = some (.invokevirtual 141, 3) := by decide +kernel
theorem k132_51 : pm_look (pm_kl 132) 51 = some (.aload_n 0, 1) := by decide +kernel
theorem k132_52 : pm_look (pm_kl 132) 52 = some (.getfield 19, 3) := by decide +kernel
theorem k132_55 : pm_look (pm_kl 132) 55 = some (.getfield 219, 3) := by decide +kernel
theorem k132_58 : pm_look (pm_kl 132) 58 = some (.invokestatic 299, 3) := by decide +kernel
theorem k132_61 : pm_look (pm_kl 132) 61 = some (.ifCond .eq 12, 3) := by decide +kernel
theorem k132_64 : pm_look (pm_kl 132) 64 = some (.lload 5, 2) := by decide +kernel
theorem k132_66 : pm_look (pm_kl 132) 66 = some (.lconst 1, 1) := by decide +kernel
theorem k132_67 : pm_look (pm_kl 132) 67 = some (.iload 7, 2) := by decide +kernel
theorem k132_69 : pm_look (pm_kl 132) 69 = some (.lshl, 1) := by decide +kernel
theorem k132_70 : pm_look (pm_kl 132) 70 = some (.lor, 1) := by decide +kernel
theorem k132_71 : pm_look (pm_kl 132) 71 = some (.lstore 5, 2) := by decide +kernel
theorem k132_73 : pm_look (pm_kl 132) 73 = some (.iinc 7 1, 3) := by decide +kernel
theorem k132_76 : pm_look (pm_kl 132) 76 = some (.goto (-61), 3) := by decide +kernel
theorem k132_79 : pm_look (pm_kl 132) 79 = some (.lload 5, 2) := by decide +kernel
theorem k132_81 : pm_look (pm_kl 132) 81 = some (.lreturn, 1) := by decide +kernel
theorem k133_0 : pm_look (pm_kl 133) 0 = some (.aload_n 0, 1) := by decide +kernel
theorem k133_1 : pm_look (pm_kl 133) 1 = some (.getfield 61, 3) := by decide +kernel
theorem k133_4 : pm_look (pm_kl 133) 4 = some (.getfield 345, 3) := by decide +kernel
theorem k133_7 : pm_look (pm_kl 133) 7 = some (.astore_n 3, 1) := by decide +kernel
theorem k133_8 : pm_look (pm_kl 133) 8 = some (.iconst 0, 1) := by decide +kernel
theorem k133_9 : pm_look (pm_kl 133) 9 = some (.istore 4, 2) := by decide +kernel
theorem k133_11 : pm_look (pm_kl 133) 11 = some (.iconst 0, 1) := by decide +kernel
theorem k133_12 : pm_look (pm_kl 133) 12 = some (.istore 5, 2) := by decide +kernel
theorem k133_14 : pm_look (pm_kl 133) 14 = some (.iload 5, 2) := by decide +kernel
theorem k133_16 : pm_look (pm_kl 133) 16 = some (.aload_n 0, 1) := by decide +kernel
theorem k133_17 : pm_look (pm_kl 133) 17 = some (.getfield 61, 3) := by decide +kernel
theorem k133_20 : pm_look (pm_kl 133) 20 = some (.getfield 348, 3) := by decide +kernel
theorem k133_23 : pm_look (pm_kl 133) 23 = some (.iload_n 1, 1) := by decide +kernel
theorem k133_24 : pm_look (pm_kl 133) 24 = some (.iaload, 1) := by decide +kernel
theorem k133_25 : pm_look (pm_kl 133) 25 = some (.if_icmp .ge 163, 3) := by decide +kernel
theorem k133_28 : pm_look (pm_kl 133) 28 = some (.iload 4, 2) := by decide +kernel
theorem k133_30 : pm_look (pm_kl 133) 30 = some (.aload_n 3, 1) := by decide +kernel
theorem k133_31 : pm_look (pm_kl 133) 31 = some (.arraylength, 1) := by decide +kernel
theorem k133_32 : pm_look (pm_kl 133) 32 = some (.if_icmp .ge 156, 3) := by decide +kernel
theorem k133_35 : pm_look (pm_kl 133) 35 = some (.aload_n 0, 1) := by decide +kernel
theorem k133_36 : pm_look (pm_kl 133) 36 = some (.getfield 61, 3) := by decide +kernel
theorem k133_39 : pm_look (pm_kl 133) 39 = some (.getfield 351, 3) := by decide +kernel
theorem k133_42 : pm_look (pm_kl 133) 42 = some (.iload_n 1, 1) := by decide +kernel
theorem k133_43 : pm_look (pm_kl 133) 43 = some (.aaload, 1) := by decide +kernel
theorem k133_44 : pm_look (pm_kl 133) 44 = some (.iload 5, 2) := by decide +kernel
theorem k133_46 : pm_look (pm_kl 133) 46 = some (.iaload, 1) := by decide +kernel
theorem k133_47 : pm_look (pm_kl 133) 47 = some (.sipush 1000, 3) := by decide +kernel
theorem k133_50 : pm_look (pm_kl 133) 50 = some (.idiv, 1) := by decide +kernel
theorem k133_51 : pm_look (pm_kl 133) 51 = some (.istore 6, 2) := by decide +kernel
theorem k133_53 : pm_look (pm_kl 133) 53 = some (.iload 6, 2) := by decide +kernel
theorem k133_55 : pm_look (pm_kl 133) 55 = some (.bipush 6, 2) := by decide +kernel
theorem k133_57 : pm_look (pm_kl 133) 57 = some (.if_icmp .ge 36, 3) := by decide +kernel
theorem k133_60 : pm_look (pm_kl 133) 60 = some (.aload_n 3, 1) := by decide +kernel
theorem k133_61 : pm_look (pm_kl 133) 61 = some (.iload 4, 2) := by decide +kernel
theorem k133_63 : pm_look (pm_kl 133) 63 = some (.iinc 4 1, 3) := by decide +kernel
theorem k133_66 : pm_look (pm_kl 133) 66 = some (.aload_n 0, 1) := by decide +kernel
theorem k133_67 : pm_look (pm_kl 133) 67 = some (.iload 6, 2) := by decide +kernel
theorem k133_69 : pm_look (pm_kl 133) 69 = some (.aload_n 0, 1) := by decide +kernel
theorem k133_70 : pm_look (pm_kl 133) 70 = some (.getfield 61, 3) := by decide +kernel
theorem k133_73 : pm_look (pm_kl 133) 73 = some (.getfield 351, 3) := by decide +kernel
theorem k133_76 : pm_look (pm_kl 133) 76 = some (.iload_n 1, 1) := by decide +kernel
theorem k133_77 : pm_look (pm_kl 133) 77 = some (.aaload, 1) := by decide +kernel
theorem k133_78 : pm_look (pm_kl 133) 78 = some (.iload 5, 2) := by decide +kernel
theorem k133_80 : pm_look (pm_kl 133) 80 = some (.iaload, 1) := by decide +kernel
theorem k133_81 : pm_look (pm_kl 133) 81 = some (.sipush 1000, 3) := by decide +kernel
theorem k133_84 : pm_look (pm_kl 133) 84 = some (.irem, 1) := by decide +kernel
theorem k133_85 : pm_look (pm_kl 133) 85 = some (.iload_n 2, 1) := by decide +kernel
theorem k133_86 : pm_look (pm_kl 133) 86 = some (.invokevirtual 354, 3) := by decide +kernel
theorem k133_89 : pm_look (pm_kl 133) 89 = some (.lastore, 1) := by decide +kernel
theorem k133_90 : pm_look (pm_kl 133) 90 = some (.goto 92, 3) := by decide +kernel
theorem k133_93 : pm_look (pm_kl 133) 93 = some (.iload 6, 2) := by decide +kernel
theorem k133_95 : pm_look (pm_kl 133) 95 = some (.bipush 9, 2) := by decide +kernel
theorem k133_97 : pm_look (pm_kl 133) 97 = some (.if_icmp .ne 36, 3) := by decide +kernel
theorem k133_100 : pm_look (pm_kl 133) 100 = some (.iload 4, 2) := by decide +kernel
theorem k133_102 : pm_look (pm_kl 133) 102 = some (.iconst 1, 1) := by decide +kernel
theorem k133_103 : pm_look (pm_kl 133) 103 = some (.if_icmp .lt 30, 3) := by decide +kernel
theorem k133_106 : pm_look (pm_kl 133) 106 = some (.aload_n 3, 1) := by decide +kernel
theorem k133_107 : pm_look (pm_kl 133) 107 = some (.iload 4, 2) := by decide +kernel
theorem k133_109 : pm_look (pm_kl 133) 109 = some (.iconst 1, 1) := by decide +kernel
theorem k133_110 : pm_look (pm_kl 133) 110 = some (.isub, 1) := by decide +kernel
theorem k133_111 : pm_look (pm_kl 133) 111 = some (.aload_n 0, 1) := by decide +kernel
theorem k133_112 : pm_look (pm_kl 133) 112 = some (.getfield 19, 3) := by decide +kernel
theorem k133_115 : pm_look (pm_kl 133) 115 = some (.invokevirtual 358, 3) := by decide +kernel
theorem k133_118 : pm_look (pm_kl 133) 118 = some (.aload_n 3, 1) := by decide +kernel
theorem k133_119 : pm_look (pm_kl 133) 119 = some (.iload 4, 2) := by decide +kernel
theorem k133_121 : pm_look (pm_kl 133) 121 = some (.iconst 1, 1) := by decide +kernel
theorem k133_122 : pm_look (pm_kl 133) 122 = some (.isub, 1) := by decide +kernel
theorem k133_123 : pm_look (pm_kl 133) 123 = some (.laload, 1) := by decide +kernel
theorem k133_124 : pm_look (pm_kl 133) 124 = some (.ldc2_w 320, 3) := by decide +kernel
theorem k133_127 : pm_look (pm_kl 133) 127 = some (.lxor, 1) := by decide +kernel
theorem k133_128 : pm_look (pm_kl 133) 128 = some (.land, 1) := by decide +kernel
theorem k133_129 : pm_look (pm_kl 133) 129 = some (.lastore, 1) := by decide +kernel
theorem k133_130 : pm_look (pm_kl 133) 130 = some (.goto 52, 3) := by decide +kernel
theorem k133_133 : pm_look (pm_kl 133) 133 = some (.iload 4, 2) := by decide +kernel
theorem k133_135 : pm_look (pm_kl 133) 135 = some (.iconst 2, 1) := by decide +kernel
theorem k133_136 : pm_look (pm_kl 133) 136 = some (.if_icmp .lt 46, 3) := by decide +kernel
theorem k133_139 : pm_look (pm_kl 133) 139 = some (.iinc 4 (-1), 3) := by decide +kernel
theorem k133_142 : pm_look (pm_kl 133) 142 = some (.aload_n 3, 1) := by decide +kernel
theorem k133_143 : pm_look (pm_kl 133) 143 = some (.iload 4, 2) := by decide +kernel
theorem k133_145 : pm_look (pm_kl 133) 145 = some (.laload, 1) := by decide +kernel
theorem k133_146 : pm_look (pm_kl 133) 146 = some (.lstore 7, 2) := by decide +kernel
theorem k133_148 : pm_look (pm_kl 133) 148 = some (.aload_n 3, 1) := by decide +kernel
theorem k133_149 : pm_look (pm_kl 133) 149 = some (.iload 4, 2) := by decide +kernel
theorem k133_151 : pm_look (pm_kl 133) 151 = some (.iconst 1, 1) := by decide +kernel
theorem k133_152 : pm_look (pm_kl 133) 152 = some (.isub, 1) := by decide +kernel
theorem k133_153 : pm_look (pm_kl 133) 153 = some (.iload 6, 2) := by decide +kernel
theorem k133_155 : pm_look (pm_kl 133) 155 = some (.bipush 8, 2) := by decide +kernel
theorem k133_157 : pm_look (pm_kl 133) 157 = some (.if_icmp .ne 15, 3) := by decide +kernel
theorem k133_160 : pm_look (pm_kl 133) 160 = some (.aload_n 3, 1) := by decide +kernel
theorem k133_161 : pm_look (pm_kl 133) 161 = some (.iload 4, 2) := by decide +kernel
theorem k133_163 : pm_look (pm_kl 133) 163 = some (.iconst 1, 1) := by decide +kernel
theorem k133_164 : pm_look (pm_kl 133) 164 = some (.isub, 1) := by decide +kernel
theorem k133_165 : pm_look (pm_kl 133) 165 = some (.laload, 1) := by decide +kernel
theorem k133_166 : pm_look (pm_kl 133) 166 = some (.lload 7, 2) := by decide +kernel
theorem k133_168 : pm_look (pm_kl 133) 168 = some (.land, 1) := by decide +kernel
theorem k133_169 : pm_look (pm_kl 133) 169 = some (.goto 12, 3) := by decide +kernel
theorem k133_172 : pm_look (pm_kl 133) 172 = some (.aload_n 3, 1) := by decide +kernel
theorem k133_173 : pm_look (pm_kl 133) 173 = some (.iload 4, 2) := by decide +kernel
theorem k133_175 : pm_look (pm_kl 133) 175 = some (.iconst 1, 1) := by decide +kernel
theorem k133_176 : pm_look (pm_kl 133) 176 = some (.isub, 1) := by decide +kernel
theorem k133_177 : pm_look (pm_kl 133) 177 = some (.laload, 1) := by decide +kernel
theorem k133_178 : pm_look (pm_kl 133) 178 = some (.lload 7, 2) := by decide +kernel
theorem k133_180 : pm_look (pm_kl 133) 180 = some (.lor, 1) := by decide +kernel
theorem k133_181 : pm_look (pm_kl 133) 181 = some (.lastore, 1) := by decide +kernel
theorem k133_182 : pm_look (pm_kl 133) 182 = some (.iinc 5 1, 3) := by decide +kernel
theorem k133_185 : pm_look (pm_kl 133) 185 = some (.goto (-171), 3) := by decide +kernel
theorem k133_188 : pm_look (pm_kl 133) 188 = some (.iload 4, 2) := by decide +kernel
theorem k133_190 : pm_look (pm_kl 133) 190 = some (.iconst 1, 1) := by decide +kernel
theorem k133_191 : pm_look (pm_kl 133) 191 = some (.if_icmp .ne 9, 3) := by decide +kernel
theorem k133_194 : pm_look (pm_kl 133) 194 = some (.aload_n 3, 1) := by decide +kernel
theorem k133_195 : pm_look (pm_kl 133) 195 = some (.iconst 0, 1) := by decide +kernel
theorem k133_196 : pm_look (pm_kl 133) 196 = some (.laload, 1) := by decide +kernel
theorem k133_197 : pm_look (pm_kl 133) 197 = some (.goto 4, 3) := by decide +kernel
theorem k133_200 : pm_look (pm_kl 133) 200 = some (.lconst 0, 1) := by decide +kernel
theorem k133_201 : pm_look (pm_kl 133) 201 = some (.lreturn, 1) := by decide +kernel
theorem k134_0 : pm_look (pm_kl 134) 0 = some (.iload_n 1, 1) := by decide +kernel
theorem k134_1 : pm_look (pm_kl 134) 1 = some (.tableswitch 85 1 4 #[31, 40, 63, 73], 31) := by decide +kernel
theorem k134_32 : pm_look (pm_kl 134) 32 = some (.aload_n 0, 1) := by decide +kernel
theorem k134_33 : pm_look (pm_kl 134) 33 = some (.getfield 77, 3) := by decide +kernel
theorem k134_36 : pm_look (pm_kl 134) 36 = some (.iload_n 2, 1) := by decide +kernel
theorem k134_37 : pm_look (pm_kl 134) 37 = some (.invokevirtual 141, 3) := by decide +kernel
theorem k134_40 : pm_look (pm_kl 134) 40 = some (.lreturn, 1) := by decide +kernel
theorem k134_41 : pm_look (pm_kl 134) 41 = some (.aload_n 0, 1) := by decide +kernel
theorem k134_42 : pm_look (pm_kl 134) 42 = some (.getfield 77, 3) := by decide +kernel
theorem k134_45 : pm_look (pm_kl 134) 45 = some (.aload_n 0, 1) := by decide +kernel
theorem k134_46 : pm_look (pm_kl 134) 46 = some (.getfield 54, 3) := by decide +kernel
theorem k134_49 : pm_look (pm_kl 134) 49 = some (.iload_n 2, 1) := by decide +kernel
theorem k134_50 : pm_look (pm_kl 134) 50 = some (.bipush 100, 2) := by decide +kernel
theorem k134_52 : pm_look (pm_kl 134) 52 = some (.idiv, 1) := by decide +kernel
theorem k134_53 : pm_look (pm_kl 134) 53 = some (.iload_n 2, 1) := by decide +kernel
theorem k134_54 : pm_look (pm_kl 134) 54 = some (.bipush 100, 2) := by decide +kernel
theorem k134_56 : pm_look (pm_kl 134) 56 = some (.irem, 1) := by decide +kernel
theorem k134_57 : pm_look (pm_kl 134) 57 = some (.invokevirtual 265, 3) := by decide +kernel
theorem k134_60 : pm_look (pm_kl 134) 60 = some (.invokevirtual 362, 3) := by decide +kernel
theorem k134_63 : pm_look (pm_kl 134) 63 = some (.lreturn, 1) := by decide +kernel
theorem k134_64 : pm_look (pm_kl 134) 64 = some (.aload_n 0, 1) := by decide +kernel
theorem k134_65 : pm_look (pm_kl 134) 65 = some (.getfield 26, 3) := by decide +kernel
theorem k134_68 : pm_look (pm_kl 134) 68 = some (.iload_n 2, 1) := by decide +kernel
theorem k134_69 : pm_look (pm_kl 134) 69 = some (.iload_n 3, 1) := by decide +kernel
theorem k134_70 : pm_look (pm_kl 134) 70 = some (.invokevirtual 286, 3) := by decide +kernel
theorem k134_73 : pm_look (pm_kl 134) 73 = some (.lreturn, 1) := by decide +kernel
theorem k134_74 : pm_look (pm_kl 134) 74 = some (.aload_n 0, 1) := by decide +kernel
theorem k134_75 : pm_look (pm_kl 134) 75 = some (.getfield 19, 3) := by decide +kernel
theorem k134_78 : pm_look (pm_kl 134) 78 = some (.iconst 0, 1) := by decide +kernel
theorem k134_79 : pm_look (pm_kl 134) 79 = some (.iload_n 2, 1) := by decide +kernel
theorem k134_80 : pm_look (pm_kl 134) 80 = some (.iconst 1, 1) := by decide +kernel
theorem k134_81 : pm_look (pm_kl 134) 81 = some (.isub, 1) := by decide +kernel
theorem k134_82 : pm_look (pm_kl 134) 82 = some (.invokevirtual 296, 3) := by decide +kernel
theorem k134_85 : pm_look (pm_kl 134) 85 = some (.lreturn, 1) := by decide +kernel
theorem k134_86 : pm_look (pm_kl 134) 86 = some (.aload_n 0, 1) := by decide +kernel
theorem k134_87 : pm_look (pm_kl 134) 87 = some (.getfield 19, 3) := by decide +kernel
theorem k134_90 : pm_look (pm_kl 134) 90 = some (.iload_n 2, 1) := by decide +kernel
theorem k134_91 : pm_look (pm_kl 134) 91 = some (.invokevirtual 366, 3) := by decide +kernel
theorem k134_94 : pm_look (pm_kl 134) 94 = some (.lreturn, 1) := by decide +kernel
theorem k135_0 : pm_look (pm_kl 135) 0 = some (.aload_n 0, 1) := by decide +kernel
theorem k135_1 : pm_look (pm_kl 135) 1 = some (.invokespecial 1, 3) := by decide +kernel
theorem k135_4 : pm_look (pm_kl 135) 4 = some (.aload_n 0, 1) := by decide +kernel
theorem k135_5 : pm_look (pm_kl 135) 5 = some (.bipush 40, 2) := by decide +kernel
theorem k135_7 : pm_look (pm_kl 135) 7 = some (.newarray .int, 2) := by decide +kernel
theorem k135_9 : pm_look (pm_kl 135) 9 = some (.putfield 7, 3) := by decide +kernel
theorem k135_12 : pm_look (pm_kl 135) 12 = some (.aload_n 0, 1) := by decide +kernel
theorem k135_13 : pm_look (pm_kl 135) 13 = some (.bipush 40, 2) := by decide +kernel
theorem k135_15 : pm_look (pm_kl 135) 15 = some (.newarray .int, 2) := by decide +kernel
theorem k135_17 : pm_look (pm_kl 135) 17 = some (.putfield 13, 3) := by decide +kernel
theorem k135_20 : pm_look (pm_kl 135) 20 = some (.aload_n 0, 1) := by decide +kernel
theorem k135_21 : pm_look (pm_kl 135) 21 = some (.bipush 40, 2) := by decide +kernel
theorem k135_23 : pm_look (pm_kl 135) 23 = some (.newarray .int, 2) := by decide +kernel
theorem k135_25 : pm_look (pm_kl 135) 25 = some (.putfield 16, 3) := by decide +kernel
theorem k135_28 : pm_look (pm_kl 135) 28 = some (.aload_n 0, 1) := by decide +kernel
theorem k135_29 : pm_look (pm_kl 135) 29 = some (.sipush 400, 3) := by decide +kernel
theorem k135_32 : pm_look (pm_kl 135) 32 = some (.newarray .int, 2) := by decide +kernel
theorem k135_34 : pm_look (pm_kl 135) 34 = some (.putfield 19, 3) := by decide +kernel
theorem k135_37 : pm_look (pm_kl 135) 37 = some (.aload_n 0, 1) := by decide +kernel
theorem k135_38 : pm_look (pm_kl 135) 38 = some (.bipush 40, 2) := by decide +kernel
theorem k135_40 : pm_look (pm_kl 135) 40 = some (.newarray .int, 2) := by decide +kernel
theorem k135_42 : pm_look (pm_kl 135) 42 = some (.putfield 22, 3) := by decide +kernel
theorem k135_45 : pm_look (pm_kl 135) 45 = some (.aload_n 0, 1) := by decide +kernel
theorem k135_46 : pm_look (pm_kl 135) 46 = some (.bipush 40, 2) := by decide +kernel
theorem k135_48 : pm_look (pm_kl 135) 48 = some (.newarray .int, 2) := by decide +kernel
theorem k135_50 : pm_look (pm_kl 135) 50 = some (.putfield 25, 3) := by decide +kernel
theorem k135_53 : pm_look (pm_kl 135) 53 = some (.aload_n 0, 1) := by decide +kernel
theorem k135_54 : pm_look (pm_kl 135) 54 = some (.bipush 40, 2) := by decide +kernel
theorem k135_56 : pm_look (pm_kl 135) 56 = some (.newarray .int, 2) := by decide +kernel
theorem k135_58 : pm_look (pm_kl 135) 58 = some (.putfield 28, 3) := by decide +kernel
theorem k135_61 : pm_look (pm_kl 135) 61 = some (.aload_n 0, 1) := by decide +kernel
theorem k135_62 : pm_look (pm_kl 135) 62 = some (.bipush 120, 2) := by decide +kernel
theorem k135_64 : pm_look (pm_kl 135) 64 = some (.newarray .int, 2) := by decide +kernel
theorem k135_66 : pm_look (pm_kl 135) 66 = some (.putfield 31, 3) := by decide +kernel
theorem k135_69 : pm_look (pm_kl 135) 69 = some (.aload_n 0, 1) := by decide +kernel
theorem k135_70 : pm_look (pm_kl 135) 70 = some (.bipush 120, 2) := by decide +kernel
theorem k135_72 : pm_look (pm_kl 135) 72 = some (.newarray .int, 2) := by decide +kernel
theorem k135_74 : pm_look (pm_kl 135) 74 = some (.putfield 34, 3) := by decide +kernel
theorem k135_77 : pm_look (pm_kl 135) 77 = some (.aload_n 0, 1) := by decide +kernel
theorem k135_78 : pm_look (pm_kl 135) 78 = some (.bipush 120, 2) := by decide +kernel
theorem k135_80 : pm_look (pm_kl 135) 80 = some (.newarray .int, 2) := by decide +kernel
theorem k135_82 : pm_look (pm_kl 135) 82 = some (.putfield 37, 3) := by decide +kernel
theorem k135_85 : pm_look (pm_kl 135) 85 = some (.aload_n 0, 1) := by decide +kernel
theorem k135_86 : pm_look (pm_kl 135) 86 = some (.bipush 120, 2) := by decide +kernel
theorem k135_88 : pm_look (pm_kl 135) 88 = some (.newarray .int, 2) := by decide +kernel
theorem k135_90 : pm_look (pm_kl 135) 90 = some (.putfield 40, 3) := by decide +kernel
theorem k135_93 : pm_look (pm_kl 135) 93 = some (.aload_n 0, 1) := by decide +kernel
theorem k135_94 : pm_look (pm_kl 135) 94 = some (.bipush 120, 2) := by decide +kernel
theorem k135_96 : pm_look (pm_kl 135) 96 = some (.newarray .int, 2) := by decide +kernel
theorem k135_98 : pm_look (pm_kl 135) 98 = some (.putfield 43, 3) := by decide +kernel
theorem k135_101 : pm_look (pm_kl 135) 101 = some (.aload_n 0, 1) := by decide +kernel
theorem k135_102 : pm_look (pm_kl 135) 102 = some (.sipush 960, 3) := by decide +kernel
theorem k135_105 : pm_look (pm_kl 135) 105 = some (.newarray .int, 2) := by decide +kernel
theorem k135_107 : pm_look (pm_kl 135) 107 = some (.putfield 46, 3) := by decide +kernel
theorem k135_110 : pm_look (pm_kl 135) 110 = some (.aload_n 0, 1) := by decide +kernel
theorem k135_111 : pm_look (pm_kl 135) 111 = some (.bipush 8, 2) := by decide +kernel
theorem k135_113 : pm_look (pm_kl 135) 113 = some (.newarray .int, 2) := by decide +kernel
theorem k135_115 : pm_look (pm_kl 135) 115 = some (.putfield 49, 3) := by decide +kernel
theorem k135_118 : pm_look (pm_kl 135) 118 = some (.aload_n 0, 1) := by decide +kernel
theorem k135_119 : pm_look (pm_kl 135) 119 = some (.bipush 9, 2) := by decide +kernel
theorem k135_121 : pm_look (pm_kl 135) 121 = some (.newarray .int, 2) := by decide +kernel
theorem k135_123 : pm_look (pm_kl 135) 123 = some (.putfield 52, 3) := by decide +kernel
theorem k135_126 : pm_look (pm_kl 135) 126 = some (.aload_n 0, 1) := by decide +kernel
theorem k135_127 : pm_look (pm_kl 135) 127 = some (.bipush 72, 2) := by decide +kernel
theorem k135_129 : pm_look (pm_kl 135) 129 = some (.newarray .int, 2) := by decide +kernel
theorem k135_131 : pm_look (pm_kl 135) 131 = some (.putfield 55, 3) := by decide +kernel
theorem k135_134 : pm_look (pm_kl 135) 134 = some (.aload_n 0, 1) := by decide +kernel
theorem k135_135 : pm_look (pm_kl 135) 135 = some (.bipush 72, 2) := by decide +kernel
theorem k135_137 : pm_look (pm_kl 135) 137 = some (.newarray .int, 2) := by decide +kernel
theorem k135_139 : pm_look (pm_kl 135) 139 = some (.putfield 58, 3) := by decide +kernel
theorem k135_142 : pm_look (pm_kl 135) 142 = some (.aload_n 0, 1) := by decide +kernel
theorem k135_143 : pm_look (pm_kl 135) 143 = some (.bipush 72, 2) := by decide +kernel
theorem k135_145 : pm_look (pm_kl 135) 145 = some (.newarray .int, 2) := by decide +kernel
theorem k135_147 : pm_look (pm_kl 135) 147 = some (.putfield 61, 3) := by decide +kernel
theorem k135_150 : pm_look (pm_kl 135) 150 = some (.aload_n 0, 1) := by decide +kernel
theorem k135_151 : pm_look (pm_kl 135) 151 = some (.bipush 8, 2) := by decide +kernel
theorem k135_153 : pm_look (pm_kl 135) 153 = some (.newarray .boolean, 2) := by decide +kernel
theorem k135_155 : pm_look (pm_kl 135) 155 = some (.putfield 64, 3) := by decide +kernel
theorem k135_158 : pm_look (pm_kl 135) 158 = some (.aload_n 0, 1) := by decide +kernel
theorem k135_159 : pm_look (pm_kl 135) 159 = some (.bipush 6, 2) := by decide +kernel
theorem k135_161 : pm_look (pm_kl 135) 161 = some (.newarray .int, 2) := by decide +kernel
theorem k135_163 : pm_look (pm_kl 135) 163 = some (.putfield 68, 3) := by decide +kernel
theorem k135_166 : pm_look (pm_kl 135) 166 = some (.aload_n 0, 1) := by decide +kernel
theorem k135_167 : pm_look (pm_kl 135) 167 = some (.bipush 120, 2) := by decide +kernel
theorem k135_169 : pm_look (pm_kl 135) 169 = some (.newarray .int, 2) := by decide +kernel
theorem k135_171 : pm_look (pm_kl 135) 171 = some (.putfield 71, 3) := by decide +kernel
theorem k135_174 : pm_look (pm_kl 135) 174 = some (.aload_n 0, 1) := by decide +kernel
theorem k135_175 : pm_look (pm_kl 135) 175 = some (.bipush 120, 2) := by decide +kernel
theorem k135_177 : pm_look (pm_kl 135) 177 = some (.newarray .boolean, 2) := by decide +kernel
theorem k135_179 : pm_look (pm_kl 135) 179 = some (.putfield 74, 3) := by decide +kernel
theorem k135_182 : pm_look (pm_kl 135) 182 = some (.aload_n 0, 1) := by decide +kernel
theorem k135_183 : pm_look (pm_kl 135) 183 = some (.bipush 120, 2) := by decide +kernel
theorem k135_185 : pm_look (pm_kl 135) 185 = some (.newarray .int, 2) := by decide +kernel
theorem k135_187 : pm_look (pm_kl 135) 187 = some (.putfield 77, 3) := by decide +kernel
theorem k135_190 : pm_look (pm_kl 135) 190 = some (.aload_n 0, 1) := by decide +kernel
theorem k135_191 : pm_look (pm_kl 135) 191 = some (.bipush 120, 2) := by decide +kernel
theorem k135_193 : pm_look (pm_kl 135) 193 = some (.newarray .int, 2) := by decide +kernel
theorem k135_195 : pm_look (pm_kl 135) 195 = some (.putfield 80, 3) := by decide +kernel
theorem k135_198 : pm_look (pm_kl 135) 198 = some (.aload_n 0, 1) := by decide +kernel
theorem k135_199 : pm_look (pm_kl 135) 199 = some (.bipush 120, 2) := by decide +kernel
theorem k135_201 : pm_look (pm_kl 135) 201 = some (.newarray .boolean, 2) := by decide +kernel
theorem k135_203 : pm_look (pm_kl 135) 203 = some (.putfield 83, 3) := by decide +kernel
theorem k135_206 : pm_look (pm_kl 135) 206 = some (.aload_n 0, 1) := by decide +kernel
theorem k135_207 : pm_look (pm_kl 135) 207 = some (.bipush 40, 2) := by decide +kernel
theorem k135_209 : pm_look (pm_kl 135) 209 = some (.newarray .long, 2) := by decide +kernel
theorem k135_211 : pm_look (pm_kl 135) 211 = some (.putfield 86, 3) := by decide +kernel
theorem k135_214 : pm_look (pm_kl 135) 214 = some (.aload_n 0, 1) := by decide +kernel
theorem k135_215 : pm_look (pm_kl 135) 215 = some (.sipush 160, 3) := by decide +kernel
theorem k135_218 : pm_look (pm_kl 135) 218 = some (.newarray .int, 2) := by decide +kernel
theorem k135_220 : pm_look (pm_kl 135) 220 = some (.putfield 90, 3) := by decide +kernel
theorem k135_223 : pm_look (pm_kl 135) 223 = some (.aload_n 0, 1) := by decide +kernel
theorem k135_224 : pm_look (pm_kl 135) 224 = some (.iconst (-1), 1) := by decide +kernel
theorem k135_225 : pm_look (pm_kl 135) 225 = some (.putfield 93, 3) := by decide +kernel
theorem k135_228 : pm_look (pm_kl 135) 228 = some (.aload_n 0, 1) := by decide +kernel
theorem k135_229 : pm_look (pm_kl 135) 229 = some (.bipush 60, 2) := by decide +kernel
theorem k135_231 : pm_look (pm_kl 135) 231 = some (.newarray .int, 2) := by decide +kernel
theorem k135_233 : pm_look (pm_kl 135) 233 = some (.putfield 97, 3) := by decide +kernel
theorem k135_236 : pm_look (pm_kl 135) 236 = some (.aload_n 0, 1) := by decide +kernel
theorem k135_237 : pm_look (pm_kl 135) 237 = some (.bipush 60, 2) := by decide +kernel
theorem k135_239 : pm_look (pm_kl 135) 239 = some (.newarray .int, 2) := by decide +kernel
theorem k135_241 : pm_look (pm_kl 135) 241 = some (.putfield 100, 3) := by decide +kernel
theorem k135_244 : pm_look (pm_kl 135) 244 = some (.aload_n 0, 1) := by decide +kernel
theorem k135_245 : pm_look (pm_kl 135) 245 = some (.bipush 8, 2) := by decide +kernel
theorem k135_247 : pm_look (pm_kl 135) 247 = some (.newarray .int, 2) := by decide +kernel
theorem k135_249 : pm_look (pm_kl 135) 249 = some (.putfield 103, 3) := by decide +kernel
theorem k135_252 : pm_look (pm_kl 135) 252 = some (.aload_n 0, 1) := by decide +kernel
theorem k135_253 : pm_look (pm_kl 135) 253 = some (.sipush 880, 3) := by decide +kernel
theorem k135_256 : pm_look (pm_kl 135) 256 = some (.newarray .int, 2) := by decide +kernel
theorem k135_258 : pm_look (pm_kl 135) 258 = some (.putfield 106, 3) := by decide +kernel
theorem k135_261 : pm_look (pm_kl 135) 261 = some (.aload_n 0, 1) := by decide +kernel
theorem k135_262 : pm_look (pm_kl 135) 262 = some (.sipush 880, 3) := by decide +kernel
theorem k135_265 : pm_look (pm_kl 135) 265 = some (.newarray .int, 2) := by decide +kernel
theorem k135_267 : pm_look (pm_kl 135) 267 = some (.putfield 109, 3) := by decide +kernel
theorem k135_270 : pm_look (pm_kl 135) 270 = some (.aload_n 0, 1) := by decide +kernel
theorem k135_271 : pm_look (pm_kl 135) 271 = some (.bipush 120, 2) := by decide +kernel
theorem k135_273 : pm_look (pm_kl 135) 273 = some (.newarray .int, 2) := by decide +kernel
theorem k135_275 : pm_look (pm_kl 135) 275 = some (.putfield 112, 3) := by decide +kernel
theorem k135_278 : pm_look (pm_kl 135) 278 = some (.aload_n 0, 1) := by decide +kernel
theorem k135_279 : pm_look (pm_kl 135) 279 = some (.bipush 120, 2) := by decide +kernel
theorem k135_281 : pm_look (pm_kl 135) 281 = some (.newarray .boolean, 2) := by decide +kernel
theorem k135_283 : pm_look (pm_kl 135) 283 = some (.putfield 115, 3) := by decide +kernel
theorem k135_286 : pm_look (pm_kl 135) 286 = some (.aload_n 0, 1) := by decide +kernel
theorem k135_287 : pm_look (pm_kl 135) 287 = some (.bipush 40, 2) := by decide +kernel
theorem k135_289 : pm_look (pm_kl 135) 289 = some (.newarray .int, 2) := by decide +kernel
theorem k135_291 : pm_look (pm_kl 135) 291 = some (.putfield 118, 3) := by decide +kernel
theorem k135_294 : pm_look (pm_kl 135) 294 = some (.aload_n 0, 1) := by decide +kernel
theorem k135_295 : pm_look (pm_kl 135) 295 = some (.iconst 4, 1) := by decide +kernel
theorem k135_296 : pm_look (pm_kl 135) 296 = some (.newarray .int, 2) := by decide +kernel
theorem k135_298 : pm_look (pm_kl 135) 298 = some (.putfield 121, 3) := by decide +kernel
theorem k135_301 : pm_look (pm_kl 135) 301 = some (.aload_n 0, 1) := by decide +kernel
theorem k135_302 : pm_look (pm_kl 135) 302 = some (.bipush 20, 2) := by decide +kernel
theorem k135_304 : pm_look (pm_kl 135) 304 = some (.newarray .int, 2) := by decide +kernel
theorem k135_306 : pm_look (pm_kl 135) 306 = some (.putfield 124, 3) := by decide +kernel
theorem k135_309 : pm_look (pm_kl 135) 309 = some (.aload_n 0, 1) := by decide +kernel
theorem k135_310 : pm_look (pm_kl 135) 310 = some (.bipush 60, 2) := by decide +kernel
theorem k135_312 : pm_look (pm_kl 135) 312 = some (.newarray .int, 2) := by decide +kernel
theorem k135_314 : pm_look (pm_kl 135) 314 = some (.putfield 127, 3) := by decide +kernel
theorem k135_317 : pm_look (pm_kl 135) 317 = some (.aload_n 0, 1) := by decide +kernel
theorem k135_318 : pm_look (pm_kl 135) 318 = some (.iconst (-1), 1) := by decide +kernel
theorem k135_319 : pm_look (pm_kl 135) 319 = some (.invokevirtual 130, 3) := by decide +kernel
theorem k135_322 : pm_look (pm_kl 135) 322 = some (.return_, 1) := by decide +kernel
theorem k136_0 : pm_look (pm_kl 136) 0 = some (.lload_n 0, 1) := by decide +kernel
theorem k136_1 : pm_look (pm_kl 136) 1 = some (.lload_n 2, 1) := by decide +kernel
theorem k136_2 : pm_look (pm_kl 136) 2 = some (.lcmp, 1) := by decide +kernel
theorem k136_3 : pm_look (pm_kl 136) 3 = some (.ifCond .lt 14, 3) := by decide +kernel
theorem k136_6 : pm_look (pm_kl 136) 6 = some (.lload_n 0, 1) := by decide +kernel
theorem k136_7 : pm_look (pm_kl 136) 7 = some (.lload 4, 2) := by decide +kernel
theorem k136_9 : pm_look (pm_kl 136) 9 = some (.lcmp, 1) := by decide +kernel
theorem k136_10 : pm_look (pm_kl 136) 10 = some (.ifCond .gt 7, 3) := by decide +kernel
theorem k136_13 : pm_look (pm_kl 136) 13 = some (.iconst 1, 1) := by decide +kernel
theorem k136_14 : pm_look (pm_kl 136) 14 = some (.goto 4, 3) := by decide +kernel
theorem k136_17 : pm_look (pm_kl 136) 17 = some (.iconst 0, 1) := by decide +kernel
theorem k136_18 : pm_look (pm_kl 136) 18 = some (.ireturn, 1) := by decide +kernel
theorem k137_0 : pm_look (pm_kl 137) 0 = some (.iload_n 1, 1) := by decide +kernel
theorem k137_1 : pm_look (pm_kl 137) 1 = some (.i2l, 1) := by decide +kernel
theorem k137_2 : pm_look (pm_kl 137) 2 = some (.lconst 0, 1) := by decide +kernel
theorem k137_3 : pm_look (pm_kl 137) 3 = some (.aload_n 0, 1) := by decide +kernel
theorem k137_4 : pm_look (pm_kl 137) 4 = some (.getfield 134, 3) := by decide +kernel
theorem k137_7 : pm_look (pm_kl 137) 7 = some (.iconst 1, 1) := by decide +kernel
theorem k137_8 : pm_look (pm_kl 137) 8 = some (.isub, 1) := by decide +kernel
theorem k137_9 : pm_look (pm_kl 137) 9 = some (.i2l, 1) := by decide +kernel
theorem k137_10 : pm_look (pm_kl 137) 10 = some (.invokestatic 137, 3) := by decide +kernel
theorem k137_13 : pm_look (pm_kl 137) 13 = some (.ireturn, 1) := by decide +kernel
theorem k138_0 : pm_look (pm_kl 138) 0 = some (.iload_n 1, 1) := by decide +kernel
theorem k138_1 : pm_look (pm_kl 138) 1 = some (.i2l, 1) := by decide +kernel
theorem k138_2 : pm_look (pm_kl 138) 2 = some (.lconst 0, 1) := by decide +kernel
theorem k138_3 : pm_look (pm_kl 138) 3 = some (.aload_n 0, 1) := by decide +kernel
theorem k138_4 : pm_look (pm_kl 138) 4 = some (.getfield 141, 3) := by decide +kernel
theorem k138_7 : pm_look (pm_kl 138) 7 = some (.i2l, 1) := by decide +kernel
theorem k138_8 : pm_look (pm_kl 138) 8 = some (.invokestatic 137, 3) := by decide +kernel
theorem k138_11 : pm_look (pm_kl 138) 11 = some (.ireturn, 1) := by decide +kernel
theorem k139_0 : pm_look (pm_kl 139) 0 = some (.aload_n 0, 1) := by decide +kernel
theorem k139_1 : pm_look (pm_kl 139) 1 = some (.getfield 7, 3) := by decide +kernel
theorem k139_4 : pm_look (pm_kl 139) 4 = some (.aload_n 0, 1) := by decide +kernel
theorem k139_5 : pm_look (pm_kl 139) 5 = some (.getfield 134, 3) := by decide +kernel
theorem k139_8 : pm_look (pm_kl 139) 8 = some (.aload_n 0, 1) := by decide +kernel
theorem k139_9 : pm_look (pm_kl 139) 9 = some (.getfield 141, 3) := by decide +kernel
theorem k139_12 : pm_look (pm_kl 139) 12 = some (.iastore, 1) := by decide +kernel
theorem k139_13 : pm_look (pm_kl 139) 13 = some (.aload_n 0, 1) := by decide +kernel
theorem k139_14 : pm_look (pm_kl 139) 14 = some (.getfield 13, 3) := by decide +kernel
theorem k139_17 : pm_look (pm_kl 139) 17 = some (.aload_n 0, 1) := by decide +kernel
theorem k139_18 : pm_look (pm_kl 139) 18 = some (.getfield 134, 3) := by decide +kernel
theorem k139_21 : pm_look (pm_kl 139) 21 = some (.iconst (-1), 1) := by decide +kernel
theorem k139_22 : pm_look (pm_kl 139) 22 = some (.iastore, 1) := by decide +kernel
theorem k139_23 : pm_look (pm_kl 139) 23 = some (.aload_n 0, 1) := by decide +kernel
theorem k139_24 : pm_look (pm_kl 139) 24 = some (.getfield 16, 3) := by decide +kernel
theorem k139_27 : pm_look (pm_kl 139) 27 = some (.aload_n 0, 1) := by decide +kernel
theorem k139_28 : pm_look (pm_kl 139) 28 = some (.getfield 134, 3) := by decide +kernel
theorem k139_31 : pm_look (pm_kl 139) 31 = some (.iconst (-1), 1) := by decide +kernel
theorem k139_32 : pm_look (pm_kl 139) 32 = some (.iastore, 1) := by decide +kernel
theorem k139_33 : pm_look (pm_kl 139) 33 = some (.aload_n 0, 1) := by decide +kernel
theorem k139_34 : pm_look (pm_kl 139) 34 = some (.dup, 1) := by decide +kernel
theorem k139_35 : pm_look (pm_kl 139) 35 = some (.getfield 134, 3) := by decide +kernel
theorem k139_38 : pm_look (pm_kl 139) 38 = some (.iconst 1, 1) := by decide +kernel
theorem k139_39 : pm_look (pm_kl 139) 39 = some (.iadd, 1) := by decide +kernel
theorem k139_40 : pm_look (pm_kl 139) 40 = some (.putfield 134, 3) := by decide +kernel
theorem k139_43 : pm_look (pm_kl 139) 43 = some (.aload_n 0, 1) := by decide +kernel
theorem k139_44 : pm_look (pm_kl 139) 44 = some (.aload_n 0, 1) := by decide +kernel
theorem k139_45 : pm_look (pm_kl 139) 45 = some (.getfield 134, 3) := by decide +kernel
theorem k139_48 : pm_look (pm_kl 139) 48 = some (.iconst 1, 1) := by decide +kernel
theorem k139_49 : pm_look (pm_kl 139) 49 = some (.isub, 1) := by decide +kernel
theorem k139_50 : pm_look (pm_kl 139) 50 = some (.iload_n 1, 1) := by decide +kernel
theorem k139_51 : pm_look (pm_kl 139) 51 = some (.invokevirtual 144, 3) := by decide +kernel
theorem k139_54 : pm_look (pm_kl 139) 54 = some (.return_, 1) := by decide +kernel
theorem k140_0 : pm_look (pm_kl 140) 0 = some (.aload_n 0, 1) := by decide +kernel
theorem k140_1 : pm_look (pm_kl 140) 1 = some (.getfield 141, 3) := by decide +kernel
theorem k140_4 : pm_look (pm_kl 140) 4 = some (.istore_n 3, 1) := by decide +kernel
theorem k140_5 : pm_look (pm_kl 140) 5 = some (.iload_n 3, 1) := by decide +kernel
theorem k140_6 : pm_look (pm_kl 140) 6 = some (.bipush 10, 2) := by decide +kernel
theorem k140_8 : pm_look (pm_kl 140) 8 = some (.if_icmp .ge 21, 3) := by decide +kernel
theorem k140_11 : pm_look (pm_kl 140) 11 = some (.aload_n 0, 1) := by decide +kernel
theorem k140_12 : pm_look (pm_kl 140) 12 = some (.getfield 19, 3) := by decide +kernel
theorem k140_15 : pm_look (pm_kl 140) 15 = some (.bipush 10, 2) := by decide +kernel
theorem k140_17 : pm_look (pm_kl 140) 17 = some (.iload_n 1, 1) := by decide +kernel
theorem k140_18 : pm_look (pm_kl 140) 18 = some (.imul, 1) := by decide +kernel
theorem k140_19 : pm_look (pm_kl 140) 19 = some (.iload_n 3, 1) := by decide +kernel
theorem k140_20 : pm_look (pm_kl 140) 20 = some (.iadd, 1) := by decide +kernel
theorem k140_21 : pm_look (pm_kl 140) 21 = some (.iload_n 2, 1) := by decide +kernel
theorem k140_22 : pm_look (pm_kl 140) 22 = some (.iastore, 1) := by decide +kernel
theorem k140_23 : pm_look (pm_kl 140) 23 = some (.iinc 3 1, 3) := by decide +kernel
theorem k140_26 : pm_look (pm_kl 140) 26 = some (.goto (-21), 3) := by decide +kernel
theorem k140_29 : pm_look (pm_kl 140) 29 = some (.return_, 1) := by decide +kernel
theorem k141_0 : pm_look (pm_kl 141) 0 = some (.aload_n 0, 1) := by decide +kernel
theorem k141_1 : pm_look (pm_kl 141) 1 = some (.iload_n 1, 1) := by decide +kernel
theorem k141_2 : pm_look (pm_kl 141) 2 = some (.invokevirtual 148, 3) := by decide +kernel
theorem k141_5 : pm_look (pm_kl 141) 5 = some (.ifCond .eq 17, 3) := by decide +kernel
theorem k141_8 : pm_look (pm_kl 141) 8 = some (.aload_n 0, 1) := by decide +kernel
theorem k141_9 : pm_look (pm_kl 141) 9 = some (.getfield 7, 3) := by decide +kernel
theorem k141_12 : pm_look (pm_kl 141) 12 = some (.iload_n 1, 1) := by decide +kernel
theorem k141_13 : pm_look (pm_kl 141) 13 = some (.iaload, 1) := by decide +kernel
theorem k141_14 : pm_look (pm_kl 141) 14 = some (.iload_n 2, 1) := by decide +kernel
theorem k141_15 : pm_look (pm_kl 141) 15 = some (.if_icmp .gt 7, 3) := by decide +kernel
theorem k141_18 : pm_look (pm_kl 141) 18 = some (.iconst 1, 1) := by decide +kernel
theorem k141_19 : pm_look (pm_kl 141) 19 = some (.goto 4, 3) := by decide +kernel
theorem k141_22 : pm_look (pm_kl 141) 22 = some (.iconst 0, 1) := by decide +kernel
theorem k141_23 : pm_look (pm_kl 141) 23 = some (.ireturn, 1) := by decide +kernel
theorem k142_0 : pm_look (pm_kl 142) 0 = some (.aload_n 0, 1) := by decide +kernel
theorem k142_1 : pm_look (pm_kl 142) 1 = some (.iload_n 1, 1) := by decide +kernel
theorem k142_2 : pm_look (pm_kl 142) 2 = some (.iload_n 2, 1) := by decide +kernel
theorem k142_3 : pm_look (pm_kl 142) 3 = some (.invokevirtual 152, 3) := by decide +kernel
theorem k142_6 : pm_look (pm_kl 142) 6 = some (.ifCond .eq 26, 3) := by decide +kernel
theorem k142_9 : pm_look (pm_kl 142) 9 = some (.aload_n 0, 1) := by decide +kernel
theorem k142_10 : pm_look (pm_kl 142) 10 = some (.getfield 13, 3) := by decide +kernel
theorem k142_13 : pm_look (pm_kl 142) 13 = some (.iload_n 1, 1) := by decide +kernel
theorem k142_14 : pm_look (pm_kl 142) 14 = some (.iaload, 1) := by decide +kernel
theorem k142_15 : pm_look (pm_kl 142) 15 = some (.ifCond .lt 13, 3) := by decide +kernel
theorem k142_18 : pm_look (pm_kl 142) 18 = some (.aload_n 0, 1) := by decide +kernel
theorem k142_19 : pm_look (pm_kl 142) 19 = some (.getfield 13, 3) := by decide +kernel
theorem k142_22 : pm_look (pm_kl 142) 22 = some (.iload_n 1, 1) := by decide +kernel
theorem k142_23 : pm_look (pm_kl 142) 23 = some (.iaload, 1) := by decide +kernel
theorem k142_24 : pm_look (pm_kl 142) 24 = some (.iload_n 2, 1) := by decide +kernel
theorem k142_25 : pm_look (pm_kl 142) 25 = some (.if_icmp .le 7, 3) := by decide +kernel
theorem k142_28 : pm_look (pm_kl 142) 28 = some (.iconst 1, 1) := by decide +kernel
theorem k142_29 : pm_look (pm_kl 142) 29 = some (.goto 4, 3) := by decide +kernel
theorem k142_32 : pm_look (pm_kl 142) 32 = some (.iconst 0, 1) := by decide +kernel
theorem k142_33 : pm_look (pm_kl 142) 33 = some (.ireturn, 1) := by decide +kernel
theorem k143_0 : pm_look (pm_kl 143) 0 = some (.aload_n 0, 1) := by decide +kernel
theorem k143_1 : pm_look (pm_kl 143) 1 = some (.iload_n 1, 1) := by decide +kernel
theorem k143_2 : pm_look (pm_kl 143) 2 = some (.iload_n 3, 1) := by decide +kernel
theorem k143_3 : pm_look (pm_kl 143) 3 = some (.invokevirtual 152, 3) := by decide +kernel
theorem k143_6 : pm_look (pm_kl 143) 6 = some (.ifCond .eq 16, 3) := by decide +kernel
theorem k143_9 : pm_look (pm_kl 143) 9 = some (.aload_n 0, 1) := by decide +kernel
theorem k143_10 : pm_look (pm_kl 143) 10 = some (.iload_n 2, 1) := by decide +kernel
theorem k143_11 : pm_look (pm_kl 143) 11 = some (.iload_n 3, 1) := by decide +kernel
theorem k143_12 : pm_look (pm_kl 143) 12 = some (.invokevirtual 152, 3) := by decide +kernel
theorem k143_15 : pm_look (pm_kl 143) 15 = some (.ifCond .eq 7, 3) := by decide +kernel
theorem k143_18 : pm_look (pm_kl 143) 18 = some (.iload_n 1, 1) := by decide +kernel
theorem k143_19 : pm_look (pm_kl 143) 19 = some (.goto 4, 3) := by decide +kernel
theorem k143_22 : pm_look (pm_kl 143) 22 = some (.iconst (-1), 1) := by decide +kernel
theorem k143_23 : pm_look (pm_kl 143) 23 = some (.istore 4, 2) := by decide +kernel
theorem k143_25 : pm_look (pm_kl 143) 25 = some (.iload 4, 2) := by decide +kernel
theorem k143_27 : pm_look (pm_kl 143) 27 = some (.ifCond .lt 26, 3) := by decide +kernel
theorem k143_30 : pm_look (pm_kl 143) 30 = some (.iload 4, 2) := by decide +kernel
theorem k143_32 : pm_look (pm_kl 143) 32 = some (.iload_n 2, 1) := by decide +kernel
theorem k143_33 : pm_look (pm_kl 143) 33 = some (.if_icmp .eq 20, 3) := by decide +kernel
theorem k143_36 : pm_look (pm_kl 143) 36 = some (.aload_n 0, 1) := by decide +kernel
theorem k143_37 : pm_look (pm_kl 143) 37 = some (.getfield 19, 3) := by decide +kernel
theorem k143_40 : pm_look (pm_kl 143) 40 = some (.bipush 10, 2) := by decide +kernel
theorem k143_42 : pm_look (pm_kl 143) 42 = some (.iload 4, 2) := by decide +kernel
theorem k143_44 : pm_look (pm_kl 143) 44 = some (.imul, 1) := by decide +kernel
theorem k143_45 : pm_look (pm_kl 143) 45 = some (.iload_n 3, 1) := by decide +kernel
theorem k143_46 : pm_look (pm_kl 143) 46 = some (.iadd, 1) := by decide +kernel
theorem k143_47 : pm_look (pm_kl 143) 47 = some (.iaload, 1) := by decide +kernel
theorem k143_48 : pm_look (pm_kl 143) 48 = some (.istore 4, 2) := by decide +kernel
theorem k143_50 : pm_look (pm_kl 143) 50 = some (.goto (-25), 3) := by decide +kernel
theorem k143_53 : pm_look (pm_kl 143) 53 = some (.iload 4, 2) := by decide +kernel
theorem k143_55 : pm_look (pm_kl 143) 55 = some (.ifCond .lt 7, 3) := by decide +kernel
theorem k143_58 : pm_look (pm_kl 143) 58 = some (.iconst 1, 1) := by decide +kernel
theorem k143_59 : pm_look (pm_kl 143) 59 = some (.goto 4, 3) := by decide +kernel
theorem k143_62 : pm_look (pm_kl 143) 62 = some (.iconst 0, 1) := by decide +kernel
theorem k143_63 : pm_look (pm_kl 143) 63 = some (.ireturn, 1) := by decide +kernel
theorem k144_0 : pm_look (pm_kl 144) 0 = some (.iconst 0, 1) := by decide +kernel
theorem k144_1 : pm_look (pm_kl 144) 1 = some (.istore_n 3, 1) := by decide +kernel
theorem k144_2 : pm_look (pm_kl 144) 2 = some (.iconst 0, 1) := by decide +kernel
theorem k144_3 : pm_look (pm_kl 144) 3 = some (.istore 4, 2) := by decide +kernel
theorem k144_5 : pm_look (pm_kl 144) 5 = some (.iload 4, 2) := by decide +kernel
theorem k144_7 : pm_look (pm_kl 144) 7 = some (.aload_n 0, 1) := by decide +kernel
theorem k144_8 : pm_look (pm_kl 144) 8 = some (.getfield 134, 3) := by decide +kernel
theorem k144_11 : pm_look (pm_kl 144) 11 = some (.if_icmp .ge 28, 3) := by decide +kernel
theorem k144_14 : pm_look (pm_kl 144) 14 = some (.iload_n 3, 1) := by decide +kernel
theorem k144_15 : pm_look (pm_kl 144) 15 = some (.aload_n 0, 1) := by decide +kernel
theorem k144_16 : pm_look (pm_kl 144) 16 = some (.iload 4, 2) := by decide +kernel
theorem k144_18 : pm_look (pm_kl 144) 18 = some (.iload_n 1, 1) := by decide +kernel
theorem k144_19 : pm_look (pm_kl 144) 19 = some (.iload_n 2, 1) := by decide +kernel
theorem k144_20 : pm_look (pm_kl 144) 20 = some (.invokevirtual 156, 3) := by decide +kernel
theorem k144_23 : pm_look (pm_kl 144) 23 = some (.ifCond .eq 7, 3) := by decide +kernel
theorem k144_26 : pm_look (pm_kl 144) 26 = some (.iconst 1, 1) := by decide +kernel
theorem k144_27 : pm_look (pm_kl 144) 27 = some (.goto 4, 3) := by decide +kernel
theorem k144_30 : pm_look (pm_kl 144) 30 = some (.iconst 0, 1) := by decide +kernel
theorem k144_31 : pm_look (pm_kl 144) 31 = some (.iadd, 1) := by decide +kernel
theorem k144_32 : pm_look (pm_kl 144) 32 = some (.istore_n 3, 1) := by decide +kernel
theorem k144_33 : pm_look (pm_kl 144) 33 = some (.iinc 4 1, 3) := by decide +kernel
theorem k144_36 : pm_look (pm_kl 144) 36 = some (.goto (-31), 3) := by decide +kernel
theorem k144_39 : pm_look (pm_kl 144) 39 = some (.iload_n 3, 1) := by decide +kernel
theorem k144_40 : pm_look (pm_kl 144) 40 = some (.ireturn, 1) := by decide +kernel
theorem k145_0 : pm_look (pm_kl 145) 0 = some (.aload_n 0, 1) := by decide +kernel
theorem k145_1 : pm_look (pm_kl 145) 1 = some (.getfield 141, 3) := by decide +kernel
theorem k145_4 : pm_look (pm_kl 145) 4 = some (.bipush 9, 2) := by decide +kernel
theorem k145_6 : pm_look (pm_kl 145) 6 = some (.if_icmp .ne 7, 3) := by decide +kernel
theorem k145_9 : pm_look (pm_kl 145) 9 = some (.sipush (-1003), 3) := by decide +kernel
theorem k145_12 : pm_look (pm_kl 145) 12 = some (.ireturn, 1) := by decide +kernel
theorem k145_13 : pm_look (pm_kl 145) 13 = some (.aload_n 0, 1) := by decide +kernel
theorem k145_14 : pm_look (pm_kl 145) 14 = some (.dup, 1) := by decide +kernel
theorem k145_15 : pm_look (pm_kl 145) 15 = some (.getfield 141, 3) := by decide +kernel
theorem k145_18 : pm_look (pm_kl 145) 18 = some (.iconst 1, 1) := by decide +kernel
theorem k145_19 : pm_look (pm_kl 145) 19 = some (.iadd, 1) := by decide +kernel
theorem k145_20 : pm_look (pm_kl 145) 20 = some (.putfield 141, 3) := by decide +kernel
theorem k145_23 : pm_look (pm_kl 145) 23 = some (.aload_n 0, 1) := by decide +kernel
theorem k145_24 : pm_look (pm_kl 145) 24 = some (.getfield 141, 3) := by decide +kernel
theorem k145_27 : pm_look (pm_kl 145) 27 = some (.ireturn, 1) := by decide +kernel
theorem k146_0 : pm_look (pm_kl 146) 0 = some (.aload_n 0, 1) := by decide +kernel
theorem k146_1 : pm_look (pm_kl 146) 1 = some (.iload_n 1, 1) := by decide +kernel
theorem k146_2 : pm_look (pm_kl 146) 2 = some (.invokevirtual 148, 3) := by decide +kernel
theorem k146_5 : pm_look (pm_kl 146) 5 = some (.ifCond .ne 7, 3) := by decide +kernel
theorem k146_8 : pm_look (pm_kl 146) 8 = some (.sipush (-1001), 3) := by decide +kernel
theorem k146_11 : pm_look (pm_kl 146) 11 = some (.ireturn, 1) := by decide +kernel
theorem k146_12 : pm_look (pm_kl 146) 12 = some (.aload_n 0, 1) := by decide +kernel
theorem k146_13 : pm_look (pm_kl 146) 13 = some (.iload_n 1, 1) := by decide +kernel
theorem k146_14 : pm_look (pm_kl 146) 14 = some (.aload_n 0, 1) := by decide +kernel
theorem k146_15 : pm_look (pm_kl 146) 15 = some (.getfield 141, 3) := by decide +kernel
theorem k146_18 : pm_look (pm_kl 146) 18 = some (.invokevirtual 160, 3) := by decide +kernel
theorem k146_21 : pm_look (pm_kl 146) 21 = some (.ifCond .ne 7, 3) := by decide +kernel
theorem k146_24 : pm_look (pm_kl 146) 24 = some (.sipush (-1003), 3) := by decide +kernel
theorem k146_27 : pm_look (pm_kl 146) 27 = some (.ireturn, 1) := by decide +kernel
theorem k146_28 : pm_look (pm_kl 146) 28 = some (.aload_n 0, 1) := by decide +kernel
theorem k146_29 : pm_look (pm_kl 146) 29 = some (.getfield 134, 3) := by decide +kernel
theorem k146_32 : pm_look (pm_kl 146) 32 = some (.bipush 40, 2) := by decide +kernel
theorem k146_34 : pm_look (pm_kl 146) 34 = some (.if_icmp .ne 7, 3) := by decide +kernel
theorem k146_37 : pm_look (pm_kl 146) 37 = some (.sipush (-1004), 3) := by decide +kernel
theorem k146_40 : pm_look (pm_kl 146) 40 = some (.ireturn, 1) := by decide +kernel
theorem k146_41 : pm_look (pm_kl 146) 41 = some (.aload_n 0, 1) := by decide +kernel
theorem k146_42 : pm_look (pm_kl 146) 42 = some (.iload_n 1, 1) := by decide +kernel
theorem k146_43 : pm_look (pm_kl 146) 43 = some (.invokevirtual 130, 3) := by decide +kernel
theorem k146_46 : pm_look (pm_kl 146) 46 = some (.aload_n 0, 1) := by decide +kernel
theorem k146_47 : pm_look (pm_kl 146) 47 = some (.getfield 134, 3) := by decide +kernel
theorem k146_50 : pm_look (pm_kl 146) 50 = some (.iconst 1, 1) := by decide +kernel
theorem k146_51 : pm_look (pm_kl 146) 51 = some (.isub, 1) := by decide +kernel
theorem k146_52 : pm_look (pm_kl 146) 52 = some (.ireturn, 1) := by decide +kernel
theorem k147_0 : pm_look (pm_kl 147) 0 = some (.aload_n 0, 1) := by decide +kernel
theorem k147_1 : pm_look (pm_kl 147) 1 = some (.iload_n 1, 1) := by decide +kernel
theorem k147_2 : pm_look (pm_kl 147) 2 = some (.invokevirtual 148, 3) := by decide +kernel
theorem k147_5 : pm_look (pm_kl 147) 5 = some (.ifCond .eq 11, 3) := by decide +kernel
theorem k147_8 : pm_look (pm_kl 147) 8 = some (.aload_n 0, 1) := by decide +kernel
theorem k147_9 : pm_look (pm_kl 147) 9 = some (.iload_n 2, 1) := by decide +kernel
theorem k147_10 : pm_look (pm_kl 147) 10 = some (.invokevirtual 148, 3) := by decide +kernel
theorem k147_13 : pm_look (pm_kl 147) 13 = some (.ifCond .ne 7, 3) := by decide +kernel
theorem k147_16 : pm_look (pm_kl 147) 16 = some (.sipush (-1001), 3) := by decide +kernel
theorem k147_19 : pm_look (pm_kl 147) 19 = some (.ireturn, 1) := by decide +kernel
theorem k147_20 : pm_look (pm_kl 147) 20 = some (.iload_n 1, 1) := by decide +kernel
theorem k147_21 : pm_look (pm_kl 147) 21 = some (.ifCond .eq 40, 3) := by decide +kernel
theorem k147_24 : pm_look (pm_kl 147) 24 = some (.aload_n 0, 1) := by decide +kernel
theorem k147_25 : pm_look (pm_kl 147) 25 = some (.iload_n 1, 1) := by decide +kernel
theorem k147_26 : pm_look (pm_kl 147) 26 = some (.aload_n 0, 1) := by decide +kernel
theorem k147_27 : pm_look (pm_kl 147) 27 = some (.getfield 141, 3) := by decide +kernel
theorem k147_30 : pm_look (pm_kl 147) 30 = some (.invokevirtual 160, 3) := by decide +kernel
theorem k147_33 : pm_look (pm_kl 147) 33 = some (.ifCond .eq 28, 3) := by decide +kernel
theorem k147_36 : pm_look (pm_kl 147) 36 = some (.aload_n 0, 1) := by decide +kernel
theorem k147_37 : pm_look (pm_kl 147) 37 = some (.iload_n 2, 1) := by decide +kernel
theorem k147_38 : pm_look (pm_kl 147) 38 = some (.aload_n 0, 1) := by decide +kernel
theorem k147_39 : pm_look (pm_kl 147) 39 = some (.getfield 141, 3) := by decide +kernel
theorem k147_42 : pm_look (pm_kl 147) 42 = some (.invokevirtual 160, 3) := by decide +kernel
theorem k147_45 : pm_look (pm_kl 147) 45 = some (.ifCond .eq 16, 3) := by decide +kernel
theorem k147_48 : pm_look (pm_kl 147) 48 = some (.aload_n 0, 1) := by decide +kernel
theorem k147_49 : pm_look (pm_kl 147) 49 = some (.iload_n 2, 1) := by decide +kernel
theorem k147_50 : pm_look (pm_kl 147) 50 = some (.iload_n 1, 1) := by decide +kernel
theorem k147_51 : pm_look (pm_kl 147) 51 = some (.aload_n 0, 1) := by decide +kernel
theorem k147_52 : pm_look (pm_kl 147) 52 = some (.getfield 141, 3) := by decide +kernel
theorem k147_55 : pm_look (pm_kl 147) 55 = some (.invokevirtual 156, 3) := by decide +kernel
theorem k147_58 : pm_look (pm_kl 147) 58 = some (.ifCond .eq 7, 3) := by decide +kernel
theorem k147_61 : pm_look (pm_kl 147) 61 = some (.sipush (-1003), 3) := by decide +kernel
theorem k147_64 : pm_look (pm_kl 147) 64 = some (.ireturn, 1) := by decide +kernel
theorem k147_65 : pm_look (pm_kl 147) 65 = some (.aload_n 0, 1) := by decide +kernel
theorem k147_66 : pm_look (pm_kl 147) 66 = some (.getfield 19, 3) := by decide +kernel
theorem k147_69 : pm_look (pm_kl 147) 69 = some (.bipush 10, 2) := by decide +kernel
theorem k147_71 : pm_look (pm_kl 147) 71 = some (.iload_n 1, 1) := by decide +kernel
theorem k147_72 : pm_look (pm_kl 147) 72 = some (.imul, 1) := by decide +kernel
theorem k147_73 : pm_look (pm_kl 147) 73 = some (.aload_n 0, 1) := by decide +kernel
theorem k147_74 : pm_look (pm_kl 147) 74 = some (.getfield 141, 3) := by decide +kernel
theorem k147_77 : pm_look (pm_kl 147) 77 = some (.iadd, 1) := by decide +kernel
theorem k147_78 : pm_look (pm_kl 147) 78 = some (.iaload, 1) := by decide +kernel
theorem k147_79 : pm_look (pm_kl 147) 79 = some (.istore_n 3, 1) := by decide +kernel
theorem k147_80 : pm_look (pm_kl 147) 80 = some (.aload_n 0, 1) := by decide +kernel
theorem k147_81 : pm_look (pm_kl 147) 81 = some (.iload_n 1, 1) := by decide +kernel
theorem k147_82 : pm_look (pm_kl 147) 82 = some (.iload_n 2, 1) := by decide +kernel
theorem k147_83 : pm_look (pm_kl 147) 83 = some (.invokevirtual 144, 3) := by decide +kernel
theorem k147_86 : pm_look (pm_kl 147) 86 = some (.iload_n 3, 1) := by decide +kernel
theorem k147_87 : pm_look (pm_kl 147) 87 = some (.ireturn, 1) := by decide +kernel
theorem k148_0 : pm_look (pm_kl 148) 0 = some (.aload_n 0, 1) := by decide +kernel
theorem k148_1 : pm_look (pm_kl 148) 1 = some (.iload_n 1, 1) := by decide +kernel
theorem k148_2 : pm_look (pm_kl 148) 2 = some (.invokevirtual 148, 3) := by decide +kernel
theorem k148_5 : pm_look (pm_kl 148) 5 = some (.ifCond .eq 16, 3) := by decide +kernel
theorem k148_8 : pm_look (pm_kl 148) 8 = some (.iload_n 2, 1) := by decide +kernel
theorem k148_9 : pm_look (pm_kl 148) 9 = some (.iconst (-1), 1) := by decide +kernel
theorem k148_10 : pm_look (pm_kl 148) 10 = some (.if_icmp .eq 15, 3) := by decide +kernel
theorem k148_13 : pm_look (pm_kl 148) 13 = some (.aload_n 0, 1) := by decide +kernel
theorem k148_14 : pm_look (pm_kl 148) 14 = some (.iload_n 2, 1) := by decide +kernel
theorem k148_15 : pm_look (pm_kl 148) 15 = some (.invokevirtual 148, 3) := by decide +kernel
theorem k148_18 : pm_look (pm_kl 148) 18 = some (.ifCond .ne 7, 3) := by decide +kernel
theorem k148_21 : pm_look (pm_kl 148) 21 = some (.sipush (-1001), 3) := by decide +kernel
theorem k148_24 : pm_look (pm_kl 148) 24 = some (.ireturn, 1) := by decide +kernel
theorem k148_25 : pm_look (pm_kl 148) 25 = some (.iload_n 1, 1) := by decide +kernel
theorem k148_26 : pm_look (pm_kl 148) 26 = some (.ifCond .eq 37, 3) := by decide +kernel
theorem k148_29 : pm_look (pm_kl 148) 29 = some (.iload_n 1, 1) := by decide +kernel
theorem k148_30 : pm_look (pm_kl 148) 30 = some (.iload_n 2, 1) := by decide +kernel
theorem k148_31 : pm_look (pm_kl 148) 31 = some (.if_icmp .eq 32, 3) := by decide +kernel
theorem k148_34 : pm_look (pm_kl 148) 34 = some (.aload_n 0, 1) := by decide +kernel
theorem k148_35 : pm_look (pm_kl 148) 35 = some (.iload_n 1, 1) := by decide +kernel
theorem k148_36 : pm_look (pm_kl 148) 36 = some (.aload_n 0, 1) := by decide +kernel
theorem k148_37 : pm_look (pm_kl 148) 37 = some (.getfield 141, 3) := by decide +kernel
theorem k148_40 : pm_look (pm_kl 148) 40 = some (.invokevirtual 160, 3) := by decide +kernel
theorem k148_43 : pm_look (pm_kl 148) 43 = some (.ifCond .eq 20, 3) := by decide +kernel
theorem k148_46 : pm_look (pm_kl 148) 46 = some (.iload_n 2, 1) := by decide +kernel
theorem k148_47 : pm_look (pm_kl 148) 47 = some (.iconst (-1), 1) := by decide +kernel
theorem k148_48 : pm_look (pm_kl 148) 48 = some (.if_icmp .eq 19, 3) := by decide +kernel
theorem k148_51 : pm_look (pm_kl 148) 51 = some (.aload_n 0, 1) := by decide +kernel
theorem k148_52 : pm_look (pm_kl 148) 52 = some (.iload_n 2, 1) := by decide +kernel
theorem k148_53 : pm_look (pm_kl 148) 53 = some (.aload_n 0, 1) := by decide +kernel
theorem k148_54 : pm_look (pm_kl 148) 54 = some (.getfield 141, 3) := by decide +kernel
theorem k148_57 : pm_look (pm_kl 148) 57 = some (.invokevirtual 160, 3) := by decide +kernel
theorem k148_60 : pm_look (pm_kl 148) 60 = some (.ifCond .ne 7, 3) := by decide +kernel
theorem k148_63 : pm_look (pm_kl 148) 63 = some (.sipush (-1003), 3) := by decide +kernel
theorem k148_66 : pm_look (pm_kl 148) 66 = some (.ireturn, 1) := by decide +kernel
theorem k148_67 : pm_look (pm_kl 148) 67 = some (.aload_n 0, 1) := by decide +kernel
theorem k148_68 : pm_look (pm_kl 148) 68 = some (.getfield 13, 3) := by decide +kernel
theorem k148_71 : pm_look (pm_kl 148) 71 = some (.iload_n 1, 1) := by decide +kernel
theorem k148_72 : pm_look (pm_kl 148) 72 = some (.aload_n 0, 1) := by decide +kernel
theorem k148_73 : pm_look (pm_kl 148) 73 = some (.getfield 141, 3) := by decide +kernel
theorem k148_76 : pm_look (pm_kl 148) 76 = some (.iastore, 1) := by decide +kernel
theorem k148_77 : pm_look (pm_kl 148) 77 = some (.aload_n 0, 1) := by decide +kernel
theorem k148_78 : pm_look (pm_kl 148) 78 = some (.getfield 16, 3) := by decide +kernel
theorem k148_81 : pm_look (pm_kl 148) 81 = some (.iload_n 1, 1) := by decide +kernel
theorem k148_82 : pm_look (pm_kl 148) 82 = some (.iload_n 2, 1) := by decide +kernel
theorem k148_83 : pm_look (pm_kl 148) 83 = some (.iastore, 1) := by decide +kernel
theorem k148_84 : pm_look (pm_kl 148) 84 = some (.aload_n 0, 1) := by decide +kernel
theorem k148_85 : pm_look (pm_kl 148) 85 = some (.iload_n 1, 1) := by decide +kernel
theorem k148_86 : pm_look (pm_kl 148) 86 = some (.aload_n 0, 1) := by decide +kernel
theorem k148_87 : pm_look (pm_kl 148) 87 = some (.getfield 141, 3) := by decide +kernel
theorem k148_90 : pm_look (pm_kl 148) 90 = some (.invokevirtual 163, 3) := by decide +kernel
theorem k148_93 : pm_look (pm_kl 148) 93 = some (.iconst 1, 1) := by decide +kernel
theorem k148_94 : pm_look (pm_kl 148) 94 = some (.isub, 1) := by decide +kernel
theorem k148_95 : pm_look (pm_kl 148) 95 = some (.ireturn, 1) := by decide +kernel
theorem k149_0 : pm_look (pm_kl 149) 0 = some (.aload_n 0, 1) := by decide +kernel
theorem k149_1 : pm_look (pm_kl 149) 1 = some (.iload_n 1, 1) := by decide +kernel
theorem k149_2 : pm_look (pm_kl 149) 2 = some (.invokevirtual 148, 3) := by decide +kernel
theorem k149_5 : pm_look (pm_kl 149) 5 = some (.ifCond .ne 7, 3) := by decide +kernel
theorem k149_8 : pm_look (pm_kl 149) 8 = some (.sipush (-1001), 3) := by decide +kernel
theorem k149_11 : pm_look (pm_kl 149) 11 = some (.ireturn, 1) := by decide +kernel
theorem k149_12 : pm_look (pm_kl 149) 12 = some (.aload_n 0, 1) := by decide +kernel
theorem k149_13 : pm_look (pm_kl 149) 13 = some (.iload_n 2, 1) := by decide +kernel
theorem k149_14 : pm_look (pm_kl 149) 14 = some (.invokevirtual 167, 3) := by decide +kernel
theorem k149_17 : pm_look (pm_kl 149) 17 = some (.ifCond .eq 15, 3) := by decide +kernel
theorem k149_20 : pm_look (pm_kl 149) 20 = some (.iload_n 3, 1) := by decide +kernel
theorem k149_21 : pm_look (pm_kl 149) 21 = some (.i2l, 1) := by decide +kernel
theorem k149_22 : pm_look (pm_kl 149) 22 = some (.lconst 0, 1) := by decide +kernel
theorem k149_23 : pm_look (pm_kl 149) 23 = some (.ldc2_w 170, 3) := by decide +kernel
theorem k149_26 : pm_look (pm_kl 149) 26 = some (.invokestatic 137, 3) := by decide +kernel
theorem k149_29 : pm_look (pm_kl 149) 29 = some (.ifCond .ne 7, 3) := by decide +kernel
theorem k149_32 : pm_look (pm_kl 149) 32 = some (.sipush (-1002), 3) := by decide +kernel
theorem k149_35 : pm_look (pm_kl 149) 35 = some (.ireturn, 1) := by decide +kernel
theorem k149_36 : pm_look (pm_kl 149) 36 = some (.iload_n 3, 1) := by decide +kernel
theorem k149_37 : pm_look (pm_kl 149) 37 = some (.tableswitch 107 0 5 #[39, 54, 79, 86, 93, 100], 39) := by decide +kernel
theorem k149_76 : pm_look (pm_kl 149) 76 = some (.aload_n 0, 1) := by decide +kernel
theorem k149_77 : pm_look (pm_kl 149) 77 = some (.iload_n 1, 1) := by decide +kernel
theorem k149_78 : pm_look (pm_kl 149) 78 = some (.iload_n 2, 1) := by decide +kernel
theorem k149_79 : pm_look (pm_kl 149) 79 = some (.invokevirtual 160, 3) := by decide +kernel
theorem k149_82 : pm_look (pm_kl 149) 82 = some (.ifCond .eq 7, 3) := by decide +kernel
theorem k149_85 : pm_look (pm_kl 149) 85 = some (.iconst 1, 1) := by decide +kernel
theorem k149_86 : pm_look (pm_kl 149) 86 = some (.goto 4, 3) := by decide +kernel
theorem k149_89 : pm_look (pm_kl 149) 89 = some (.iconst 0, 1) := by decide +kernel
theorem k149_90 : pm_look (pm_kl 149) 90 = some (.ireturn, 1) := by decide +kernel
theorem k149_91 : pm_look (pm_kl 149) 91 = some (.aload_n 0, 1) := by decide +kernel
theorem k149_92 : pm_look (pm_kl 149) 92 = some (.iload_n 1, 1) := by decide +kernel
theorem k149_93 : pm_look (pm_kl 149) 93 = some (.iload_n 2, 1) := by decide +kernel
theorem k149_94 : pm_look (pm_kl 149) 94 = some (.invokevirtual 152, 3) := by decide +kernel
theorem k149_97 : pm_look (pm_kl 149) 97 = some (.ifCond .eq 17, 3) := by decide +kernel
theorem k149_100 : pm_look (pm_kl 149) 100 = some (.aload_n 0, 1) := by decide +kernel
theorem k149_101 : pm_look (pm_kl 149) 101 = some (.getfield 19, 3) := by decide +kernel
theorem k149_104 : pm_look (pm_kl 149) 104 = some (.bipush 10, 2) := by decide +kernel
theorem k149_106 : pm_look (pm_kl 149) 106 = some (.iload_n 1, 1) := by decide +kernel
theorem k149_107 : pm_look (pm_kl 149) 107 = some (.imul, 1) := by decide +kernel
theorem k149_108 : pm_look (pm_kl 149) 108 = some (.iload_n 2, 1) := by decide +kernel
theorem k149_109 : pm_look (pm_kl 149) 109 = some (.iadd, 1) := by decide +kernel
theorem k149_110 : pm_look (pm_kl 149) 110 = some (.iaload, 1) := by decide +kernel
theorem k149_111 : pm_look (pm_kl 149) 111 = some (.goto 4, 3) := by decide +kernel
theorem k149_114 : pm_look (pm_kl 149) 114 = some (.iconst (-1), 1) := by decide +kernel
theorem k149_115 : pm_look (pm_kl 149) 115 = some (.ireturn, 1) := by decide +kernel
theorem k149_116 : pm_look (pm_kl 149) 116 = some (.aload_n 0, 1) := by decide +kernel
theorem k149_117 : pm_look (pm_kl 149) 117 = some (.iload_n 1, 1) := by decide +kernel
theorem k149_118 : pm_look (pm_kl 149) 118 = some (.iload_n 2, 1) := by decide +kernel
theorem k149_119 : pm_look (pm_kl 149) 119 = some (.invokevirtual 163, 3) := by decide +kernel
theorem k149_122 : pm_look (pm_kl 149) 122 = some (.ireturn, 1) := by decide +kernel
theorem k149_123 : pm_look (pm_kl 149) 123 = some (.aload_n 0, 1) := by decide +kernel
theorem k149_124 : pm_look (pm_kl 149) 124 = some (.getfield 16, 3) := by decide +kernel
theorem k149_127 : pm_look (pm_kl 149) 127 = some (.iload_n 1, 1) := by decide +kernel
theorem k149_128 : pm_look (pm_kl 149) 128 = some (.iaload, 1) := by decide +kernel
theorem k149_129 : pm_look (pm_kl 149) 129 = some (.ireturn, 1) := by decide +kernel
theorem k149_130 : pm_look (pm_kl 149) 130 = some (.aload_n 0, 1) := by decide +kernel
theorem k149_131 : pm_look (pm_kl 149) 131 = some (.getfield 7, 3) := by decide +kernel
theorem k149_134 : pm_look (pm_kl 149) 134 = some (.iload_n 1, 1) := by decide +kernel
theorem k149_135 : pm_look (pm_kl 149) 135 = some (.iaload, 1) := by decide +kernel
theorem k149_136 : pm_look (pm_kl 149) 136 = some (.ireturn, 1) := by decide +kernel
theorem k149_137 : pm_look (pm_kl 149) 137 = some (.aload_n 0, 1) := by decide +kernel
theorem k149_138 : pm_look (pm_kl 149) 138 = some (.getfield 13, 3) := by decide +kernel
theorem k149_141 : pm_look (pm_kl 149) 141 = some (.iload_n 1, 1) := by decide +kernel
theorem k149_142 : pm_look (pm_kl 149) 142 = some (.iaload, 1) := by decide +kernel
theorem k149_143 : pm_look (pm_kl 149) 143 = some (.ireturn, 1) := by decide +kernel
theorem k149_144 : pm_look (pm_kl 149) 144 = some (.aload_n 0, 1) := by decide +kernel
theorem k149_145 : pm_look (pm_kl 149) 145 = some (.iload_n 1, 1) := by decide +kernel
theorem k149_146 : pm_look (pm_kl 149) 146 = some (.iload_n 2, 1) := by decide +kernel
theorem k149_147 : pm_look (pm_kl 149) 147 = some (.invokevirtual 172, 3) := by decide +kernel
theorem k149_150 : pm_look (pm_kl 149) 150 = some (.ireturn, 1) := by decide +kernel
theorem k150_0 : pm_look (pm_kl 150) 0 = some (.aload_n 0, 1) := by decide +kernel
theorem k150_1 : pm_look (pm_kl 150) 1 = some (.iload_n 1, 1) := by decide +kernel
theorem k150_2 : pm_look (pm_kl 150) 2 = some (.invokevirtual 148, 3) := by decide +kernel
theorem k150_5 : pm_look (pm_kl 150) 5 = some (.ifCond .eq 11, 3) := by decide +kernel
theorem k150_8 : pm_look (pm_kl 150) 8 = some (.aload_n 0, 1) := by decide +kernel
theorem k150_9 : pm_look (pm_kl 150) 9 = some (.iload_n 2, 1) := by decide +kernel
theorem k150_10 : pm_look (pm_kl 150) 10 = some (.invokevirtual 148, 3) := by decide +kernel
theorem k150_13 : pm_look (pm_kl 150) 13 = some (.ifCond .ne 7, 3) := by decide +kernel
theorem k150_16 : pm_look (pm_kl 150) 16 = some (.sipush (-1001), 3) := by decide +kernel
theorem k150_19 : pm_look (pm_kl 150) 19 = some (.ireturn, 1) := by decide +kernel
theorem k150_20 : pm_look (pm_kl 150) 20 = some (.aload_n 0, 1) := by decide +kernel
theorem k150_21 : pm_look (pm_kl 150) 21 = some (.iload_n 3, 1) := by decide +kernel
theorem k150_22 : pm_look (pm_kl 150) 22 = some (.invokevirtual 167, 3) := by decide +kernel
theorem k150_25 : pm_look (pm_kl 150) 25 = some (.ifCond .ne 7, 3) := by decide +kernel
theorem k150_28 : pm_look (pm_kl 150) 28 = some (.sipush (-1002), 3) := by decide +kernel
theorem k150_31 : pm_look (pm_kl 150) 31 = some (.ireturn, 1) := by decide +kernel
theorem k150_32 : pm_look (pm_kl 150) 32 = some (.aload_n 0, 1) := by decide +kernel
theorem k150_33 : pm_look (pm_kl 150) 33 = some (.iload_n 1, 1) := by decide +kernel
theorem k150_34 : pm_look (pm_kl 150) 34 = some (.iload_n 2, 1) := by decide +kernel
theorem k150_35 : pm_look (pm_kl 150) 35 = some (.iload_n 3, 1) := by decide +kernel
theorem k150_36 : pm_look (pm_kl 150) 36 = some (.invokevirtual 156, 3) := by decide +kernel
theorem k150_39 : pm_look (pm_kl 150) 39 = some (.ifCond .eq 7, 3) := by decide +kernel
theorem k150_42 : pm_look (pm_kl 150) 42 = some (.iconst 1, 1) := by decide +kernel
theorem k150_43 : pm_look (pm_kl 150) 43 = some (.goto 4, 3) := by decide +kernel
theorem k150_46 : pm_look (pm_kl 150) 46 = some (.iconst 0, 1) := by decide +kernel
theorem k150_47 : pm_look (pm_kl 150) 47 = some (.ireturn, 1) := by decide +kernel
theorem k151_0 : pm_look (pm_kl 151) 0 = some (.iload_n 1, 1) := by decide +kernel
theorem k151_1 : pm_look (pm_kl 151) 1 = some (.i2l, 1) := by decide +kernel
theorem k151_2 : pm_look (pm_kl 151) 2 = some (.lconst 0, 1) := by decide +kernel
theorem k151_3 : pm_look (pm_kl 151) 3 = some (.aload_n 0, 1) := by decide +kernel
theorem k151_4 : pm_look (pm_kl 151) 4 = some (.getfield 175, 3) := by decide +kernel
theorem k151_7 : pm_look (pm_kl 151) 7 = some (.iconst 1, 1) := by decide +kernel
theorem k151_8 : pm_look (pm_kl 151) 8 = some (.isub, 1) := by decide +kernel
theorem k151_9 : pm_look (pm_kl 151) 9 = some (.i2l, 1) := by decide +kernel
theorem k151_10 : pm_look (pm_kl 151) 10 = some (.invokestatic 137, 3) := by decide +kernel
theorem k151_13 : pm_look (pm_kl 151) 13 = some (.ireturn, 1) := by decide +kernel
theorem k152_0 : pm_look (pm_kl 152) 0 = some (.iload_n 1, 1) := by decide +kernel
theorem k152_1 : pm_look (pm_kl 152) 1 = some (.i2l, 1) := by decide +kernel
theorem k152_2 : pm_look (pm_kl 152) 2 = some (.lconst 0, 1) := by decide +kernel
theorem k152_3 : pm_look (pm_kl 152) 3 = some (.aload_n 0, 1) := by decide +kernel
theorem k152_4 : pm_look (pm_kl 152) 4 = some (.getfield 178, 3) := by decide +kernel
theorem k152_7 : pm_look (pm_kl 152) 7 = some (.iconst 1, 1) := by decide +kernel
theorem k152_8 : pm_look (pm_kl 152) 8 = some (.isub, 1) := by decide +kernel
theorem k152_9 : pm_look (pm_kl 152) 9 = some (.i2l, 1) := by decide +kernel
theorem k152_10 : pm_look (pm_kl 152) 10 = some (.invokestatic 137, 3) := by decide +kernel
theorem k152_13 : pm_look (pm_kl 152) 13 = some (.ireturn, 1) := by decide +kernel
theorem k153_0 : pm_look (pm_kl 153) 0 = some (.iload_n 0, 1) := by decide +kernel
theorem k153_1 : pm_look (pm_kl 153) 1 = some (.i2l, 1) := by decide +kernel
theorem k153_2 : pm_look (pm_kl 153) 2 = some (.lconst 0, 1) := by decide +kernel
theorem k153_3 : pm_look (pm_kl 153) 3 = some (.ldc2_w 181, 3) := by decide +kernel
theorem k153_6 : pm_look (pm_kl 153) 6 = some (.invokestatic 137, 3) := by decide +kernel
theorem k153_9 : pm_look (pm_kl 153) 9 = some (.ireturn, 1) := by decide +kernel
theorem k154_0 : pm_look (pm_kl 154) 0 = some (.iload_n 3, 1) := by decide +kernel
theorem k154_1 : pm_look (pm_kl 154) 1 = some (.iconst (-1), 1) := by decide +kernel
theorem k154_2 : pm_look (pm_kl 154) 2 = some (.if_icmp .eq 15, 3) := by decide +kernel
theorem k154_5 : pm_look (pm_kl 154) 5 = some (.aload_n 0, 1) := by decide +kernel
theorem k154_6 : pm_look (pm_kl 154) 6 = some (.iload_n 3, 1) := by decide +kernel
theorem k154_7 : pm_look (pm_kl 154) 7 = some (.invokevirtual 183, 3) := by decide +kernel
theorem k154_10 : pm_look (pm_kl 154) 10 = some (.ifCond .ne 7, 3) := by decide +kernel
theorem k154_13 : pm_look (pm_kl 154) 13 = some (.sipush (-1001), 3) := by decide +kernel
theorem k154_16 : pm_look (pm_kl 154) 16 = some (.ireturn, 1) := by decide +kernel
theorem k154_17 : pm_look (pm_kl 154) 17 = some (.iload_n 1, 1) := by decide +kernel
theorem k154_18 : pm_look (pm_kl 154) 18 = some (.i2l, 1) := by decide +kernel
theorem k154_19 : pm_look (pm_kl 154) 19 = some (.lconst 0, 1) := by decide +kernel
theorem k154_20 : pm_look (pm_kl 154) 20 = some (.ldc2_w 186, 3) := by decide +kernel
theorem k154_23 : pm_look (pm_kl 154) 23 = some (.invokestatic 137, 3) := by decide +kernel
theorem k154_26 : pm_look (pm_kl 154) 26 = some (.ifCond .eq 15, 3) := by decide +kernel
theorem k154_29 : pm_look (pm_kl 154) 29 = some (.iload_n 2, 1) := by decide +kernel
theorem k154_30 : pm_look (pm_kl 154) 30 = some (.i2l, 1) := by decide +kernel
theorem k154_31 : pm_look (pm_kl 154) 31 = some (.lconst 0, 1) := by decide +kernel
theorem k154_32 : pm_look (pm_kl 154) 32 = some (.ldc2_w 188, 3) := by decide +kernel
theorem k154_35 : pm_look (pm_kl 154) 35 = some (.invokestatic 137, 3) := by decide +kernel
theorem k154_38 : pm_look (pm_kl 154) 38 = some (.ifCond .ne 7, 3) := by decide +kernel
theorem k154_41 : pm_look (pm_kl 154) 41 = some (.sipush (-1002), 3) := by decide +kernel
theorem k154_44 : pm_look (pm_kl 154) 44 = some (.ireturn, 1) := by decide +kernel
theorem k154_45 : pm_look (pm_kl 154) 45 = some (.aload_n 0, 1) := by decide +kernel
theorem k154_46 : pm_look (pm_kl 154) 46 = some (.getfield 175, 3) := by decide +kernel
theorem k154_49 : pm_look (pm_kl 154) 49 = some (.bipush 40, 2) := by decide +kernel
theorem k154_51 : pm_look (pm_kl 154) 51 = some (.if_icmp .ne 7, 3) := by decide +kernel
theorem k154_54 : pm_look (pm_kl 154) 54 = some (.sipush (-1004), 3) := by decide +kernel
theorem k154_57 : pm_look (pm_kl 154) 57 = some (.ireturn, 1) := by decide +kernel
theorem k154_58 : pm_look (pm_kl 154) 58 = some (.aload_n 0, 1) := by decide +kernel
theorem k154_59 : pm_look (pm_kl 154) 59 = some (.getfield 22, 3) := by decide +kernel
theorem k154_62 : pm_look (pm_kl 154) 62 = some (.aload_n 0, 1) := by decide +kernel
theorem k154_63 : pm_look (pm_kl 154) 63 = some (.getfield 175, 3) := by decide +kernel
theorem k154_66 : pm_look (pm_kl 154) 66 = some (.iload_n 1, 1) := by decide +kernel
theorem k154_67 : pm_look (pm_kl 154) 67 = some (.iastore, 1) := by decide +kernel
theorem k154_68 : pm_look (pm_kl 154) 68 = some (.aload_n 0, 1) := by decide +kernel
theorem k154_69 : pm_look (pm_kl 154) 69 = some (.getfield 25, 3) := by decide +kernel
theorem k154_72 : pm_look (pm_kl 154) 72 = some (.aload_n 0, 1) := by decide +kernel
theorem k154_73 : pm_look (pm_kl 154) 73 = some (.getfield 175, 3) := by decide +kernel
theorem k154_76 : pm_look (pm_kl 154) 76 = some (.iload_n 2, 1) := by decide +kernel
theorem k154_77 : pm_look (pm_kl 154) 77 = some (.iastore, 1) := by decide +kernel
theorem k154_78 : pm_look (pm_kl 154) 78 = some (.aload_n 0, 1) := by decide +kernel
theorem k154_79 : pm_look (pm_kl 154) 79 = some (.getfield 28, 3) := by decide +kernel
theorem k154_82 : pm_look (pm_kl 154) 82 = some (.aload_n 0, 1) := by decide +kernel
theorem k154_83 : pm_look (pm_kl 154) 83 = some (.getfield 175, 3) := by decide +kernel
theorem k154_86 : pm_look (pm_kl 154) 86 = some (.iload_n 3, 1) := by decide +kernel
theorem k154_87 : pm_look (pm_kl 154) 87 = some (.iastore, 1) := by decide +kernel
theorem k154_88 : pm_look (pm_kl 154) 88 = some (.aload_n 0, 1) := by decide +kernel
theorem k154_89 : pm_look (pm_kl 154) 89 = some (.dup, 1) := by decide +kernel
theorem k154_90 : pm_look (pm_kl 154) 90 = some (.getfield 175, 3) := by decide +kernel
theorem k154_93 : pm_look (pm_kl 154) 93 = some (.iconst 1, 1) := by decide +kernel
theorem k154_94 : pm_look (pm_kl 154) 94 = some (.iadd, 1) := by decide +kernel
theorem k154_95 : pm_look (pm_kl 154) 95 = some (.putfield 175, 3) := by decide +kernel
theorem k154_98 : pm_look (pm_kl 154) 98 = some (.aload_n 0, 1) := by decide +kernel
theorem k154_99 : pm_look (pm_kl 154) 99 = some (.getfield 175, 3) := by decide +kernel
theorem k154_102 : pm_look (pm_kl 154) 102 = some (.iconst 1, 1) := by decide +kernel
theorem k154_103 : pm_look (pm_kl 154) 103 = some (.isub, 1) := by decide +kernel
theorem k154_104 : pm_look (pm_kl 154) 104 = some (.ireturn, 1) := by decide +kernel
theorem k155_0 : pm_look (pm_kl 155) 0 = some (.aload_n 0, 1) := by decide +kernel
theorem k155_1 : pm_look (pm_kl 155) 1 = some (.iload_n 1, 1) := by decide +kernel
theorem k155_2 : pm_look (pm_kl 155) 2 = some (.invokevirtual 183, 3) := by decide +kernel
theorem k155_5 : pm_look (pm_kl 155) 5 = some (.ifCond .eq 11, 3) := by decide +kernel
theorem k155_8 : pm_look (pm_kl 155) 8 = some (.aload_n 0, 1) := by decide +kernel
theorem k155_9 : pm_look (pm_kl 155) 9 = some (.iload_n 2, 1) := by decide +kernel
theorem k155_10 : pm_look (pm_kl 155) 10 = some (.invokevirtual 148, 3) := by decide +kernel
theorem k155_13 : pm_look (pm_kl 155) 13 = some (.ifCond .ne 7, 3) := by decide +kernel
theorem k155_16 : pm_look (pm_kl 155) 16 = some (.sipush (-1001), 3) := by decide +kernel
theorem k155_19 : pm_look (pm_kl 155) 19 = some (.ireturn, 1) := by decide +kernel
theorem k155_20 : pm_look (pm_kl 155) 20 = some (.iload_n 3, 1) := by decide +kernel
theorem k155_21 : pm_look (pm_kl 155) 21 = some (.invokestatic 190, 3) := by decide +kernel
theorem k155_24 : pm_look (pm_kl 155) 24 = some (.ifCond .eq 16, 3) := by decide +kernel
theorem k155_27 : pm_look (pm_kl 155) 27 = some (.iload 4, 2) := by decide +kernel
theorem k155_29 : pm_look (pm_kl 155) 29 = some (.i2l, 1) := by decide +kernel
theorem k155_30 : pm_look (pm_kl 155) 30 = some (.lconst 0, 1) := by decide +kernel
theorem k155_31 : pm_look (pm_kl 155) 31 = some (.ldc2_w 193, 3) := by decide +kernel
theorem k155_34 : pm_look (pm_kl 155) 34 = some (.invokestatic 137, 3) := by decide +kernel
theorem k155_37 : pm_look (pm_kl 155) 37 = some (.ifCond .ne 7, 3) := by decide +kernel
theorem k155_40 : pm_look (pm_kl 155) 40 = some (.sipush (-1002), 3) := by decide +kernel
theorem k155_43 : pm_look (pm_kl 155) 43 = some (.ireturn, 1) := by decide +kernel
theorem k155_44 : pm_look (pm_kl 155) 44 = some (.aload_n 0, 1) := by decide +kernel
theorem k155_45 : pm_look (pm_kl 155) 45 = some (.getfield 178, 3) := by decide +kernel
theorem k155_48 : pm_look (pm_kl 155) 48 = some (.bipush 120, 2) := by decide +kernel
theorem k155_50 : pm_look (pm_kl 155) 50 = some (.if_icmp .ne 7, 3) := by decide +kernel
theorem k155_53 : pm_look (pm_kl 155) 53 = some (.sipush (-1004), 3) := by decide +kernel
theorem k155_56 : pm_look (pm_kl 155) 56 = some (.ireturn, 1) := by decide +kernel
theorem k155_57 : pm_look (pm_kl 155) 57 = some (.aload_n 0, 1) := by decide +kernel
theorem k155_58 : pm_look (pm_kl 155) 58 = some (.getfield 31, 3) := by decide +kernel
theorem k155_61 : pm_look (pm_kl 155) 61 = some (.aload_n 0, 1) := by decide +kernel
theorem k155_62 : pm_look (pm_kl 155) 62 = some (.getfield 178, 3) := by decide +kernel
theorem k155_65 : pm_look (pm_kl 155) 65 = some (.iload_n 1, 1) := by decide +kernel
theorem k155_66 : pm_look (pm_kl 155) 66 = some (.iastore, 1) := by decide +kernel
theorem k155_67 : pm_look (pm_kl 155) 67 = some (.aload_n 0, 1) := by decide +kernel
theorem k155_68 : pm_look (pm_kl 155) 68 = some (.getfield 34, 3) := by decide +kernel
theorem k155_71 : pm_look (pm_kl 155) 71 = some (.aload_n 0, 1) := by decide +kernel
theorem k155_72 : pm_look (pm_kl 155) 72 = some (.getfield 178, 3) := by decide +kernel
theorem k155_75 : pm_look (pm_kl 155) 75 = some (.iload_n 2, 1) := by decide +kernel
theorem k155_76 : pm_look (pm_kl 155) 76 = some (.iastore, 1) := by decide +kernel
theorem k155_77 : pm_look (pm_kl 155) 77 = some (.aload_n 0, 1) := by decide +kernel
theorem k155_78 : pm_look (pm_kl 155) 78 = some (.getfield 37, 3) := by decide +kernel
theorem k155_81 : pm_look (pm_kl 155) 81 = some (.aload_n 0, 1) := by decide +kernel
theorem k155_82 : pm_look (pm_kl 155) 82 = some (.getfield 178, 3) := by decide +kernel
theorem k155_85 : pm_look (pm_kl 155) 85 = some (.iload_n 3, 1) := by decide +kernel
theorem k155_86 : pm_look (pm_kl 155) 86 = some (.iastore, 1) := by decide +kernel
theorem k155_87 : pm_look (pm_kl 155) 87 = some (.aload_n 0, 1) := by decide +kernel
theorem k155_88 : pm_look (pm_kl 155) 88 = some (.getfield 40, 3) := by decide +kernel
theorem k155_91 : pm_look (pm_kl 155) 91 = some (.aload_n 0, 1) := by decide +kernel
theorem k155_92 : pm_look (pm_kl 155) 92 = some (.getfield 178, 3) := by decide +kernel
theorem k155_95 : pm_look (pm_kl 155) 95 = some (.iload 4, 2) := by decide +kernel
theorem k155_97 : pm_look (pm_kl 155) 97 = some (.iastore, 1) := by decide +kernel
theorem k155_98 : pm_look (pm_kl 155) 98 = some (.aload_n 0, 1) := by decide +kernel
theorem k155_99 : pm_look (pm_kl 155) 99 = some (.getfield 43, 3) := by decide +kernel
theorem k155_102 : pm_look (pm_kl 155) 102 = some (.aload_n 0, 1) := by decide +kernel
theorem k155_103 : pm_look (pm_kl 155) 103 = some (.getfield 178, 3) := by decide +kernel
theorem k155_106 : pm_look (pm_kl 155) 106 = some (.aload_n 0, 1) := by decide +kernel
theorem k155_107 : pm_look (pm_kl 155) 107 = some (.getfield 141, 3) := by decide +kernel
theorem k155_110 : pm_look (pm_kl 155) 110 = some (.iastore, 1) := by decide +kernel
theorem k155_111 : pm_look (pm_kl 155) 111 = some (.iconst 0, 1) := by decide +kernel
theorem k155_112 : pm_look (pm_kl 155) 112 = some (.istore 5, 2) := by decide +kernel
theorem k155_114 : pm_look (pm_kl 155) 114 = some (.iload 5, 2) := by decide +kernel
theorem k155_116 : pm_look (pm_kl 155) 116 = some (.bipush 8, 2) := by decide +kernel
theorem k155_118 : pm_look (pm_kl 155) 118 = some (.if_icmp .ge 25, 3) := by decide +kernel
theorem k155_121 : pm_look (pm_kl 155) 121 = some (.aload_n 0, 1) := by decide +kernel
theorem k155_122 : pm_look (pm_kl 155) 122 = some (.getfield 46, 3) := by decide +kernel
theorem k155_125 : pm_look (pm_kl 155) 125 = some (.bipush 8, 2) := by decide +kernel
theorem k155_127 : pm_look (pm_kl 155) 127 = some (.aload_n 0, 1) := by decide +kernel
theorem k155_128 : pm_look (pm_kl 155) 128 = some (.getfield 178, 3) := by decide +kernel
theorem k155_131 : pm_look (pm_kl 155) 131 = some (.imul, 1) := by decide +kernel
theorem k155_132 : pm_look (pm_kl 155) 132 = some (.iload 5, 2) := by decide +kernel
theorem k155_134 : pm_look (pm_kl 155) 134 = some (.iadd, 1) := by decide +kernel
theorem k155_135 : pm_look (pm_kl 155) 135 = some (.iconst (-1), 1) := by decide +kernel
theorem k155_136 : pm_look (pm_kl 155) 136 = some (.iastore, 1) := by decide +kernel
theorem k155_137 : pm_look (pm_kl 155) 137 = some (.iinc 5 1, 3) := by decide +kernel
theorem k155_140 : pm_look (pm_kl 155) 140 = some (.goto (-26), 3) := by decide +kernel
theorem k155_143 : pm_look (pm_kl 155) 143 = some (.aload_n 0, 1) := by decide +kernel
theorem k155_144 : pm_look (pm_kl 155) 144 = some (.dup, 1) := by decide +kernel
theorem k155_145 : pm_look (pm_kl 155) 145 = some (.getfield 178, 3) := by decide +kernel
theorem k155_148 : pm_look (pm_kl 155) 148 = some (.iconst 1, 1) := by decide +kernel
theorem k155_149 : pm_look (pm_kl 155) 149 = some (.iadd, 1) := by decide +kernel
theorem k155_150 : pm_look (pm_kl 155) 150 = some (.putfield 178, 3) := by decide +kernel
theorem k155_153 : pm_look (pm_kl 155) 153 = some (.aload_n 0, 1) := by decide +kernel
theorem k155_154 : pm_look (pm_kl 155) 154 = some (.getfield 178, 3) := by decide +kernel
theorem k155_157 : pm_look (pm_kl 155) 157 = some (.iconst 1, 1) := by decide +kernel
theorem k155_158 : pm_look (pm_kl 155) 158 = some (.isub, 1) := by decide +kernel
theorem k155_159 : pm_look (pm_kl 155) 159 = some (.ireturn, 1) := by decide +kernel
theorem k156_0 : pm_look (pm_kl 156) 0 = some (.iconst 0, 1) := by decide +kernel
theorem k156_1 : pm_look (pm_kl 156) 1 = some (.istore_n 3, 1) := by decide +kernel
theorem k156_2 : pm_look (pm_kl 156) 2 = some (.iconst 0, 1) := by decide +kernel
theorem k156_3 : pm_look (pm_kl 156) 3 = some (.istore 4, 2) := by decide +kernel
theorem k156_5 : pm_look (pm_kl 156) 5 = some (.iload 4, 2) := by decide +kernel
theorem k156_7 : pm_look (pm_kl 156) 7 = some (.bipush 8, 2) := by decide +kernel
theorem k156_9 : pm_look (pm_kl 156) 9 = some (.if_icmp .ge 39, 3) := by decide +kernel
theorem k156_12 : pm_look (pm_kl 156) 12 = some (.iload_n 3, 1) := by decide +kernel
theorem k156_13 : pm_look (pm_kl 156) 13 = some (.aload_n 0, 1) := by decide +kernel
theorem k156_14 : pm_look (pm_kl 156) 14 = some (.getfield 46, 3) := by decide +kernel
theorem k156_17 : pm_look (pm_kl 156) 17 = some (.bipush 8, 2) := by decide +kernel
theorem k156_19 : pm_look (pm_kl 156) 19 = some (.iload_n 1, 1) := by decide +kernel
theorem k156_20 : pm_look (pm_kl 156) 20 = some (.imul, 1) := by decide +kernel
theorem k156_21 : pm_look (pm_kl 156) 21 = some (.iload 4, 2) := by decide +kernel
theorem k156_23 : pm_look (pm_kl 156) 23 = some (.iadd, 1) := by decide +kernel
theorem k156_24 : pm_look (pm_kl 156) 24 = some (.iaload, 1) := by decide +kernel
theorem k156_25 : pm_look (pm_kl 156) 25 = some (.i2l, 1) := by decide +kernel
theorem k156_26 : pm_look (pm_kl 156) 26 = some (.lconst 0, 1) := by decide +kernel
theorem k156_27 : pm_look (pm_kl 156) 27 = some (.iload_n 2, 1) := by decide +kernel
theorem k156_28 : pm_look (pm_kl 156) 28 = some (.i2l, 1) := by decide +kernel
theorem k156_29 : pm_look (pm_kl 156) 29 = some (.invokestatic 137, 3) := by decide +kernel
theorem k156_32 : pm_look (pm_kl 156) 32 = some (.ifCond .eq 7, 3) := by decide +kernel
theorem k156_35 : pm_look (pm_kl 156) 35 = some (.iconst 1, 1) := by decide +kernel
theorem k156_36 : pm_look (pm_kl 156) 36 = some (.goto 4, 3) := by decide +kernel
theorem k156_39 : pm_look (pm_kl 156) 39 = some (.iconst 0, 1) := by decide +kernel
theorem k156_40 : pm_look (pm_kl 156) 40 = some (.iadd, 1) := by decide +kernel
theorem k156_41 : pm_look (pm_kl 156) 41 = some (.istore_n 3, 1) := by decide +kernel
theorem k156_42 : pm_look (pm_kl 156) 42 = some (.iinc 4 1, 3) := by decide +kernel
theorem k156_45 : pm_look (pm_kl 156) 45 = some (.goto (-40), 3) := by decide +kernel
theorem k156_48 : pm_look (pm_kl 156) 48 = some (.iload_n 3, 1) := by decide +kernel
theorem k156_49 : pm_look (pm_kl 156) 49 = some (.ireturn, 1) := by decide +kernel
theorem k157_0 : pm_look (pm_kl 157) 0 = some (.aload_n 0, 1) := by decide +kernel
theorem k157_1 : pm_look (pm_kl 157) 1 = some (.iload_n 1, 1) := by decide +kernel
theorem k157_2 : pm_look (pm_kl 157) 2 = some (.invokevirtual 195, 3) := by decide +kernel
theorem k157_5 : pm_look (pm_kl 157) 5 = some (.ifCond .ne 7, 3) := by decide +kernel
theorem k157_8 : pm_look (pm_kl 157) 8 = some (.sipush (-1001), 3) := by decide +kernel
theorem k157_11 : pm_look (pm_kl 157) 11 = some (.ireturn, 1) := by decide +kernel
theorem k157_12 : pm_look (pm_kl 157) 12 = some (.iload_n 2, 1) := by decide +kernel
theorem k157_13 : pm_look (pm_kl 157) 13 = some (.invokestatic 190, 3) := by decide +kernel
theorem k157_16 : pm_look (pm_kl 157) 16 = some (.ifCond .ne 7, 3) := by decide +kernel
theorem k157_19 : pm_look (pm_kl 157) 19 = some (.sipush (-1002), 3) := by decide +kernel
theorem k157_22 : pm_look (pm_kl 157) 22 = some (.ireturn, 1) := by decide +kernel
theorem k157_23 : pm_look (pm_kl 157) 23 = some (.iload_n 2, 1) := by decide +kernel
theorem k157_24 : pm_look (pm_kl 157) 24 = some (.aload_n 0, 1) := by decide +kernel
theorem k157_25 : pm_look (pm_kl 157) 25 = some (.getfield 37, 3) := by decide +kernel
theorem k157_28 : pm_look (pm_kl 157) 28 = some (.iload_n 1, 1) := by decide +kernel
theorem k157_29 : pm_look (pm_kl 157) 29 = some (.iaload, 1) := by decide +kernel
theorem k157_30 : pm_look (pm_kl 157) 30 = some (.if_icmp .eq 17, 3) := by decide +kernel
theorem k157_33 : pm_look (pm_kl 157) 33 = some (.aload_n 0, 1) := by decide +kernel
theorem k157_34 : pm_look (pm_kl 157) 34 = some (.getfield 46, 3) := by decide +kernel
theorem k157_37 : pm_look (pm_kl 157) 37 = some (.bipush 8, 2) := by decide +kernel
theorem k157_39 : pm_look (pm_kl 157) 39 = some (.iload_n 1, 1) := by decide +kernel
theorem k157_40 : pm_look (pm_kl 157) 40 = some (.imul, 1) := by decide +kernel
theorem k157_41 : pm_look (pm_kl 157) 41 = some (.iload_n 2, 1) := by decide +kernel
theorem k157_42 : pm_look (pm_kl 157) 42 = some (.iadd, 1) := by decide +kernel
theorem k157_43 : pm_look (pm_kl 157) 43 = some (.iaload, 1) := by decide +kernel
theorem k157_44 : pm_look (pm_kl 157) 44 = some (.ifCond .lt 7, 3) := by decide +kernel
theorem k157_47 : pm_look (pm_kl 157) 47 = some (.sipush (-1003), 3) := by decide +kernel
theorem k157_50 : pm_look (pm_kl 157) 50 = some (.ireturn, 1) := by decide +kernel
theorem k157_51 : pm_look (pm_kl 157) 51 = some (.aload_n 0, 1) := by decide +kernel
theorem k157_52 : pm_look (pm_kl 157) 52 = some (.getfield 46, 3) := by decide +kernel
theorem k157_55 : pm_look (pm_kl 157) 55 = some (.bipush 8, 2) := by decide +kernel
theorem k157_57 : pm_look (pm_kl 157) 57 = some (.iload_n 1, 1) := by decide +kernel
theorem k157_58 : pm_look (pm_kl 157) 58 = some (.imul, 1) := by decide +kernel
theorem k157_59 : pm_look (pm_kl 157) 59 = some (.iload_n 2, 1) := by decide +kernel
theorem k157_60 : pm_look (pm_kl 157) 60 = some (.iadd, 1) := by decide +kernel
theorem k157_61 : pm_look (pm_kl 157) 61 = some (.aload_n 0, 1) := by decide +kernel
theorem k157_62 : pm_look (pm_kl 157) 62 = some (.getfield 141, 3) := by decide +kernel
theorem k157_65 : pm_look (pm_kl 157) 65 = some (.iastore, 1) := by decide +kernel
theorem k157_66 : pm_look (pm_kl 157) 66 = some (.aload_n 0, 1) := by decide +kernel
theorem k157_67 : pm_look (pm_kl 157) 67 = some (.iload_n 1, 1) := by decide +kernel
theorem k157_68 : pm_look (pm_kl 157) 68 = some (.aload_n 0, 1) := by decide +kernel
theorem k157_69 : pm_look (pm_kl 157) 69 = some (.getfield 141, 3) := by decide +kernel
theorem k157_72 : pm_look (pm_kl 157) 72 = some (.invokevirtual 198, 3) := by decide +kernel
theorem k157_75 : pm_look (pm_kl 157) 75 = some (.ireturn, 1) := by decide +kernel
theorem k158_0 : pm_look (pm_kl 158) 0 = some (.aload_n 0, 1) := by decide +kernel
theorem k158_1 : pm_look (pm_kl 158) 1 = some (.iload_n 1, 1) := by decide +kernel
theorem k158_2 : pm_look (pm_kl 158) 2 = some (.invokevirtual 195, 3) := by decide +kernel
theorem k158_5 : pm_look (pm_kl 158) 5 = some (.ifCond .ne 7, 3) := by decide +kernel
theorem k158_8 : pm_look (pm_kl 158) 8 = some (.sipush (-1001), 3) := by decide +kernel
theorem k158_11 : pm_look (pm_kl 158) 11 = some (.ireturn, 1) := by decide +kernel
theorem k158_12 : pm_look (pm_kl 158) 12 = some (.aload_n 0, 1) := by decide +kernel
theorem k158_13 : pm_look (pm_kl 158) 13 = some (.invokevirtual 201, 3) := by decide +kernel
theorem k158_16 : pm_look (pm_kl 158) 16 = some (.iload_n 2, 1) := by decide +kernel
theorem k158_17 : pm_look (pm_kl 158) 17 = some (.tableswitch 95 0 6 #[43, 50, 57, 64, 71, 78, 85], 43) := by decide +kernel
theorem k158_60 : pm_look (pm_kl 158) 60 = some (.aload_n 0, 1) := by decide +kernel
theorem k158_61 : pm_look (pm_kl 158) 61 = some (.getfield 31, 3) := by decide +kernel
theorem k158_64 : pm_look (pm_kl 158) 64 = some (.iload_n 1, 1) := by decide +kernel
theorem k158_65 : pm_look (pm_kl 158) 65 = some (.iaload, 1) := by decide +kernel
theorem k158_66 : pm_look (pm_kl 158) 66 = some (.ireturn, 1) := by decide +kernel
theorem k158_67 : pm_look (pm_kl 158) 67 = some (.aload_n 0, 1) := by decide +kernel
theorem k158_68 : pm_look (pm_kl 158) 68 = some (.getfield 34, 3) := by decide +kernel
theorem k158_71 : pm_look (pm_kl 158) 71 = some (.iload_n 1, 1) := by decide +kernel
theorem k158_72 : pm_look (pm_kl 158) 72 = some (.iaload, 1) := by decide +kernel
theorem k158_73 : pm_look (pm_kl 158) 73 = some (.ireturn, 1) := by decide +kernel
theorem k158_74 : pm_look (pm_kl 158) 74 = some (.aload_n 0, 1) := by decide +kernel
theorem k158_75 : pm_look (pm_kl 158) 75 = some (.getfield 37, 3) := by decide +kernel
theorem k158_78 : pm_look (pm_kl 158) 78 = some (.iload_n 1, 1) := by decide +kernel
theorem k158_79 : pm_look (pm_kl 158) 79 = some (.iaload, 1) := by decide +kernel
theorem k158_80 : pm_look (pm_kl 158) 80 = some (.ireturn, 1) := by decide +kernel
theorem k158_81 : pm_look (pm_kl 158) 81 = some (.aload_n 0, 1) := by decide +kernel
theorem k158_82 : pm_look (pm_kl 158) 82 = some (.getfield 40, 3) := by decide +kernel
theorem k158_85 : pm_look (pm_kl 158) 85 = some (.iload_n 1, 1) := by decide +kernel
theorem k158_86 : pm_look (pm_kl 158) 86 = some (.iaload, 1) := by decide +kernel
theorem k158_87 : pm_look (pm_kl 158) 87 = some (.ireturn, 1) := by decide +kernel
theorem k158_88 : pm_look (pm_kl 158) 88 = some (.aload_n 0, 1) := by decide +kernel
theorem k158_89 : pm_look (pm_kl 158) 89 = some (.getfield 43, 3) := by decide +kernel
theorem k158_92 : pm_look (pm_kl 158) 92 = some (.iload_n 1, 1) := by decide +kernel
theorem k158_93 : pm_look (pm_kl 158) 93 = some (.iaload, 1) := by decide +kernel
theorem k158_94 : pm_look (pm_kl 158) 94 = some (.ireturn, 1) := by decide +kernel
theorem k158_95 : pm_look (pm_kl 158) 95 = some (.aload_n 0, 1) := by decide +kernel
theorem k158_96 : pm_look (pm_kl 158) 96 = some (.getfield 71, 3) := by decide +kernel
theorem k158_99 : pm_look (pm_kl 158) 99 = some (.iload_n 1, 1) := by decide +kernel
theorem k158_100 : pm_look (pm_kl 158) 100 = some (.iaload, 1) := by decide +kernel
theorem k158_101 : pm_look (pm_kl 158) 101 = some (.ireturn, 1) := by decide +kernel
theorem k158_102 : pm_look (pm_kl 158) 102 = some (.aload_n 0, 1) := by decide +kernel
theorem k158_103 : pm_look (pm_kl 158) 103 = some (.iload_n 1, 1) := by decide +kernel
theorem k158_104 : pm_look (pm_kl 158) 104 = some (.aload_n 0, 1) := by decide +kernel
theorem k158_105 : pm_look (pm_kl 158) 105 = some (.getfield 141, 3) := by decide +kernel
theorem k158_108 : pm_look (pm_kl 158) 108 = some (.invokevirtual 198, 3) := by decide +kernel
theorem k158_111 : pm_look (pm_kl 158) 111 = some (.ireturn, 1) := by decide +kernel
theorem k158_112 : pm_look (pm_kl 158) 112 = some (.sipush (-1002), 3) := by decide +kernel
theorem k158_115 : pm_look (pm_kl 158) 115 = some (.ireturn, 1) := by decide +kernel
theorem k159_0 : pm_look (pm_kl 159) 0 = some (.iconst 0, 1) := by decide +kernel
theorem k159_1 : pm_look (pm_kl 159) 1 = some (.istore_n 3, 1) := by decide +kernel
theorem k159_2 : pm_look (pm_kl 159) 2 = some (.aload_n 0, 1) := by decide +kernel
theorem k159_3 : pm_look (pm_kl 159) 3 = some (.getfield 52, 3) := by decide +kernel
theorem k159_6 : pm_look (pm_kl 159) 6 = some (.iload_n 1, 1) := by decide +kernel
theorem k159_7 : pm_look (pm_kl 159) 7 = some (.iaload, 1) := by decide +kernel
theorem k159_8 : pm_look (pm_kl 159) 8 = some (.istore 4, 2) := by decide +kernel
theorem k159_10 : pm_look (pm_kl 159) 10 = some (.iload 4, 2) := by decide +kernel
theorem k159_12 : pm_look (pm_kl 159) 12 = some (.aload_n 0, 1) := by decide +kernel
theorem k159_13 : pm_look (pm_kl 159) 13 = some (.getfield 52, 3) := by decide +kernel
theorem k159_16 : pm_look (pm_kl 159) 16 = some (.iload_n 1, 1) := by decide +kernel
theorem k159_17 : pm_look (pm_kl 159) 17 = some (.iconst 1, 1) := by decide +kernel
theorem k159_18 : pm_look (pm_kl 159) 18 = some (.iadd, 1) := by decide +kernel
theorem k159_19 : pm_look (pm_kl 159) 19 = some (.iaload, 1) := by decide +kernel
theorem k159_20 : pm_look (pm_kl 159) 20 = some (.if_icmp .ge 41, 3) := by decide +kernel
theorem k159_23 : pm_look (pm_kl 159) 23 = some (.iload_n 3, 1) := by decide +kernel
theorem k159_24 : pm_look (pm_kl 159) 24 = some (.ifCond .ne 25, 3) := by decide +kernel
theorem k159_27 : pm_look (pm_kl 159) 27 = some (.aload_n 0, 1) := by decide +kernel
theorem k159_28 : pm_look (pm_kl 159) 28 = some (.getfield 55, 3) := by decide +kernel
theorem k159_31 : pm_look (pm_kl 159) 31 = some (.iload 4, 2) := by decide +kernel
theorem k159_33 : pm_look (pm_kl 159) 33 = some (.iaload, 1) := by decide +kernel
theorem k159_34 : pm_look (pm_kl 159) 34 = some (.iconst 5, 1) := by decide +kernel
theorem k159_35 : pm_look (pm_kl 159) 35 = some (.if_icmp .ne 18, 3) := by decide +kernel
theorem k159_38 : pm_look (pm_kl 159) 38 = some (.aload_n 0, 1) := by decide +kernel
theorem k159_39 : pm_look (pm_kl 159) 39 = some (.getfield 58, 3) := by decide +kernel
theorem k159_42 : pm_look (pm_kl 159) 42 = some (.iload 4, 2) := by decide +kernel
theorem k159_44 : pm_look (pm_kl 159) 44 = some (.iaload, 1) := by decide +kernel
theorem k159_45 : pm_look (pm_kl 159) 45 = some (.iload_n 2, 1) := by decide +kernel
theorem k159_46 : pm_look (pm_kl 159) 46 = some (.if_icmp .ne 7, 3) := by decide +kernel
theorem k159_49 : pm_look (pm_kl 159) 49 = some (.iconst 1, 1) := by decide +kernel
theorem k159_50 : pm_look (pm_kl 159) 50 = some (.goto 4, 3) := by decide +kernel
theorem k159_53 : pm_look (pm_kl 159) 53 = some (.iconst 0, 1) := by decide +kernel
theorem k159_54 : pm_look (pm_kl 159) 54 = some (.istore_n 3, 1) := by decide +kernel
theorem k159_55 : pm_look (pm_kl 159) 55 = some (.iinc 4 1, 3) := by decide +kernel
theorem k159_58 : pm_look (pm_kl 159) 58 = some (.goto (-48), 3) := by decide +kernel
theorem k159_61 : pm_look (pm_kl 159) 61 = some (.iload_n 3, 1) := by decide +kernel
theorem k159_62 : pm_look (pm_kl 159) 62 = some (.ireturn, 1) := by decide +kernel
theorem k160_0 : pm_look (pm_kl 160) 0 = some (.aload_n 0, 1) := by decide +kernel
theorem k160_1 : pm_look (pm_kl 160) 1 = some (.getfield 204, 3) := by decide +kernel
theorem k160_4 : pm_look (pm_kl 160) 4 = some (.iconst 1, 1) := by decide +kernel
theorem k160_5 : pm_look (pm_kl 160) 5 = some (.isub, 1) := by decide +kernel
theorem k160_6 : pm_look (pm_kl 160) 6 = some (.istore_n 2, 1) := by decide +kernel
theorem k160_7 : pm_look (pm_kl 160) 7 = some (.iload_n 2, 1) := by decide +kernel
theorem k160_8 : pm_look (pm_kl 160) 8 = some (.ifCond .lt 86, 3) := by decide +kernel
theorem k160_11 : pm_look (pm_kl 160) 11 = some (.aload_n 0, 1) := by decide +kernel
theorem k160_12 : pm_look (pm_kl 160) 12 = some (.getfield 64, 3) := by decide +kernel
theorem k160_15 : pm_look (pm_kl 160) 15 = some (.iload_n 2, 1) := by decide +kernel
theorem k160_16 : pm_look (pm_kl 160) 16 = some (.aload_n 0, 1) := by decide +kernel
theorem k160_17 : pm_look (pm_kl 160) 17 = some (.getfield 49, 3) := by decide +kernel
theorem k160_20 : pm_look (pm_kl 160) 20 = some (.iload_n 2, 1) := by decide +kernel
theorem k160_21 : pm_look (pm_kl 160) 21 = some (.iaload, 1) := by decide +kernel
theorem k160_22 : pm_look (pm_kl 160) 22 = some (.iload_n 1, 1) := by decide +kernel
theorem k160_23 : pm_look (pm_kl 160) 23 = some (.if_icmp .gt 7, 3) := by decide +kernel
theorem k160_26 : pm_look (pm_kl 160) 26 = some (.iconst 1, 1) := by decide +kernel
theorem k160_27 : pm_look (pm_kl 160) 27 = some (.goto 4, 3) := by decide +kernel
theorem k160_30 : pm_look (pm_kl 160) 30 = some (.iconst 0, 1) := by decide +kernel
theorem k160_31 : pm_look (pm_kl 160) 31 = some (.bastore, 1) := by decide +kernel
theorem k160_32 : pm_look (pm_kl 160) 32 = some (.iload_n 2, 1) := by decide +kernel
theorem k160_33 : pm_look (pm_kl 160) 33 = some (.iconst 1, 1) := by decide +kernel
theorem k160_34 : pm_look (pm_kl 160) 34 = some (.iadd, 1) := by decide +kernel
theorem k160_35 : pm_look (pm_kl 160) 35 = some (.istore_n 3, 1) := by decide +kernel
theorem k160_36 : pm_look (pm_kl 160) 36 = some (.iload_n 3, 1) := by decide +kernel
theorem k160_37 : pm_look (pm_kl 160) 37 = some (.aload_n 0, 1) := by decide +kernel
theorem k160_38 : pm_look (pm_kl 160) 38 = some (.getfield 204, 3) := by decide +kernel
theorem k160_41 : pm_look (pm_kl 160) 41 = some (.if_icmp .ge 47, 3) := by decide +kernel
theorem k160_44 : pm_look (pm_kl 160) 44 = some (.aload_n 0, 1) := by decide +kernel
theorem k160_45 : pm_look (pm_kl 160) 45 = some (.getfield 64, 3) := by decide +kernel
theorem k160_48 : pm_look (pm_kl 160) 48 = some (.iload_n 2, 1) := by decide +kernel
theorem k160_49 : pm_look (pm_kl 160) 49 = some (.aload_n 0, 1) := by decide +kernel
theorem k160_50 : pm_look (pm_kl 160) 50 = some (.getfield 64, 3) := by decide +kernel
theorem k160_53 : pm_look (pm_kl 160) 53 = some (.iload_n 2, 1) := by decide +kernel
theorem k160_54 : pm_look (pm_kl 160) 54 = some (.baload, 1) := by decide +kernel
theorem k160_55 : pm_look (pm_kl 160) 55 = some (.ifCond .eq 25, 3) := by decide +kernel
theorem k160_58 : pm_look (pm_kl 160) 58 = some (.aload_n 0, 1) := by decide +kernel
theorem k160_59 : pm_look (pm_kl 160) 59 = some (.getfield 64, 3) := by decide +kernel
theorem k160_62 : pm_look (pm_kl 160) 62 = some (.iload_n 3, 1) := by decide +kernel
theorem k160_63 : pm_look (pm_kl 160) 63 = some (.baload, 1) := by decide +kernel
theorem k160_64 : pm_look (pm_kl 160) 64 = some (.ifCond .eq 12, 3) := by decide +kernel
theorem k160_67 : pm_look (pm_kl 160) 67 = some (.aload_n 0, 1) := by decide +kernel
theorem k160_68 : pm_look (pm_kl 160) 68 = some (.iload_n 3, 1) := by decide +kernel
theorem k160_69 : pm_look (pm_kl 160) 69 = some (.iload_n 2, 1) := by decide +kernel
theorem k160_70 : pm_look (pm_kl 160) 70 = some (.invokevirtual 207, 3) := by decide +kernel
theorem k160_73 : pm_look (pm_kl 160) 73 = some (.ifCond .ne 7, 3) := by decide +kernel
theorem k160_76 : pm_look (pm_kl 160) 76 = some (.iconst 1, 1) := by decide +kernel
theorem k160_77 : pm_look (pm_kl 160) 77 = some (.goto 4, 3) := by decide +kernel
theorem k160_80 : pm_look (pm_kl 160) 80 = some (.iconst 0, 1) := by decide +kernel
theorem k160_81 : pm_look (pm_kl 160) 81 = some (.bastore, 1) := by decide +kernel
theorem k160_82 : pm_look (pm_kl 160) 82 = some (.iinc 3 1, 3) := by decide +kernel
theorem k160_85 : pm_look (pm_kl 160) 85 = some (.goto (-49), 3) := by decide +kernel
theorem k160_88 : pm_look (pm_kl 160) 88 = some (.iinc 2 (-1), 3) := by decide +kernel
theorem k160_91 : pm_look (pm_kl 160) 91 = some (.goto (-84), 3) := by decide +kernel
theorem k160_94 : pm_look (pm_kl 160) 94 = some (.iconst 0, 1) := by decide +kernel
theorem k160_95 : pm_look (pm_kl 160) 95 = some (.istore_n 2, 1) := by decide +kernel
theorem k160_96 : pm_look (pm_kl 160) 96 = some (.iload_n 2, 1) := by decide +kernel
theorem k160_97 : pm_look (pm_kl 160) 97 = some (.bipush 6, 2) := by decide +kernel
theorem k160_99 : pm_look (pm_kl 160) 99 = some (.if_icmp .ge 16, 3) := by decide +kernel
theorem k160_102 : pm_look (pm_kl 160) 102 = some (.aload_n 0, 1) := by decide +kernel
theorem k160_103 : pm_look (pm_kl 160) 103 = some (.getfield 68, 3) := by decide +kernel
theorem k160_106 : pm_look (pm_kl 160) 106 = some (.iload_n 2, 1) := by decide +kernel
theorem k160_107 : pm_look (pm_kl 160) 107 = some (.iconst 0, 1) := by decide +kernel
theorem k160_108 : pm_look (pm_kl 160) 108 = some (.iastore, 1) := by decide +kernel
theorem k160_109 : pm_look (pm_kl 160) 109 = some (.iinc 2 1, 3) := by decide +kernel
theorem k160_112 : pm_look (pm_kl 160) 112 = some (.goto (-16), 3) := by decide +kernel
theorem k160_115 : pm_look (pm_kl 160) 115 = some (.aload_n 0, 1) := by decide +kernel
theorem k160_116 : pm_look (pm_kl 160) 116 = some (.bipush 20, 2) := by decide +kernel
theorem k160_118 : pm_look (pm_kl 160) 118 = some (.putfield 210, 3) := by decide +kernel
theorem k160_121 : pm_look (pm_kl 160) 121 = some (.iconst 0, 1) := by decide +kernel
theorem k160_122 : pm_look (pm_kl 160) 122 = some (.istore_n 2, 1) := by decide +kernel
theorem k160_123 : pm_look (pm_kl 160) 123 = some (.iload_n 2, 1) := by decide +kernel
theorem k160_124 : pm_look (pm_kl 160) 124 = some (.iload_n 1, 1) := by decide +kernel
theorem k160_125 : pm_look (pm_kl 160) 125 = some (.if_icmp .gt 129, 3) := by decide +kernel
theorem k160_128 : pm_look (pm_kl 160) 128 = some (.iconst 0, 1) := by decide +kernel
theorem k160_129 : pm_look (pm_kl 160) 129 = some (.istore_n 3, 1) := by decide +kernel
theorem k160_130 : pm_look (pm_kl 160) 130 = some (.iload_n 3, 1) := by decide +kernel
theorem k160_131 : pm_look (pm_kl 160) 131 = some (.aload_n 0, 1) := by decide +kernel
theorem k160_132 : pm_look (pm_kl 160) 132 = some (.getfield 204, 3) := by decide +kernel
theorem k160_135 : pm_look (pm_kl 160) 135 = some (.if_icmp .ge 113, 3) := by decide +kernel
theorem k160_138 : pm_look (pm_kl 160) 138 = some (.aload_n 0, 1) := by decide +kernel
theorem k160_139 : pm_look (pm_kl 160) 139 = some (.getfield 52, 3) := by decide +kernel
theorem k160_142 : pm_look (pm_kl 160) 142 = some (.iload_n 3, 1) := by decide +kernel
theorem k160_143 : pm_look (pm_kl 160) 143 = some (.iaload, 1) := by decide +kernel
theorem k160_144 : pm_look (pm_kl 160) 144 = some (.istore 4, 2) := by decide +kernel
theorem k160_146 : pm_look (pm_kl 160) 146 = some (.iload 4, 2) := by decide +kernel
theorem k160_148 : pm_look (pm_kl 160) 148 = some (.aload_n 0, 1) := by decide +kernel
theorem k160_149 : pm_look (pm_kl 160) 149 = some (.getfield 52, 3) := by decide +kernel
theorem k160_152 : pm_look (pm_kl 160) 152 = some (.iload_n 3, 1) := by decide +kernel
theorem k160_153 : pm_look (pm_kl 160) 153 = some (.iconst 1, 1) := by decide +kernel
theorem k160_154 : pm_look (pm_kl 160) 154 = some (.iadd, 1) := by decide +kernel
theorem k160_155 : pm_look (pm_kl 160) 155 = some (.iaload, 1) := by decide +kernel
theorem k160_156 : pm_look (pm_kl 160) 156 = some (.if_icmp .ge 86, 3) := by decide +kernel
theorem k160_159 : pm_look (pm_kl 160) 159 = some (.aload_n 0, 1) := by decide +kernel
theorem k160_160 : pm_look (pm_kl 160) 160 = some (.getfield 64, 3) := by decide +kernel
theorem k160_163 : pm_look (pm_kl 160) 163 = some (.iload_n 3, 1) := by decide +kernel
theorem k160_164 : pm_look (pm_kl 160) 164 = some (.baload, 1) := by decide +kernel
theorem k160_165 : pm_look (pm_kl 160) 165 = some (.ifCond .eq 77, 3) := by decide +kernel
theorem k160_168 : pm_look (pm_kl 160) 168 = some (.aload_n 0, 1) := by decide +kernel
theorem k160_169 : pm_look (pm_kl 160) 169 = some (.getfield 49, 3) := by decide +kernel
theorem k160_172 : pm_look (pm_kl 160) 172 = some (.iload_n 3, 1) := by decide +kernel
theorem k160_173 : pm_look (pm_kl 160) 173 = some (.iaload, 1) := by decide +kernel
