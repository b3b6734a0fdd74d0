theorem k63_1 : pm_look (pm_kl 63) 1 = some (.iload_n 1, 1) := by decide +kernel
theorem k63_2 : pm_look (pm_kl 63) 2 = some (.invokevirtual 40, 3) := by decide +kernel
theorem k63_5 : pm_look (pm_kl 63) 5 = some (.ifCond .eq 27, 3) := by decide +kernel
theorem k63_8 : pm_look (pm_kl 63) 8 = some (.aload_n 0, 1) := by decide +kernel
theorem k63_9 : pm_look (pm_kl 63) 9 = some (.getfield 15, 3) := by decide +kernel
theorem k63_12 : pm_look (pm_kl 63) 12 = some (.iload_n 1, 1) := by decide +kernel
theorem k63_13 : pm_look (pm_kl 63) 13 = some (.iaload, 1) := by decide +kernel
theorem k63_14 : pm_look (pm_kl 63) 14 = some (.iconst (-1), 1) := by decide +kernel
theorem k63_15 : pm_look (pm_kl 63) 15 = some (.if_icmp .eq 17, 3) := by decide +kernel
theorem k63_18 : pm_look (pm_kl 63) 18 = some (.aload_n 0, 1) := by decide +kernel
theorem k63_19 : pm_look (pm_kl 63) 19 = some (.getfield 15, 3) := by decide +kernel
theorem k63_22 : pm_look (pm_kl 63) 22 = some (.iload_n 1, 1) := by decide +kernel
theorem k63_23 : pm_look (pm_kl 63) 23 = some (.iaload, 1) := by decide +kernel
theorem k63_24 : pm_look (pm_kl 63) 24 = some (.iload_n 2, 1) := by decide +kernel
theorem k63_25 : pm_look (pm_kl 63) 25 = some (.if_icmp .gt 7, 3) := by decide +kernel
theorem k63_28 : pm_look (pm_kl 63) 28 = some (.iconst 1, 1) := by decide +kernel
theorem k63_29 : pm_look (pm_kl 63) 29 = some (.goto 4, 3) := by decide +kernel
theorem k63_32 : pm_look (pm_kl 63) 32 = some (.iconst 0, 1) := by decide +kernel
theorem k63_33 : pm_look (pm_kl 63) 33 = some (.ireturn, 1) := by decide +kernel
theorem k64_0 : pm_look (pm_kl 64) 0 = some (.aload_n 0, 1) := by decide +kernel
theorem k64_1 : pm_look (pm_kl 64) 1 = some (.iload_n 1, 1) := by decide +kernel
theorem k64_2 : pm_look (pm_kl 64) 2 = some (.invokevirtual 40, 3) := by decide +kernel
theorem k64_5 : pm_look (pm_kl 64) 5 = some (.ifCond .eq 26, 3) := by decide +kernel
theorem k64_8 : pm_look (pm_kl 64) 8 = some (.aload_n 0, 1) := by decide +kernel
theorem k64_9 : pm_look (pm_kl 64) 9 = some (.getfield 9, 3) := by decide +kernel
theorem k64_12 : pm_look (pm_kl 64) 12 = some (.iload_n 1, 1) := by decide +kernel
theorem k64_13 : pm_look (pm_kl 64) 13 = some (.iaload, 1) := by decide +kernel
theorem k64_14 : pm_look (pm_kl 64) 14 = some (.iload_n 2, 1) := by decide +kernel
theorem k64_15 : pm_look (pm_kl 64) 15 = some (.if_icmp .gt 16, 3) := by decide +kernel
theorem k64_18 : pm_look (pm_kl 64) 18 = some (.aload_n 0, 1) := by decide +kernel
theorem k64_19 : pm_look (pm_kl 64) 19 = some (.iload_n 1, 1) := by decide +kernel
theorem k64_20 : pm_look (pm_kl 64) 20 = some (.iload_n 2, 1) := by decide +kernel
theorem k64_21 : pm_look (pm_kl 64) 21 = some (.invokevirtual 54, 3) := by decide +kernel
theorem k64_24 : pm_look (pm_kl 64) 24 = some (.ifCond .ne 7, 3) := by decide +kernel
theorem k64_27 : pm_look (pm_kl 64) 27 = some (.iconst 1, 1) := by decide +kernel
theorem k64_28 : pm_look (pm_kl 64) 28 = some (.goto 4, 3) := by decide +kernel
theorem k64_31 : pm_look (pm_kl 64) 31 = some (.iconst 0, 1) := by decide +kernel
theorem k64_32 : pm_look (pm_kl 64) 32 = some (.ireturn, 1) := by decide +kernel
theorem k65_0 : pm_look (pm_kl 65) 0 = some (.lconst 0, 1) := by decide +kernel
theorem k65_1 : pm_look (pm_kl 65) 1 = some (.lstore_n 3, 1) := by decide +kernel
theorem k65_2 : pm_look (pm_kl 65) 2 = some (.iload_n 1, 1) := by decide +kernel
theorem k65_3 : pm_look (pm_kl 65) 3 = some (.istore 5, 2) := by decide +kernel
theorem k65_5 : pm_look (pm_kl 65) 5 = some (.iconst 0, 1) := by decide +kernel
theorem k65_6 : pm_look (pm_kl 65) 6 = some (.istore 6, 2) := by decide +kernel
theorem k65_8 : pm_look (pm_kl 65) 8 = some (.iload 6, 2) := by decide +kernel
theorem k65_10 : pm_look (pm_kl 65) 10 = some (.bipush 40, 2) := by decide +kernel
theorem k65_12 : pm_look (pm_kl 65) 12 = some (.if_icmp .ge 34, 3) := by decide +kernel
theorem k65_15 : pm_look (pm_kl 65) 15 = some (.aload_n 0, 1) := by decide +kernel
theorem k65_16 : pm_look (pm_kl 65) 16 = some (.iload 5, 2) := by decide +kernel
theorem k65_18 : pm_look (pm_kl 65) 18 = some (.invokevirtual 40, 3) := by decide +kernel
theorem k65_21 : pm_look (pm_kl 65) 21 = some (.ifCond .eq 25, 3) := by decide +kernel
theorem k65_24 : pm_look (pm_kl 65) 24 = some (.lload_n 3, 1) := by decide +kernel
theorem k65_25 : pm_look (pm_kl 65) 25 = some (.lconst 1, 1) := by decide +kernel
theorem k65_26 : pm_look (pm_kl 65) 26 = some (.iload 5, 2) := by decide +kernel
theorem k65_28 : pm_look (pm_kl 65) 28 = some (.lshl, 1) := by decide +kernel
theorem k65_29 : pm_look (pm_kl 65) 29 = some (.lor, 1) := by decide +kernel
theorem k65_30 : pm_look (pm_kl 65) 30 = some (.lstore_n 3, 1) := by decide +kernel
theorem k65_31 : pm_look (pm_kl 65) 31 = some (.aload_n 0, 1) := by decide +kernel
theorem k65_32 : pm_look (pm_kl 65) 32 = some (.iload 5, 2) := by decide +kernel
theorem k65_34 : pm_look (pm_kl 65) 34 = some (.iload_n 2, 1) := by decide +kernel
theorem k65_35 : pm_look (pm_kl 65) 35 = some (.invokevirtual 58, 3) := by decide +kernel
theorem k65_38 : pm_look (pm_kl 65) 38 = some (.istore 5, 2) := by decide +kernel
theorem k65_40 : pm_look (pm_kl 65) 40 = some (.iinc 6 1, 3) := by decide +kernel
theorem k65_43 : pm_look (pm_kl 65) 43 = some (.goto (-35), 3) := by decide +kernel
theorem k65_46 : pm_look (pm_kl 65) 46 = some (.lload_n 3, 1) := by decide +kernel
theorem k65_47 : pm_look (pm_kl 65) 47 = some (.lreturn, 1) := by decide +kernel
theorem k66_0 : pm_look (pm_kl 66) 0 = some (.aload_n 0, 1) := by decide +kernel
theorem k66_1 : pm_look (pm_kl 66) 1 = some (.iload_n 2, 1) := by decide +kernel
theorem k66_2 : pm_look (pm_kl 66) 2 = some (.invokevirtual 40, 3) := by decide +kernel
theorem k66_5 : pm_look (pm_kl 66) 5 = some (.ifCond .eq 22, 3) := by decide +kernel
theorem k66_8 : pm_look (pm_kl 66) 8 = some (.aload_n 0, 1) := by decide +kernel
theorem k66_9 : pm_look (pm_kl 66) 9 = some (.iload_n 1, 1) := by decide +kernel
theorem k66_10 : pm_look (pm_kl 66) 10 = some (.iload_n 3, 1) := by decide +kernel
theorem k66_11 : pm_look (pm_kl 66) 11 = some (.invokevirtual 61, 3) := by decide +kernel
theorem k66_14 : pm_look (pm_kl 66) 14 = some (.iload_n 2, 1) := by decide +kernel
theorem k66_15 : pm_look (pm_kl 66) 15 = some (.lushr, 1) := by decide +kernel
theorem k66_16 : pm_look (pm_kl 66) 16 = some (.lconst 1, 1) := by decide +kernel
theorem k66_17 : pm_look (pm_kl 66) 17 = some (.land, 1) := by decide +kernel
theorem k66_18 : pm_look (pm_kl 66) 18 = some (.lconst 0, 1) := by decide +kernel
theorem k66_19 : pm_look (pm_kl 66) 19 = some (.lcmp, 1) := by decide +kernel
theorem k66_20 : pm_look (pm_kl 66) 20 = some (.ifCond .eq 7, 3) := by decide +kernel
theorem k66_23 : pm_look (pm_kl 66) 23 = some (.iconst 1, 1) := by decide +kernel
theorem k66_24 : pm_look (pm_kl 66) 24 = some (.goto 4, 3) := by decide +kernel
theorem k66_27 : pm_look (pm_kl 66) 27 = some (.iconst 0, 1) := by decide +kernel
theorem k66_28 : pm_look (pm_kl 66) 28 = some (.ireturn, 1) := by decide +kernel
theorem k67_0 : pm_look (pm_kl 67) 0 = some (.iconst 0, 1) := by decide +kernel
theorem k67_1 : pm_look (pm_kl 67) 1 = some (.istore_n 3, 1) := by decide +kernel
theorem k67_2 : pm_look (pm_kl 67) 2 = some (.iconst 0, 1) := by decide +kernel
theorem k67_3 : pm_look (pm_kl 67) 3 = some (.istore 4, 2) := by decide +kernel
theorem k67_5 : pm_look (pm_kl 67) 5 = some (.iload 4, 2) := by decide +kernel
theorem k67_7 : pm_look (pm_kl 67) 7 = some (.aload_n 0, 1) := by decide +kernel
theorem k67_8 : pm_look (pm_kl 67) 8 = some (.getfield 32, 3) := by decide +kernel
theorem k67_11 : pm_look (pm_kl 67) 11 = some (.if_icmp .ge 23, 3) := by decide +kernel
theorem k67_14 : pm_look (pm_kl 67) 14 = some (.aload_n 0, 1) := by decide +kernel
theorem k67_15 : pm_look (pm_kl 67) 15 = some (.iload 4, 2) := by decide +kernel
theorem k67_17 : pm_look (pm_kl 67) 17 = some (.iload_n 1, 1) := by decide +kernel
theorem k67_18 : pm_look (pm_kl 67) 18 = some (.iload_n 2, 1) := by decide +kernel
theorem k67_19 : pm_look (pm_kl 67) 19 = some (.invokevirtual 65, 3) := by decide +kernel
theorem k67_22 : pm_look (pm_kl 67) 22 = some (.ifCond .eq 6, 3) := by decide +kernel
theorem k67_25 : pm_look (pm_kl 67) 25 = some (.iinc 3 1, 3) := by decide +kernel
theorem k67_28 : pm_look (pm_kl 67) 28 = some (.iinc 4 1, 3) := by decide +kernel
theorem k67_31 : pm_look (pm_kl 67) 31 = some (.goto (-26), 3) := by decide +kernel
theorem k67_34 : pm_look (pm_kl 67) 34 = some (.iload_n 3, 1) := by decide +kernel
theorem k67_35 : pm_look (pm_kl 67) 35 = some (.ireturn, 1) := by decide +kernel
theorem k68_0 : pm_look (pm_kl 68) 0 = some (.iconst 0, 1) := by decide +kernel
theorem k68_1 : pm_look (pm_kl 68) 1 = some (.istore_n 2, 1) := by decide +kernel
theorem k68_2 : pm_look (pm_kl 68) 2 = some (.iconst 0, 1) := by decide +kernel
theorem k68_3 : pm_look (pm_kl 68) 3 = some (.istore_n 3, 1) := by decide +kernel
theorem k68_4 : pm_look (pm_kl 68) 4 = some (.iload_n 3, 1) := by decide +kernel
theorem k68_5 : pm_look (pm_kl 68) 5 = some (.aload_n 0, 1) := by decide +kernel
theorem k68_6 : pm_look (pm_kl 68) 6 = some (.getfield 32, 3) := by decide +kernel
theorem k68_9 : pm_look (pm_kl 68) 9 = some (.if_icmp .ge 21, 3) := by decide +kernel
theorem k68_12 : pm_look (pm_kl 68) 12 = some (.aload_n 0, 1) := by decide +kernel
theorem k68_13 : pm_look (pm_kl 68) 13 = some (.iload_n 3, 1) := by decide +kernel
theorem k68_14 : pm_look (pm_kl 68) 14 = some (.iload_n 1, 1) := by decide +kernel
theorem k68_15 : pm_look (pm_kl 68) 15 = some (.invokevirtual 68, 3) := by decide +kernel
theorem k68_18 : pm_look (pm_kl 68) 18 = some (.ifCond .eq 6, 3) := by decide +kernel
theorem k68_21 : pm_look (pm_kl 68) 21 = some (.iinc 2 1, 3) := by decide +kernel
theorem k68_24 : pm_look (pm_kl 68) 24 = some (.iinc 3 1, 3) := by decide +kernel
theorem k68_27 : pm_look (pm_kl 68) 27 = some (.goto (-23), 3) := by decide +kernel
theorem k68_30 : pm_look (pm_kl 68) 30 = some (.iload_n 2, 1) := by decide +kernel
theorem k68_31 : pm_look (pm_kl 68) 31 = some (.ireturn, 1) := by decide +kernel
theorem k69_0 : pm_look (pm_kl 69) 0 = some (.iload_n 1, 1) := by decide +kernel
theorem k69_1 : pm_look (pm_kl 69) 1 = some (.istore_n 3, 1) := by decide +kernel
theorem k69_2 : pm_look (pm_kl 69) 2 = some (.iconst 0, 1) := by decide +kernel
theorem k69_3 : pm_look (pm_kl 69) 3 = some (.istore 4, 2) := by decide +kernel
theorem k69_5 : pm_look (pm_kl 69) 5 = some (.iload 4, 2) := by decide +kernel
theorem k69_7 : pm_look (pm_kl 69) 7 = some (.bipush 40, 2) := by decide +kernel
theorem k69_9 : pm_look (pm_kl 69) 9 = some (.if_icmp .ge 38, 3) := by decide +kernel
theorem k69_12 : pm_look (pm_kl 69) 12 = some (.aload_n 0, 1) := by decide +kernel
theorem k69_13 : pm_look (pm_kl 69) 13 = some (.iload_n 3, 1) := by decide +kernel
theorem k69_14 : pm_look (pm_kl 69) 14 = some (.iload_n 2, 1) := by decide +kernel
theorem k69_15 : pm_look (pm_kl 69) 15 = some (.invokevirtual 54, 3) := by decide +kernel
theorem k69_18 : pm_look (pm_kl 69) 18 = some (.ifCond .eq 29, 3) := by decide +kernel
theorem k69_21 : pm_look (pm_kl 69) 21 = some (.aload_n 0, 1) := by decide +kernel
theorem k69_22 : pm_look (pm_kl 69) 22 = some (.aload_n 0, 1) := by decide +kernel
theorem k69_23 : pm_look (pm_kl 69) 23 = some (.getfield 18, 3) := by decide +kernel
theorem k69_26 : pm_look (pm_kl 69) 26 = some (.iload_n 3, 1) := by decide +kernel
theorem k69_27 : pm_look (pm_kl 69) 27 = some (.iaload, 1) := by decide +kernel
theorem k69_28 : pm_look (pm_kl 69) 28 = some (.invokevirtual 40, 3) := by decide +kernel
theorem k69_31 : pm_look (pm_kl 69) 31 = some (.ifCond .eq 16, 3) := by decide +kernel
theorem k69_34 : pm_look (pm_kl 69) 34 = some (.aload_n 0, 1) := by decide +kernel
theorem k69_35 : pm_look (pm_kl 69) 35 = some (.getfield 18, 3) := by decide +kernel
theorem k69_38 : pm_look (pm_kl 69) 38 = some (.iload_n 3, 1) := by decide +kernel
theorem k69_39 : pm_look (pm_kl 69) 39 = some (.iaload, 1) := by decide +kernel
theorem k69_40 : pm_look (pm_kl 69) 40 = some (.istore_n 3, 1) := by decide +kernel
theorem k69_41 : pm_look (pm_kl 69) 41 = some (.iinc 4 1, 3) := by decide +kernel
theorem k69_44 : pm_look (pm_kl 69) 44 = some (.goto (-39), 3) := by decide +kernel
theorem k69_47 : pm_look (pm_kl 69) 47 = some (.iload_n 3, 1) := by decide +kernel
theorem k69_48 : pm_look (pm_kl 69) 48 = some (.ireturn, 1) := by decide +kernel
theorem k70_0 : pm_look (pm_kl 70) 0 = some (.iload_n 1, 1) := by decide +kernel
theorem k70_1 : pm_look (pm_kl 70) 1 = some (.istore_n 3, 1) := by decide +kernel
theorem k70_2 : pm_look (pm_kl 70) 2 = some (.iconst 0, 1) := by decide +kernel
theorem k70_3 : pm_look (pm_kl 70) 3 = some (.istore 4, 2) := by decide +kernel
theorem k70_5 : pm_look (pm_kl 70) 5 = some (.iload 4, 2) := by decide +kernel
theorem k70_7 : pm_look (pm_kl 70) 7 = some (.bipush 40, 2) := by decide +kernel
theorem k70_9 : pm_look (pm_kl 70) 9 = some (.if_icmp .ge 33, 3) := by decide +kernel
theorem k70_12 : pm_look (pm_kl 70) 12 = some (.aload_n 0, 1) := by decide +kernel
theorem k70_13 : pm_look (pm_kl 70) 13 = some (.iload_n 3, 1) := by decide +kernel
theorem k70_14 : pm_look (pm_kl 70) 14 = some (.invokevirtual 40, 3) := by decide +kernel
theorem k70_17 : pm_look (pm_kl 70) 17 = some (.ifCond .eq 25, 3) := by decide +kernel
theorem k70_20 : pm_look (pm_kl 70) 20 = some (.aload_n 0, 1) := by decide +kernel
theorem k70_21 : pm_look (pm_kl 70) 21 = some (.iload_n 3, 1) := by decide +kernel
theorem k70_22 : pm_look (pm_kl 70) 22 = some (.iload_n 2, 1) := by decide +kernel
theorem k70_23 : pm_look (pm_kl 70) 23 = some (.invokevirtual 68, 3) := by decide +kernel
theorem k70_26 : pm_look (pm_kl 70) 26 = some (.ifCond .ne 16, 3) := by decide +kernel
theorem k70_29 : pm_look (pm_kl 70) 29 = some (.aload_n 0, 1) := by decide +kernel
theorem k70_30 : pm_look (pm_kl 70) 30 = some (.iload_n 3, 1) := by decide +kernel
theorem k70_31 : pm_look (pm_kl 70) 31 = some (.iload_n 2, 1) := by decide +kernel
theorem k70_32 : pm_look (pm_kl 70) 32 = some (.invokevirtual 58, 3) := by decide +kernel
theorem k70_35 : pm_look (pm_kl 70) 35 = some (.istore_n 3, 1) := by decide +kernel
theorem k70_36 : pm_look (pm_kl 70) 36 = some (.iinc 4 1, 3) := by decide +kernel
theorem k70_39 : pm_look (pm_kl 70) 39 = some (.goto (-34), 3) := by decide +kernel
theorem k70_42 : pm_look (pm_kl 70) 42 = some (.iload_n 3, 1) := by decide +kernel
theorem k70_43 : pm_look (pm_kl 70) 43 = some (.ireturn, 1) := by decide +kernel
theorem k71_0 : pm_look (pm_kl 71) 0 = some (.iload_n 1, 1) := by decide +kernel
theorem k71_1 : pm_look (pm_kl 71) 1 = some (.istore 4, 2) := by decide +kernel
theorem k71_3 : pm_look (pm_kl 71) 3 = some (.iconst 0, 1) := by decide +kernel
theorem k71_4 : pm_look (pm_kl 71) 4 = some (.istore 5, 2) := by decide +kernel
theorem k71_6 : pm_look (pm_kl 71) 6 = some (.iload 5, 2) := by decide +kernel
theorem k71_8 : pm_look (pm_kl 71) 8 = some (.iload_n 2, 1) := by decide +kernel
theorem k71_9 : pm_look (pm_kl 71) 9 = some (.if_icmp .ge 23, 3) := by decide +kernel
theorem k71_12 : pm_look (pm_kl 71) 12 = some (.iload 4, 2) := by decide +kernel
theorem k71_14 : pm_look (pm_kl 71) 14 = some (.ifCond .eq 18, 3) := by decide +kernel
theorem k71_17 : pm_look (pm_kl 71) 17 = some (.aload_n 0, 1) := by decide +kernel
theorem k71_18 : pm_look (pm_kl 71) 18 = some (.iload 4, 2) := by decide +kernel
theorem k71_20 : pm_look (pm_kl 71) 20 = some (.iload_n 3, 1) := by decide +kernel
theorem k71_21 : pm_look (pm_kl 71) 21 = some (.invokevirtual 58, 3) := by decide +kernel
theorem k71_24 : pm_look (pm_kl 71) 24 = some (.istore 4, 2) := by decide +kernel
theorem k71_26 : pm_look (pm_kl 71) 26 = some (.iinc 5 1, 3) := by decide +kernel
theorem k71_29 : pm_look (pm_kl 71) 29 = some (.goto (-23), 3) := by decide +kernel
theorem k71_32 : pm_look (pm_kl 71) 32 = some (.iload 4, 2) := by decide +kernel
theorem k71_34 : pm_look (pm_kl 71) 34 = some (.ireturn, 1) := by decide +kernel
theorem k72_0 : pm_look (pm_kl 72) 0 = some (.aload_n 0, 1) := by decide +kernel
theorem k72_1 : pm_look (pm_kl 72) 1 = some (.invokespecial 3, 3) := by decide +kernel
theorem k72_4 : pm_look (pm_kl 72) 4 = some (.aload_n 0, 1) := by decide +kernel
theorem k72_5 : pm_look (pm_kl 72) 5 = some (.new 9, 3) := by decide +kernel
theorem k72_8 : pm_look (pm_kl 72) 8 = some (.dup, 1) := by decide +kernel
theorem k72_9 : pm_look (pm_kl 72) 9 = some (.invokespecial 11, 3) := by decide +kernel
theorem k72_12 : pm_look (pm_kl 72) 12 = some (.putfield 12, 3) := by decide +kernel
theorem k72_15 : pm_look (pm_kl 72) 15 = some (.aload_n 0, 1) := by decide +kernel
theorem k72_16 : pm_look (pm_kl 72) 16 = some (.bipush 40, 2) := by decide +kernel
theorem k72_18 : pm_look (pm_kl 72) 18 = some (.newarray .int, 2) := by decide +kernel
theorem k72_20 : pm_look (pm_kl 72) 20 = some (.putfield 18, 3) := by decide +kernel
theorem k72_23 : pm_look (pm_kl 72) 23 = some (.aload_n 0, 1) := by decide +kernel
theorem k72_24 : pm_look (pm_kl 72) 24 = some (.bipush 120, 2) := by decide +kernel
theorem k72_26 : pm_look (pm_kl 72) 26 = some (.newarray .boolean, 2) := by decide +kernel
theorem k72_28 : pm_look (pm_kl 72) 28 = some (.putfield 22, 3) := by decide +kernel
theorem k72_31 : pm_look (pm_kl 72) 31 = some (.aload_n 0, 1) := by decide +kernel
theorem k72_32 : pm_look (pm_kl 72) 32 = some (.bipush 120, 2) := by decide +kernel
theorem k72_34 : pm_look (pm_kl 72) 34 = some (.newarray .int, 2) := by decide +kernel
theorem k72_36 : pm_look (pm_kl 72) 36 = some (.putfield 26, 3) := by decide +kernel
theorem k72_39 : pm_look (pm_kl 72) 39 = some (.aload_n 0, 1) := by decide +kernel
theorem k72_40 : pm_look (pm_kl 72) 40 = some (.bipush 120, 2) := by decide +kernel
theorem k72_42 : pm_look (pm_kl 72) 42 = some (.newarray .int, 2) := by decide +kernel
theorem k72_44 : pm_look (pm_kl 72) 44 = some (.putfield 29, 3) := by decide +kernel
theorem k72_47 : pm_look (pm_kl 72) 47 = some (.aload_n 0, 1) := by decide +kernel
theorem k72_48 : pm_look (pm_kl 72) 48 = some (.bipush 120, 2) := by decide +kernel
theorem k72_50 : pm_look (pm_kl 72) 50 = some (.newarray .int, 2) := by decide +kernel
theorem k72_52 : pm_look (pm_kl 72) 52 = some (.putfield 32, 3) := by decide +kernel
theorem k72_55 : pm_look (pm_kl 72) 55 = some (.aload_n 0, 1) := by decide +kernel
theorem k72_56 : pm_look (pm_kl 72) 56 = some (.bipush 120, 2) := by decide +kernel
theorem k72_58 : pm_look (pm_kl 72) 58 = some (.newarray .boolean, 2) := by decide +kernel
theorem k72_60 : pm_look (pm_kl 72) 60 = some (.putfield 35, 3) := by decide +kernel
theorem k72_63 : pm_look (pm_kl 72) 63 = some (.aload_n 0, 1) := by decide +kernel
theorem k72_64 : pm_look (pm_kl 72) 64 = some (.bipush 40, 2) := by decide +kernel
theorem k72_66 : pm_look (pm_kl 72) 66 = some (.newarray .long, 2) := by decide +kernel
theorem k72_68 : pm_look (pm_kl 72) 68 = some (.putfield 38, 3) := by decide +kernel
theorem k72_71 : pm_look (pm_kl 72) 71 = some (.aload_n 0, 1) := by decide +kernel
theorem k72_72 : pm_look (pm_kl 72) 72 = some (.aload_n 1, 1) := by decide +kernel
theorem k72_73 : pm_look (pm_kl 72) 73 = some (.putfield 42, 3) := by decide +kernel
theorem k72_76 : pm_look (pm_kl 72) 76 = some (.aload_n 0, 1) := by decide +kernel
theorem k72_77 : pm_look (pm_kl 72) 77 = some (.aload_n 2, 1) := by decide +kernel
theorem k72_78 : pm_look (pm_kl 72) 78 = some (.putfield 46, 3) := by decide +kernel
theorem k72_81 : pm_look (pm_kl 72) 81 = some (.aload_n 0, 1) := by decide +kernel
theorem k72_82 : pm_look (pm_kl 72) 82 = some (.aload_n 3, 1) := by decide +kernel
theorem k72_83 : pm_look (pm_kl 72) 83 = some (.putfield 50, 3) := by decide +kernel
theorem k72_86 : pm_look (pm_kl 72) 86 = some (.aload_n 0, 1) := by decide +kernel
theorem k72_87 : pm_look (pm_kl 72) 87 = some (.iconst 0, 1) := by decide +kernel
theorem k72_88 : pm_look (pm_kl 72) 88 = some (.putfield 54, 3) := by decide +kernel
theorem k72_91 : pm_look (pm_kl 72) 91 = some (.aload_n 0, 1) := by decide +kernel
theorem k72_92 : pm_look (pm_kl 72) 92 = some (.iconst (-1), 1) := by decide +kernel
theorem k72_93 : pm_look (pm_kl 72) 93 = some (.putfield 58, 3) := by decide +kernel
theorem k72_96 : pm_look (pm_kl 72) 96 = some (.return_, 1) := by decide +kernel
theorem k73_0 : pm_look (pm_kl 73) 0 = some (.aload_n 0, 1) := by decide +kernel
theorem k73_1 : pm_look (pm_kl 73) 1 = some (.iconst 0, 1) := by decide +kernel
theorem k73_2 : pm_look (pm_kl 73) 2 = some (.putfield 54, 3) := by decide +kernel
theorem k73_5 : pm_look (pm_kl 73) 5 = some (.aload_n 0, 1) := by decide +kernel
theorem k73_6 : pm_look (pm_kl 73) 6 = some (.iconst (-1), 1) := by decide +kernel
theorem k73_7 : pm_look (pm_kl 73) 7 = some (.putfield 58, 3) := by decide +kernel
theorem k73_10 : pm_look (pm_kl 73) 10 = some (.return_, 1) := by decide +kernel
theorem k74_0 : pm_look (pm_kl 74) 0 = some (.aload_n 0, 1) := by decide +kernel
theorem k74_1 : pm_look (pm_kl 74) 1 = some (.getfield 54, 3) := by decide +kernel
theorem k74_4 : pm_look (pm_kl 74) 4 = some (.ifCond .eq 4, 3) := by decide +kernel
theorem k74_7 : pm_look (pm_kl 74) 7 = some (.return_, 1) := by decide +kernel
theorem k74_8 : pm_look (pm_kl 74) 8 = some (.aload_n 0, 1) := by decide +kernel
theorem k74_9 : pm_look (pm_kl 74) 9 = some (.iconst 1, 1) := by decide +kernel
theorem k74_10 : pm_look (pm_kl 74) 10 = some (.putfield 54, 3) := by decide +kernel
theorem k74_13 : pm_look (pm_kl 74) 13 = some (.aload_n 0, 1) := by decide +kernel
theorem k74_14 : pm_look (pm_kl 74) 14 = some (.getfield 18, 3) := by decide +kernel
theorem k74_17 : pm_look (pm_kl 74) 17 = some (.iconst 0, 1) := by decide +kernel
theorem k74_18 : pm_look (pm_kl 74) 18 = some (.invokestatic 62, 3) := by decide +kernel
theorem k74_21 : pm_look (pm_kl 74) 21 = some (.iconst (-1), 1) := by decide +kernel
theorem k74_22 : pm_look (pm_kl 74) 22 = some (.istore_n 1, 1) := by decide +kernel
theorem k74_23 : pm_look (pm_kl 74) 23 = some (.iconst 0, 1) := by decide +kernel
theorem k74_24 : pm_look (pm_kl 74) 24 = some (.istore_n 2, 1) := by decide +kernel
theorem k74_25 : pm_look (pm_kl 74) 25 = some (.iload_n 2, 1) := by decide +kernel
theorem k74_26 : pm_look (pm_kl 74) 26 = some (.aload_n 0, 1) := by decide +kernel
theorem k74_27 : pm_look (pm_kl 74) 27 = some (.getfield 46, 3) := by decide +kernel
theorem k74_30 : pm_look (pm_kl 74) 30 = some (.getfield 68, 3) := by decide +kernel
theorem k74_33 : pm_look (pm_kl 74) 33 = some (.if_icmp .ge 142, 3) := by decide +kernel
theorem k74_36 : pm_look (pm_kl 74) 36 = some (.aload_n 0, 1) := by decide +kernel
theorem k74_37 : pm_look (pm_kl 74) 37 = some (.getfield 46, 3) := by decide +kernel
theorem k74_40 : pm_look (pm_kl 74) 40 = some (.getfield 73, 3) := by decide +kernel
theorem k74_43 : pm_look (pm_kl 74) 43 = some (.iload_n 2, 1) := by decide +kernel
theorem k74_44 : pm_look (pm_kl 74) 44 = some (.iaload, 1) := by decide +kernel
theorem k74_45 : pm_look (pm_kl 74) 45 = some (.istore_n 3, 1) := by decide +kernel
theorem k74_46 : pm_look (pm_kl 74) 46 = some (.iload_n 3, 1) := by decide +kernel
theorem k74_47 : pm_look (pm_kl 74) 47 = some (.iload_n 1, 1) := by decide +kernel
theorem k74_48 : pm_look (pm_kl 74) 48 = some (.if_icmp .eq 15, 3) := by decide +kernel
theorem k74_51 : pm_look (pm_kl 74) 51 = some (.aload_n 0, 1) := by decide +kernel
theorem k74_52 : pm_look (pm_kl 74) 52 = some (.getfield 12, 3) := by decide +kernel
theorem k74_55 : pm_look (pm_kl 74) 55 = some (.aload_n 0, 1) := by decide +kernel
theorem k74_56 : pm_look (pm_kl 74) 56 = some (.getfield 50, 3) := by decide +kernel
theorem k74_59 : pm_look (pm_kl 74) 59 = some (.iload_n 3, 1) := by decide +kernel
theorem k74_60 : pm_look (pm_kl 74) 60 = some (.invokevirtual 76, 3) := by decide +kernel
theorem k74_63 : pm_look (pm_kl 74) 63 = some (.iload_n 3, 1) := by decide +kernel
theorem k74_64 : pm_look (pm_kl 74) 64 = some (.istore_n 1, 1) := by decide +kernel
theorem k74_65 : pm_look (pm_kl 74) 65 = some (.aload_n 0, 1) := by decide +kernel
theorem k74_66 : pm_look (pm_kl 74) 66 = some (.getfield 29, 3) := by decide +kernel
theorem k74_69 : pm_look (pm_kl 74) 69 = some (.iload_n 2, 1) := by decide +kernel
theorem k74_70 : pm_look (pm_kl 74) 70 = some (.aload_n 0, 1) := by decide +kernel
theorem k74_71 : pm_look (pm_kl 74) 71 = some (.iload_n 2, 1) := by decide +kernel
theorem k74_72 : pm_look (pm_kl 74) 72 = some (.iload_n 3, 1) := by decide +kernel
theorem k74_73 : pm_look (pm_kl 74) 73 = some (.invokevirtual 80, 3) := by decide +kernel
theorem k74_76 : pm_look (pm_kl 74) 76 = some (.iastore, 1) := by decide +kernel
theorem k74_77 : pm_look (pm_kl 74) 77 = some (.aload_n 0, 1) := by decide +kernel
theorem k74_78 : pm_look (pm_kl 74) 78 = some (.getfield 46, 3) := by decide +kernel
theorem k74_81 : pm_look (pm_kl 74) 81 = some (.getfield 84, 3) := by decide +kernel
theorem k74_84 : pm_look (pm_kl 74) 84 = some (.iload_n 2, 1) := by decide +kernel
theorem k74_85 : pm_look (pm_kl 74) 85 = some (.iaload, 1) := by decide +kernel
theorem k74_86 : pm_look (pm_kl 74) 86 = some (.istore 4, 2) := by decide +kernel
theorem k74_88 : pm_look (pm_kl 74) 88 = some (.aload_n 0, 1) := by decide +kernel
theorem k74_89 : pm_look (pm_kl 74) 89 = some (.getfield 22, 3) := by decide +kernel
theorem k74_92 : pm_look (pm_kl 74) 92 = some (.iload_n 2, 1) := by decide +kernel
theorem k74_93 : pm_look (pm_kl 74) 93 = some (.iload 4, 2) := by decide +kernel
theorem k74_95 : pm_look (pm_kl 74) 95 = some (.ifCond .eq 20, 3) := by decide +kernel
theorem k74_98 : pm_look (pm_kl 74) 98 = some (.aload_n 0, 1) := by decide +kernel
theorem k74_99 : pm_look (pm_kl 74) 99 = some (.getfield 12, 3) := by decide +kernel
theorem k74_102 : pm_look (pm_kl 74) 102 = some (.iload 4, 2) := by decide +kernel
theorem k74_104 : pm_look (pm_kl 74) 104 = some (.iconst 1, 1) := by decide +kernel
theorem k74_105 : pm_look (pm_kl 74) 105 = some (.invokevirtual 87, 3) := by decide +kernel
theorem k74_108 : pm_look (pm_kl 74) 108 = some (.ifCond .le 7, 3) := by decide +kernel
theorem k74_111 : pm_look (pm_kl 74) 111 = some (.iconst 1, 1) := by decide +kernel
theorem k74_112 : pm_look (pm_kl 74) 112 = some (.goto 4, 3) := by decide +kernel
theorem k74_115 : pm_look (pm_kl 74) 115 = some (.iconst 0, 1) := by decide +kernel
theorem k74_116 : pm_look (pm_kl 74) 116 = some (.bastore, 1) := by decide +kernel
theorem k74_117 : pm_look (pm_kl 74) 117 = some (.aload_n 0, 1) := by decide +kernel
theorem k74_118 : pm_look (pm_kl 74) 118 = some (.getfield 26, 3) := by decide +kernel
theorem k74_121 : pm_look (pm_kl 74) 121 = some (.iload_n 2, 1) := by decide +kernel
theorem k74_122 : pm_look (pm_kl 74) 122 = some (.iload 4, 2) := by decide +kernel
theorem k74_124 : pm_look (pm_kl 74) 124 = some (.ifCond .ne 7, 3) := by decide +kernel
theorem k74_127 : pm_look (pm_kl 74) 127 = some (.iconst 0, 1) := by decide +kernel
theorem k74_128 : pm_look (pm_kl 74) 128 = some (.goto 13, 3) := by decide +kernel
theorem k74_131 : pm_look (pm_kl 74) 131 = some (.aload_n 0, 1) := by decide +kernel
theorem k74_132 : pm_look (pm_kl 74) 132 = some (.getfield 12, 3) := by decide +kernel
theorem k74_135 : pm_look (pm_kl 74) 135 = some (.iload 4, 2) := by decide +kernel
theorem k74_137 : pm_look (pm_kl 74) 137 = some (.iconst 2, 1) := by decide +kernel
theorem k74_138 : pm_look (pm_kl 74) 138 = some (.invokevirtual 87, 3) := by decide +kernel
theorem k74_141 : pm_look (pm_kl 74) 141 = some (.iastore, 1) := by decide +kernel
theorem k74_142 : pm_look (pm_kl 74) 142 = some (.aload_n 0, 1) := by decide +kernel
theorem k74_143 : pm_look (pm_kl 74) 143 = some (.getfield 29, 3) := by decide +kernel
theorem k74_146 : pm_look (pm_kl 74) 146 = some (.iload_n 2, 1) := by decide +kernel
theorem k74_147 : pm_look (pm_kl 74) 147 = some (.iaload, 1) := by decide +kernel
theorem k74_148 : pm_look (pm_kl 74) 148 = some (.ifCond .ne 21, 3) := by decide +kernel
theorem k74_151 : pm_look (pm_kl 74) 151 = some (.aload_n 0, 1) := by decide +kernel
theorem k74_152 : pm_look (pm_kl 74) 152 = some (.getfield 18, 3) := by decide +kernel
theorem k74_155 : pm_look (pm_kl 74) 155 = some (.aload_n 0, 1) := by decide +kernel
theorem k74_156 : pm_look (pm_kl 74) 156 = some (.getfield 46, 3) := by decide +kernel
theorem k74_159 : pm_look (pm_kl 74) 159 = some (.getfield 90, 3) := by decide +kernel
theorem k74_162 : pm_look (pm_kl 74) 162 = some (.iload_n 2, 1) := by decide +kernel
theorem k74_163 : pm_look (pm_kl 74) 163 = some (.iaload, 1) := by decide +kernel
theorem k74_164 : pm_look (pm_kl 74) 164 = some (.dup2, 1) := by decide +kernel
theorem k74_165 : pm_look (pm_kl 74) 165 = some (.iaload, 1) := by decide +kernel
theorem k74_166 : pm_look (pm_kl 74) 166 = some (.iconst 1, 1) := by decide +kernel
theorem k74_167 : pm_look (pm_kl 74) 167 = some (.iadd, 1) := by decide +kernel
theorem k74_168 : pm_look (pm_kl 74) 168 = some (.iastore, 1) := by decide +kernel
theorem k74_169 : pm_look (pm_kl 74) 169 = some (.iinc 2 1, 3) := by decide +kernel
theorem k74_172 : pm_look (pm_kl 74) 172 = some (.goto (-147), 3) := by decide +kernel
theorem k74_175 : pm_look (pm_kl 74) 175 = some (.return_, 1) := by decide +kernel
theorem k75_0 : pm_look (pm_kl 75) 0 = some (.aload_n 0, 1) := by decide +kernel
theorem k75_1 : pm_look (pm_kl 75) 1 = some (.getfield 46, 3) := by decide +kernel
theorem k75_4 : pm_look (pm_kl 75) 4 = some (.getfield 93, 3) := by decide +kernel
theorem k75_7 : pm_look (pm_kl 75) 7 = some (.iload_n 1, 1) := by decide +kernel
theorem k75_8 : pm_look (pm_kl 75) 8 = some (.iaload, 1) := by decide +kernel
theorem k75_9 : pm_look (pm_kl 75) 9 = some (.istore_n 3, 1) := by decide +kernel
theorem k75_10 : pm_look (pm_kl 75) 10 = some (.aload_n 0, 1) := by decide +kernel
theorem k75_11 : pm_look (pm_kl 75) 11 = some (.getfield 46, 3) := by decide +kernel
theorem k75_14 : pm_look (pm_kl 75) 14 = some (.getfield 84, 3) := by decide +kernel
theorem k75_17 : pm_look (pm_kl 75) 17 = some (.iload_n 1, 1) := by decide +kernel
theorem k75_18 : pm_look (pm_kl 75) 18 = some (.iaload, 1) := by decide +kernel
theorem k75_19 : pm_look (pm_kl 75) 19 = some (.istore 4, 2) := by decide +kernel
theorem k75_21 : pm_look (pm_kl 75) 21 = some (.aload_n 0, 1) := by decide +kernel
theorem k75_22 : pm_look (pm_kl 75) 22 = some (.getfield 42, 3) := by decide +kernel
theorem k75_25 : pm_look (pm_kl 75) 25 = some (.iload_n 3, 1) := by decide +kernel
theorem k75_26 : pm_look (pm_kl 75) 26 = some (.iload_n 2, 1) := by decide +kernel
theorem k75_27 : pm_look (pm_kl 75) 27 = some (.invokevirtual 96, 3) := by decide +kernel
theorem k75_30 : pm_look (pm_kl 75) 30 = some (.ifCond .ne 5, 3) := by decide +kernel
theorem k75_33 : pm_look (pm_kl 75) 33 = some (.iconst 1, 1) := by decide +kernel
theorem k75_34 : pm_look (pm_kl 75) 34 = some (.ireturn, 1) := by decide +kernel
theorem k75_35 : pm_look (pm_kl 75) 35 = some (.iload 4, 2) := by decide +kernel
theorem k75_37 : pm_look (pm_kl 75) 37 = some (.ifCond .eq 26, 3) := by decide +kernel
theorem k75_40 : pm_look (pm_kl 75) 40 = some (.aload_n 0, 1) := by decide +kernel
theorem k75_41 : pm_look (pm_kl 75) 41 = some (.getfield 12, 3) := by decide +kernel
theorem k75_44 : pm_look (pm_kl 75) 44 = some (.iload 4, 2) := by decide +kernel
theorem k75_46 : pm_look (pm_kl 75) 46 = some (.aload_n 0, 1) := by decide +kernel
theorem k75_47 : pm_look (pm_kl 75) 47 = some (.getfield 42, 3) := by decide +kernel
theorem k75_50 : pm_look (pm_kl 75) 50 = some (.iload_n 3, 1) := by decide +kernel
theorem k75_51 : pm_look (pm_kl 75) 51 = some (.iload_n 2, 1) := by decide +kernel
theorem k75_52 : pm_look (pm_kl 75) 52 = some (.invokevirtual 102, 3) := by decide +kernel
theorem k75_55 : pm_look (pm_kl 75) 55 = some (.invokevirtual 106, 3) := by decide +kernel
theorem k75_58 : pm_look (pm_kl 75) 58 = some (.ifCond .eq 5, 3) := by decide +kernel
theorem k75_61 : pm_look (pm_kl 75) 61 = some (.iconst 2, 1) := by decide +kernel
theorem k75_62 : pm_look (pm_kl 75) 62 = some (.ireturn, 1) := by decide +kernel
theorem k75_63 : pm_look (pm_kl 75) 63 = some (.iload 4, 2) := by decide +kernel
theorem k75_65 : pm_look (pm_kl 75) 65 = some (.ifCond .eq 17, 3) := by decide +kernel
theorem k75_68 : pm_look (pm_kl 75) 68 = some (.aload_n 0, 1) := by decide +kernel
theorem k75_69 : pm_look (pm_kl 75) 69 = some (.getfield 12, 3) := by decide +kernel
theorem k75_72 : pm_look (pm_kl 75) 72 = some (.iload 4, 2) := by decide +kernel
theorem k75_74 : pm_look (pm_kl 75) 74 = some (.invokevirtual 110, 3) := by decide +kernel
theorem k75_77 : pm_look (pm_kl 75) 77 = some (.ifCond .eq 5, 3) := by decide +kernel
theorem k75_80 : pm_look (pm_kl 75) 80 = some (.iconst 3, 1) := by decide +kernel
theorem k75_81 : pm_look (pm_kl 75) 81 = some (.ireturn, 1) := by decide +kernel
theorem k75_82 : pm_look (pm_kl 75) 82 = some (.aload_n 0, 1) := by decide +kernel
theorem k75_83 : pm_look (pm_kl 75) 83 = some (.getfield 18, 3) := by decide +kernel
theorem k75_86 : pm_look (pm_kl 75) 86 = some (.aload_n 0, 1) := by decide +kernel
theorem k75_87 : pm_look (pm_kl 75) 87 = some (.getfield 46, 3) := by decide +kernel
theorem k75_90 : pm_look (pm_kl 75) 90 = some (.getfield 90, 3) := by decide +kernel
theorem k75_93 : pm_look (pm_kl 75) 93 = some (.iload_n 1, 1) := by decide +kernel
theorem k75_94 : pm_look (pm_kl 75) 94 = some (.iaload, 1) := by decide +kernel
theorem k75_95 : pm_look (pm_kl 75) 95 = some (.iaload, 1) := by decide +kernel
theorem k75_96 : pm_look (pm_kl 75) 96 = some (.aload_n 0, 1) := by decide +kernel
theorem k75_97 : pm_look (pm_kl 75) 97 = some (.getfield 12, 3) := by decide +kernel
theorem k75_100 : pm_look (pm_kl 75) 100 = some (.getfield 114, 3) := by decide +kernel
theorem k75_103 : pm_look (pm_kl 75) 103 = some (.if_icmp .lt 5, 3) := by decide +kernel
theorem k75_106 : pm_look (pm_kl 75) 106 = some (.iconst 4, 1) := by decide +kernel
theorem k75_107 : pm_look (pm_kl 75) 107 = some (.ireturn, 1) := by decide +kernel
theorem k75_108 : pm_look (pm_kl 75) 108 = some (.iconst 0, 1) := by decide +kernel
theorem k75_109 : pm_look (pm_kl 75) 109 = some (.ireturn, 1) := by decide +kernel
theorem k76_0 : pm_look (pm_kl 76) 0 = some (.aload_n 0, 1) := by decide +kernel
theorem k76_1 : pm_look (pm_kl 76) 1 = some (.getfield 58, 3) := by decide +kernel
theorem k76_4 : pm_look (pm_kl 76) 4 = some (.iload_n 1, 1) := by decide +kernel
theorem k76_5 : pm_look (pm_kl 76) 5 = some (.if_icmp .ne 4, 3) := by decide +kernel
theorem k76_8 : pm_look (pm_kl 76) 8 = some (.return_, 1) := by decide +kernel
theorem k76_9 : pm_look (pm_kl 76) 9 = some (.aload_n 0, 1) := by decide +kernel
theorem k76_10 : pm_look (pm_kl 76) 10 = some (.iload_n 1, 1) := by decide +kernel
theorem k76_11 : pm_look (pm_kl 76) 11 = some (.putfield 58, 3) := by decide +kernel
theorem k76_14 : pm_look (pm_kl 76) 14 = some (.aload_n 0, 1) := by decide +kernel
theorem k76_15 : pm_look (pm_kl 76) 15 = some (.invokevirtual 117, 3) := by decide +kernel
theorem k76_18 : pm_look (pm_kl 76) 18 = some (.aload_n 0, 1) := by decide +kernel
theorem k76_19 : pm_look (pm_kl 76) 19 = some (.getfield 38, 3) := by decide +kernel
theorem k76_22 : pm_look (pm_kl 76) 22 = some (.lconst 0, 1) := by decide +kernel
theorem k76_23 : pm_look (pm_kl 76) 23 = some (.invokestatic 120, 3) := by decide +kernel
theorem k76_26 : pm_look (pm_kl 76) 26 = some (.iconst 0, 1) := by decide +kernel
theorem k76_27 : pm_look (pm_kl 76) 27 = some (.istore_n 2, 1) := by decide +kernel
theorem k76_28 : pm_look (pm_kl 76) 28 = some (.iload_n 2, 1) := by decide +kernel
theorem k76_29 : pm_look (pm_kl 76) 29 = some (.aload_n 0, 1) := by decide +kernel
theorem k76_30 : pm_look (pm_kl 76) 30 = some (.getfield 46, 3) := by decide +kernel
theorem k76_33 : pm_look (pm_kl 76) 33 = some (.getfield 68, 3) := by decide +kernel
theorem k76_36 : pm_look (pm_kl 76) 36 = some (.if_icmp .ge 55, 3) := by decide +kernel
theorem k76_39 : pm_look (pm_kl 76) 39 = some (.aload_n 0, 1) := by decide +kernel
theorem k76_40 : pm_look (pm_kl 76) 40 = some (.iload_n 2, 1) := by decide +kernel
theorem k76_41 : pm_look (pm_kl 76) 41 = some (.invokevirtual 123, 3) := by decide +kernel
theorem k76_44 : pm_look (pm_kl 76) 44 = some (.aload_n 0, 1) := by decide +kernel
theorem k76_45 : pm_look (pm_kl 76) 45 = some (.getfield 32, 3) := by decide +kernel
theorem k76_48 : pm_look (pm_kl 76) 48 = some (.iload_n 2, 1) := by decide +kernel
theorem k76_49 : pm_look (pm_kl 76) 49 = some (.iaload, 1) := by decide +kernel
theorem k76_50 : pm_look (pm_kl 76) 50 = some (.iconst (-1), 1) := by decide +kernel
theorem k76_51 : pm_look (pm_kl 76) 51 = some (.if_icmp .eq 34, 3) := by decide +kernel
theorem k76_54 : pm_look (pm_kl 76) 54 = some (.aload_n 0, 1) := by decide +kernel
theorem k76_55 : pm_look (pm_kl 76) 55 = some (.getfield 38, 3) := by decide +kernel
theorem k76_58 : pm_look (pm_kl 76) 58 = some (.aload_n 0, 1) := by decide +kernel
theorem k76_59 : pm_look (pm_kl 76) 59 = some (.getfield 46, 3) := by decide +kernel
theorem k76_62 : pm_look (pm_kl 76) 62 = some (.getfield 90, 3) := by decide +kernel
theorem k76_65 : pm_look (pm_kl 76) 65 = some (.iload_n 2, 1) := by decide +kernel
theorem k76_66 : pm_look (pm_kl 76) 66 = some (.iaload, 1) := by decide +kernel
theorem k76_67 : pm_look (pm_kl 76) 67 = some (.dup2, 1) := by decide +kernel
theorem k76_68 : pm_look (pm_kl 76) 68 = some (.laload, 1) := by decide +kernel
theorem k76_69 : pm_look (pm_kl 76) 69 = some (.aload_n 0, 1) := by decide +kernel
theorem k76_70 : pm_look (pm_kl 76) 70 = some (.getfield 42, 3) := by decide +kernel
theorem k76_73 : pm_look (pm_kl 76) 73 = some (.aload_n 0, 1) := by decide +kernel
theorem k76_74 : pm_look (pm_kl 76) 74 = some (.getfield 32, 3) := by decide +kernel
theorem k76_77 : pm_look (pm_kl 76) 77 = some (.iload_n 2, 1) := by decide +kernel
theorem k76_78 : pm_look (pm_kl 76) 78 = some (.iaload, 1) := by decide +kernel
theorem k76_79 : pm_look (pm_kl 76) 79 = some (.iload_n 1, 1) := by decide +kernel
theorem k76_80 : pm_look (pm_kl 76) 80 = some (.invokevirtual 102, 3) := by decide +kernel
theorem k76_83 : pm_look (pm_kl 76) 83 = some (.lor, 1) := by decide +kernel
theorem k76_84 : pm_look (pm_kl 76) 84 = some (.lastore, 1) := by decide +kernel
theorem k76_85 : pm_look (pm_kl 76) 85 = some (.iinc 2 1, 3) := by decide +kernel
theorem k76_88 : pm_look (pm_kl 76) 88 = some (.goto (-60), 3) := by decide +kernel
theorem k76_91 : pm_look (pm_kl 76) 91 = some (.return_, 1) := by decide +kernel
theorem k77_0 : pm_look (pm_kl 77) 0 = some (.aload_n 0, 1) := by decide +kernel
theorem k77_1 : pm_look (pm_kl 77) 1 = some (.getfield 58, 3) := by decide +kernel
theorem k77_4 : pm_look (pm_kl 77) 4 = some (.istore_n 2, 1) := by decide +kernel
theorem k77_5 : pm_look (pm_kl 77) 5 = some (.aload_n 0, 1) := by decide +kernel
theorem k77_6 : pm_look (pm_kl 77) 6 = some (.getfield 32, 3) := by decide +kernel
theorem k77_9 : pm_look (pm_kl 77) 9 = some (.iload_n 1, 1) := by decide +kernel
theorem k77_10 : pm_look (pm_kl 77) 10 = some (.iconst (-1), 1) := by decide +kernel
theorem k77_11 : pm_look (pm_kl 77) 11 = some (.iastore, 1) := by decide +kernel
theorem k77_12 : pm_look (pm_kl 77) 12 = some (.aload_n 0, 1) := by decide +kernel
theorem k77_13 : pm_look (pm_kl 77) 13 = some (.getfield 35, 3) := by decide +kernel
theorem k77_16 : pm_look (pm_kl 77) 16 = some (.iload_n 1, 1) := by decide +kernel
theorem k77_17 : pm_look (pm_kl 77) 17 = some (.iconst 0, 1) := by decide +kernel
theorem k77_18 : pm_look (pm_kl 77) 18 = some (.bastore, 1) := by decide +kernel
theorem k77_19 : pm_look (pm_kl 77) 19 = some (.aload_n 0, 1) := by decide +kernel
theorem k77_20 : pm_look (pm_kl 77) 20 = some (.getfield 46, 3) := by decide +kernel
theorem k77_23 : pm_look (pm_kl 77) 23 = some (.getfield 73, 3) := by decide +kernel
theorem k77_26 : pm_look (pm_kl 77) 26 = some (.iload_n 1, 1) := by decide +kernel
theorem k77_27 : pm_look (pm_kl 77) 27 = some (.iaload, 1) := by decide +kernel
theorem k77_28 : pm_look (pm_kl 77) 28 = some (.iload_n 2, 1) := by decide +kernel
theorem k77_29 : pm_look (pm_kl 77) 29 = some (.if_icmp .gt 21, 3) := by decide +kernel
theorem k77_32 : pm_look (pm_kl 77) 32 = some (.aload_n 0, 1) := by decide +kernel
theorem k77_33 : pm_look (pm_kl 77) 33 = some (.getfield 29, 3) := by decide +kernel
theorem k77_36 : pm_look (pm_kl 77) 36 = some (.iload_n 1, 1) := by decide +kernel
theorem k77_37 : pm_look (pm_kl 77) 37 = some (.iaload, 1) := by decide +kernel
theorem k77_38 : pm_look (pm_kl 77) 38 = some (.ifCond .ne 12, 3) := by decide +kernel
theorem k77_41 : pm_look (pm_kl 77) 41 = some (.aload_n 0, 1) := by decide +kernel
theorem k77_42 : pm_look (pm_kl 77) 42 = some (.getfield 22, 3) := by decide +kernel
theorem k77_45 : pm_look (pm_kl 77) 45 = some (.iload_n 1, 1) := by decide +kernel
theorem k77_46 : pm_look (pm_kl 77) 46 = some (.baload, 1) := by decide +kernel
theorem k77_47 : pm_look (pm_kl 77) 47 = some (.ifCond .eq 4, 3) := by decide +kernel
theorem k77_50 : pm_look (pm_kl 77) 50 = some (.return_, 1) := by decide +kernel
theorem k77_51 : pm_look (pm_kl 77) 51 = some (.aload_n 0, 1) := by decide +kernel
theorem k77_52 : pm_look (pm_kl 77) 52 = some (.getfield 46, 3) := by decide +kernel
theorem k77_55 : pm_look (pm_kl 77) 55 = some (.iload_n 1, 1) := by decide +kernel
theorem k77_56 : pm_look (pm_kl 77) 56 = some (.iload_n 2, 1) := by decide +kernel
theorem k77_57 : pm_look (pm_kl 77) 57 = some (.invokevirtual 127, 3) := by decide +kernel
theorem k77_60 : pm_look (pm_kl 77) 60 = some (.iconst 1, 1) := by decide +kernel
theorem k77_61 : pm_look (pm_kl 77) 61 = some (.if_icmp .le 4, 3) := by decide +kernel
theorem k77_64 : pm_look (pm_kl 77) 64 = some (.return_, 1) := by decide +kernel
theorem k77_65 : pm_look (pm_kl 77) 65 = some (.aload_n 0, 1) := by decide +kernel
theorem k77_66 : pm_look (pm_kl 77) 66 = some (.getfield 42, 3) := by decide +kernel
theorem k77_69 : pm_look (pm_kl 77) 69 = some (.aload_n 0, 1) := by decide +kernel
theorem k77_70 : pm_look (pm_kl 77) 70 = some (.getfield 46, 3) := by decide +kernel
theorem k77_73 : pm_look (pm_kl 77) 73 = some (.getfield 93, 3) := by decide +kernel
theorem k77_76 : pm_look (pm_kl 77) 76 = some (.iload_n 1, 1) := by decide +kernel
theorem k77_77 : pm_look (pm_kl 77) 77 = some (.iaload, 1) := by decide +kernel
theorem k77_78 : pm_look (pm_kl 77) 78 = some (.iload_n 2, 1) := by decide +kernel
theorem k77_79 : pm_look (pm_kl 77) 79 = some (.invokevirtual 130, 3) := by decide +kernel
theorem k77_82 : pm_look (pm_kl 77) 82 = some (.istore_n 3, 1) := by decide +kernel
theorem k77_83 : pm_look (pm_kl 77) 83 = some (.aload_n 0, 1) := by decide +kernel
theorem k77_84 : pm_look (pm_kl 77) 84 = some (.getfield 35, 3) := by decide +kernel
theorem k77_87 : pm_look (pm_kl 77) 87 = some (.iload_n 1, 1) := by decide +kernel
theorem k77_88 : pm_look (pm_kl 77) 88 = some (.aload_n 0, 1) := by decide +kernel
theorem k77_89 : pm_look (pm_kl 77) 89 = some (.getfield 42, 3) := by decide +kernel
theorem k77_92 : pm_look (pm_kl 77) 92 = some (.iload_n 3, 1) := by decide +kernel
theorem k77_93 : pm_look (pm_kl 77) 93 = some (.iload_n 2, 1) := by decide +kernel
theorem k77_94 : pm_look (pm_kl 77) 94 = some (.invokevirtual 133, 3) := by decide +kernel
theorem k77_97 : pm_look (pm_kl 77) 97 = some (.bastore, 1) := by decide +kernel
theorem k77_98 : pm_look (pm_kl 77) 98 = some (.aload_n 0, 1) := by decide +kernel
theorem k77_99 : pm_look (pm_kl 77) 99 = some (.getfield 32, 3) := by decide +kernel
theorem k77_102 : pm_look (pm_kl 77) 102 = some (.iload_n 1, 1) := by decide +kernel
theorem k77_103 : pm_look (pm_kl 77) 103 = some (.aload_n 0, 1) := by decide +kernel
theorem k77_104 : pm_look (pm_kl 77) 104 = some (.getfield 42, 3) := by decide +kernel
theorem k77_107 : pm_look (pm_kl 77) 107 = some (.aload_n 0, 1) := by decide +kernel
theorem k77_108 : pm_look (pm_kl 77) 108 = some (.getfield 42, 3) := by decide +kernel
theorem k77_111 : pm_look (pm_kl 77) 111 = some (.iload_n 3, 1) := by decide +kernel
theorem k77_112 : pm_look (pm_kl 77) 112 = some (.iload_n 2, 1) := by decide +kernel
theorem k77_113 : pm_look (pm_kl 77) 113 = some (.invokevirtual 136, 3) := by decide +kernel
theorem k77_116 : pm_look (pm_kl 77) 116 = some (.aload_n 0, 1) := by decide +kernel
theorem k77_117 : pm_look (pm_kl 77) 117 = some (.getfield 26, 3) := by decide +kernel
theorem k77_120 : pm_look (pm_kl 77) 120 = some (.iload_n 1, 1) := by decide +kernel
theorem k77_121 : pm_look (pm_kl 77) 121 = some (.iaload, 1) := by decide +kernel
theorem k77_122 : pm_look (pm_kl 77) 122 = some (.iload_n 2, 1) := by decide +kernel
theorem k77_123 : pm_look (pm_kl 77) 123 = some (.invokevirtual 139, 3) := by decide +kernel
theorem k77_126 : pm_look (pm_kl 77) 126 = some (.iastore, 1) := by decide +kernel
theorem k77_127 : pm_look (pm_kl 77) 127 = some (.return_, 1) := by decide +kernel
theorem k78_0 : pm_look (pm_kl 78) 0 = some (.aload_n 0, 1) := by decide +kernel
theorem k78_1 : pm_look (pm_kl 78) 1 = some (.getfield 38, 3) := by decide +kernel
theorem k78_4 : pm_look (pm_kl 78) 4 = some (.iload_n 1, 1) := by decide +kernel
theorem k78_5 : pm_look (pm_kl 78) 5 = some (.laload, 1) := by decide +kernel
theorem k78_6 : pm_look (pm_kl 78) 6 = some (.iload_n 2, 1) := by decide +kernel
theorem k78_7 : pm_look (pm_kl 78) 7 = some (.lushr, 1) := by decide +kernel
theorem k78_8 : pm_look (pm_kl 78) 8 = some (.lconst 1, 1) := by decide +kernel
theorem k78_9 : pm_look (pm_kl 78) 9 = some (.land, 1) := by decide +kernel
theorem k78_10 : pm_look (pm_kl 78) 10 = some (.lconst 0, 1) := by decide +kernel
theorem k78_11 : pm_look (pm_kl 78) 11 = some (.lcmp, 1) := by decide +kernel
theorem k78_12 : pm_look (pm_kl 78) 12 = some (.ifCond .eq 7, 3) := by decide +kernel
theorem k78_15 : pm_look (pm_kl 78) 15 = some (.iconst 1, 1) := by decide +kernel
theorem k78_16 : pm_look (pm_kl 78) 16 = some (.goto 4, 3) := by decide +kernel
theorem k78_19 : pm_look (pm_kl 78) 19 = some (.iconst 0, 1) := by decide +kernel
theorem k78_20 : pm_look (pm_kl 78) 20 = some (.ireturn, 1) := by decide +kernel
theorem k79_0 : pm_look (pm_kl 79) 0 = some (.aload_n 0, 1) := by decide +kernel
theorem k79_1 : pm_look (pm_kl 79) 1 = some (.lconst 1, 1) := by decide +kernel
theorem k79_2 : pm_look (pm_kl 79) 2 = some (.iload_n 1, 1) := by decide +kernel
theorem k79_3 : pm_look (pm_kl 79) 3 = some (.lshl, 1) := by decide +kernel
theorem k79_4 : pm_look (pm_kl 79) 4 = some (.invokevirtual 143, 3) := by decide +kernel
theorem k79_7 : pm_look (pm_kl 79) 7 = some (.lreturn, 1) := by decide +kernel
theorem k80_0 : pm_look (pm_kl 80) 0 = some (.lconst 0, 1) := by decide +kernel
theorem k80_1 : pm_look (pm_kl 80) 1 = some (.lstore_n 3, 1) := by decide +kernel
theorem k80_2 : pm_look (pm_kl 80) 2 = some (.iconst 0, 1) := by decide +kernel
theorem k80_3 : pm_look (pm_kl 80) 3 = some (.istore 5, 2) := by decide +kernel
theorem k80_5 : pm_look (pm_kl 80) 5 = some (.iload 5, 2) := by decide +kernel
theorem k80_7 : pm_look (pm_kl 80) 7 = some (.bipush 40, 2) := by decide +kernel
theorem k80_9 : pm_look (pm_kl 80) 9 = some (.if_icmp .ge 30, 3) := by decide +kernel
theorem k80_12 : pm_look (pm_kl 80) 12 = some (.aload_n 0, 1) := by decide +kernel
theorem k80_13 : pm_look (pm_kl 80) 13 = some (.getfield 38, 3) := by decide +kernel
theorem k80_16 : pm_look (pm_kl 80) 16 = some (.iload 5, 2) := by decide +kernel
theorem k80_18 : pm_look (pm_kl 80) 18 = some (.laload, 1) := by decide +kernel
theorem k80_19 : pm_look (pm_kl 80) 19 = some (.lload_n 1, 1) := by decide +kernel
theorem k80_20 : pm_look (pm_kl 80) 20 = some (.land, 1) := by decide +kernel
theorem k80_21 : pm_look (pm_kl 80) 21 = some (.lconst 0, 1) := by decide +kernel
theorem k80_22 : pm_look (pm_kl 80) 22 = some (.lcmp, 1) := by decide +kernel
theorem k80_23 : pm_look (pm_kl 80) 23 = some (.ifCond .eq 10, 3) := by decide +kernel
theorem k80_26 : pm_look (pm_kl 80) 26 = some (.lload_n 3, 1) := by decide +kernel
theorem k80_27 : pm_look (pm_kl 80) 27 = some (.lconst 1, 1) := by decide +kernel
theorem k80_28 : pm_look (pm_kl 80) 28 = some (.iload 5, 2) := by decide +kernel
theorem k80_30 : pm_look (pm_kl 80) 30 = some (.lshl, 1) := by decide +kernel
theorem k80_31 : pm_look (pm_kl 80) 31 = some (.lor, 1) := by decide +kernel
theorem k80_32 : pm_look (pm_kl 80) 32 = some (.lstore_n 3, 1) := by decide +kernel
theorem k80_33 : pm_look (pm_kl 80) 33 = some (.iinc 5 1, 3) := by decide +kernel
theorem k80_36 : pm_look (pm_kl 80) 36 = some (.goto (-31), 3) := by decide +kernel
theorem k80_39 : pm_look (pm_kl 80) 39 = some (.lload_n 3, 1) := by decide +kernel
theorem k80_40 : pm_look (pm_kl 80) 40 = some (.lreturn, 1) := by decide +kernel
theorem k81_0 : pm_look (pm_kl 81) 0 = some (.aload_n 0, 1) := by decide +kernel
theorem k81_1 : pm_look (pm_kl 81) 1 = some (.getfield 32, 3) := by decide +kernel
theorem k81_4 : pm_look (pm_kl 81) 4 = some (.iload_n 1, 1) := by decide +kernel
theorem k81_5 : pm_look (pm_kl 81) 5 = some (.iaload, 1) := by decide +kernel
theorem k81_6 : pm_look (pm_kl 81) 6 = some (.iconst (-1), 1) := by decide +kernel
theorem k81_7 : pm_look (pm_kl 81) 7 = some (.if_icmp .eq 28, 3) := by decide +kernel
theorem k81_10 : pm_look (pm_kl 81) 10 = some (.aload_n 0, 1) := by decide +kernel
theorem k81_11 : pm_look (pm_kl 81) 11 = some (.getfield 42, 3) := by decide +kernel
theorem k81_14 : pm_look (pm_kl 81) 14 = some (.aload_n 0, 1) := by decide +kernel
theorem k81_15 : pm_look (pm_kl 81) 15 = some (.getfield 32, 3) := by decide +kernel
theorem k81_18 : pm_look (pm_kl 81) 18 = some (.iload_n 1, 1) := by decide +kernel
theorem k81_19 : pm_look (pm_kl 81) 19 = some (.iaload, 1) := by decide +kernel
theorem k81_20 : pm_look (pm_kl 81) 20 = some (.iload_n 2, 1) := by decide +kernel
theorem k81_21 : pm_look (pm_kl 81) 21 = some (.aload_n 0, 1) := by decide +kernel
theorem k81_22 : pm_look (pm_kl 81) 22 = some (.getfield 58, 3) := by decide +kernel
theorem k81_25 : pm_look (pm_kl 81) 25 = some (.invokevirtual 147, 3) := by decide +kernel
theorem k81_28 : pm_look (pm_kl 81) 28 = some (.ifCond .eq 7, 3) := by decide +kernel
theorem k81_31 : pm_look (pm_kl 81) 31 = some (.iconst 1, 1) := by decide +kernel
theorem k81_32 : pm_look (pm_kl 81) 32 = some (.goto 4, 3) := by decide +kernel
theorem k81_35 : pm_look (pm_kl 81) 35 = some (.iconst 0, 1) := by decide +kernel
theorem k81_36 : pm_look (pm_kl 81) 36 = some (.ireturn, 1) := by decide +kernel
theorem k82_0 : pm_look (pm_kl 82) 0 = some (.lconst 0, 1) := by decide +kernel
theorem k82_1 : pm_look (pm_kl 82) 1 = some (.lstore_n 3, 1) := by decide +kernel
theorem k82_2 : pm_look (pm_kl 82) 2 = some (.iconst 0, 1) := by decide +kernel
theorem k82_3 : pm_look (pm_kl 82) 3 = some (.istore 5, 2) := by decide +kernel
theorem k82_5 : pm_look (pm_kl 82) 5 = some (.iload 5, 2) := by decide +kernel
theorem k82_7 : pm_look (pm_kl 82) 7 = some (.aload_n 0, 1) := by decide +kernel
theorem k82_8 : pm_look (pm_kl 82) 8 = some (.getfield 46, 3) := by decide +kernel
theorem k82_11 : pm_look (pm_kl 82) 11 = some (.getfield 68, 3) := by decide +kernel
theorem k82_14 : pm_look (pm_kl 82) 14 = some (.if_icmp .ge 48, 3) := by decide +kernel
theorem k82_17 : pm_look (pm_kl 82) 17 = some (.aload_n 0, 1) := by decide +kernel
theorem k82_18 : pm_look (pm_kl 82) 18 = some (.getfield 46, 3) := by decide +kernel
theorem k82_21 : pm_look (pm_kl 82) 21 = some (.getfield 151, 3) := by decide +kernel
theorem k82_24 : pm_look (pm_kl 82) 24 = some (.iload 5, 2) := by decide +kernel
theorem k82_26 : pm_look (pm_kl 82) 26 = some (.iaload, 1) := by decide +kernel
theorem k82_27 : pm_look (pm_kl 82) 27 = some (.iload_n 1, 1) := by decide +kernel
theorem k82_28 : pm_look (pm_kl 82) 28 = some (.if_icmp .ne 28, 3) := by decide +kernel
theorem k82_31 : pm_look (pm_kl 82) 31 = some (.aload_n 0, 1) := by decide +kernel
theorem k82_32 : pm_look (pm_kl 82) 32 = some (.iload 5, 2) := by decide +kernel
theorem k82_34 : pm_look (pm_kl 82) 34 = some (.iload_n 2, 1) := by decide +kernel
theorem k82_35 : pm_look (pm_kl 82) 35 = some (.invokevirtual 154, 3) := by decide +kernel
theorem k82_38 : pm_look (pm_kl 82) 38 = some (.ifCond .eq 18, 3) := by decide +kernel
theorem k82_41 : pm_look (pm_kl 82) 41 = some (.lload_n 3, 1) := by decide +kernel
theorem k82_42 : pm_look (pm_kl 82) 42 = some (.lconst 1, 1) := by decide +kernel
theorem k82_43 : pm_look (pm_kl 82) 43 = some (.aload_n 0, 1) := by decide +kernel
theorem k82_44 : pm_look (pm_kl 82) 44 = some (.getfield 46, 3) := by decide +kernel
theorem k82_47 : pm_look (pm_kl 82) 47 = some (.getfield 90, 3) := by decide +kernel
theorem k82_50 : pm_look (pm_kl 82) 50 = some (.iload 5, 2) := by decide +kernel
theorem k82_52 : pm_look (pm_kl 82) 52 = some (.iaload, 1) := by decide +kernel
theorem k82_53 : pm_look (pm_kl 82) 53 = some (.lshl, 1) := by decide +kernel
theorem k82_54 : pm_look (pm_kl 82) 54 = some (.lor, 1) := by decide +kernel
theorem k82_55 : pm_look (pm_kl 82) 55 = some (.lstore_n 3, 1) := by decide +kernel
theorem k82_56 : pm_look (pm_kl 82) 56 = some (.iinc 5 1, 3) := by decide +kernel
theorem k82_59 : pm_look (pm_kl 82) 59 = some (.goto (-54), 3) := by decide +kernel
theorem k82_62 : pm_look (pm_kl 82) 62 = some (.lload_n 3, 1) := by decide +kernel
theorem k82_63 : pm_look (pm_kl 82) 63 = some (.lreturn, 1) := by decide +kernel
theorem k83_0 : pm_look (pm_kl 83) 0 = some (.aload_n 0, 1) := by decide +kernel
theorem k83_1 : pm_look (pm_kl 83) 1 = some (.getfield 46, 3) := by decide +kernel
theorem k83_4 : pm_look (pm_kl 83) 4 = some (.getfield 73, 3) := by decide +kernel
theorem k83_7 : pm_look (pm_kl 83) 7 = some (.iload_n 1, 1) := by decide +kernel
theorem k83_8 : pm_look (pm_kl 83) 8 = some (.iaload, 1) := by decide +kernel
theorem k83_9 : pm_look (pm_kl 83) 9 = some (.aload_n 0, 1) := by decide +kernel
theorem k83_10 : pm_look (pm_kl 83) 10 = some (.getfield 58, 3) := by decide +kernel
theorem k83_13 : pm_look (pm_kl 83) 13 = some (.if_icmp .gt 12, 3) := by decide +kernel
theorem k83_16 : pm_look (pm_kl 83) 16 = some (.aload_n 0, 1) := by decide +kernel
theorem k83_17 : pm_look (pm_kl 83) 17 = some (.getfield 29, 3) := by decide +kernel
theorem k83_20 : pm_look (pm_kl 83) 20 = some (.iload_n 1, 1) := by decide +kernel
theorem k83_21 : pm_look (pm_kl 83) 21 = some (.iaload, 1) := by decide +kernel
theorem k83_22 : pm_look (pm_kl 83) 22 = some (.ifCond .eq 5, 3) := by decide +kernel
theorem k83_25 : pm_look (pm_kl 83) 25 = some (.iconst 0, 1) := by decide +kernel
theorem k83_26 : pm_look (pm_kl 83) 26 = some (.ireturn, 1) := by decide +kernel
theorem k83_27 : pm_look (pm_kl 83) 27 = some (.aload_n 0, 1) := by decide +kernel
theorem k83_28 : pm_look (pm_kl 83) 28 = some (.getfield 42, 3) := by decide +kernel
theorem k83_31 : pm_look (pm_kl 83) 31 = some (.aload_n 0, 1) := by decide +kernel
theorem k83_32 : pm_look (pm_kl 83) 32 = some (.getfield 46, 3) := by decide +kernel
theorem k83_35 : pm_look (pm_kl 83) 35 = some (.getfield 93, 3) := by decide +kernel
theorem k83_38 : pm_look (pm_kl 83) 38 = some (.iload_n 1, 1) := by decide +kernel
theorem k83_39 : pm_look (pm_kl 83) 39 = some (.iaload, 1) := by decide +kernel
theorem k83_40 : pm_look (pm_kl 83) 40 = some (.aload_n 0, 1) := by decide +kernel
theorem k83_41 : pm_look (pm_kl 83) 41 = some (.getfield 58, 3) := by decide +kernel
theorem k83_44 : pm_look (pm_kl 83) 44 = some (.invokevirtual 102, 3) := by decide +kernel
theorem k83_47 : pm_look (pm_kl 83) 47 = some (.lstore_n 3, 1) := by decide +kernel
theorem k83_48 : pm_look (pm_kl 83) 48 = some (.iconst 0, 1) := by decide +kernel
theorem k83_49 : pm_look (pm_kl 83) 49 = some (.istore 5, 2) := by decide +kernel
theorem k83_51 : pm_look (pm_kl 83) 51 = some (.iload 5, 2) := by decide +kernel
theorem k83_53 : pm_look (pm_kl 83) 53 = some (.bipush 40, 2) := by decide +kernel
theorem k83_55 : pm_look (pm_kl 83) 55 = some (.if_icmp .ge 56, 3) := by decide +kernel
theorem k83_58 : pm_look (pm_kl 83) 58 = some (.lload_n 3, 1) := by decide +kernel
theorem k83_59 : pm_look (pm_kl 83) 59 = some (.iload 5, 2) := by decide +kernel
theorem k83_61 : pm_look (pm_kl 83) 61 = some (.lushr, 1) := by decide +kernel
theorem k83_62 : pm_look (pm_kl 83) 62 = some (.lconst 1, 1) := by decide +kernel
theorem k83_63 : pm_look (pm_kl 83) 63 = some (.land, 1) := by decide +kernel
theorem k83_64 : pm_look (pm_kl 83) 64 = some (.lconst 0, 1) := by decide +kernel
theorem k83_65 : pm_look (pm_kl 83) 65 = some (.lcmp, 1) := by decide +kernel
theorem k83_66 : pm_look (pm_kl 83) 66 = some (.ifCond .ne 6, 3) := by decide +kernel
theorem k83_69 : pm_look (pm_kl 83) 69 = some (.goto 36, 3) := by decide +kernel
theorem k83_72 : pm_look (pm_kl 83) 72 = some (.aload_n 2, 1) := by decide +kernel
theorem k83_73 : pm_look (pm_kl 83) 73 = some (.getfield 157, 3) := by decide +kernel
theorem k83_76 : pm_look (pm_kl 83) 76 = some (.iload 5, 2) := by decide +kernel
theorem k83_78 : pm_look (pm_kl 83) 78 = some (.laload, 1) := by decide +kernel
theorem k83_79 : pm_look (pm_kl 83) 79 = some (.aload_n 0, 1) := by decide +kernel
theorem k83_80 : pm_look (pm_kl 83) 80 = some (.getfield 38, 3) := by decide +kernel
theorem k83_83 : pm_look (pm_kl 83) 83 = some (.aload_n 0, 1) := by decide +kernel
theorem k83_84 : pm_look (pm_kl 83) 84 = some (.getfield 46, 3) := by decide +kernel
theorem k83_87 : pm_look (pm_kl 83) 87 = some (.getfield 90, 3) := by decide +kernel
theorem k83_90 : pm_look (pm_kl 83) 90 = some (.iload_n 1, 1) := by decide +kernel
theorem k83_91 : pm_look (pm_kl 83) 91 = some (.iaload, 1) := by decide +kernel
theorem k83_92 : pm_look (pm_kl 83) 92 = some (.laload, 1) := by decide +kernel
theorem k83_93 : pm_look (pm_kl 83) 93 = some (.ldc2_w 160, 3) := by decide +kernel
theorem k83_96 : pm_look (pm_kl 83) 96 = some (.lxor, 1) := by decide +kernel
theorem k83_97 : pm_look (pm_kl 83) 97 = some (.land, 1) := by decide +kernel
theorem k83_98 : pm_look (pm_kl 83) 98 = some (.lconst 0, 1) := by decide +kernel
theorem k83_99 : pm_look (pm_kl 83) 99 = some (.lcmp, 1) := by decide +kernel
theorem k83_100 : pm_look (pm_kl 83) 100 = some (.ifCond .eq 5, 3) := by decide +kernel
theorem k83_103 : pm_look (pm_kl 83) 103 = some (.iconst 1, 1) := by decide +kernel
theorem k83_104 : pm_look (pm_kl 83) 104 = some (.ireturn, 1) := by decide +kernel
theorem k83_105 : pm_look (pm_kl 83) 105 = some (.iinc 5 1, 3) := by decide +kernel
theorem k83_108 : pm_look (pm_kl 83) 108 = some (.goto (-57), 3) := by decide +kernel
theorem k83_111 : pm_look (pm_kl 83) 111 = some (.iconst 0, 1) := by decide +kernel
theorem k83_112 : pm_look (pm_kl 83) 112 = some (.ireturn, 1) := by decide +kernel
theorem k84_0 : pm_look (pm_kl 84) 0 = some (.iconst 0, 1) := by decide +kernel
theorem k84_1 : pm_look (pm_kl 84) 1 = some (.istore_n 1, 1) := by decide +kernel
theorem k84_2 : pm_look (pm_kl 84) 2 = some (.iconst 0, 1) := by decide +kernel
theorem k84_3 : pm_look (pm_kl 84) 3 = some (.istore_n 2, 1) := by decide +kernel
theorem k84_4 : pm_look (pm_kl 84) 4 = some (.iload_n 2, 1) := by decide +kernel
theorem k84_5 : pm_look (pm_kl 84) 5 = some (.aload_n 0, 1) := by decide +kernel
theorem k84_6 : pm_look (pm_kl 84) 6 = some (.getfield 46, 3) := by decide +kernel
theorem k84_9 : pm_look (pm_kl 84) 9 = some (.getfield 68, 3) := by decide +kernel
theorem k84_12 : pm_look (pm_kl 84) 12 = some (.if_icmp .ge 21, 3) := by decide +kernel
theorem k84_15 : pm_look (pm_kl 84) 15 = some (.aload_n 0, 1) := by decide +kernel
theorem k84_16 : pm_look (pm_kl 84) 16 = some (.getfield 29, 3) := by decide +kernel
theorem k84_19 : pm_look (pm_kl 84) 19 = some (.iload_n 2, 1) := by decide +kernel
theorem k84_20 : pm_look (pm_kl 84) 20 = some (.iaload, 1) := by decide +kernel
theorem k84_21 : pm_look (pm_kl 84) 21 = some (.ifCond .eq 6, 3) := by decide +kernel
theorem k84_24 : pm_look (pm_kl 84) 24 = some (.iinc 1 1, 3) := by decide +kernel
theorem k84_27 : pm_look (pm_kl 84) 27 = some (.iinc 2 1, 3) := by decide +kernel
theorem k84_30 : pm_look (pm_kl 84) 30 = some (.goto (-26), 3) := by decide +kernel
theorem k84_33 : pm_look (pm_kl 84) 33 = some (.iload_n 1, 1) := by decide +kernel
theorem k84_34 : pm_look (pm_kl 84) 34 = some (.ireturn, 1) := by decide +kernel
theorem k85_0 : pm_look (pm_kl 85) 0 = some (.iconst 0, 1) := by decide +kernel
theorem k85_1 : pm_look (pm_kl 85) 1 = some (.istore_n 1, 1) := by decide +kernel
theorem k85_2 : pm_look (pm_kl 85) 2 = some (.iconst 0, 1) := by decide +kernel
theorem k85_3 : pm_look (pm_kl 85) 3 = some (.istore_n 2, 1) := by decide +kernel
theorem k85_4 : pm_look (pm_kl 85) 4 = some (.iload_n 2, 1) := by decide +kernel
theorem k85_5 : pm_look (pm_kl 85) 5 = some (.aload_n 0, 1) := by decide +kernel
theorem k85_6 : pm_look (pm_kl 85) 6 = some (.getfield 46, 3) := by decide +kernel
theorem k85_9 : pm_look (pm_kl 85) 9 = some (.getfield 68, 3) := by decide +kernel
theorem k85_12 : pm_look (pm_kl 85) 12 = some (.if_icmp .ge 21, 3) := by decide +kernel
theorem k85_15 : pm_look (pm_kl 85) 15 = some (.aload_n 0, 1) := by decide +kernel
theorem k85_16 : pm_look (pm_kl 85) 16 = some (.getfield 35, 3) := by decide +kernel
theorem k85_19 : pm_look (pm_kl 85) 19 = some (.iload_n 2, 1) := by decide +kernel
theorem k85_20 : pm_look (pm_kl 85) 20 = some (.baload, 1) := by decide +kernel
theorem k85_21 : pm_look (pm_kl 85) 21 = some (.ifCond .eq 6, 3) := by decide +kernel
theorem k85_24 : pm_look (pm_kl 85) 24 = some (.iinc 1 1, 3) := by decide +kernel
theorem k85_27 : pm_look (pm_kl 85) 27 = some (.iinc 2 1, 3) := by decide +kernel
theorem k85_30 : pm_look (pm_kl 85) 30 = some (.goto (-26), 3) := by decide +kernel
theorem k85_33 : pm_look (pm_kl 85) 33 = some (.iload_n 1, 1) := by decide +kernel
theorem k85_34 : pm_look (pm_kl 85) 34 = some (.ireturn, 1) := by decide +kernel
theorem k86_0 : pm_look (pm_kl 86) 0 = some (.iconst 0, 1) := by decide +kernel
theorem k86_1 : pm_look (pm_kl 86) 1 = some (.istore_n 2, 1) := by decide +kernel
theorem k86_2 : pm_look (pm_kl 86) 2 = some (.iconst 0, 1) := by decide +kernel
theorem k86_3 : pm_look (pm_kl 86) 3 = some (.istore_n 3, 1) := by decide +kernel
theorem k86_4 : pm_look (pm_kl 86) 4 = some (.iload_n 3, 1) := by decide +kernel
theorem k86_5 : pm_look (pm_kl 86) 5 = some (.aload_n 0, 1) := by decide +kernel
theorem k86_6 : pm_look (pm_kl 86) 6 = some (.getfield 46, 3) := by decide +kernel
theorem k86_9 : pm_look (pm_kl 86) 9 = some (.getfield 68, 3) := by decide +kernel
theorem k86_12 : pm_look (pm_kl 86) 12 = some (.if_icmp .ge 21, 3) := by decide +kernel
theorem k86_15 : pm_look (pm_kl 86) 15 = some (.aload_n 0, 1) := by decide +kernel
theorem k86_16 : pm_look (pm_kl 86) 16 = some (.iload_n 3, 1) := by decide +kernel
theorem k86_17 : pm_look (pm_kl 86) 17 = some (.aload_n 1, 1) := by decide +kernel
theorem k86_18 : pm_look (pm_kl 86) 18 = some (.invokevirtual 162, 3) := by decide +kernel
theorem k86_21 : pm_look (pm_kl 86) 21 = some (.ifCond .eq 6, 3) := by decide +kernel
theorem k86_24 : pm_look (pm_kl 86) 24 = some (.iinc 2 1, 3) := by decide +kernel
theorem k86_27 : pm_look (pm_kl 86) 27 = some (.iinc 3 1, 3) := by decide +kernel
theorem k86_30 : pm_look (pm_kl 86) 30 = some (.goto (-26), 3) := by decide +kernel
theorem k86_33 : pm_look (pm_kl 86) 33 = some (.iload_n 2, 1) := by decide +kernel
theorem k86_34 : pm_look (pm_kl 86) 34 = some (.ireturn, 1) := by decide +kernel
theorem k87_0 : pm_look (pm_kl 87) 0 = some (.aload_n 0, 1) := by decide +kernel
theorem k87_1 : pm_look (pm_kl 87) 1 = some (.invokespecial 3, 3) := by decide +kernel
theorem k87_4 : pm_look (pm_kl 87) 4 = some (.aload_n 0, 1) := by decide +kernel
theorem k87_5 : pm_look (pm_kl 87) 5 = some (.bipush 60, 2) := by decide +kernel
theorem k87_7 : pm_look (pm_kl 87) 7 = some (.newarray .int, 2) := by decide +kernel
theorem k87_9 : pm_look (pm_kl 87) 9 = some (.putfield 9, 3) := by decide +kernel
theorem k87_12 : pm_look (pm_kl 87) 12 = some (.aload_n 0, 1) := by decide +kernel
theorem k87_13 : pm_look (pm_kl 87) 13 = some (.bipush 60, 2) := by decide +kernel
theorem k87_15 : pm_look (pm_kl 87) 15 = some (.newarray .int, 2) := by decide +kernel
theorem k87_17 : pm_look (pm_kl 87) 17 = some (.putfield 15, 3) := by decide +kernel
theorem k87_20 : pm_look (pm_kl 87) 20 = some (.aload_n 0, 1) := by decide +kernel
theorem k87_21 : pm_look (pm_kl 87) 21 = some (.bipush 60, 2) := by decide +kernel
theorem k87_23 : pm_look (pm_kl 87) 23 = some (.newarray .int, 2) := by decide +kernel
theorem k87_25 : pm_look (pm_kl 87) 25 = some (.putfield 18, 3) := by decide +kernel
theorem k87_28 : pm_look (pm_kl 87) 28 = some (.return_, 1) := by decide +kernel
theorem k88_0 : pm_look (pm_kl 88) 0 = some (.aload_n 0, 1) := by decide +kernel
theorem k88_1 : pm_look (pm_kl 88) 1 = some (.getfield 21, 3) := by decide +kernel
theorem k88_4 : pm_look (pm_kl 88) 4 = some (.bipush 60, 2) := by decide +kernel
theorem k88_6 : pm_look (pm_kl 88) 6 = some (.if_icmp .lt 7, 3) := by decide +kernel
theorem k88_9 : pm_look (pm_kl 88) 9 = some (.sipush (-1004), 3) := by decide +kernel
theorem k88_12 : pm_look (pm_kl 88) 12 = some (.ireturn, 1) := by decide +kernel
theorem k88_13 : pm_look (pm_kl 88) 13 = some (.aload_n 0, 1) := by decide +kernel
theorem k88_14 : pm_look (pm_kl 88) 14 = some (.getfield 9, 3) := by decide +kernel
theorem k88_17 : pm_look (pm_kl 88) 17 = some (.aload_n 0, 1) := by decide +kernel
theorem k88_18 : pm_look (pm_kl 88) 18 = some (.getfield 21, 3) := by decide +kernel
theorem k88_21 : pm_look (pm_kl 88) 21 = some (.iload_n 1, 1) := by decide +kernel
theorem k88_22 : pm_look (pm_kl 88) 22 = some (.iastore, 1) := by decide +kernel
theorem k88_23 : pm_look (pm_kl 88) 23 = some (.aload_n 0, 1) := by decide +kernel
theorem k88_24 : pm_look (pm_kl 88) 24 = some (.getfield 15, 3) := by decide +kernel
theorem k88_27 : pm_look (pm_kl 88) 27 = some (.aload_n 0, 1) := by decide +kernel
theorem k88_28 : pm_look (pm_kl 88) 28 = some (.getfield 21, 3) := by decide +kernel
theorem k88_31 : pm_look (pm_kl 88) 31 = some (.iload_n 2, 1) := by decide +kernel
theorem k88_32 : pm_look (pm_kl 88) 32 = some (.iastore, 1) := by decide +kernel
theorem k88_33 : pm_look (pm_kl 88) 33 = some (.aload_n 0, 1) := by decide +kernel
theorem k88_34 : pm_look (pm_kl 88) 34 = some (.getfield 18, 3) := by decide +kernel
theorem k88_37 : pm_look (pm_kl 88) 37 = some (.aload_n 0, 1) := by decide +kernel
theorem k88_38 : pm_look (pm_kl 88) 38 = some (.getfield 21, 3) := by decide +kernel
theorem k88_41 : pm_look (pm_kl 88) 41 = some (.iload_n 3, 1) := by decide +kernel
theorem k88_42 : pm_look (pm_kl 88) 42 = some (.iastore, 1) := by decide +kernel
theorem k88_43 : pm_look (pm_kl 88) 43 = some (.aload_n 0, 1) := by decide +kernel
theorem k88_44 : pm_look (pm_kl 88) 44 = some (.dup, 1) := by decide +kernel
theorem k88_45 : pm_look (pm_kl 88) 45 = some (.getfield 21, 3) := by decide +kernel
theorem k88_48 : pm_look (pm_kl 88) 48 = some (.iconst 1, 1) := by decide +kernel
theorem k88_49 : pm_look (pm_kl 88) 49 = some (.iadd, 1) := by decide +kernel
theorem k88_50 : pm_look (pm_kl 88) 50 = some (.putfield 21, 3) := by decide +kernel
theorem k88_53 : pm_look (pm_kl 88) 53 = some (.aload_n 0, 1) := by decide +kernel
theorem k88_54 : pm_look (pm_kl 88) 54 = some (.iload_n 1, 1) := by decide +kernel
theorem k88_55 : pm_look (pm_kl 88) 55 = some (.iload_n 2, 1) := by decide +kernel
theorem k88_56 : pm_look (pm_kl 88) 56 = some (.invokevirtual 25, 3) := by decide +kernel
theorem k88_59 : pm_look (pm_kl 88) 59 = some (.invokestatic 29, 3) := by decide +kernel
theorem k88_62 : pm_look (pm_kl 88) 62 = some (.ireturn, 1) := by decide +kernel
theorem k89_0 : pm_look (pm_kl 89) 0 = some (.lconst 0, 1) := by decide +kernel
theorem k89_1 : pm_look (pm_kl 89) 1 = some (.lstore_n 3, 1) := by decide +kernel
theorem k89_2 : pm_look (pm_kl 89) 2 = some (.iconst 0, 1) := by decide +kernel
theorem k89_3 : pm_look (pm_kl 89) 3 = some (.istore 5, 2) := by decide +kernel
theorem k89_5 : pm_look (pm_kl 89) 5 = some (.iload 5, 2) := by decide +kernel
theorem k89_7 : pm_look (pm_kl 89) 7 = some (.aload_n 0, 1) := by decide +kernel
theorem k89_8 : pm_look (pm_kl 89) 8 = some (.getfield 21, 3) := by decide +kernel
theorem k89_11 : pm_look (pm_kl 89) 11 = some (.if_icmp .ge 43, 3) := by decide +kernel
theorem k89_14 : pm_look (pm_kl 89) 14 = some (.aload_n 0, 1) := by decide +kernel
theorem k89_15 : pm_look (pm_kl 89) 15 = some (.getfield 9, 3) := by decide +kernel
theorem k89_18 : pm_look (pm_kl 89) 18 = some (.iload 5, 2) := by decide +kernel
theorem k89_20 : pm_look (pm_kl 89) 20 = some (.iaload, 1) := by decide +kernel
theorem k89_21 : pm_look (pm_kl 89) 21 = some (.iload_n 1, 1) := by decide +kernel
theorem k89_22 : pm_look (pm_kl 89) 22 = some (.if_icmp .ne 26, 3) := by decide +kernel
theorem k89_25 : pm_look (pm_kl 89) 25 = some (.aload_n 0, 1) := by decide +kernel
theorem k89_26 : pm_look (pm_kl 89) 26 = some (.getfield 15, 3) := by decide +kernel
theorem k89_29 : pm_look (pm_kl 89) 29 = some (.iload 5, 2) := by decide +kernel
theorem k89_31 : pm_look (pm_kl 89) 31 = some (.iaload, 1) := by decide +kernel
theorem k89_32 : pm_look (pm_kl 89) 32 = some (.iload_n 2, 1) := by decide +kernel
theorem k89_33 : pm_look (pm_kl 89) 33 = some (.if_icmp .ne 15, 3) := by decide +kernel
theorem k89_36 : pm_look (pm_kl 89) 36 = some (.lload_n 3, 1) := by decide +kernel
theorem k89_37 : pm_look (pm_kl 89) 37 = some (.lconst 1, 1) := by decide +kernel
theorem k89_38 : pm_look (pm_kl 89) 38 = some (.aload_n 0, 1) := by decide +kernel
theorem k89_39 : pm_look (pm_kl 89) 39 = some (.getfield 18, 3) := by decide +kernel
theorem k89_42 : pm_look (pm_kl 89) 42 = some (.iload 5, 2) := by decide +kernel
theorem k89_44 : pm_look (pm_kl 89) 44 = some (.iaload, 1) := by decide +kernel
theorem k89_45 : pm_look (pm_kl 89) 45 = some (.lshl, 1) := by decide +kernel
theorem k89_46 : pm_look (pm_kl 89) 46 = some (.lor, 1) := by decide +kernel
theorem k89_47 : pm_look (pm_kl 89) 47 = some (.lstore_n 3, 1) := by decide +kernel
theorem k89_48 : pm_look (pm_kl 89) 48 = some (.iinc 5 1, 3) := by decide +kernel
theorem k89_51 : pm_look (pm_kl 89) 51 = some (.goto (-46), 3) := by decide +kernel
theorem k89_54 : pm_look (pm_kl 89) 54 = some (.lload_n 3, 1) := by decide +kernel
theorem k89_55 : pm_look (pm_kl 89) 55 = some (.lreturn, 1) := by decide +kernel
theorem k90_0 : pm_look (pm_kl 90) 0 = some (.aload_n 0, 1) := by decide +kernel
theorem k90_1 : pm_look (pm_kl 90) 1 = some (.invokespecial 1, 3) := by decide +kernel
theorem k90_4 : pm_look (pm_kl 90) 4 = some (.aload_n 0, 1) := by decide +kernel
theorem k90_5 : pm_look (pm_kl 90) 5 = some (.new 7, 3) := by decide +kernel
theorem k90_8 : pm_look (pm_kl 90) 8 = some (.dup, 1) := by decide +kernel
theorem k90_9 : pm_look (pm_kl 90) 9 = some (.invokespecial 9, 3) := by decide +kernel
theorem k90_12 : pm_look (pm_kl 90) 12 = some (.putfield 10, 3) := by decide +kernel
theorem k90_15 : pm_look (pm_kl 90) 15 = some (.aload_n 0, 1) := by decide +kernel
theorem k90_16 : pm_look (pm_kl 90) 16 = some (.new 16, 3) := by decide +kernel
theorem k90_19 : pm_look (pm_kl 90) 19 = some (.dup, 1) := by decide +kernel
theorem k90_20 : pm_look (pm_kl 90) 20 = some (.invokespecial 18, 3) := by decide +kernel
theorem k90_23 : pm_look (pm_kl 90) 23 = some (.putfield 19, 3) := by decide +kernel
theorem k90_26 : pm_look (pm_kl 90) 26 = some (.aload_n 0, 1) := by decide +kernel
theorem k90_27 : pm_look (pm_kl 90) 27 = some (.new 23, 3) := by decide +kernel
theorem k90_30 : pm_look (pm_kl 90) 30 = some (.dup, 1) := by decide +kernel
theorem k90_31 : pm_look (pm_kl 90) 31 = some (.invokespecial 25, 3) := by decide +kernel
theorem k90_34 : pm_look (pm_kl 90) 34 = some (.putfield 26, 3) := by decide +kernel
theorem k90_37 : pm_look (pm_kl 90) 37 = some (.aload_n 0, 1) := by decide +kernel
theorem k90_38 : pm_look (pm_kl 90) 38 = some (.new 30, 3) := by decide +kernel
theorem k90_41 : pm_look (pm_kl 90) 41 = some (.dup, 1) := by decide +kernel
theorem k90_42 : pm_look (pm_kl 90) 42 = some (.invokespecial 32, 3) := by decide +kernel
theorem k90_45 : pm_look (pm_kl 90) 45 = some (.putfield 33, 3) := by decide +kernel
theorem k90_48 : pm_look (pm_kl 90) 48 = some (.aload_n 0, 1) := by decide +kernel
theorem k90_49 : pm_look (pm_kl 90) 49 = some (.new 37, 3) := by decide +kernel
theorem k90_52 : pm_look (pm_kl 90) 52 = some (.dup, 1) := by decide +kernel
theorem k90_53 : pm_look (pm_kl 90) 53 = some (.invokespecial 39, 3) := by decide +kernel
theorem k90_56 : pm_look (pm_kl 90) 56 = some (.putfield 40, 3) := by decide +kernel
theorem k90_59 : pm_look (pm_kl 90) 59 = some (.aload_n 0, 1) := by decide +kernel
theorem k90_60 : pm_look (pm_kl 90) 60 = some (.new 44, 3) := by decide +kernel
theorem k90_63 : pm_look (pm_kl 90) 63 = some (.dup, 1) := by decide +kernel
theorem k90_64 : pm_look (pm_kl 90) 64 = some (.invokespecial 46, 3) := by decide +kernel
theorem k90_67 : pm_look (pm_kl 90) 67 = some (.putfield 47, 3) := by decide +kernel
theorem k90_70 : pm_look (pm_kl 90) 70 = some (.aload_n 0, 1) := by decide +kernel
theorem k90_71 : pm_look (pm_kl 90) 71 = some (.new 51, 3) := by decide +kernel
theorem k90_74 : pm_look (pm_kl 90) 74 = some (.dup, 1) := by decide +kernel
theorem k90_75 : pm_look (pm_kl 90) 75 = some (.invokespecial 53, 3) := by decide +kernel
theorem k90_78 : pm_look (pm_kl 90) 78 = some (.putfield 54, 3) := by decide +kernel
theorem k90_81 : pm_look (pm_kl 90) 81 = some (.aload_n 0, 1) := by decide +kernel
theorem k90_82 : pm_look (pm_kl 90) 82 = some (.new 58, 3) := by decide +kernel
theorem k90_85 : pm_look (pm_kl 90) 85 = some (.dup, 1) := by decide +kernel
theorem k90_86 : pm_look (pm_kl 90) 86 = some (.invokespecial 60, 3) := by decide +kernel
theorem k90_89 : pm_look (pm_kl 90) 89 = some (.putfield 61, 3) := by decide +kernel
theorem k90_92 : pm_look (pm_kl 90) 92 = some (.aload_n 0, 1) := by decide +kernel
theorem k90_93 : pm_look (pm_kl 90) 93 = some (.new 65, 3) := by decide +kernel
theorem k90_96 : pm_look (pm_kl 90) 96 = some (.dup, 1) := by decide +kernel
theorem k90_97 : pm_look (pm_kl 90) 97 = some (.invokespecial 67, 3) := by decide +kernel
theorem k90_100 : pm_look (pm_kl 90) 100 = some (.putfield 68, 3) := by decide +kernel
theorem k90_103 : pm_look (pm_kl 90) 103 = some (.aload_n 0, 1) := by decide +kernel
theorem k90_104 : pm_look (pm_kl 90) 104 = some (.new 72, 3) := by decide +kernel
theorem k90_107 : pm_look (pm_kl 90) 107 = some (.dup, 1) := by decide +kernel
theorem k90_108 : pm_look (pm_kl 90) 108 = some (.aload_n 0, 1) := by decide +kernel
theorem k90_109 : pm_look (pm_kl 90) 109 = some (.getfield 10, 3) := by decide +kernel
theorem k90_112 : pm_look (pm_kl 90) 112 = some (.aload_n 0, 1) := by decide +kernel
theorem k90_113 : pm_look (pm_kl 90) 113 = some (.getfield 26, 3) := by decide +kernel
theorem k90_116 : pm_look (pm_kl 90) 116 = some (.aload_n 0, 1) := by decide +kernel
theorem k90_117 : pm_look (pm_kl 90) 117 = some (.getfield 40, 3) := by decide +kernel
theorem k90_120 : pm_look (pm_kl 90) 120 = some (.invokespecial 74, 3) := by decide +kernel
theorem k90_123 : pm_look (pm_kl 90) 123 = some (.putfield 77, 3) := by decide +kernel
theorem k90_126 : pm_look (pm_kl 90) 126 = some (.aload_n 0, 1) := by decide +kernel
theorem k90_127 : pm_look (pm_kl 90) 127 = some (.iconst 0, 1) := by decide +kernel
theorem k90_128 : pm_look (pm_kl 90) 128 = some (.putfield 81, 3) := by decide +kernel
theorem k90_131 : pm_look (pm_kl 90) 131 = some (.aload_n 0, 1) := by decide +kernel
theorem k90_132 : pm_look (pm_kl 90) 132 = some (.iconst (-1), 1) := by decide +kernel
theorem k90_133 : pm_look (pm_kl 90) 133 = some (.putfield 85, 3) := by decide +kernel
theorem k90_136 : pm_look (pm_kl 90) 136 = some (.return_, 1) := by decide +kernel
theorem k91_0 : pm_look (pm_kl 91) 0 = some (.aload_n 0, 1) := by decide +kernel
theorem k91_1 : pm_look (pm_kl 91) 1 = some (.getfield 81, 3) := by decide +kernel
theorem k91_4 : pm_look (pm_kl 91) 4 = some (.bipush 9, 2) := by decide +kernel
theorem k91_6 : pm_look (pm_kl 91) 6 = some (.if_icmp .lt 7, 3) := by decide +kernel
theorem k91_9 : pm_look (pm_kl 91) 9 = some (.sipush (-1003), 3) := by decide +kernel
theorem k91_12 : pm_look (pm_kl 91) 12 = some (.ireturn, 1) := by decide +kernel
theorem k91_13 : pm_look (pm_kl 91) 13 = some (.aload_n 0, 1) := by decide +kernel
theorem k91_14 : pm_look (pm_kl 91) 14 = some (.dup, 1) := by decide +kernel
theorem k91_15 : pm_look (pm_kl 91) 15 = some (.getfield 81, 3) := by decide +kernel
theorem k91_18 : pm_look (pm_kl 91) 18 = some (.iconst 1, 1) := by decide +kernel
theorem k91_19 : pm_look (pm_kl 91) 19 = some (.iadd, 1) := by decide +kernel
theorem k91_20 : pm_look (pm_kl 91) 20 = some (.putfield 81, 3) := by decide +kernel
theorem k91_23 : pm_look (pm_kl 91) 23 = some (.aload_n 0, 1) := by decide +kernel
theorem k91_24 : pm_look (pm_kl 91) 24 = some (.getfield 81, 3) := by decide +kernel
theorem k91_27 : pm_look (pm_kl 91) 27 = some (.ireturn, 1) := by decide +kernel
theorem k92_0 : pm_look (pm_kl 92) 0 = some (.aload_n 0, 1) := by decide +kernel
theorem k92_1 : pm_look (pm_kl 92) 1 = some (.getfield 10, 3) := by decide +kernel
theorem k92_4 : pm_look (pm_kl 92) 4 = some (.iload_n 1, 1) := by decide +kernel
theorem k92_5 : pm_look (pm_kl 92) 5 = some (.invokevirtual 88, 3) := by decide +kernel
theorem k92_8 : pm_look (pm_kl 92) 8 = some (.ifCond .ne 7, 3) := by decide +kernel
theorem k92_11 : pm_look (pm_kl 92) 11 = some (.sipush (-1001), 3) := by decide +kernel
theorem k92_14 : pm_look (pm_kl 92) 14 = some (.ireturn, 1) := by decide +kernel
theorem k92_15 : pm_look (pm_kl 92) 15 = some (.aload_n 0, 1) := by decide +kernel
theorem k92_16 : pm_look (pm_kl 92) 16 = some (.getfield 10, 3) := by decide +kernel
theorem k92_19 : pm_look (pm_kl 92) 19 = some (.iload_n 1, 1) := by decide +kernel
theorem k92_20 : pm_look (pm_kl 92) 20 = some (.aload_n 0, 1) := by decide +kernel
theorem k92_21 : pm_look (pm_kl 92) 21 = some (.getfield 81, 3) := by decide +kernel
theorem k92_24 : pm_look (pm_kl 92) 24 = some (.invokevirtual 92, 3) := by decide +kernel
theorem k92_27 : pm_look (pm_kl 92) 27 = some (.ifCond .ne 7, 3) := by decide +kernel
theorem k92_30 : pm_look (pm_kl 92) 30 = some (.sipush (-1003), 3) := by decide +kernel
theorem k92_33 : pm_look (pm_kl 92) 33 = some (.ireturn, 1) := by decide +kernel
theorem k92_34 : pm_look (pm_kl 92) 34 = some (.aload_n 0, 1) := by decide +kernel
theorem k92_35 : pm_look (pm_kl 92) 35 = some (.getfield 77, 3) := by decide +kernel
theorem k92_38 : pm_look (pm_kl 92) 38 = some (.invokevirtual 96, 3) := by decide +kernel
theorem k92_41 : pm_look (pm_kl 92) 41 = some (.aload_n 0, 1) := by decide +kernel
theorem k92_42 : pm_look (pm_kl 92) 42 = some (.getfield 10, 3) := by decide +kernel
theorem k92_45 : pm_look (pm_kl 92) 45 = some (.iload_n 1, 1) := by decide +kernel
theorem k92_46 : pm_look (pm_kl 92) 46 = some (.aload_n 0, 1) := by decide +kernel
theorem k92_47 : pm_look (pm_kl 92) 47 = some (.getfield 81, 3) := by decide +kernel
theorem k92_50 : pm_look (pm_kl 92) 50 = some (.invokevirtual 99, 3) := by decide +kernel
theorem k92_53 : pm_look (pm_kl 92) 53 = some (.ireturn, 1) := by decide +kernel
theorem k93_0 : pm_look (pm_kl 93) 0 = some (.aload_n 0, 1) := by decide +kernel
theorem k93_1 : pm_look (pm_kl 93) 1 = some (.getfield 10, 3) := by decide +kernel
theorem k93_4 : pm_look (pm_kl 93) 4 = some (.iload_n 1, 1) := by decide +kernel
theorem k93_5 : pm_look (pm_kl 93) 5 = some (.invokevirtual 88, 3) := by decide +kernel
theorem k93_8 : pm_look (pm_kl 93) 8 = some (.ifCond .eq 14, 3) := by decide +kernel
theorem k93_11 : pm_look (pm_kl 93) 11 = some (.aload_n 0, 1) := by decide +kernel
theorem k93_12 : pm_look (pm_kl 93) 12 = some (.getfield 10, 3) := by decide +kernel
theorem k93_15 : pm_look (pm_kl 93) 15 = some (.iload_n 2, 1) := by decide +kernel
theorem k93_16 : pm_look (pm_kl 93) 16 = some (.invokevirtual 88, 3) := by decide +kernel
theorem k93_19 : pm_look (pm_kl 93) 19 = some (.ifCond .ne 7, 3) := by decide +kernel
theorem k93_22 : pm_look (pm_kl 93) 22 = some (.sipush (-1001), 3) := by decide +kernel
theorem k93_25 : pm_look (pm_kl 93) 25 = some (.ireturn, 1) := by decide +kernel
theorem k93_26 : pm_look (pm_kl 93) 26 = some (.iload_n 1, 1) := by decide +kernel
theorem k93_27 : pm_look (pm_kl 93) 27 = some (.ifCond .eq 33, 3) := by decide +kernel
theorem k93_30 : pm_look (pm_kl 93) 30 = some (.aload_n 0, 1) := by decide +kernel
theorem k93_31 : pm_look (pm_kl 93) 31 = some (.getfield 10, 3) := by decide +kernel
theorem k93_34 : pm_look (pm_kl 93) 34 = some (.iload_n 1, 1) := by decide +kernel
theorem k93_35 : pm_look (pm_kl 93) 35 = some (.aload_n 0, 1) := by decide +kernel
theorem k93_36 : pm_look (pm_kl 93) 36 = some (.getfield 81, 3) := by decide +kernel
theorem k93_39 : pm_look (pm_kl 93) 39 = some (.invokevirtual 92, 3) := by decide +kernel
theorem k93_42 : pm_look (pm_kl 93) 42 = some (.ifCond .eq 18, 3) := by decide +kernel
theorem k93_45 : pm_look (pm_kl 93) 45 = some (.aload_n 0, 1) := by decide +kernel
theorem k93_46 : pm_look (pm_kl 93) 46 = some (.getfield 10, 3) := by decide +kernel
theorem k93_49 : pm_look (pm_kl 93) 49 = some (.iload_n 2, 1) := by decide +kernel
theorem k93_50 : pm_look (pm_kl 93) 50 = some (.aload_n 0, 1) := by decide +kernel
theorem k93_51 : pm_look (pm_kl 93) 51 = some (.getfield 81, 3) := by decide +kernel
theorem k93_54 : pm_look (pm_kl 93) 54 = some (.invokevirtual 92, 3) := by decide +kernel
theorem k93_57 : pm_look (pm_kl 93) 57 = some (.ifCond .ne 7, 3) := by decide +kernel
theorem k93_60 : pm_look (pm_kl 93) 60 = some (.sipush (-1003), 3) := by decide +kernel
theorem k93_63 : pm_look (pm_kl 93) 63 = some (.ireturn, 1) := by decide +kernel
theorem k93_64 : pm_look (pm_kl 93) 64 = some (.aload_n 0, 1) := by decide +kernel
theorem k93_65 : pm_look (pm_kl 93) 65 = some (.getfield 10, 3) := by decide +kernel
theorem k93_68 : pm_look (pm_kl 93) 68 = some (.iload_n 2, 1) := by decide +kernel
theorem k93_69 : pm_look (pm_kl 93) 69 = some (.iload_n 1, 1) := by decide +kernel
theorem k93_70 : pm_look (pm_kl 93) 70 = some (.aload_n 0, 1) := by decide +kernel
theorem k93_71 : pm_look (pm_kl 93) 71 = some (.getfield 81, 3) := by decide +kernel
theorem k93_74 : pm_look (pm_kl 93) 74 = some (.invokevirtual 103, 3) := by decide +kernel
theorem k93_77 : pm_look (pm_kl 93) 77 = some (.ifCond .eq 7, 3) := by decide +kernel
theorem k93_80 : pm_look (pm_kl 93) 80 = some (.sipush (-1003), 3) := by decide +kernel
theorem k93_83 : pm_look (pm_kl 93) 83 = some (.ireturn, 1) := by decide +kernel
theorem k93_84 : pm_look (pm_kl 93) 84 = some (.aload_n 0, 1) := by decide +kernel
theorem k93_85 : pm_look (pm_kl 93) 85 = some (.getfield 77, 3) := by decide +kernel
theorem k93_88 : pm_look (pm_kl 93) 88 = some (.invokevirtual 96, 3) := by decide +kernel
theorem k93_91 : pm_look (pm_kl 93) 91 = some (.aload_n 0, 1) := by decide +kernel
theorem k93_92 : pm_look (pm_kl 93) 92 = some (.getfield 10, 3) := by decide +kernel
theorem k93_95 : pm_look (pm_kl 93) 95 = some (.iload_n 1, 1) := by decide +kernel
theorem k93_96 : pm_look (pm_kl 93) 96 = some (.aload_n 0, 1) := by decide +kernel
theorem k93_97 : pm_look (pm_kl 93) 97 = some (.getfield 81, 3) := by decide +kernel
theorem k93_100 : pm_look (pm_kl 93) 100 = some (.invokevirtual 107, 3) := by decide +kernel
theorem k93_103 : pm_look (pm_kl 93) 103 = some (.istore_n 3, 1) := by decide +kernel
theorem k93_104 : pm_look (pm_kl 93) 104 = some (.aload_n 0, 1) := by decide +kernel
theorem k93_105 : pm_look (pm_kl 93) 105 = some (.getfield 10, 3) := by decide +kernel
theorem k93_108 : pm_look (pm_kl 93) 108 = some (.iload_n 1, 1) := by decide +kernel
theorem k93_109 : pm_look (pm_kl 93) 109 = some (.iload_n 2, 1) := by decide +kernel
theorem k93_110 : pm_look (pm_kl 93) 110 = some (.aload_n 0, 1) := by decide +kernel
theorem k93_111 : pm_look (pm_kl 93) 111 = some (.getfield 81, 3) := by decide +kernel
theorem k93_114 : pm_look (pm_kl 93) 114 = some (.invokevirtual 110, 3) := by decide +kernel
theorem k93_117 : pm_look (pm_kl 93) 117 = some (.iload_n 3, 1) := by decide +kernel
theorem k93_118 : pm_look (pm_kl 93) 118 = some (.ireturn, 1) := by decide +kernel
theorem k94_0 : pm_look (pm_kl 94) 0 = some (.aload_n 0, 1) := by decide +kernel
theorem k94_1 : pm_look (pm_kl 94) 1 = some (.getfield 10, 3) := by decide +kernel
theorem k94_4 : pm_look (pm_kl 94) 4 = some (.iload_n 1, 1) := by decide +kernel
theorem k94_5 : pm_look (pm_kl 94) 5 = some (.invokevirtual 88, 3) := by decide +kernel
theorem k94_8 : pm_look (pm_kl 94) 8 = some (.ifCond .eq 19, 3) := by decide +kernel
theorem k94_11 : pm_look (pm_kl 94) 11 = some (.iload_n 2, 1) := by decide +kernel
theorem k94_12 : pm_look (pm_kl 94) 12 = some (.iconst (-1), 1) := by decide +kernel
theorem k94_13 : pm_look (pm_kl 94) 13 = some (.if_icmp .eq 18, 3) := by decide +kernel
theorem k94_16 : pm_look (pm_kl 94) 16 = some (.aload_n 0, 1) := by decide +kernel
theorem k94_17 : pm_look (pm_kl 94) 17 = some (.getfield 10, 3) := by decide +kernel
theorem k94_20 : pm_look (pm_kl 94) 20 = some (.iload_n 2, 1) := by decide +kernel
theorem k94_21 : pm_look (pm_kl 94) 21 = some (.invokevirtual 88, 3) := by decide +kernel
theorem k94_24 : pm_look (pm_kl 94) 24 = some (.ifCond .ne 7, 3) := by decide +kernel
theorem k94_27 : pm_look (pm_kl 94) 27 = some (.sipush (-1001), 3) := by decide +kernel
theorem k94_30 : pm_look (pm_kl 94) 30 = some (.ireturn, 1) := by decide +kernel
theorem k94_31 : pm_look (pm_kl 94) 31 = some (.iload_n 1, 1) := by decide +kernel
theorem k94_32 : pm_look (pm_kl 94) 32 = some (.ifCond .eq 23, 3) := by decide +kernel
theorem k94_35 : pm_look (pm_kl 94) 35 = some (.iload_n 1, 1) := by decide +kernel
theorem k94_36 : pm_look (pm_kl 94) 36 = some (.iload_n 2, 1) := by decide +kernel
theorem k94_37 : pm_look (pm_kl 94) 37 = some (.if_icmp .eq 18, 3) := by decide +kernel
theorem k94_40 : pm_look (pm_kl 94) 40 = some (.aload_n 0, 1) := by decide +kernel
theorem k94_41 : pm_look (pm_kl 94) 41 = some (.getfield 10, 3) := by decide +kernel
theorem k94_44 : pm_look (pm_kl 94) 44 = some (.iload_n 1, 1) := by decide +kernel
theorem k94_45 : pm_look (pm_kl 94) 45 = some (.aload_n 0, 1) := by decide +kernel
theorem k94_46 : pm_look (pm_kl 94) 46 = some (.getfield 81, 3) := by decide +kernel
theorem k94_49 : pm_look (pm_kl 94) 49 = some (.invokevirtual 92, 3) := by decide +kernel
theorem k94_52 : pm_look (pm_kl 94) 52 = some (.ifCond .ne 7, 3) := by decide +kernel
theorem k94_55 : pm_look (pm_kl 94) 55 = some (.sipush (-1003), 3) := by decide +kernel
theorem k94_58 : pm_look (pm_kl 94) 58 = some (.ireturn, 1) := by decide +kernel
theorem k94_59 : pm_look (pm_kl 94) 59 = some (.iload_n 2, 1) := by decide +kernel
theorem k94_60 : pm_look (pm_kl 94) 60 = some (.iconst (-1), 1) := by decide +kernel
theorem k94_61 : pm_look (pm_kl 94) 61 = some (.if_icmp .eq 22, 3) := by decide +kernel
theorem k94_64 : pm_look (pm_kl 94) 64 = some (.aload_n 0, 1) := by decide +kernel
theorem k94_65 : pm_look (pm_kl 94) 65 = some (.getfield 10, 3) := by decide +kernel
theorem k94_68 : pm_look (pm_kl 94) 68 = some (.iload_n 2, 1) := by decide +kernel
theorem k94_69 : pm_look (pm_kl 94) 69 = some (.aload_n 0, 1) := by decide +kernel
theorem k94_70 : pm_look (pm_kl 94) 70 = some (.getfield 81, 3) := by decide +kernel
theorem k94_73 : pm_look (pm_kl 94) 73 = some (.invokevirtual 92, 3) := by decide +kernel
theorem k94_76 : pm_look (pm_kl 94) 76 = some (.ifCond .ne 7, 3) := by decide +kernel
theorem k94_79 : pm_look (pm_kl 94) 79 = some (.sipush (-1003), 3) := by decide +kernel
theorem k94_82 : pm_look (pm_kl 94) 82 = some (.ireturn, 1) := by decide +kernel
theorem k94_83 : pm_look (pm_kl 94) 83 = some (.aload_n 0, 1) := by decide +kernel
theorem k94_84 : pm_look (pm_kl 94) 84 = some (.getfield 77, 3) := by decide +kernel
theorem k94_87 : pm_look (pm_kl 94) 87 = some (.invokevirtual 96, 3) := by decide +kernel
theorem k94_90 : pm_look (pm_kl 94) 90 = some (.aload_n 0, 1) := by decide +kernel
theorem k94_91 : pm_look (pm_kl 94) 91 = some (.getfield 10, 3) := by decide +kernel
theorem k94_94 : pm_look (pm_kl 94) 94 = some (.getfield 114, 3) := by decide +kernel
theorem k94_97 : pm_look (pm_kl 94) 97 = some (.iload_n 1, 1) := by decide +kernel
theorem k94_98 : pm_look (pm_kl 94) 98 = some (.aload_n 0, 1) := by decide +kernel
theorem k94_99 : pm_look (pm_kl 94) 99 = some (.getfield 81, 3) := by decide +kernel
theorem k94_102 : pm_look (pm_kl 94) 102 = some (.iastore, 1) := by decide +kernel
theorem k94_103 : pm_look (pm_kl 94) 103 = some (.aload_n 0, 1) := by decide +kernel
theorem k94_104 : pm_look (pm_kl 94) 104 = some (.getfield 10, 3) := by decide +kernel
theorem k94_107 : pm_look (pm_kl 94) 107 = some (.getfield 118, 3) := by decide +kernel
theorem k94_110 : pm_look (pm_kl 94) 110 = some (.iload_n 1, 1) := by decide +kernel
theorem k94_111 : pm_look (pm_kl 94) 111 = some (.iload_n 2, 1) := by decide +kernel
theorem k94_112 : pm_look (pm_kl 94) 112 = some (.iastore, 1) := by decide +kernel
theorem k94_113 : pm_look (pm_kl 94) 113 = some (.aload_n 0, 1) := by decide +kernel
theorem k94_114 : pm_look (pm_kl 94) 114 = some (.getfield 10, 3) := by decide +kernel
theorem k94_117 : pm_look (pm_kl 94) 117 = some (.iload_n 1, 1) := by decide +kernel
theorem k94_118 : pm_look (pm_kl 94) 118 = some (.aload_n 0, 1) := by decide +kernel
theorem k94_119 : pm_look (pm_kl 94) 119 = some (.getfield 81, 3) := by decide +kernel
theorem k94_122 : pm_look (pm_kl 94) 122 = some (.invokevirtual 121, 3) := by decide +kernel
theorem k94_125 : pm_look (pm_kl 94) 125 = some (.iconst 1, 1) := by decide +kernel
theorem k94_126 : pm_look (pm_kl 94) 126 = some (.isub, 1) := by decide +kernel
theorem k94_127 : pm_look (pm_kl 94) 127 = some (.ireturn, 1) := by decide +kernel
theorem k95_0 : pm_look (pm_kl 95) 0 = some (.aload_n 0, 1) := by decide +kernel
theorem k95_1 : pm_look (pm_kl 95) 1 = some (.getfield 10, 3) := by decide +kernel
theorem k95_4 : pm_look (pm_kl 95) 4 = some (.iload_n 1, 1) := by decide +kernel
theorem k95_5 : pm_look (pm_kl 95) 5 = some (.invokevirtual 88, 3) := by decide +kernel
theorem k95_8 : pm_look (pm_kl 95) 8 = some (.ifCond .ne 7, 3) := by decide +kernel
theorem k95_11 : pm_look (pm_kl 95) 11 = some (.sipush (-1001), 3) := by decide +kernel
theorem k95_14 : pm_look (pm_kl 95) 14 = some (.ireturn, 1) := by decide +kernel
theorem k95_15 : pm_look (pm_kl 95) 15 = some (.aload_n 0, 1) := by decide +kernel
theorem k95_16 : pm_look (pm_kl 95) 16 = some (.iload_n 2, 1) := by decide +kernel
theorem k95_17 : pm_look (pm_kl 95) 17 = some (.invokevirtual 124, 3) := by decide +kernel
theorem k95_20 : pm_look (pm_kl 95) 20 = some (.ifCond .eq 13, 3) := by decide +kernel
theorem k95_23 : pm_look (pm_kl 95) 23 = some (.iload_n 3, 1) := by decide +kernel
theorem k95_24 : pm_look (pm_kl 95) 24 = some (.iconst 0, 1) := by decide +kernel
theorem k95_25 : pm_look (pm_kl 95) 25 = some (.bipush 6, 2) := by decide +kernel
theorem k95_27 : pm_look (pm_kl 95) 27 = some (.invokestatic 127, 3) := by decide +kernel
theorem k95_30 : pm_look (pm_kl 95) 30 = some (.ifCond .ne 7, 3) := by decide +kernel
theorem k95_33 : pm_look (pm_kl 95) 33 = some (.sipush (-1002), 3) := by decide +kernel
theorem k95_36 : pm_look (pm_kl 95) 36 = some (.ireturn, 1) := by decide +kernel
theorem k95_37 : pm_look (pm_kl 95) 37 = some (.iload_n 3, 1) := by decide +kernel
theorem k95_38 : pm_look (pm_kl 95) 38 = some (.tableswitch 101 0 5 #[38, 51, 61, 71, 81, 91], 38) := by decide +kernel
theorem k95_76 : pm_look (pm_kl 95) 76 = some (.aload_n 0, 1) := by decide +kernel
theorem k95_77 : pm_look (pm_kl 95) 77 = some (.getfield 10, 3) := by decide +kernel
theorem k95_80 : pm_look (pm_kl 95) 80 = some (.iload_n 1, 1) := by decide +kernel
theorem k95_81 : pm_look (pm_kl 95) 81 = some (.iload_n 2, 1) := by decide +kernel
theorem k95_82 : pm_look (pm_kl 95) 82 = some (.invokevirtual 92, 3) := by decide +kernel
theorem k95_85 : pm_look (pm_kl 95) 85 = some (.invokestatic 130, 3) := by decide +kernel
theorem k95_88 : pm_look (pm_kl 95) 88 = some (.ireturn, 1) := by decide +kernel
theorem k95_89 : pm_look (pm_kl 95) 89 = some (.aload_n 0, 1) := by decide +kernel
theorem k95_90 : pm_look (pm_kl 95) 90 = some (.getfield 10, 3) := by decide +kernel
theorem k95_93 : pm_look (pm_kl 95) 93 = some (.iload_n 1, 1) := by decide +kernel
theorem k95_94 : pm_look (pm_kl 95) 94 = some (.iload_n 2, 1) := by decide +kernel
theorem k95_95 : pm_look (pm_kl 95) 95 = some (.invokevirtual 107, 3) := by decide +kernel
theorem k95_98 : pm_look (pm_kl 95) 98 = some (.ireturn, 1) := by decide +kernel
theorem k95_99 : pm_look (pm_kl 95) 99 = some (.aload_n 0, 1) := by decide +kernel
theorem k95_100 : pm_look (pm_kl 95) 100 = some (.getfield 10, 3) := by decide +kernel
theorem k95_103 : pm_look (pm_kl 95) 103 = some (.iload_n 1, 1) := by decide +kernel
theorem k95_104 : pm_look (pm_kl 95) 104 = some (.iload_n 2, 1) := by decide +kernel
theorem k95_105 : pm_look (pm_kl 95) 105 = some (.invokevirtual 121, 3) := by decide +kernel
theorem k95_108 : pm_look (pm_kl 95) 108 = some (.ireturn, 1) := by decide +kernel
theorem k95_109 : pm_look (pm_kl 95) 109 = some (.aload_n 0, 1) := by decide +kernel
theorem k95_110 : pm_look (pm_kl 95) 110 = some (.getfield 10, 3) := by decide +kernel
theorem k95_113 : pm_look (pm_kl 95) 113 = some (.getfield 118, 3) := by decide +kernel
theorem k95_116 : pm_look (pm_kl 95) 116 = some (.iload_n 1, 1) := by decide +kernel
theorem k95_117 : pm_look (pm_kl 95) 117 = some (.iaload, 1) := by decide +kernel
theorem k95_118 : pm_look (pm_kl 95) 118 = some (.ireturn, 1) := by decide +kernel
theorem k95_119 : pm_look (pm_kl 95) 119 = some (.aload_n 0, 1) := by decide +kernel
theorem k95_120 : pm_look (pm_kl 95) 120 = some (.getfield 10, 3) := by decide +kernel
theorem k95_123 : pm_look (pm_kl 95) 123 = some (.getfield 134, 3) := by decide +kernel
theorem k95_126 : pm_look (pm_kl 95) 126 = some (.iload_n 1, 1) := by decide +kernel
theorem k95_127 : pm_look (pm_kl 95) 127 = some (.iaload, 1) := by decide +kernel
theorem k95_128 : pm_look (pm_kl 95) 128 = some (.ireturn, 1) := by decide +kernel
theorem k95_129 : pm_look (pm_kl 95) 129 = some (.aload_n 0, 1) := by decide +kernel
theorem k95_130 : pm_look (pm_kl 95) 130 = some (.getfield 10, 3) := by decide +kernel
theorem k95_133 : pm_look (pm_kl 95) 133 = some (.getfield 114, 3) := by decide +kernel
theorem k95_136 : pm_look (pm_kl 95) 136 = some (.iload_n 1, 1) := by decide +kernel
theorem k95_137 : pm_look (pm_kl 95) 137 = some (.iaload, 1) := by decide +kernel
theorem k95_138 : pm_look (pm_kl 95) 138 = some (.ireturn, 1) := by decide +kernel
theorem k95_139 : pm_look (pm_kl 95) 139 = some (.aload_n 0, 1) := by decide +kernel
theorem k95_140 : pm_look (pm_kl 95) 140 = some (.getfield 77, 3) := by decide +kernel
theorem k95_143 : pm_look (pm_kl 95) 143 = some (.iload_n 2, 1) := by decide +kernel
theorem k95_144 : pm_look (pm_kl 95) 144 = some (.invokevirtual 137, 3) := by decide +kernel
theorem k95_147 : pm_look (pm_kl 95) 147 = some (.aload_n 0, 1) := by decide +kernel
theorem k95_148 : pm_look (pm_kl 95) 148 = some (.getfield 77, 3) := by decide +kernel
theorem k95_151 : pm_look (pm_kl 95) 151 = some (.iload_n 1, 1) := by decide +kernel
theorem k95_152 : pm_look (pm_kl 95) 152 = some (.invokevirtual 141, 3) := by decide +kernel
theorem k95_155 : pm_look (pm_kl 95) 155 = some (.invokestatic 145, 3) := by decide +kernel
theorem k95_158 : pm_look (pm_kl 95) 158 = some (.ireturn, 1) := by decide +kernel
theorem k96_0 : pm_look (pm_kl 96) 0 = some (.aload_n 0, 1) := by decide +kernel
theorem k96_1 : pm_look (pm_kl 96) 1 = some (.getfield 10, 3) := by decide +kernel
theorem k96_4 : pm_look (pm_kl 96) 4 = some (.iload_n 1, 1) := by decide +kernel
theorem k96_5 : pm_look (pm_kl 96) 5 = some (.invokevirtual 88, 3) := by decide +kernel
theorem k96_8 : pm_look (pm_kl 96) 8 = some (.ifCond .eq 14, 3) := by decide +kernel
theorem k96_11 : pm_look (pm_kl 96) 11 = some (.aload_n 0, 1) := by decide +kernel
theorem k96_12 : pm_look (pm_kl 96) 12 = some (.getfield 10, 3) := by decide +kernel
theorem k96_15 : pm_look (pm_kl 96) 15 = some (.iload_n 2, 1) := by decide +kernel
theorem k96_16 : pm_look (pm_kl 96) 16 = some (.invokevirtual 88, 3) := by decide +kernel
theorem k96_19 : pm_look (pm_kl 96) 19 = some (.ifCond .ne 7, 3) := by decide +kernel
theorem k96_22 : pm_look (pm_kl 96) 22 = some (.sipush (-1001), 3) := by decide +kernel
theorem k96_25 : pm_look (pm_kl 96) 25 = some (.ireturn, 1) := by decide +kernel
theorem k96_26 : pm_look (pm_kl 96) 26 = some (.aload_n 0, 1) := by decide +kernel
theorem k96_27 : pm_look (pm_kl 96) 27 = some (.iload_n 3, 1) := by decide +kernel
theorem k96_28 : pm_look (pm_kl 96) 28 = some (.invokevirtual 124, 3) := by decide +kernel
theorem k96_31 : pm_look (pm_kl 96) 31 = some (.ifCond .ne 7, 3) := by decide +kernel
theorem k96_34 : pm_look (pm_kl 96) 34 = some (.sipush (-1002), 3) := by decide +kernel
theorem k96_37 : pm_look (pm_kl 96) 37 = some (.ireturn, 1) := by decide +kernel
theorem k96_38 : pm_look (pm_kl 96) 38 = some (.aload_n 0, 1) := by decide +kernel
theorem k96_39 : pm_look (pm_kl 96) 39 = some (.getfield 10, 3) := by decide +kernel
theorem k96_42 : pm_look (pm_kl 96) 42 = some (.iload_n 1, 1) := by decide +kernel
theorem k96_43 : pm_look (pm_kl 96) 43 = some (.iload_n 2, 1) := by decide +kernel
theorem k96_44 : pm_look (pm_kl 96) 44 = some (.iload_n 3, 1) := by decide +kernel
theorem k96_45 : pm_look (pm_kl 96) 45 = some (.invokevirtual 103, 3) := by decide +kernel
theorem k96_48 : pm_look (pm_kl 96) 48 = some (.invokestatic 130, 3) := by decide +kernel
theorem k96_51 : pm_look (pm_kl 96) 51 = some (.ireturn, 1) := by decide +kernel
theorem k97_0 : pm_look (pm_kl 97) 0 = some (.iload_n 3, 1) := by decide +kernel
theorem k97_1 : pm_look (pm_kl 97) 1 = some (.iconst (-1), 1) := by decide +kernel
theorem k97_2 : pm_look (pm_kl 97) 2 = some (.if_icmp .eq 18, 3) := by decide +kernel
theorem k97_5 : pm_look (pm_kl 97) 5 = some (.aload_n 0, 1) := by decide +kernel
theorem k97_6 : pm_look (pm_kl 97) 6 = some (.getfield 19, 3) := by decide +kernel
theorem k97_9 : pm_look (pm_kl 97) 9 = some (.iload_n 3, 1) := by decide +kernel
theorem k97_10 : pm_look (pm_kl 97) 10 = some (.invokevirtual 151, 3) := by decide +kernel
theorem k97_13 : pm_look (pm_kl 97) 13 = some (.ifCond .ne 7, 3) := by decide +kernel
theorem k97_16 : pm_look (pm_kl 97) 16 = some (.sipush (-1001), 3) := by decide +kernel
theorem k97_19 : pm_look (pm_kl 97) 19 = some (.ireturn, 1) := by decide +kernel
theorem k97_20 : pm_look (pm_kl 97) 20 = some (.iload_n 1, 1) := by decide +kernel
theorem k97_21 : pm_look (pm_kl 97) 21 = some (.invokestatic 152, 3) := by decide +kernel
theorem k97_24 : pm_look (pm_kl 97) 24 = some (.ifCond .eq 13, 3) := by decide +kernel
theorem k97_27 : pm_look (pm_kl 97) 27 = some (.iload_n 2, 1) := by decide +kernel
theorem k97_28 : pm_look (pm_kl 97) 28 = some (.iconst 0, 1) := by decide +kernel
theorem k97_29 : pm_look (pm_kl 97) 29 = some (.bipush 9, 2) := by decide +kernel
theorem k97_31 : pm_look (pm_kl 97) 31 = some (.invokestatic 127, 3) := by decide +kernel
theorem k97_34 : pm_look (pm_kl 97) 34 = some (.ifCond .ne 7, 3) := by decide +kernel
theorem k97_37 : pm_look (pm_kl 97) 37 = some (.sipush (-1002), 3) := by decide +kernel
theorem k97_40 : pm_look (pm_kl 97) 40 = some (.ireturn, 1) := by decide +kernel
theorem k97_41 : pm_look (pm_kl 97) 41 = some (.aload_n 0, 1) := by decide +kernel
theorem k97_42 : pm_look (pm_kl 97) 42 = some (.getfield 19, 3) := by decide +kernel
theorem k97_45 : pm_look (pm_kl 97) 45 = some (.iload_n 1, 1) := by decide +kernel
theorem k97_46 : pm_look (pm_kl 97) 46 = some (.iload_n 2, 1) := by decide +kernel
theorem k97_47 : pm_look (pm_kl 97) 47 = some (.iload_n 3, 1) := by decide +kernel
theorem k97_48 : pm_look (pm_kl 97) 48 = some (.invokevirtual 155, 3) := by decide +kernel
theorem k97_51 : pm_look (pm_kl 97) 51 = some (.ireturn, 1) := by decide +kernel
theorem k98_0 : pm_look (pm_kl 98) 0 = some (.aload_n 0, 1) := by decide +kernel
theorem k98_1 : pm_look (pm_kl 98) 1 = some (.getfield 19, 3) := by decide +kernel
theorem k98_4 : pm_look (pm_kl 98) 4 = some (.iload_n 1, 1) := by decide +kernel
theorem k98_5 : pm_look (pm_kl 98) 5 = some (.invokevirtual 151, 3) := by decide +kernel
theorem k98_8 : pm_look (pm_kl 98) 8 = some (.ifCond .eq 14, 3) := by decide +kernel
theorem k98_11 : pm_look (pm_kl 98) 11 = some (.aload_n 0, 1) := by decide +kernel
theorem k98_12 : pm_look (pm_kl 98) 12 = some (.getfield 10, 3) := by decide +kernel
theorem k98_15 : pm_look (pm_kl 98) 15 = some (.iload_n 2, 1) := by decide +kernel
theorem k98_16 : pm_look (pm_kl 98) 16 = some (.invokevirtual 88, 3) := by decide +kernel
theorem k98_19 : pm_look (pm_kl 98) 19 = some (.ifCond .ne 7, 3) := by decide +kernel
theorem k98_22 : pm_look (pm_kl 98) 22 = some (.sipush (-1001), 3) := by decide +kernel
theorem k98_25 : pm_look (pm_kl 98) 25 = some (.ireturn, 1) := by decide +kernel
theorem k98_26 : pm_look (pm_kl 98) 26 = some (.iload_n 3, 1) := by decide +kernel
theorem k98_27 : pm_look (pm_kl 98) 27 = some (.invokestatic 158, 3) := by decide +kernel
theorem k98_30 : pm_look (pm_kl 98) 30 = some (.ifCond .eq 14, 3) := by decide +kernel
theorem k98_33 : pm_look (pm_kl 98) 33 = some (.iload 4, 2) := by decide +kernel
theorem k98_35 : pm_look (pm_kl 98) 35 = some (.iconst 0, 1) := by decide +kernel
theorem k98_36 : pm_look (pm_kl 98) 36 = some (.bipush 63, 2) := by decide +kernel
theorem k98_38 : pm_look (pm_kl 98) 38 = some (.invokestatic 127, 3) := by decide +kernel
theorem k98_41 : pm_look (pm_kl 98) 41 = some (.ifCond .ne 7, 3) := by decide +kernel
theorem k98_44 : pm_look (pm_kl 98) 44 = some (.sipush (-1002), 3) := by decide +kernel
theorem k98_47 : pm_look (pm_kl 98) 47 = some (.ireturn, 1) := by decide +kernel
theorem k98_48 : pm_look (pm_kl 98) 48 = some (.aload_n 0, 1) := by decide +kernel
theorem k98_49 : pm_look (pm_kl 98) 49 = some (.getfield 77, 3) := by decide +kernel
theorem k98_52 : pm_look (pm_kl 98) 52 = some (.invokevirtual 96, 3) := by decide +kernel
theorem k98_55 : pm_look (pm_kl 98) 55 = some (.aload_n 0, 1) := by decide +kernel
theorem k98_56 : pm_look (pm_kl 98) 56 = some (.getfield 26, 3) := by decide +kernel
theorem k98_59 : pm_look (pm_kl 98) 59 = some (.iload_n 1, 1) := by decide +kernel
theorem k98_60 : pm_look (pm_kl 98) 60 = some (.iload_n 2, 1) := by decide +kernel
theorem k98_61 : pm_look (pm_kl 98) 61 = some (.iload_n 3, 1) := by decide +kernel
theorem k98_62 : pm_look (pm_kl 98) 62 = some (.iload 4, 2) := by decide +kernel
theorem k98_64 : pm_look (pm_kl 98) 64 = some (.aload_n 0, 1) := by decide +kernel
theorem k98_65 : pm_look (pm_kl 98) 65 = some (.getfield 81, 3) := by decide +kernel
theorem k98_68 : pm_look (pm_kl 98) 68 = some (.invokevirtual 161, 3) := by decide +kernel
theorem k98_71 : pm_look (pm_kl 98) 71 = some (.ireturn, 1) := by decide +kernel
theorem k99_0 : pm_look (pm_kl 99) 0 = some (.aload_n 0, 1) := by decide +kernel
theorem k99_1 : pm_look (pm_kl 99) 1 = some (.getfield 26, 3) := by decide +kernel
theorem k99_4 : pm_look (pm_kl 99) 4 = some (.iload_n 1, 1) := by decide +kernel
theorem k99_5 : pm_look (pm_kl 99) 5 = some (.invokevirtual 164, 3) := by decide +kernel
theorem k99_8 : pm_look (pm_kl 99) 8 = some (.ifCond .ne 7, 3) := by decide +kernel
theorem k99_11 : pm_look (pm_kl 99) 11 = some (.sipush (-1001), 3) := by decide +kernel
theorem k99_14 : pm_look (pm_kl 99) 14 = some (.ireturn, 1) := by decide +kernel
theorem k99_15 : pm_look (pm_kl 99) 15 = some (.iload_n 2, 1) := by decide +kernel
theorem k99_16 : pm_look (pm_kl 99) 16 = some (.invokestatic 158, 3) := by decide +kernel
theorem k99_19 : pm_look (pm_kl 99) 19 = some (.ifCond .ne 7, 3) := by decide +kernel
theorem k99_22 : pm_look (pm_kl 99) 22 = some (.sipush (-1002), 3) := by decide +kernel
theorem k99_25 : pm_look (pm_kl 99) 25 = some (.ireturn, 1) := by decide +kernel
theorem k99_26 : pm_look (pm_kl 99) 26 = some (.aload_n 0, 1) := by decide +kernel
theorem k99_27 : pm_look (pm_kl 99) 27 = some (.getfield 26, 3) := by decide +kernel
theorem k99_30 : pm_look (pm_kl 99) 30 = some (.getfield 165, 3) := by decide +kernel
theorem k99_33 : pm_look (pm_kl 99) 33 = some (.iload_n 1, 1) := by decide +kernel
theorem k99_34 : pm_look (pm_kl 99) 34 = some (.iaload, 1) := by decide +kernel
theorem k99_35 : pm_look (pm_kl 99) 35 = some (.iload_n 2, 1) := by decide +kernel
theorem k99_36 : pm_look (pm_kl 99) 36 = some (.if_icmp .eq 18, 3) := by decide +kernel
theorem k99_39 : pm_look (pm_kl 99) 39 = some (.aload_n 0, 1) := by decide +kernel
theorem k99_40 : pm_look (pm_kl 99) 40 = some (.getfield 26, 3) := by decide +kernel
theorem k99_43 : pm_look (pm_kl 99) 43 = some (.getfield 168, 3) := by decide +kernel
theorem k99_46 : pm_look (pm_kl 99) 46 = some (.iload_n 1, 1) := by decide +kernel
theorem k99_47 : pm_look (pm_kl 99) 47 = some (.aaload, 1) := by decide +kernel
theorem k99_48 : pm_look (pm_kl 99) 48 = some (.iload_n 2, 1) := by decide +kernel
theorem k99_49 : pm_look (pm_kl 99) 49 = some (.iaload, 1) := by decide +kernel
theorem k99_50 : pm_look (pm_kl 99) 50 = some (.iconst (-1), 1) := by decide +kernel
theorem k99_51 : pm_look (pm_kl 99) 51 = some (.if_icmp .eq 7, 3) := by decide +kernel
theorem k99_54 : pm_look (pm_kl 99) 54 = some (.sipush (-1003), 3) := by decide +kernel
theorem k99_57 : pm_look (pm_kl 99) 57 = some (.ireturn, 1) := by decide +kernel
theorem k99_58 : pm_look (pm_kl 99) 58 = some (.aload_n 0, 1) := by decide +kernel
theorem k99_59 : pm_look (pm_kl 99) 59 = some (.getfield 77, 3) := by decide +kernel
theorem k99_62 : pm_look (pm_kl 99) 62 = some (.invokevirtual 96, 3) := by decide +kernel
theorem k99_65 : pm_look (pm_kl 99) 65 = some (.aload_n 0, 1) := by decide +kernel
theorem k99_66 : pm_look (pm_kl 99) 66 = some (.getfield 26, 3) := by decide +kernel
theorem k99_69 : pm_look (pm_kl 99) 69 = some (.getfield 168, 3) := by decide +kernel
theorem k99_72 : pm_look (pm_kl 99) 72 = some (.iload_n 1, 1) := by decide +kernel
theorem k99_73 : pm_look (pm_kl 99) 73 = some (.aaload, 1) := by decide +kernel
theorem k99_74 : pm_look (pm_kl 99) 74 = some (.iload_n 2, 1) := by decide +kernel
theorem k99_75 : pm_look (pm_kl 99) 75 = some (.aload_n 0, 1) := by decide +kernel
theorem k99_76 : pm_look (pm_kl 99) 76 = some (.getfield 81, 3) := by decide +kernel
theorem k99_79 : pm_look (pm_kl 99) 79 = some (.iastore, 1) := by decide +kernel
theorem k99_80 : pm_look (pm_kl 99) 80 = some (.aload_n 0, 1) := by decide +kernel
theorem k99_81 : pm_look (pm_kl 99) 81 = some (.getfield 26, 3) := by decide +kernel
theorem k99_84 : pm_look (pm_kl 99) 84 = some (.iload_n 1, 1) := by decide +kernel
theorem k99_85 : pm_look (pm_kl 99) 85 = some (.aload_n 0, 1) := by decide +kernel
theorem k99_86 : pm_look (pm_kl 99) 86 = some (.getfield 81, 3) := by decide +kernel
theorem k99_89 : pm_look (pm_kl 99) 89 = some (.invokevirtual 172, 3) := by decide +kernel
theorem k99_92 : pm_look (pm_kl 99) 92 = some (.ireturn, 1) := by decide +kernel
theorem k100_0 : pm_look (pm_kl 100) 0 = some (.aload_n 0, 1) := by decide +kernel
theorem k100_1 : pm_look (pm_kl 100) 1 = some (.getfield 26, 3) := by decide +kernel
theorem k100_4 : pm_look (pm_kl 100) 4 = some (.iload_n 1, 1) := by decide +kernel
theorem k100_5 : pm_look (pm_kl 100) 5 = some (.invokevirtual 164, 3) := by decide +kernel
theorem k100_8 : pm_look (pm_kl 100) 8 = some (.ifCond .ne 7, 3) := by decide +kernel
theorem k100_11 : pm_look (pm_kl 100) 11 = some (.sipush (-1001), 3) := by decide +kernel
theorem k100_14 : pm_look (pm_kl 100) 14 = some (.ireturn, 1) := by decide +kernel
theorem k100_15 : pm_look (pm_kl 100) 15 = some (.iload_n 2, 1) := by decide +kernel
theorem k100_16 : pm_look (pm_kl 100) 16 = some (.iconst 0, 1) := by decide +kernel
theorem k100_17 : pm_look (pm_kl 100) 17 = some (.bipush 6, 2) := by decide +kernel
theorem k100_19 : pm_look (pm_kl 100) 19 = some (.invokestatic 127, 3) := by decide +kernel
theorem k100_22 : pm_look (pm_kl 100) 22 = some (.ifCond .ne 7, 3) := by decide +kernel
theorem k100_25 : pm_look (pm_kl 100) 25 = some (.sipush (-1002), 3) := by decide +kernel
theorem k100_28 : pm_look (pm_kl 100) 28 = some (.ireturn, 1) := by decide +kernel
theorem k100_29 : pm_look (pm_kl 100) 29 = some (.iload_n 2, 1) := by decide +kernel
theorem k100_30 : pm_look (pm_kl 100) 30 = some (.tableswitch 105 0 5 #[38, 48, 58, 68, 78, 88], 38) := by decide +kernel
theorem k100_68 : pm_look (pm_kl 100) 68 = some (.aload_n 0, 1) := by decide +kernel
theorem k100_69 : pm_look (pm_kl 100) 69 = some (.getfield 26, 3) := by decide +kernel
theorem k100_72 : pm_look (pm_kl 100) 72 = some (.getfield 175, 3) := by decide +kernel
theorem k100_75 : pm_look (pm_kl 100) 75 = some (.iload_n 1, 1) := by decide +kernel
theorem k100_76 : pm_look (pm_kl 100) 76 = some (.iaload, 1) := by decide +kernel
theorem k100_77 : pm_look (pm_kl 100) 77 = some (.ireturn, 1) := by decide +kernel
theorem k100_78 : pm_look (pm_kl 100) 78 = some (.aload_n 0, 1) := by decide +kernel
theorem k100_79 : pm_look (pm_kl 100) 79 = some (.getfield 26, 3) := by decide +kernel
theorem k100_82 : pm_look (pm_kl 100) 82 = some (.getfield 178, 3) := by decide +kernel
theorem k100_85 : pm_look (pm_kl 100) 85 = some (.iload_n 1, 1) := by decide +kernel
theorem k100_86 : pm_look (pm_kl 100) 86 = some (.iaload, 1) := by decide +kernel
theorem k100_87 : pm_look (pm_kl 100) 87 = some (.ireturn, 1) := by decide +kernel
theorem k100_88 : pm_look (pm_kl 100) 88 = some (.aload_n 0, 1) := by decide +kernel
theorem k100_89 : pm_look (pm_kl 100) 89 = some (.getfield 26, 3) := by decide +kernel
theorem k100_92 : pm_look (pm_kl 100) 92 = some (.getfield 165, 3) := by decide +kernel
theorem k100_95 : pm_look (pm_kl 100) 95 = some (.iload_n 1, 1) := by decide +kernel
theorem k100_96 : pm_look (pm_kl 100) 96 = some (.iaload, 1) := by decide +kernel
theorem k100_97 : pm_look (pm_kl 100) 97 = some (.ireturn, 1) := by decide +kernel
theorem k100_98 : pm_look (pm_kl 100) 98 = some (.aload_n 0, 1) := by decide +kernel
theorem k100_99 : pm_look (pm_kl 100) 99 = some (.getfield 26, 3) := by decide +kernel
theorem k100_102 : pm_look (pm_kl 100) 102 = some (.getfield 181, 3) := by decide +kernel
theorem k100_105 : pm_look (pm_kl 100) 105 = some (.iload_n 1, 1) := by decide +kernel
theorem k100_106 : pm_look (pm_kl 100) 106 = some (.iaload, 1) := by decide +kernel
theorem k100_107 : pm_look (pm_kl 100) 107 = some (.ireturn, 1) := by decide +kernel
theorem k100_108 : pm_look (pm_kl 100) 108 = some (.aload_n 0, 1) := by decide +kernel
theorem k100_109 : pm_look (pm_kl 100) 109 = some (.getfield 26, 3) := by decide +kernel
theorem k100_112 : pm_look (pm_kl 100) 112 = some (.getfield 184, 3) := by decide +kernel
theorem k100_115 : pm_look (pm_kl 100) 115 = some (.iload_n 1, 1) := by decide +kernel
theorem k100_116 : pm_look (pm_kl 100) 116 = some (.iaload, 1) := by decide +kernel
theorem k100_117 : pm_look (pm_kl 100) 117 = some (.ireturn, 1) := by decide +kernel
theorem k100_118 : pm_look (pm_kl 100) 118 = some (.aload_n 0, 1) := by decide +kernel
theorem k100_119 : pm_look (pm_kl 100) 119 = some (.getfield 77, 3) := by decide +kernel
theorem k100_122 : pm_look (pm_kl 100) 122 = some (.invokevirtual 187, 3) := by decide +kernel
theorem k100_125 : pm_look (pm_kl 100) 125 = some (.aload_n 0, 1) := by decide +kernel
theorem k100_126 : pm_look (pm_kl 100) 126 = some (.getfield 77, 3) := by decide +kernel
theorem k100_129 : pm_look (pm_kl 100) 129 = some (.getfield 190, 3) := by decide +kernel
theorem k100_132 : pm_look (pm_kl 100) 132 = some (.iload_n 1, 1) := by decide +kernel
theorem k100_133 : pm_look (pm_kl 100) 133 = some (.iaload, 1) := by decide +kernel
theorem k100_134 : pm_look (pm_kl 100) 134 = some (.ireturn, 1) := by decide +kernel
theorem k100_135 : pm_look (pm_kl 100) 135 = some (.aload_n 0, 1) := by decide +kernel
theorem k100_136 : pm_look (pm_kl 100) 136 = some (.getfield 26, 3) := by decide +kernel
theorem k100_139 : pm_look (pm_kl 100) 139 = some (.iload_n 1, 1) := by decide +kernel
theorem k100_140 : pm_look (pm_kl 100) 140 = some (.aload_n 0, 1) := by decide +kernel
theorem k100_141 : pm_look (pm_kl 100) 141 = some (.getfield 81, 3) := by decide +kernel
theorem k100_144 : pm_look (pm_kl 100) 144 = some (.invokevirtual 172, 3) := by decide +kernel
theorem k100_147 : pm_look (pm_kl 100) 147 = some (.ireturn, 1) := by decide +kernel
theorem k101_0 : pm_look (pm_kl 101) 0 = some (.aload_n 0, 1) := by decide +kernel
theorem k101_1 : pm_look (pm_kl 101) 1 = some (.getfield 26, 3) := by decide +kernel
theorem k101_4 : pm_look (pm_kl 101) 4 = some (.iload_n 1, 1) := by decide +kernel
theorem k101_5 : pm_look (pm_kl 101) 5 = some (.invokevirtual 164, 3) := by decide +kernel
theorem k101_8 : pm_look (pm_kl 101) 8 = some (.ifCond .ne 7, 3) := by decide +kernel
theorem k101_11 : pm_look (pm_kl 101) 11 = some (.sipush (-1001), 3) := by decide +kernel
theorem k101_14 : pm_look (pm_kl 101) 14 = some (.ireturn, 1) := by decide +kernel
theorem k101_15 : pm_look (pm_kl 101) 15 = some (.aload_n 0, 1) := by decide +kernel
theorem k101_16 : pm_look (pm_kl 101) 16 = some (.iload_n 2, 1) := by decide +kernel
theorem k101_17 : pm_look (pm_kl 101) 17 = some (.invokevirtual 124, 3) := by decide +kernel
theorem k101_20 : pm_look (pm_kl 101) 20 = some (.ifCond .eq 12, 3) := by decide +kernel
theorem k101_23 : pm_look (pm_kl 101) 23 = some (.iload_n 3, 1) := by decide +kernel
theorem k101_24 : pm_look (pm_kl 101) 24 = some (.iconst 0, 1) := by decide +kernel
theorem k101_25 : pm_look (pm_kl 101) 25 = some (.iconst 2, 1) := by decide +kernel
theorem k101_26 : pm_look (pm_kl 101) 26 = some (.invokestatic 127, 3) := by decide +kernel
theorem k101_29 : pm_look (pm_kl 101) 29 = some (.ifCond .ne 7, 3) := by decide +kernel
theorem k101_32 : pm_look (pm_kl 101) 32 = some (.sipush (-1002), 3) := by decide +kernel
theorem k101_35 : pm_look (pm_kl 101) 35 = some (.ireturn, 1) := by decide +kernel
theorem k101_36 : pm_look (pm_kl 101) 36 = some (.aload_n 0, 1) := by decide +kernel
theorem k101_37 : pm_look (pm_kl 101) 37 = some (.getfield 26, 3) := by decide +kernel
theorem k101_40 : pm_look (pm_kl 101) 40 = some (.getfield 184, 3) := by decide +kernel
theorem k101_43 : pm_look (pm_kl 101) 43 = some (.iload_n 1, 1) := by decide +kernel
theorem k101_44 : pm_look (pm_kl 101) 44 = some (.iaload, 1) := by decide +kernel
theorem k101_45 : pm_look (pm_kl 101) 45 = some (.iload_n 2, 1) := by decide +kernel
theorem k101_46 : pm_look (pm_kl 101) 46 = some (.if_icmp .le 7, 3) := by decide +kernel
theorem k101_49 : pm_look (pm_kl 101) 49 = some (.sipush (-1003), 3) := by decide +kernel
theorem k101_52 : pm_look (pm_kl 101) 52 = some (.ireturn, 1) := by decide +kernel
theorem k101_53 : pm_look (pm_kl 101) 53 = some (.aload_n 0, 1) := by decide +kernel
theorem k101_54 : pm_look (pm_kl 101) 54 = some (.getfield 77, 3) := by decide +kernel
theorem k101_57 : pm_look (pm_kl 101) 57 = some (.iload_n 2, 1) := by decide +kernel
theorem k101_58 : pm_look (pm_kl 101) 58 = some (.invokevirtual 137, 3) := by decide +kernel
theorem k101_61 : pm_look (pm_kl 101) 61 = some (.iload_n 3, 1) := by decide +kernel
theorem k101_62 : pm_look (pm_kl 101) 62 = some (.lookupswitch 49 #[(0, 26), (1, 36)], 26) := by decide +kernel
theorem k101_88 : pm_look (pm_kl 101) 88 = some (.aload_n 0, 1) := by decide +kernel
theorem k101_89 : pm_look (pm_kl 101) 89 = some (.getfield 77, 3) := by decide +kernel
theorem k101_92 : pm_look (pm_kl 101) 92 = some (.getfield 193, 3) := by decide +kernel
theorem k101_95 : pm_look (pm_kl 101) 95 = some (.iload_n 1, 1) := by decide +kernel
theorem k101_96 : pm_look (pm_kl 101) 96 = some (.iaload, 1) := by decide +kernel
theorem k101_97 : pm_look (pm_kl 101) 97 = some (.ireturn, 1) := by decide +kernel
theorem k101_98 : pm_look (pm_kl 101) 98 = some (.aload_n 0, 1) := by decide +kernel
theorem k101_99 : pm_look (pm_kl 101) 99 = some (.getfield 77, 3) := by decide +kernel
theorem k101_102 : pm_look (pm_kl 101) 102 = some (.getfield 196, 3) := by decide +kernel
theorem k101_105 : pm_look (pm_kl 101) 105 = some (.iload_n 1, 1) := by decide +kernel
theorem k101_106 : pm_look (pm_kl 101) 106 = some (.baload, 1) := by decide +kernel
theorem k101_107 : pm_look (pm_kl 101) 107 = some (.invokestatic 130, 3) := by decide +kernel
theorem k101_110 : pm_look (pm_kl 101) 110 = some (.ireturn, 1) := by decide +kernel
theorem k101_111 : pm_look (pm_kl 101) 111 = some (.aload_n 0, 1) := by decide +kernel
theorem k101_112 : pm_look (pm_kl 101) 112 = some (.getfield 47, 3) := by decide +kernel
theorem k101_115 : pm_look (pm_kl 101) 115 = some (.aload_n 0, 1) := by decide +kernel
theorem k101_116 : pm_look (pm_kl 101) 116 = some (.getfield 40, 3) := by decide +kernel
theorem k101_119 : pm_look (pm_kl 101) 119 = some (.iload_n 2, 1) := by decide +kernel
theorem k101_120 : pm_look (pm_kl 101) 120 = some (.invokevirtual 200, 3) := by decide +kernel
theorem k101_123 : pm_look (pm_kl 101) 123 = some (.aload_n 0, 1) := by decide +kernel
theorem k101_124 : pm_look (pm_kl 101) 124 = some (.getfield 77, 3) := by decide +kernel
theorem k101_127 : pm_look (pm_kl 101) 127 = some (.iload_n 1, 1) := by decide +kernel
theorem k101_128 : pm_look (pm_kl 101) 128 = some (.aload_n 0, 1) := by decide +kernel
theorem k101_129 : pm_look (pm_kl 101) 129 = some (.getfield 47, 3) := by decide +kernel
theorem k101_132 : pm_look (pm_kl 101) 132 = some (.invokevirtual 204, 3) := by decide +kernel
theorem k101_135 : pm_look (pm_kl 101) 135 = some (.invokestatic 130, 3) := by decide +kernel
theorem k101_138 : pm_look (pm_kl 101) 138 = some (.ireturn, 1) := by decide +kernel
theorem k102_0 : pm_look (pm_kl 102) 0 = some (.aload_n 0, 1) := by decide +kernel
theorem k102_1 : pm_look (pm_kl 102) 1 = some (.getfield 19, 3) := by decide +kernel
theorem k102_4 : pm_look (pm_kl 102) 4 = some (.iload_n 1, 1) := by decide +kernel
theorem k102_5 : pm_look (pm_kl 102) 5 = some (.invokevirtual 151, 3) := by decide +kernel
theorem k102_8 : pm_look (pm_kl 102) 8 = some (.ifCond .eq 14, 3) := by decide +kernel
theorem k102_11 : pm_look (pm_kl 102) 11 = some (.aload_n 0, 1) := by decide +kernel
theorem k102_12 : pm_look (pm_kl 102) 12 = some (.getfield 10, 3) := by decide +kernel
theorem k102_15 : pm_look (pm_kl 102) 15 = some (.iload_n 2, 1) := by decide +kernel
theorem k102_16 : pm_look (pm_kl 102) 16 = some (.invokevirtual 88, 3) := by decide +kernel
theorem k102_19 : pm_look (pm_kl 102) 19 = some (.ifCond .ne 7, 3) := by decide +kernel
theorem k102_22 : pm_look (pm_kl 102) 22 = some (.sipush (-1001), 3) := by decide +kernel
theorem k102_25 : pm_look (pm_kl 102) 25 = some (.ireturn, 1) := by decide +kernel
theorem k102_26 : pm_look (pm_kl 102) 26 = some (.aload_n 0, 1) := by decide +kernel
theorem k102_27 : pm_look (pm_kl 102) 27 = some (.iload_n 3, 1) := by decide +kernel
theorem k102_28 : pm_look (pm_kl 102) 28 = some (.invokevirtual 124, 3) := by decide +kernel
theorem k102_31 : pm_look (pm_kl 102) 31 = some (.ifCond .ne 7, 3) := by decide +kernel
theorem k102_34 : pm_look (pm_kl 102) 34 = some (.sipush (-1002), 3) := by decide +kernel
theorem k102_37 : pm_look (pm_kl 102) 37 = some (.ireturn, 1) := by decide +kernel
theorem k102_38 : pm_look (pm_kl 102) 38 = some (.aload_n 0, 1) := by decide +kernel
theorem k102_39 : pm_look (pm_kl 102) 39 = some (.getfield 77, 3) := by decide +kernel
theorem k102_42 : pm_look (pm_kl 102) 42 = some (.iload_n 3, 1) := by decide +kernel
theorem k102_43 : pm_look (pm_kl 102) 43 = some (.invokevirtual 137, 3) := by decide +kernel
theorem k102_46 : pm_look (pm_kl 102) 46 = some (.iconst 0, 1) := by decide +kernel
theorem k102_47 : pm_look (pm_kl 102) 47 = some (.istore 4, 2) := by decide +kernel
theorem k102_49 : pm_look (pm_kl 102) 49 = some (.iload 4, 2) := by decide +kernel
theorem k102_51 : pm_look (pm_kl 102) 51 = some (.aload_n 0, 1) := by decide +kernel
theorem k102_52 : pm_look (pm_kl 102) 52 = some (.getfield 26, 3) := by decide +kernel
theorem k102_55 : pm_look (pm_kl 102) 55 = some (.getfield 208, 3) := by decide +kernel
theorem k102_58 : pm_look (pm_kl 102) 58 = some (.if_icmp .ge 39, 3) := by decide +kernel
theorem k102_61 : pm_look (pm_kl 102) 61 = some (.aload_n 0, 1) := by decide +kernel
theorem k102_62 : pm_look (pm_kl 102) 62 = some (.getfield 26, 3) := by decide +kernel
theorem k102_65 : pm_look (pm_kl 102) 65 = some (.getfield 175, 3) := by decide +kernel
theorem k102_68 : pm_look (pm_kl 102) 68 = some (.iload 4, 2) := by decide +kernel
theorem k102_70 : pm_look (pm_kl 102) 70 = some (.iaload, 1) := by decide +kernel
theorem k102_71 : pm_look (pm_kl 102) 71 = some (.iload_n 1, 1) := by decide +kernel
theorem k102_72 : pm_look (pm_kl 102) 72 = some (.if_icmp .ne 19, 3) := by decide +kernel
theorem k102_75 : pm_look (pm_kl 102) 75 = some (.aload_n 0, 1) := by decide +kernel
theorem k102_76 : pm_look (pm_kl 102) 76 = some (.getfield 77, 3) := by decide +kernel
theorem k102_79 : pm_look (pm_kl 102) 79 = some (.iload 4, 2) := by decide +kernel
theorem k102_81 : pm_look (pm_kl 102) 81 = some (.iload_n 2, 1) := by decide +kernel
theorem k102_82 : pm_look (pm_kl 102) 82 = some (.invokevirtual 211, 3) := by decide +kernel
theorem k102_85 : pm_look (pm_kl 102) 85 = some (.ifCond .eq 6, 3) := by decide +kernel
theorem k102_88 : pm_look (pm_kl 102) 88 = some (.iload 4, 2) := by decide +kernel
theorem k102_90 : pm_look (pm_kl 102) 90 = some (.ireturn, 1) := by decide +kernel
theorem k102_91 : pm_look (pm_kl 102) 91 = some (.iinc 4 1, 3) := by decide +kernel
theorem k102_94 : pm_look (pm_kl 102) 94 = some (.goto (-45), 3) := by decide +kernel
theorem k102_97 : pm_look (pm_kl 102) 97 = some (.iconst (-1), 1) := by decide +kernel
theorem k102_98 : pm_look (pm_kl 102) 98 = some (.ireturn, 1) := by decide +kernel
theorem k103_0 : pm_look (pm_kl 103) 0 = some (.iload_n 1, 1) := by decide +kernel
theorem k103_1 : pm_look (pm_kl 103) 1 = some (.iconst 0, 1) := by decide +kernel
theorem k103_2 : pm_look (pm_kl 103) 2 = some (.bipush 12, 2) := by decide +kernel
theorem k103_4 : pm_look (pm_kl 103) 4 = some (.invokestatic 127, 3) := by decide +kernel
theorem k103_7 : pm_look (pm_kl 103) 7 = some (.ifCond .ne 7, 3) := by decide +kernel
theorem k103_10 : pm_look (pm_kl 103) 10 = some (.sipush (-1002), 3) := by decide +kernel
theorem k103_13 : pm_look (pm_kl 103) 13 = some (.ireturn, 1) := by decide +kernel
theorem k103_14 : pm_look (pm_kl 103) 14 = some (.iload_n 1, 1) := by decide +kernel
theorem k103_15 : pm_look (pm_kl 103) 15 = some (.tableswitch 206 0 11 #[61, 66, 74, 86, 94, 102, 117, 136, 174, 182, 190, 198], 61) := by decide +kernel
theorem k103_76 : pm_look (pm_kl 103) 76 = some (.aload_n 0, 1) := by decide +kernel
theorem k103_77 : pm_look (pm_kl 103) 77 = some (.getfield 81, 3) := by decide +kernel
theorem k103_80 : pm_look (pm_kl 103) 80 = some (.ireturn, 1) := by decide +kernel
theorem k103_81 : pm_look (pm_kl 103) 81 = some (.aload_n 0, 1) := by decide +kernel
theorem k103_82 : pm_look (pm_kl 103) 82 = some (.getfield 10, 3) := by decide +kernel
theorem k103_85 : pm_look (pm_kl 103) 85 = some (.getfield 214, 3) := by decide +kernel
theorem k103_88 : pm_look (pm_kl 103) 88 = some (.ireturn, 1) := by decide +kernel
theorem k103_89 : pm_look (pm_kl 103) 89 = some (.aload_n 0, 1) := by decide +kernel
theorem k103_90 : pm_look (pm_kl 103) 90 = some (.getfield 10, 3) := by decide +kernel
theorem k103_93 : pm_look (pm_kl 103) 93 = some (.aload_n 0, 1) := by decide +kernel
theorem k103_94 : pm_look (pm_kl 103) 94 = some (.getfield 81, 3) := by decide +kernel
theorem k103_97 : pm_look (pm_kl 103) 97 = some (.invokevirtual 215, 3) := by decide +kernel
theorem k103_100 : pm_look (pm_kl 103) 100 = some (.ireturn, 1) := by decide +kernel
theorem k103_101 : pm_look (pm_kl 103) 101 = some (.aload_n 0, 1) := by decide +kernel
theorem k103_102 : pm_look (pm_kl 103) 102 = some (.getfield 19, 3) := by decide +kernel
theorem k103_105 : pm_look (pm_kl 103) 105 = some (.getfield 219, 3) := by decide +kernel
theorem k103_108 : pm_look (pm_kl 103) 108 = some (.ireturn, 1) := by decide +kernel
theorem k103_109 : pm_look (pm_kl 103) 109 = some (.aload_n 0, 1) := by decide +kernel
theorem k103_110 : pm_look (pm_kl 103) 110 = some (.getfield 26, 3) := by decide +kernel
theorem k103_113 : pm_look (pm_kl 103) 113 = some (.getfield 208, 3) := by decide +kernel
theorem k103_116 : pm_look (pm_kl 103) 116 = some (.ireturn, 1) := by decide +kernel
theorem k103_117 : pm_look (pm_kl 103) 117 = some (.aload_n 0, 1) := by decide +kernel
theorem k103_118 : pm_look (pm_kl 103) 118 = some (.getfield 77, 3) := by decide +kernel
theorem k103_121 : pm_look (pm_kl 103) 121 = some (.invokevirtual 187, 3) := by decide +kernel
theorem k103_124 : pm_look (pm_kl 103) 124 = some (.aload_n 0, 1) := by decide +kernel
theorem k103_125 : pm_look (pm_kl 103) 125 = some (.getfield 77, 3) := by decide +kernel
theorem k103_128 : pm_look (pm_kl 103) 128 = some (.invokevirtual 220, 3) := by decide +kernel
theorem k103_131 : pm_look (pm_kl 103) 131 = some (.ireturn, 1) := by decide +kernel
theorem k103_132 : pm_look (pm_kl 103) 132 = some (.aload_n 0, 1) := by decide +kernel
theorem k103_133 : pm_look (pm_kl 103) 133 = some (.getfield 77, 3) := by decide +kernel
theorem k103_136 : pm_look (pm_kl 103) 136 = some (.aload_n 0, 1) := by decide +kernel
theorem k103_137 : pm_look (pm_kl 103) 137 = some (.getfield 81, 3) := by decide +kernel
theorem k103_140 : pm_look (pm_kl 103) 140 = some (.invokevirtual 137, 3) := by decide +kernel
theorem k103_143 : pm_look (pm_kl 103) 143 = some (.aload_n 0, 1) := by decide +kernel
theorem k103_144 : pm_look (pm_kl 103) 144 = some (.getfield 77, 3) := by decide +kernel
theorem k103_147 : pm_look (pm_kl 103) 147 = some (.invokevirtual 224, 3) := by decide +kernel
theorem k103_150 : pm_look (pm_kl 103) 150 = some (.ireturn, 1) := by decide +kernel
theorem k103_151 : pm_look (pm_kl 103) 151 = some (.aload_n 0, 1) := by decide +kernel
theorem k103_152 : pm_look (pm_kl 103) 152 = some (.getfield 77, 3) := by decide +kernel
theorem k103_155 : pm_look (pm_kl 103) 155 = some (.aload_n 0, 1) := by decide +kernel
theorem k103_156 : pm_look (pm_kl 103) 156 = some (.getfield 81, 3) := by decide +kernel
theorem k103_159 : pm_look (pm_kl 103) 159 = some (.invokevirtual 137, 3) := by decide +kernel
theorem k103_162 : pm_look (pm_kl 103) 162 = some (.aload_n 0, 1) := by decide +kernel
theorem k103_163 : pm_look (pm_kl 103) 163 = some (.getfield 47, 3) := by decide +kernel
theorem k103_166 : pm_look (pm_kl 103) 166 = some (.aload_n 0, 1) := by decide +kernel
theorem k103_167 : pm_look (pm_kl 103) 167 = some (.getfield 40, 3) := by decide +kernel
theorem k103_170 : pm_look (pm_kl 103) 170 = some (.aload_n 0, 1) := by decide +kernel
theorem k103_171 : pm_look (pm_kl 103) 171 = some (.getfield 81, 3) := by decide +kernel
theorem k103_174 : pm_look (pm_kl 103) 174 = some (.invokevirtual 200, 3) := by decide +kernel
theorem k103_177 : pm_look (pm_kl 103) 177 = some (.aload_n 0, 1) := by decide +kernel
theorem k103_178 : pm_look (pm_kl 103) 178 = some (.getfield 77, 3) := by decide +kernel
theorem k103_181 : pm_look (pm_kl 103) 181 = some (.aload_n 0, 1) := by decide +kernel
theorem k103_182 : pm_look (pm_kl 103) 182 = some (.getfield 47, 3) := by decide +kernel
theorem k103_185 : pm_look (pm_kl 103) 185 = some (.invokevirtual 227, 3) := by decide +kernel
theorem k103_188 : pm_look (pm_kl 103) 188 = some (.ireturn, 1) := by decide +kernel
theorem k103_189 : pm_look (pm_kl 103) 189 = some (.aload_n 0, 1) := by decide +kernel
theorem k103_190 : pm_look (pm_kl 103) 190 = some (.getfield 40, 3) := by decide +kernel
theorem k103_193 : pm_look (pm_kl 103) 193 = some (.getfield 231, 3) := by decide +kernel
theorem k103_196 : pm_look (pm_kl 103) 196 = some (.ireturn, 1) := by decide +kernel
theorem k103_197 : pm_look (pm_kl 103) 197 = some (.aload_n 0, 1) := by decide +kernel
theorem k103_198 : pm_look (pm_kl 103) 198 = some (.getfield 33, 3) := by decide +kernel
theorem k103_201 : pm_look (pm_kl 103) 201 = some (.getfield 232, 3) := by decide +kernel
theorem k103_204 : pm_look (pm_kl 103) 204 = some (.ireturn, 1) := by decide +kernel
theorem k103_205 : pm_look (pm_kl 103) 205 = some (.aload_n 0, 1) := by decide +kernel
theorem k103_206 : pm_look (pm_kl 103) 206 = some (.getfield 54, 3) := by decide +kernel
theorem k103_209 : pm_look (pm_kl 103) 209 = some (.getfield 235, 3) := by decide +kernel
theorem k103_212 : pm_look (pm_kl 103) 212 = some (.ireturn, 1) := by decide +kernel
theorem k103_213 : pm_look (pm_kl 103) 213 = some (.aload_n 0, 1) := by decide +kernel
theorem k103_214 : pm_look (pm_kl 103) 214 = some (.getfield 61, 3) := by decide +kernel
theorem k103_217 : pm_look (pm_kl 103) 217 = some (.getfield 236, 3) := by decide +kernel
theorem k103_220 : pm_look (pm_kl 103) 220 = some (.ireturn, 1) := by decide +kernel
theorem k103_221 : pm_look (pm_kl 103) 221 = some (.aload_n 0, 1) := by decide +kernel
theorem k103_222 : pm_look (pm_kl 103) 222 = some (.getfield 68, 3) := by decide +kernel
theorem k103_225 : pm_look (pm_kl 103) 225 = some (.getfield 237, 3) := by decide +kernel
theorem k103_228 : pm_look (pm_kl 103) 228 = some (.ireturn, 1) := by decide +kernel
theorem k104_0 : pm_look (pm_kl 104) 0 = some (.iload_n 1, 1) := by decide +kernel
theorem k104_1 : pm_look (pm_kl 104) 1 = some (.iconst 1, 1) := by decide +kernel
theorem k104_2 : pm_look (pm_kl 104) 2 = some (.bipush 8, 2) := by decide +kernel
theorem k104_4 : pm_look (pm_kl 104) 4 = some (.invokestatic 127, 3) := by decide +kernel
theorem k104_7 : pm_look (pm_kl 104) 7 = some (.ifCond .ne 7, 3) := by decide +kernel
theorem k104_10 : pm_look (pm_kl 104) 10 = some (.sipush (-1002), 3) := by decide +kernel
theorem k104_13 : pm_look (pm_kl 104) 13 = some (.ireturn, 1) := by decide +kernel
theorem k104_14 : pm_look (pm_kl 104) 14 = some (.aload_n 0, 1) := by decide +kernel
theorem k104_15 : pm_look (pm_kl 104) 15 = some (.getfield 33, 3) := by decide +kernel
theorem k104_18 : pm_look (pm_kl 104) 18 = some (.getfield 232, 3) := by decide +kernel
theorem k104_21 : pm_look (pm_kl 104) 21 = some (.iload_n 1, 1) := by decide +kernel
theorem k104_22 : pm_look (pm_kl 104) 22 = some (.iadd, 1) := by decide +kernel
theorem k104_23 : pm_look (pm_kl 104) 23 = some (.sipush 160, 3) := by decide +kernel
theorem k104_26 : pm_look (pm_kl 104) 26 = some (.if_icmp .le 7, 3) := by decide +kernel
theorem k104_29 : pm_look (pm_kl 104) 29 = some (.sipush (-1004), 3) := by decide +kernel
theorem k104_32 : pm_look (pm_kl 104) 32 = some (.ireturn, 1) := by decide +kernel
theorem k104_33 : pm_look (pm_kl 104) 33 = some (.iload_n 1, 1) := by decide +kernel
theorem k104_34 : pm_look (pm_kl 104) 34 = some (.iconst 1, 1) := by decide +kernel
theorem k104_35 : pm_look (pm_kl 104) 35 = some (.isub, 1) := by decide +kernel
theorem k104_36 : pm_look (pm_kl 104) 36 = some (.istore 4, 2) := by decide +kernel
theorem k104_38 : pm_look (pm_kl 104) 38 = some (.iload 4, 2) := by decide +kernel
theorem k104_40 : pm_look (pm_kl 104) 40 = some (.ifCond .lt 28, 3) := by decide +kernel
theorem k104_43 : pm_look (pm_kl 104) 43 = some (.aload_n 0, 1) := by decide +kernel
theorem k104_44 : pm_look (pm_kl 104) 44 = some (.getfield 33, 3) := by decide +kernel
theorem k104_47 : pm_look (pm_kl 104) 47 = some (.lload_n 2, 1) := by decide +kernel
theorem k104_48 : pm_look (pm_kl 104) 48 = some (.bipush 8, 2) := by decide +kernel
theorem k104_50 : pm_look (pm_kl 104) 50 = some (.iload 4, 2) := by decide +kernel
theorem k104_52 : pm_look (pm_kl 104) 52 = some (.imul, 1) := by decide +kernel
theorem k104_53 : pm_look (pm_kl 104) 53 = some (.lushr, 1) := by decide +kernel
theorem k104_54 : pm_look (pm_kl 104) 54 = some (.l2i, 1) := by decide +kernel
theorem k104_55 : pm_look (pm_kl 104) 55 = some (.sipush 255, 3) := by decide +kernel
theorem k104_58 : pm_look (pm_kl 104) 58 = some (.iand, 1) := by decide +kernel
theorem k104_59 : pm_look (pm_kl 104) 59 = some (.invokevirtual 238, 3) := by decide +kernel
theorem k104_62 : pm_look (pm_kl 104) 62 = some (.iinc 4 (-1), 3) := by decide +kernel
theorem k104_65 : pm_look (pm_kl 104) 65 = some (.goto (-27), 3) := by decide +kernel
theorem k104_68 : pm_look (pm_kl 104) 68 = some (.aload_n 0, 1) := by decide +kernel
theorem k104_69 : pm_look (pm_kl 104) 69 = some (.getfield 33, 3) := by decide +kernel
theorem k104_72 : pm_look (pm_kl 104) 72 = some (.getfield 232, 3) := by decide +kernel
theorem k104_75 : pm_look (pm_kl 104) 75 = some (.ireturn, 1) := by decide +kernel
theorem k105_0 : pm_look (pm_kl 105) 0 = some (.iload_n 1, 1) := by decide +kernel
theorem k105_1 : pm_look (pm_kl 105) 1 = some (.iconst 0, 1) := by decide +kernel
theorem k105_2 : pm_look (pm_kl 105) 2 = some (.bipush 9, 2) := by decide +kernel
theorem k105_4 : pm_look (pm_kl 105) 4 = some (.invokestatic 127, 3) := by decide +kernel
theorem k105_7 : pm_look (pm_kl 105) 7 = some (.ifCond .ne 7, 3) := by decide +kernel
theorem k105_10 : pm_look (pm_kl 105) 10 = some (.sipush (-1002), 3) := by decide +kernel
theorem k105_13 : pm_look (pm_kl 105) 13 = some (.ireturn, 1) := by decide +kernel
theorem k105_14 : pm_look (pm_kl 105) 14 = some (.aload_n 0, 1) := by decide +kernel
theorem k105_15 : pm_look (pm_kl 105) 15 = some (.getfield 40, 3) := by decide +kernel
theorem k105_18 : pm_look (pm_kl 105) 18 = some (.getfield 231, 3) := by decide +kernel
theorem k105_21 : pm_look (pm_kl 105) 21 = some (.bipush 8, 2) := by decide +kernel
theorem k105_23 : pm_look (pm_kl 105) 23 = some (.if_icmp .lt 7, 3) := by decide +kernel
theorem k105_26 : pm_look (pm_kl 105) 26 = some (.sipush (-1004), 3) := by decide +kernel
theorem k105_29 : pm_look (pm_kl 105) 29 = some (.ireturn, 1) := by decide +kernel
theorem k105_30 : pm_look (pm_kl 105) 30 = some (.aload_n 0, 1) := by decide +kernel
theorem k105_31 : pm_look (pm_kl 105) 31 = some (.getfield 77, 3) := by decide +kernel
theorem k105_34 : pm_look (pm_kl 105) 34 = some (.invokevirtual 96, 3) := by decide +kernel
theorem k105_37 : pm_look (pm_kl 105) 37 = some (.aload_n 0, 1) := by decide +kernel
theorem k105_38 : pm_look (pm_kl 105) 38 = some (.getfield 40, 3) := by decide +kernel
theorem k105_41 : pm_look (pm_kl 105) 41 = some (.getfield 231, 3) := by decide +kernel
theorem k105_44 : pm_look (pm_kl 105) 44 = some (.istore_n 2, 1) := by decide +kernel
theorem k105_45 : pm_look (pm_kl 105) 45 = some (.aload_n 0, 1) := by decide +kernel
theorem k105_46 : pm_look (pm_kl 105) 46 = some (.getfield 40, 3) := by decide +kernel
theorem k105_49 : pm_look (pm_kl 105) 49 = some (.aload_n 0, 1) := by decide +kernel
theorem k105_50 : pm_look (pm_kl 105) 50 = some (.getfield 33, 3) := by decide +kernel
theorem k105_53 : pm_look (pm_kl 105) 53 = some (.iload_n 1, 1) := by decide +kernel
theorem k105_54 : pm_look (pm_kl 105) 54 = some (.invokevirtual 240, 3) := by decide +kernel
theorem k105_57 : pm_look (pm_kl 105) 57 = some (.aload_n 0, 1) := by decide +kernel
theorem k105_58 : pm_look (pm_kl 105) 58 = some (.iload_n 2, 1) := by decide +kernel
theorem k105_59 : pm_look (pm_kl 105) 59 = some (.invokevirtual 244, 3) := by decide +kernel
theorem k105_62 : pm_look (pm_kl 105) 62 = some (.ireturn, 1) := by decide +kernel
theorem k106_0 : pm_look (pm_kl 106) 0 = some (.aload_n 0, 1) := by decide +kernel
theorem k106_1 : pm_look (pm_kl 106) 1 = some (.getfield 85, 3) := by decide +kernel
theorem k106_4 : pm_look (pm_kl 106) 4 = some (.ireturn, 1) := by decide +kernel
theorem k107_0 : pm_look (pm_kl 107) 0 = some (.iload_n 1, 1) := by decide +kernel
theorem k107_1 : pm_look (pm_kl 107) 1 = some (.iconst 0, 1) := by decide +kernel
theorem k107_2 : pm_look (pm_kl 107) 2 = some (.bipush 9, 2) := by decide +kernel
theorem k107_4 : pm_look (pm_kl 107) 4 = some (.invokestatic 127, 3) := by decide +kernel
theorem k107_7 : pm_look (pm_kl 107) 7 = some (.ifCond .eq 13, 3) := by decide +kernel
theorem k107_10 : pm_look (pm_kl 107) 10 = some (.iload_n 2, 1) := by decide +kernel
theorem k107_11 : pm_look (pm_kl 107) 11 = some (.iconst 0, 1) := by decide +kernel
theorem k107_12 : pm_look (pm_kl 107) 12 = some (.bipush 9, 2) := by decide +kernel
theorem k107_14 : pm_look (pm_kl 107) 14 = some (.invokestatic 127, 3) := by decide +kernel
theorem k107_17 : pm_look (pm_kl 107) 17 = some (.ifCond .ne 7, 3) := by decide +kernel
theorem k107_20 : pm_look (pm_kl 107) 20 = some (.sipush (-1002), 3) := by decide +kernel
theorem k107_23 : pm_look (pm_kl 107) 23 = some (.ireturn, 1) := by decide +kernel
theorem k107_24 : pm_look (pm_kl 107) 24 = some (.aload_n 0, 1) := by decide +kernel
theorem k107_25 : pm_look (pm_kl 107) 25 = some (.getfield 47, 3) := by decide +kernel
theorem k107_28 : pm_look (pm_kl 107) 28 = some (.aload_n 0, 1) := by decide +kernel
theorem k107_29 : pm_look (pm_kl 107) 29 = some (.getfield 40, 3) := by decide +kernel
theorem k107_32 : pm_look (pm_kl 107) 32 = some (.iload_n 1, 1) := by decide +kernel
theorem k107_33 : pm_look (pm_kl 107) 33 = some (.invokevirtual 200, 3) := by decide +kernel
theorem k107_36 : pm_look (pm_kl 107) 36 = some (.iload_n 2, 1) := by decide +kernel
theorem k107_37 : pm_look (pm_kl 107) 37 = some (.tableswitch 87 0 9 #[55, 87, 87, 87, 87, 87, 87, 63, 71, 79], 55) := by decide +kernel
theorem k107_92 : pm_look (pm_kl 107) 92 = some (.aload_n 0, 1) := by decide +kernel
theorem k107_93 : pm_look (pm_kl 107) 93 = some (.getfield 47, 3) := by decide +kernel
theorem k107_96 : pm_look (pm_kl 107) 96 = some (.getfield 247, 3) := by decide +kernel
theorem k107_99 : pm_look (pm_kl 107) 99 = some (.ireturn, 1) := by decide +kernel
theorem k107_100 : pm_look (pm_kl 107) 100 = some (.aload_n 0, 1) := by decide +kernel
theorem k107_101 : pm_look (pm_kl 107) 101 = some (.getfield 47, 3) := by decide +kernel
theorem k107_104 : pm_look (pm_kl 107) 104 = some (.getfield 250, 3) := by decide +kernel
theorem k107_107 : pm_look (pm_kl 107) 107 = some (.ireturn, 1) := by decide +kernel
theorem k107_108 : pm_look (pm_kl 107) 108 = some (.aload_n 0, 1) := by decide +kernel
theorem k107_109 : pm_look (pm_kl 107) 109 = some (.getfield 47, 3) := by decide +kernel
theorem k107_112 : pm_look (pm_kl 107) 112 = some (.getfield 253, 3) := by decide +kernel
theorem k107_115 : pm_look (pm_kl 107) 115 = some (.ireturn, 1) := by decide +kernel
theorem k107_116 : pm_look (pm_kl 107) 116 = some (.aload_n 0, 1) := by decide +kernel
theorem k107_117 : pm_look (pm_kl 107) 117 = some (.getfield 47, 3) := by decide +kernel
theorem k107_120 : pm_look (pm_kl 107) 120 = some (.getfield 256, 3) := by decide +kernel
theorem k107_123 : pm_look (pm_kl 107) 123 = some (.ireturn, 1) := by decide +kernel
theorem k107_124 : pm_look (pm_kl 107) 124 = some (.aload_n 0, 1) := by decide +kernel
theorem k107_125 : pm_look (pm_kl 107) 125 = some (.getfield 47, 3) := by decide +kernel
theorem k107_128 : pm_look (pm_kl 107) 128 = some (.getfield 259, 3) := by decide +kernel
theorem k107_131 : pm_look (pm_kl 107) 131 = some (.iload_n 2, 1) := by decide +kernel
theorem k107_132 : pm_look (pm_kl 107) 132 = some (.iconst 1, 1) := by decide +kernel
theorem k107_133 : pm_look (pm_kl 107) 133 = some (.isub, 1) := by decide +kernel
theorem k107_134 : pm_look (pm_kl 107) 134 = some (.iaload, 1) := by decide +kernel
theorem k107_135 : pm_look (pm_kl 107) 135 = some (.ireturn, 1) := by decide +kernel
theorem k108_0 : pm_look (pm_kl 108) 0 = some (.aload_n 0, 1) := by decide +kernel
theorem k108_1 : pm_look (pm_kl 108) 1 = some (.getfield 10, 3) := by decide +kernel
theorem k108_4 : pm_look (pm_kl 108) 4 = some (.iload_n 3, 1) := by decide +kernel
theorem k108_5 : pm_look (pm_kl 108) 5 = some (.invokevirtual 88, 3) := by decide +kernel
theorem k108_8 : pm_look (pm_kl 108) 8 = some (.ifCond .ne 7, 3) := by decide +kernel
theorem k108_11 : pm_look (pm_kl 108) 11 = some (.sipush (-1001), 3) := by decide +kernel
theorem k108_14 : pm_look (pm_kl 108) 14 = some (.ireturn, 1) := by decide +kernel
theorem k108_15 : pm_look (pm_kl 108) 15 = some (.iload_n 1, 1) := by decide +kernel
theorem k108_16 : pm_look (pm_kl 108) 16 = some (.iload_n 2, 1) := by decide +kernel
theorem k108_17 : pm_look (pm_kl 108) 17 = some (.invokestatic 262, 3) := by decide +kernel
theorem k108_20 : pm_look (pm_kl 108) 20 = some (.ifCond .ne 7, 3) := by decide +kernel
theorem k108_23 : pm_look (pm_kl 108) 23 = some (.sipush (-1002), 3) := by decide +kernel
theorem k108_26 : pm_look (pm_kl 108) 26 = some (.ireturn, 1) := by decide +kernel
theorem k108_27 : pm_look (pm_kl 108) 27 = some (.aload_n 0, 1) := by decide +kernel
theorem k108_28 : pm_look (pm_kl 108) 28 = some (.getfield 54, 3) := by decide +kernel
theorem k108_31 : pm_look (pm_kl 108) 31 = some (.iload_n 1, 1) := by decide +kernel
theorem k108_32 : pm_look (pm_kl 108) 32 = some (.iload_n 2, 1) := by decide +kernel
theorem k108_33 : pm_look (pm_kl 108) 33 = some (.invokevirtual 265, 3) := by decide +kernel
theorem k108_36 : pm_look (pm_kl 108) 36 = some (.iload_n 3, 1) := by decide +kernel
theorem k108_37 : pm_look (pm_kl 108) 37 = some (.lushr, 1) := by decide +kernel
theorem k108_38 : pm_look (pm_kl 108) 38 = some (.lconst 1, 1) := by decide +kernel
theorem k108_39 : pm_look (pm_kl 108) 39 = some (.land, 1) := by decide +kernel
theorem k108_40 : pm_look (pm_kl 108) 40 = some (.lconst 0, 1) := by decide +kernel
theorem k108_41 : pm_look (pm_kl 108) 41 = some (.lcmp, 1) := by decide +kernel
theorem k108_42 : pm_look (pm_kl 108) 42 = some (.ifCond .eq 7, 3) := by decide +kernel
theorem k108_45 : pm_look (pm_kl 108) 45 = some (.sipush (-1003), 3) := by decide +kernel
theorem k108_48 : pm_look (pm_kl 108) 48 = some (.ireturn, 1) := by decide +kernel
theorem k108_49 : pm_look (pm_kl 108) 49 = some (.aload_n 0, 1) := by decide +kernel
theorem k108_50 : pm_look (pm_kl 108) 50 = some (.getfield 54, 3) := by decide +kernel
theorem k108_53 : pm_look (pm_kl 108) 53 = some (.iload_n 1, 1) := by decide +kernel
theorem k108_54 : pm_look (pm_kl 108) 54 = some (.iload_n 2, 1) := by decide +kernel
theorem k108_55 : pm_look (pm_kl 108) 55 = some (.iload_n 3, 1) := by decide +kernel
theorem k108_56 : pm_look (pm_kl 108) 56 = some (.invokevirtual 269, 3) := by decide +kernel
theorem k108_59 : pm_look (pm_kl 108) 59 = some (.ireturn, 1) := by decide +kernel
theorem k109_0 : pm_look (pm_kl 109) 0 = some (.iload_n 1, 1) := by decide +kernel
theorem k109_1 : pm_look (pm_kl 109) 1 = some (.iload_n 2, 1) := by decide +kernel
theorem k109_2 : pm_look (pm_kl 109) 2 = some (.invokestatic 262, 3) := by decide +kernel
theorem k109_5 : pm_look (pm_kl 109) 5 = some (.ifCond .ne 7, 3) := by decide +kernel
theorem k109_8 : pm_look (pm_kl 109) 8 = some (.sipush (-1002), 3) := by decide +kernel
theorem k109_11 : pm_look (pm_kl 109) 11 = some (.ireturn, 1) := by decide +kernel
theorem k109_12 : pm_look (pm_kl 109) 12 = some (.iconst 2, 1) := by decide +kernel
theorem k109_13 : pm_look (pm_kl 109) 13 = some (.aload_n 0, 1) := by decide +kernel
theorem k109_14 : pm_look (pm_kl 109) 14 = some (.getfield 54, 3) := by decide +kernel
theorem k109_17 : pm_look (pm_kl 109) 17 = some (.iload_n 1, 1) := by decide +kernel
theorem k109_18 : pm_look (pm_kl 109) 18 = some (.iload_n 2, 1) := by decide +kernel
theorem k109_19 : pm_look (pm_kl 109) 19 = some (.invokevirtual 265, 3) := by decide +kernel
theorem k109_22 : pm_look (pm_kl 109) 22 = some (.invokestatic 145, 3) := by decide +kernel
theorem k109_25 : pm_look (pm_kl 109) 25 = some (.invokestatic 270, 3) := by decide +kernel
theorem k109_28 : pm_look (pm_kl 109) 28 = some (.ireturn, 1) := by decide +kernel
theorem k110_0 : pm_look (pm_kl 110) 0 = some (.aload_n 0, 1) := by decide +kernel
theorem k110_1 : pm_look (pm_kl 110) 1 = some (.getfield 33, 3) := by decide +kernel
theorem k110_4 : pm_look (pm_kl 110) 4 = some (.getfield 232, 3) := by decide +kernel
theorem k110_7 : pm_look (pm_kl 110) 7 = some (.bipush 100, 2) := by decide +kernel
theorem k110_9 : pm_look (pm_kl 110) 9 = some (.if_icmp .le 7, 3) := by decide +kernel
theorem k110_12 : pm_look (pm_kl 110) 12 = some (.sipush (-1003), 3) := by decide +kernel
theorem k110_15 : pm_look (pm_kl 110) 15 = some (.ireturn, 1) := by decide +kernel
theorem k110_16 : pm_look (pm_kl 110) 16 = some (.aload_n 0, 1) := by decide +kernel
theorem k110_17 : pm_look (pm_kl 110) 17 = some (.getfield 61, 3) := by decide +kernel
theorem k110_20 : pm_look (pm_kl 110) 20 = some (.getfield 236, 3) := by decide +kernel
theorem k110_23 : pm_look (pm_kl 110) 23 = some (.bipush 8, 2) := by decide +kernel
theorem k110_25 : pm_look (pm_kl 110) 25 = some (.if_icmp .lt 7, 3) := by decide +kernel
theorem k110_28 : pm_look (pm_kl 110) 28 = some (.sipush (-1004), 3) := by decide +kernel
theorem k110_31 : pm_look (pm_kl 110) 31 = some (.ireturn, 1) := by decide +kernel
theorem k110_32 : pm_look (pm_kl 110) 32 = some (.aload_n 0, 1) := by decide +kernel
theorem k110_33 : pm_look (pm_kl 110) 33 = some (.getfield 61, 3) := by decide +kernel
theorem k110_36 : pm_look (pm_kl 110) 36 = some (.getfield 236, 3) := by decide +kernel
theorem k110_39 : pm_look (pm_kl 110) 39 = some (.istore_n 1, 1) := by decide +kernel
theorem k110_40 : pm_look (pm_kl 110) 40 = some (.aload_n 0, 1) := by decide +kernel
theorem k110_41 : pm_look (pm_kl 110) 41 = some (.getfield 61, 3) := by decide +kernel
theorem k110_44 : pm_look (pm_kl 110) 44 = some (.aload_n 0, 1) := by decide +kernel
theorem k110_45 : pm_look (pm_kl 110) 45 = some (.getfield 33, 3) := by decide +kernel
theorem k110_48 : pm_look (pm_kl 110) 48 = some (.invokevirtual 275, 3) := by decide +kernel
theorem k110_51 : pm_look (pm_kl 110) 51 = some (.aload_n 0, 1) := by decide +kernel
theorem k110_52 : pm_look (pm_kl 110) 52 = some (.iload_n 1, 1) := by decide +kernel
theorem k110_53 : pm_look (pm_kl 110) 53 = some (.invokevirtual 244, 3) := by decide +kernel
theorem k110_56 : pm_look (pm_kl 110) 56 = some (.ireturn, 1) := by decide +kernel
theorem k111_0 : pm_look (pm_kl 111) 0 = some (.aload_n 0, 1) := by decide +kernel
theorem k111_1 : pm_look (pm_kl 111) 1 = some (.getfield 61, 3) := by decide +kernel
theorem k111_4 : pm_look (pm_kl 111) 4 = some (.iload_n 1, 1) := by decide +kernel
theorem k111_5 : pm_look (pm_kl 111) 5 = some (.invokevirtual 278, 3) := by decide +kernel
theorem k111_8 : pm_look (pm_kl 111) 8 = some (.ifCond .ne 7, 3) := by decide +kernel
theorem k111_11 : pm_look (pm_kl 111) 11 = some (.sipush (-1001), 3) := by decide +kernel
theorem k111_14 : pm_look (pm_kl 111) 14 = some (.ireturn, 1) := by decide +kernel
theorem k111_15 : pm_look (pm_kl 111) 15 = some (.aload_n 0, 1) := by decide +kernel
theorem k111_16 : pm_look (pm_kl 111) 16 = some (.iload_n 2, 1) := by decide +kernel
theorem k111_17 : pm_look (pm_kl 111) 17 = some (.invokevirtual 124, 3) := by decide +kernel
theorem k111_20 : pm_look (pm_kl 111) 20 = some (.ifCond .ne 7, 3) := by decide +kernel
theorem k111_23 : pm_look (pm_kl 111) 23 = some (.sipush (-1002), 3) := by decide +kernel
theorem k111_26 : pm_look (pm_kl 111) 26 = some (.ireturn, 1) := by decide +kernel
theorem k111_27 : pm_look (pm_kl 111) 27 = some (.aload_n 0, 1) := by decide +kernel
theorem k111_28 : pm_look (pm_kl 111) 28 = some (.getfield 77, 3) := by decide +kernel
theorem k111_31 : pm_look (pm_kl 111) 31 = some (.iload_n 2, 1) := by decide +kernel
theorem k111_32 : pm_look (pm_kl 111) 32 = some (.invokevirtual 137, 3) := by decide +kernel
theorem k111_35 : pm_look (pm_kl 111) 35 = some (.aload_n 0, 1) := by decide +kernel
theorem k111_36 : pm_look (pm_kl 111) 36 = some (.iload_n 1, 1) := by decide +kernel
theorem k111_37 : pm_look (pm_kl 111) 37 = some (.iload_n 2, 1) := by decide +kernel
theorem k111_38 : pm_look (pm_kl 111) 38 = some (.invokevirtual 279, 3) := by decide +kernel
theorem k111_41 : pm_look (pm_kl 111) 41 = some (.iload_n 3, 1) := by decide +kernel
theorem k111_42 : pm_look (pm_kl 111) 42 = some (.invokestatic 282, 3) := by decide +kernel
theorem k111_45 : pm_look (pm_kl 111) 45 = some (.ireturn, 1) := by decide +kernel
theorem k112_0 : pm_look (pm_kl 112) 0 = some (.aload_n 0, 1) := by decide +kernel
theorem k112_1 : pm_look (pm_kl 112) 1 = some (.getfield 10, 3) := by decide +kernel
theorem k112_4 : pm_look (pm_kl 112) 4 = some (.iload_n 3, 1) := by decide +kernel
theorem k112_5 : pm_look (pm_kl 112) 5 = some (.invokevirtual 88, 3) := by decide +kernel
theorem k112_8 : pm_look (pm_kl 112) 8 = some (.ifCond .ne 7, 3) := by decide +kernel
theorem k112_11 : pm_look (pm_kl 112) 11 = some (.sipush (-1001), 3) := by decide +kernel
theorem k112_14 : pm_look (pm_kl 112) 14 = some (.ireturn, 1) := by decide +kernel
theorem k112_15 : pm_look (pm_kl 112) 15 = some (.iload_n 1, 1) := by decide +kernel
theorem k112_16 : pm_look (pm_kl 112) 16 = some (.invokestatic 158, 3) := by decide +kernel
theorem k112_19 : pm_look (pm_kl 112) 19 = some (.ifCond .eq 15, 3) := by decide +kernel
theorem k112_22 : pm_look (pm_kl 112) 22 = some (.iload_n 2, 1) := by decide +kernel
theorem k112_23 : pm_look (pm_kl 112) 23 = some (.invokestatic 158, 3) := by decide +kernel
theorem k112_26 : pm_look (pm_kl 112) 26 = some (.ifCond .eq 8, 3) := by decide +kernel
theorem k112_29 : pm_look (pm_kl 112) 29 = some (.iload_n 1, 1) := by decide +kernel
theorem k112_30 : pm_look (pm_kl 112) 30 = some (.iload_n 2, 1) := by decide +kernel
theorem k112_31 : pm_look (pm_kl 112) 31 = some (.if_icmp .ne 7, 3) := by decide +kernel
theorem k112_34 : pm_look (pm_kl 112) 34 = some (.sipush (-1002), 3) := by decide +kernel
theorem k112_37 : pm_look (pm_kl 112) 37 = some (.ireturn, 1) := by decide +kernel
theorem k112_38 : pm_look (pm_kl 112) 38 = some (.aload_n 0, 1) := by decide +kernel
theorem k112_39 : pm_look (pm_kl 112) 39 = some (.iload 4, 2) := by decide +kernel
theorem k112_41 : pm_look (pm_kl 112) 41 = some (.invokevirtual 124, 3) := by decide +kernel
theorem k112_44 : pm_look (pm_kl 112) 44 = some (.ifCond .eq 13, 3) := by decide +kernel
theorem k112_47 : pm_look (pm_kl 112) 47 = some (.iload 5, 2) := by decide +kernel
theorem k112_49 : pm_look (pm_kl 112) 49 = some (.iconst 0, 1) := by decide +kernel
theorem k112_50 : pm_look (pm_kl 112) 50 = some (.iconst 4, 1) := by decide +kernel
theorem k112_51 : pm_look (pm_kl 112) 51 = some (.invokestatic 127, 3) := by decide +kernel
theorem k112_54 : pm_look (pm_kl 112) 54 = some (.ifCond .ne 7, 3) := by decide +kernel
theorem k112_57 : pm_look (pm_kl 112) 57 = some (.sipush (-1002), 3) := by decide +kernel
theorem k112_60 : pm_look (pm_kl 112) 60 = some (.ireturn, 1) := by decide +kernel
theorem k112_61 : pm_look (pm_kl 112) 61 = some (.aload_n 0, 1) := by decide +kernel
theorem k112_62 : pm_look (pm_kl 112) 62 = some (.getfield 77, 3) := by decide +kernel
theorem k112_65 : pm_look (pm_kl 112) 65 = some (.iload 4, 2) := by decide +kernel
theorem k112_67 : pm_look (pm_kl 112) 67 = some (.invokevirtual 137, 3) := by decide +kernel
theorem k112_70 : pm_look (pm_kl 112) 70 = some (.aload_n 0, 1) := by decide +kernel
theorem k112_71 : pm_look (pm_kl 112) 71 = some (.getfield 26, 3) := by decide +kernel
theorem k112_74 : pm_look (pm_kl 112) 74 = some (.iload_n 1, 1) := by decide +kernel
theorem k112_75 : pm_look (pm_kl 112) 75 = some (.iload 4, 2) := by decide +kernel
theorem k112_77 : pm_look (pm_kl 112) 77 = some (.invokevirtual 286, 3) := by decide +kernel
theorem k112_80 : pm_look (pm_kl 112) 80 = some (.aload_n 0, 1) := by decide +kernel
theorem k112_81 : pm_look (pm_kl 112) 81 = some (.getfield 26, 3) := by decide +kernel
theorem k112_84 : pm_look (pm_kl 112) 84 = some (.iload_n 2, 1) := by decide +kernel
theorem k112_85 : pm_look (pm_kl 112) 85 = some (.iload 4, 2) := by decide +kernel
theorem k112_87 : pm_look (pm_kl 112) 87 = some (.invokevirtual 286, 3) := by decide +kernel
theorem k112_90 : pm_look (pm_kl 112) 90 = some (.land, 1) := by decide +kernel
theorem k112_91 : pm_look (pm_kl 112) 91 = some (.lstore 6, 2) := by decide +kernel
theorem k112_93 : pm_look (pm_kl 112) 93 = some (.aload_n 0, 1) := by decide +kernel
theorem k112_94 : pm_look (pm_kl 112) 94 = some (.getfield 77, 3) := by decide +kernel
theorem k112_97 : pm_look (pm_kl 112) 97 = some (.iload_n 1, 1) := by decide +kernel
theorem k112_98 : pm_look (pm_kl 112) 98 = some (.iload_n 3, 1) := by decide +kernel
theorem k112_99 : pm_look (pm_kl 112) 99 = some (.invokevirtual 289, 3) := by decide +kernel
theorem k112_102 : pm_look (pm_kl 112) 102 = some (.lload 6, 2) := by decide +kernel
theorem k112_104 : pm_look (pm_kl 112) 104 = some (.land, 1) := by decide +kernel
theorem k112_105 : pm_look (pm_kl 112) 105 = some (.lstore 8, 2) := by decide +kernel
theorem k112_107 : pm_look (pm_kl 112) 107 = some (.aload_n 0, 1) := by decide +kernel
theorem k112_108 : pm_look (pm_kl 112) 108 = some (.getfield 77, 3) := by decide +kernel
theorem k112_111 : pm_look (pm_kl 112) 111 = some (.iload_n 2, 1) := by decide +kernel
theorem k112_112 : pm_look (pm_kl 112) 112 = some (.iload_n 3, 1) := by decide +kernel
theorem k112_113 : pm_look (pm_kl 112) 113 = some (.invokevirtual 289, 3) := by decide +kernel
theorem k112_116 : pm_look (pm_kl 112) 116 = some (.lload 6, 2) := by decide +kernel
theorem k112_118 : pm_look (pm_kl 112) 118 = some (.land, 1) := by decide +kernel
theorem k112_119 : pm_look (pm_kl 112) 119 = some (.lstore 10, 2) := by decide +kernel
theorem k112_121 : pm_look (pm_kl 112) 121 = some (.iload 5, 2) := by decide +kernel
theorem k112_123 : pm_look (pm_kl 112) 123 = some (.tableswitch 56 0 3 #[29, 35, 41, 47], 29) := by decide +kernel
theorem k112_152 : pm_look (pm_kl 112) 152 = some (.lload 6, 2) := by decide +kernel
theorem k112_154 : pm_look (pm_kl 112) 154 = some (.invokestatic 145, 3) := by decide +kernel
theorem k112_157 : pm_look (pm_kl 112) 157 = some (.ireturn, 1) := by decide +kernel
theorem k112_158 : pm_look (pm_kl 112) 158 = some (.lload 8, 2) := by decide +kernel
theorem k112_160 : pm_look (pm_kl 112) 160 = some (.invokestatic 145, 3) := by decide +kernel
theorem k112_163 : pm_look (pm_kl 112) 163 = some (.ireturn, 1) := by decide +kernel
theorem k112_164 : pm_look (pm_kl 112) 164 = some (.lload 10, 2) := by decide +kernel
theorem k112_166 : pm_look (pm_kl 112) 166 = some (.invokestatic 145, 3) := by decide +kernel
theorem k112_169 : pm_look (pm_kl 112) 169 = some (.ireturn, 1) := by decide +kernel
theorem k112_170 : pm_look (pm_kl 112) 170 = some (.lload 8, 2) := by decide +kernel
theorem k112_172 : pm_look (pm_kl 112) 172 = some (.lload 10, 2) := by decide +kernel
theorem k112_174 : pm_look (pm_kl 112) 174 = some (.land, 1) := by decide +kernel
