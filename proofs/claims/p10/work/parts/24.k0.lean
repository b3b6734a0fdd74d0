theorem k0_0 : pm_look (pm_kl 0) 0 = some (.aload_n 0, 1) := by decide +kernel
theorem k0_1 : pm_look (pm_kl 0) 1 = some (.invokespecial 5, 3) := by decide +kernel
theorem k0_4 : pm_look (pm_kl 0) 4 = some (.aload_n 0, 1) := by decide +kernel
theorem k0_5 : pm_look (pm_kl 0) 5 = some (.bipush 8, 2) := by decide +kernel
theorem k0_7 : pm_look (pm_kl 0) 7 = some (.newarray .int, 2) := by decide +kernel
theorem k0_9 : pm_look (pm_kl 0) 9 = some (.putfield 11, 3) := by decide +kernel
theorem k0_12 : pm_look (pm_kl 0) 12 = some (.aload_n 0, 1) := by decide +kernel
theorem k0_13 : pm_look (pm_kl 0) 13 = some (.bipush 8, 2) := by decide +kernel
theorem k0_15 : pm_look (pm_kl 0) 15 = some (.bipush 100, 2) := by decide +kernel
theorem k0_17 : pm_look (pm_kl 0) 17 = some (.multianewarray 15 2, 4) := by decide +kernel
theorem k0_21 : pm_look (pm_kl 0) 21 = some (.putfield 17, 3) := by decide +kernel
theorem k0_24 : pm_look (pm_kl 0) 24 = some (.aload_n 0, 1) := by decide +kernel
theorem k0_25 : pm_look (pm_kl 0) 25 = some (.bipush 100, 2) := by decide +kernel
theorem k0_27 : pm_look (pm_kl 0) 27 = some (.newarray .long, 2) := by decide +kernel
theorem k0_29 : pm_look (pm_kl 0) 29 = some (.putfield 20, 3) := by decide +kernel
theorem k0_32 : pm_look (pm_kl 0) 32 = some (.aload_n 0, 1) := by decide +kernel
theorem k0_33 : pm_look (pm_kl 0) 33 = some (.bipush 100, 2) := by decide +kernel
theorem k0_35 : pm_look (pm_kl 0) 35 = some (.newarray .int, 2) := by decide +kernel
theorem k0_37 : pm_look (pm_kl 0) 37 = some (.putfield 24, 3) := by decide +kernel
theorem k0_40 : pm_look (pm_kl 0) 40 = some (.return_, 1) := by decide +kernel
theorem k1_0 : pm_look (pm_kl 1) 0 = some (.iload_n 1, 1) := by decide +kernel
theorem k1_1 : pm_look (pm_kl 1) 1 = some (.ifCond .lt 15, 3) := by decide +kernel
theorem k1_4 : pm_look (pm_kl 1) 4 = some (.iload_n 1, 1) := by decide +kernel
theorem k1_5 : pm_look (pm_kl 1) 5 = some (.aload_n 0, 1) := by decide +kernel
theorem k1_6 : pm_look (pm_kl 1) 6 = some (.getfield 27, 3) := by decide +kernel
theorem k1_9 : pm_look (pm_kl 1) 9 = some (.if_icmp .ge 7, 3) := by decide +kernel
theorem k1_12 : pm_look (pm_kl 1) 12 = some (.iconst 1, 1) := by decide +kernel
theorem k1_13 : pm_look (pm_kl 1) 13 = some (.goto 4, 3) := by decide +kernel
theorem k1_16 : pm_look (pm_kl 1) 16 = some (.iconst 0, 1) := by decide +kernel
theorem k1_17 : pm_look (pm_kl 1) 17 = some (.ireturn, 1) := by decide +kernel
theorem k2_0 : pm_look (pm_kl 2) 0 = some (.aload_n 1, 1) := by decide +kernel
theorem k2_1 : pm_look (pm_kl 2) 1 = some (.invokevirtual 31, 3) := by decide +kernel
theorem k2_4 : pm_look (pm_kl 2) 4 = some (.aload_n 0, 1) := by decide +kernel
theorem k2_5 : pm_look (pm_kl 2) 5 = some (.getfield 27, 3) := by decide +kernel
theorem k2_8 : pm_look (pm_kl 2) 8 = some (.bipush 8, 2) := by decide +kernel
theorem k2_10 : pm_look (pm_kl 2) 10 = some (.if_icmp .lt 4, 3) := by decide +kernel
theorem k2_13 : pm_look (pm_kl 2) 13 = some (.return_, 1) := by decide +kernel
theorem k2_14 : pm_look (pm_kl 2) 14 = some (.aload_n 0, 1) := by decide +kernel
theorem k2_15 : pm_look (pm_kl 2) 15 = some (.getfield 11, 3) := by decide +kernel
theorem k2_18 : pm_look (pm_kl 2) 18 = some (.aload_n 0, 1) := by decide +kernel
theorem k2_19 : pm_look (pm_kl 2) 19 = some (.getfield 27, 3) := by decide +kernel
theorem k2_22 : pm_look (pm_kl 2) 22 = some (.iconst 0, 1) := by decide +kernel
theorem k2_23 : pm_look (pm_kl 2) 23 = some (.iastore, 1) := by decide +kernel
theorem k2_24 : pm_look (pm_kl 2) 24 = some (.aload_n 0, 1) := by decide +kernel
theorem k2_25 : pm_look (pm_kl 2) 25 = some (.iconst 0, 1) := by decide +kernel
theorem k2_26 : pm_look (pm_kl 2) 26 = some (.putfield 36, 3) := by decide +kernel
theorem k2_29 : pm_look (pm_kl 2) 29 = some (.aload_n 0, 1) := by decide +kernel
theorem k2_30 : pm_look (pm_kl 2) 30 = some (.iconst 0, 1) := by decide +kernel
theorem k2_31 : pm_look (pm_kl 2) 31 = some (.putfield 39, 3) := by decide +kernel
theorem k2_34 : pm_look (pm_kl 2) 34 = some (.iconst 1, 1) := by decide +kernel
theorem k2_35 : pm_look (pm_kl 2) 35 = some (.istore_n 2, 1) := by decide +kernel
theorem k2_36 : pm_look (pm_kl 2) 36 = some (.iconst 0, 1) := by decide +kernel
theorem k2_37 : pm_look (pm_kl 2) 37 = some (.istore_n 3, 1) := by decide +kernel
theorem k2_38 : pm_look (pm_kl 2) 38 = some (.iload_n 2, 1) := by decide +kernel
theorem k2_39 : pm_look (pm_kl 2) 39 = some (.ifCond .eq 31, 3) := by decide +kernel
theorem k2_42 : pm_look (pm_kl 2) 42 = some (.iload_n 3, 1) := by decide +kernel
theorem k2_43 : pm_look (pm_kl 2) 43 = some (.bipush 100, 2) := by decide +kernel
theorem k2_45 : pm_look (pm_kl 2) 45 = some (.if_icmp .ge 25, 3) := by decide +kernel
theorem k2_48 : pm_look (pm_kl 2) 48 = some (.aload_n 0, 1) := by decide +kernel
theorem k2_49 : pm_look (pm_kl 2) 49 = some (.aload_n 1, 1) := by decide +kernel
theorem k2_50 : pm_look (pm_kl 2) 50 = some (.invokevirtual 42, 3) := by decide +kernel
theorem k2_53 : pm_look (pm_kl 2) 53 = some (.aload_n 0, 1) := by decide +kernel
theorem k2_54 : pm_look (pm_kl 2) 54 = some (.aload_n 1, 1) := by decide +kernel
theorem k2_55 : pm_look (pm_kl 2) 55 = some (.invokevirtual 46, 3) := by decide +kernel
theorem k2_58 : pm_look (pm_kl 2) 58 = some (.aload_n 0, 1) := by decide +kernel
theorem k2_59 : pm_look (pm_kl 2) 59 = some (.aload_n 1, 1) := by decide +kernel
theorem k2_60 : pm_look (pm_kl 2) 60 = some (.invokevirtual 49, 3) := by decide +kernel
theorem k2_63 : pm_look (pm_kl 2) 63 = some (.istore_n 2, 1) := by decide +kernel
theorem k2_64 : pm_look (pm_kl 2) 64 = some (.iinc 3 1, 3) := by decide +kernel
theorem k2_67 : pm_look (pm_kl 2) 67 = some (.goto (-29), 3) := by decide +kernel
theorem k2_70 : pm_look (pm_kl 2) 70 = some (.aload_n 1, 1) := by decide +kernel
theorem k2_71 : pm_look (pm_kl 2) 71 = some (.getfield 53, 3) := by decide +kernel
theorem k2_74 : pm_look (pm_kl 2) 74 = some (.ifCond .eq 4, 3) := by decide +kernel
theorem k2_77 : pm_look (pm_kl 2) 77 = some (.return_, 1) := by decide +kernel
theorem k2_78 : pm_look (pm_kl 2) 78 = some (.aload_n 0, 1) := by decide +kernel
theorem k2_79 : pm_look (pm_kl 2) 79 = some (.bipush 7, 2) := by decide +kernel
theorem k2_81 : pm_look (pm_kl 2) 81 = some (.invokevirtual 56, 3) := by decide +kernel
theorem k2_84 : pm_look (pm_kl 2) 84 = some (.aload_n 0, 1) := by decide +kernel
theorem k2_85 : pm_look (pm_kl 2) 85 = some (.dup, 1) := by decide +kernel
theorem k2_86 : pm_look (pm_kl 2) 86 = some (.getfield 27, 3) := by decide +kernel
theorem k2_89 : pm_look (pm_kl 2) 89 = some (.iconst 1, 1) := by decide +kernel
theorem k2_90 : pm_look (pm_kl 2) 90 = some (.iadd, 1) := by decide +kernel
theorem k2_91 : pm_look (pm_kl 2) 91 = some (.putfield 27, 3) := by decide +kernel
theorem k2_94 : pm_look (pm_kl 2) 94 = some (.return_, 1) := by decide +kernel
theorem k3_0 : pm_look (pm_kl 3) 0 = some (.iconst 0, 1) := by decide +kernel
theorem k3_1 : pm_look (pm_kl 3) 1 = some (.istore_n 2, 1) := by decide +kernel
theorem k3_2 : pm_look (pm_kl 3) 2 = some (.iload_n 2, 1) := by decide +kernel
theorem k3_3 : pm_look (pm_kl 3) 3 = some (.bipush 100, 2) := by decide +kernel
theorem k3_5 : pm_look (pm_kl 3) 5 = some (.if_icmp .ge 56, 3) := by decide +kernel
theorem k3_8 : pm_look (pm_kl 3) 8 = some (.aload_n 1, 1) := by decide +kernel
theorem k3_9 : pm_look (pm_kl 3) 9 = some (.getfield 53, 3) := by decide +kernel
theorem k3_12 : pm_look (pm_kl 3) 12 = some (.ifCond .ne 49, 3) := by decide +kernel
theorem k3_15 : pm_look (pm_kl 3) 15 = some (.aload_n 1, 1) := by decide +kernel
theorem k3_16 : pm_look (pm_kl 3) 16 = some (.bipush 40, 2) := by decide +kernel
theorem k3_18 : pm_look (pm_kl 3) 18 = some (.invokevirtual 60, 3) := by decide +kernel
theorem k3_21 : pm_look (pm_kl 3) 21 = some (.ifCond .eq 11, 3) := by decide +kernel
theorem k3_24 : pm_look (pm_kl 3) 24 = some (.aload_n 0, 1) := by decide +kernel
theorem k3_25 : pm_look (pm_kl 3) 25 = some (.aload_n 1, 1) := by decide +kernel
theorem k3_26 : pm_look (pm_kl 3) 26 = some (.invokevirtual 64, 3) := by decide +kernel
theorem k3_29 : pm_look (pm_kl 3) 29 = some (.goto 22, 3) := by decide +kernel
theorem k3_32 : pm_look (pm_kl 3) 32 = some (.aload_n 1, 1) := by decide +kernel
theorem k3_33 : pm_look (pm_kl 3) 33 = some (.ldc 67, 2) := by decide +kernel
theorem k3_35 : pm_look (pm_kl 3) 35 = some (.invokevirtual 69, 3) := by decide +kernel
theorem k3_38 : pm_look (pm_kl 3) 38 = some (.ifCond .eq 12, 3) := by decide +kernel
theorem k3_41 : pm_look (pm_kl 3) 41 = some (.aload_n 0, 1) := by decide +kernel
theorem k3_42 : pm_look (pm_kl 3) 42 = some (.bipush 9, 2) := by decide +kernel
theorem k3_44 : pm_look (pm_kl 3) 44 = some (.invokevirtual 73, 3) := by decide +kernel
theorem k3_47 : pm_look (pm_kl 3) 47 = some (.goto 4, 3) := by decide +kernel
theorem k3_50 : pm_look (pm_kl 3) 50 = some (.return_, 1) := by decide +kernel
theorem k3_51 : pm_look (pm_kl 3) 51 = some (.aload_n 1, 1) := by decide +kernel
theorem k3_52 : pm_look (pm_kl 3) 52 = some (.invokevirtual 76, 3) := by decide +kernel
theorem k3_55 : pm_look (pm_kl 3) 55 = some (.iinc 2 1, 3) := by decide +kernel
theorem k3_58 : pm_look (pm_kl 3) 58 = some (.goto (-56), 3) := by decide +kernel
theorem k3_61 : pm_look (pm_kl 3) 61 = some (.return_, 1) := by decide +kernel
theorem k4_0 : pm_look (pm_kl 4) 0 = some (.aload_n 0, 1) := by decide +kernel
theorem k4_1 : pm_look (pm_kl 4) 1 = some (.getfield 39, 3) := by decide +kernel
theorem k4_4 : pm_look (pm_kl 4) 4 = some (.iconst 5, 1) := by decide +kernel
theorem k4_5 : pm_look (pm_kl 4) 5 = some (.if_icmp .lt 12, 3) := by decide +kernel
theorem k4_8 : pm_look (pm_kl 4) 8 = some (.aload_n 1, 1) := by decide +kernel
theorem k4_9 : pm_look (pm_kl 4) 9 = some (.iconst 5, 1) := by decide +kernel
theorem k4_10 : pm_look (pm_kl 4) 10 = some (.aload_n 1, 1) := by decide +kernel
theorem k4_11 : pm_look (pm_kl 4) 11 = some (.getfield 79, 3) := by decide +kernel
theorem k4_14 : pm_look (pm_kl 4) 14 = some (.invokevirtual 82, 3) := by decide +kernel
theorem k4_17 : pm_look (pm_kl 4) 17 = some (.aload_n 0, 1) := by decide +kernel
theorem k4_18 : pm_look (pm_kl 4) 18 = some (.dup, 1) := by decide +kernel
theorem k4_19 : pm_look (pm_kl 4) 19 = some (.getfield 39, 3) := by decide +kernel
theorem k4_22 : pm_look (pm_kl 4) 22 = some (.iconst 1, 1) := by decide +kernel
theorem k4_23 : pm_look (pm_kl 4) 23 = some (.iadd, 1) := by decide +kernel
theorem k4_24 : pm_look (pm_kl 4) 24 = some (.putfield 39, 3) := by decide +kernel
theorem k4_27 : pm_look (pm_kl 4) 27 = some (.aload_n 0, 1) := by decide +kernel
theorem k4_28 : pm_look (pm_kl 4) 28 = some (.bipush 6, 2) := by decide +kernel
theorem k4_30 : pm_look (pm_kl 4) 30 = some (.invokevirtual 73, 3) := by decide +kernel
theorem k4_33 : pm_look (pm_kl 4) 33 = some (.return_, 1) := by decide +kernel
theorem k5_0 : pm_look (pm_kl 5) 0 = some (.aload_n 1, 1) := by decide +kernel
theorem k5_1 : pm_look (pm_kl 5) 1 = some (.getfield 53, 3) := by decide +kernel
theorem k5_4 : pm_look (pm_kl 5) 4 = some (.ifCond .eq 4, 3) := by decide +kernel
theorem k5_7 : pm_look (pm_kl 5) 7 = some (.return_, 1) := by decide +kernel
theorem k5_8 : pm_look (pm_kl 5) 8 = some (.aload_n 1, 1) := by decide +kernel
theorem k5_9 : pm_look (pm_kl 5) 9 = some (.invokestatic 86, 3) := by decide +kernel
theorem k5_12 : pm_look (pm_kl 5) 12 = some (.istore_n 2, 1) := by decide +kernel
theorem k5_13 : pm_look (pm_kl 5) 13 = some (.iload_n 2, 1) := by decide +kernel
theorem k5_14 : pm_look (pm_kl 5) 14 = some (.iconst (-1), 1) := by decide +kernel
theorem k5_15 : pm_look (pm_kl 5) 15 = some (.if_icmp .ne 15, 3) := by decide +kernel
theorem k5_18 : pm_look (pm_kl 5) 18 = some (.aload_n 1, 1) := by decide +kernel
theorem k5_19 : pm_look (pm_kl 5) 19 = some (.iconst 1, 1) := by decide +kernel
theorem k5_20 : pm_look (pm_kl 5) 20 = some (.aload_n 1, 1) := by decide +kernel
theorem k5_21 : pm_look (pm_kl 5) 21 = some (.getfield 79, 3) := by decide +kernel
theorem k5_24 : pm_look (pm_kl 5) 24 = some (.invokevirtual 82, 3) := by decide +kernel
theorem k5_27 : pm_look (pm_kl 5) 27 = some (.goto 7, 3) := by decide +kernel
theorem k5_30 : pm_look (pm_kl 5) 30 = some (.aload_n 1, 1) := by decide +kernel
theorem k5_31 : pm_look (pm_kl 5) 31 = some (.invokevirtual 76, 3) := by decide +kernel
theorem k5_34 : pm_look (pm_kl 5) 34 = some (.aload_n 1, 1) := by decide +kernel
theorem k5_35 : pm_look (pm_kl 5) 35 = some (.iload_n 2, 1) := by decide +kernel
theorem k5_36 : pm_look (pm_kl 5) 36 = some (.invokestatic 90, 3) := by decide +kernel
theorem k5_39 : pm_look (pm_kl 5) 39 = some (.istore_n 3, 1) := by decide +kernel
theorem k5_40 : pm_look (pm_kl 5) 40 = some (.aload_n 1, 1) := by decide +kernel
theorem k5_41 : pm_look (pm_kl 5) 41 = some (.getfield 53, 3) := by decide +kernel
theorem k5_44 : pm_look (pm_kl 5) 44 = some (.ifCond .ne 14, 3) := by decide +kernel
theorem k5_47 : pm_look (pm_kl 5) 47 = some (.aload_n 0, 1) := by decide +kernel
theorem k5_48 : pm_look (pm_kl 5) 48 = some (.iload_n 2, 1) := by decide +kernel
theorem k5_49 : pm_look (pm_kl 5) 49 = some (.sipush 1000, 3) := by decide +kernel
theorem k5_52 : pm_look (pm_kl 5) 52 = some (.imul, 1) := by decide +kernel
theorem k5_53 : pm_look (pm_kl 5) 53 = some (.iload_n 3, 1) := by decide +kernel
theorem k5_54 : pm_look (pm_kl 5) 54 = some (.iadd, 1) := by decide +kernel
theorem k5_55 : pm_look (pm_kl 5) 55 = some (.invokevirtual 94, 3) := by decide +kernel
theorem k5_58 : pm_look (pm_kl 5) 58 = some (.return_, 1) := by decide +kernel
theorem k6_0 : pm_look (pm_kl 6) 0 = some (.aload_n 0, 1) := by decide +kernel
theorem k6_1 : pm_look (pm_kl 6) 1 = some (.ldc 97, 2) := by decide +kernel
theorem k6_3 : pm_look (pm_kl 6) 3 = some (.invokevirtual 69, 3) := by decide +kernel
theorem k6_6 : pm_look (pm_kl 6) 6 = some (.ifCond .eq 5, 3) := by decide +kernel
theorem k6_9 : pm_look (pm_kl 6) 9 = some (.iconst 1, 1) := by decide +kernel
theorem k6_10 : pm_look (pm_kl 6) 10 = some (.ireturn, 1) := by decide +kernel
theorem k6_11 : pm_look (pm_kl 6) 11 = some (.aload_n 0, 1) := by decide +kernel
theorem k6_12 : pm_look (pm_kl 6) 12 = some (.ldc 99, 2) := by decide +kernel
theorem k6_14 : pm_look (pm_kl 6) 14 = some (.invokevirtual 69, 3) := by decide +kernel
theorem k6_17 : pm_look (pm_kl 6) 17 = some (.ifCond .eq 5, 3) := by decide +kernel
theorem k6_20 : pm_look (pm_kl 6) 20 = some (.iconst 2, 1) := by decide +kernel
theorem k6_21 : pm_look (pm_kl 6) 21 = some (.ireturn, 1) := by decide +kernel
theorem k6_22 : pm_look (pm_kl 6) 22 = some (.aload_n 0, 1) := by decide +kernel
theorem k6_23 : pm_look (pm_kl 6) 23 = some (.ldc 101, 2) := by decide +kernel
theorem k6_25 : pm_look (pm_kl 6) 25 = some (.invokevirtual 69, 3) := by decide +kernel
theorem k6_28 : pm_look (pm_kl 6) 28 = some (.ifCond .eq 5, 3) := by decide +kernel
theorem k6_31 : pm_look (pm_kl 6) 31 = some (.iconst 3, 1) := by decide +kernel
theorem k6_32 : pm_look (pm_kl 6) 32 = some (.ireturn, 1) := by decide +kernel
theorem k6_33 : pm_look (pm_kl 6) 33 = some (.aload_n 0, 1) := by decide +kernel
theorem k6_34 : pm_look (pm_kl 6) 34 = some (.ldc 103, 2) := by decide +kernel
theorem k6_36 : pm_look (pm_kl 6) 36 = some (.invokevirtual 69, 3) := by decide +kernel
theorem k6_39 : pm_look (pm_kl 6) 39 = some (.ifCond .eq 5, 3) := by decide +kernel
theorem k6_42 : pm_look (pm_kl 6) 42 = some (.iconst 4, 1) := by decide +kernel
theorem k6_43 : pm_look (pm_kl 6) 43 = some (.ireturn, 1) := by decide +kernel
theorem k6_44 : pm_look (pm_kl 6) 44 = some (.aload_n 0, 1) := by decide +kernel
theorem k6_45 : pm_look (pm_kl 6) 45 = some (.ldc 105, 2) := by decide +kernel
theorem k6_47 : pm_look (pm_kl 6) 47 = some (.invokevirtual 69, 3) := by decide +kernel
theorem k6_50 : pm_look (pm_kl 6) 50 = some (.ifCond .eq 5, 3) := by decide +kernel
theorem k6_53 : pm_look (pm_kl 6) 53 = some (.iconst 5, 1) := by decide +kernel
theorem k6_54 : pm_look (pm_kl 6) 54 = some (.ireturn, 1) := by decide +kernel
theorem k6_55 : pm_look (pm_kl 6) 55 = some (.iconst (-1), 1) := by decide +kernel
theorem k6_56 : pm_look (pm_kl 6) 56 = some (.ireturn, 1) := by decide +kernel
theorem k7_0 : pm_look (pm_kl 7) 0 = some (.iload_n 1, 1) := by decide +kernel
theorem k7_1 : pm_look (pm_kl 7) 1 = some (.tableswitch 92 1 5 #[35, 44, 64, 73, 83], 35) := by decide +kernel
theorem k7_36 : pm_look (pm_kl 7) 36 = some (.aload_n 0, 1) := by decide +kernel
theorem k7_37 : pm_look (pm_kl 7) 37 = some (.iconst 0, 1) := by decide +kernel
theorem k7_38 : pm_look (pm_kl 7) 38 = some (.bipush 39, 2) := by decide +kernel
theorem k7_40 : pm_look (pm_kl 7) 40 = some (.iconst 3, 1) := by decide +kernel
theorem k7_41 : pm_look (pm_kl 7) 41 = some (.invokevirtual 107, 3) := by decide +kernel
theorem k7_44 : pm_look (pm_kl 7) 44 = some (.ireturn, 1) := by decide +kernel
theorem k7_45 : pm_look (pm_kl 7) 45 = some (.bipush 100, 2) := by decide +kernel
theorem k7_47 : pm_look (pm_kl 7) 47 = some (.aload_n 0, 1) := by decide +kernel
theorem k7_48 : pm_look (pm_kl 7) 48 = some (.iconst 0, 1) := by decide +kernel
theorem k7_49 : pm_look (pm_kl 7) 49 = some (.iconst 3, 1) := by decide +kernel
theorem k7_50 : pm_look (pm_kl 7) 50 = some (.iconst 3, 1) := by decide +kernel
theorem k7_51 : pm_look (pm_kl 7) 51 = some (.invokevirtual 107, 3) := by decide +kernel
theorem k7_54 : pm_look (pm_kl 7) 54 = some (.imul, 1) := by decide +kernel
theorem k7_55 : pm_look (pm_kl 7) 55 = some (.aload_n 0, 1) := by decide +kernel
theorem k7_56 : pm_look (pm_kl 7) 56 = some (.iconst 0, 1) := by decide +kernel
theorem k7_57 : pm_look (pm_kl 7) 57 = some (.bipush 99, 2) := by decide +kernel
theorem k7_59 : pm_look (pm_kl 7) 59 = some (.iconst 3, 1) := by decide +kernel
theorem k7_60 : pm_look (pm_kl 7) 60 = some (.invokevirtual 107, 3) := by decide +kernel
theorem k7_63 : pm_look (pm_kl 7) 63 = some (.iadd, 1) := by decide +kernel
theorem k7_64 : pm_look (pm_kl 7) 64 = some (.ireturn, 1) := by decide +kernel
theorem k7_65 : pm_look (pm_kl 7) 65 = some (.aload_n 0, 1) := by decide +kernel
theorem k7_66 : pm_look (pm_kl 7) 66 = some (.iconst 0, 1) := by decide +kernel
theorem k7_67 : pm_look (pm_kl 7) 67 = some (.bipush 7, 2) := by decide +kernel
theorem k7_69 : pm_look (pm_kl 7) 69 = some (.iconst 3, 1) := by decide +kernel
theorem k7_70 : pm_look (pm_kl 7) 70 = some (.invokevirtual 107, 3) := by decide +kernel
theorem k7_73 : pm_look (pm_kl 7) 73 = some (.ireturn, 1) := by decide +kernel
theorem k7_74 : pm_look (pm_kl 7) 74 = some (.aload_n 0, 1) := by decide +kernel
theorem k7_75 : pm_look (pm_kl 7) 75 = some (.iconst 0, 1) := by decide +kernel
theorem k7_76 : pm_look (pm_kl 7) 76 = some (.sipush 999, 3) := by decide +kernel
theorem k7_79 : pm_look (pm_kl 7) 79 = some (.iconst 3, 1) := by decide +kernel
theorem k7_80 : pm_look (pm_kl 7) 80 = some (.invokevirtual 107, 3) := by decide +kernel
theorem k7_83 : pm_look (pm_kl 7) 83 = some (.ireturn, 1) := by decide +kernel
theorem k7_84 : pm_look (pm_kl 7) 84 = some (.aload_n 0, 1) := by decide +kernel
theorem k7_85 : pm_look (pm_kl 7) 85 = some (.iconst 0, 1) := by decide +kernel
theorem k7_86 : pm_look (pm_kl 7) 86 = some (.bipush 9, 2) := by decide +kernel
theorem k7_88 : pm_look (pm_kl 7) 88 = some (.iconst 3, 1) := by decide +kernel
theorem k7_89 : pm_look (pm_kl 7) 89 = some (.invokevirtual 107, 3) := by decide +kernel
theorem k7_92 : pm_look (pm_kl 7) 92 = some (.ireturn, 1) := by decide +kernel
theorem k7_93 : pm_look (pm_kl 7) 93 = some (.iconst (-1), 1) := by decide +kernel
theorem k7_94 : pm_look (pm_kl 7) 94 = some (.ireturn, 1) := by decide +kernel
theorem k8_0 : pm_look (pm_kl 8) 0 = some (.iconst 0, 1) := by decide +kernel
theorem k8_1 : pm_look (pm_kl 8) 1 = some (.istore_n 2, 1) := by decide +kernel
theorem k8_2 : pm_look (pm_kl 8) 2 = some (.iload_n 2, 1) := by decide +kernel
theorem k8_3 : pm_look (pm_kl 8) 3 = some (.iconst 5, 1) := by decide +kernel
theorem k8_4 : pm_look (pm_kl 8) 4 = some (.if_icmp .gt 43, 3) := by decide +kernel
theorem k8_7 : pm_look (pm_kl 8) 7 = some (.aload_n 1, 1) := by decide +kernel
theorem k8_8 : pm_look (pm_kl 8) 8 = some (.getfield 53, 3) := by decide +kernel
theorem k8_11 : pm_look (pm_kl 8) 11 = some (.ifCond .ne 36, 3) := by decide +kernel
theorem k8_14 : pm_look (pm_kl 8) 14 = some (.aload_n 1, 1) := by decide +kernel
theorem k8_15 : pm_look (pm_kl 8) 15 = some (.bipush 41, 2) := by decide +kernel
theorem k8_17 : pm_look (pm_kl 8) 17 = some (.invokevirtual 60, 3) := by decide +kernel
theorem k8_20 : pm_look (pm_kl 8) 20 = some (.ifCond .eq 27, 3) := by decide +kernel
theorem k8_23 : pm_look (pm_kl 8) 23 = some (.aload_n 0, 1) := by decide +kernel
theorem k8_24 : pm_look (pm_kl 8) 24 = some (.getfield 39, 3) := by decide +kernel
theorem k8_27 : pm_look (pm_kl 8) 27 = some (.ifCond .ne 6, 3) := by decide +kernel
theorem k8_30 : pm_look (pm_kl 8) 30 = some (.goto 17, 3) := by decide +kernel
theorem k8_33 : pm_look (pm_kl 8) 33 = some (.aload_n 0, 1) := by decide +kernel
theorem k8_34 : pm_look (pm_kl 8) 34 = some (.invokevirtual 111, 3) := by decide +kernel
theorem k8_37 : pm_look (pm_kl 8) 37 = some (.aload_n 1, 1) := by decide +kernel
theorem k8_38 : pm_look (pm_kl 8) 38 = some (.invokevirtual 76, 3) := by decide +kernel
theorem k8_41 : pm_look (pm_kl 8) 41 = some (.iinc 2 1, 3) := by decide +kernel
theorem k8_44 : pm_look (pm_kl 8) 44 = some (.goto (-42), 3) := by decide +kernel
theorem k8_47 : pm_look (pm_kl 8) 47 = some (.aload_n 1, 1) := by decide +kernel
theorem k8_48 : pm_look (pm_kl 8) 48 = some (.getfield 53, 3) := by decide +kernel
theorem k8_51 : pm_look (pm_kl 8) 51 = some (.ifCond .eq 5, 3) := by decide +kernel
theorem k8_54 : pm_look (pm_kl 8) 54 = some (.iconst 0, 1) := by decide +kernel
theorem k8_55 : pm_look (pm_kl 8) 55 = some (.ireturn, 1) := by decide +kernel
theorem k8_56 : pm_look (pm_kl 8) 56 = some (.aload_n 1, 1) := by decide +kernel
theorem k8_57 : pm_look (pm_kl 8) 57 = some (.getfield 114, 3) := by decide +kernel
theorem k8_60 : pm_look (pm_kl 8) 60 = some (.ifCond .ne 12, 3) := by decide +kernel
theorem k8_63 : pm_look (pm_kl 8) 63 = some (.aload_n 0, 1) := by decide +kernel
theorem k8_64 : pm_look (pm_kl 8) 64 = some (.getfield 39, 3) := by decide +kernel
theorem k8_67 : pm_look (pm_kl 8) 67 = some (.ifCond .ne 5, 3) := by decide +kernel
theorem k8_70 : pm_look (pm_kl 8) 70 = some (.iconst 0, 1) := by decide +kernel
theorem k8_71 : pm_look (pm_kl 8) 71 = some (.ireturn, 1) := by decide +kernel
theorem k8_72 : pm_look (pm_kl 8) 72 = some (.aload_n 1, 1) := by decide +kernel
theorem k8_73 : pm_look (pm_kl 8) 73 = some (.ldc 117, 2) := by decide +kernel
theorem k8_75 : pm_look (pm_kl 8) 75 = some (.invokevirtual 69, 3) := by decide +kernel
theorem k8_78 : pm_look (pm_kl 8) 78 = some (.ifCond .eq 12, 3) := by decide +kernel
theorem k8_81 : pm_look (pm_kl 8) 81 = some (.aload_n 0, 1) := by decide +kernel
theorem k8_82 : pm_look (pm_kl 8) 82 = some (.bipush 8, 2) := by decide +kernel
theorem k8_84 : pm_look (pm_kl 8) 84 = some (.invokevirtual 119, 3) := by decide +kernel
theorem k8_87 : pm_look (pm_kl 8) 87 = some (.goto 30, 3) := by decide +kernel
theorem k8_90 : pm_look (pm_kl 8) 90 = some (.aload_n 1, 1) := by decide +kernel
theorem k8_91 : pm_look (pm_kl 8) 91 = some (.ldc 122, 2) := by decide +kernel
theorem k8_93 : pm_look (pm_kl 8) 93 = some (.invokevirtual 69, 3) := by decide +kernel
theorem k8_96 : pm_look (pm_kl 8) 96 = some (.ifCond .eq 12, 3) := by decide +kernel
theorem k8_99 : pm_look (pm_kl 8) 99 = some (.aload_n 0, 1) := by decide +kernel
theorem k8_100 : pm_look (pm_kl 8) 100 = some (.bipush 7, 2) := by decide +kernel
theorem k8_102 : pm_look (pm_kl 8) 102 = some (.invokevirtual 119, 3) := by decide +kernel
theorem k8_105 : pm_look (pm_kl 8) 105 = some (.goto 12, 3) := by decide +kernel
theorem k8_108 : pm_look (pm_kl 8) 108 = some (.aload_n 1, 1) := by decide +kernel
theorem k8_109 : pm_look (pm_kl 8) 109 = some (.iconst 1, 1) := by decide +kernel
theorem k8_110 : pm_look (pm_kl 8) 110 = some (.aload_n 1, 1) := by decide +kernel
theorem k8_111 : pm_look (pm_kl 8) 111 = some (.getfield 79, 3) := by decide +kernel
theorem k8_114 : pm_look (pm_kl 8) 114 = some (.invokevirtual 82, 3) := by decide +kernel
theorem k8_117 : pm_look (pm_kl 8) 117 = some (.aload_n 1, 1) := by decide +kernel
theorem k8_118 : pm_look (pm_kl 8) 118 = some (.getfield 53, 3) := by decide +kernel
theorem k8_121 : pm_look (pm_kl 8) 121 = some (.ifCond .eq 5, 3) := by decide +kernel
theorem k8_124 : pm_look (pm_kl 8) 124 = some (.iconst 0, 1) := by decide +kernel
theorem k8_125 : pm_look (pm_kl 8) 125 = some (.ireturn, 1) := by decide +kernel
theorem k8_126 : pm_look (pm_kl 8) 126 = some (.aload_n 1, 1) := by decide +kernel
theorem k8_127 : pm_look (pm_kl 8) 127 = some (.invokevirtual 76, 3) := by decide +kernel
theorem k8_130 : pm_look (pm_kl 8) 130 = some (.iconst 1, 1) := by decide +kernel
theorem k8_131 : pm_look (pm_kl 8) 131 = some (.ireturn, 1) := by decide +kernel
theorem k9_0 : pm_look (pm_kl 9) 0 = some (.aload_n 0, 1) := by decide +kernel
theorem k9_1 : pm_look (pm_kl 9) 1 = some (.bipush 7, 2) := by decide +kernel
theorem k9_3 : pm_look (pm_kl 9) 3 = some (.invokevirtual 56, 3) := by decide +kernel
theorem k9_6 : pm_look (pm_kl 9) 6 = some (.aload_n 0, 1) := by decide +kernel
theorem k9_7 : pm_look (pm_kl 9) 7 = some (.getfield 36, 3) := by decide +kernel
theorem k9_10 : pm_look (pm_kl 9) 10 = some (.ifCond .le 13, 3) := by decide +kernel
theorem k9_13 : pm_look (pm_kl 9) 13 = some (.aload_n 0, 1) := by decide +kernel
theorem k9_14 : pm_look (pm_kl 9) 14 = some (.dup, 1) := by decide +kernel
theorem k9_15 : pm_look (pm_kl 9) 15 = some (.getfield 36, 3) := by decide +kernel
theorem k9_18 : pm_look (pm_kl 9) 18 = some (.iconst 1, 1) := by decide +kernel
theorem k9_19 : pm_look (pm_kl 9) 19 = some (.isub, 1) := by decide +kernel
theorem k9_20 : pm_look (pm_kl 9) 20 = some (.putfield 36, 3) := by decide +kernel
theorem k9_23 : pm_look (pm_kl 9) 23 = some (.aload_n 0, 1) := by decide +kernel
theorem k9_24 : pm_look (pm_kl 9) 24 = some (.dup, 1) := by decide +kernel
theorem k9_25 : pm_look (pm_kl 9) 25 = some (.getfield 39, 3) := by decide +kernel
theorem k9_28 : pm_look (pm_kl 9) 28 = some (.iconst 1, 1) := by decide +kernel
theorem k9_29 : pm_look (pm_kl 9) 29 = some (.isub, 1) := by decide +kernel
theorem k9_30 : pm_look (pm_kl 9) 30 = some (.putfield 39, 3) := by decide +kernel
theorem k9_33 : pm_look (pm_kl 9) 33 = some (.return_, 1) := by decide +kernel
theorem k10_0 : pm_look (pm_kl 10) 0 = some (.aload_n 0, 1) := by decide +kernel
theorem k10_1 : pm_look (pm_kl 10) 1 = some (.iload_n 1, 1) := by decide +kernel
theorem k10_2 : pm_look (pm_kl 10) 2 = some (.invokevirtual 56, 3) := by decide +kernel
theorem k10_5 : pm_look (pm_kl 10) 5 = some (.aload_n 0, 1) := by decide +kernel
theorem k10_6 : pm_look (pm_kl 10) 6 = some (.iload_n 1, 1) := by decide +kernel
theorem k10_7 : pm_look (pm_kl 10) 7 = some (.invokevirtual 73, 3) := by decide +kernel
theorem k10_10 : pm_look (pm_kl 10) 10 = some (.return_, 1) := by decide +kernel
theorem k11_0 : pm_look (pm_kl 11) 0 = some (.aload_n 0, 1) := by decide +kernel
theorem k11_1 : pm_look (pm_kl 11) 1 = some (.getfield 36, 3) := by decide +kernel
theorem k11_4 : pm_look (pm_kl 11) 4 = some (.aload_n 0, 1) := by decide +kernel
theorem k11_5 : pm_look (pm_kl 11) 5 = some (.getfield 24, 3) := by decide +kernel
theorem k11_8 : pm_look (pm_kl 11) 8 = some (.arraylength, 1) := by decide +kernel
theorem k11_9 : pm_look (pm_kl 11) 9 = some (.if_icmp .lt 4, 3) := by decide +kernel
theorem k11_12 : pm_look (pm_kl 11) 12 = some (.return_, 1) := by decide +kernel
theorem k11_13 : pm_look (pm_kl 11) 13 = some (.aload_n 0, 1) := by decide +kernel
theorem k11_14 : pm_look (pm_kl 11) 14 = some (.getfield 24, 3) := by decide +kernel
theorem k11_17 : pm_look (pm_kl 11) 17 = some (.aload_n 0, 1) := by decide +kernel
theorem k11_18 : pm_look (pm_kl 11) 18 = some (.getfield 36, 3) := by decide +kernel
theorem k11_21 : pm_look (pm_kl 11) 21 = some (.iload_n 1, 1) := by decide +kernel
theorem k11_22 : pm_look (pm_kl 11) 22 = some (.iastore, 1) := by decide +kernel
theorem k11_23 : pm_look (pm_kl 11) 23 = some (.aload_n 0, 1) := by decide +kernel
theorem k11_24 : pm_look (pm_kl 11) 24 = some (.dup, 1) := by decide +kernel
theorem k11_25 : pm_look (pm_kl 11) 25 = some (.getfield 36, 3) := by decide +kernel
theorem k11_28 : pm_look (pm_kl 11) 28 = some (.iconst 1, 1) := by decide +kernel
theorem k11_29 : pm_look (pm_kl 11) 29 = some (.iadd, 1) := by decide +kernel
theorem k11_30 : pm_look (pm_kl 11) 30 = some (.putfield 36, 3) := by decide +kernel
theorem k11_33 : pm_look (pm_kl 11) 33 = some (.return_, 1) := by decide +kernel
theorem k12_0 : pm_look (pm_kl 12) 0 = some (.aload_n 0, 1) := by decide +kernel
theorem k12_1 : pm_look (pm_kl 12) 1 = some (.getfield 36, 3) := by decide +kernel
theorem k12_4 : pm_look (pm_kl 12) 4 = some (.ifCond .le 48, 3) := by decide +kernel
theorem k12_7 : pm_look (pm_kl 12) 7 = some (.aload_n 0, 1) := by decide +kernel
theorem k12_8 : pm_look (pm_kl 12) 8 = some (.getfield 24, 3) := by decide +kernel
theorem k12_11 : pm_look (pm_kl 12) 11 = some (.aload_n 0, 1) := by decide +kernel
theorem k12_12 : pm_look (pm_kl 12) 12 = some (.getfield 36, 3) := by decide +kernel
theorem k12_15 : pm_look (pm_kl 12) 15 = some (.iconst 1, 1) := by decide +kernel
theorem k12_16 : pm_look (pm_kl 12) 16 = some (.isub, 1) := by decide +kernel
theorem k12_17 : pm_look (pm_kl 12) 17 = some (.iaload, 1) := by decide +kernel
theorem k12_18 : pm_look (pm_kl 12) 18 = some (.iload_n 1, 1) := by decide +kernel
theorem k12_19 : pm_look (pm_kl 12) 19 = some (.if_icmp .lt 33, 3) := by decide +kernel
theorem k12_22 : pm_look (pm_kl 12) 22 = some (.aload_n 0, 1) := by decide +kernel
theorem k12_23 : pm_look (pm_kl 12) 23 = some (.dup, 1) := by decide +kernel
theorem k12_24 : pm_look (pm_kl 12) 24 = some (.getfield 36, 3) := by decide +kernel
theorem k12_27 : pm_look (pm_kl 12) 27 = some (.iconst 1, 1) := by decide +kernel
theorem k12_28 : pm_look (pm_kl 12) 28 = some (.isub, 1) := by decide +kernel
theorem k12_29 : pm_look (pm_kl 12) 29 = some (.putfield 36, 3) := by decide +kernel
theorem k12_32 : pm_look (pm_kl 12) 32 = some (.aload_n 0, 1) := by decide +kernel
theorem k12_33 : pm_look (pm_kl 12) 33 = some (.aload_n 0, 1) := by decide +kernel
theorem k12_34 : pm_look (pm_kl 12) 34 = some (.getfield 24, 3) := by decide +kernel
theorem k12_37 : pm_look (pm_kl 12) 37 = some (.aload_n 0, 1) := by decide +kernel
theorem k12_38 : pm_look (pm_kl 12) 38 = some (.getfield 36, 3) := by decide +kernel
theorem k12_41 : pm_look (pm_kl 12) 41 = some (.iaload, 1) := by decide +kernel
theorem k12_42 : pm_look (pm_kl 12) 42 = some (.sipush 1000, 3) := by decide +kernel
theorem k12_45 : pm_look (pm_kl 12) 45 = some (.imul, 1) := by decide +kernel
theorem k12_46 : pm_look (pm_kl 12) 46 = some (.invokevirtual 94, 3) := by decide +kernel
theorem k12_49 : pm_look (pm_kl 12) 49 = some (.goto (-49), 3) := by decide +kernel
theorem k12_52 : pm_look (pm_kl 12) 52 = some (.return_, 1) := by decide +kernel
theorem k13_0 : pm_look (pm_kl 13) 0 = some (.aload_n 0, 1) := by decide +kernel
theorem k13_1 : pm_look (pm_kl 13) 1 = some (.getfield 27, 3) := by decide +kernel
theorem k13_4 : pm_look (pm_kl 13) 4 = some (.bipush 8, 2) := by decide +kernel
theorem k13_6 : pm_look (pm_kl 13) 6 = some (.if_icmp .ge 17, 3) := by decide +kernel
theorem k13_9 : pm_look (pm_kl 13) 9 = some (.aload_n 0, 1) := by decide +kernel
theorem k13_10 : pm_look (pm_kl 13) 10 = some (.getfield 11, 3) := by decide +kernel
theorem k13_13 : pm_look (pm_kl 13) 13 = some (.aload_n 0, 1) := by decide +kernel
theorem k13_14 : pm_look (pm_kl 13) 14 = some (.getfield 27, 3) := by decide +kernel
theorem k13_17 : pm_look (pm_kl 13) 17 = some (.iaload, 1) := by decide +kernel
theorem k13_18 : pm_look (pm_kl 13) 18 = some (.bipush 100, 2) := by decide +kernel
theorem k13_20 : pm_look (pm_kl 13) 20 = some (.if_icmp .lt 4, 3) := by decide +kernel
theorem k13_23 : pm_look (pm_kl 13) 23 = some (.return_, 1) := by decide +kernel
theorem k13_24 : pm_look (pm_kl 13) 24 = some (.aload_n 0, 1) := by decide +kernel
theorem k13_25 : pm_look (pm_kl 13) 25 = some (.getfield 17, 3) := by decide +kernel
theorem k13_28 : pm_look (pm_kl 13) 28 = some (.aload_n 0, 1) := by decide +kernel
theorem k13_29 : pm_look (pm_kl 13) 29 = some (.getfield 27, 3) := by decide +kernel
theorem k13_32 : pm_look (pm_kl 13) 32 = some (.aaload, 1) := by decide +kernel
theorem k13_33 : pm_look (pm_kl 13) 33 = some (.aload_n 0, 1) := by decide +kernel
theorem k13_34 : pm_look (pm_kl 13) 34 = some (.getfield 11, 3) := by decide +kernel
theorem k13_37 : pm_look (pm_kl 13) 37 = some (.aload_n 0, 1) := by decide +kernel
theorem k13_38 : pm_look (pm_kl 13) 38 = some (.getfield 27, 3) := by decide +kernel
theorem k13_41 : pm_look (pm_kl 13) 41 = some (.iaload, 1) := by decide +kernel
theorem k13_42 : pm_look (pm_kl 13) 42 = some (.iload_n 1, 1) := by decide +kernel
theorem k13_43 : pm_look (pm_kl 13) 43 = some (.iastore, 1) := by decide +kernel
theorem k13_44 : pm_look (pm_kl 13) 44 = some (.aload_n 0, 1) := by decide +kernel
theorem k13_45 : pm_look (pm_kl 13) 45 = some (.getfield 11, 3) := by decide +kernel
theorem k13_48 : pm_look (pm_kl 13) 48 = some (.aload_n 0, 1) := by decide +kernel
theorem k13_49 : pm_look (pm_kl 13) 49 = some (.getfield 27, 3) := by decide +kernel
theorem k13_52 : pm_look (pm_kl 13) 52 = some (.dup2, 1) := by decide +kernel
theorem k13_53 : pm_look (pm_kl 13) 53 = some (.iaload, 1) := by decide +kernel
theorem k13_54 : pm_look (pm_kl 13) 54 = some (.iconst 1, 1) := by decide +kernel
theorem k13_55 : pm_look (pm_kl 13) 55 = some (.iadd, 1) := by decide +kernel
theorem k13_56 : pm_look (pm_kl 13) 56 = some (.iastore, 1) := by decide +kernel
theorem k13_57 : pm_look (pm_kl 13) 57 = some (.return_, 1) := by decide +kernel
theorem k14_0 : pm_look (pm_kl 14) 0 = some (.aload_n 0, 1) := by decide +kernel
theorem k14_1 : pm_look (pm_kl 14) 1 = some (.invokespecial 3, 3) := by decide +kernel
theorem k14_4 : pm_look (pm_kl 14) 4 = some (.aload_n 0, 1) := by decide +kernel
theorem k14_5 : pm_look (pm_kl 14) 5 = some (.bipush 6, 2) := by decide +kernel
theorem k14_7 : pm_look (pm_kl 14) 7 = some (.newarray .int, 2) := by decide +kernel
theorem k14_9 : pm_look (pm_kl 14) 9 = some (.putfield 9, 3) := by decide +kernel
theorem k14_12 : pm_look (pm_kl 14) 12 = some (.aload_n 0, 1) := by decide +kernel
theorem k14_13 : pm_look (pm_kl 14) 13 = some (.bipush 6, 2) := by decide +kernel
theorem k14_15 : pm_look (pm_kl 14) 15 = some (.newarray .long, 2) := by decide +kernel
theorem k14_17 : pm_look (pm_kl 14) 17 = some (.putfield 15, 3) := by decide +kernel
theorem k14_20 : pm_look (pm_kl 14) 20 = some (.aload_n 0, 1) := by decide +kernel
theorem k14_21 : pm_look (pm_kl 14) 21 = some (.bipush 6, 2) := by decide +kernel
theorem k14_23 : pm_look (pm_kl 14) 23 = some (.newarray .int, 2) := by decide +kernel
theorem k14_25 : pm_look (pm_kl 14) 25 = some (.putfield 19, 3) := by decide +kernel
theorem k14_28 : pm_look (pm_kl 14) 28 = some (.aload_n 0, 1) := by decide +kernel
theorem k14_29 : pm_look (pm_kl 14) 29 = some (.bipush 40, 2) := by decide +kernel
theorem k14_31 : pm_look (pm_kl 14) 31 = some (.newarray .long, 2) := by decide +kernel
theorem k14_33 : pm_look (pm_kl 14) 33 = some (.putfield 22, 3) := by decide +kernel
theorem k14_36 : pm_look (pm_kl 14) 36 = some (.return_, 1) := by decide +kernel
theorem k15_0 : pm_look (pm_kl 15) 0 = some (.aload_n 0, 1) := by decide +kernel
theorem k15_1 : pm_look (pm_kl 15) 1 = some (.bipush 20, 2) := by decide +kernel
theorem k15_3 : pm_look (pm_kl 15) 3 = some (.putfield 27, 3) := by decide +kernel
theorem k15_6 : pm_look (pm_kl 15) 6 = some (.aload_n 0, 1) := by decide +kernel
theorem k15_7 : pm_look (pm_kl 15) 7 = some (.getfield 9, 3) := by decide +kernel
theorem k15_10 : pm_look (pm_kl 15) 10 = some (.iconst 0, 1) := by decide +kernel
theorem k15_11 : pm_look (pm_kl 15) 11 = some (.invokestatic 31, 3) := by decide +kernel
theorem k15_14 : pm_look (pm_kl 15) 14 = some (.aload_n 0, 1) := by decide +kernel
theorem k15_15 : pm_look (pm_kl 15) 15 = some (.getfield 15, 3) := by decide +kernel
theorem k15_18 : pm_look (pm_kl 15) 18 = some (.lconst 0, 1) := by decide +kernel
theorem k15_19 : pm_look (pm_kl 15) 19 = some (.invokestatic 37, 3) := by decide +kernel
theorem k15_22 : pm_look (pm_kl 15) 22 = some (.aload_n 0, 1) := by decide +kernel
theorem k15_23 : pm_look (pm_kl 15) 23 = some (.getfield 19, 3) := by decide +kernel
theorem k15_26 : pm_look (pm_kl 15) 26 = some (.iconst 0, 1) := by decide +kernel
theorem k15_27 : pm_look (pm_kl 15) 27 = some (.invokestatic 31, 3) := by decide +kernel
theorem k15_30 : pm_look (pm_kl 15) 30 = some (.aload_n 0, 1) := by decide +kernel
theorem k15_31 : pm_look (pm_kl 15) 31 = some (.getfield 22, 3) := by decide +kernel
theorem k15_34 : pm_look (pm_kl 15) 34 = some (.lconst 0, 1) := by decide +kernel
theorem k15_35 : pm_look (pm_kl 15) 35 = some (.invokestatic 37, 3) := by decide +kernel
theorem k15_38 : pm_look (pm_kl 15) 38 = some (.aload_n 0, 1) := by decide +kernel
theorem k15_39 : pm_look (pm_kl 15) 39 = some (.iconst 0, 1) := by decide +kernel
theorem k15_40 : pm_look (pm_kl 15) 40 = some (.putfield 40, 3) := by decide +kernel
theorem k15_43 : pm_look (pm_kl 15) 43 = some (.aload_n 0, 1) := by decide +kernel
theorem k15_44 : pm_look (pm_kl 15) 44 = some (.iconst 0, 1) := by decide +kernel
theorem k15_45 : pm_look (pm_kl 15) 45 = some (.putfield 43, 3) := by decide +kernel
theorem k15_48 : pm_look (pm_kl 15) 48 = some (.aload_n 0, 1) := by decide +kernel
theorem k15_49 : pm_look (pm_kl 15) 49 = some (.iconst 0, 1) := by decide +kernel
theorem k15_50 : pm_look (pm_kl 15) 50 = some (.putfield 46, 3) := by decide +kernel
theorem k15_53 : pm_look (pm_kl 15) 53 = some (.return_, 1) := by decide +kernel
theorem k16_0 : pm_look (pm_kl 16) 0 = some (.aload_n 0, 1) := by decide +kernel
theorem k16_1 : pm_look (pm_kl 16) 1 = some (.invokevirtual 49, 3) := by decide +kernel
theorem k16_4 : pm_look (pm_kl 16) 4 = some (.aload_n 1, 1) := by decide +kernel
theorem k16_5 : pm_look (pm_kl 16) 5 = some (.iload_n 2, 1) := by decide +kernel
theorem k16_6 : pm_look (pm_kl 16) 6 = some (.invokevirtual 52, 3) := by decide +kernel
theorem k16_9 : pm_look (pm_kl 16) 9 = some (.istore_n 3, 1) := by decide +kernel
theorem k16_10 : pm_look (pm_kl 16) 10 = some (.iconst 0, 1) := by decide +kernel
theorem k16_11 : pm_look (pm_kl 16) 11 = some (.istore 4, 2) := by decide +kernel
theorem k16_13 : pm_look (pm_kl 16) 13 = some (.iload 4, 2) := by decide +kernel
theorem k16_15 : pm_look (pm_kl 16) 15 = some (.iload_n 2, 1) := by decide +kernel
theorem k16_16 : pm_look (pm_kl 16) 16 = some (.if_icmp .gt 62, 3) := by decide +kernel
theorem k16_19 : pm_look (pm_kl 16) 19 = some (.iload 4, 2) := by decide +kernel
theorem k16_21 : pm_look (pm_kl 16) 21 = some (.bipush 10, 2) := by decide +kernel
theorem k16_23 : pm_look (pm_kl 16) 23 = some (.if_icmp .ge 55, 3) := by decide +kernel
theorem k16_26 : pm_look (pm_kl 16) 26 = some (.iconst 0, 1) := by decide +kernel
theorem k16_27 : pm_look (pm_kl 16) 27 = some (.istore 5, 2) := by decide +kernel
theorem k16_29 : pm_look (pm_kl 16) 29 = some (.iload 5, 2) := by decide +kernel
theorem k16_31 : pm_look (pm_kl 16) 31 = some (.aload_n 1, 1) := by decide +kernel
theorem k16_32 : pm_look (pm_kl 16) 32 = some (.getfield 56, 3) := by decide +kernel
theorem k16_35 : pm_look (pm_kl 16) 35 = some (.if_icmp .ge 37, 3) := by decide +kernel
theorem k16_38 : pm_look (pm_kl 16) 38 = some (.aload_n 1, 1) := by decide +kernel
theorem k16_39 : pm_look (pm_kl 16) 39 = some (.getfield 59, 3) := by decide +kernel
theorem k16_42 : pm_look (pm_kl 16) 42 = some (.iload 5, 2) := by decide +kernel
theorem k16_44 : pm_look (pm_kl 16) 44 = some (.iaload, 1) := by decide +kernel
theorem k16_45 : pm_look (pm_kl 16) 45 = some (.iload 4, 2) := by decide +kernel
theorem k16_47 : pm_look (pm_kl 16) 47 = some (.if_icmp .ne 19, 3) := by decide +kernel
theorem k16_50 : pm_look (pm_kl 16) 50 = some (.iload_n 3, 1) := by decide +kernel
theorem k16_51 : pm_look (pm_kl 16) 51 = some (.iload 5, 2) := by decide +kernel
theorem k16_53 : pm_look (pm_kl 16) 53 = some (.iushr, 1) := by decide +kernel
theorem k16_54 : pm_look (pm_kl 16) 54 = some (.iconst 1, 1) := by decide +kernel
theorem k16_55 : pm_look (pm_kl 16) 55 = some (.iand, 1) := by decide +kernel
theorem k16_56 : pm_look (pm_kl 16) 56 = some (.ifCond .eq 10, 3) := by decide +kernel
theorem k16_59 : pm_look (pm_kl 16) 59 = some (.aload_n 0, 1) := by decide +kernel
theorem k16_60 : pm_look (pm_kl 16) 60 = some (.aload_n 1, 1) := by decide +kernel
theorem k16_61 : pm_look (pm_kl 16) 61 = some (.iload 5, 2) := by decide +kernel
theorem k16_63 : pm_look (pm_kl 16) 63 = some (.invokevirtual 62, 3) := by decide +kernel
theorem k16_66 : pm_look (pm_kl 16) 66 = some (.iinc 5 1, 3) := by decide +kernel
theorem k16_69 : pm_look (pm_kl 16) 69 = some (.goto (-40), 3) := by decide +kernel
theorem k16_72 : pm_look (pm_kl 16) 72 = some (.iinc 4 1, 3) := by decide +kernel
theorem k16_75 : pm_look (pm_kl 16) 75 = some (.goto (-62), 3) := by decide +kernel
theorem k16_78 : pm_look (pm_kl 16) 78 = some (.return_, 1) := by decide +kernel
theorem k17_0 : pm_look (pm_kl 17) 0 = some (.iconst 0, 1) := by decide +kernel
theorem k17_1 : pm_look (pm_kl 17) 1 = some (.istore_n 3, 1) := by decide +kernel
theorem k17_2 : pm_look (pm_kl 17) 2 = some (.iload_n 3, 1) := by decide +kernel
theorem k17_3 : pm_look (pm_kl 17) 3 = some (.aload_n 1, 1) := by decide +kernel
theorem k17_4 : pm_look (pm_kl 17) 4 = some (.getfield 66, 3) := by decide +kernel
theorem k17_7 : pm_look (pm_kl 17) 7 = some (.iload_n 2, 1) := by decide +kernel
theorem k17_8 : pm_look (pm_kl 17) 8 = some (.iaload, 1) := by decide +kernel
theorem k17_9 : pm_look (pm_kl 17) 9 = some (.if_icmp .ge 37, 3) := by decide +kernel
theorem k17_12 : pm_look (pm_kl 17) 12 = some (.aload_n 0, 1) := by decide +kernel
theorem k17_13 : pm_look (pm_kl 17) 13 = some (.aload_n 1, 1) := by decide +kernel
theorem k17_14 : pm_look (pm_kl 17) 14 = some (.getfield 69, 3) := by decide +kernel
theorem k17_17 : pm_look (pm_kl 17) 17 = some (.iload_n 2, 1) := by decide +kernel
theorem k17_18 : pm_look (pm_kl 17) 18 = some (.aaload, 1) := by decide +kernel
theorem k17_19 : pm_look (pm_kl 17) 19 = some (.iload_n 3, 1) := by decide +kernel
theorem k17_20 : pm_look (pm_kl 17) 20 = some (.iaload, 1) := by decide +kernel
theorem k17_21 : pm_look (pm_kl 17) 21 = some (.aload_n 1, 1) := by decide +kernel
theorem k17_22 : pm_look (pm_kl 17) 22 = some (.getfield 73, 3) := by decide +kernel
theorem k17_25 : pm_look (pm_kl 17) 25 = some (.iload_n 2, 1) := by decide +kernel
theorem k17_26 : pm_look (pm_kl 17) 26 = some (.aaload, 1) := by decide +kernel
theorem k17_27 : pm_look (pm_kl 17) 27 = some (.iload_n 3, 1) := by decide +kernel
theorem k17_28 : pm_look (pm_kl 17) 28 = some (.iaload, 1) := by decide +kernel
theorem k17_29 : pm_look (pm_kl 17) 29 = some (.aload_n 1, 1) := by decide +kernel
theorem k17_30 : pm_look (pm_kl 17) 30 = some (.getfield 76, 3) := by decide +kernel
theorem k17_33 : pm_look (pm_kl 17) 33 = some (.iload_n 2, 1) := by decide +kernel
theorem k17_34 : pm_look (pm_kl 17) 34 = some (.aaload, 1) := by decide +kernel
theorem k17_35 : pm_look (pm_kl 17) 35 = some (.iload_n 3, 1) := by decide +kernel
theorem k17_36 : pm_look (pm_kl 17) 36 = some (.iaload, 1) := by decide +kernel
theorem k17_37 : pm_look (pm_kl 17) 37 = some (.invokevirtual 79, 3) := by decide +kernel
theorem k17_40 : pm_look (pm_kl 17) 40 = some (.iinc 3 1, 3) := by decide +kernel
theorem k17_43 : pm_look (pm_kl 17) 43 = some (.goto (-41), 3) := by decide +kernel
theorem k17_46 : pm_look (pm_kl 17) 46 = some (.return_, 1) := by decide +kernel
theorem k18_0 : pm_look (pm_kl 18) 0 = some (.iload_n 1, 1) := by decide +kernel
theorem k18_1 : pm_look (pm_kl 18) 1 = some (.tableswitch 133 1 5 #[35, 45, 70, 100, 125], 35) := by decide +kernel
theorem k18_36 : pm_look (pm_kl 18) 36 = some (.aload_n 0, 1) := by decide +kernel
theorem k18_37 : pm_look (pm_kl 18) 37 = some (.getfield 9, 3) := by decide +kernel
theorem k18_40 : pm_look (pm_kl 18) 40 = some (.iload_n 2, 1) := by decide +kernel
theorem k18_41 : pm_look (pm_kl 18) 41 = some (.iload_n 3, 1) := by decide +kernel
theorem k18_42 : pm_look (pm_kl 18) 42 = some (.iastore, 1) := by decide +kernel
theorem k18_43 : pm_look (pm_kl 18) 43 = some (.goto 91, 3) := by decide +kernel
theorem k18_46 : pm_look (pm_kl 18) 46 = some (.aload_n 0, 1) := by decide +kernel
theorem k18_47 : pm_look (pm_kl 18) 47 = some (.getfield 15, 3) := by decide +kernel
theorem k18_50 : pm_look (pm_kl 18) 50 = some (.iload_n 2, 1) := by decide +kernel
theorem k18_51 : pm_look (pm_kl 18) 51 = some (.dup2, 1) := by decide +kernel
theorem k18_52 : pm_look (pm_kl 18) 52 = some (.laload, 1) := by decide +kernel
theorem k18_53 : pm_look (pm_kl 18) 53 = some (.lconst 1, 1) := by decide +kernel
theorem k18_54 : pm_look (pm_kl 18) 54 = some (.iload_n 3, 1) := by decide +kernel
theorem k18_55 : pm_look (pm_kl 18) 55 = some (.lshl, 1) := by decide +kernel
theorem k18_56 : pm_look (pm_kl 18) 56 = some (.lor, 1) := by decide +kernel
theorem k18_57 : pm_look (pm_kl 18) 57 = some (.lastore, 1) := by decide +kernel
theorem k18_58 : pm_look (pm_kl 18) 58 = some (.aload_n 0, 1) := by decide +kernel
theorem k18_59 : pm_look (pm_kl 18) 59 = some (.dup, 1) := by decide +kernel
theorem k18_60 : pm_look (pm_kl 18) 60 = some (.getfield 40, 3) := by decide +kernel
theorem k18_63 : pm_look (pm_kl 18) 63 = some (.iconst 1, 1) := by decide +kernel
theorem k18_64 : pm_look (pm_kl 18) 64 = some (.iadd, 1) := by decide +kernel
theorem k18_65 : pm_look (pm_kl 18) 65 = some (.putfield 40, 3) := by decide +kernel
theorem k18_68 : pm_look (pm_kl 18) 68 = some (.goto 66, 3) := by decide +kernel
theorem k18_71 : pm_look (pm_kl 18) 71 = some (.iload_n 2, 1) := by decide +kernel
theorem k18_72 : pm_look (pm_kl 18) 72 = some (.iload_n 3, 1) := by decide +kernel
theorem k18_73 : pm_look (pm_kl 18) 73 = some (.if_icmp .eq 15, 3) := by decide +kernel
theorem k18_76 : pm_look (pm_kl 18) 76 = some (.aload_n 0, 1) := by decide +kernel
theorem k18_77 : pm_look (pm_kl 18) 77 = some (.getfield 19, 3) := by decide +kernel
theorem k18_80 : pm_look (pm_kl 18) 80 = some (.iload_n 2, 1) := by decide +kernel
theorem k18_81 : pm_look (pm_kl 18) 81 = some (.dup2, 1) := by decide +kernel
theorem k18_82 : pm_look (pm_kl 18) 82 = some (.iaload, 1) := by decide +kernel
theorem k18_83 : pm_look (pm_kl 18) 83 = some (.iconst 1, 1) := by decide +kernel
theorem k18_84 : pm_look (pm_kl 18) 84 = some (.iload_n 3, 1) := by decide +kernel
theorem k18_85 : pm_look (pm_kl 18) 85 = some (.ishl, 1) := by decide +kernel
theorem k18_86 : pm_look (pm_kl 18) 86 = some (.ior, 1) := by decide +kernel
theorem k18_87 : pm_look (pm_kl 18) 87 = some (.iastore, 1) := by decide +kernel
theorem k18_88 : pm_look (pm_kl 18) 88 = some (.aload_n 0, 1) := by decide +kernel
theorem k18_89 : pm_look (pm_kl 18) 89 = some (.dup, 1) := by decide +kernel
theorem k18_90 : pm_look (pm_kl 18) 90 = some (.getfield 43, 3) := by decide +kernel
theorem k18_93 : pm_look (pm_kl 18) 93 = some (.iconst 1, 1) := by decide +kernel
theorem k18_94 : pm_look (pm_kl 18) 94 = some (.iadd, 1) := by decide +kernel
theorem k18_95 : pm_look (pm_kl 18) 95 = some (.putfield 43, 3) := by decide +kernel
theorem k18_98 : pm_look (pm_kl 18) 98 = some (.goto 36, 3) := by decide +kernel
theorem k18_101 : pm_look (pm_kl 18) 101 = some (.aload_n 0, 1) := by decide +kernel
theorem k18_102 : pm_look (pm_kl 18) 102 = some (.getfield 22, 3) := by decide +kernel
theorem k18_105 : pm_look (pm_kl 18) 105 = some (.iload_n 2, 1) := by decide +kernel
theorem k18_106 : pm_look (pm_kl 18) 106 = some (.dup2, 1) := by decide +kernel
theorem k18_107 : pm_look (pm_kl 18) 107 = some (.laload, 1) := by decide +kernel
theorem k18_108 : pm_look (pm_kl 18) 108 = some (.lconst 1, 1) := by decide +kernel
theorem k18_109 : pm_look (pm_kl 18) 109 = some (.iload_n 3, 1) := by decide +kernel
theorem k18_110 : pm_look (pm_kl 18) 110 = some (.lshl, 1) := by decide +kernel
theorem k18_111 : pm_look (pm_kl 18) 111 = some (.lor, 1) := by decide +kernel
theorem k18_112 : pm_look (pm_kl 18) 112 = some (.lastore, 1) := by decide +kernel
theorem k18_113 : pm_look (pm_kl 18) 113 = some (.aload_n 0, 1) := by decide +kernel
theorem k18_114 : pm_look (pm_kl 18) 114 = some (.dup, 1) := by decide +kernel
theorem k18_115 : pm_look (pm_kl 18) 115 = some (.getfield 46, 3) := by decide +kernel
theorem k18_118 : pm_look (pm_kl 18) 118 = some (.iconst 1, 1) := by decide +kernel
theorem k18_119 : pm_look (pm_kl 18) 119 = some (.iadd, 1) := by decide +kernel
theorem k18_120 : pm_look (pm_kl 18) 120 = some (.putfield 46, 3) := by decide +kernel
theorem k18_123 : pm_look (pm_kl 18) 123 = some (.goto 11, 3) := by decide +kernel
theorem k18_126 : pm_look (pm_kl 18) 126 = some (.aload_n 0, 1) := by decide +kernel
theorem k18_127 : pm_look (pm_kl 18) 127 = some (.iload_n 2, 1) := by decide +kernel
theorem k18_128 : pm_look (pm_kl 18) 128 = some (.putfield 27, 3) := by decide +kernel
theorem k18_131 : pm_look (pm_kl 18) 131 = some (.goto 3, 3) := by decide +kernel
theorem k18_134 : pm_look (pm_kl 18) 134 = some (.return_, 1) := by decide +kernel
theorem k19_0 : pm_look (pm_kl 19) 0 = some (.iload_n 0, 1) := by decide +kernel
theorem k19_1 : pm_look (pm_kl 19) 1 = some (.iload_n 1, 1) := by decide +kernel
theorem k19_2 : pm_look (pm_kl 19) 2 = some (.iushr, 1) := by decide +kernel
theorem k19_3 : pm_look (pm_kl 19) 3 = some (.iconst 1, 1) := by decide +kernel
theorem k19_4 : pm_look (pm_kl 19) 4 = some (.iand, 1) := by decide +kernel
theorem k19_5 : pm_look (pm_kl 19) 5 = some (.ifCond .eq 7, 3) := by decide +kernel
theorem k19_8 : pm_look (pm_kl 19) 8 = some (.iconst 1, 1) := by decide +kernel
theorem k19_9 : pm_look (pm_kl 19) 9 = some (.goto 4, 3) := by decide +kernel
theorem k19_12 : pm_look (pm_kl 19) 12 = some (.iconst 0, 1) := by decide +kernel
theorem k19_13 : pm_look (pm_kl 19) 13 = some (.ireturn, 1) := by decide +kernel
theorem k20_0 : pm_look (pm_kl 20) 0 = some (.iconst 0, 1) := by decide +kernel
theorem k20_1 : pm_look (pm_kl 20) 1 = some (.istore 4, 2) := by decide +kernel
theorem k20_3 : pm_look (pm_kl 20) 3 = some (.iload 4, 2) := by decide +kernel
theorem k20_5 : pm_look (pm_kl 20) 5 = some (.bipush 6, 2) := by decide +kernel
theorem k20_7 : pm_look (pm_kl 20) 7 = some (.if_icmp .ge 46, 3) := by decide +kernel
theorem k20_10 : pm_look (pm_kl 20) 10 = some (.iload_n 1, 1) := by decide +kernel
theorem k20_11 : pm_look (pm_kl 20) 11 = some (.iload 4, 2) := by decide +kernel
theorem k20_13 : pm_look (pm_kl 20) 13 = some (.invokestatic 83, 3) := by decide +kernel
theorem k20_16 : pm_look (pm_kl 20) 16 = some (.ifCond .eq 31, 3) := by decide +kernel
theorem k20_19 : pm_look (pm_kl 20) 19 = some (.aload_n 0, 1) := by decide +kernel
theorem k20_20 : pm_look (pm_kl 20) 20 = some (.getfield 15, 3) := by decide +kernel
theorem k20_23 : pm_look (pm_kl 20) 23 = some (.iload 4, 2) := by decide +kernel
theorem k20_25 : pm_look (pm_kl 20) 25 = some (.laload, 1) := by decide +kernel
theorem k20_26 : pm_look (pm_kl 20) 26 = some (.lconst 0, 1) := by decide +kernel
theorem k20_27 : pm_look (pm_kl 20) 27 = some (.lcmp, 1) := by decide +kernel
theorem k20_28 : pm_look (pm_kl 20) 28 = some (.ifCond .eq 19, 3) := by decide +kernel
theorem k20_31 : pm_look (pm_kl 20) 31 = some (.aload_n 0, 1) := by decide +kernel
theorem k20_32 : pm_look (pm_kl 20) 32 = some (.getfield 15, 3) := by decide +kernel
theorem k20_35 : pm_look (pm_kl 20) 35 = some (.iload 4, 2) := by decide +kernel
theorem k20_37 : pm_look (pm_kl 20) 37 = some (.laload, 1) := by decide +kernel
theorem k20_38 : pm_look (pm_kl 20) 38 = some (.lload_n 2, 1) := by decide +kernel
theorem k20_39 : pm_look (pm_kl 20) 39 = some (.land, 1) := by decide +kernel
theorem k20_40 : pm_look (pm_kl 20) 40 = some (.lconst 0, 1) := by decide +kernel
theorem k20_41 : pm_look (pm_kl 20) 41 = some (.lcmp, 1) := by decide +kernel
theorem k20_42 : pm_look (pm_kl 20) 42 = some (.ifCond .ne 5, 3) := by decide +kernel
theorem k20_45 : pm_look (pm_kl 20) 45 = some (.iconst 1, 1) := by decide +kernel
theorem k20_46 : pm_look (pm_kl 20) 46 = some (.ireturn, 1) := by decide +kernel
theorem k20_47 : pm_look (pm_kl 20) 47 = some (.iinc 4 1, 3) := by decide +kernel
theorem k20_50 : pm_look (pm_kl 20) 50 = some (.goto (-47), 3) := by decide +kernel
theorem k20_53 : pm_look (pm_kl 20) 53 = some (.iconst 0, 1) := by decide +kernel
theorem k20_54 : pm_look (pm_kl 20) 54 = some (.ireturn, 1) := by decide +kernel
theorem k21_0 : pm_look (pm_kl 21) 0 = some (.iconst 0, 1) := by decide +kernel
theorem k21_1 : pm_look (pm_kl 21) 1 = some (.istore_n 2, 1) := by decide +kernel
theorem k21_2 : pm_look (pm_kl 21) 2 = some (.iload_n 2, 1) := by decide +kernel
theorem k21_3 : pm_look (pm_kl 21) 3 = some (.bipush 6, 2) := by decide +kernel
theorem k21_5 : pm_look (pm_kl 21) 5 = some (.if_icmp .ge 30, 3) := by decide +kernel
theorem k21_8 : pm_look (pm_kl 21) 8 = some (.iload_n 1, 1) := by decide +kernel
theorem k21_9 : pm_look (pm_kl 21) 9 = some (.iload_n 2, 1) := by decide +kernel
theorem k21_10 : pm_look (pm_kl 21) 10 = some (.invokestatic 83, 3) := by decide +kernel
theorem k21_13 : pm_look (pm_kl 21) 13 = some (.ifCond .eq 16, 3) := by decide +kernel
theorem k21_16 : pm_look (pm_kl 21) 16 = some (.aload_n 0, 1) := by decide +kernel
theorem k21_17 : pm_look (pm_kl 21) 17 = some (.getfield 19, 3) := by decide +kernel
theorem k21_20 : pm_look (pm_kl 21) 20 = some (.iload_n 2, 1) := by decide +kernel
theorem k21_21 : pm_look (pm_kl 21) 21 = some (.iaload, 1) := by decide +kernel
theorem k21_22 : pm_look (pm_kl 21) 22 = some (.iload_n 1, 1) := by decide +kernel
theorem k21_23 : pm_look (pm_kl 21) 23 = some (.iand, 1) := by decide +kernel
theorem k21_24 : pm_look (pm_kl 21) 24 = some (.ifCond .eq 5, 3) := by decide +kernel
theorem k21_27 : pm_look (pm_kl 21) 27 = some (.iconst 1, 1) := by decide +kernel
theorem k21_28 : pm_look (pm_kl 21) 28 = some (.ireturn, 1) := by decide +kernel
theorem k21_29 : pm_look (pm_kl 21) 29 = some (.iinc 2 1, 3) := by decide +kernel
theorem k21_32 : pm_look (pm_kl 21) 32 = some (.goto (-30), 3) := by decide +kernel
theorem k21_35 : pm_look (pm_kl 21) 35 = some (.iconst 0, 1) := by decide +kernel
theorem k21_36 : pm_look (pm_kl 21) 36 = some (.ireturn, 1) := by decide +kernel
theorem k22_0 : pm_look (pm_kl 22) 0 = some (.iconst 0, 1) := by decide +kernel
theorem k22_1 : pm_look (pm_kl 22) 1 = some (.istore_n 3, 1) := by decide +kernel
theorem k22_2 : pm_look (pm_kl 22) 2 = some (.iconst 0, 1) := by decide +kernel
theorem k22_3 : pm_look (pm_kl 22) 3 = some (.istore 4, 2) := by decide +kernel
theorem k22_5 : pm_look (pm_kl 22) 5 = some (.iload 4, 2) := by decide +kernel
theorem k22_7 : pm_look (pm_kl 22) 7 = some (.bipush 6, 2) := by decide +kernel
theorem k22_9 : pm_look (pm_kl 22) 9 = some (.if_icmp .ge 32, 3) := by decide +kernel
theorem k22_12 : pm_look (pm_kl 22) 12 = some (.iload_n 1, 1) := by decide +kernel
theorem k22_13 : pm_look (pm_kl 22) 13 = some (.iload 4, 2) := by decide +kernel
theorem k22_15 : pm_look (pm_kl 22) 15 = some (.invokestatic 83, 3) := by decide +kernel
theorem k22_18 : pm_look (pm_kl 22) 18 = some (.ifCond .eq 17, 3) := by decide +kernel
theorem k22_21 : pm_look (pm_kl 22) 21 = some (.aload_n 0, 1) := by decide +kernel
theorem k22_22 : pm_look (pm_kl 22) 22 = some (.getfield 9, 3) := by decide +kernel
theorem k22_25 : pm_look (pm_kl 22) 25 = some (.iload 4, 2) := by decide +kernel
theorem k22_27 : pm_look (pm_kl 22) 27 = some (.iaload, 1) := by decide +kernel
theorem k22_28 : pm_look (pm_kl 22) 28 = some (.iload_n 2, 1) := by decide +kernel
theorem k22_29 : pm_look (pm_kl 22) 29 = some (.if_icmp .ne 6, 3) := by decide +kernel
theorem k22_32 : pm_look (pm_kl 22) 32 = some (.iinc 3 1, 3) := by decide +kernel
theorem k22_35 : pm_look (pm_kl 22) 35 = some (.iinc 4 1, 3) := by decide +kernel
theorem k22_38 : pm_look (pm_kl 22) 38 = some (.goto (-33), 3) := by decide +kernel
theorem k22_41 : pm_look (pm_kl 22) 41 = some (.iload_n 3, 1) := by decide +kernel
theorem k22_42 : pm_look (pm_kl 22) 42 = some (.ireturn, 1) := by decide +kernel
theorem k23_0 : pm_look (pm_kl 23) 0 = some (.aload_n 0, 1) := by decide +kernel
theorem k23_1 : pm_look (pm_kl 23) 1 = some (.invokespecial 3, 3) := by decide +kernel
theorem k23_4 : pm_look (pm_kl 23) 4 = some (.aload_n 0, 1) := by decide +kernel
theorem k23_5 : pm_look (pm_kl 23) 5 = some (.bipush 120, 2) := by decide +kernel
theorem k23_7 : pm_look (pm_kl 23) 7 = some (.newarray .int, 2) := by decide +kernel
theorem k23_9 : pm_look (pm_kl 23) 9 = some (.putfield 9, 3) := by decide +kernel
theorem k23_12 : pm_look (pm_kl 23) 12 = some (.aload_n 0, 1) := by decide +kernel
theorem k23_13 : pm_look (pm_kl 23) 13 = some (.bipush 120, 2) := by decide +kernel
theorem k23_15 : pm_look (pm_kl 23) 15 = some (.newarray .int, 2) := by decide +kernel
theorem k23_17 : pm_look (pm_kl 23) 17 = some (.putfield 15, 3) := by decide +kernel
theorem k23_20 : pm_look (pm_kl 23) 20 = some (.aload_n 0, 1) := by decide +kernel
theorem k23_21 : pm_look (pm_kl 23) 21 = some (.bipush 120, 2) := by decide +kernel
theorem k23_23 : pm_look (pm_kl 23) 23 = some (.newarray .int, 2) := by decide +kernel
theorem k23_25 : pm_look (pm_kl 23) 25 = some (.putfield 18, 3) := by decide +kernel
theorem k23_28 : pm_look (pm_kl 23) 28 = some (.aload_n 0, 1) := by decide +kernel
theorem k23_29 : pm_look (pm_kl 23) 29 = some (.bipush 120, 2) := by decide +kernel
theorem k23_31 : pm_look (pm_kl 23) 31 = some (.newarray .int, 2) := by decide +kernel
theorem k23_33 : pm_look (pm_kl 23) 33 = some (.putfield 21, 3) := by decide +kernel
theorem k23_36 : pm_look (pm_kl 23) 36 = some (.aload_n 0, 1) := by decide +kernel
theorem k23_37 : pm_look (pm_kl 23) 37 = some (.bipush 120, 2) := by decide +kernel
theorem k23_39 : pm_look (pm_kl 23) 39 = some (.newarray .int, 2) := by decide +kernel
theorem k23_41 : pm_look (pm_kl 23) 41 = some (.putfield 24, 3) := by decide +kernel
theorem k23_44 : pm_look (pm_kl 23) 44 = some (.aload_n 0, 1) := by decide +kernel
theorem k23_45 : pm_look (pm_kl 23) 45 = some (.bipush 120, 2) := by decide +kernel
theorem k23_47 : pm_look (pm_kl 23) 47 = some (.bipush 8, 2) := by decide +kernel
theorem k23_49 : pm_look (pm_kl 23) 49 = some (.multianewarray 27 2, 4) := by decide +kernel
theorem k23_53 : pm_look (pm_kl 23) 53 = some (.putfield 29, 3) := by decide +kernel
theorem k23_56 : pm_look (pm_kl 23) 56 = some (.return_, 1) := by decide +kernel
theorem k24_0 : pm_look (pm_kl 24) 0 = some (.iload_n 1, 1) := by decide +kernel
theorem k24_1 : pm_look (pm_kl 24) 1 = some (.ifCond .lt 15, 3) := by decide +kernel
theorem k24_4 : pm_look (pm_kl 24) 4 = some (.iload_n 1, 1) := by decide +kernel
theorem k24_5 : pm_look (pm_kl 24) 5 = some (.aload_n 0, 1) := by decide +kernel
theorem k24_6 : pm_look (pm_kl 24) 6 = some (.getfield 32, 3) := by decide +kernel
theorem k24_9 : pm_look (pm_kl 24) 9 = some (.if_icmp .ge 7, 3) := by decide +kernel
theorem k24_12 : pm_look (pm_kl 24) 12 = some (.iconst 1, 1) := by decide +kernel
theorem k24_13 : pm_look (pm_kl 24) 13 = some (.goto 4, 3) := by decide +kernel
theorem k24_16 : pm_look (pm_kl 24) 16 = some (.iconst 0, 1) := by decide +kernel
theorem k24_17 : pm_look (pm_kl 24) 17 = some (.ireturn, 1) := by decide +kernel
theorem k25_0 : pm_look (pm_kl 25) 0 = some (.aload_n 0, 1) := by decide +kernel
theorem k25_1 : pm_look (pm_kl 25) 1 = some (.getfield 32, 3) := by decide +kernel
theorem k25_4 : pm_look (pm_kl 25) 4 = some (.istore 6, 2) := by decide +kernel
theorem k25_6 : pm_look (pm_kl 25) 6 = some (.iload 6, 2) := by decide +kernel
theorem k25_8 : pm_look (pm_kl 25) 8 = some (.bipush 120, 2) := by decide +kernel
theorem k25_10 : pm_look (pm_kl 25) 10 = some (.if_icmp .lt 7, 3) := by decide +kernel
theorem k25_13 : pm_look (pm_kl 25) 13 = some (.sipush (-1004), 3) := by decide +kernel
theorem k25_16 : pm_look (pm_kl 25) 16 = some (.ireturn, 1) := by decide +kernel
theorem k25_17 : pm_look (pm_kl 25) 17 = some (.aload_n 0, 1) := by decide +kernel
theorem k25_18 : pm_look (pm_kl 25) 18 = some (.getfield 9, 3) := by decide +kernel
theorem k25_21 : pm_look (pm_kl 25) 21 = some (.iload 6, 2) := by decide +kernel
theorem k25_23 : pm_look (pm_kl 25) 23 = some (.iload_n 1, 1) := by decide +kernel
theorem k25_24 : pm_look (pm_kl 25) 24 = some (.iastore, 1) := by decide +kernel
theorem k25_25 : pm_look (pm_kl 25) 25 = some (.aload_n 0, 1) := by decide +kernel
theorem k25_26 : pm_look (pm_kl 25) 26 = some (.getfield 15, 3) := by decide +kernel
theorem k25_29 : pm_look (pm_kl 25) 29 = some (.iload 6, 2) := by decide +kernel
theorem k25_31 : pm_look (pm_kl 25) 31 = some (.iload_n 2, 1) := by decide +kernel
theorem k25_32 : pm_look (pm_kl 25) 32 = some (.iastore, 1) := by decide +kernel
theorem k25_33 : pm_look (pm_kl 25) 33 = some (.aload_n 0, 1) := by decide +kernel
theorem k25_34 : pm_look (pm_kl 25) 34 = some (.getfield 18, 3) := by decide +kernel
theorem k25_37 : pm_look (pm_kl 25) 37 = some (.iload 6, 2) := by decide +kernel
theorem k25_39 : pm_look (pm_kl 25) 39 = some (.iload_n 3, 1) := by decide +kernel
theorem k25_40 : pm_look (pm_kl 25) 40 = some (.iastore, 1) := by decide +kernel
theorem k25_41 : pm_look (pm_kl 25) 41 = some (.aload_n 0, 1) := by decide +kernel
theorem k25_42 : pm_look (pm_kl 25) 42 = some (.getfield 21, 3) := by decide +kernel
theorem k25_45 : pm_look (pm_kl 25) 45 = some (.iload 6, 2) := by decide +kernel
theorem k25_47 : pm_look (pm_kl 25) 47 = some (.iload 4, 2) := by decide +kernel
theorem k25_49 : pm_look (pm_kl 25) 49 = some (.iastore, 1) := by decide +kernel
theorem k25_50 : pm_look (pm_kl 25) 50 = some (.aload_n 0, 1) := by decide +kernel
theorem k25_51 : pm_look (pm_kl 25) 51 = some (.getfield 24, 3) := by decide +kernel
theorem k25_54 : pm_look (pm_kl 25) 54 = some (.iload 6, 2) := by decide +kernel
theorem k25_56 : pm_look (pm_kl 25) 56 = some (.iload 5, 2) := by decide +kernel
theorem k25_58 : pm_look (pm_kl 25) 58 = some (.iastore, 1) := by decide +kernel
theorem k25_59 : pm_look (pm_kl 25) 59 = some (.aload_n 0, 1) := by decide +kernel
theorem k25_60 : pm_look (pm_kl 25) 60 = some (.getfield 29, 3) := by decide +kernel
theorem k25_63 : pm_look (pm_kl 25) 63 = some (.iload 6, 2) := by decide +kernel
theorem k25_65 : pm_look (pm_kl 25) 65 = some (.aaload, 1) := by decide +kernel
theorem k25_66 : pm_look (pm_kl 25) 66 = some (.iconst (-1), 1) := by decide +kernel
theorem k25_67 : pm_look (pm_kl 25) 67 = some (.invokestatic 36, 3) := by decide +kernel
theorem k25_70 : pm_look (pm_kl 25) 70 = some (.aload_n 0, 1) := by decide +kernel
theorem k25_71 : pm_look (pm_kl 25) 71 = some (.dup, 1) := by decide +kernel
theorem k25_72 : pm_look (pm_kl 25) 72 = some (.getfield 32, 3) := by decide +kernel
theorem k25_75 : pm_look (pm_kl 25) 75 = some (.iconst 1, 1) := by decide +kernel
theorem k25_76 : pm_look (pm_kl 25) 76 = some (.iadd, 1) := by decide +kernel
theorem k25_77 : pm_look (pm_kl 25) 77 = some (.putfield 32, 3) := by decide +kernel
theorem k25_80 : pm_look (pm_kl 25) 80 = some (.iload 6, 2) := by decide +kernel
theorem k25_82 : pm_look (pm_kl 25) 82 = some (.ireturn, 1) := by decide +kernel
theorem k26_0 : pm_look (pm_kl 26) 0 = some (.aload_n 0, 1) := by decide +kernel
theorem k26_1 : pm_look (pm_kl 26) 1 = some (.iload_n 1, 1) := by decide +kernel
theorem k26_2 : pm_look (pm_kl 26) 2 = some (.invokevirtual 42, 3) := by decide +kernel
theorem k26_5 : pm_look (pm_kl 26) 5 = some (.ifCond .ne 5, 3) := by decide +kernel
theorem k26_8 : pm_look (pm_kl 26) 8 = some (.iconst 0, 1) := by decide +kernel
theorem k26_9 : pm_look (pm_kl 26) 9 = some (.ireturn, 1) := by decide +kernel
theorem k26_10 : pm_look (pm_kl 26) 10 = some (.iconst 0, 1) := by decide +kernel
theorem k26_11 : pm_look (pm_kl 26) 11 = some (.istore_n 3, 1) := by decide +kernel
theorem k26_12 : pm_look (pm_kl 26) 12 = some (.iconst 0, 1) := by decide +kernel
theorem k26_13 : pm_look (pm_kl 26) 13 = some (.istore 4, 2) := by decide +kernel
theorem k26_15 : pm_look (pm_kl 26) 15 = some (.iload 4, 2) := by decide +kernel
theorem k26_17 : pm_look (pm_kl 26) 17 = some (.bipush 8, 2) := by decide +kernel
theorem k26_19 : pm_look (pm_kl 26) 19 = some (.if_icmp .ge 38, 3) := by decide +kernel
theorem k26_22 : pm_look (pm_kl 26) 22 = some (.aload_n 0, 1) := by decide +kernel
theorem k26_23 : pm_look (pm_kl 26) 23 = some (.getfield 29, 3) := by decide +kernel
theorem k26_26 : pm_look (pm_kl 26) 26 = some (.iload_n 1, 1) := by decide +kernel
theorem k26_27 : pm_look (pm_kl 26) 27 = some (.aaload, 1) := by decide +kernel
theorem k26_28 : pm_look (pm_kl 26) 28 = some (.iload 4, 2) := by decide +kernel
theorem k26_30 : pm_look (pm_kl 26) 30 = some (.iaload, 1) := by decide +kernel
theorem k26_31 : pm_look (pm_kl 26) 31 = some (.iconst (-1), 1) := by decide +kernel
theorem k26_32 : pm_look (pm_kl 26) 32 = some (.if_icmp .eq 19, 3) := by decide +kernel
theorem k26_35 : pm_look (pm_kl 26) 35 = some (.aload_n 0, 1) := by decide +kernel
theorem k26_36 : pm_look (pm_kl 26) 36 = some (.getfield 29, 3) := by decide +kernel
theorem k26_39 : pm_look (pm_kl 26) 39 = some (.iload_n 1, 1) := by decide +kernel
theorem k26_40 : pm_look (pm_kl 26) 40 = some (.aaload, 1) := by decide +kernel
theorem k26_41 : pm_look (pm_kl 26) 41 = some (.iload 4, 2) := by decide +kernel
theorem k26_43 : pm_look (pm_kl 26) 43 = some (.iaload, 1) := by decide +kernel
theorem k26_44 : pm_look (pm_kl 26) 44 = some (.iload_n 2, 1) := by decide +kernel
theorem k26_45 : pm_look (pm_kl 26) 45 = some (.if_icmp .gt 6, 3) := by decide +kernel
theorem k26_48 : pm_look (pm_kl 26) 48 = some (.iinc 3 1, 3) := by decide +kernel
theorem k26_51 : pm_look (pm_kl 26) 51 = some (.iinc 4 1, 3) := by decide +kernel
theorem k26_54 : pm_look (pm_kl 26) 54 = some (.goto (-39), 3) := by decide +kernel
theorem k26_57 : pm_look (pm_kl 26) 57 = some (.iload_n 3, 1) := by decide +kernel
theorem k26_58 : pm_look (pm_kl 26) 58 = some (.ireturn, 1) := by decide +kernel
theorem k27_0 : pm_look (pm_kl 27) 0 = some (.lconst 0, 1) := by decide +kernel
theorem k27_1 : pm_look (pm_kl 27) 1 = some (.lstore_n 3, 1) := by decide +kernel
theorem k27_2 : pm_look (pm_kl 27) 2 = some (.iconst 0, 1) := by decide +kernel
theorem k27_3 : pm_look (pm_kl 27) 3 = some (.istore 5, 2) := by decide +kernel
theorem k27_5 : pm_look (pm_kl 27) 5 = some (.iload 5, 2) := by decide +kernel
theorem k27_7 : pm_look (pm_kl 27) 7 = some (.aload_n 0, 1) := by decide +kernel
theorem k27_8 : pm_look (pm_kl 27) 8 = some (.getfield 32, 3) := by decide +kernel
theorem k27_11 : pm_look (pm_kl 27) 11 = some (.if_icmp .ge 43, 3) := by decide +kernel
theorem k27_14 : pm_look (pm_kl 27) 14 = some (.aload_n 0, 1) := by decide +kernel
theorem k27_15 : pm_look (pm_kl 27) 15 = some (.getfield 18, 3) := by decide +kernel
theorem k27_18 : pm_look (pm_kl 27) 18 = some (.iload 5, 2) := by decide +kernel
theorem k27_20 : pm_look (pm_kl 27) 20 = some (.iaload, 1) := by decide +kernel
theorem k27_21 : pm_look (pm_kl 27) 21 = some (.iload_n 1, 1) := by decide +kernel
theorem k27_22 : pm_look (pm_kl 27) 22 = some (.if_icmp .ne 26, 3) := by decide +kernel
theorem k27_25 : pm_look (pm_kl 27) 25 = some (.aload_n 0, 1) := by decide +kernel
theorem k27_26 : pm_look (pm_kl 27) 26 = some (.getfield 24, 3) := by decide +kernel
theorem k27_29 : pm_look (pm_kl 27) 29 = some (.iload 5, 2) := by decide +kernel
theorem k27_31 : pm_look (pm_kl 27) 31 = some (.iaload, 1) := by decide +kernel
theorem k27_32 : pm_look (pm_kl 27) 32 = some (.iload_n 2, 1) := by decide +kernel
theorem k27_33 : pm_look (pm_kl 27) 33 = some (.if_icmp .gt 15, 3) := by decide +kernel
theorem k27_36 : pm_look (pm_kl 27) 36 = some (.lload_n 3, 1) := by decide +kernel
theorem k27_37 : pm_look (pm_kl 27) 37 = some (.lconst 1, 1) := by decide +kernel
theorem k27_38 : pm_look (pm_kl 27) 38 = some (.aload_n 0, 1) := by decide +kernel
theorem k27_39 : pm_look (pm_kl 27) 39 = some (.getfield 9, 3) := by decide +kernel
theorem k27_42 : pm_look (pm_kl 27) 42 = some (.iload 5, 2) := by decide +kernel
theorem k27_44 : pm_look (pm_kl 27) 44 = some (.iaload, 1) := by decide +kernel
theorem k27_45 : pm_look (pm_kl 27) 45 = some (.lshl, 1) := by decide +kernel
theorem k27_46 : pm_look (pm_kl 27) 46 = some (.lor, 1) := by decide +kernel
theorem k27_47 : pm_look (pm_kl 27) 47 = some (.lstore_n 3, 1) := by decide +kernel
theorem k27_48 : pm_look (pm_kl 27) 48 = some (.iinc 5 1, 3) := by decide +kernel
theorem k27_51 : pm_look (pm_kl 27) 51 = some (.goto (-46), 3) := by decide +kernel
theorem k27_54 : pm_look (pm_kl 27) 54 = some (.lload_n 3, 1) := by decide +kernel
theorem k27_55 : pm_look (pm_kl 27) 55 = some (.lreturn, 1) := by decide +kernel
theorem k28_0 : pm_look (pm_kl 28) 0 = some (.aload_n 0, 1) := by decide +kernel
theorem k28_1 : pm_look (pm_kl 28) 1 = some (.invokespecial 3, 3) := by decide +kernel
theorem k28_4 : pm_look (pm_kl 28) 4 = some (.aload_n 0, 1) := by decide +kernel
theorem k28_5 : pm_look (pm_kl 28) 5 = some (.bipush 40, 2) := by decide +kernel
theorem k28_7 : pm_look (pm_kl 28) 7 = some (.newarray .int, 2) := by decide +kernel
theorem k28_9 : pm_look (pm_kl 28) 9 = some (.putfield 9, 3) := by decide +kernel
theorem k28_12 : pm_look (pm_kl 28) 12 = some (.aload_n 0, 1) := by decide +kernel
theorem k28_13 : pm_look (pm_kl 28) 13 = some (.bipush 40, 2) := by decide +kernel
theorem k28_15 : pm_look (pm_kl 28) 15 = some (.newarray .int, 2) := by decide +kernel
theorem k28_17 : pm_look (pm_kl 28) 17 = some (.putfield 15, 3) := by decide +kernel
theorem k28_20 : pm_look (pm_kl 28) 20 = some (.aload_n 0, 1) := by decide +kernel
theorem k28_21 : pm_look (pm_kl 28) 21 = some (.bipush 40, 2) := by decide +kernel
theorem k28_23 : pm_look (pm_kl 28) 23 = some (.newarray .int, 2) := by decide +kernel
theorem k28_25 : pm_look (pm_kl 28) 25 = some (.putfield 18, 3) := by decide +kernel
theorem k28_28 : pm_look (pm_kl 28) 28 = some (.return_, 1) := by decide +kernel
theorem k29_0 : pm_look (pm_kl 29) 0 = some (.iload_n 1, 1) := by decide +kernel
theorem k29_1 : pm_look (pm_kl 29) 1 = some (.ifCond .lt 15, 3) := by decide +kernel
theorem k29_4 : pm_look (pm_kl 29) 4 = some (.iload_n 1, 1) := by decide +kernel
theorem k29_5 : pm_look (pm_kl 29) 5 = some (.aload_n 0, 1) := by decide +kernel
theorem k29_6 : pm_look (pm_kl 29) 6 = some (.getfield 21, 3) := by decide +kernel
theorem k29_9 : pm_look (pm_kl 29) 9 = some (.if_icmp .ge 7, 3) := by decide +kernel
theorem k29_12 : pm_look (pm_kl 29) 12 = some (.iconst 1, 1) := by decide +kernel
theorem k29_13 : pm_look (pm_kl 29) 13 = some (.goto 4, 3) := by decide +kernel
theorem k29_16 : pm_look (pm_kl 29) 16 = some (.iconst 0, 1) := by decide +kernel
theorem k29_17 : pm_look (pm_kl 29) 17 = some (.ireturn, 1) := by decide +kernel
theorem k30_0 : pm_look (pm_kl 30) 0 = some (.aload_n 0, 1) := by decide +kernel
theorem k30_1 : pm_look (pm_kl 30) 1 = some (.getfield 21, 3) := by decide +kernel
theorem k30_4 : pm_look (pm_kl 30) 4 = some (.istore 4, 2) := by decide +kernel
theorem k30_6 : pm_look (pm_kl 30) 6 = some (.iload 4, 2) := by decide +kernel
theorem k30_8 : pm_look (pm_kl 30) 8 = some (.bipush 40, 2) := by decide +kernel
theorem k30_10 : pm_look (pm_kl 30) 10 = some (.if_icmp .lt 7, 3) := by decide +kernel
theorem k30_13 : pm_look (pm_kl 30) 13 = some (.sipush (-1004), 3) := by decide +kernel
theorem k30_16 : pm_look (pm_kl 30) 16 = some (.ireturn, 1) := by decide +kernel
theorem k30_17 : pm_look (pm_kl 30) 17 = some (.aload_n 0, 1) := by decide +kernel
theorem k30_18 : pm_look (pm_kl 30) 18 = some (.getfield 9, 3) := by decide +kernel
theorem k30_21 : pm_look (pm_kl 30) 21 = some (.iload 4, 2) := by decide +kernel
theorem k30_23 : pm_look (pm_kl 30) 23 = some (.iload_n 1, 1) := by decide +kernel
theorem k30_24 : pm_look (pm_kl 30) 24 = some (.iastore, 1) := by decide +kernel
theorem k30_25 : pm_look (pm_kl 30) 25 = some (.aload_n 0, 1) := by decide +kernel
theorem k30_26 : pm_look (pm_kl 30) 26 = some (.getfield 15, 3) := by decide +kernel
theorem k30_29 : pm_look (pm_kl 30) 29 = some (.iload 4, 2) := by decide +kernel
theorem k30_31 : pm_look (pm_kl 30) 31 = some (.iload_n 2, 1) := by decide +kernel
theorem k30_32 : pm_look (pm_kl 30) 32 = some (.iastore, 1) := by decide +kernel
theorem k30_33 : pm_look (pm_kl 30) 33 = some (.aload_n 0, 1) := by decide +kernel
theorem k30_34 : pm_look (pm_kl 30) 34 = some (.getfield 18, 3) := by decide +kernel
theorem k30_37 : pm_look (pm_kl 30) 37 = some (.iload 4, 2) := by decide +kernel
theorem k30_39 : pm_look (pm_kl 30) 39 = some (.aload_n 0, 1) := by decide +kernel
theorem k30_40 : pm_look (pm_kl 30) 40 = some (.iload_n 3, 1) := by decide +kernel
theorem k30_41 : pm_look (pm_kl 30) 41 = some (.invokevirtual 25, 3) := by decide +kernel
theorem k30_44 : pm_look (pm_kl 30) 44 = some (.ifCond .eq 12, 3) := by decide +kernel
theorem k30_47 : pm_look (pm_kl 30) 47 = some (.aload_n 0, 1) := by decide +kernel
theorem k30_48 : pm_look (pm_kl 30) 48 = some (.getfield 18, 3) := by decide +kernel
theorem k30_51 : pm_look (pm_kl 30) 51 = some (.iload_n 3, 1) := by decide +kernel
theorem k30_52 : pm_look (pm_kl 30) 52 = some (.iaload, 1) := by decide +kernel
theorem k30_53 : pm_look (pm_kl 30) 53 = some (.goto 5, 3) := by decide +kernel
theorem k30_56 : pm_look (pm_kl 30) 56 = some (.iload 4, 2) := by decide +kernel
theorem k30_58 : pm_look (pm_kl 30) 58 = some (.iastore, 1) := by decide +kernel
theorem k30_59 : pm_look (pm_kl 30) 59 = some (.aload_n 0, 1) := by decide +kernel
theorem k30_60 : pm_look (pm_kl 30) 60 = some (.dup, 1) := by decide +kernel
theorem k30_61 : pm_look (pm_kl 30) 61 = some (.getfield 21, 3) := by decide +kernel
theorem k30_64 : pm_look (pm_kl 30) 64 = some (.iconst 1, 1) := by decide +kernel
theorem k30_65 : pm_look (pm_kl 30) 65 = some (.iadd, 1) := by decide +kernel
theorem k30_66 : pm_look (pm_kl 30) 66 = some (.putfield 21, 3) := by decide +kernel
theorem k30_69 : pm_look (pm_kl 30) 69 = some (.iload 4, 2) := by decide +kernel
theorem k30_71 : pm_look (pm_kl 30) 71 = some (.ireturn, 1) := by decide +kernel
theorem k31_0 : pm_look (pm_kl 31) 0 = some (.lconst 1, 1) := by decide +kernel
theorem k31_1 : pm_look (pm_kl 31) 1 = some (.aload_n 0, 1) := by decide +kernel
theorem k31_2 : pm_look (pm_kl 31) 2 = some (.getfield 21, 3) := by decide +kernel
theorem k31_5 : pm_look (pm_kl 31) 5 = some (.lshl, 1) := by decide +kernel
theorem k31_6 : pm_look (pm_kl 31) 6 = some (.lconst 1, 1) := by decide +kernel
theorem k31_7 : pm_look (pm_kl 31) 7 = some (.lsub, 1) := by decide +kernel
theorem k31_8 : pm_look (pm_kl 31) 8 = some (.lreturn, 1) := by decide +kernel
theorem k32_0 : pm_look (pm_kl 32) 0 = some (.lconst 0, 1) := by decide +kernel
theorem k32_1 : pm_look (pm_kl 32) 1 = some (.lstore_n 3, 1) := by decide +kernel
theorem k32_2 : pm_look (pm_kl 32) 2 = some (.iconst 0, 1) := by decide +kernel
theorem k32_3 : pm_look (pm_kl 32) 3 = some (.istore 5, 2) := by decide +kernel
theorem k32_5 : pm_look (pm_kl 32) 5 = some (.iload 5, 2) := by decide +kernel
theorem k32_7 : pm_look (pm_kl 32) 7 = some (.aload_n 0, 1) := by decide +kernel
theorem k32_8 : pm_look (pm_kl 32) 8 = some (.getfield 21, 3) := by decide +kernel
theorem k32_11 : pm_look (pm_kl 32) 11 = some (.if_icmp .ge 31, 3) := by decide +kernel
theorem k32_14 : pm_look (pm_kl 32) 14 = some (.aload_n 0, 1) := by decide +kernel
theorem k32_15 : pm_look (pm_kl 32) 15 = some (.getfield 9, 3) := by decide +kernel
theorem k32_18 : pm_look (pm_kl 32) 18 = some (.iload 5, 2) := by decide +kernel
theorem k32_20 : pm_look (pm_kl 32) 20 = some (.iaload, 1) := by decide +kernel
theorem k32_21 : pm_look (pm_kl 32) 21 = some (.iload_n 1, 1) := by decide +kernel
theorem k32_22 : pm_look (pm_kl 32) 22 = some (.iload_n 2, 1) := by decide +kernel
theorem k32_23 : pm_look (pm_kl 32) 23 = some (.invokestatic 29, 3) := by decide +kernel
theorem k32_26 : pm_look (pm_kl 32) 26 = some (.ifCond .eq 10, 3) := by decide +kernel
theorem k32_29 : pm_look (pm_kl 32) 29 = some (.lload_n 3, 1) := by decide +kernel
theorem k32_30 : pm_look (pm_kl 32) 30 = some (.lconst 1, 1) := by decide +kernel
theorem k32_31 : pm_look (pm_kl 32) 31 = some (.iload 5, 2) := by decide +kernel
theorem k32_33 : pm_look (pm_kl 32) 33 = some (.lshl, 1) := by decide +kernel
theorem k32_34 : pm_look (pm_kl 32) 34 = some (.lor, 1) := by decide +kernel
theorem k32_35 : pm_look (pm_kl 32) 35 = some (.lstore_n 3, 1) := by decide +kernel
theorem k32_36 : pm_look (pm_kl 32) 36 = some (.iinc 5 1, 3) := by decide +kernel
theorem k32_39 : pm_look (pm_kl 32) 39 = some (.goto (-34), 3) := by decide +kernel
theorem k32_42 : pm_look (pm_kl 32) 42 = some (.lload_n 3, 1) := by decide +kernel
theorem k32_43 : pm_look (pm_kl 32) 43 = some (.lreturn, 1) := by decide +kernel
theorem k33_0 : pm_look (pm_kl 33) 0 = some (.lconst 0, 1) := by decide +kernel
theorem k33_1 : pm_look (pm_kl 33) 1 = some (.lstore_n 2, 1) := by decide +kernel
theorem k33_2 : pm_look (pm_kl 33) 2 = some (.iconst 0, 1) := by decide +kernel
theorem k33_3 : pm_look (pm_kl 33) 3 = some (.istore 4, 2) := by decide +kernel
theorem k33_5 : pm_look (pm_kl 33) 5 = some (.iload 4, 2) := by decide +kernel
theorem k33_7 : pm_look (pm_kl 33) 7 = some (.aload_n 0, 1) := by decide +kernel
theorem k33_8 : pm_look (pm_kl 33) 8 = some (.getfield 21, 3) := by decide +kernel
theorem k33_11 : pm_look (pm_kl 33) 11 = some (.if_icmp .ge 27, 3) := by decide +kernel
theorem k33_14 : pm_look (pm_kl 33) 14 = some (.aload_n 0, 1) := by decide +kernel
theorem k33_15 : pm_look (pm_kl 33) 15 = some (.getfield 15, 3) := by decide +kernel
theorem k33_18 : pm_look (pm_kl 33) 18 = some (.iload 4, 2) := by decide +kernel
theorem k33_20 : pm_look (pm_kl 33) 20 = some (.iaload, 1) := by decide +kernel
theorem k33_21 : pm_look (pm_kl 33) 21 = some (.iload_n 1, 1) := by decide +kernel
theorem k33_22 : pm_look (pm_kl 33) 22 = some (.if_icmp .ne 10, 3) := by decide +kernel
theorem k33_25 : pm_look (pm_kl 33) 25 = some (.lload_n 2, 1) := by decide +kernel
theorem k33_26 : pm_look (pm_kl 33) 26 = some (.lconst 1, 1) := by decide +kernel
theorem k33_27 : pm_look (pm_kl 33) 27 = some (.iload 4, 2) := by decide +kernel
theorem k33_29 : pm_look (pm_kl 33) 29 = some (.lshl, 1) := by decide +kernel
theorem k33_30 : pm_look (pm_kl 33) 30 = some (.lor, 1) := by decide +kernel
theorem k33_31 : pm_look (pm_kl 33) 31 = some (.lstore_n 2, 1) := by decide +kernel
theorem k33_32 : pm_look (pm_kl 33) 32 = some (.iinc 4 1, 3) := by decide +kernel
theorem k33_35 : pm_look (pm_kl 33) 35 = some (.goto (-30), 3) := by decide +kernel
theorem k33_38 : pm_look (pm_kl 33) 38 = some (.lload_n 2, 1) := by decide +kernel
theorem k33_39 : pm_look (pm_kl 33) 39 = some (.lreturn, 1) := by decide +kernel
theorem k34_0 : pm_look (pm_kl 34) 0 = some (.aload_n 0, 1) := by decide +kernel
theorem k34_1 : pm_look (pm_kl 34) 1 = some (.invokespecial 3, 3) := by decide +kernel
theorem k34_4 : pm_look (pm_kl 34) 4 = some (.aload_n 0, 1) := by decide +kernel
theorem k34_5 : pm_look (pm_kl 34) 5 = some (.bipush 8, 2) := by decide +kernel
theorem k34_7 : pm_look (pm_kl 34) 7 = some (.newarray .int, 2) := by decide +kernel
theorem k34_9 : pm_look (pm_kl 34) 9 = some (.putfield 9, 3) := by decide +kernel
theorem k34_12 : pm_look (pm_kl 34) 12 = some (.aload_n 0, 1) := by decide +kernel
theorem k34_13 : pm_look (pm_kl 34) 13 = some (.bipush 8, 2) := by decide +kernel
theorem k34_15 : pm_look (pm_kl 34) 15 = some (.newarray .int, 2) := by decide +kernel
theorem k34_17 : pm_look (pm_kl 34) 17 = some (.putfield 15, 3) := by decide +kernel
theorem k34_20 : pm_look (pm_kl 34) 20 = some (.aload_n 0, 1) := by decide +kernel
theorem k34_21 : pm_look (pm_kl 34) 21 = some (.bipush 8, 2) := by decide +kernel
theorem k34_23 : pm_look (pm_kl 34) 23 = some (.bipush 8, 2) := by decide +kernel
theorem k34_25 : pm_look (pm_kl 34) 25 = some (.multianewarray 18 2, 4) := by decide +kernel
theorem k34_29 : pm_look (pm_kl 34) 29 = some (.putfield 20, 3) := by decide +kernel
theorem k34_32 : pm_look (pm_kl 34) 32 = some (.aload_n 0, 1) := by decide +kernel
theorem k34_33 : pm_look (pm_kl 34) 33 = some (.bipush 8, 2) := by decide +kernel
theorem k34_35 : pm_look (pm_kl 34) 35 = some (.bipush 8, 2) := by decide +kernel
theorem k34_37 : pm_look (pm_kl 34) 37 = some (.multianewarray 18 2, 4) := by decide +kernel
theorem k34_41 : pm_look (pm_kl 34) 41 = some (.putfield 23, 3) := by decide +kernel
theorem k34_44 : pm_look (pm_kl 34) 44 = some (.aload_n 0, 1) := by decide +kernel
theorem k34_45 : pm_look (pm_kl 34) 45 = some (.bipush 8, 2) := by decide +kernel
theorem k34_47 : pm_look (pm_kl 34) 47 = some (.bipush 8, 2) := by decide +kernel
theorem k34_49 : pm_look (pm_kl 34) 49 = some (.multianewarray 18 2, 4) := by decide +kernel
theorem k34_53 : pm_look (pm_kl 34) 53 = some (.putfield 26, 3) := by decide +kernel
theorem k34_56 : pm_look (pm_kl 34) 56 = some (.return_, 1) := by decide +kernel
theorem k35_0 : pm_look (pm_kl 35) 0 = some (.aload_n 1, 1) := by decide +kernel
theorem k35_1 : pm_look (pm_kl 35) 1 = some (.invokevirtual 29, 3) := by decide +kernel
theorem k35_4 : pm_look (pm_kl 35) 4 = some (.aload_n 0, 1) := by decide +kernel
theorem k35_5 : pm_look (pm_kl 35) 5 = some (.getfield 34, 3) := by decide +kernel
theorem k35_8 : pm_look (pm_kl 35) 8 = some (.bipush 8, 2) := by decide +kernel
theorem k35_10 : pm_look (pm_kl 35) 10 = some (.if_icmp .lt 4, 3) := by decide +kernel
theorem k35_13 : pm_look (pm_kl 35) 13 = some (.return_, 1) := by decide +kernel
theorem k35_14 : pm_look (pm_kl 35) 14 = some (.iconst 0, 1) := by decide +kernel
theorem k35_15 : pm_look (pm_kl 35) 15 = some (.istore_n 3, 1) := by decide +kernel
theorem k35_16 : pm_look (pm_kl 35) 16 = some (.iload_n 3, 1) := by decide +kernel
theorem k35_17 : pm_look (pm_kl 35) 17 = some (.bipush 8, 2) := by decide +kernel
theorem k35_19 : pm_look (pm_kl 35) 19 = some (.if_icmp .gt 29, 3) := by decide +kernel
theorem k35_22 : pm_look (pm_kl 35) 22 = some (.aload_n 1, 1) := by decide +kernel
theorem k35_23 : pm_look (pm_kl 35) 23 = some (.getfield 38, 3) := by decide +kernel
theorem k35_26 : pm_look (pm_kl 35) 26 = some (.ifCond .ne 22, 3) := by decide +kernel
theorem k35_29 : pm_look (pm_kl 35) 29 = some (.aload_n 1, 1) := by decide +kernel
theorem k35_30 : pm_look (pm_kl 35) 30 = some (.getfield 41, 3) := by decide +kernel
theorem k35_33 : pm_look (pm_kl 35) 33 = some (.ifCond .eq 15, 3) := by decide +kernel
theorem k35_36 : pm_look (pm_kl 35) 36 = some (.aload_n 0, 1) := by decide +kernel
theorem k35_37 : pm_look (pm_kl 35) 37 = some (.aload_n 1, 1) := by decide +kernel
theorem k35_38 : pm_look (pm_kl 35) 38 = some (.iload_n 3, 1) := by decide +kernel
theorem k35_39 : pm_look (pm_kl 35) 39 = some (.invokevirtual 43, 3) := by decide +kernel
theorem k35_42 : pm_look (pm_kl 35) 42 = some (.iinc 3 1, 3) := by decide +kernel
theorem k35_45 : pm_look (pm_kl 35) 45 = some (.goto (-29), 3) := by decide +kernel
theorem k35_48 : pm_look (pm_kl 35) 48 = some (.aload_n 1, 1) := by decide +kernel
theorem k35_49 : pm_look (pm_kl 35) 49 = some (.getfield 38, 3) := by decide +kernel
theorem k35_52 : pm_look (pm_kl 35) 52 = some (.ifCond .eq 4, 3) := by decide +kernel
theorem k35_55 : pm_look (pm_kl 35) 55 = some (.return_, 1) := by decide +kernel
theorem k35_56 : pm_look (pm_kl 35) 56 = some (.aload_n 0, 1) := by decide +kernel
theorem k35_57 : pm_look (pm_kl 35) 57 = some (.getfield 9, 3) := by decide +kernel
theorem k35_60 : pm_look (pm_kl 35) 60 = some (.aload_n 0, 1) := by decide +kernel
theorem k35_61 : pm_look (pm_kl 35) 61 = some (.getfield 34, 3) := by decide +kernel
theorem k35_64 : pm_look (pm_kl 35) 64 = some (.iload_n 2, 1) := by decide +kernel
theorem k35_65 : pm_look (pm_kl 35) 65 = some (.iastore, 1) := by decide +kernel
theorem k35_66 : pm_look (pm_kl 35) 66 = some (.aload_n 0, 1) := by decide +kernel
theorem k35_67 : pm_look (pm_kl 35) 67 = some (.getfield 15, 3) := by decide +kernel
theorem k35_70 : pm_look (pm_kl 35) 70 = some (.aload_n 0, 1) := by decide +kernel
theorem k35_71 : pm_look (pm_kl 35) 71 = some (.getfield 34, 3) := by decide +kernel
theorem k35_74 : pm_look (pm_kl 35) 74 = some (.iload_n 3, 1) := by decide +kernel
theorem k35_75 : pm_look (pm_kl 35) 75 = some (.iastore, 1) := by decide +kernel
theorem k35_76 : pm_look (pm_kl 35) 76 = some (.aload_n 0, 1) := by decide +kernel
theorem k35_77 : pm_look (pm_kl 35) 77 = some (.dup, 1) := by decide +kernel
theorem k35_78 : pm_look (pm_kl 35) 78 = some (.getfield 34, 3) := by decide +kernel
theorem k35_81 : pm_look (pm_kl 35) 81 = some (.iconst 1, 1) := by decide +kernel
theorem k35_82 : pm_look (pm_kl 35) 82 = some (.iadd, 1) := by decide +kernel
theorem k35_83 : pm_look (pm_kl 35) 83 = some (.putfield 34, 3) := by decide +kernel
theorem k35_86 : pm_look (pm_kl 35) 86 = some (.return_, 1) := by decide +kernel
theorem k36_0 : pm_look (pm_kl 36) 0 = some (.aload_n 0, 1) := by decide +kernel
theorem k36_1 : pm_look (pm_kl 36) 1 = some (.ldc 47, 2) := by decide +kernel
theorem k36_3 : pm_look (pm_kl 36) 3 = some (.invokevirtual 49, 3) := by decide +kernel
theorem k36_6 : pm_look (pm_kl 36) 6 = some (.ifCond .eq 5, 3) := by decide +kernel
theorem k36_9 : pm_look (pm_kl 36) 9 = some (.iconst 1, 1) := by decide +kernel
theorem k36_10 : pm_look (pm_kl 36) 10 = some (.ireturn, 1) := by decide +kernel
theorem k36_11 : pm_look (pm_kl 36) 11 = some (.aload_n 0, 1) := by decide +kernel
theorem k36_12 : pm_look (pm_kl 36) 12 = some (.ldc 53, 2) := by decide +kernel
theorem k36_14 : pm_look (pm_kl 36) 14 = some (.invokevirtual 49, 3) := by decide +kernel
theorem k36_17 : pm_look (pm_kl 36) 17 = some (.ifCond .eq 5, 3) := by decide +kernel
theorem k36_20 : pm_look (pm_kl 36) 20 = some (.iconst 2, 1) := by decide +kernel
theorem k36_21 : pm_look (pm_kl 36) 21 = some (.ireturn, 1) := by decide +kernel
theorem k36_22 : pm_look (pm_kl 36) 22 = some (.aload_n 0, 1) := by decide +kernel
theorem k36_23 : pm_look (pm_kl 36) 23 = some (.ldc 55, 2) := by decide +kernel
theorem k36_25 : pm_look (pm_kl 36) 25 = some (.invokevirtual 49, 3) := by decide +kernel
theorem k36_28 : pm_look (pm_kl 36) 28 = some (.ifCond .eq 5, 3) := by decide +kernel
theorem k36_31 : pm_look (pm_kl 36) 31 = some (.iconst 3, 1) := by decide +kernel
theorem k36_32 : pm_look (pm_kl 36) 32 = some (.ireturn, 1) := by decide +kernel
theorem k36_33 : pm_look (pm_kl 36) 33 = some (.aload_n 0, 1) := by decide +kernel
theorem k36_34 : pm_look (pm_kl 36) 34 = some (.ldc 57, 2) := by decide +kernel
theorem k36_36 : pm_look (pm_kl 36) 36 = some (.invokevirtual 49, 3) := by decide +kernel
theorem k36_39 : pm_look (pm_kl 36) 39 = some (.ifCond .eq 5, 3) := by decide +kernel
theorem k36_42 : pm_look (pm_kl 36) 42 = some (.iconst 4, 1) := by decide +kernel
theorem k36_43 : pm_look (pm_kl 36) 43 = some (.ireturn, 1) := by decide +kernel
theorem k36_44 : pm_look (pm_kl 36) 44 = some (.aload_n 0, 1) := by decide +kernel
theorem k36_45 : pm_look (pm_kl 36) 45 = some (.ldc 59, 2) := by decide +kernel
theorem k36_47 : pm_look (pm_kl 36) 47 = some (.invokevirtual 49, 3) := by decide +kernel
theorem k36_50 : pm_look (pm_kl 36) 50 = some (.ifCond .eq 5, 3) := by decide +kernel
theorem k36_53 : pm_look (pm_kl 36) 53 = some (.iconst 5, 1) := by decide +kernel
theorem k36_54 : pm_look (pm_kl 36) 54 = some (.ireturn, 1) := by decide +kernel
theorem k36_55 : pm_look (pm_kl 36) 55 = some (.aload_n 0, 1) := by decide +kernel
theorem k36_56 : pm_look (pm_kl 36) 56 = some (.ldc 61, 2) := by decide +kernel
theorem k36_58 : pm_look (pm_kl 36) 58 = some (.invokevirtual 49, 3) := by decide +kernel
theorem k36_61 : pm_look (pm_kl 36) 61 = some (.ifCond .eq 6, 3) := by decide +kernel
theorem k36_64 : pm_look (pm_kl 36) 64 = some (.bipush 6, 2) := by decide +kernel
theorem k36_66 : pm_look (pm_kl 36) 66 = some (.ireturn, 1) := by decide +kernel
theorem k36_67 : pm_look (pm_kl 36) 67 = some (.iconst (-1), 1) := by decide +kernel
theorem k36_68 : pm_look (pm_kl 36) 68 = some (.ireturn, 1) := by decide +kernel
theorem k37_0 : pm_look (pm_kl 37) 0 = some (.aload_n 1, 1) := by decide +kernel
theorem k37_1 : pm_look (pm_kl 37) 1 = some (.invokestatic 63, 3) := by decide +kernel
theorem k37_4 : pm_look (pm_kl 37) 4 = some (.istore_n 3, 1) := by decide +kernel
theorem k37_5 : pm_look (pm_kl 37) 5 = some (.iload_n 3, 1) := by decide +kernel
theorem k37_6 : pm_look (pm_kl 37) 6 = some (.iconst (-1), 1) := by decide +kernel
theorem k37_7 : pm_look (pm_kl 37) 7 = some (.if_icmp .ne 12, 3) := by decide +kernel
theorem k37_10 : pm_look (pm_kl 37) 10 = some (.aload_n 1, 1) := by decide +kernel
theorem k37_11 : pm_look (pm_kl 37) 11 = some (.iconst 1, 1) := by decide +kernel
theorem k37_12 : pm_look (pm_kl 37) 12 = some (.aload_n 1, 1) := by decide +kernel
theorem k37_13 : pm_look (pm_kl 37) 13 = some (.getfield 67, 3) := by decide +kernel
theorem k37_16 : pm_look (pm_kl 37) 16 = some (.invokevirtual 70, 3) := by decide +kernel
theorem k37_19 : pm_look (pm_kl 37) 19 = some (.iload_n 2, 1) := by decide +kernel
theorem k37_20 : pm_look (pm_kl 37) 20 = some (.bipush 8, 2) := by decide +kernel
theorem k37_22 : pm_look (pm_kl 37) 22 = some (.if_icmp .lt 12, 3) := by decide +kernel
theorem k37_25 : pm_look (pm_kl 37) 25 = some (.aload_n 1, 1) := by decide +kernel
theorem k37_26 : pm_look (pm_kl 37) 26 = some (.iconst 4, 1) := by decide +kernel
theorem k37_27 : pm_look (pm_kl 37) 27 = some (.aload_n 1, 1) := by decide +kernel
theorem k37_28 : pm_look (pm_kl 37) 28 = some (.getfield 67, 3) := by decide +kernel
theorem k37_31 : pm_look (pm_kl 37) 31 = some (.invokevirtual 70, 3) := by decide +kernel
theorem k37_34 : pm_look (pm_kl 37) 34 = some (.aload_n 1, 1) := by decide +kernel
theorem k37_35 : pm_look (pm_kl 37) 35 = some (.getfield 38, 3) := by decide +kernel
theorem k37_38 : pm_look (pm_kl 37) 38 = some (.ifCond .eq 4, 3) := by decide +kernel
theorem k37_41 : pm_look (pm_kl 37) 41 = some (.return_, 1) := by decide +kernel
theorem k37_42 : pm_look (pm_kl 37) 42 = some (.aload_n 1, 1) := by decide +kernel
theorem k37_43 : pm_look (pm_kl 37) 43 = some (.invokevirtual 74, 3) := by decide +kernel
theorem k37_46 : pm_look (pm_kl 37) 46 = some (.aload_n 1, 1) := by decide +kernel
theorem k37_47 : pm_look (pm_kl 37) 47 = some (.getfield 67, 3) := by decide +kernel
theorem k37_50 : pm_look (pm_kl 37) 50 = some (.istore 4, 2) := by decide +kernel
theorem k37_52 : pm_look (pm_kl 37) 52 = some (.aload_n 0, 1) := by decide +kernel
theorem k37_53 : pm_look (pm_kl 37) 53 = some (.getfield 20, 3) := by decide +kernel
theorem k37_56 : pm_look (pm_kl 37) 56 = some (.aload_n 0, 1) := by decide +kernel
theorem k37_57 : pm_look (pm_kl 37) 57 = some (.getfield 34, 3) := by decide +kernel
theorem k37_60 : pm_look (pm_kl 37) 60 = some (.aaload, 1) := by decide +kernel
theorem k37_61 : pm_look (pm_kl 37) 61 = some (.iload_n 2, 1) := by decide +kernel
theorem k37_62 : pm_look (pm_kl 37) 62 = some (.iload_n 3, 1) := by decide +kernel
theorem k37_63 : pm_look (pm_kl 37) 63 = some (.iastore, 1) := by decide +kernel
theorem k37_64 : pm_look (pm_kl 37) 64 = some (.aload_n 0, 1) := by decide +kernel
theorem k37_65 : pm_look (pm_kl 37) 65 = some (.getfield 23, 3) := by decide +kernel
theorem k37_68 : pm_look (pm_kl 37) 68 = some (.aload_n 0, 1) := by decide +kernel
theorem k37_69 : pm_look (pm_kl 37) 69 = some (.getfield 34, 3) := by decide +kernel
theorem k37_72 : pm_look (pm_kl 37) 72 = some (.aaload, 1) := by decide +kernel
theorem k37_73 : pm_look (pm_kl 37) 73 = some (.iload_n 2, 1) := by decide +kernel
theorem k37_74 : pm_look (pm_kl 37) 74 = some (.aload_n 1, 1) := by decide +kernel
theorem k37_75 : pm_look (pm_kl 37) 75 = some (.iload_n 3, 1) := by decide +kernel
theorem k37_76 : pm_look (pm_kl 37) 76 = some (.invokestatic 77, 3) := by decide +kernel
theorem k37_79 : pm_look (pm_kl 37) 79 = some (.iastore, 1) := by decide +kernel
theorem k37_80 : pm_look (pm_kl 37) 80 = some (.iload_n 3, 1) := by decide +kernel
theorem k37_81 : pm_look (pm_kl 37) 81 = some (.bipush 6, 2) := by decide +kernel
theorem k37_83 : pm_look (pm_kl 37) 83 = some (.if_icmp .ne 28, 3) := by decide +kernel
theorem k37_86 : pm_look (pm_kl 37) 86 = some (.aload_n 0, 1) := by decide +kernel
theorem k37_87 : pm_look (pm_kl 37) 87 = some (.getfield 23, 3) := by decide +kernel
theorem k37_90 : pm_look (pm_kl 37) 90 = some (.aload_n 0, 1) := by decide +kernel
theorem k37_91 : pm_look (pm_kl 37) 91 = some (.getfield 34, 3) := by decide +kernel
theorem k37_94 : pm_look (pm_kl 37) 94 = some (.aaload, 1) := by decide +kernel
theorem k37_95 : pm_look (pm_kl 37) 95 = some (.iload_n 2, 1) := by decide +kernel
theorem k37_96 : pm_look (pm_kl 37) 96 = some (.iaload, 1) := by decide +kernel
theorem k37_97 : pm_look (pm_kl 37) 97 = some (.aload_n 0, 1) := by decide +kernel
theorem k37_98 : pm_look (pm_kl 37) 98 = some (.getfield 34, 3) := by decide +kernel
theorem k37_101 : pm_look (pm_kl 37) 101 = some (.if_icmp .lt 10, 3) := by decide +kernel
theorem k37_104 : pm_look (pm_kl 37) 104 = some (.aload_n 1, 1) := by decide +kernel
theorem k37_105 : pm_look (pm_kl 37) 105 = some (.iconst 3, 1) := by decide +kernel
theorem k37_106 : pm_look (pm_kl 37) 106 = some (.iload 4, 2) := by decide +kernel
theorem k37_108 : pm_look (pm_kl 37) 108 = some (.invokevirtual 70, 3) := by decide +kernel
theorem k37_111 : pm_look (pm_kl 37) 111 = some (.aload_n 0, 1) := by decide +kernel
theorem k37_112 : pm_look (pm_kl 37) 112 = some (.getfield 26, 3) := by decide +kernel
theorem k37_115 : pm_look (pm_kl 37) 115 = some (.aload_n 0, 1) := by decide +kernel
theorem k37_116 : pm_look (pm_kl 37) 116 = some (.getfield 34, 3) := by decide +kernel
theorem k37_119 : pm_look (pm_kl 37) 119 = some (.aaload, 1) := by decide +kernel
theorem k37_120 : pm_look (pm_kl 37) 120 = some (.iload_n 2, 1) := by decide +kernel
theorem k37_121 : pm_look (pm_kl 37) 121 = some (.aload_n 1, 1) := by decide +kernel
theorem k37_122 : pm_look (pm_kl 37) 122 = some (.iload_n 3, 1) := by decide +kernel
theorem k37_123 : pm_look (pm_kl 37) 123 = some (.invokestatic 81, 3) := by decide +kernel
theorem k37_126 : pm_look (pm_kl 37) 126 = some (.iastore, 1) := by decide +kernel
theorem k37_127 : pm_look (pm_kl 37) 127 = some (.aload_n 1, 1) := by decide +kernel
theorem k37_128 : pm_look (pm_kl 37) 128 = some (.bipush 59, 2) := by decide +kernel
theorem k37_130 : pm_look (pm_kl 37) 130 = some (.invokevirtual 84, 3) := by decide +kernel
theorem k37_133 : pm_look (pm_kl 37) 133 = some (.return_, 1) := by decide +kernel
theorem k38_0 : pm_look (pm_kl 38) 0 = some (.iload_n 1, 1) := by decide +kernel
theorem k38_1 : pm_look (pm_kl 38) 1 = some (.tableswitch 54 4 6 #[27, 36, 45], 27) := by decide +kernel
theorem k38_28 : pm_look (pm_kl 38) 28 = some (.aload_n 0, 1) := by decide +kernel
theorem k38_29 : pm_look (pm_kl 38) 29 = some (.iconst 0, 1) := by decide +kernel
theorem k38_30 : pm_look (pm_kl 38) 30 = some (.bipush 39, 2) := by decide +kernel
theorem k38_32 : pm_look (pm_kl 38) 32 = some (.iconst 2, 1) := by decide +kernel
theorem k38_33 : pm_look (pm_kl 38) 33 = some (.invokevirtual 88, 3) := by decide +kernel
theorem k38_36 : pm_look (pm_kl 38) 36 = some (.ireturn, 1) := by decide +kernel
theorem k38_37 : pm_look (pm_kl 38) 37 = some (.aload_n 0, 1) := by decide +kernel
theorem k38_38 : pm_look (pm_kl 38) 38 = some (.iconst 1, 1) := by decide +kernel
theorem k38_39 : pm_look (pm_kl 38) 39 = some (.bipush 20, 2) := by decide +kernel
theorem k38_41 : pm_look (pm_kl 38) 41 = some (.iconst 2, 1) := by decide +kernel
theorem k38_42 : pm_look (pm_kl 38) 42 = some (.invokevirtual 88, 3) := by decide +kernel
theorem k38_45 : pm_look (pm_kl 38) 45 = some (.ireturn, 1) := by decide +kernel
theorem k38_46 : pm_look (pm_kl 38) 46 = some (.aload_n 0, 1) := by decide +kernel
theorem k38_47 : pm_look (pm_kl 38) 47 = some (.iconst 0, 1) := by decide +kernel
theorem k38_48 : pm_look (pm_kl 38) 48 = some (.bipush 99, 2) := by decide +kernel
theorem k38_50 : pm_look (pm_kl 38) 50 = some (.iconst 2, 1) := by decide +kernel
theorem k38_51 : pm_look (pm_kl 38) 51 = some (.invokevirtual 88, 3) := by decide +kernel
theorem k38_54 : pm_look (pm_kl 38) 54 = some (.ireturn, 1) := by decide +kernel
theorem k38_55 : pm_look (pm_kl 38) 55 = some (.aload_n 0, 1) := by decide +kernel
theorem k38_56 : pm_look (pm_kl 38) 56 = some (.iconst 0, 1) := by decide +kernel
theorem k38_57 : pm_look (pm_kl 38) 57 = some (.iconst 5, 1) := by decide +kernel
theorem k38_58 : pm_look (pm_kl 38) 58 = some (.iconst 2, 1) := by decide +kernel
theorem k38_59 : pm_look (pm_kl 38) 59 = some (.invokevirtual 88, 3) := by decide +kernel
theorem k38_62 : pm_look (pm_kl 38) 62 = some (.ireturn, 1) := by decide +kernel
theorem k39_0 : pm_look (pm_kl 39) 0 = some (.iload_n 1, 1) := by decide +kernel
theorem k39_1 : pm_look (pm_kl 39) 1 = some (.tableswitch 80 1 4 #[31, 36, 51, 65], 31) := by decide +kernel
theorem k39_32 : pm_look (pm_kl 39) 32 = some (.aload_n 0, 1) := by decide +kernel
theorem k39_33 : pm_look (pm_kl 39) 33 = some (.invokestatic 92, 3) := by decide +kernel
theorem k39_36 : pm_look (pm_kl 39) 36 = some (.ireturn, 1) := by decide +kernel
theorem k39_37 : pm_look (pm_kl 39) 37 = some (.aload_n 0, 1) := by decide +kernel
theorem k39_38 : pm_look (pm_kl 39) 38 = some (.ldc 95, 2) := by decide +kernel
theorem k39_40 : pm_look (pm_kl 39) 40 = some (.invokevirtual 97, 3) := by decide +kernel
theorem k39_43 : pm_look (pm_kl 39) 43 = some (.aload_n 0, 1) := by decide +kernel
theorem k39_44 : pm_look (pm_kl 39) 44 = some (.iconst 0, 1) := by decide +kernel
theorem k39_45 : pm_look (pm_kl 39) 45 = some (.bipush 39, 2) := by decide +kernel
theorem k39_47 : pm_look (pm_kl 39) 47 = some (.iconst 2, 1) := by decide +kernel
theorem k39_48 : pm_look (pm_kl 39) 48 = some (.invokevirtual 88, 3) := by decide +kernel
theorem k39_51 : pm_look (pm_kl 39) 51 = some (.ireturn, 1) := by decide +kernel
theorem k39_52 : pm_look (pm_kl 39) 52 = some (.aload_n 0, 1) := by decide +kernel
theorem k39_53 : pm_look (pm_kl 39) 53 = some (.ldc 101, 2) := by decide +kernel
theorem k39_55 : pm_look (pm_kl 39) 55 = some (.invokevirtual 97, 3) := by decide +kernel
theorem k39_58 : pm_look (pm_kl 39) 58 = some (.aload_n 0, 1) := by decide +kernel
theorem k39_59 : pm_look (pm_kl 39) 59 = some (.iconst 0, 1) := by decide +kernel
theorem k39_60 : pm_look (pm_kl 39) 60 = some (.iconst 5, 1) := by decide +kernel
theorem k39_61 : pm_look (pm_kl 39) 61 = some (.iconst 2, 1) := by decide +kernel
theorem k39_62 : pm_look (pm_kl 39) 62 = some (.invokevirtual 88, 3) := by decide +kernel
theorem k39_65 : pm_look (pm_kl 39) 65 = some (.ireturn, 1) := by decide +kernel
theorem k39_66 : pm_look (pm_kl 39) 66 = some (.aload_n 0, 1) := by decide +kernel
theorem k39_67 : pm_look (pm_kl 39) 67 = some (.ldc 101, 2) := by decide +kernel
theorem k39_69 : pm_look (pm_kl 39) 69 = some (.invokevirtual 97, 3) := by decide +kernel
theorem k39_72 : pm_look (pm_kl 39) 72 = some (.aload_n 0, 1) := by decide +kernel
theorem k39_73 : pm_look (pm_kl 39) 73 = some (.iconst 0, 1) := by decide +kernel
theorem k39_74 : pm_look (pm_kl 39) 74 = some (.bipush 39, 2) := by decide +kernel
theorem k39_76 : pm_look (pm_kl 39) 76 = some (.iconst 2, 1) := by decide +kernel
theorem k39_77 : pm_look (pm_kl 39) 77 = some (.invokevirtual 88, 3) := by decide +kernel
theorem k39_80 : pm_look (pm_kl 39) 80 = some (.ireturn, 1) := by decide +kernel
theorem k39_81 : pm_look (pm_kl 39) 81 = some (.iconst (-1), 1) := by decide +kernel
theorem k39_82 : pm_look (pm_kl 39) 82 = some (.ireturn, 1) := by decide +kernel
theorem k40_0 : pm_look (pm_kl 40) 0 = some (.iconst (-1), 1) := by decide +kernel
theorem k40_1 : pm_look (pm_kl 40) 1 = some (.istore_n 1, 1) := by decide +kernel
theorem k40_2 : pm_look (pm_kl 40) 2 = some (.aload_n 0, 1) := by decide +kernel
theorem k40_3 : pm_look (pm_kl 40) 3 = some (.ldc 103, 2) := by decide +kernel
theorem k40_5 : pm_look (pm_kl 40) 5 = some (.invokevirtual 49, 3) := by decide +kernel
theorem k40_8 : pm_look (pm_kl 40) 8 = some (.ifCond .eq 5, 3) := by decide +kernel
theorem k40_11 : pm_look (pm_kl 40) 11 = some (.iconst 0, 1) := by decide +kernel
theorem k40_12 : pm_look (pm_kl 40) 12 = some (.istore_n 1, 1) := by decide +kernel
theorem k40_13 : pm_look (pm_kl 40) 13 = some (.aload_n 0, 1) := by decide +kernel
theorem k40_14 : pm_look (pm_kl 40) 14 = some (.ldc 105, 2) := by decide +kernel
theorem k40_16 : pm_look (pm_kl 40) 16 = some (.invokevirtual 49, 3) := by decide +kernel
theorem k40_19 : pm_look (pm_kl 40) 19 = some (.ifCond .eq 5, 3) := by decide +kernel
theorem k40_22 : pm_look (pm_kl 40) 22 = some (.iconst 1, 1) := by decide +kernel
theorem k40_23 : pm_look (pm_kl 40) 23 = some (.istore_n 1, 1) := by decide +kernel
theorem k40_24 : pm_look (pm_kl 40) 24 = some (.aload_n 0, 1) := by decide +kernel
theorem k40_25 : pm_look (pm_kl 40) 25 = some (.ldc 107, 2) := by decide +kernel
theorem k40_27 : pm_look (pm_kl 40) 27 = some (.invokevirtual 49, 3) := by decide +kernel
theorem k40_30 : pm_look (pm_kl 40) 30 = some (.ifCond .eq 5, 3) := by decide +kernel
theorem k40_33 : pm_look (pm_kl 40) 33 = some (.iconst 2, 1) := by decide +kernel
theorem k40_34 : pm_look (pm_kl 40) 34 = some (.istore_n 1, 1) := by decide +kernel
theorem k40_35 : pm_look (pm_kl 40) 35 = some (.iload_n 1, 1) := by decide +kernel
theorem k40_36 : pm_look (pm_kl 40) 36 = some (.iconst (-1), 1) := by decide +kernel
theorem k40_37 : pm_look (pm_kl 40) 37 = some (.if_icmp .ne 12, 3) := by decide +kernel
theorem k40_40 : pm_look (pm_kl 40) 40 = some (.aload_n 0, 1) := by decide +kernel
theorem k40_41 : pm_look (pm_kl 40) 41 = some (.iconst 1, 1) := by decide +kernel
theorem k40_42 : pm_look (pm_kl 40) 42 = some (.aload_n 0, 1) := by decide +kernel
theorem k40_43 : pm_look (pm_kl 40) 43 = some (.getfield 67, 3) := by decide +kernel
theorem k40_46 : pm_look (pm_kl 40) 46 = some (.invokevirtual 70, 3) := by decide +kernel
theorem k40_49 : pm_look (pm_kl 40) 49 = some (.aload_n 0, 1) := by decide +kernel
theorem k40_50 : pm_look (pm_kl 40) 50 = some (.getfield 38, 3) := by decide +kernel
theorem k40_53 : pm_look (pm_kl 40) 53 = some (.ifCond .ne 7, 3) := by decide +kernel
theorem k40_56 : pm_look (pm_kl 40) 56 = some (.aload_n 0, 1) := by decide +kernel
theorem k40_57 : pm_look (pm_kl 40) 57 = some (.invokevirtual 74, 3) := by decide +kernel
theorem k40_60 : pm_look (pm_kl 40) 60 = some (.iload_n 1, 1) := by decide +kernel
theorem k40_61 : pm_look (pm_kl 40) 61 = some (.ireturn, 1) := by decide +kernel
theorem k41_0 : pm_look (pm_kl 41) 0 = some (.iconst 0, 1) := by decide +kernel
theorem k41_1 : pm_look (pm_kl 41) 1 = some (.istore_n 2, 1) := by decide +kernel
theorem k41_2 : pm_look (pm_kl 41) 2 = some (.iconst 0, 1) := by decide +kernel
theorem k41_3 : pm_look (pm_kl 41) 3 = some (.istore_n 3, 1) := by decide +kernel
theorem k41_4 : pm_look (pm_kl 41) 4 = some (.aload_n 0, 1) := by decide +kernel
theorem k41_5 : pm_look (pm_kl 41) 5 = some (.getfield 34, 3) := by decide +kernel
theorem k41_8 : pm_look (pm_kl 41) 8 = some (.iconst 1, 1) := by decide +kernel
theorem k41_9 : pm_look (pm_kl 41) 9 = some (.isub, 1) := by decide +kernel
theorem k41_10 : pm_look (pm_kl 41) 10 = some (.istore 4, 2) := by decide +kernel
theorem k41_12 : pm_look (pm_kl 41) 12 = some (.iload 4, 2) := by decide +kernel
theorem k41_14 : pm_look (pm_kl 41) 14 = some (.ifCond .lt 90, 3) := by decide +kernel
theorem k41_17 : pm_look (pm_kl 41) 17 = some (.aload_n 0, 1) := by decide +kernel
theorem k41_18 : pm_look (pm_kl 41) 18 = some (.getfield 9, 3) := by decide +kernel
theorem k41_21 : pm_look (pm_kl 41) 21 = some (.iload 4, 2) := by decide +kernel
theorem k41_23 : pm_look (pm_kl 41) 23 = some (.iaload, 1) := by decide +kernel
theorem k41_24 : pm_look (pm_kl 41) 24 = some (.iload_n 1, 1) := by decide +kernel
theorem k41_25 : pm_look (pm_kl 41) 25 = some (.if_icmp .gt 73, 3) := by decide +kernel
theorem k41_28 : pm_look (pm_kl 41) 28 = some (.iload_n 3, 1) := by decide +kernel
theorem k41_29 : pm_look (pm_kl 41) 29 = some (.iload 4, 2) := by decide +kernel
theorem k41_31 : pm_look (pm_kl 41) 31 = some (.iushr, 1) := by decide +kernel
theorem k41_32 : pm_look (pm_kl 41) 32 = some (.iconst 1, 1) := by decide +kernel
theorem k41_33 : pm_look (pm_kl 41) 33 = some (.iand, 1) := by decide +kernel
theorem k41_34 : pm_look (pm_kl 41) 34 = some (.ifCond .eq 6, 3) := by decide +kernel
theorem k41_37 : pm_look (pm_kl 41) 37 = some (.goto 61, 3) := by decide +kernel
theorem k41_40 : pm_look (pm_kl 41) 40 = some (.iload_n 2, 1) := by decide +kernel
theorem k41_41 : pm_look (pm_kl 41) 41 = some (.iconst 1, 1) := by decide +kernel
theorem k41_42 : pm_look (pm_kl 41) 42 = some (.iload 4, 2) := by decide +kernel
theorem k41_44 : pm_look (pm_kl 41) 44 = some (.ishl, 1) := by decide +kernel
theorem k41_45 : pm_look (pm_kl 41) 45 = some (.ior, 1) := by decide +kernel
theorem k41_46 : pm_look (pm_kl 41) 46 = some (.istore_n 2, 1) := by decide +kernel
theorem k41_47 : pm_look (pm_kl 41) 47 = some (.iconst 0, 1) := by decide +kernel
theorem k41_48 : pm_look (pm_kl 41) 48 = some (.istore 5, 2) := by decide +kernel
theorem k41_50 : pm_look (pm_kl 41) 50 = some (.iload 5, 2) := by decide +kernel
theorem k41_52 : pm_look (pm_kl 41) 52 = some (.aload_n 0, 1) := by decide +kernel
theorem k41_53 : pm_look (pm_kl 41) 53 = some (.getfield 15, 3) := by decide +kernel
theorem k41_56 : pm_look (pm_kl 41) 56 = some (.iload 4, 2) := by decide +kernel
theorem k41_58 : pm_look (pm_kl 41) 58 = some (.iaload, 1) := by decide +kernel
theorem k41_59 : pm_look (pm_kl 41) 59 = some (.if_icmp .ge 39, 3) := by decide +kernel
theorem k41_62 : pm_look (pm_kl 41) 62 = some (.aload_n 0, 1) := by decide +kernel
theorem k41_63 : pm_look (pm_kl 41) 63 = some (.getfield 20, 3) := by decide +kernel
theorem k41_66 : pm_look (pm_kl 41) 66 = some (.iload 4, 2) := by decide +kernel
theorem k41_68 : pm_look (pm_kl 41) 68 = some (.aaload, 1) := by decide +kernel
theorem k41_69 : pm_look (pm_kl 41) 69 = some (.iload 5, 2) := by decide +kernel
theorem k41_71 : pm_look (pm_kl 41) 71 = some (.iaload, 1) := by decide +kernel
theorem k41_72 : pm_look (pm_kl 41) 72 = some (.bipush 6, 2) := by decide +kernel
theorem k41_74 : pm_look (pm_kl 41) 74 = some (.if_icmp .ne 18, 3) := by decide +kernel
theorem k41_77 : pm_look (pm_kl 41) 77 = some (.iload_n 3, 1) := by decide +kernel
theorem k41_78 : pm_look (pm_kl 41) 78 = some (.iconst 1, 1) := by decide +kernel
theorem k41_79 : pm_look (pm_kl 41) 79 = some (.aload_n 0, 1) := by decide +kernel
theorem k41_80 : pm_look (pm_kl 41) 80 = some (.getfield 23, 3) := by decide +kernel
theorem k41_83 : pm_look (pm_kl 41) 83 = some (.iload 4, 2) := by decide +kernel
theorem k41_85 : pm_look (pm_kl 41) 85 = some (.aaload, 1) := by decide +kernel
theorem k41_86 : pm_look (pm_kl 41) 86 = some (.iload 5, 2) := by decide +kernel
theorem k41_88 : pm_look (pm_kl 41) 88 = some (.iaload, 1) := by decide +kernel
theorem k41_89 : pm_look (pm_kl 41) 89 = some (.ishl, 1) := by decide +kernel
theorem k41_90 : pm_look (pm_kl 41) 90 = some (.ior, 1) := by decide +kernel
theorem k41_91 : pm_look (pm_kl 41) 91 = some (.istore_n 3, 1) := by decide +kernel
theorem k41_92 : pm_look (pm_kl 41) 92 = some (.iinc 5 1, 3) := by decide +kernel
theorem k41_95 : pm_look (pm_kl 41) 95 = some (.goto (-45), 3) := by decide +kernel
theorem k41_98 : pm_look (pm_kl 41) 98 = some (.iinc 4 (-1), 3) := by decide +kernel
theorem k41_101 : pm_look (pm_kl 41) 101 = some (.goto (-89), 3) := by decide +kernel
theorem k41_104 : pm_look (pm_kl 41) 104 = some (.iload_n 2, 1) := by decide +kernel
theorem k41_105 : pm_look (pm_kl 41) 105 = some (.ireturn, 1) := by decide +kernel
theorem k42_0 : pm_look (pm_kl 42) 0 = some (.aload_n 0, 1) := by decide +kernel
theorem k42_1 : pm_look (pm_kl 42) 1 = some (.invokespecial 3, 3) := by decide +kernel
theorem k42_4 : pm_look (pm_kl 42) 4 = some (.aload_n 0, 1) := by decide +kernel
theorem k42_5 : pm_look (pm_kl 42) 5 = some (.iconst 4, 1) := by decide +kernel
theorem k42_6 : pm_look (pm_kl 42) 6 = some (.newarray .int, 2) := by decide +kernel
theorem k42_8 : pm_look (pm_kl 42) 8 = some (.putfield 9, 3) := by decide +kernel
theorem k42_11 : pm_look (pm_kl 42) 11 = some (.aload_n 0, 1) := by decide +kernel
theorem k42_12 : pm_look (pm_kl 42) 12 = some (.iconst 4, 1) := by decide +kernel
theorem k42_13 : pm_look (pm_kl 42) 13 = some (.iconst 5, 1) := by decide +kernel
theorem k42_14 : pm_look (pm_kl 42) 14 = some (.multianewarray 15 2, 4) := by decide +kernel
theorem k42_18 : pm_look (pm_kl 42) 18 = some (.putfield 17, 3) := by decide +kernel
theorem k42_21 : pm_look (pm_kl 42) 21 = some (.aload_n 0, 1) := by decide +kernel
theorem k42_22 : pm_look (pm_kl 42) 22 = some (.iconst 4, 1) := by decide +kernel
theorem k42_23 : pm_look (pm_kl 42) 23 = some (.iconst 5, 1) := by decide +kernel
theorem k42_24 : pm_look (pm_kl 42) 24 = some (.multianewarray 20 2, 4) := by decide +kernel
theorem k42_28 : pm_look (pm_kl 42) 28 = some (.putfield 22, 3) := by decide +kernel
theorem k42_31 : pm_look (pm_kl 42) 31 = some (.return_, 1) := by decide +kernel
theorem k43_0 : pm_look (pm_kl 43) 0 = some (.iload_n 1, 1) := by decide +kernel
theorem k43_1 : pm_look (pm_kl 43) 1 = some (.ifCond .lt 15, 3) := by decide +kernel
theorem k43_4 : pm_look (pm_kl 43) 4 = some (.iload_n 1, 1) := by decide +kernel
theorem k43_5 : pm_look (pm_kl 43) 5 = some (.aload_n 0, 1) := by decide +kernel
theorem k43_6 : pm_look (pm_kl 43) 6 = some (.getfield 25, 3) := by decide +kernel
theorem k43_9 : pm_look (pm_kl 43) 9 = some (.if_icmp .ge 7, 3) := by decide +kernel
theorem k43_12 : pm_look (pm_kl 43) 12 = some (.iconst 1, 1) := by decide +kernel
theorem k43_13 : pm_look (pm_kl 43) 13 = some (.goto 4, 3) := by decide +kernel
theorem k43_16 : pm_look (pm_kl 43) 16 = some (.iconst 0, 1) := by decide +kernel
theorem k43_17 : pm_look (pm_kl 43) 17 = some (.ireturn, 1) := by decide +kernel
theorem k44_0 : pm_look (pm_kl 44) 0 = some (.aload_n 0, 1) := by decide +kernel
theorem k44_1 : pm_look (pm_kl 44) 1 = some (.getfield 25, 3) := by decide +kernel
theorem k44_4 : pm_look (pm_kl 44) 4 = some (.iconst 4, 1) := by decide +kernel
theorem k44_5 : pm_look (pm_kl 44) 5 = some (.if_icmp .lt 7, 3) := by decide +kernel
theorem k44_8 : pm_look (pm_kl 44) 8 = some (.sipush (-1004), 3) := by decide +kernel
theorem k44_11 : pm_look (pm_kl 44) 11 = some (.ireturn, 1) := by decide +kernel
theorem k44_12 : pm_look (pm_kl 44) 12 = some (.aload_n 0, 1) := by decide +kernel
theorem k44_13 : pm_look (pm_kl 44) 13 = some (.dup, 1) := by decide +kernel
theorem k44_14 : pm_look (pm_kl 44) 14 = some (.getfield 25, 3) := by decide +kernel
theorem k44_17 : pm_look (pm_kl 44) 17 = some (.iconst 1, 1) := by decide +kernel
theorem k44_18 : pm_look (pm_kl 44) 18 = some (.iadd, 1) := by decide +kernel
theorem k44_19 : pm_look (pm_kl 44) 19 = some (.putfield 25, 3) := by decide +kernel
theorem k44_22 : pm_look (pm_kl 44) 22 = some (.aload_n 0, 1) := by decide +kernel
theorem k44_23 : pm_look (pm_kl 44) 23 = some (.getfield 25, 3) := by decide +kernel
theorem k44_26 : pm_look (pm_kl 44) 26 = some (.iconst 1, 1) := by decide +kernel
theorem k44_27 : pm_look (pm_kl 44) 27 = some (.isub, 1) := by decide +kernel
theorem k44_28 : pm_look (pm_kl 44) 28 = some (.ireturn, 1) := by decide +kernel
theorem k45_0 : pm_look (pm_kl 45) 0 = some (.iload_n 2, 1) := by decide +kernel
theorem k45_1 : pm_look (pm_kl 45) 1 = some (.iconst 5, 1) := by decide +kernel
theorem k45_2 : pm_look (pm_kl 45) 2 = some (.if_icmp .ge 15, 3) := by decide +kernel
theorem k45_5 : pm_look (pm_kl 45) 5 = some (.aload_n 0, 1) := by decide +kernel
theorem k45_6 : pm_look (pm_kl 45) 6 = some (.getfield 17, 3) := by decide +kernel
theorem k45_9 : pm_look (pm_kl 45) 9 = some (.iload_n 1, 1) := by decide +kernel
theorem k45_10 : pm_look (pm_kl 45) 10 = some (.aaload, 1) := by decide +kernel
theorem k45_11 : pm_look (pm_kl 45) 11 = some (.iload_n 2, 1) := by decide +kernel
theorem k45_12 : pm_look (pm_kl 45) 12 = some (.iaload, 1) := by decide +kernel
theorem k45_13 : pm_look (pm_kl 45) 13 = some (.iconst 3, 1) := by decide +kernel
theorem k45_14 : pm_look (pm_kl 45) 14 = some (.if_icmp .lt 7, 3) := by decide +kernel
theorem k45_17 : pm_look (pm_kl 45) 17 = some (.sipush (-1004), 3) := by decide +kernel
theorem k45_20 : pm_look (pm_kl 45) 20 = some (.ireturn, 1) := by decide +kernel
theorem k45_21 : pm_look (pm_kl 45) 21 = some (.iload_n 2, 1) := by decide +kernel
theorem k45_22 : pm_look (pm_kl 45) 22 = some (.aload_n 0, 1) := by decide +kernel
theorem k45_23 : pm_look (pm_kl 45) 23 = some (.getfield 9, 3) := by decide +kernel
theorem k45_26 : pm_look (pm_kl 45) 26 = some (.iload_n 1, 1) := by decide +kernel
theorem k45_27 : pm_look (pm_kl 45) 27 = some (.iaload, 1) := by decide +kernel
theorem k45_28 : pm_look (pm_kl 45) 28 = some (.if_icmp .ne 13, 3) := by decide +kernel
theorem k45_31 : pm_look (pm_kl 45) 31 = some (.aload_n 0, 1) := by decide +kernel
theorem k45_32 : pm_look (pm_kl 45) 32 = some (.getfield 9, 3) := by decide +kernel
theorem k45_35 : pm_look (pm_kl 45) 35 = some (.iload_n 1, 1) := by decide +kernel
theorem k45_36 : pm_look (pm_kl 45) 36 = some (.dup2, 1) := by decide +kernel
theorem k45_37 : pm_look (pm_kl 45) 37 = some (.iaload, 1) := by decide +kernel
theorem k45_38 : pm_look (pm_kl 45) 38 = some (.iconst 1, 1) := by decide +kernel
theorem k45_39 : pm_look (pm_kl 45) 39 = some (.iadd, 1) := by decide +kernel
theorem k45_40 : pm_look (pm_kl 45) 40 = some (.iastore, 1) := by decide +kernel
theorem k45_41 : pm_look (pm_kl 45) 41 = some (.aload_n 0, 1) := by decide +kernel
theorem k45_42 : pm_look (pm_kl 45) 42 = some (.getfield 22, 3) := by decide +kernel
theorem k45_45 : pm_look (pm_kl 45) 45 = some (.iload_n 1, 1) := by decide +kernel
theorem k45_46 : pm_look (pm_kl 45) 46 = some (.aaload, 1) := by decide +kernel
theorem k45_47 : pm_look (pm_kl 45) 47 = some (.iload_n 2, 1) := by decide +kernel
theorem k45_48 : pm_look (pm_kl 45) 48 = some (.dup2, 1) := by decide +kernel
theorem k45_49 : pm_look (pm_kl 45) 49 = some (.laload, 1) := by decide +kernel
theorem k45_50 : pm_look (pm_kl 45) 50 = some (.lconst 1, 1) := by decide +kernel
theorem k45_51 : pm_look (pm_kl 45) 51 = some (.iload_n 3, 1) := by decide +kernel
theorem k45_52 : pm_look (pm_kl 45) 52 = some (.lshl, 1) := by decide +kernel
theorem k45_53 : pm_look (pm_kl 45) 53 = some (.lor, 1) := by decide +kernel
theorem k45_54 : pm_look (pm_kl 45) 54 = some (.lastore, 1) := by decide +kernel
theorem k45_55 : pm_look (pm_kl 45) 55 = some (.aload_n 0, 1) := by decide +kernel
theorem k45_56 : pm_look (pm_kl 45) 56 = some (.getfield 17, 3) := by decide +kernel
theorem k45_59 : pm_look (pm_kl 45) 59 = some (.iload_n 1, 1) := by decide +kernel
theorem k45_60 : pm_look (pm_kl 45) 60 = some (.aaload, 1) := by decide +kernel
theorem k45_61 : pm_look (pm_kl 45) 61 = some (.iload_n 2, 1) := by decide +kernel
theorem k45_62 : pm_look (pm_kl 45) 62 = some (.dup2, 1) := by decide +kernel
theorem k45_63 : pm_look (pm_kl 45) 63 = some (.iaload, 1) := by decide +kernel
theorem k45_64 : pm_look (pm_kl 45) 64 = some (.iconst 1, 1) := by decide +kernel
theorem k45_65 : pm_look (pm_kl 45) 65 = some (.iadd, 1) := by decide +kernel
theorem k45_66 : pm_look (pm_kl 45) 66 = some (.iastore, 1) := by decide +kernel
theorem k45_67 : pm_look (pm_kl 45) 67 = some (.aload_n 0, 1) := by decide +kernel
theorem k45_68 : pm_look (pm_kl 45) 68 = some (.getfield 17, 3) := by decide +kernel
theorem k45_71 : pm_look (pm_kl 45) 71 = some (.iload_n 1, 1) := by decide +kernel
theorem k45_72 : pm_look (pm_kl 45) 72 = some (.aaload, 1) := by decide +kernel
theorem k45_73 : pm_look (pm_kl 45) 73 = some (.iload_n 2, 1) := by decide +kernel
theorem k45_74 : pm_look (pm_kl 45) 74 = some (.iaload, 1) := by decide +kernel
theorem k45_75 : pm_look (pm_kl 45) 75 = some (.ireturn, 1) := by decide +kernel
theorem k46_0 : pm_look (pm_kl 46) 0 = some (.aload_n 0, 1) := by decide +kernel
theorem k46_1 : pm_look (pm_kl 46) 1 = some (.invokespecial 3, 3) := by decide +kernel
theorem k46_4 : pm_look (pm_kl 46) 4 = some (.aload_n 0, 1) := by decide +kernel
theorem k46_5 : pm_look (pm_kl 46) 5 = some (.sipush 160, 3) := by decide +kernel
theorem k46_8 : pm_look (pm_kl 46) 8 = some (.newarray .int, 2) := by decide +kernel
theorem k46_10 : pm_look (pm_kl 46) 10 = some (.putfield 9, 3) := by decide +kernel
theorem k46_13 : pm_look (pm_kl 46) 13 = some (.return_, 1) := by decide +kernel
theorem k47_0 : pm_look (pm_kl 47) 0 = some (.aload_n 0, 1) := by decide +kernel
theorem k47_1 : pm_look (pm_kl 47) 1 = some (.getfield 15, 3) := by decide +kernel
theorem k47_4 : pm_look (pm_kl 47) 4 = some (.sipush 160, 3) := by decide +kernel
theorem k47_7 : pm_look (pm_kl 47) 7 = some (.if_icmp .lt 4, 3) := by decide +kernel
theorem k47_10 : pm_look (pm_kl 47) 10 = some (.return_, 1) := by decide +kernel
theorem k47_11 : pm_look (pm_kl 47) 11 = some (.aload_n 0, 1) := by decide +kernel
theorem k47_12 : pm_look (pm_kl 47) 12 = some (.getfield 9, 3) := by decide +kernel
theorem k47_15 : pm_look (pm_kl 47) 15 = some (.aload_n 0, 1) := by decide +kernel
theorem k47_16 : pm_look (pm_kl 47) 16 = some (.getfield 15, 3) := by decide +kernel
theorem k47_19 : pm_look (pm_kl 47) 19 = some (.iload_n 1, 1) := by decide +kernel
theorem k47_20 : pm_look (pm_kl 47) 20 = some (.iastore, 1) := by decide +kernel
theorem k47_21 : pm_look (pm_kl 47) 21 = some (.aload_n 0, 1) := by decide +kernel
theorem k47_22 : pm_look (pm_kl 47) 22 = some (.dup, 1) := by decide +kernel
theorem k47_23 : pm_look (pm_kl 47) 23 = some (.getfield 15, 3) := by decide +kernel
theorem k47_26 : pm_look (pm_kl 47) 26 = some (.iconst 1, 1) := by decide +kernel
theorem k47_27 : pm_look (pm_kl 47) 27 = some (.iadd, 1) := by decide +kernel
theorem k47_28 : pm_look (pm_kl 47) 28 = some (.putfield 15, 3) := by decide +kernel
theorem k47_31 : pm_look (pm_kl 47) 31 = some (.return_, 1) := by decide +kernel
theorem k48_0 : pm_look (pm_kl 48) 0 = some (.aload_n 0, 1) := by decide +kernel
theorem k48_1 : pm_look (pm_kl 48) 1 = some (.iconst 0, 1) := by decide +kernel
theorem k48_2 : pm_look (pm_kl 48) 2 = some (.putfield 19, 3) := by decide +kernel
theorem k48_5 : pm_look (pm_kl 48) 5 = some (.aload_n 0, 1) := by decide +kernel
theorem k48_6 : pm_look (pm_kl 48) 6 = some (.iconst (-1), 1) := by decide +kernel
theorem k48_7 : pm_look (pm_kl 48) 7 = some (.putfield 22, 3) := by decide +kernel
theorem k48_10 : pm_look (pm_kl 48) 10 = some (.aload_n 0, 1) := by decide +kernel
theorem k48_11 : pm_look (pm_kl 48) 11 = some (.iconst 0, 1) := by decide +kernel
theorem k48_12 : pm_look (pm_kl 48) 12 = some (.putfield 25, 3) := by decide +kernel
theorem k48_15 : pm_look (pm_kl 48) 15 = some (.aload_n 0, 1) := by decide +kernel
theorem k48_16 : pm_look (pm_kl 48) 16 = some (.invokevirtual 28, 3) := by decide +kernel
theorem k48_19 : pm_look (pm_kl 48) 19 = some (.return_, 1) := by decide +kernel
theorem k49_0 : pm_look (pm_kl 49) 0 = some (.iload_n 1, 1) := by decide +kernel
theorem k49_1 : pm_look (pm_kl 49) 1 = some (.ifCond .lt 20, 3) := by decide +kernel
theorem k49_4 : pm_look (pm_kl 49) 4 = some (.iload_n 1, 1) := by decide +kernel
theorem k49_5 : pm_look (pm_kl 49) 5 = some (.aload_n 0, 1) := by decide +kernel
theorem k49_6 : pm_look (pm_kl 49) 6 = some (.getfield 15, 3) := by decide +kernel
theorem k49_9 : pm_look (pm_kl 49) 9 = some (.if_icmp .ge 12, 3) := by decide +kernel
theorem k49_12 : pm_look (pm_kl 49) 12 = some (.aload_n 0, 1) := by decide +kernel
theorem k49_13 : pm_look (pm_kl 49) 13 = some (.getfield 9, 3) := by decide +kernel
theorem k49_16 : pm_look (pm_kl 49) 16 = some (.iload_n 1, 1) := by decide +kernel
theorem k49_17 : pm_look (pm_kl 49) 17 = some (.iaload, 1) := by decide +kernel
theorem k49_18 : pm_look (pm_kl 49) 18 = some (.goto 4, 3) := by decide +kernel
theorem k49_21 : pm_look (pm_kl 49) 21 = some (.iconst (-1), 1) := by decide +kernel
theorem k49_22 : pm_look (pm_kl 49) 22 = some (.ireturn, 1) := by decide +kernel
theorem k50_0 : pm_look (pm_kl 50) 0 = some (.iload_n 0, 1) := by decide +kernel
theorem k50_1 : pm_look (pm_kl 50) 1 = some (.iconst (-1), 1) := by decide +kernel
theorem k50_2 : pm_look (pm_kl 50) 2 = some (.if_icmp .ne 5, 3) := by decide +kernel
theorem k50_5 : pm_look (pm_kl 50) 5 = some (.iconst 0, 1) := by decide +kernel
theorem k50_6 : pm_look (pm_kl 50) 6 = some (.ireturn, 1) := by decide +kernel
theorem k50_7 : pm_look (pm_kl 50) 7 = some (.iload_n 0, 1) := by decide +kernel
theorem k50_8 : pm_look (pm_kl 50) 8 = some (.bipush 97, 2) := by decide +kernel
theorem k50_10 : pm_look (pm_kl 50) 10 = some (.if_icmp .lt 11, 3) := by decide +kernel
theorem k50_13 : pm_look (pm_kl 50) 13 = some (.iload_n 0, 1) := by decide +kernel
theorem k50_14 : pm_look (pm_kl 50) 14 = some (.bipush 122, 2) := by decide +kernel
theorem k50_16 : pm_look (pm_kl 50) 16 = some (.if_icmp .gt 5, 3) := by decide +kernel
theorem k50_19 : pm_look (pm_kl 50) 19 = some (.iconst 1, 1) := by decide +kernel
theorem k50_20 : pm_look (pm_kl 50) 20 = some (.ireturn, 1) := by decide +kernel
theorem k50_21 : pm_look (pm_kl 50) 21 = some (.iload_n 0, 1) := by decide +kernel
theorem k50_22 : pm_look (pm_kl 50) 22 = some (.bipush 48, 2) := by decide +kernel
theorem k50_24 : pm_look (pm_kl 50) 24 = some (.if_icmp .lt 11, 3) := by decide +kernel
theorem k50_27 : pm_look (pm_kl 50) 27 = some (.iload_n 0, 1) := by decide +kernel
theorem k50_28 : pm_look (pm_kl 50) 28 = some (.bipush 57, 2) := by decide +kernel
theorem k50_30 : pm_look (pm_kl 50) 30 = some (.if_icmp .gt 5, 3) := by decide +kernel
theorem k50_33 : pm_look (pm_kl 50) 33 = some (.iconst 2, 1) := by decide +kernel
theorem k50_34 : pm_look (pm_kl 50) 34 = some (.ireturn, 1) := by decide +kernel
theorem k50_35 : pm_look (pm_kl 50) 35 = some (.iconst 3, 1) := by decide +kernel
theorem k50_36 : pm_look (pm_kl 50) 36 = some (.ireturn, 1) := by decide +kernel
theorem k51_0 : pm_look (pm_kl 51) 0 = some (.aload_n 0, 1) := by decide +kernel
theorem k51_1 : pm_look (pm_kl 51) 1 = some (.aload_n 0, 1) := by decide +kernel
theorem k51_2 : pm_look (pm_kl 51) 2 = some (.getfield 25, 3) := by decide +kernel
theorem k51_5 : pm_look (pm_kl 51) 5 = some (.putfield 31, 3) := by decide +kernel
theorem k51_8 : pm_look (pm_kl 51) 8 = some (.aload_n 0, 1) := by decide +kernel
theorem k51_9 : pm_look (pm_kl 51) 9 = some (.getfield 31, 3) := by decide +kernel
theorem k51_12 : pm_look (pm_kl 51) 12 = some (.aload_n 0, 1) := by decide +kernel
theorem k51_13 : pm_look (pm_kl 51) 13 = some (.getfield 15, 3) := by decide +kernel
theorem k51_16 : pm_look (pm_kl 51) 16 = some (.if_icmp .ge 29, 3) := by decide +kernel
theorem k51_19 : pm_look (pm_kl 51) 19 = some (.aload_n 0, 1) := by decide +kernel
theorem k51_20 : pm_look (pm_kl 51) 20 = some (.aload_n 0, 1) := by decide +kernel
theorem k51_21 : pm_look (pm_kl 51) 21 = some (.getfield 31, 3) := by decide +kernel
theorem k51_24 : pm_look (pm_kl 51) 24 = some (.invokevirtual 34, 3) := by decide +kernel
theorem k51_27 : pm_look (pm_kl 51) 27 = some (.bipush 32, 2) := by decide +kernel
theorem k51_29 : pm_look (pm_kl 51) 29 = some (.if_icmp .ne 16, 3) := by decide +kernel
theorem k51_32 : pm_look (pm_kl 51) 32 = some (.aload_n 0, 1) := by decide +kernel
theorem k51_33 : pm_look (pm_kl 51) 33 = some (.dup, 1) := by decide +kernel
theorem k51_34 : pm_look (pm_kl 51) 34 = some (.getfield 31, 3) := by decide +kernel
theorem k51_37 : pm_look (pm_kl 51) 37 = some (.iconst 1, 1) := by decide +kernel
theorem k51_38 : pm_look (pm_kl 51) 38 = some (.iadd, 1) := by decide +kernel
theorem k51_39 : pm_look (pm_kl 51) 39 = some (.putfield 31, 3) := by decide +kernel
theorem k51_42 : pm_look (pm_kl 51) 42 = some (.goto (-34), 3) := by decide +kernel
theorem k51_45 : pm_look (pm_kl 51) 45 = some (.aload_n 0, 1) := by decide +kernel
theorem k51_46 : pm_look (pm_kl 51) 46 = some (.aload_n 0, 1) := by decide +kernel
theorem k51_47 : pm_look (pm_kl 51) 47 = some (.aload_n 0, 1) := by decide +kernel
theorem k51_48 : pm_look (pm_kl 51) 48 = some (.getfield 31, 3) := by decide +kernel
theorem k51_51 : pm_look (pm_kl 51) 51 = some (.invokevirtual 34, 3) := by decide +kernel
theorem k51_54 : pm_look (pm_kl 51) 54 = some (.invokestatic 38, 3) := by decide +kernel
theorem k51_57 : pm_look (pm_kl 51) 57 = some (.putfield 41, 3) := by decide +kernel
theorem k51_60 : pm_look (pm_kl 51) 60 = some (.aload_n 0, 1) := by decide +kernel
theorem k51_61 : pm_look (pm_kl 51) 61 = some (.aload_n 0, 1) := by decide +kernel
theorem k51_62 : pm_look (pm_kl 51) 62 = some (.getfield 31, 3) := by decide +kernel
theorem k51_65 : pm_look (pm_kl 51) 65 = some (.putfield 25, 3) := by decide +kernel
theorem k51_68 : pm_look (pm_kl 51) 68 = some (.aload_n 0, 1) := by decide +kernel
theorem k51_69 : pm_look (pm_kl 51) 69 = some (.getfield 41, 3) := by decide +kernel
theorem k51_72 : pm_look (pm_kl 51) 72 = some (.ifCond .ne 4, 3) := by decide +kernel
theorem k51_75 : pm_look (pm_kl 51) 75 = some (.return_, 1) := by decide +kernel
theorem k51_76 : pm_look (pm_kl 51) 76 = some (.aload_n 0, 1) := by decide +kernel
theorem k51_77 : pm_look (pm_kl 51) 77 = some (.dup, 1) := by decide +kernel
theorem k51_78 : pm_look (pm_kl 51) 78 = some (.getfield 25, 3) := by decide +kernel
theorem k51_81 : pm_look (pm_kl 51) 81 = some (.iconst 1, 1) := by decide +kernel
theorem k51_82 : pm_look (pm_kl 51) 82 = some (.iadd, 1) := by decide +kernel
theorem k51_83 : pm_look (pm_kl 51) 83 = some (.putfield 25, 3) := by decide +kernel
theorem k51_86 : pm_look (pm_kl 51) 86 = some (.aload_n 0, 1) := by decide +kernel
theorem k51_87 : pm_look (pm_kl 51) 87 = some (.getfield 41, 3) := by decide +kernel
theorem k51_90 : pm_look (pm_kl 51) 90 = some (.iconst 3, 1) := by decide +kernel
theorem k51_91 : pm_look (pm_kl 51) 91 = some (.if_icmp .ne 4, 3) := by decide +kernel
theorem k51_94 : pm_look (pm_kl 51) 94 = some (.return_, 1) := by decide +kernel
theorem k51_95 : pm_look (pm_kl 51) 95 = some (.aload_n 0, 1) := by decide +kernel
theorem k51_96 : pm_look (pm_kl 51) 96 = some (.getfield 25, 3) := by decide +kernel
theorem k51_99 : pm_look (pm_kl 51) 99 = some (.aload_n 0, 1) := by decide +kernel
theorem k51_100 : pm_look (pm_kl 51) 100 = some (.getfield 15, 3) := by decide +kernel
theorem k51_103 : pm_look (pm_kl 51) 103 = some (.if_icmp .ge 34, 3) := by decide +kernel
theorem k51_106 : pm_look (pm_kl 51) 106 = some (.aload_n 0, 1) := by decide +kernel
theorem k51_107 : pm_look (pm_kl 51) 107 = some (.aload_n 0, 1) := by decide +kernel
theorem k51_108 : pm_look (pm_kl 51) 108 = some (.getfield 25, 3) := by decide +kernel
theorem k51_111 : pm_look (pm_kl 51) 111 = some (.invokevirtual 34, 3) := by decide +kernel
theorem k51_114 : pm_look (pm_kl 51) 114 = some (.invokestatic 38, 3) := by decide +kernel
theorem k51_117 : pm_look (pm_kl 51) 117 = some (.aload_n 0, 1) := by decide +kernel
theorem k51_118 : pm_look (pm_kl 51) 118 = some (.getfield 41, 3) := by decide +kernel
theorem k51_121 : pm_look (pm_kl 51) 121 = some (.if_icmp .ne 16, 3) := by decide +kernel
theorem k51_124 : pm_look (pm_kl 51) 124 = some (.aload_n 0, 1) := by decide +kernel
theorem k51_125 : pm_look (pm_kl 51) 125 = some (.dup, 1) := by decide +kernel
theorem k51_126 : pm_look (pm_kl 51) 126 = some (.getfield 25, 3) := by decide +kernel
theorem k51_129 : pm_look (pm_kl 51) 129 = some (.iconst 1, 1) := by decide +kernel
theorem k51_130 : pm_look (pm_kl 51) 130 = some (.iadd, 1) := by decide +kernel
theorem k51_131 : pm_look (pm_kl 51) 131 = some (.putfield 25, 3) := by decide +kernel
theorem k51_134 : pm_look (pm_kl 51) 134 = some (.goto (-39), 3) := by decide +kernel
theorem k51_137 : pm_look (pm_kl 51) 137 = some (.return_, 1) := by decide +kernel
theorem k52_0 : pm_look (pm_kl 52) 0 = some (.aload_n 0, 1) := by decide +kernel
theorem k52_1 : pm_look (pm_kl 52) 1 = some (.getfield 19, 3) := by decide +kernel
theorem k52_4 : pm_look (pm_kl 52) 4 = some (.ifCond .eq 4, 3) := by decide +kernel
theorem k52_7 : pm_look (pm_kl 52) 7 = some (.return_, 1) := by decide +kernel
theorem k52_8 : pm_look (pm_kl 52) 8 = some (.aload_n 0, 1) := by decide +kernel
theorem k52_9 : pm_look (pm_kl 52) 9 = some (.iload_n 1, 1) := by decide +kernel
theorem k52_10 : pm_look (pm_kl 52) 10 = some (.putfield 19, 3) := by decide +kernel
theorem k52_13 : pm_look (pm_kl 52) 13 = some (.aload_n 0, 1) := by decide +kernel
theorem k52_14 : pm_look (pm_kl 52) 14 = some (.iload_n 2, 1) := by decide +kernel
theorem k52_15 : pm_look (pm_kl 52) 15 = some (.putfield 22, 3) := by decide +kernel
theorem k52_18 : pm_look (pm_kl 52) 18 = some (.return_, 1) := by decide +kernel
theorem k53_0 : pm_look (pm_kl 53) 0 = some (.aload_n 0, 1) := by decide +kernel
theorem k53_1 : pm_look (pm_kl 53) 1 = some (.getfield 41, 3) := by decide +kernel
theorem k53_4 : pm_look (pm_kl 53) 4 = some (.iconst 1, 1) := by decide +kernel
theorem k53_5 : pm_look (pm_kl 53) 5 = some (.if_icmp .ne 19, 3) := by decide +kernel
theorem k53_8 : pm_look (pm_kl 53) 8 = some (.aload_n 0, 1) := by decide +kernel
theorem k53_9 : pm_look (pm_kl 53) 9 = some (.getfield 25, 3) := by decide +kernel
theorem k53_12 : pm_look (pm_kl 53) 12 = some (.aload_n 0, 1) := by decide +kernel
theorem k53_13 : pm_look (pm_kl 53) 13 = some (.getfield 31, 3) := by decide +kernel
theorem k53_16 : pm_look (pm_kl 53) 16 = some (.isub, 1) := by decide +kernel
theorem k53_17 : pm_look (pm_kl 53) 17 = some (.aload_n 1, 1) := by decide +kernel
theorem k53_18 : pm_look (pm_kl 53) 18 = some (.invokevirtual 44, 3) := by decide +kernel
theorem k53_21 : pm_look (pm_kl 53) 21 = some (.if_icmp .eq 5, 3) := by decide +kernel
theorem k53_24 : pm_look (pm_kl 53) 24 = some (.iconst 0, 1) := by decide +kernel
theorem k53_25 : pm_look (pm_kl 53) 25 = some (.ireturn, 1) := by decide +kernel
theorem k53_26 : pm_look (pm_kl 53) 26 = some (.iconst 0, 1) := by decide +kernel
theorem k53_27 : pm_look (pm_kl 53) 27 = some (.istore_n 2, 1) := by decide +kernel
theorem k53_28 : pm_look (pm_kl 53) 28 = some (.iload_n 2, 1) := by decide +kernel
theorem k53_29 : pm_look (pm_kl 53) 29 = some (.aload_n 1, 1) := by decide +kernel
theorem k53_30 : pm_look (pm_kl 53) 30 = some (.invokevirtual 44, 3) := by decide +kernel
theorem k53_33 : pm_look (pm_kl 53) 33 = some (.if_icmp .ge 29, 3) := by decide +kernel
theorem k53_36 : pm_look (pm_kl 53) 36 = some (.aload_n 0, 1) := by decide +kernel
theorem k53_37 : pm_look (pm_kl 53) 37 = some (.aload_n 0, 1) := by decide +kernel
theorem k53_38 : pm_look (pm_kl 53) 38 = some (.getfield 31, 3) := by decide +kernel
theorem k53_41 : pm_look (pm_kl 53) 41 = some (.iload_n 2, 1) := by decide +kernel
theorem k53_42 : pm_look (pm_kl 53) 42 = some (.iadd, 1) := by decide +kernel
theorem k53_43 : pm_look (pm_kl 53) 43 = some (.invokevirtual 34, 3) := by decide +kernel
theorem k53_46 : pm_look (pm_kl 53) 46 = some (.aload_n 1, 1) := by decide +kernel
theorem k53_47 : pm_look (pm_kl 53) 47 = some (.iload_n 2, 1) := by decide +kernel
theorem k53_48 : pm_look (pm_kl 53) 48 = some (.invokevirtual 49, 3) := by decide +kernel
theorem k53_51 : pm_look (pm_kl 53) 51 = some (.if_icmp .eq 5, 3) := by decide +kernel
theorem k53_54 : pm_look (pm_kl 53) 54 = some (.iconst 0, 1) := by decide +kernel
theorem k53_55 : pm_look (pm_kl 53) 55 = some (.ireturn, 1) := by decide +kernel
theorem k53_56 : pm_look (pm_kl 53) 56 = some (.iinc 2 1, 3) := by decide +kernel
theorem k53_59 : pm_look (pm_kl 53) 59 = some (.goto (-31), 3) := by decide +kernel
theorem k53_62 : pm_look (pm_kl 53) 62 = some (.iconst 1, 1) := by decide +kernel
theorem k53_63 : pm_look (pm_kl 53) 63 = some (.ireturn, 1) := by decide +kernel
theorem k54_0 : pm_look (pm_kl 54) 0 = some (.aload_n 0, 1) := by decide +kernel
theorem k54_1 : pm_look (pm_kl 54) 1 = some (.getfield 41, 3) := by decide +kernel
theorem k54_4 : pm_look (pm_kl 54) 4 = some (.iconst 3, 1) := by decide +kernel
theorem k54_5 : pm_look (pm_kl 54) 5 = some (.if_icmp .ne 19, 3) := by decide +kernel
theorem k54_8 : pm_look (pm_kl 54) 8 = some (.aload_n 0, 1) := by decide +kernel
theorem k54_9 : pm_look (pm_kl 54) 9 = some (.aload_n 0, 1) := by decide +kernel
theorem k54_10 : pm_look (pm_kl 54) 10 = some (.getfield 31, 3) := by decide +kernel
theorem k54_13 : pm_look (pm_kl 54) 13 = some (.invokevirtual 34, 3) := by decide +kernel
theorem k54_16 : pm_look (pm_kl 54) 16 = some (.iload_n 1, 1) := by decide +kernel
theorem k54_17 : pm_look (pm_kl 54) 17 = some (.if_icmp .ne 7, 3) := by decide +kernel
theorem k54_20 : pm_look (pm_kl 54) 20 = some (.iconst 1, 1) := by decide +kernel
theorem k54_21 : pm_look (pm_kl 54) 21 = some (.goto 4, 3) := by decide +kernel
theorem k54_24 : pm_look (pm_kl 54) 24 = some (.iconst 0, 1) := by decide +kernel
theorem k54_25 : pm_look (pm_kl 54) 25 = some (.ireturn, 1) := by decide +kernel
theorem k55_0 : pm_look (pm_kl 55) 0 = some (.aload_n 0, 1) := by decide +kernel
theorem k55_1 : pm_look (pm_kl 55) 1 = some (.aload_n 1, 1) := by decide +kernel
theorem k55_2 : pm_look (pm_kl 55) 2 = some (.invokevirtual 53, 3) := by decide +kernel
theorem k55_5 : pm_look (pm_kl 55) 5 = some (.ifCond .ne 12, 3) := by decide +kernel
theorem k55_8 : pm_look (pm_kl 55) 8 = some (.aload_n 0, 1) := by decide +kernel
theorem k55_9 : pm_look (pm_kl 55) 9 = some (.iconst 1, 1) := by decide +kernel
theorem k55_10 : pm_look (pm_kl 55) 10 = some (.aload_n 0, 1) := by decide +kernel
theorem k55_11 : pm_look (pm_kl 55) 11 = some (.getfield 31, 3) := by decide +kernel
theorem k55_14 : pm_look (pm_kl 55) 14 = some (.invokevirtual 57, 3) := by decide +kernel
theorem k55_17 : pm_look (pm_kl 55) 17 = some (.aload_n 0, 1) := by decide +kernel
theorem k55_18 : pm_look (pm_kl 55) 18 = some (.getfield 19, 3) := by decide +kernel
theorem k55_21 : pm_look (pm_kl 55) 21 = some (.ifCond .ne 7, 3) := by decide +kernel
theorem k55_24 : pm_look (pm_kl 55) 24 = some (.aload_n 0, 1) := by decide +kernel
theorem k55_25 : pm_look (pm_kl 55) 25 = some (.invokevirtual 28, 3) := by decide +kernel
theorem k55_28 : pm_look (pm_kl 55) 28 = some (.return_, 1) := by decide +kernel
theorem k56_0 : pm_look (pm_kl 56) 0 = some (.aload_n 0, 1) := by decide +kernel
theorem k56_1 : pm_look (pm_kl 56) 1 = some (.iload_n 1, 1) := by decide +kernel
theorem k56_2 : pm_look (pm_kl 56) 2 = some (.invokevirtual 61, 3) := by decide +kernel
theorem k56_5 : pm_look (pm_kl 56) 5 = some (.ifCond .ne 12, 3) := by decide +kernel
theorem k56_8 : pm_look (pm_kl 56) 8 = some (.aload_n 0, 1) := by decide +kernel
theorem k56_9 : pm_look (pm_kl 56) 9 = some (.iconst 1, 1) := by decide +kernel
theorem k56_10 : pm_look (pm_kl 56) 10 = some (.aload_n 0, 1) := by decide +kernel
theorem k56_11 : pm_look (pm_kl 56) 11 = some (.getfield 31, 3) := by decide +kernel
theorem k56_14 : pm_look (pm_kl 56) 14 = some (.invokevirtual 57, 3) := by decide +kernel
theorem k56_17 : pm_look (pm_kl 56) 17 = some (.aload_n 0, 1) := by decide +kernel
theorem k56_18 : pm_look (pm_kl 56) 18 = some (.getfield 19, 3) := by decide +kernel
theorem k56_21 : pm_look (pm_kl 56) 21 = some (.ifCond .ne 7, 3) := by decide +kernel
theorem k56_24 : pm_look (pm_kl 56) 24 = some (.aload_n 0, 1) := by decide +kernel
theorem k56_25 : pm_look (pm_kl 56) 25 = some (.invokevirtual 28, 3) := by decide +kernel
theorem k56_28 : pm_look (pm_kl 56) 28 = some (.return_, 1) := by decide +kernel
theorem k57_0 : pm_look (pm_kl 57) 0 = some (.aload_n 0, 1) := by decide +kernel
theorem k57_1 : pm_look (pm_kl 57) 1 = some (.getfield 41, 3) := by decide +kernel
theorem k57_4 : pm_look (pm_kl 57) 4 = some (.iconst 2, 1) := by decide +kernel
theorem k57_5 : pm_look (pm_kl 57) 5 = some (.if_icmp .eq 12, 3) := by decide +kernel
theorem k57_8 : pm_look (pm_kl 57) 8 = some (.aload_n 0, 1) := by decide +kernel
theorem k57_9 : pm_look (pm_kl 57) 9 = some (.iconst 1, 1) := by decide +kernel
theorem k57_10 : pm_look (pm_kl 57) 10 = some (.aload_n 0, 1) := by decide +kernel
theorem k57_11 : pm_look (pm_kl 57) 11 = some (.getfield 31, 3) := by decide +kernel
theorem k57_14 : pm_look (pm_kl 57) 14 = some (.invokevirtual 57, 3) := by decide +kernel
theorem k57_17 : pm_look (pm_kl 57) 17 = some (.aload_n 0, 1) := by decide +kernel
theorem k57_18 : pm_look (pm_kl 57) 18 = some (.getfield 25, 3) := by decide +kernel
theorem k57_21 : pm_look (pm_kl 57) 21 = some (.aload_n 0, 1) := by decide +kernel
theorem k57_22 : pm_look (pm_kl 57) 22 = some (.getfield 31, 3) := by decide +kernel
theorem k57_25 : pm_look (pm_kl 57) 25 = some (.isub, 1) := by decide +kernel
theorem k57_26 : pm_look (pm_kl 57) 26 = some (.iload_n 3, 1) := by decide +kernel
theorem k57_27 : pm_look (pm_kl 57) 27 = some (.if_icmp .le 12, 3) := by decide +kernel
theorem k57_30 : pm_look (pm_kl 57) 30 = some (.aload_n 0, 1) := by decide +kernel
theorem k57_31 : pm_look (pm_kl 57) 31 = some (.iconst 2, 1) := by decide +kernel
theorem k57_32 : pm_look (pm_kl 57) 32 = some (.aload_n 0, 1) := by decide +kernel
theorem k57_33 : pm_look (pm_kl 57) 33 = some (.getfield 31, 3) := by decide +kernel
theorem k57_36 : pm_look (pm_kl 57) 36 = some (.invokevirtual 57, 3) := by decide +kernel
theorem k57_39 : pm_look (pm_kl 57) 39 = some (.aload_n 0, 1) := by decide +kernel
theorem k57_40 : pm_look (pm_kl 57) 40 = some (.getfield 19, 3) := by decide +kernel
theorem k57_43 : pm_look (pm_kl 57) 43 = some (.ifCond .eq 5, 3) := by decide +kernel
theorem k57_46 : pm_look (pm_kl 57) 46 = some (.iconst (-1), 1) := by decide +kernel
theorem k57_47 : pm_look (pm_kl 57) 47 = some (.ireturn, 1) := by decide +kernel
theorem k57_48 : pm_look (pm_kl 57) 48 = some (.iconst 0, 1) := by decide +kernel
theorem k57_49 : pm_look (pm_kl 57) 49 = some (.istore 4, 2) := by decide +kernel
theorem k57_51 : pm_look (pm_kl 57) 51 = some (.aload_n 0, 1) := by decide +kernel
theorem k57_52 : pm_look (pm_kl 57) 52 = some (.getfield 31, 3) := by decide +kernel
theorem k57_55 : pm_look (pm_kl 57) 55 = some (.istore 5, 2) := by decide +kernel
theorem k57_57 : pm_look (pm_kl 57) 57 = some (.iload 5, 2) := by decide +kernel
theorem k57_59 : pm_look (pm_kl 57) 59 = some (.aload_n 0, 1) := by decide +kernel
theorem k57_60 : pm_look (pm_kl 57) 60 = some (.getfield 25, 3) := by decide +kernel
theorem k57_63 : pm_look (pm_kl 57) 63 = some (.if_icmp .ge 26, 3) := by decide +kernel
theorem k57_66 : pm_look (pm_kl 57) 66 = some (.bipush 10, 2) := by decide +kernel
theorem k57_68 : pm_look (pm_kl 57) 68 = some (.iload 4, 2) := by decide +kernel
theorem k57_70 : pm_look (pm_kl 57) 70 = some (.imul, 1) := by decide +kernel
theorem k57_71 : pm_look (pm_kl 57) 71 = some (.aload_n 0, 1) := by decide +kernel
theorem k57_72 : pm_look (pm_kl 57) 72 = some (.iload 5, 2) := by decide +kernel
theorem k57_74 : pm_look (pm_kl 57) 74 = some (.invokevirtual 34, 3) := by decide +kernel
theorem k57_77 : pm_look (pm_kl 57) 77 = some (.iadd, 1) := by decide +kernel
theorem k57_78 : pm_look (pm_kl 57) 78 = some (.bipush 48, 2) := by decide +kernel
theorem k57_80 : pm_look (pm_kl 57) 80 = some (.isub, 1) := by decide +kernel
theorem k57_81 : pm_look (pm_kl 57) 81 = some (.istore 4, 2) := by decide +kernel
theorem k57_83 : pm_look (pm_kl 57) 83 = some (.iinc 5 1, 3) := by decide +kernel
theorem k57_86 : pm_look (pm_kl 57) 86 = some (.goto (-29), 3) := by decide +kernel
theorem k57_89 : pm_look (pm_kl 57) 89 = some (.iload 4, 2) := by decide +kernel
theorem k57_91 : pm_look (pm_kl 57) 91 = some (.iload_n 1, 1) := by decide +kernel
theorem k57_92 : pm_look (pm_kl 57) 92 = some (.iload_n 2, 1) := by decide +kernel
theorem k57_93 : pm_look (pm_kl 57) 93 = some (.invokestatic 65, 3) := by decide +kernel
theorem k57_96 : pm_look (pm_kl 57) 96 = some (.ifCond .ne 12, 3) := by decide +kernel
theorem k57_99 : pm_look (pm_kl 57) 99 = some (.aload_n 0, 1) := by decide +kernel
theorem k57_100 : pm_look (pm_kl 57) 100 = some (.iconst 2, 1) := by decide +kernel
theorem k57_101 : pm_look (pm_kl 57) 101 = some (.aload_n 0, 1) := by decide +kernel
theorem k57_102 : pm_look (pm_kl 57) 102 = some (.getfield 31, 3) := by decide +kernel
theorem k57_105 : pm_look (pm_kl 57) 105 = some (.invokevirtual 57, 3) := by decide +kernel
theorem k57_108 : pm_look (pm_kl 57) 108 = some (.aload_n 0, 1) := by decide +kernel
theorem k57_109 : pm_look (pm_kl 57) 109 = some (.getfield 19, 3) := by decide +kernel
theorem k57_112 : pm_look (pm_kl 57) 112 = some (.ifCond .eq 5, 3) := by decide +kernel
theorem k57_115 : pm_look (pm_kl 57) 115 = some (.iconst (-1), 1) := by decide +kernel
theorem k57_116 : pm_look (pm_kl 57) 116 = some (.ireturn, 1) := by decide +kernel
theorem k57_117 : pm_look (pm_kl 57) 117 = some (.aload_n 0, 1) := by decide +kernel
theorem k57_118 : pm_look (pm_kl 57) 118 = some (.invokevirtual 28, 3) := by decide +kernel
theorem k57_121 : pm_look (pm_kl 57) 121 = some (.iload 4, 2) := by decide +kernel
theorem k57_123 : pm_look (pm_kl 57) 123 = some (.ireturn, 1) := by decide +kernel
theorem k58_0 : pm_look (pm_kl 58) 0 = some (.aload_n 0, 1) := by decide +kernel
theorem k58_1 : pm_look (pm_kl 58) 1 = some (.invokespecial 3, 3) := by decide +kernel
theorem k58_4 : pm_look (pm_kl 58) 4 = some (.aload_n 0, 1) := by decide +kernel
theorem k58_5 : pm_look (pm_kl 58) 5 = some (.bipush 40, 2) := by decide +kernel
theorem k58_7 : pm_look (pm_kl 58) 7 = some (.newarray .int, 2) := by decide +kernel
theorem k58_9 : pm_look (pm_kl 58) 9 = some (.putfield 9, 3) := by decide +kernel
theorem k58_12 : pm_look (pm_kl 58) 12 = some (.aload_n 0, 1) := by decide +kernel
theorem k58_13 : pm_look (pm_kl 58) 13 = some (.bipush 40, 2) := by decide +kernel
theorem k58_15 : pm_look (pm_kl 58) 15 = some (.newarray .int, 2) := by decide +kernel
theorem k58_17 : pm_look (pm_kl 58) 17 = some (.putfield 15, 3) := by decide +kernel
theorem k58_20 : pm_look (pm_kl 58) 20 = some (.aload_n 0, 1) := by decide +kernel
theorem k58_21 : pm_look (pm_kl 58) 21 = some (.bipush 40, 2) := by decide +kernel
theorem k58_23 : pm_look (pm_kl 58) 23 = some (.newarray .int, 2) := by decide +kernel
theorem k58_25 : pm_look (pm_kl 58) 25 = some (.putfield 18, 3) := by decide +kernel
theorem k58_28 : pm_look (pm_kl 58) 28 = some (.aload_n 0, 1) := by decide +kernel
theorem k58_29 : pm_look (pm_kl 58) 29 = some (.bipush 40, 2) := by decide +kernel
theorem k58_31 : pm_look (pm_kl 58) 31 = some (.bipush 10, 2) := by decide +kernel
theorem k58_33 : pm_look (pm_kl 58) 33 = some (.multianewarray 21 2, 4) := by decide +kernel
theorem k58_37 : pm_look (pm_kl 58) 37 = some (.putfield 23, 3) := by decide +kernel
theorem k58_40 : pm_look (pm_kl 58) 40 = some (.aload_n 0, 1) := by decide +kernel
theorem k58_41 : pm_look (pm_kl 58) 41 = some (.getfield 15, 3) := by decide +kernel
theorem k58_44 : pm_look (pm_kl 58) 44 = some (.iconst (-1), 1) := by decide +kernel
theorem k58_45 : pm_look (pm_kl 58) 45 = some (.invokestatic 26, 3) := by decide +kernel
theorem k58_48 : pm_look (pm_kl 58) 48 = some (.aload_n 0, 1) := by decide +kernel
theorem k58_49 : pm_look (pm_kl 58) 49 = some (.getfield 18, 3) := by decide +kernel
theorem k58_52 : pm_look (pm_kl 58) 52 = some (.iconst (-1), 1) := by decide +kernel
theorem k58_53 : pm_look (pm_kl 58) 53 = some (.invokestatic 26, 3) := by decide +kernel
theorem k58_56 : pm_look (pm_kl 58) 56 = some (.iconst 0, 1) := by decide +kernel
theorem k58_57 : pm_look (pm_kl 58) 57 = some (.istore_n 1, 1) := by decide +kernel
theorem k58_58 : pm_look (pm_kl 58) 58 = some (.iload_n 1, 1) := by decide +kernel
theorem k58_59 : pm_look (pm_kl 58) 59 = some (.bipush 40, 2) := by decide +kernel
theorem k58_61 : pm_look (pm_kl 58) 61 = some (.if_icmp .ge 19, 3) := by decide +kernel
theorem k58_64 : pm_look (pm_kl 58) 64 = some (.aload_n 0, 1) := by decide +kernel
theorem k58_65 : pm_look (pm_kl 58) 65 = some (.getfield 23, 3) := by decide +kernel
theorem k58_68 : pm_look (pm_kl 58) 68 = some (.iload_n 1, 1) := by decide +kernel
theorem k58_69 : pm_look (pm_kl 58) 69 = some (.aaload, 1) := by decide +kernel
theorem k58_70 : pm_look (pm_kl 58) 70 = some (.iconst (-1), 1) := by decide +kernel
theorem k58_71 : pm_look (pm_kl 58) 71 = some (.invokestatic 26, 3) := by decide +kernel
theorem k58_74 : pm_look (pm_kl 58) 74 = some (.iinc 1 1, 3) := by decide +kernel
theorem k58_77 : pm_look (pm_kl 58) 77 = some (.goto (-19), 3) := by decide +kernel
theorem k58_80 : pm_look (pm_kl 58) 80 = some (.aload_n 0, 1) := by decide +kernel
theorem k58_81 : pm_look (pm_kl 58) 81 = some (.iconst 1, 1) := by decide +kernel
theorem k58_82 : pm_look (pm_kl 58) 82 = some (.putfield 32, 3) := by decide +kernel
theorem k58_85 : pm_look (pm_kl 58) 85 = some (.return_, 1) := by decide +kernel
theorem k59_0 : pm_look (pm_kl 59) 0 = some (.iload_n 1, 1) := by decide +kernel
theorem k59_1 : pm_look (pm_kl 59) 1 = some (.ifCond .lt 15, 3) := by decide +kernel
theorem k59_4 : pm_look (pm_kl 59) 4 = some (.iload_n 1, 1) := by decide +kernel
theorem k59_5 : pm_look (pm_kl 59) 5 = some (.aload_n 0, 1) := by decide +kernel
theorem k59_6 : pm_look (pm_kl 59) 6 = some (.getfield 32, 3) := by decide +kernel
theorem k59_9 : pm_look (pm_kl 59) 9 = some (.if_icmp .ge 7, 3) := by decide +kernel
theorem k59_12 : pm_look (pm_kl 59) 12 = some (.iconst 1, 1) := by decide +kernel
theorem k59_13 : pm_look (pm_kl 59) 13 = some (.goto 4, 3) := by decide +kernel
theorem k59_16 : pm_look (pm_kl 59) 16 = some (.iconst 0, 1) := by decide +kernel
theorem k59_17 : pm_look (pm_kl 59) 17 = some (.ireturn, 1) := by decide +kernel
theorem k60_0 : pm_look (pm_kl 60) 0 = some (.aload_n 0, 1) := by decide +kernel
theorem k60_1 : pm_look (pm_kl 60) 1 = some (.getfield 32, 3) := by decide +kernel
theorem k60_4 : pm_look (pm_kl 60) 4 = some (.istore_n 3, 1) := by decide +kernel
theorem k60_5 : pm_look (pm_kl 60) 5 = some (.iload_n 3, 1) := by decide +kernel
theorem k60_6 : pm_look (pm_kl 60) 6 = some (.bipush 40, 2) := by decide +kernel
theorem k60_8 : pm_look (pm_kl 60) 8 = some (.if_icmp .lt 7, 3) := by decide +kernel
theorem k60_11 : pm_look (pm_kl 60) 11 = some (.sipush (-1004), 3) := by decide +kernel
theorem k60_14 : pm_look (pm_kl 60) 14 = some (.ireturn, 1) := by decide +kernel
theorem k60_15 : pm_look (pm_kl 60) 15 = some (.aload_n 0, 1) := by decide +kernel
theorem k60_16 : pm_look (pm_kl 60) 16 = some (.getfield 9, 3) := by decide +kernel
theorem k60_19 : pm_look (pm_kl 60) 19 = some (.iload_n 3, 1) := by decide +kernel
theorem k60_20 : pm_look (pm_kl 60) 20 = some (.iload_n 2, 1) := by decide +kernel
theorem k60_21 : pm_look (pm_kl 60) 21 = some (.iastore, 1) := by decide +kernel
theorem k60_22 : pm_look (pm_kl 60) 22 = some (.aload_n 0, 1) := by decide +kernel
theorem k60_23 : pm_look (pm_kl 60) 23 = some (.dup, 1) := by decide +kernel
theorem k60_24 : pm_look (pm_kl 60) 24 = some (.getfield 32, 3) := by decide +kernel
theorem k60_27 : pm_look (pm_kl 60) 27 = some (.iconst 1, 1) := by decide +kernel
theorem k60_28 : pm_look (pm_kl 60) 28 = some (.iadd, 1) := by decide +kernel
theorem k60_29 : pm_look (pm_kl 60) 29 = some (.putfield 32, 3) := by decide +kernel
theorem k60_32 : pm_look (pm_kl 60) 32 = some (.aload_n 0, 1) := by decide +kernel
theorem k60_33 : pm_look (pm_kl 60) 33 = some (.iload_n 3, 1) := by decide +kernel
theorem k60_34 : pm_look (pm_kl 60) 34 = some (.iload_n 1, 1) := by decide +kernel
theorem k60_35 : pm_look (pm_kl 60) 35 = some (.iload_n 2, 1) := by decide +kernel
theorem k60_36 : pm_look (pm_kl 60) 36 = some (.invokevirtual 36, 3) := by decide +kernel
theorem k60_39 : pm_look (pm_kl 60) 39 = some (.iload_n 3, 1) := by decide +kernel
theorem k60_40 : pm_look (pm_kl 60) 40 = some (.ireturn, 1) := by decide +kernel
theorem k61_0 : pm_look (pm_kl 61) 0 = some (.aload_n 0, 1) := by decide +kernel
theorem k61_1 : pm_look (pm_kl 61) 1 = some (.iload_n 1, 1) := by decide +kernel
theorem k61_2 : pm_look (pm_kl 61) 2 = some (.invokevirtual 40, 3) := by decide +kernel
theorem k61_5 : pm_look (pm_kl 61) 5 = some (.ifCond .ne 4, 3) := by decide +kernel
theorem k61_8 : pm_look (pm_kl 61) 8 = some (.return_, 1) := by decide +kernel
theorem k61_9 : pm_look (pm_kl 61) 9 = some (.iconst 0, 1) := by decide +kernel
theorem k61_10 : pm_look (pm_kl 61) 10 = some (.iload_n 3, 1) := by decide +kernel
theorem k61_11 : pm_look (pm_kl 61) 11 = some (.invokestatic 44, 3) := by decide +kernel
theorem k61_14 : pm_look (pm_kl 61) 14 = some (.istore 4, 2) := by decide +kernel
theorem k61_16 : pm_look (pm_kl 61) 16 = some (.iload 4, 2) := by decide +kernel
theorem k61_18 : pm_look (pm_kl 61) 18 = some (.bipush 10, 2) := by decide +kernel
theorem k61_20 : pm_look (pm_kl 61) 20 = some (.if_icmp .ge 19, 3) := by decide +kernel
theorem k61_23 : pm_look (pm_kl 61) 23 = some (.aload_n 0, 1) := by decide +kernel
theorem k61_24 : pm_look (pm_kl 61) 24 = some (.getfield 23, 3) := by decide +kernel
theorem k61_27 : pm_look (pm_kl 61) 27 = some (.iload_n 1, 1) := by decide +kernel
theorem k61_28 : pm_look (pm_kl 61) 28 = some (.aaload, 1) := by decide +kernel
theorem k61_29 : pm_look (pm_kl 61) 29 = some (.iload 4, 2) := by decide +kernel
theorem k61_31 : pm_look (pm_kl 61) 31 = some (.iload_n 2, 1) := by decide +kernel
theorem k61_32 : pm_look (pm_kl 61) 32 = some (.iastore, 1) := by decide +kernel
theorem k61_33 : pm_look (pm_kl 61) 33 = some (.iinc 4 1, 3) := by decide +kernel
theorem k61_36 : pm_look (pm_kl 61) 36 = some (.goto (-20), 3) := by decide +kernel
theorem k61_39 : pm_look (pm_kl 61) 39 = some (.return_, 1) := by decide +kernel
theorem k62_0 : pm_look (pm_kl 62) 0 = some (.aload_n 0, 1) := by decide +kernel
theorem k62_1 : pm_look (pm_kl 62) 1 = some (.iload_n 1, 1) := by decide +kernel
theorem k62_2 : pm_look (pm_kl 62) 2 = some (.invokevirtual 40, 3) := by decide +kernel
theorem k62_5 : pm_look (pm_kl 62) 5 = some (.ifCond .eq 24, 3) := by decide +kernel
theorem k62_8 : pm_look (pm_kl 62) 8 = some (.iload_n 2, 1) := by decide +kernel
theorem k62_9 : pm_look (pm_kl 62) 9 = some (.iconst 0, 1) := by decide +kernel
theorem k62_10 : pm_look (pm_kl 62) 10 = some (.bipush 9, 2) := by decide +kernel
theorem k62_12 : pm_look (pm_kl 62) 12 = some (.invokestatic 50, 3) := by decide +kernel
theorem k62_15 : pm_look (pm_kl 62) 15 = some (.ifCond .eq 14, 3) := by decide +kernel
theorem k62_18 : pm_look (pm_kl 62) 18 = some (.aload_n 0, 1) := by decide +kernel
theorem k62_19 : pm_look (pm_kl 62) 19 = some (.getfield 23, 3) := by decide +kernel
theorem k62_22 : pm_look (pm_kl 62) 22 = some (.iload_n 1, 1) := by decide +kernel
theorem k62_23 : pm_look (pm_kl 62) 23 = some (.aaload, 1) := by decide +kernel
theorem k62_24 : pm_look (pm_kl 62) 24 = some (.iload_n 2, 1) := by decide +kernel
theorem k62_25 : pm_look (pm_kl 62) 25 = some (.iaload, 1) := by decide +kernel
theorem k62_26 : pm_look (pm_kl 62) 26 = some (.goto 4, 3) := by decide +kernel
theorem k62_29 : pm_look (pm_kl 62) 29 = some (.iconst (-1), 1) := by decide +kernel
theorem k62_30 : pm_look (pm_kl 62) 30 = some (.ireturn, 1) := by decide +kernel
theorem k63_0 : pm_look (pm_kl 63) 0 = some (.aload_n 0, 1) := by decide +kernel
