theorem d_77_0 : decode (bC 77) 0 = .ok (.iload_n 1, 1) := by decide +kernel
theorem d_77_1 : decode (bC 77) 1 = .ok (.iconst 1, 1) := by decide +kernel
theorem d_77_2 : decode (bC 77) 2 = .ok (.iadd, 1) := by decide +kernel
theorem d_77_3 : decode (bC 77) 3 = .ok (.istore_n 2, 1) := by decide +kernel
theorem d_77_4 : decode (bC 77) 4 = .ok (.iload_n 2, 1) := by decide +kernel
theorem d_77_5 : decode (bC 77) 5 = .ok (.bipush 11, 2) := by decide +kernel
theorem d_77_7 : decode (bC 77) 7 = .ok (.if_icmp .ge 19, 3) := by decide +kernel
theorem d_77_10 : decode (bC 77) 10 = .ok (.aload_n 0, 1) := by decide +kernel
theorem d_77_11 : decode (bC 77) 11 = .ok (.getfield 34, 3) := by decide +kernel
theorem d_77_14 : decode (bC 77) 14 = .ok (.iload_n 2, 1) := by decide +kernel
theorem d_77_15 : decode (bC 77) 15 = .ok (.iaload, 1) := by decide +kernel
theorem d_77_16 : decode (bC 77) 16 = .ok (.iconst 4, 1) := by decide +kernel
theorem d_77_17 : decode (bC 77) 17 = .ok (.if_icmp .lt 9, 3) := by decide +kernel
theorem d_77_20 : decode (bC 77) 20 = .ok (.iinc 2 1, 3) := by decide +kernel
theorem d_77_23 : decode (bC 77) 23 = .ok (.goto (-19), 3) := by decide +kernel
theorem d_77_26 : decode (bC 77) 26 = .ok (.iload_n 2, 1) := by decide +kernel
theorem d_77_27 : decode (bC 77) 27 = .ok (.ireturn, 1) := by decide +kernel
theorem d_78_0 : decode (bC 78) 0 = .ok (.aload_n 0, 1) := by decide +kernel
theorem d_78_1 : decode (bC 78) 1 = .ok (.getfield 22, 3) := by decide +kernel
theorem d_78_4 : decode (bC 78) 4 = .ok (.iload_n 1, 1) := by decide +kernel
theorem d_78_5 : decode (bC 78) 5 = .ok (.iaload, 1) := by decide +kernel
theorem d_78_6 : decode (bC 78) 6 = .ok (.istore_n 2, 1) := by decide +kernel
theorem d_78_7 : decode (bC 78) 7 = .ok (.aload_n 0, 1) := by decide +kernel
theorem d_78_8 : decode (bC 78) 8 = .ok (.getfield 28, 3) := by decide +kernel
theorem d_78_11 : decode (bC 78) 11 = .ok (.bipush 16, 2) := by decide +kernel
theorem d_78_13 : decode (bC 78) 13 = .ok (.iload_n 2, 1) := by decide +kernel
theorem d_78_14 : decode (bC 78) 14 = .ok (.imul, 1) := by decide +kernel
theorem d_78_15 : decode (bC 78) 15 = .ok (.aload_n 0, 1) := by decide +kernel
theorem d_78_16 : decode (bC 78) 16 = .ok (.getfield 25, 3) := by decide +kernel
theorem d_78_19 : decode (bC 78) 19 = .ok (.iload_n 1, 1) := by decide +kernel
theorem d_78_20 : decode (bC 78) 20 = .ok (.iaload, 1) := by decide +kernel
theorem d_78_21 : decode (bC 78) 21 = .ok (.iadd, 1) := by decide +kernel
theorem d_78_22 : decode (bC 78) 22 = .ok (.iconst (-1), 1) := by decide +kernel
theorem d_78_23 : decode (bC 78) 23 = .ok (.iastore, 1) := by decide +kernel
theorem d_78_24 : decode (bC 78) 24 = .ok (.aload_n 0, 1) := by decide +kernel
theorem d_78_25 : decode (bC 78) 25 = .ok (.getfield 22, 3) := by decide +kernel
theorem d_78_28 : decode (bC 78) 28 = .ok (.iload_n 1, 1) := by decide +kernel
theorem d_78_29 : decode (bC 78) 29 = .ok (.iconst (-1), 1) := by decide +kernel
theorem d_78_30 : decode (bC 78) 30 = .ok (.iastore, 1) := by decide +kernel
theorem d_78_31 : decode (bC 78) 31 = .ok (.aload_n 0, 1) := by decide +kernel
theorem d_78_32 : decode (bC 78) 32 = .ok (.getfield 34, 3) := by decide +kernel
theorem d_78_35 : decode (bC 78) 35 = .ok (.iload_n 2, 1) := by decide +kernel
theorem d_78_36 : decode (bC 78) 36 = .ok (.iaload, 1) := by decide +kernel
theorem d_78_37 : decode (bC 78) 37 = .ok (.iconst 4, 1) := by decide +kernel
theorem d_78_38 : decode (bC 78) 38 = .ok (.if_icmp .ne 39, 3) := by decide +kernel
theorem d_78_41 : decode (bC 78) 41 = .ok (.aload_n 0, 1) := by decide +kernel
theorem d_78_42 : decode (bC 78) 42 = .ok (.iload_n 2, 1) := by decide +kernel
theorem d_78_43 : decode (bC 78) 43 = .ok (.invokevirtual 116, 3) := by decide +kernel
theorem d_78_46 : decode (bC 78) 46 = .ok (.iload_n 2, 1) := by decide +kernel
theorem d_78_47 : decode (bC 78) 47 = .ok (.iconst 1, 1) := by decide +kernel
theorem d_78_48 : decode (bC 78) 48 = .ok (.iadd, 1) := by decide +kernel
theorem d_78_49 : decode (bC 78) 49 = .ok (.istore_n 3, 1) := by decide +kernel
theorem d_78_50 : decode (bC 78) 50 = .ok (.iload_n 3, 1) := by decide +kernel
theorem d_78_51 : decode (bC 78) 51 = .ok (.bipush 12, 2) := by decide +kernel
theorem d_78_53 : decode (bC 78) 53 = .ok (.if_icmp .ge 24, 3) := by decide +kernel
theorem d_78_56 : decode (bC 78) 56 = .ok (.aload_n 0, 1) := by decide +kernel
theorem d_78_57 : decode (bC 78) 57 = .ok (.getfield 34, 3) := by decide +kernel
theorem d_78_60 : decode (bC 78) 60 = .ok (.iload_n 3, 1) := by decide +kernel
theorem d_78_61 : decode (bC 78) 61 = .ok (.iaload, 1) := by decide +kernel
theorem d_78_62 : decode (bC 78) 62 = .ok (.iconst 5, 1) := by decide +kernel
theorem d_78_63 : decode (bC 78) 63 = .ok (.if_icmp .ne 14, 3) := by decide +kernel
theorem d_78_66 : decode (bC 78) 66 = .ok (.aload_n 0, 1) := by decide +kernel
theorem d_78_67 : decode (bC 78) 67 = .ok (.iload_n 3, 1) := by decide +kernel
theorem d_78_68 : decode (bC 78) 68 = .ok (.invokevirtual 116, 3) := by decide +kernel
theorem d_78_71 : decode (bC 78) 71 = .ok (.iinc 3 1, 3) := by decide +kernel
theorem d_78_74 : decode (bC 78) 74 = .ok (.goto (-24), 3) := by decide +kernel
theorem d_78_77 : decode (bC 78) 77 = .ok (.return_, 1) := by decide +kernel
theorem d_79_0 : decode (bC 79) 0 = .ok (.iload_n 1, 1) := by decide +kernel
theorem d_79_1 : decode (bC 79) 1 = .ok (.ifCond .ge 7, 3) := by decide +kernel
theorem d_79_4 : decode (bC 79) 4 = .ok (.iconst (-1), 1) := by decide +kernel
theorem d_79_5 : decode (bC 79) 5 = .ok (.goto 8, 3) := by decide +kernel
theorem d_79_8 : decode (bC 79) 8 = .ok (.aload_n 0, 1) := by decide +kernel
theorem d_79_9 : decode (bC 79) 9 = .ok (.iload_n 1, 1) := by decide +kernel
theorem d_79_10 : decode (bC 79) 10 = .ok (.invokevirtual 129, 3) := by decide +kernel
theorem d_79_13 : decode (bC 79) 13 = .ok (.ireturn, 1) := by decide +kernel
theorem d_80_0 : decode (bC 80) 0 = .ok (.aload_n 0, 1) := by decide +kernel
theorem d_80_1 : decode (bC 80) 1 = .ok (.invokevirtual 112, 3) := by decide +kernel
theorem d_80_4 : decode (bC 80) 4 = .ok (.ireturn, 1) := by decide +kernel
theorem d_81_0 : decode (bC 81) 0 = .ok (.iconst 0, 1) := by decide +kernel
theorem d_81_1 : decode (bC 81) 1 = .ok (.istore 5, 2) := by decide +kernel
theorem d_81_3 : decode (bC 81) 3 = .ok (.aload_n 0, 1) := by decide +kernel
theorem d_81_4 : decode (bC 81) 4 = .ok (.getfield 22, 3) := by decide +kernel
theorem d_81_7 : decode (bC 81) 7 = .ok (.iload 5, 2) := by decide +kernel
theorem d_81_9 : decode (bC 81) 9 = .ok (.iaload, 1) := by decide +kernel
theorem d_81_10 : decode (bC 81) 10 = .ok (.ifCond .lt 9, 3) := by decide +kernel
theorem d_81_13 : decode (bC 81) 13 = .ok (.iinc 5 1, 3) := by decide +kernel
theorem d_81_16 : decode (bC 81) 16 = .ok (.goto (-13), 3) := by decide +kernel
theorem d_81_19 : decode (bC 81) 19 = .ok (.aload_n 0, 1) := by decide +kernel
theorem d_81_20 : decode (bC 81) 20 = .ok (.getfield 47, 3) := by decide +kernel
theorem d_81_23 : decode (bC 81) 23 = .ok (.iconst 3, 1) := by decide +kernel
theorem d_81_24 : decode (bC 81) 24 = .ok (.dup2, 1) := by decide +kernel
theorem d_81_25 : decode (bC 81) 25 = .ok (.iaload, 1) := by decide +kernel
theorem d_81_26 : decode (bC 81) 26 = .ok (.iconst 1, 1) := by decide +kernel
theorem d_81_27 : decode (bC 81) 27 = .ok (.iadd, 1) := by decide +kernel
theorem d_81_28 : decode (bC 81) 28 = .ok (.iastore, 1) := by decide +kernel
theorem d_81_29 : decode (bC 81) 29 = .ok (.aload_n 0, 1) := by decide +kernel
theorem d_81_30 : decode (bC 81) 30 = .ok (.getfield 7, 3) := by decide +kernel
theorem d_81_33 : decode (bC 81) 33 = .ok (.iload 5, 2) := by decide +kernel
theorem d_81_35 : decode (bC 81) 35 = .ok (.aload_n 0, 1) := by decide +kernel
theorem d_81_36 : decode (bC 81) 36 = .ok (.getfield 47, 3) := by decide +kernel
theorem d_81_39 : decode (bC 81) 39 = .ok (.iconst 3, 1) := by decide +kernel
theorem d_81_40 : decode (bC 81) 40 = .ok (.iaload, 1) := by decide +kernel
theorem d_81_41 : decode (bC 81) 41 = .ok (.iastore, 1) := by decide +kernel
theorem d_81_42 : decode (bC 81) 42 = .ok (.aload_n 0, 1) := by decide +kernel
theorem d_81_43 : decode (bC 81) 43 = .ok (.getfield 13, 3) := by decide +kernel
theorem d_81_46 : decode (bC 81) 46 = .ok (.iload 5, 2) := by decide +kernel
theorem d_81_48 : decode (bC 81) 48 = .ok (.iload_n 1, 1) := by decide +kernel
theorem d_81_49 : decode (bC 81) 49 = .ok (.iastore, 1) := by decide +kernel
theorem d_81_50 : decode (bC 81) 50 = .ok (.aload_n 0, 1) := by decide +kernel
theorem d_81_51 : decode (bC 81) 51 = .ok (.getfield 16, 3) := by decide +kernel
theorem d_81_54 : decode (bC 81) 54 = .ok (.iload 5, 2) := by decide +kernel
theorem d_81_56 : decode (bC 81) 56 = .ok (.iload_n 2, 1) := by decide +kernel
theorem d_81_57 : decode (bC 81) 57 = .ok (.iastore, 1) := by decide +kernel
theorem d_81_58 : decode (bC 81) 58 = .ok (.iconst 3, 1) := by decide +kernel
theorem d_81_59 : decode (bC 81) 59 = .ok (.iload 5, 2) := by decide +kernel
theorem d_81_61 : decode (bC 81) 61 = .ok (.imul, 1) := by decide +kernel
theorem d_81_62 : decode (bC 81) 62 = .ok (.istore 6, 2) := by decide +kernel
theorem d_81_64 : decode (bC 81) 64 = .ok (.iload 6, 2) := by decide +kernel
theorem d_81_66 : decode (bC 81) 66 = .ok (.iconst 3, 1) := by decide +kernel
theorem d_81_67 : decode (bC 81) 67 = .ok (.iload 5, 2) := by decide +kernel
theorem d_81_69 : decode (bC 81) 69 = .ok (.imul, 1) := by decide +kernel
theorem d_81_70 : decode (bC 81) 70 = .ok (.iconst 3, 1) := by decide +kernel
theorem d_81_71 : decode (bC 81) 71 = .ok (.iadd, 1) := by decide +kernel
theorem d_81_72 : decode (bC 81) 72 = .ok (.if_icmp .ge 17, 3) := by decide +kernel
theorem d_81_75 : decode (bC 81) 75 = .ok (.aload_n 0, 1) := by decide +kernel
theorem d_81_76 : decode (bC 81) 76 = .ok (.getfield 19, 3) := by decide +kernel
theorem d_81_79 : decode (bC 81) 79 = .ok (.iload 6, 2) := by decide +kernel
theorem d_81_81 : decode (bC 81) 81 = .ok (.iconst (-1), 1) := by decide +kernel
theorem d_81_82 : decode (bC 81) 82 = .ok (.iastore, 1) := by decide +kernel
theorem d_81_83 : decode (bC 81) 83 = .ok (.iinc 6 1, 3) := by decide +kernel
theorem d_81_86 : decode (bC 81) 86 = .ok (.goto (-22), 3) := by decide +kernel
theorem d_81_89 : decode (bC 81) 89 = .ok (.aload_n 0, 1) := by decide +kernel
theorem d_81_90 : decode (bC 81) 90 = .ok (.iload 5, 2) := by decide +kernel
theorem d_81_92 : decode (bC 81) 92 = .ok (.iload_n 3, 1) := by decide +kernel
theorem d_81_93 : decode (bC 81) 93 = .ok (.iload 4, 2) := by decide +kernel
theorem d_81_95 : decode (bC 81) 95 = .ok (.invokevirtual 119, 3) := by decide +kernel
theorem d_81_98 : decode (bC 81) 98 = .ok (.iload 5, 2) := by decide +kernel
theorem d_81_100 : decode (bC 81) 100 = .ok (.ireturn, 1) := by decide +kernel
theorem d_82_0 : decode (bC 82) 0 = .ok (.aload_n 0, 1) := by decide +kernel
theorem d_82_1 : decode (bC 82) 1 = .ok (.getfield 43, 3) := by decide +kernel
theorem d_82_4 : decode (bC 82) 4 = .ok (.ifCond .lt 24, 3) := by decide +kernel
theorem d_82_7 : decode (bC 82) 7 = .ok (.aload_n 0, 1) := by decide +kernel
theorem d_82_8 : decode (bC 82) 8 = .ok (.getfield 37, 3) := by decide +kernel
theorem d_82_11 : decode (bC 82) 11 = .ok (.aload_n 0, 1) := by decide +kernel
theorem d_82_12 : decode (bC 82) 12 = .ok (.getfield 43, 3) := by decide +kernel
theorem d_82_15 : decode (bC 82) 15 = .ok (.iaload, 1) := by decide +kernel
theorem d_82_16 : decode (bC 82) 16 = .ok (.iload_n 1, 1) := by decide +kernel
theorem d_82_17 : decode (bC 82) 17 = .ok (.iadd, 1) := by decide +kernel
theorem d_82_18 : decode (bC 82) 18 = .ok (.bipush 16, 2) := by decide +kernel
theorem d_82_20 : decode (bC 82) 20 = .ok (.if_icmp .gt 8, 3) := by decide +kernel
theorem d_82_23 : decode (bC 82) 23 = .ok (.aload_n 0, 1) := by decide +kernel
theorem d_82_24 : decode (bC 82) 24 = .ok (.getfield 43, 3) := by decide +kernel
theorem d_82_27 : decode (bC 82) 27 = .ok (.ireturn, 1) := by decide +kernel
theorem d_82_28 : decode (bC 82) 28 = .ok (.iconst 0, 1) := by decide +kernel
theorem d_82_29 : decode (bC 82) 29 = .ok (.istore_n 2, 1) := by decide +kernel
theorem d_82_30 : decode (bC 82) 30 = .ok (.iconst (-1), 1) := by decide +kernel
theorem d_82_31 : decode (bC 82) 31 = .ok (.istore_n 3, 1) := by decide +kernel
theorem d_82_32 : decode (bC 82) 32 = .ok (.bipush 11, 2) := by decide +kernel
theorem d_82_34 : decode (bC 82) 34 = .ok (.istore 4, 2) := by decide +kernel
theorem d_82_36 : decode (bC 82) 36 = .ok (.iload 4, 2) := by decide +kernel
theorem d_82_38 : decode (bC 82) 38 = .ok (.ifCond .lt 45, 3) := by decide +kernel
theorem d_82_41 : decode (bC 82) 41 = .ok (.iload_n 2, 1) := by decide +kernel
theorem d_82_42 : decode (bC 82) 42 = .ok (.aload_n 0, 1) := by decide +kernel
theorem d_82_43 : decode (bC 82) 43 = .ok (.getfield 34, 3) := by decide +kernel
theorem d_82_46 : decode (bC 82) 46 = .ok (.iload 4, 2) := by decide +kernel
theorem d_82_48 : decode (bC 82) 48 = .ok (.iaload, 1) := by decide +kernel
theorem d_82_49 : decode (bC 82) 49 = .ok (.iconst 1, 1) := by decide +kernel
theorem d_82_50 : decode (bC 82) 50 = .ok (.if_icmp .ne 7, 3) := by decide +kernel
theorem d_82_53 : decode (bC 82) 53 = .ok (.iconst 1, 1) := by decide +kernel
theorem d_82_54 : decode (bC 82) 54 = .ok (.goto 4, 3) := by decide +kernel
theorem d_82_57 : decode (bC 82) 57 = .ok (.iconst 0, 1) := by decide +kernel
theorem d_82_58 : decode (bC 82) 58 = .ok (.iadd, 1) := by decide +kernel
theorem d_82_59 : decode (bC 82) 59 = .ok (.istore_n 2, 1) := by decide +kernel
theorem d_82_60 : decode (bC 82) 60 = .ok (.aload_n 0, 1) := by decide +kernel
theorem d_82_61 : decode (bC 82) 61 = .ok (.getfield 34, 3) := by decide +kernel
theorem d_82_64 : decode (bC 82) 64 = .ok (.iload 4, 2) := by decide +kernel
theorem d_82_66 : decode (bC 82) 66 = .ok (.iaload, 1) := by decide +kernel
theorem d_82_67 : decode (bC 82) 67 = .ok (.ifCond .ne 8, 3) := by decide +kernel
theorem d_82_70 : decode (bC 82) 70 = .ok (.iload 4, 2) := by decide +kernel
theorem d_82_72 : decode (bC 82) 72 = .ok (.goto 4, 3) := by decide +kernel
theorem d_82_75 : decode (bC 82) 75 = .ok (.iload_n 3, 1) := by decide +kernel
theorem d_82_76 : decode (bC 82) 76 = .ok (.istore_n 3, 1) := by decide +kernel
theorem d_82_77 : decode (bC 82) 77 = .ok (.iinc 4 (-1), 3) := by decide +kernel
theorem d_82_80 : decode (bC 82) 80 = .ok (.goto (-44), 3) := by decide +kernel
theorem d_82_83 : decode (bC 82) 83 = .ok (.iload_n 2, 1) := by decide +kernel
theorem d_82_84 : decode (bC 82) 84 = .ok (.iconst 3, 1) := by decide +kernel
theorem d_82_85 : decode (bC 82) 85 = .ok (.if_icmp .ge 7, 3) := by decide +kernel
theorem d_82_88 : decode (bC 82) 88 = .ok (.iload_n 3, 1) := by decide +kernel
theorem d_82_89 : decode (bC 82) 89 = .ok (.ifCond .ge 5, 3) := by decide +kernel
theorem d_82_92 : decode (bC 82) 92 = .ok (.iconst (-1), 1) := by decide +kernel
theorem d_82_93 : decode (bC 82) 93 = .ok (.ireturn, 1) := by decide +kernel
theorem d_82_94 : decode (bC 82) 94 = .ok (.aload_n 0, 1) := by decide +kernel
theorem d_82_95 : decode (bC 82) 95 = .ok (.getfield 34, 3) := by decide +kernel
theorem d_82_98 : decode (bC 82) 98 = .ok (.iload_n 3, 1) := by decide +kernel
theorem d_82_99 : decode (bC 82) 99 = .ok (.iconst 1, 1) := by decide +kernel
theorem d_82_100 : decode (bC 82) 100 = .ok (.iastore, 1) := by decide +kernel
theorem d_82_101 : decode (bC 82) 101 = .ok (.aload_n 0, 1) := by decide +kernel
theorem d_82_102 : decode (bC 82) 102 = .ok (.iload_n 3, 1) := by decide +kernel
theorem d_82_103 : decode (bC 82) 103 = .ok (.putfield 43, 3) := by decide +kernel
theorem d_82_106 : decode (bC 82) 106 = .ok (.iload_n 3, 1) := by decide +kernel
theorem d_82_107 : decode (bC 82) 107 = .ok (.ireturn, 1) := by decide +kernel
theorem d_83_0 : decode (bC 83) 0 = .ok (.iconst 0, 1) := by decide +kernel
theorem d_83_1 : decode (bC 83) 1 = .ok (.istore_n 2, 1) := by decide +kernel
theorem d_83_2 : decode (bC 83) 2 = .ok (.iload_n 2, 1) := by decide +kernel
theorem d_83_3 : decode (bC 83) 3 = .ok (.bipush 12, 2) := by decide +kernel
theorem d_83_5 : decode (bC 83) 5 = .ok (.if_icmp .ge 34, 3) := by decide +kernel
theorem d_83_8 : decode (bC 83) 8 = .ok (.aload_n 0, 1) := by decide +kernel
theorem d_83_9 : decode (bC 83) 9 = .ok (.getfield 34, 3) := by decide +kernel
theorem d_83_12 : decode (bC 83) 12 = .ok (.iload_n 2, 1) := by decide +kernel
theorem d_83_13 : decode (bC 83) 13 = .ok (.iaload, 1) := by decide +kernel
theorem d_83_14 : decode (bC 83) 14 = .ok (.iconst 3, 1) := by decide +kernel
theorem d_83_15 : decode (bC 83) 15 = .ok (.if_icmp .ne 18, 3) := by decide +kernel
theorem d_83_18 : decode (bC 83) 18 = .ok (.aload_n 0, 1) := by decide +kernel
theorem d_83_19 : decode (bC 83) 19 = .ok (.getfield 37, 3) := by decide +kernel
theorem d_83_22 : decode (bC 83) 22 = .ok (.iload_n 2, 1) := by decide +kernel
theorem d_83_23 : decode (bC 83) 23 = .ok (.iaload, 1) := by decide +kernel
theorem d_83_24 : decode (bC 83) 24 = .ok (.iload_n 1, 1) := by decide +kernel
theorem d_83_25 : decode (bC 83) 25 = .ok (.iadd, 1) := by decide +kernel
theorem d_83_26 : decode (bC 83) 26 = .ok (.bipush 16, 2) := by decide +kernel
theorem d_83_28 : decode (bC 83) 28 = .ok (.if_icmp .gt 5, 3) := by decide +kernel
theorem d_83_31 : decode (bC 83) 31 = .ok (.iload_n 2, 1) := by decide +kernel
theorem d_83_32 : decode (bC 83) 32 = .ok (.ireturn, 1) := by decide +kernel
theorem d_83_33 : decode (bC 83) 33 = .ok (.iinc 2 1, 3) := by decide +kernel
theorem d_83_36 : decode (bC 83) 36 = .ok (.goto (-34), 3) := by decide +kernel
theorem d_83_39 : decode (bC 83) 39 = .ok (.iconst (-1), 1) := by decide +kernel
theorem d_83_40 : decode (bC 83) 40 = .ok (.ireturn, 1) := by decide +kernel
theorem d_84_0 : decode (bC 84) 0 = .ok (.aload_n 0, 1) := by decide +kernel
theorem d_84_1 : decode (bC 84) 1 = .ok (.iload_n 1, 1) := by decide +kernel
theorem d_84_2 : decode (bC 84) 2 = .ok (.invokevirtual 132, 3) := by decide +kernel
theorem d_84_5 : decode (bC 84) 5 = .ok (.ifCond .ne 21, 3) := by decide +kernel
theorem d_84_8 : decode (bC 84) 8 = .ok (.iload_n 2, 1) := by decide +kernel
theorem d_84_9 : decode (bC 84) 9 = .ok (.ifCond .lt 17, 3) := by decide +kernel
theorem d_84_12 : decode (bC 84) 12 = .ok (.iload_n 2, 1) := by decide +kernel
theorem d_84_13 : decode (bC 84) 13 = .ok (.iconst 3, 1) := by decide +kernel
theorem d_84_14 : decode (bC 84) 14 = .ok (.if_icmp .gt 12, 3) := by decide +kernel
theorem d_84_17 : decode (bC 84) 17 = .ok (.iload_n 3, 1) := by decide +kernel
theorem d_84_18 : decode (bC 84) 18 = .ok (.ifCond .lt 8, 3) := by decide +kernel
theorem d_84_21 : decode (bC 84) 21 = .ok (.iload_n 3, 1) := by decide +kernel
theorem d_84_22 : decode (bC 84) 22 = .ok (.iconst 3, 1) := by decide +kernel
theorem d_84_23 : decode (bC 84) 23 = .ok (.if_icmp .le 5, 3) := by decide +kernel
theorem d_84_26 : decode (bC 84) 26 = .ok (.iconst (-1), 1) := by decide +kernel
theorem d_84_27 : decode (bC 84) 27 = .ok (.ireturn, 1) := by decide +kernel
theorem d_84_28 : decode (bC 84) 28 = .ok (.iconst 2, 1) := by decide +kernel
theorem d_84_29 : decode (bC 84) 29 = .ok (.iload_n 2, 1) := by decide +kernel
theorem d_84_30 : decode (bC 84) 30 = .ok (.iadd, 1) := by decide +kernel
theorem d_84_31 : decode (bC 84) 31 = .ok (.iload_n 3, 1) := by decide +kernel
theorem d_84_32 : decode (bC 84) 32 = .ok (.iadd, 1) := by decide +kernel
theorem d_84_33 : decode (bC 84) 33 = .ok (.istore 4, 2) := by decide +kernel
theorem d_84_35 : decode (bC 84) 35 = .ok (.aload_n 0, 1) := by decide +kernel
theorem d_84_36 : decode (bC 84) 36 = .ok (.iload 4, 2) := by decide +kernel
theorem d_84_38 : decode (bC 84) 38 = .ok (.invokevirtual 136, 3) := by decide +kernel
theorem d_84_41 : decode (bC 84) 41 = .ok (.istore 5, 2) := by decide +kernel
theorem d_84_43 : decode (bC 84) 43 = .ok (.iload 5, 2) := by decide +kernel
theorem d_84_45 : decode (bC 84) 45 = .ok (.ifCond .ge 18, 3) := by decide +kernel
theorem d_84_48 : decode (bC 84) 48 = .ok (.aload_n 0, 1) := by decide +kernel
theorem d_84_49 : decode (bC 84) 49 = .ok (.iconst 0, 1) := by decide +kernel
theorem d_84_50 : decode (bC 84) 50 = .ok (.invokevirtual 129, 3) := by decide +kernel
theorem d_84_53 : decode (bC 84) 53 = .ok (.istore 6, 2) := by decide +kernel
theorem d_84_55 : decode (bC 84) 55 = .ok (.aload_n 0, 1) := by decide +kernel
theorem d_84_56 : decode (bC 84) 56 = .ok (.iload 4, 2) := by decide +kernel
theorem d_84_58 : decode (bC 84) 58 = .ok (.invokevirtual 136, 3) := by decide +kernel
theorem d_84_61 : decode (bC 84) 61 = .ok (.istore 5, 2) := by decide +kernel
theorem d_84_63 : decode (bC 84) 63 = .ok (.iload 5, 2) := by decide +kernel
theorem d_84_65 : decode (bC 84) 65 = .ok (.ifCond .ge 17, 3) := by decide +kernel
theorem d_84_68 : decode (bC 84) 68 = .ok (.aload_n 0, 1) := by decide +kernel
theorem d_84_69 : decode (bC 84) 69 = .ok (.invokevirtual 112, 3) := by decide +kernel
theorem d_84_72 : decode (bC 84) 72 = .ok (.istore 6, 2) := by decide +kernel
theorem d_84_74 : decode (bC 84) 74 = .ok (.aload_n 0, 1) := by decide +kernel
theorem d_84_75 : decode (bC 84) 75 = .ok (.iload 4, 2) := by decide +kernel
theorem d_84_77 : decode (bC 84) 77 = .ok (.invokevirtual 136, 3) := by decide +kernel
theorem d_84_80 : decode (bC 84) 80 = .ok (.istore 5, 2) := by decide +kernel
theorem d_84_82 : decode (bC 84) 82 = .ok (.iload 5, 2) := by decide +kernel
theorem d_84_84 : decode (bC 84) 84 = .ok (.ifCond .ge 11, 3) := by decide +kernel
theorem d_84_87 : decode (bC 84) 87 = .ok (.aload_n 0, 1) := by decide +kernel
theorem d_84_88 : decode (bC 84) 88 = .ok (.iload 4, 2) := by decide +kernel
theorem d_84_90 : decode (bC 84) 90 = .ok (.invokevirtual 139, 3) := by decide +kernel
theorem d_84_93 : decode (bC 84) 93 = .ok (.istore 5, 2) := by decide +kernel
theorem d_84_95 : decode (bC 84) 95 = .ok (.iload 5, 2) := by decide +kernel
theorem d_84_97 : decode (bC 84) 97 = .ok (.ifCond .ge 6, 3) := by decide +kernel
theorem d_84_100 : decode (bC 84) 100 = .ok (.bipush (-2), 2) := by decide +kernel
theorem d_84_102 : decode (bC 84) 102 = .ok (.ireturn, 1) := by decide +kernel
theorem d_84_103 : decode (bC 84) 103 = .ok (.aload_n 0, 1) := by decide +kernel
theorem d_84_104 : decode (bC 84) 104 = .ok (.iload 4, 2) := by decide +kernel
theorem d_84_106 : decode (bC 84) 106 = .ok (.iload_n 2, 1) := by decide +kernel
theorem d_84_107 : decode (bC 84) 107 = .ok (.iload 5, 2) := by decide +kernel
theorem d_84_109 : decode (bC 84) 109 = .ok (.aload_n 0, 1) := by decide +kernel
theorem d_84_110 : decode (bC 84) 110 = .ok (.getfield 37, 3) := by decide +kernel
theorem d_84_113 : decode (bC 84) 113 = .ok (.iload 5, 2) := by decide +kernel
theorem d_84_115 : decode (bC 84) 115 = .ok (.iaload, 1) := by decide +kernel
theorem d_84_116 : decode (bC 84) 116 = .ok (.invokevirtual 142, 3) := by decide +kernel
theorem d_84_119 : decode (bC 84) 119 = .ok (.istore 6, 2) := by decide +kernel
theorem d_84_121 : decode (bC 84) 121 = .ok (.aload_n 0, 1) := by decide +kernel
theorem d_84_122 : decode (bC 84) 122 = .ok (.getfield 37, 3) := by decide +kernel
theorem d_84_125 : decode (bC 84) 125 = .ok (.iload 5, 2) := by decide +kernel
theorem d_84_127 : decode (bC 84) 127 = .ok (.aload_n 0, 1) := by decide +kernel
theorem d_84_128 : decode (bC 84) 128 = .ok (.getfield 37, 3) := by decide +kernel
theorem d_84_131 : decode (bC 84) 131 = .ok (.iload 5, 2) := by decide +kernel
theorem d_84_133 : decode (bC 84) 133 = .ok (.iaload, 1) := by decide +kernel
theorem d_84_134 : decode (bC 84) 134 = .ok (.iload 4, 2) := by decide +kernel
theorem d_84_136 : decode (bC 84) 136 = .ok (.iadd, 1) := by decide +kernel
theorem d_84_137 : decode (bC 84) 137 = .ok (.iastore, 1) := by decide +kernel
theorem d_84_138 : decode (bC 84) 138 = .ok (.aload_n 0, 1) := by decide +kernel
theorem d_84_139 : decode (bC 84) 139 = .ok (.getfield 40, 3) := by decide +kernel
theorem d_84_142 : decode (bC 84) 142 = .ok (.iload 5, 2) := by decide +kernel
theorem d_84_144 : decode (bC 84) 144 = .ok (.iconst (-1), 1) := by decide +kernel
theorem d_84_145 : decode (bC 84) 145 = .ok (.iastore, 1) := by decide +kernel
theorem d_84_146 : decode (bC 84) 146 = .ok (.aload_n 0, 1) := by decide +kernel
theorem d_84_147 : decode (bC 84) 147 = .ok (.getfield 31, 3) := by decide +kernel
theorem d_84_150 : decode (bC 84) 150 = .ok (.iload_n 1, 1) := by decide +kernel
theorem d_84_151 : decode (bC 84) 151 = .ok (.iload 6, 2) := by decide +kernel
theorem d_84_153 : decode (bC 84) 153 = .ok (.iastore, 1) := by decide +kernel
theorem d_84_154 : decode (bC 84) 154 = .ok (.aload_n 0, 1) := by decide +kernel
theorem d_84_155 : decode (bC 84) 155 = .ok (.getfield 7, 3) := by decide +kernel
theorem d_84_158 : decode (bC 84) 158 = .ok (.iload 6, 2) := by decide +kernel
theorem d_84_160 : decode (bC 84) 160 = .ok (.iaload, 1) := by decide +kernel
theorem d_84_161 : decode (bC 84) 161 = .ok (.ireturn, 1) := by decide +kernel
theorem d_85_0 : decode (bC 85) 0 = .ok (.iconst 0, 1) := by decide +kernel
theorem d_85_1 : decode (bC 85) 1 = .ok (.istore_n 2, 1) := by decide +kernel
theorem d_85_2 : decode (bC 85) 2 = .ok (.iload_n 2, 1) := by decide +kernel
theorem d_85_3 : decode (bC 85) 3 = .ok (.iload_n 1, 1) := by decide +kernel
theorem d_85_4 : decode (bC 85) 4 = .ok (.iadd, 1) := by decide +kernel
theorem d_85_5 : decode (bC 85) 5 = .ok (.bipush 12, 2) := by decide +kernel
theorem d_85_7 : decode (bC 85) 7 = .ok (.if_icmp .gt 54, 3) := by decide +kernel
theorem d_85_10 : decode (bC 85) 10 = .ok (.iconst 1, 1) := by decide +kernel
theorem d_85_11 : decode (bC 85) 11 = .ok (.istore_n 3, 1) := by decide +kernel
theorem d_85_12 : decode (bC 85) 12 = .ok (.iload_n 2, 1) := by decide +kernel
theorem d_85_13 : decode (bC 85) 13 = .ok (.istore 4, 2) := by decide +kernel
theorem d_85_15 : decode (bC 85) 15 = .ok (.iload 4, 2) := by decide +kernel
theorem d_85_17 : decode (bC 85) 17 = .ok (.iload_n 2, 1) := by decide +kernel
theorem d_85_18 : decode (bC 85) 18 = .ok (.iload_n 1, 1) := by decide +kernel
theorem d_85_19 : decode (bC 85) 19 = .ok (.iadd, 1) := by decide +kernel
theorem d_85_20 : decode (bC 85) 20 = .ok (.if_icmp .ge 29, 3) := by decide +kernel
theorem d_85_23 : decode (bC 85) 23 = .ok (.iload_n 3, 1) := by decide +kernel
theorem d_85_24 : decode (bC 85) 24 = .ok (.ifCond .eq 17, 3) := by decide +kernel
theorem d_85_27 : decode (bC 85) 27 = .ok (.aload_n 0, 1) := by decide +kernel
theorem d_85_28 : decode (bC 85) 28 = .ok (.getfield 34, 3) := by decide +kernel
theorem d_85_31 : decode (bC 85) 31 = .ok (.iload 4, 2) := by decide +kernel
theorem d_85_33 : decode (bC 85) 33 = .ok (.iaload, 1) := by decide +kernel
theorem d_85_34 : decode (bC 85) 34 = .ok (.ifCond .ne 7, 3) := by decide +kernel
theorem d_85_37 : decode (bC 85) 37 = .ok (.iconst 1, 1) := by decide +kernel
theorem d_85_38 : decode (bC 85) 38 = .ok (.goto 4, 3) := by decide +kernel
theorem d_85_41 : decode (bC 85) 41 = .ok (.iconst 0, 1) := by decide +kernel
theorem d_85_42 : decode (bC 85) 42 = .ok (.istore_n 3, 1) := by decide +kernel
theorem d_85_43 : decode (bC 85) 43 = .ok (.iinc 4 1, 3) := by decide +kernel
theorem d_85_46 : decode (bC 85) 46 = .ok (.goto (-31), 3) := by decide +kernel
theorem d_85_49 : decode (bC 85) 49 = .ok (.iload_n 3, 1) := by decide +kernel
theorem d_85_50 : decode (bC 85) 50 = .ok (.ifCond .eq 5, 3) := by decide +kernel
theorem d_85_53 : decode (bC 85) 53 = .ok (.iload_n 2, 1) := by decide +kernel
theorem d_85_54 : decode (bC 85) 54 = .ok (.ireturn, 1) := by decide +kernel
theorem d_85_55 : decode (bC 85) 55 = .ok (.iinc 2 1, 3) := by decide +kernel
theorem d_85_58 : decode (bC 85) 58 = .ok (.goto (-56), 3) := by decide +kernel
theorem d_85_61 : decode (bC 85) 61 = .ok (.iconst (-1), 1) := by decide +kernel
theorem d_85_62 : decode (bC 85) 62 = .ok (.ireturn, 1) := by decide +kernel
theorem d_86_0 : decode (bC 86) 0 = .ok (.aload_n 0, 1) := by decide +kernel
theorem d_86_1 : decode (bC 86) 1 = .ok (.iload_n 1, 1) := by decide +kernel
theorem d_86_2 : decode (bC 86) 2 = .ok (.invokevirtual 132, 3) := by decide +kernel
theorem d_86_5 : decode (bC 86) 5 = .ok (.ifCond .ne 24, 3) := by decide +kernel
theorem d_86_8 : decode (bC 86) 8 = .ok (.iload_n 2, 1) := by decide +kernel
theorem d_86_9 : decode (bC 86) 9 = .ok (.ifCond .lt 20, 3) := by decide +kernel
theorem d_86_12 : decode (bC 86) 12 = .ok (.iload_n 2, 1) := by decide +kernel
theorem d_86_13 : decode (bC 86) 13 = .ok (.iconst 3, 1) := by decide +kernel
theorem d_86_14 : decode (bC 86) 14 = .ok (.if_icmp .gt 15, 3) := by decide +kernel
theorem d_86_17 : decode (bC 86) 17 = .ok (.iload_n 3, 1) := by decide +kernel
theorem d_86_18 : decode (bC 86) 18 = .ok (.bipush 9, 2) := by decide +kernel
theorem d_86_20 : decode (bC 86) 20 = .ok (.if_icmp .lt 9, 3) := by decide +kernel
theorem d_86_23 : decode (bC 86) 23 = .ok (.iload_n 3, 1) := by decide +kernel
theorem d_86_24 : decode (bC 86) 24 = .ok (.bipush 40, 2) := by decide +kernel
theorem d_86_26 : decode (bC 86) 26 = .ok (.if_icmp .le 5, 3) := by decide +kernel
theorem d_86_29 : decode (bC 86) 29 = .ok (.iconst (-1), 1) := by decide +kernel
theorem d_86_30 : decode (bC 86) 30 = .ok (.ireturn, 1) := by decide +kernel
theorem d_86_31 : decode (bC 86) 31 = .ok (.iload_n 3, 1) := by decide +kernel
theorem d_86_32 : decode (bC 86) 32 = .ok (.bipush 15, 2) := by decide +kernel
theorem d_86_34 : decode (bC 86) 34 = .ok (.iadd, 1) := by decide +kernel
theorem d_86_35 : decode (bC 86) 35 = .ok (.bipush 16, 2) := by decide +kernel
theorem d_86_37 : decode (bC 86) 37 = .ok (.idiv, 1) := by decide +kernel
theorem d_86_38 : decode (bC 86) 38 = .ok (.istore 4, 2) := by decide +kernel
theorem d_86_40 : decode (bC 86) 40 = .ok (.aload_n 0, 1) := by decide +kernel
theorem d_86_41 : decode (bC 86) 41 = .ok (.iload 4, 2) := by decide +kernel
theorem d_86_43 : decode (bC 86) 43 = .ok (.invokevirtual 146, 3) := by decide +kernel
theorem d_86_46 : decode (bC 86) 46 = .ok (.istore 5, 2) := by decide +kernel
theorem d_86_48 : decode (bC 86) 48 = .ok (.iload 5, 2) := by decide +kernel
theorem d_86_50 : decode (bC 86) 50 = .ok (.ifCond .ge 17, 3) := by decide +kernel
theorem d_86_53 : decode (bC 86) 53 = .ok (.aload_n 0, 1) := by decide +kernel
theorem d_86_54 : decode (bC 86) 54 = .ok (.invokevirtual 112, 3) := by decide +kernel
theorem d_86_57 : decode (bC 86) 57 = .ok (.istore 6, 2) := by decide +kernel
theorem d_86_59 : decode (bC 86) 59 = .ok (.aload_n 0, 1) := by decide +kernel
theorem d_86_60 : decode (bC 86) 60 = .ok (.iload 4, 2) := by decide +kernel
theorem d_86_62 : decode (bC 86) 62 = .ok (.invokevirtual 146, 3) := by decide +kernel
theorem d_86_65 : decode (bC 86) 65 = .ok (.istore 5, 2) := by decide +kernel
theorem d_86_67 : decode (bC 86) 67 = .ok (.iload 5, 2) := by decide +kernel
theorem d_86_69 : decode (bC 86) 69 = .ok (.ifCond .ge 6, 3) := by decide +kernel
theorem d_86_72 : decode (bC 86) 72 = .ok (.bipush (-2), 2) := by decide +kernel
theorem d_86_74 : decode (bC 86) 74 = .ok (.ireturn, 1) := by decide +kernel
theorem d_86_75 : decode (bC 86) 75 = .ok (.aload_n 0, 1) := by decide +kernel
theorem d_86_76 : decode (bC 86) 76 = .ok (.iload_n 3, 1) := by decide +kernel
theorem d_86_77 : decode (bC 86) 77 = .ok (.iload_n 2, 1) := by decide +kernel
theorem d_86_78 : decode (bC 86) 78 = .ok (.iload 5, 2) := by decide +kernel
theorem d_86_80 : decode (bC 86) 80 = .ok (.iconst 0, 1) := by decide +kernel
theorem d_86_81 : decode (bC 86) 81 = .ok (.invokevirtual 142, 3) := by decide +kernel
theorem d_86_84 : decode (bC 86) 84 = .ok (.istore 6, 2) := by decide +kernel
theorem d_86_86 : decode (bC 86) 86 = .ok (.iconst 0, 1) := by decide +kernel
theorem d_86_87 : decode (bC 86) 87 = .ok (.istore 7, 2) := by decide +kernel
theorem d_86_89 : decode (bC 86) 89 = .ok (.iload 7, 2) := by decide +kernel
theorem d_86_91 : decode (bC 86) 91 = .ok (.iload 4, 2) := by decide +kernel
theorem d_86_93 : decode (bC 86) 93 = .ok (.if_icmp .ge 71, 3) := by decide +kernel
theorem d_86_96 : decode (bC 86) 96 = .ok (.aload_n 0, 1) := by decide +kernel
theorem d_86_97 : decode (bC 86) 97 = .ok (.getfield 34, 3) := by decide +kernel
theorem d_86_100 : decode (bC 86) 100 = .ok (.iload 5, 2) := by decide +kernel
theorem d_86_102 : decode (bC 86) 102 = .ok (.iload 7, 2) := by decide +kernel
theorem d_86_104 : decode (bC 86) 104 = .ok (.iadd, 1) := by decide +kernel
theorem d_86_105 : decode (bC 86) 105 = .ok (.iload 7, 2) := by decide +kernel
theorem d_86_107 : decode (bC 86) 107 = .ok (.ifCond .ne 7, 3) := by decide +kernel
theorem d_86_110 : decode (bC 86) 110 = .ok (.iconst 4, 1) := by decide +kernel
theorem d_86_111 : decode (bC 86) 111 = .ok (.goto 4, 3) := by decide +kernel
theorem d_86_114 : decode (bC 86) 114 = .ok (.iconst 5, 1) := by decide +kernel
theorem d_86_115 : decode (bC 86) 115 = .ok (.iastore, 1) := by decide +kernel
theorem d_86_116 : decode (bC 86) 116 = .ok (.aload_n 0, 1) := by decide +kernel
theorem d_86_117 : decode (bC 86) 117 = .ok (.getfield 37, 3) := by decide +kernel
theorem d_86_120 : decode (bC 86) 120 = .ok (.iload 5, 2) := by decide +kernel
theorem d_86_122 : decode (bC 86) 122 = .ok (.iload 7, 2) := by decide +kernel
theorem d_86_124 : decode (bC 86) 124 = .ok (.iadd, 1) := by decide +kernel
theorem d_86_125 : decode (bC 86) 125 = .ok (.iload 7, 2) := by decide +kernel
theorem d_86_127 : decode (bC 86) 127 = .ok (.iload 4, 2) := by decide +kernel
theorem d_86_129 : decode (bC 86) 129 = .ok (.iconst 1, 1) := by decide +kernel
theorem d_86_130 : decode (bC 86) 130 = .ok (.isub, 1) := by decide +kernel
theorem d_86_131 : decode (bC 86) 131 = .ok (.if_icmp .ge 8, 3) := by decide +kernel
theorem d_86_134 : decode (bC 86) 134 = .ok (.bipush 16, 2) := by decide +kernel
theorem d_86_136 : decode (bC 86) 136 = .ok (.goto 10, 3) := by decide +kernel
theorem d_86_139 : decode (bC 86) 139 = .ok (.iload_n 3, 1) := by decide +kernel
theorem d_86_140 : decode (bC 86) 140 = .ok (.bipush 16, 2) := by decide +kernel
theorem d_86_142 : decode (bC 86) 142 = .ok (.iload 7, 2) := by decide +kernel
theorem d_86_144 : decode (bC 86) 144 = .ok (.imul, 1) := by decide +kernel
theorem d_86_145 : decode (bC 86) 145 = .ok (.isub, 1) := by decide +kernel
theorem d_86_146 : decode (bC 86) 146 = .ok (.iastore, 1) := by decide +kernel
theorem d_86_147 : decode (bC 86) 147 = .ok (.aload_n 0, 1) := by decide +kernel
theorem d_86_148 : decode (bC 86) 148 = .ok (.getfield 40, 3) := by decide +kernel
theorem d_86_151 : decode (bC 86) 151 = .ok (.iload 5, 2) := by decide +kernel
theorem d_86_153 : decode (bC 86) 153 = .ok (.iload 7, 2) := by decide +kernel
theorem d_86_155 : decode (bC 86) 155 = .ok (.iadd, 1) := by decide +kernel
theorem d_86_156 : decode (bC 86) 156 = .ok (.iconst (-1), 1) := by decide +kernel
theorem d_86_157 : decode (bC 86) 157 = .ok (.iastore, 1) := by decide +kernel
theorem d_86_158 : decode (bC 86) 158 = .ok (.iinc 7 1, 3) := by decide +kernel
theorem d_86_161 : decode (bC 86) 161 = .ok (.goto (-72), 3) := by decide +kernel
theorem d_86_164 : decode (bC 86) 164 = .ok (.aload_n 0, 1) := by decide +kernel
theorem d_86_165 : decode (bC 86) 165 = .ok (.getfield 31, 3) := by decide +kernel
theorem d_86_168 : decode (bC 86) 168 = .ok (.iload_n 1, 1) := by decide +kernel
theorem d_86_169 : decode (bC 86) 169 = .ok (.iload 6, 2) := by decide +kernel
theorem d_86_171 : decode (bC 86) 171 = .ok (.iastore, 1) := by decide +kernel
theorem d_86_172 : decode (bC 86) 172 = .ok (.aload_n 0, 1) := by decide +kernel
theorem d_86_173 : decode (bC 86) 173 = .ok (.getfield 7, 3) := by decide +kernel
theorem d_86_176 : decode (bC 86) 176 = .ok (.iload 6, 2) := by decide +kernel
theorem d_86_178 : decode (bC 86) 178 = .ok (.iaload, 1) := by decide +kernel
theorem d_86_179 : decode (bC 86) 179 = .ok (.ireturn, 1) := by decide +kernel
theorem d_87_0 : decode (bC 87) 0 = .ok (.aload_n 0, 1) := by decide +kernel
theorem d_87_1 : decode (bC 87) 1 = .ok (.iload_n 1, 1) := by decide +kernel
theorem d_87_2 : decode (bC 87) 2 = .ok (.invokevirtual 132, 3) := by decide +kernel
theorem d_87_5 : decode (bC 87) 5 = .ok (.ifCond .ne 31, 3) := by decide +kernel
theorem d_87_8 : decode (bC 87) 8 = .ok (.aload_n 0, 1) := by decide +kernel
theorem d_87_9 : decode (bC 87) 9 = .ok (.getfield 31, 3) := by decide +kernel
theorem d_87_12 : decode (bC 87) 12 = .ok (.iload_n 1, 1) := by decide +kernel
theorem d_87_13 : decode (bC 87) 13 = .ok (.iaload, 1) := by decide +kernel
theorem d_87_14 : decode (bC 87) 14 = .ok (.ifCond .lt 22, 3) := by decide +kernel
theorem d_87_17 : decode (bC 87) 17 = .ok (.iload_n 2, 1) := by decide +kernel
theorem d_87_18 : decode (bC 87) 18 = .ok (.ifCond .lt 18, 3) := by decide +kernel
theorem d_87_21 : decode (bC 87) 21 = .ok (.iload_n 2, 1) := by decide +kernel
theorem d_87_22 : decode (bC 87) 22 = .ok (.aload_n 0, 1) := by decide +kernel
theorem d_87_23 : decode (bC 87) 23 = .ok (.getfield 16, 3) := by decide +kernel
theorem d_87_26 : decode (bC 87) 26 = .ok (.aload_n 0, 1) := by decide +kernel
theorem d_87_27 : decode (bC 87) 27 = .ok (.getfield 31, 3) := by decide +kernel
theorem d_87_30 : decode (bC 87) 30 = .ok (.iload_n 1, 1) := by decide +kernel
theorem d_87_31 : decode (bC 87) 31 = .ok (.iaload, 1) := by decide +kernel
theorem d_87_32 : decode (bC 87) 32 = .ok (.iaload, 1) := by decide +kernel
theorem d_87_33 : decode (bC 87) 33 = .ok (.if_icmp .lt 7, 3) := by decide +kernel
theorem d_87_36 : decode (bC 87) 36 = .ok (.iconst 1, 1) := by decide +kernel
theorem d_87_37 : decode (bC 87) 37 = .ok (.goto 4, 3) := by decide +kernel
theorem d_87_40 : decode (bC 87) 40 = .ok (.iconst 0, 1) := by decide +kernel
theorem d_87_41 : decode (bC 87) 41 = .ok (.ireturn, 1) := by decide +kernel
theorem d_88_0 : decode (bC 88) 0 = .ok (.aload_n 0, 1) := by decide +kernel
theorem d_88_1 : decode (bC 88) 1 = .ok (.iload_n 1, 1) := by decide +kernel
theorem d_88_2 : decode (bC 88) 2 = .ok (.iload_n 2, 1) := by decide +kernel
theorem d_88_3 : decode (bC 88) 3 = .ok (.invokevirtual 149, 3) := by decide +kernel
theorem d_88_6 : decode (bC 88) 6 = .ok (.ifCond .ne 16, 3) := by decide +kernel
theorem d_88_9 : decode (bC 88) 9 = .ok (.iload_n 3, 1) := by decide +kernel
theorem d_88_10 : decode (bC 88) 10 = .ok (.iconst (-1), 1) := by decide +kernel
theorem d_88_11 : decode (bC 88) 11 = .ok (.if_icmp .eq 13, 3) := by decide +kernel
theorem d_88_14 : decode (bC 88) 14 = .ok (.aload_n 0, 1) := by decide +kernel
theorem d_88_15 : decode (bC 88) 15 = .ok (.iload_n 3, 1) := by decide +kernel
theorem d_88_16 : decode (bC 88) 16 = .ok (.invokevirtual 132, 3) := by decide +kernel
theorem d_88_19 : decode (bC 88) 19 = .ok (.ifCond .eq 5, 3) := by decide +kernel
theorem d_88_22 : decode (bC 88) 22 = .ok (.iconst 0, 1) := by decide +kernel
theorem d_88_23 : decode (bC 88) 23 = .ok (.ireturn, 1) := by decide +kernel
theorem d_88_24 : decode (bC 88) 24 = .ok (.aload_n 0, 1) := by decide +kernel
theorem d_88_25 : decode (bC 88) 25 = .ok (.getfield 19, 3) := by decide +kernel
theorem d_88_28 : decode (bC 88) 28 = .ok (.iconst 3, 1) := by decide +kernel
theorem d_88_29 : decode (bC 88) 29 = .ok (.aload_n 0, 1) := by decide +kernel
theorem d_88_30 : decode (bC 88) 30 = .ok (.getfield 31, 3) := by decide +kernel
theorem d_88_33 : decode (bC 88) 33 = .ok (.iload_n 1, 1) := by decide +kernel
theorem d_88_34 : decode (bC 88) 34 = .ok (.iaload, 1) := by decide +kernel
theorem d_88_35 : decode (bC 88) 35 = .ok (.imul, 1) := by decide +kernel
theorem d_88_36 : decode (bC 88) 36 = .ok (.iload_n 2, 1) := by decide +kernel
theorem d_88_37 : decode (bC 88) 37 = .ok (.iadd, 1) := by decide +kernel
theorem d_88_38 : decode (bC 88) 38 = .ok (.iload_n 3, 1) := by decide +kernel
theorem d_88_39 : decode (bC 88) 39 = .ok (.iconst (-1), 1) := by decide +kernel
theorem d_88_40 : decode (bC 88) 40 = .ok (.if_icmp .ne 7, 3) := by decide +kernel
theorem d_88_43 : decode (bC 88) 43 = .ok (.iconst (-1), 1) := by decide +kernel
theorem d_88_44 : decode (bC 88) 44 = .ok (.goto 9, 3) := by decide +kernel
theorem d_88_47 : decode (bC 88) 47 = .ok (.aload_n 0, 1) := by decide +kernel
theorem d_88_48 : decode (bC 88) 48 = .ok (.getfield 31, 3) := by decide +kernel
theorem d_88_51 : decode (bC 88) 51 = .ok (.iload_n 3, 1) := by decide +kernel
theorem d_88_52 : decode (bC 88) 52 = .ok (.iaload, 1) := by decide +kernel
theorem d_88_53 : decode (bC 88) 53 = .ok (.iastore, 1) := by decide +kernel
theorem d_88_54 : decode (bC 88) 54 = .ok (.iconst 1, 1) := by decide +kernel
theorem d_88_55 : decode (bC 88) 55 = .ok (.ireturn, 1) := by decide +kernel
theorem d_89_0 : decode (bC 89) 0 = .ok (.aload_n 0, 1) := by decide +kernel
theorem d_89_1 : decode (bC 89) 1 = .ok (.iload_n 1, 1) := by decide +kernel
theorem d_89_2 : decode (bC 89) 2 = .ok (.invokevirtual 132, 3) := by decide +kernel
theorem d_89_5 : decode (bC 89) 5 = .ok (.ifCond .ne 12, 3) := by decide +kernel
theorem d_89_8 : decode (bC 89) 8 = .ok (.aload_n 0, 1) := by decide +kernel
theorem d_89_9 : decode (bC 89) 9 = .ok (.iload_n 2, 1) := by decide +kernel
theorem d_89_10 : decode (bC 89) 10 = .ok (.iload_n 3, 1) := by decide +kernel
theorem d_89_11 : decode (bC 89) 11 = .ok (.invokevirtual 149, 3) := by decide +kernel
theorem d_89_14 : decode (bC 89) 14 = .ok (.ifCond .eq 5, 3) := by decide +kernel
theorem d_89_17 : decode (bC 89) 17 = .ok (.iconst 0, 1) := by decide +kernel
theorem d_89_18 : decode (bC 89) 18 = .ok (.ireturn, 1) := by decide +kernel
theorem d_89_19 : decode (bC 89) 19 = .ok (.aload_n 0, 1) := by decide +kernel
theorem d_89_20 : decode (bC 89) 20 = .ok (.getfield 31, 3) := by decide +kernel
theorem d_89_23 : decode (bC 89) 23 = .ok (.iload_n 1, 1) := by decide +kernel
theorem d_89_24 : decode (bC 89) 24 = .ok (.aload_n 0, 1) := by decide +kernel
theorem d_89_25 : decode (bC 89) 25 = .ok (.getfield 19, 3) := by decide +kernel
theorem d_89_28 : decode (bC 89) 28 = .ok (.iconst 3, 1) := by decide +kernel
theorem d_89_29 : decode (bC 89) 29 = .ok (.aload_n 0, 1) := by decide +kernel
theorem d_89_30 : decode (bC 89) 30 = .ok (.getfield 31, 3) := by decide +kernel
theorem d_89_33 : decode (bC 89) 33 = .ok (.iload_n 2, 1) := by decide +kernel
theorem d_89_34 : decode (bC 89) 34 = .ok (.iaload, 1) := by decide +kernel
theorem d_89_35 : decode (bC 89) 35 = .ok (.imul, 1) := by decide +kernel
theorem d_89_36 : decode (bC 89) 36 = .ok (.iload_n 3, 1) := by decide +kernel
theorem d_89_37 : decode (bC 89) 37 = .ok (.iadd, 1) := by decide +kernel
theorem d_89_38 : decode (bC 89) 38 = .ok (.iaload, 1) := by decide +kernel
theorem d_89_39 : decode (bC 89) 39 = .ok (.iastore, 1) := by decide +kernel
theorem d_89_40 : decode (bC 89) 40 = .ok (.iconst 1, 1) := by decide +kernel
theorem d_89_41 : decode (bC 89) 41 = .ok (.ireturn, 1) := by decide +kernel
theorem d_90_0 : decode (bC 90) 0 = .ok (.aload_n 0, 1) := by decide +kernel
theorem d_90_1 : decode (bC 90) 1 = .ok (.iload_n 1, 1) := by decide +kernel
theorem d_90_2 : decode (bC 90) 2 = .ok (.invokevirtual 132, 3) := by decide +kernel
theorem d_90_5 : decode (bC 90) 5 = .ok (.ifCond .ne 16, 3) := by decide +kernel
theorem d_90_8 : decode (bC 90) 8 = .ok (.iload_n 2, 1) := by decide +kernel
theorem d_90_9 : decode (bC 90) 9 = .ok (.iconst (-1), 1) := by decide +kernel
theorem d_90_10 : decode (bC 90) 10 = .ok (.if_icmp .eq 13, 3) := by decide +kernel
theorem d_90_13 : decode (bC 90) 13 = .ok (.aload_n 0, 1) := by decide +kernel
theorem d_90_14 : decode (bC 90) 14 = .ok (.iload_n 2, 1) := by decide +kernel
theorem d_90_15 : decode (bC 90) 15 = .ok (.invokevirtual 132, 3) := by decide +kernel
theorem d_90_18 : decode (bC 90) 18 = .ok (.ifCond .eq 5, 3) := by decide +kernel
theorem d_90_21 : decode (bC 90) 21 = .ok (.iconst 0, 1) := by decide +kernel
theorem d_90_22 : decode (bC 90) 22 = .ok (.ireturn, 1) := by decide +kernel
theorem d_90_23 : decode (bC 90) 23 = .ok (.aload_n 0, 1) := by decide +kernel
theorem d_90_24 : decode (bC 90) 24 = .ok (.getfield 31, 3) := by decide +kernel
theorem d_90_27 : decode (bC 90) 27 = .ok (.iload_n 1, 1) := by decide +kernel
theorem d_90_28 : decode (bC 90) 28 = .ok (.iload_n 2, 1) := by decide +kernel
theorem d_90_29 : decode (bC 90) 29 = .ok (.iconst (-1), 1) := by decide +kernel
theorem d_90_30 : decode (bC 90) 30 = .ok (.if_icmp .ne 7, 3) := by decide +kernel
theorem d_90_33 : decode (bC 90) 33 = .ok (.iconst (-1), 1) := by decide +kernel
theorem d_90_34 : decode (bC 90) 34 = .ok (.goto 9, 3) := by decide +kernel
theorem d_90_37 : decode (bC 90) 37 = .ok (.aload_n 0, 1) := by decide +kernel
theorem d_90_38 : decode (bC 90) 38 = .ok (.getfield 31, 3) := by decide +kernel
theorem d_90_41 : decode (bC 90) 41 = .ok (.iload_n 2, 1) := by decide +kernel
theorem d_90_42 : decode (bC 90) 42 = .ok (.iaload, 1) := by decide +kernel
theorem d_90_43 : decode (bC 90) 43 = .ok (.iastore, 1) := by decide +kernel
theorem d_90_44 : decode (bC 90) 44 = .ok (.iconst 1, 1) := by decide +kernel
theorem d_90_45 : decode (bC 90) 45 = .ok (.ireturn, 1) := by decide +kernel
theorem d_91_0 : decode (bC 91) 0 = .ok (.aload_n 0, 1) := by decide +kernel
theorem d_91_1 : decode (bC 91) 1 = .ok (.iload_n 1, 1) := by decide +kernel
theorem d_91_2 : decode (bC 91) 2 = .ok (.invokevirtual 132, 3) := by decide +kernel
theorem d_91_5 : decode (bC 91) 5 = .ok (.ifCond .ne 12, 3) := by decide +kernel
theorem d_91_8 : decode (bC 91) 8 = .ok (.aload_n 0, 1) := by decide +kernel
theorem d_91_9 : decode (bC 91) 9 = .ok (.getfield 31, 3) := by decide +kernel
theorem d_91_12 : decode (bC 91) 12 = .ok (.iload_n 1, 1) := by decide +kernel
theorem d_91_13 : decode (bC 91) 13 = .ok (.iaload, 1) := by decide +kernel
theorem d_91_14 : decode (bC 91) 14 = .ok (.ifCond .ge 7, 3) := by decide +kernel
theorem d_91_17 : decode (bC 91) 17 = .ok (.iconst 1, 1) := by decide +kernel
theorem d_91_18 : decode (bC 91) 18 = .ok (.goto 4, 3) := by decide +kernel
theorem d_91_21 : decode (bC 91) 21 = .ok (.iconst 0, 1) := by decide +kernel
theorem d_91_22 : decode (bC 91) 22 = .ok (.ireturn, 1) := by decide +kernel
theorem d_92_0 : decode (bC 92) 0 = .ok (.aload_n 0, 1) := by decide +kernel
theorem d_92_1 : decode (bC 92) 1 = .ok (.iload_n 1, 1) := by decide +kernel
theorem d_92_2 : decode (bC 92) 2 = .ok (.invokevirtual 132, 3) := by decide +kernel
theorem d_92_5 : decode (bC 92) 5 = .ok (.ifCond .eq 7, 3) := by decide +kernel
theorem d_92_8 : decode (bC 92) 8 = .ok (.iconst (-1), 1) := by decide +kernel
theorem d_92_9 : decode (bC 92) 9 = .ok (.goto 27, 3) := by decide +kernel
theorem d_92_12 : decode (bC 92) 12 = .ok (.aload_n 0, 1) := by decide +kernel
theorem d_92_13 : decode (bC 92) 13 = .ok (.getfield 31, 3) := by decide +kernel
theorem d_92_16 : decode (bC 92) 16 = .ok (.iload_n 1, 1) := by decide +kernel
theorem d_92_17 : decode (bC 92) 17 = .ok (.iaload, 1) := by decide +kernel
theorem d_92_18 : decode (bC 92) 18 = .ok (.ifCond .ge 7, 3) := by decide +kernel
theorem d_92_21 : decode (bC 92) 21 = .ok (.iconst 0, 1) := by decide +kernel
theorem d_92_22 : decode (bC 92) 22 = .ok (.goto 14, 3) := by decide +kernel
theorem d_92_25 : decode (bC 92) 25 = .ok (.aload_n 0, 1) := by decide +kernel
theorem d_92_26 : decode (bC 92) 26 = .ok (.getfield 7, 3) := by decide +kernel
theorem d_92_29 : decode (bC 92) 29 = .ok (.aload_n 0, 1) := by decide +kernel
theorem d_92_30 : decode (bC 92) 30 = .ok (.getfield 31, 3) := by decide +kernel
theorem d_92_33 : decode (bC 92) 33 = .ok (.iload_n 1, 1) := by decide +kernel
theorem d_92_34 : decode (bC 92) 34 = .ok (.iaload, 1) := by decide +kernel
theorem d_92_35 : decode (bC 92) 35 = .ok (.iaload, 1) := by decide +kernel
theorem d_92_36 : decode (bC 92) 36 = .ok (.ireturn, 1) := by decide +kernel
theorem d_93_0 : decode (bC 93) 0 = .ok (.aload_n 0, 1) := by decide +kernel
theorem d_93_1 : decode (bC 93) 1 = .ok (.iload_n 1, 1) := by decide +kernel
theorem d_93_2 : decode (bC 93) 2 = .ok (.invokevirtual 152, 3) := by decide +kernel
theorem d_93_5 : decode (bC 93) 5 = .ok (.ifCond .eq 7, 3) := by decide +kernel
theorem d_93_8 : decode (bC 93) 8 = .ok (.iconst (-1), 1) := by decide +kernel
theorem d_93_9 : decode (bC 93) 9 = .ok (.goto 14, 3) := by decide +kernel
theorem d_93_12 : decode (bC 93) 12 = .ok (.aload_n 0, 1) := by decide +kernel
theorem d_93_13 : decode (bC 93) 13 = .ok (.getfield 22, 3) := by decide +kernel
theorem d_93_16 : decode (bC 93) 16 = .ok (.aload_n 0, 1) := by decide +kernel
theorem d_93_17 : decode (bC 93) 17 = .ok (.getfield 31, 3) := by decide +kernel
theorem d_93_20 : decode (bC 93) 20 = .ok (.iload_n 1, 1) := by decide +kernel
theorem d_93_21 : decode (bC 93) 21 = .ok (.iaload, 1) := by decide +kernel
theorem d_93_22 : decode (bC 93) 22 = .ok (.iaload, 1) := by decide +kernel
theorem d_93_23 : decode (bC 93) 23 = .ok (.ireturn, 1) := by decide +kernel
theorem d_94_0 : decode (bC 94) 0 = .ok (.aload_n 0, 1) := by decide +kernel
theorem d_94_1 : decode (bC 94) 1 = .ok (.iload_n 1, 1) := by decide +kernel
theorem d_94_2 : decode (bC 94) 2 = .ok (.invokevirtual 152, 3) := by decide +kernel
theorem d_94_5 : decode (bC 94) 5 = .ok (.ifCond .eq 7, 3) := by decide +kernel
theorem d_94_8 : decode (bC 94) 8 = .ok (.iconst (-1), 1) := by decide +kernel
theorem d_94_9 : decode (bC 94) 9 = .ok (.goto 14, 3) := by decide +kernel
theorem d_94_12 : decode (bC 94) 12 = .ok (.aload_n 0, 1) := by decide +kernel
theorem d_94_13 : decode (bC 94) 13 = .ok (.getfield 25, 3) := by decide +kernel
theorem d_94_16 : decode (bC 94) 16 = .ok (.aload_n 0, 1) := by decide +kernel
theorem d_94_17 : decode (bC 94) 17 = .ok (.getfield 31, 3) := by decide +kernel
theorem d_94_20 : decode (bC 94) 20 = .ok (.iload_n 1, 1) := by decide +kernel
theorem d_94_21 : decode (bC 94) 21 = .ok (.iaload, 1) := by decide +kernel
theorem d_94_22 : decode (bC 94) 22 = .ok (.iaload, 1) := by decide +kernel
theorem d_94_23 : decode (bC 94) 23 = .ok (.ireturn, 1) := by decide +kernel
theorem d_95_0 : decode (bC 95) 0 = .ok (.aload_n 0, 1) := by decide +kernel
theorem d_95_1 : decode (bC 95) 1 = .ok (.iload_n 1, 1) := by decide +kernel
theorem d_95_2 : decode (bC 95) 2 = .ok (.invokevirtual 152, 3) := by decide +kernel
theorem d_95_5 : decode (bC 95) 5 = .ok (.ifCond .eq 7, 3) := by decide +kernel
theorem d_95_8 : decode (bC 95) 8 = .ok (.iconst (-1), 1) := by decide +kernel
theorem d_95_9 : decode (bC 95) 9 = .ok (.goto 14, 3) := by decide +kernel
theorem d_95_12 : decode (bC 95) 12 = .ok (.aload_n 0, 1) := by decide +kernel
theorem d_95_13 : decode (bC 95) 13 = .ok (.getfield 13, 3) := by decide +kernel
theorem d_95_16 : decode (bC 95) 16 = .ok (.aload_n 0, 1) := by decide +kernel
theorem d_95_17 : decode (bC 95) 17 = .ok (.getfield 31, 3) := by decide +kernel
theorem d_95_20 : decode (bC 95) 20 = .ok (.iload_n 1, 1) := by decide +kernel
theorem d_95_21 : decode (bC 95) 21 = .ok (.iaload, 1) := by decide +kernel
theorem d_95_22 : decode (bC 95) 22 = .ok (.iaload, 1) := by decide +kernel
theorem d_95_23 : decode (bC 95) 23 = .ok (.ireturn, 1) := by decide +kernel
theorem d_96_0 : decode (bC 96) 0 = .ok (.aload_n 0, 1) := by decide +kernel
theorem d_96_1 : decode (bC 96) 1 = .ok (.iload_n 1, 1) := by decide +kernel
theorem d_96_2 : decode (bC 96) 2 = .ok (.invokevirtual 155, 3) := by decide +kernel
theorem d_96_5 : decode (bC 96) 5 = .ok (.ifCond .eq 7, 3) := by decide +kernel
theorem d_96_8 : decode (bC 96) 8 = .ok (.iconst (-1), 1) := by decide +kernel
theorem d_96_9 : decode (bC 96) 9 = .ok (.goto 9, 3) := by decide +kernel
theorem d_96_12 : decode (bC 96) 12 = .ok (.aload_n 0, 1) := by decide +kernel
theorem d_96_13 : decode (bC 96) 13 = .ok (.getfield 34, 3) := by decide +kernel
theorem d_96_16 : decode (bC 96) 16 = .ok (.iload_n 1, 1) := by decide +kernel
theorem d_96_17 : decode (bC 96) 17 = .ok (.iaload, 1) := by decide +kernel
theorem d_96_18 : decode (bC 96) 18 = .ok (.ireturn, 1) := by decide +kernel
theorem d_97_0 : decode (bC 97) 0 = .ok (.aload_n 0, 1) := by decide +kernel
theorem d_97_1 : decode (bC 97) 1 = .ok (.iload_n 1, 1) := by decide +kernel
theorem d_97_2 : decode (bC 97) 2 = .ok (.invokevirtual 155, 3) := by decide +kernel
theorem d_97_5 : decode (bC 97) 5 = .ok (.ifCond .eq 7, 3) := by decide +kernel
theorem d_97_8 : decode (bC 97) 8 = .ok (.iconst (-1), 1) := by decide +kernel
theorem d_97_9 : decode (bC 97) 9 = .ok (.goto 9, 3) := by decide +kernel
theorem d_97_12 : decode (bC 97) 12 = .ok (.aload_n 0, 1) := by decide +kernel
theorem d_97_13 : decode (bC 97) 13 = .ok (.getfield 37, 3) := by decide +kernel
theorem d_97_16 : decode (bC 97) 16 = .ok (.iload_n 1, 1) := by decide +kernel
theorem d_97_17 : decode (bC 97) 17 = .ok (.iaload, 1) := by decide +kernel
theorem d_97_18 : decode (bC 97) 18 = .ok (.ireturn, 1) := by decide +kernel
theorem d_98_0 : decode (bC 98) 0 = .ok (.aload_n 0, 1) := by decide +kernel
theorem d_98_1 : decode (bC 98) 1 = .ok (.iload_n 1, 1) := by decide +kernel
theorem d_98_2 : decode (bC 98) 2 = .ok (.invokevirtual 155, 3) := by decide +kernel
theorem d_98_5 : decode (bC 98) 5 = .ok (.ifCond .eq 7, 3) := by decide +kernel
theorem d_98_8 : decode (bC 98) 8 = .ok (.iconst (-1), 1) := by decide +kernel
theorem d_98_9 : decode (bC 98) 9 = .ok (.goto 9, 3) := by decide +kernel
theorem d_98_12 : decode (bC 98) 12 = .ok (.aload_n 0, 1) := by decide +kernel
theorem d_98_13 : decode (bC 98) 13 = .ok (.getfield 40, 3) := by decide +kernel
theorem d_98_16 : decode (bC 98) 16 = .ok (.iload_n 1, 1) := by decide +kernel
theorem d_98_17 : decode (bC 98) 17 = .ok (.iaload, 1) := by decide +kernel
theorem d_98_18 : decode (bC 98) 18 = .ok (.ireturn, 1) := by decide +kernel
theorem d_99_0 : decode (bC 99) 0 = .ok (.aload_n 0, 1) := by decide +kernel
theorem d_99_1 : decode (bC 99) 1 = .ok (.iload_n 1, 1) := by decide +kernel
theorem d_99_2 : decode (bC 99) 2 = .ok (.invokevirtual 155, 3) := by decide +kernel
theorem d_99_5 : decode (bC 99) 5 = .ok (.ifCond .eq 7, 3) := by decide +kernel
theorem d_99_8 : decode (bC 99) 8 = .ok (.iconst (-1), 1) := by decide +kernel
theorem d_99_9 : decode (bC 99) 9 = .ok (.goto 8, 3) := by decide +kernel
theorem d_99_12 : decode (bC 99) 12 = .ok (.aload_n 0, 1) := by decide +kernel
theorem d_99_13 : decode (bC 99) 13 = .ok (.iload_n 1, 1) := by decide +kernel
theorem d_99_14 : decode (bC 99) 14 = .ok (.invokevirtual 88, 3) := by decide +kernel
theorem d_99_17 : decode (bC 99) 17 = .ok (.ireturn, 1) := by decide +kernel
theorem d_100_0 : decode (bC 100) 0 = .ok (.iload_n 1, 1) := by decide +kernel
theorem d_100_1 : decode (bC 100) 1 = .ok (.ifCond .lt 8, 3) := by decide +kernel
theorem d_100_4 : decode (bC 100) 4 = .ok (.iload_n 1, 1) := by decide +kernel
theorem d_100_5 : decode (bC 100) 5 = .ok (.iconst 3, 1) := by decide +kernel
theorem d_100_6 : decode (bC 100) 6 = .ok (.if_icmp .le 7, 3) := by decide +kernel
theorem d_100_9 : decode (bC 100) 9 = .ok (.iconst (-1), 1) := by decide +kernel
theorem d_100_10 : decode (bC 100) 10 = .ok (.goto 9, 3) := by decide +kernel
theorem d_100_13 : decode (bC 100) 13 = .ok (.aload_n 0, 1) := by decide +kernel
theorem d_100_14 : decode (bC 100) 14 = .ok (.getfield 47, 3) := by decide +kernel
theorem d_100_17 : decode (bC 100) 17 = .ok (.iload_n 1, 1) := by decide +kernel
theorem d_100_18 : decode (bC 100) 18 = .ok (.iaload, 1) := by decide +kernel
theorem d_100_19 : decode (bC 100) 19 = .ok (.ireturn, 1) := by decide +kernel
