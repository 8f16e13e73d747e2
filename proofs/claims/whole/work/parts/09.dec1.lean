theorem d_20_0 : decode (bC 20) 0 = .ok (.aload_n 0, 1) := by decide +kernel
theorem d_20_1 : decode (bC 20) 1 = .ok (.iload_n 2, 1) := by decide +kernel
theorem d_20_2 : decode (bC 20) 2 = .ok (.invokevirtual 108, 3) := by decide +kernel
theorem d_20_5 : decode (bC 20) 5 = .ok (.astore 4, 2) := by decide +kernel
theorem d_20_7 : decode (bC 20) 7 = .ok (.iload_n 1, 1) := by decide +kernel
theorem d_20_8 : decode (bC 20) 8 = .ok (.invokestatic 30, 3) := by decide +kernel
theorem d_20_11 : decode (bC 20) 11 = .ok (.ifCond .eq 17, 3) := by decide +kernel
theorem d_20_14 : decode (bC 20) 14 = .ok (.aload 4, 2) := by decide +kernel
theorem d_20_16 : decode (bC 20) 16 = .ok (.ifnull 12, 3) := by decide +kernel
theorem d_20_19 : decode (bC 20) 19 = .ok (.aload 4, 2) := by decide +kernel
theorem d_20_21 : decode (bC 20) 21 = .ok (.iload_n 3, 1) := by decide +kernel
theorem d_20_22 : decode (bC 20) 22 = .ok (.invokevirtual 112, 3) := by decide +kernel
theorem d_20_25 : decode (bC 20) 25 = .ok (.ifCond .ne 5, 3) := by decide +kernel
theorem d_20_28 : decode (bC 20) 28 = .ok (.iconst 0, 1) := by decide +kernel
theorem d_20_29 : decode (bC 20) 29 = .ok (.ireturn, 1) := by decide +kernel
theorem d_20_30 : decode (bC 20) 30 = .ok (.aload_n 0, 1) := by decide +kernel
theorem d_20_31 : decode (bC 20) 31 = .ok (.getfield 20, 3) := by decide +kernel
theorem d_20_34 : decode (bC 20) 34 = .ok (.iload_n 1, 1) := by decide +kernel
theorem d_20_35 : decode (bC 20) 35 = .ok (.aload 4, 2) := by decide +kernel
theorem d_20_37 : decode (bC 20) 37 = .ok (.getfield 118, 3) := by decide +kernel
theorem d_20_40 : decode (bC 20) 40 = .ok (.iload_n 3, 1) := by decide +kernel
theorem d_20_41 : decode (bC 20) 41 = .ok (.aaload, 1) := by decide +kernel
theorem d_20_42 : decode (bC 20) 42 = .ok (.aastore, 1) := by decide +kernel
theorem d_20_43 : decode (bC 20) 43 = .ok (.iconst 1, 1) := by decide +kernel
theorem d_20_44 : decode (bC 20) 44 = .ok (.ireturn, 1) := by decide +kernel
theorem d_21_0 : decode (bC 21) 0 = .ok (.iload_n 1, 1) := by decide +kernel
theorem d_21_1 : decode (bC 21) 1 = .ok (.invokestatic 30, 3) := by decide +kernel
theorem d_21_4 : decode (bC 21) 4 = .ok (.ifCond .eq 10, 3) := by decide +kernel
theorem d_21_7 : decode (bC 21) 7 = .ok (.iload_n 2, 1) := by decide +kernel
theorem d_21_8 : decode (bC 21) 8 = .ok (.invokestatic 115, 3) := by decide +kernel
theorem d_21_11 : decode (bC 21) 11 = .ok (.ifCond .ne 5, 3) := by decide +kernel
theorem d_21_14 : decode (bC 21) 14 = .ok (.iconst 0, 1) := by decide +kernel
theorem d_21_15 : decode (bC 21) 15 = .ok (.ireturn, 1) := by decide +kernel
theorem d_21_16 : decode (bC 21) 16 = .ok (.aload_n 0, 1) := by decide +kernel
theorem d_21_17 : decode (bC 21) 17 = .ok (.getfield 20, 3) := by decide +kernel
theorem d_21_20 : decode (bC 21) 20 = .ok (.iload_n 1, 1) := by decide +kernel
theorem d_21_21 : decode (bC 21) 21 = .ok (.aload_n 0, 1) := by decide +kernel
theorem d_21_22 : decode (bC 21) 22 = .ok (.iload_n 2, 1) := by decide +kernel
theorem d_21_23 : decode (bC 21) 23 = .ok (.invokevirtual 108, 3) := by decide +kernel
theorem d_21_26 : decode (bC 21) 26 = .ok (.aastore, 1) := by decide +kernel
theorem d_21_27 : decode (bC 21) 27 = .ok (.iconst 1, 1) := by decide +kernel
theorem d_21_28 : decode (bC 21) 28 = .ok (.ireturn, 1) := by decide +kernel
theorem d_22_0 : decode (bC 22) 0 = .ok (.iload_n 1, 1) := by decide +kernel
theorem d_22_1 : decode (bC 22) 1 = .ok (.invokestatic 30, 3) := by decide +kernel
theorem d_22_4 : decode (bC 22) 4 = .ok (.ifCond .eq 12, 3) := by decide +kernel
theorem d_22_7 : decode (bC 22) 7 = .ok (.aload_n 0, 1) := by decide +kernel
theorem d_22_8 : decode (bC 22) 8 = .ok (.getfield 20, 3) := by decide +kernel
theorem d_22_11 : decode (bC 22) 11 = .ok (.iload_n 1, 1) := by decide +kernel
theorem d_22_12 : decode (bC 22) 12 = .ok (.aaload, 1) := by decide +kernel
theorem d_22_13 : decode (bC 22) 13 = .ok (.goto 4, 3) := by decide +kernel
theorem d_22_16 : decode (bC 22) 16 = .ok (.aconst_null, 1) := by decide +kernel
theorem d_22_17 : decode (bC 22) 17 = .ok (.areturn, 1) := by decide +kernel
theorem d_23_0 : decode (bC 23) 0 = .ok (.iload_n 0, 1) := by decide +kernel
theorem d_23_1 : decode (bC 23) 1 = .ok (.ifCond .lt 13, 3) := by decide +kernel
theorem d_23_4 : decode (bC 23) 4 = .ok (.iload_n 0, 1) := by decide +kernel
theorem d_23_5 : decode (bC 23) 5 = .ok (.bipush 6, 2) := by decide +kernel
theorem d_23_7 : decode (bC 23) 7 = .ok (.if_icmp .ge 7, 3) := by decide +kernel
theorem d_23_10 : decode (bC 23) 10 = .ok (.iconst 1, 1) := by decide +kernel
theorem d_23_11 : decode (bC 23) 11 = .ok (.goto 4, 3) := by decide +kernel
theorem d_23_14 : decode (bC 23) 14 = .ok (.iconst 0, 1) := by decide +kernel
theorem d_23_15 : decode (bC 23) 15 = .ok (.ireturn, 1) := by decide +kernel
theorem d_24_0 : decode (bC 24) 0 = .ok (.iload_n 0, 1) := by decide +kernel
theorem d_24_1 : decode (bC 24) 1 = .ok (.iconst (-1), 1) := by decide +kernel
theorem d_24_2 : decode (bC 24) 2 = .ok (.if_icmp .eq 10, 3) := by decide +kernel
theorem d_24_5 : decode (bC 24) 5 = .ok (.iload_n 0, 1) := by decide +kernel
theorem d_24_6 : decode (bC 24) 6 = .ok (.invokestatic 30, 3) := by decide +kernel
theorem d_24_9 : decode (bC 24) 9 = .ok (.ifCond .eq 7, 3) := by decide +kernel
theorem d_24_12 : decode (bC 24) 12 = .ok (.iconst 1, 1) := by decide +kernel
theorem d_24_13 : decode (bC 24) 13 = .ok (.goto 4, 3) := by decide +kernel
theorem d_24_16 : decode (bC 24) 16 = .ok (.iconst 0, 1) := by decide +kernel
theorem d_24_17 : decode (bC 24) 17 = .ok (.ireturn, 1) := by decide +kernel
theorem d_25_0 : decode (bC 25) 0 = .ok (.iload_n 0, 1) := by decide +kernel
theorem d_25_1 : decode (bC 25) 1 = .ok (.ifCond .lt 12, 3) := by decide +kernel
theorem d_25_4 : decode (bC 25) 4 = .ok (.iload_n 0, 1) := by decide +kernel
theorem d_25_5 : decode (bC 25) 5 = .ok (.iconst 3, 1) := by decide +kernel
theorem d_25_6 : decode (bC 25) 6 = .ok (.if_icmp .gt 7, 3) := by decide +kernel
theorem d_25_9 : decode (bC 25) 9 = .ok (.iconst 1, 1) := by decide +kernel
theorem d_25_10 : decode (bC 25) 10 = .ok (.goto 4, 3) := by decide +kernel
theorem d_25_13 : decode (bC 25) 13 = .ok (.iconst 0, 1) := by decide +kernel
theorem d_25_14 : decode (bC 25) 14 = .ok (.ireturn, 1) := by decide +kernel
theorem d_26_0 : decode (bC 26) 0 = .ok (.iload_n 0, 1) := by decide +kernel
theorem d_26_1 : decode (bC 26) 1 = .ok (.ifCond .lt 13, 3) := by decide +kernel
theorem d_26_4 : decode (bC 26) 4 = .ok (.iload_n 0, 1) := by decide +kernel
theorem d_26_5 : decode (bC 26) 5 = .ok (.bipush 12, 2) := by decide +kernel
theorem d_26_7 : decode (bC 26) 7 = .ok (.if_icmp .ge 7, 3) := by decide +kernel
theorem d_26_10 : decode (bC 26) 10 = .ok (.iconst 1, 1) := by decide +kernel
theorem d_26_11 : decode (bC 26) 11 = .ok (.goto 4, 3) := by decide +kernel
theorem d_26_14 : decode (bC 26) 14 = .ok (.iconst 0, 1) := by decide +kernel
theorem d_26_15 : decode (bC 26) 15 = .ok (.ireturn, 1) := by decide +kernel
theorem d_27_0 : decode (bC 27) 0 = .ok (.iload_n 1, 1) := by decide +kernel
theorem d_27_1 : decode (bC 27) 1 = .ok (.ifCond .ge 7, 3) := by decide +kernel
theorem d_27_4 : decode (bC 27) 4 = .ok (.iconst (-1), 1) := by decide +kernel
theorem d_27_5 : decode (bC 27) 5 = .ok (.goto 8, 3) := by decide +kernel
theorem d_27_8 : decode (bC 27) 8 = .ok (.aload_n 0, 1) := by decide +kernel
theorem d_27_9 : decode (bC 27) 9 = .ok (.iload_n 1, 1) := by decide +kernel
theorem d_27_10 : decode (bC 27) 10 = .ok (.invokevirtual 77, 3) := by decide +kernel
theorem d_27_13 : decode (bC 27) 13 = .ok (.ireturn, 1) := by decide +kernel
theorem d_28_0 : decode (bC 28) 0 = .ok (.aload_n 0, 1) := by decide +kernel
theorem d_28_1 : decode (bC 28) 1 = .ok (.aload_n 0, 1) := by decide +kernel
theorem d_28_2 : decode (bC 28) 2 = .ok (.iload_n 1, 1) := by decide +kernel
theorem d_28_3 : decode (bC 28) 3 = .ok (.invokevirtual 121, 3) := by decide +kernel
theorem d_28_6 : decode (bC 28) 6 = .ok (.invokevirtual 124, 3) := by decide +kernel
theorem d_28_9 : decode (bC 28) 9 = .ok (.aload_n 0, 1) := by decide +kernel
theorem d_28_10 : decode (bC 28) 10 = .ok (.invokevirtual 127, 3) := by decide +kernel
theorem d_28_13 : decode (bC 28) 13 = .ok (.ifCond .eq 17, 3) := by decide +kernel
theorem d_28_16 : decode (bC 28) 16 = .ok (.aload_n 0, 1) := by decide +kernel
theorem d_28_17 : decode (bC 28) 17 = .ok (.invokevirtual 131, 3) := by decide +kernel
theorem d_28_20 : decode (bC 28) 20 = .ok (.ifCond .eq 10, 3) := by decide +kernel
theorem d_28_23 : decode (bC 28) 23 = .ok (.aload_n 0, 1) := by decide +kernel
theorem d_28_24 : decode (bC 28) 24 = .ok (.invokevirtual 134, 3) := by decide +kernel
theorem d_28_27 : decode (bC 28) 27 = .ok (.ifCond .ne 11, 3) := by decide +kernel
theorem d_28_30 : decode (bC 28) 30 = .ok (.aload_n 0, 1) := by decide +kernel
theorem d_28_31 : decode (bC 28) 31 = .ok (.invokevirtual 60, 3) := by decide +kernel
theorem d_28_34 : decode (bC 28) 34 = .ok (.pop, 1) := by decide +kernel
theorem d_28_35 : decode (bC 28) 35 = .ok (.bipush (-2), 2) := by decide +kernel
theorem d_28_37 : decode (bC 28) 37 = .ok (.ireturn, 1) := by decide +kernel
theorem d_28_38 : decode (bC 28) 38 = .ok (.aload_n 0, 1) := by decide +kernel
theorem d_28_39 : decode (bC 28) 39 = .ok (.invokevirtual 137, 3) := by decide +kernel
theorem d_28_42 : decode (bC 28) 42 = .ok (.aload_n 0, 1) := by decide +kernel
theorem d_28_43 : decode (bC 28) 43 = .ok (.getfield 140, 3) := by decide +kernel
theorem d_28_46 : decode (bC 28) 46 = .ok (.ireturn, 1) := by decide +kernel
theorem d_29_0 : decode (bC 29) 0 = .ok (.aload_n 0, 1) := by decide +kernel
theorem d_29_1 : decode (bC 29) 1 = .ok (.iconst 0, 1) := by decide +kernel
theorem d_29_2 : decode (bC 29) 2 = .ok (.putfield 140, 3) := by decide +kernel
theorem d_29_5 : decode (bC 29) 5 = .ok (.aload_n 0, 1) := by decide +kernel
theorem d_29_6 : decode (bC 29) 6 = .ok (.getfield 27, 3) := by decide +kernel
theorem d_29_9 : decode (bC 29) 9 = .ok (.iconst 2, 1) := by decide +kernel
theorem d_29_10 : decode (bC 29) 10 = .ok (.aconst_null, 1) := by decide +kernel
theorem d_29_11 : decode (bC 29) 11 = .ok (.aastore, 1) := by decide +kernel
theorem d_29_12 : decode (bC 29) 12 = .ok (.aload_n 0, 1) := by decide +kernel
theorem d_29_13 : decode (bC 29) 13 = .ok (.getfield 27, 3) := by decide +kernel
theorem d_29_16 : decode (bC 29) 16 = .ok (.iconst 3, 1) := by decide +kernel
theorem d_29_17 : decode (bC 29) 17 = .ok (.aconst_null, 1) := by decide +kernel
theorem d_29_18 : decode (bC 29) 18 = .ok (.aastore, 1) := by decide +kernel
theorem d_29_19 : decode (bC 29) 19 = .ok (.iconst 0, 1) := by decide +kernel
theorem d_29_20 : decode (bC 29) 20 = .ok (.istore_n 2, 1) := by decide +kernel
theorem d_29_21 : decode (bC 29) 21 = .ok (.iload_n 2, 1) := by decide +kernel
theorem d_29_22 : decode (bC 29) 22 = .ok (.bipush 12, 2) := by decide +kernel
theorem d_29_24 : decode (bC 29) 24 = .ok (.if_icmp .ge 89, 3) := by decide +kernel
theorem d_29_27 : decode (bC 29) 27 = .ok (.aload_n 0, 1) := by decide +kernel
theorem d_29_28 : decode (bC 29) 28 = .ok (.getfield 11, 3) := by decide +kernel
theorem d_29_31 : decode (bC 29) 31 = .ok (.iload_n 2, 1) := by decide +kernel
theorem d_29_32 : decode (bC 29) 32 = .ok (.aaload, 1) := by decide +kernel
theorem d_29_33 : decode (bC 29) 33 = .ok (.astore_n 3, 1) := by decide +kernel
theorem d_29_34 : decode (bC 29) 34 = .ok (.aload_n 3, 1) := by decide +kernel
theorem d_29_35 : decode (bC 29) 35 = .ok (.aload_n 3, 1) := by decide +kernel
theorem d_29_36 : decode (bC 29) 36 = .ok (.getfield 93, 3) := by decide +kernel
theorem d_29_39 : decode (bC 29) 39 = .ok (.iconst 1, 1) := by decide +kernel
theorem d_29_40 : decode (bC 29) 40 = .ok (.if_icmp .eq 20, 3) := by decide +kernel
theorem d_29_43 : decode (bC 29) 43 = .ok (.aload_n 3, 1) := by decide +kernel
theorem d_29_44 : decode (bC 29) 44 = .ok (.getfield 93, 3) := by decide +kernel
theorem d_29_47 : decode (bC 29) 47 = .ok (.iconst 2, 1) := by decide +kernel
theorem d_29_48 : decode (bC 29) 48 = .ok (.if_icmp .eq 12, 3) := by decide +kernel
theorem d_29_51 : decode (bC 29) 51 = .ok (.iload_n 1, 1) := by decide +kernel
theorem d_29_52 : decode (bC 29) 52 = .ok (.iload_n 2, 1) := by decide +kernel
theorem d_29_53 : decode (bC 29) 53 = .ok (.ishr, 1) := by decide +kernel
theorem d_29_54 : decode (bC 29) 54 = .ok (.iconst 1, 1) := by decide +kernel
theorem d_29_55 : decode (bC 29) 55 = .ok (.iand, 1) := by decide +kernel
theorem d_29_56 : decode (bC 29) 56 = .ok (.iconst 1, 1) := by decide +kernel
theorem d_29_57 : decode (bC 29) 57 = .ok (.if_icmp .ne 7, 3) := by decide +kernel
theorem d_29_60 : decode (bC 29) 60 = .ok (.iconst 1, 1) := by decide +kernel
theorem d_29_61 : decode (bC 29) 61 = .ok (.goto 4, 3) := by decide +kernel
theorem d_29_64 : decode (bC 29) 64 = .ok (.iconst 0, 1) := by decide +kernel
theorem d_29_65 : decode (bC 29) 65 = .ok (.putfield 143, 3) := by decide +kernel
theorem d_29_68 : decode (bC 29) 68 = .ok (.aload_n 3, 1) := by decide +kernel
theorem d_29_69 : decode (bC 29) 69 = .ok (.iconst 0, 1) := by decide +kernel
theorem d_29_70 : decode (bC 29) 70 = .ok (.putfield 147, 3) := by decide +kernel
theorem d_29_73 : decode (bC 29) 73 = .ok (.aload_n 3, 1) := by decide +kernel
theorem d_29_74 : decode (bC 29) 74 = .ok (.iconst 0, 1) := by decide +kernel
theorem d_29_75 : decode (bC 29) 75 = .ok (.putfield 150, 3) := by decide +kernel
theorem d_29_78 : decode (bC 29) 78 = .ok (.iconst 0, 1) := by decide +kernel
theorem d_29_79 : decode (bC 29) 79 = .ok (.istore 4, 2) := by decide +kernel
theorem d_29_81 : decode (bC 29) 81 = .ok (.iload 4, 2) := by decide +kernel
theorem d_29_83 : decode (bC 29) 83 = .ok (.aload_n 3, 1) := by decide +kernel
theorem d_29_84 : decode (bC 29) 84 = .ok (.getfield 153, 3) := by decide +kernel
theorem d_29_87 : decode (bC 29) 87 = .ok (.if_icmp .ge 20, 3) := by decide +kernel
theorem d_29_90 : decode (bC 29) 90 = .ok (.aload_n 3, 1) := by decide +kernel
theorem d_29_91 : decode (bC 29) 91 = .ok (.getfield 156, 3) := by decide +kernel
theorem d_29_94 : decode (bC 29) 94 = .ok (.iload 4, 2) := by decide +kernel
theorem d_29_96 : decode (bC 29) 96 = .ok (.aaload, 1) := by decide +kernel
theorem d_29_97 : decode (bC 29) 97 = .ok (.aconst_null, 1) := by decide +kernel
theorem d_29_98 : decode (bC 29) 98 = .ok (.putfield 159, 3) := by decide +kernel
theorem d_29_101 : decode (bC 29) 101 = .ok (.iinc 4 1, 3) := by decide +kernel
theorem d_29_104 : decode (bC 29) 104 = .ok (.goto (-23), 3) := by decide +kernel
theorem d_29_107 : decode (bC 29) 107 = .ok (.iinc 2 1, 3) := by decide +kernel
theorem d_29_110 : decode (bC 29) 110 = .ok (.goto (-89), 3) := by decide +kernel
theorem d_29_113 : decode (bC 29) 113 = .ok (.return_, 1) := by decide +kernel
theorem d_30_0 : decode (bC 30) 0 = .ok (.iconst 0, 1) := by decide +kernel
theorem d_30_1 : decode (bC 30) 1 = .ok (.istore_n 1, 1) := by decide +kernel
theorem d_30_2 : decode (bC 30) 2 = .ok (.iload_n 1, 1) := by decide +kernel
theorem d_30_3 : decode (bC 30) 3 = .ok (.bipush 6, 2) := by decide +kernel
theorem d_30_5 : decode (bC 30) 5 = .ok (.if_icmp .ge 24, 3) := by decide +kernel
theorem d_30_8 : decode (bC 30) 8 = .ok (.aload_n 0, 1) := by decide +kernel
theorem d_30_9 : decode (bC 30) 9 = .ok (.aload_n 0, 1) := by decide +kernel
theorem d_30_10 : decode (bC 30) 10 = .ok (.getfield 20, 3) := by decide +kernel
theorem d_30_13 : decode (bC 30) 13 = .ok (.iload_n 1, 1) := by decide +kernel
theorem d_30_14 : decode (bC 30) 14 = .ok (.aaload, 1) := by decide +kernel
theorem d_30_15 : decode (bC 30) 15 = .ok (.invokevirtual 162, 3) := by decide +kernel
theorem d_30_18 : decode (bC 30) 18 = .ok (.ifCond .ne 5, 3) := by decide +kernel
theorem d_30_21 : decode (bC 30) 21 = .ok (.iconst 0, 1) := by decide +kernel
theorem d_30_22 : decode (bC 30) 22 = .ok (.ireturn, 1) := by decide +kernel
theorem d_30_23 : decode (bC 30) 23 = .ok (.iinc 1 1, 3) := by decide +kernel
theorem d_30_26 : decode (bC 30) 26 = .ok (.goto (-24), 3) := by decide +kernel
theorem d_30_29 : decode (bC 30) 29 = .ok (.iconst 1, 1) := by decide +kernel
theorem d_30_30 : decode (bC 30) 30 = .ok (.ireturn, 1) := by decide +kernel
theorem d_31_0 : decode (bC 31) 0 = .ok (.iconst 0, 1) := by decide +kernel
theorem d_31_1 : decode (bC 31) 1 = .ok (.istore_n 1, 1) := by decide +kernel
theorem d_31_2 : decode (bC 31) 2 = .ok (.iload_n 1, 1) := by decide +kernel
theorem d_31_3 : decode (bC 31) 3 = .ok (.bipush 12, 2) := by decide +kernel
theorem d_31_5 : decode (bC 31) 5 = .ok (.if_icmp .ge 54, 3) := by decide +kernel
theorem d_31_8 : decode (bC 31) 8 = .ok (.aload_n 0, 1) := by decide +kernel
theorem d_31_9 : decode (bC 31) 9 = .ok (.getfield 11, 3) := by decide +kernel
theorem d_31_12 : decode (bC 31) 12 = .ok (.iload_n 1, 1) := by decide +kernel
theorem d_31_13 : decode (bC 31) 13 = .ok (.aaload, 1) := by decide +kernel
theorem d_31_14 : decode (bC 31) 14 = .ok (.astore_n 2, 1) := by decide +kernel
theorem d_31_15 : decode (bC 31) 15 = .ok (.iconst 0, 1) := by decide +kernel
theorem d_31_16 : decode (bC 31) 16 = .ok (.istore_n 3, 1) := by decide +kernel
theorem d_31_17 : decode (bC 31) 17 = .ok (.aload_n 2, 1) := by decide +kernel
theorem d_31_18 : decode (bC 31) 18 = .ok (.getfield 143, 3) := by decide +kernel
theorem d_31_21 : decode (bC 31) 21 = .ok (.ifCond .ne 32, 3) := by decide +kernel
theorem d_31_24 : decode (bC 31) 24 = .ok (.iload_n 3, 1) := by decide +kernel
theorem d_31_25 : decode (bC 31) 25 = .ok (.aload_n 2, 1) := by decide +kernel
theorem d_31_26 : decode (bC 31) 26 = .ok (.getfield 153, 3) := by decide +kernel
theorem d_31_29 : decode (bC 31) 29 = .ok (.if_icmp .ge 24, 3) := by decide +kernel
theorem d_31_32 : decode (bC 31) 32 = .ok (.aload_n 0, 1) := by decide +kernel
theorem d_31_33 : decode (bC 31) 33 = .ok (.aload_n 2, 1) := by decide +kernel
theorem d_31_34 : decode (bC 31) 34 = .ok (.getfield 156, 3) := by decide +kernel
theorem d_31_37 : decode (bC 31) 37 = .ok (.iload_n 3, 1) := by decide +kernel
theorem d_31_38 : decode (bC 31) 38 = .ok (.aaload, 1) := by decide +kernel
theorem d_31_39 : decode (bC 31) 39 = .ok (.invokevirtual 166, 3) := by decide +kernel
theorem d_31_42 : decode (bC 31) 42 = .ok (.ifCond .ne 5, 3) := by decide +kernel
theorem d_31_45 : decode (bC 31) 45 = .ok (.iconst 0, 1) := by decide +kernel
theorem d_31_46 : decode (bC 31) 46 = .ok (.ireturn, 1) := by decide +kernel
theorem d_31_47 : decode (bC 31) 47 = .ok (.iinc 3 1, 3) := by decide +kernel
theorem d_31_50 : decode (bC 31) 50 = .ok (.goto (-33), 3) := by decide +kernel
theorem d_31_53 : decode (bC 31) 53 = .ok (.iinc 1 1, 3) := by decide +kernel
theorem d_31_56 : decode (bC 31) 56 = .ok (.goto (-54), 3) := by decide +kernel
theorem d_31_59 : decode (bC 31) 59 = .ok (.iconst 1, 1) := by decide +kernel
theorem d_31_60 : decode (bC 31) 60 = .ok (.ireturn, 1) := by decide +kernel
theorem d_32_0 : decode (bC 32) 0 = .ok (.iconst 0, 1) := by decide +kernel
theorem d_32_1 : decode (bC 32) 1 = .ok (.istore_n 1, 1) := by decide +kernel
theorem d_32_2 : decode (bC 32) 2 = .ok (.iload_n 1, 1) := by decide +kernel
theorem d_32_3 : decode (bC 32) 3 = .ok (.aload_n 0, 1) := by decide +kernel
theorem d_32_4 : decode (bC 32) 4 = .ok (.getfield 140, 3) := by decide +kernel
theorem d_32_7 : decode (bC 32) 7 = .ok (.if_icmp .ge 30, 3) := by decide +kernel
theorem d_32_10 : decode (bC 32) 10 = .ok (.iload_n 1, 1) := by decide +kernel
theorem d_32_11 : decode (bC 32) 11 = .ok (.bipush 96, 2) := by decide +kernel
theorem d_32_13 : decode (bC 32) 13 = .ok (.if_icmp .ge 24, 3) := by decide +kernel
theorem d_32_16 : decode (bC 32) 16 = .ok (.aload_n 0, 1) := by decide +kernel
theorem d_32_17 : decode (bC 32) 17 = .ok (.aload_n 0, 1) := by decide +kernel
theorem d_32_18 : decode (bC 32) 18 = .ok (.getfield 24, 3) := by decide +kernel
theorem d_32_21 : decode (bC 32) 21 = .ok (.iload_n 1, 1) := by decide +kernel
theorem d_32_22 : decode (bC 32) 22 = .ok (.aaload, 1) := by decide +kernel
theorem d_32_23 : decode (bC 32) 23 = .ok (.invokevirtual 166, 3) := by decide +kernel
theorem d_32_26 : decode (bC 32) 26 = .ok (.ifCond .ne 5, 3) := by decide +kernel
theorem d_32_29 : decode (bC 32) 29 = .ok (.iconst 0, 1) := by decide +kernel
theorem d_32_30 : decode (bC 32) 30 = .ok (.ireturn, 1) := by decide +kernel
theorem d_32_31 : decode (bC 32) 31 = .ok (.iinc 1 1, 3) := by decide +kernel
theorem d_32_34 : decode (bC 32) 34 = .ok (.goto (-32), 3) := by decide +kernel
theorem d_32_37 : decode (bC 32) 37 = .ok (.iconst 1, 1) := by decide +kernel
theorem d_32_38 : decode (bC 32) 38 = .ok (.ireturn, 1) := by decide +kernel
theorem d_33_0 : decode (bC 33) 0 = .ok (.iconst 0, 1) := by decide +kernel
theorem d_33_1 : decode (bC 33) 1 = .ok (.istore_n 2, 1) := by decide +kernel
theorem d_33_2 : decode (bC 33) 2 = .ok (.iload_n 2, 1) := by decide +kernel
theorem d_33_3 : decode (bC 33) 3 = .ok (.aload_n 1, 1) := by decide +kernel
theorem d_33_4 : decode (bC 33) 4 = .ok (.getfield 118, 3) := by decide +kernel
theorem d_33_7 : decode (bC 33) 7 = .ok (.arraylength, 1) := by decide +kernel
theorem d_33_8 : decode (bC 33) 8 = .ok (.if_icmp .ge 24, 3) := by decide +kernel
theorem d_33_11 : decode (bC 33) 11 = .ok (.aload_n 0, 1) := by decide +kernel
theorem d_33_12 : decode (bC 33) 12 = .ok (.aload_n 1, 1) := by decide +kernel
theorem d_33_13 : decode (bC 33) 13 = .ok (.getfield 118, 3) := by decide +kernel
theorem d_33_16 : decode (bC 33) 16 = .ok (.iload_n 2, 1) := by decide +kernel
theorem d_33_17 : decode (bC 33) 17 = .ok (.aaload, 1) := by decide +kernel
theorem d_33_18 : decode (bC 33) 18 = .ok (.invokevirtual 162, 3) := by decide +kernel
theorem d_33_21 : decode (bC 33) 21 = .ok (.ifCond .ne 5, 3) := by decide +kernel
theorem d_33_24 : decode (bC 33) 24 = .ok (.iconst 0, 1) := by decide +kernel
theorem d_33_25 : decode (bC 33) 25 = .ok (.ireturn, 1) := by decide +kernel
theorem d_33_26 : decode (bC 33) 26 = .ok (.iinc 2 1, 3) := by decide +kernel
theorem d_33_29 : decode (bC 33) 29 = .ok (.goto (-27), 3) := by decide +kernel
theorem d_33_32 : decode (bC 33) 32 = .ok (.iconst 1, 1) := by decide +kernel
theorem d_33_33 : decode (bC 33) 33 = .ok (.ireturn, 1) := by decide +kernel
theorem d_34_0 : decode (bC 34) 0 = .ok (.aload_n 1, 1) := by decide +kernel
theorem d_34_1 : decode (bC 34) 1 = .ok (.ifnull 20, 3) := by decide +kernel
theorem d_34_4 : decode (bC 34) 4 = .ok (.aload_n 1, 1) := by decide +kernel
theorem d_34_5 : decode (bC 34) 5 = .ok (.getfield 169, 3) := by decide +kernel
theorem d_34_8 : decode (bC 34) 8 = .ok (.getfield 143, 3) := by decide +kernel
theorem d_34_11 : decode (bC 34) 11 = .ok (.ifCond .eq 10, 3) := by decide +kernel
theorem d_34_14 : decode (bC 34) 14 = .ok (.aload_n 1, 1) := by decide +kernel
theorem d_34_15 : decode (bC 34) 15 = .ok (.getfield 159, 3) := by decide +kernel
theorem d_34_18 : decode (bC 34) 18 = .ok (.ifnull 5, 3) := by decide +kernel
theorem d_34_21 : decode (bC 34) 21 = .ok (.iconst 1, 1) := by decide +kernel
theorem d_34_22 : decode (bC 34) 22 = .ok (.ireturn, 1) := by decide +kernel
theorem d_34_23 : decode (bC 34) 23 = .ok (.aload_n 0, 1) := by decide +kernel
theorem d_34_24 : decode (bC 34) 24 = .ok (.aload_n 1, 1) := by decide +kernel
theorem d_34_25 : decode (bC 34) 25 = .ok (.getfield 169, 3) := by decide +kernel
theorem d_34_28 : decode (bC 34) 28 = .ok (.getfield 93, 3) := by decide +kernel
theorem d_34_31 : decode (bC 34) 31 = .ok (.iconst 1, 1) := by decide +kernel
theorem d_34_32 : decode (bC 34) 32 = .ok (.if_icmp .ne 7, 3) := by decide +kernel
theorem d_34_35 : decode (bC 34) 35 = .ok (.iconst 2, 1) := by decide +kernel
theorem d_34_36 : decode (bC 34) 36 = .ok (.goto 4, 3) := by decide +kernel
theorem d_34_39 : decode (bC 34) 39 = .ok (.iconst 3, 1) := by decide +kernel
theorem d_34_40 : decode (bC 34) 40 = .ok (.aload_n 1, 1) := by decide +kernel
theorem d_34_41 : decode (bC 34) 41 = .ok (.getfield 96, 3) := by decide +kernel
theorem d_34_44 : decode (bC 34) 44 = .ok (.invokevirtual 172, 3) := by decide +kernel
theorem d_34_47 : decode (bC 34) 47 = .ok (.astore_n 2, 1) := by decide +kernel
theorem d_34_48 : decode (bC 34) 48 = .ok (.aload_n 2, 1) := by decide +kernel
theorem d_34_49 : decode (bC 34) 49 = .ok (.ifnonnull 5, 3) := by decide +kernel
theorem d_34_52 : decode (bC 34) 52 = .ok (.iconst 0, 1) := by decide +kernel
theorem d_34_53 : decode (bC 34) 53 = .ok (.ireturn, 1) := by decide +kernel
theorem d_34_54 : decode (bC 34) 54 = .ok (.aload_n 1, 1) := by decide +kernel
theorem d_34_55 : decode (bC 34) 55 = .ok (.aload_n 2, 1) := by decide +kernel
theorem d_34_56 : decode (bC 34) 56 = .ok (.putfield 159, 3) := by decide +kernel
theorem d_34_59 : decode (bC 34) 59 = .ok (.aload_n 2, 1) := by decide +kernel
theorem d_34_60 : decode (bC 34) 60 = .ok (.dup, 1) := by decide +kernel
theorem d_34_61 : decode (bC 34) 61 = .ok (.getfield 150, 3) := by decide +kernel
theorem d_34_64 : decode (bC 34) 64 = .ok (.aload_n 1, 1) := by decide +kernel
theorem d_34_65 : decode (bC 34) 65 = .ok (.getfield 96, 3) := by decide +kernel
theorem d_34_68 : decode (bC 34) 68 = .ok (.iadd, 1) := by decide +kernel
theorem d_34_69 : decode (bC 34) 69 = .ok (.putfield 150, 3) := by decide +kernel
theorem d_34_72 : decode (bC 34) 72 = .ok (.aload_n 0, 1) := by decide +kernel
theorem d_34_73 : decode (bC 34) 73 = .ok (.getfield 24, 3) := by decide +kernel
theorem d_34_76 : decode (bC 34) 76 = .ok (.aload_n 0, 1) := by decide +kernel
theorem d_34_77 : decode (bC 34) 77 = .ok (.getfield 140, 3) := by decide +kernel
theorem d_34_80 : decode (bC 34) 80 = .ok (.aload_n 1, 1) := by decide +kernel
theorem d_34_81 : decode (bC 34) 81 = .ok (.aastore, 1) := by decide +kernel
theorem d_34_82 : decode (bC 34) 82 = .ok (.aload_n 0, 1) := by decide +kernel
theorem d_34_83 : decode (bC 34) 83 = .ok (.dup, 1) := by decide +kernel
theorem d_34_84 : decode (bC 34) 84 = .ok (.getfield 140, 3) := by decide +kernel
theorem d_34_87 : decode (bC 34) 87 = .ok (.iconst 1, 1) := by decide +kernel
theorem d_34_88 : decode (bC 34) 88 = .ok (.iadd, 1) := by decide +kernel
theorem d_34_89 : decode (bC 34) 89 = .ok (.putfield 140, 3) := by decide +kernel
theorem d_34_92 : decode (bC 34) 92 = .ok (.iconst 1, 1) := by decide +kernel
theorem d_34_93 : decode (bC 34) 93 = .ok (.ireturn, 1) := by decide +kernel
theorem d_35_0 : decode (bC 35) 0 = .ok (.aload_n 0, 1) := by decide +kernel
theorem d_35_1 : decode (bC 35) 1 = .ok (.getfield 27, 3) := by decide +kernel
theorem d_35_4 : decode (bC 35) 4 = .ok (.iload_n 1, 1) := by decide +kernel
theorem d_35_5 : decode (bC 35) 5 = .ok (.aaload, 1) := by decide +kernel
theorem d_35_6 : decode (bC 35) 6 = .ok (.astore_n 3, 1) := by decide +kernel
theorem d_35_7 : decode (bC 35) 7 = .ok (.aload_n 3, 1) := by decide +kernel
theorem d_35_8 : decode (bC 35) 8 = .ok (.ifnull 16, 3) := by decide +kernel
theorem d_35_11 : decode (bC 35) 11 = .ok (.aload_n 3, 1) := by decide +kernel
theorem d_35_12 : decode (bC 35) 12 = .ok (.getfield 150, 3) := by decide +kernel
theorem d_35_15 : decode (bC 35) 15 = .ok (.iload_n 2, 1) := by decide +kernel
theorem d_35_16 : decode (bC 35) 16 = .ok (.iadd, 1) := by decide +kernel
theorem d_35_17 : decode (bC 35) 17 = .ok (.bipush 16, 2) := by decide +kernel
theorem d_35_19 : decode (bC 35) 19 = .ok (.if_icmp .gt 5, 3) := by decide +kernel
theorem d_35_22 : decode (bC 35) 22 = .ok (.aload_n 3, 1) := by decide +kernel
theorem d_35_23 : decode (bC 35) 23 = .ok (.areturn, 1) := by decide +kernel
theorem d_35_24 : decode (bC 35) 24 = .ok (.iconst 0, 1) := by decide +kernel
theorem d_35_25 : decode (bC 35) 25 = .ok (.istore 4, 2) := by decide +kernel
theorem d_35_27 : decode (bC 35) 27 = .ok (.iload 4, 2) := by decide +kernel
theorem d_35_29 : decode (bC 35) 29 = .ok (.bipush 12, 2) := by decide +kernel
theorem d_35_31 : decode (bC 35) 31 = .ok (.if_icmp .ge 51, 3) := by decide +kernel
theorem d_35_34 : decode (bC 35) 34 = .ok (.aload_n 0, 1) := by decide +kernel
theorem d_35_35 : decode (bC 35) 35 = .ok (.getfield 11, 3) := by decide +kernel
theorem d_35_38 : decode (bC 35) 38 = .ok (.iload 4, 2) := by decide +kernel
theorem d_35_40 : decode (bC 35) 40 = .ok (.aaload, 1) := by decide +kernel
theorem d_35_41 : decode (bC 35) 41 = .ok (.astore 5, 2) := by decide +kernel
theorem d_35_43 : decode (bC 35) 43 = .ok (.aload 5, 2) := by decide +kernel
theorem d_35_45 : decode (bC 35) 45 = .ok (.getfield 93, 3) := by decide +kernel
theorem d_35_48 : decode (bC 35) 48 = .ok (.ifCond .ne 28, 3) := by decide +kernel
theorem d_35_51 : decode (bC 35) 51 = .ok (.aload 5, 2) := by decide +kernel
theorem d_35_53 : decode (bC 35) 53 = .ok (.getfield 147, 3) := by decide +kernel
theorem d_35_56 : decode (bC 35) 56 = .ok (.ifCond .ne 20, 3) := by decide +kernel
theorem d_35_59 : decode (bC 35) 59 = .ok (.aload 5, 2) := by decide +kernel
theorem d_35_61 : decode (bC 35) 61 = .ok (.iload_n 1, 1) := by decide +kernel
theorem d_35_62 : decode (bC 35) 62 = .ok (.putfield 147, 3) := by decide +kernel
theorem d_35_65 : decode (bC 35) 65 = .ok (.aload_n 0, 1) := by decide +kernel
theorem d_35_66 : decode (bC 35) 66 = .ok (.getfield 27, 3) := by decide +kernel
theorem d_35_69 : decode (bC 35) 69 = .ok (.iload_n 1, 1) := by decide +kernel
theorem d_35_70 : decode (bC 35) 70 = .ok (.aload 5, 2) := by decide +kernel
theorem d_35_72 : decode (bC 35) 72 = .ok (.aastore, 1) := by decide +kernel
theorem d_35_73 : decode (bC 35) 73 = .ok (.aload 5, 2) := by decide +kernel
theorem d_35_75 : decode (bC 35) 75 = .ok (.areturn, 1) := by decide +kernel
theorem d_35_76 : decode (bC 35) 76 = .ok (.iinc 4 1, 3) := by decide +kernel
theorem d_35_79 : decode (bC 35) 79 = .ok (.goto (-52), 3) := by decide +kernel
theorem d_35_82 : decode (bC 35) 82 = .ok (.aconst_null, 1) := by decide +kernel
theorem d_35_83 : decode (bC 35) 83 = .ok (.areturn, 1) := by decide +kernel
theorem d_36_0 : decode (bC 36) 0 = .ok (.iconst 0, 1) := by decide +kernel
theorem d_36_1 : decode (bC 36) 1 = .ok (.istore_n 1, 1) := by decide +kernel
theorem d_36_2 : decode (bC 36) 2 = .ok (.iload_n 1, 1) := by decide +kernel
theorem d_36_3 : decode (bC 36) 3 = .ok (.bipush 12, 2) := by decide +kernel
theorem d_36_5 : decode (bC 36) 5 = .ok (.if_icmp .ge 45, 3) := by decide +kernel
theorem d_36_8 : decode (bC 36) 8 = .ok (.aload_n 0, 1) := by decide +kernel
theorem d_36_9 : decode (bC 36) 9 = .ok (.getfield 11, 3) := by decide +kernel
theorem d_36_12 : decode (bC 36) 12 = .ok (.iload_n 1, 1) := by decide +kernel
theorem d_36_13 : decode (bC 36) 13 = .ok (.aaload, 1) := by decide +kernel
theorem d_36_14 : decode (bC 36) 14 = .ok (.astore_n 2, 1) := by decide +kernel
theorem d_36_15 : decode (bC 36) 15 = .ok (.aload_n 2, 1) := by decide +kernel
theorem d_36_16 : decode (bC 36) 16 = .ok (.getfield 143, 3) := by decide +kernel
theorem d_36_19 : decode (bC 36) 19 = .ok (.ifCond .eq 10, 3) := by decide +kernel
theorem d_36_22 : decode (bC 36) 22 = .ok (.aload_n 2, 1) := by decide +kernel
theorem d_36_23 : decode (bC 36) 23 = .ok (.invokevirtual 176, 3) := by decide +kernel
theorem d_36_26 : decode (bC 36) 26 = .ok (.goto 18, 3) := by decide +kernel
theorem d_36_29 : decode (bC 36) 29 = .ok (.aload_n 2, 1) := by decide +kernel
theorem d_36_30 : decode (bC 36) 30 = .ok (.getfield 147, 3) := by decide +kernel
theorem d_36_33 : decode (bC 36) 33 = .ok (.ifCond .eq 11, 3) := by decide +kernel
theorem d_36_36 : decode (bC 36) 36 = .ok (.aload_n 2, 1) := by decide +kernel
theorem d_36_37 : decode (bC 36) 37 = .ok (.aload_n 2, 1) := by decide +kernel
theorem d_36_38 : decode (bC 36) 38 = .ok (.getfield 147, 3) := by decide +kernel
theorem d_36_41 : decode (bC 36) 41 = .ok (.putfield 93, 3) := by decide +kernel
theorem d_36_44 : decode (bC 36) 44 = .ok (.iinc 1 1, 3) := by decide +kernel
theorem d_36_47 : decode (bC 36) 47 = .ok (.goto (-45), 3) := by decide +kernel
theorem d_36_50 : decode (bC 36) 50 = .ok (.iconst 0, 1) := by decide +kernel
theorem d_36_51 : decode (bC 36) 51 = .ok (.istore_n 1, 1) := by decide +kernel
theorem d_36_52 : decode (bC 36) 52 = .ok (.iload_n 1, 1) := by decide +kernel
theorem d_36_53 : decode (bC 36) 53 = .ok (.aload_n 0, 1) := by decide +kernel
theorem d_36_54 : decode (bC 36) 54 = .ok (.getfield 140, 3) := by decide +kernel
theorem d_36_57 : decode (bC 36) 57 = .ok (.if_icmp .ge 45, 3) := by decide +kernel
theorem d_36_60 : decode (bC 36) 60 = .ok (.aload_n 0, 1) := by decide +kernel
theorem d_36_61 : decode (bC 36) 61 = .ok (.getfield 24, 3) := by decide +kernel
theorem d_36_64 : decode (bC 36) 64 = .ok (.iload_n 1, 1) := by decide +kernel
theorem d_36_65 : decode (bC 36) 65 = .ok (.aaload, 1) := by decide +kernel
theorem d_36_66 : decode (bC 36) 66 = .ok (.getfield 159, 3) := by decide +kernel
theorem d_36_69 : decode (bC 36) 69 = .ok (.aload_n 0, 1) := by decide +kernel
theorem d_36_70 : decode (bC 36) 70 = .ok (.getfield 24, 3) := by decide +kernel
theorem d_36_73 : decode (bC 36) 73 = .ok (.iload_n 1, 1) := by decide +kernel
theorem d_36_74 : decode (bC 36) 74 = .ok (.aaload, 1) := by decide +kernel
theorem d_36_75 : decode (bC 36) 75 = .ok (.invokevirtual 45, 3) := by decide +kernel
theorem d_36_78 : decode (bC 36) 78 = .ok (.aload_n 0, 1) := by decide +kernel
theorem d_36_79 : decode (bC 36) 79 = .ok (.dup, 1) := by decide +kernel
theorem d_36_80 : decode (bC 36) 80 = .ok (.getfield 179, 3) := by decide +kernel
theorem d_36_83 : decode (bC 36) 83 = .ok (.aload_n 0, 1) := by decide +kernel
theorem d_36_84 : decode (bC 36) 84 = .ok (.getfield 24, 3) := by decide +kernel
theorem d_36_87 : decode (bC 36) 87 = .ok (.iload_n 1, 1) := by decide +kernel
theorem d_36_88 : decode (bC 36) 88 = .ok (.aaload, 1) := by decide +kernel
theorem d_36_89 : decode (bC 36) 89 = .ok (.getfield 96, 3) := by decide +kernel
theorem d_36_92 : decode (bC 36) 92 = .ok (.iadd, 1) := by decide +kernel
theorem d_36_93 : decode (bC 36) 93 = .ok (.putfield 179, 3) := by decide +kernel
theorem d_36_96 : decode (bC 36) 96 = .ok (.iinc 1 1, 3) := by decide +kernel
theorem d_36_99 : decode (bC 36) 99 = .ok (.goto (-47), 3) := by decide +kernel
theorem d_36_102 : decode (bC 36) 102 = .ok (.aload_n 0, 1) := by decide +kernel
theorem d_36_103 : decode (bC 36) 103 = .ok (.aconst_null, 1) := by decide +kernel
theorem d_36_104 : decode (bC 36) 104 = .ok (.putfield 83, 3) := by decide +kernel
theorem d_36_107 : decode (bC 36) 107 = .ok (.aload_n 0, 1) := by decide +kernel
theorem d_36_108 : decode (bC 36) 108 = .ok (.dup, 1) := by decide +kernel
theorem d_36_109 : decode (bC 36) 109 = .ok (.getfield 182, 3) := by decide +kernel
theorem d_36_112 : decode (bC 36) 112 = .ok (.iconst 1, 1) := by decide +kernel
theorem d_36_113 : decode (bC 36) 113 = .ok (.iadd, 1) := by decide +kernel
theorem d_36_114 : decode (bC 36) 114 = .ok (.putfield 182, 3) := by decide +kernel
theorem d_36_117 : decode (bC 36) 117 = .ok (.return_, 1) := by decide +kernel
theorem d_37_0 : decode (bC 37) 0 = .ok (.iload_n 1, 1) := by decide +kernel
theorem d_37_1 : decode (bC 37) 1 = .ok (.ifCond .ge 7, 3) := by decide +kernel
theorem d_37_4 : decode (bC 37) 4 = .ok (.iconst 0, 1) := by decide +kernel
theorem d_37_5 : decode (bC 37) 5 = .ok (.goto 8, 3) := by decide +kernel
theorem d_37_8 : decode (bC 37) 8 = .ok (.aload_n 0, 1) := by decide +kernel
theorem d_37_9 : decode (bC 37) 9 = .ok (.iload_n 1, 1) := by decide +kernel
theorem d_37_10 : decode (bC 37) 10 = .ok (.invokevirtual 121, 3) := by decide +kernel
theorem d_37_13 : decode (bC 37) 13 = .ok (.ireturn, 1) := by decide +kernel
theorem d_38_0 : decode (bC 38) 0 = .ok (.aload_n 0, 1) := by decide +kernel
theorem d_38_1 : decode (bC 38) 1 = .ok (.invokevirtual 185, 3) := by decide +kernel
theorem d_38_4 : decode (bC 38) 4 = .ok (.iconst 0, 1) := by decide +kernel
theorem d_38_5 : decode (bC 38) 5 = .ok (.istore_n 2, 1) := by decide +kernel
theorem d_38_6 : decode (bC 38) 6 = .ok (.iconst 0, 1) := by decide +kernel
theorem d_38_7 : decode (bC 38) 7 = .ok (.istore_n 3, 1) := by decide +kernel
theorem d_38_8 : decode (bC 38) 8 = .ok (.iconst 0, 1) := by decide +kernel
theorem d_38_9 : decode (bC 38) 9 = .ok (.istore 4, 2) := by decide +kernel
theorem d_38_11 : decode (bC 38) 11 = .ok (.iload 4, 2) := by decide +kernel
theorem d_38_13 : decode (bC 38) 13 = .ok (.bipush 12, 2) := by decide +kernel
theorem d_38_15 : decode (bC 38) 15 = .ok (.if_icmp .ge 58, 3) := by decide +kernel
theorem d_38_18 : decode (bC 38) 18 = .ok (.aload_n 0, 1) := by decide +kernel
theorem d_38_19 : decode (bC 38) 19 = .ok (.invokevirtual 188, 3) := by decide +kernel
theorem d_38_22 : decode (bC 38) 22 = .ok (.astore 5, 2) := by decide +kernel
theorem d_38_24 : decode (bC 38) 24 = .ok (.aload 5, 2) := by decide +kernel
theorem d_38_26 : decode (bC 38) 26 = .ok (.ifnonnull 6, 3) := by decide +kernel
theorem d_38_29 : decode (bC 38) 29 = .ok (.goto 44, 3) := by decide +kernel
theorem d_38_32 : decode (bC 38) 32 = .ok (.aload 5, 2) := by decide +kernel
theorem d_38_34 : decode (bC 38) 34 = .ok (.iconst 0, 1) := by decide +kernel
theorem d_38_35 : decode (bC 38) 35 = .ok (.putfield 192, 3) := by decide +kernel
theorem d_38_38 : decode (bC 38) 38 = .ok (.aload 5, 2) := by decide +kernel
theorem d_38_40 : decode (bC 38) 40 = .ok (.getfield 195, 3) := by decide +kernel
theorem d_38_43 : decode (bC 38) 43 = .ok (.iload_n 1, 1) := by decide +kernel
theorem d_38_44 : decode (bC 38) 44 = .ok (.iload_n 3, 1) := by decide +kernel
theorem d_38_45 : decode (bC 38) 45 = .ok (.isub, 1) := by decide +kernel
theorem d_38_46 : decode (bC 38) 46 = .ok (.if_icmp .gt 21, 3) := by decide +kernel
theorem d_38_49 : decode (bC 38) 49 = .ok (.iload_n 3, 1) := by decide +kernel
theorem d_38_50 : decode (bC 38) 50 = .ok (.aload 5, 2) := by decide +kernel
theorem d_38_52 : decode (bC 38) 52 = .ok (.getfield 195, 3) := by decide +kernel
theorem d_38_55 : decode (bC 38) 55 = .ok (.iadd, 1) := by decide +kernel
theorem d_38_56 : decode (bC 38) 56 = .ok (.istore_n 3, 1) := by decide +kernel
theorem d_38_57 : decode (bC 38) 57 = .ok (.iload_n 2, 1) := by decide +kernel
theorem d_38_58 : decode (bC 38) 58 = .ok (.iconst 1, 1) := by decide +kernel
theorem d_38_59 : decode (bC 38) 59 = .ok (.aload 5, 2) := by decide +kernel
theorem d_38_61 : decode (bC 38) 61 = .ok (.getfield 198, 3) := by decide +kernel
theorem d_38_64 : decode (bC 38) 64 = .ok (.ishl, 1) := by decide +kernel
theorem d_38_65 : decode (bC 38) 65 = .ok (.ior, 1) := by decide +kernel
theorem d_38_66 : decode (bC 38) 66 = .ok (.istore_n 2, 1) := by decide +kernel
theorem d_38_67 : decode (bC 38) 67 = .ok (.iinc 4 1, 3) := by decide +kernel
theorem d_38_70 : decode (bC 38) 70 = .ok (.goto (-59), 3) := by decide +kernel
theorem d_38_73 : decode (bC 38) 73 = .ok (.iload_n 2, 1) := by decide +kernel
theorem d_38_74 : decode (bC 38) 74 = .ok (.ireturn, 1) := by decide +kernel
