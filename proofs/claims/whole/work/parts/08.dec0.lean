theorem d_0_0 : decode (bC 0) 0 = .ok (.aload_n 0, 1) := by decide +kernel
theorem d_0_1 : decode (bC 0) 1 = .ok (.invokespecial 1, 3) := by decide +kernel
theorem d_0_4 : decode (bC 0) 4 = .ok (.aload_n 0, 1) := by decide +kernel
theorem d_0_5 : decode (bC 0) 5 = .ok (.iload_n 1, 1) := by decide +kernel
theorem d_0_6 : decode (bC 0) 6 = .ok (.putfield 7, 3) := by decide +kernel
theorem d_0_9 : decode (bC 0) 9 = .ok (.aload_n 0, 1) := by decide +kernel
theorem d_0_10 : decode (bC 0) 10 = .ok (.iload_n 2, 1) := by decide +kernel
theorem d_0_11 : decode (bC 0) 11 = .ok (.putfield 13, 3) := by decide +kernel
theorem d_0_14 : decode (bC 0) 14 = .ok (.aload_n 0, 1) := by decide +kernel
theorem d_0_15 : decode (bC 0) 15 = .ok (.iload_n 3, 1) := by decide +kernel
theorem d_0_16 : decode (bC 0) 16 = .ok (.anewarray 8, 3) := by decide +kernel
theorem d_0_19 : decode (bC 0) 19 = .ok (.putfield 16, 3) := by decide +kernel
theorem d_0_22 : decode (bC 0) 22 = .ok (.return_, 1) := by decide +kernel
theorem d_1_0 : decode (bC 1) 0 = .ok (.iload_n 1, 1) := by decide +kernel
theorem d_1_1 : decode (bC 1) 1 = .ok (.ifCond .lt 16, 3) := by decide +kernel
theorem d_1_4 : decode (bC 1) 4 = .ok (.iload_n 1, 1) := by decide +kernel
theorem d_1_5 : decode (bC 1) 5 = .ok (.aload_n 0, 1) := by decide +kernel
theorem d_1_6 : decode (bC 1) 6 = .ok (.getfield 16, 3) := by decide +kernel
theorem d_1_9 : decode (bC 1) 9 = .ok (.arraylength, 1) := by decide +kernel
theorem d_1_10 : decode (bC 1) 10 = .ok (.if_icmp .ge 7, 3) := by decide +kernel
theorem d_1_13 : decode (bC 1) 13 = .ok (.iconst 1, 1) := by decide +kernel
theorem d_1_14 : decode (bC 1) 14 = .ok (.goto 4, 3) := by decide +kernel
theorem d_1_17 : decode (bC 1) 17 = .ok (.iconst 0, 1) := by decide +kernel
theorem d_1_18 : decode (bC 1) 18 = .ok (.ireturn, 1) := by decide +kernel
theorem d_2_0 : decode (bC 2) 0 = .ok (.aload_n 0, 1) := by decide +kernel
theorem d_2_1 : decode (bC 2) 1 = .ok (.invokespecial 3, 3) := by decide +kernel
theorem d_2_4 : decode (bC 2) 4 = .ok (.aload_n 0, 1) := by decide +kernel
theorem d_2_5 : decode (bC 2) 5 = .ok (.iload_n 1, 1) := by decide +kernel
theorem d_2_6 : decode (bC 2) 6 = .ok (.putfield 9, 3) := by decide +kernel
theorem d_2_9 : decode (bC 2) 9 = .ok (.aload_n 0, 1) := by decide +kernel
theorem d_2_10 : decode (bC 2) 10 = .ok (.bipush 8, 2) := by decide +kernel
theorem d_2_12 : decode (bC 2) 12 = .ok (.anewarray 15, 3) := by decide +kernel
theorem d_2_15 : decode (bC 2) 15 = .ok (.putfield 17, 3) := by decide +kernel
theorem d_2_18 : decode (bC 2) 18 = .ok (.aload_n 0, 1) := by decide +kernel
theorem d_2_19 : decode (bC 2) 19 = .ok (.iconst 0, 1) := by decide +kernel
theorem d_2_20 : decode (bC 2) 20 = .ok (.putfield 21, 3) := by decide +kernel
theorem d_2_23 : decode (bC 2) 23 = .ok (.aload_n 0, 1) := by decide +kernel
theorem d_2_24 : decode (bC 2) 24 = .ok (.iconst (-1), 1) := by decide +kernel
theorem d_2_25 : decode (bC 2) 25 = .ok (.putfield 24, 3) := by decide +kernel
theorem d_2_28 : decode (bC 2) 28 = .ok (.return_, 1) := by decide +kernel
theorem d_3_0 : decode (bC 3) 0 = .ok (.aload_n 0, 1) := by decide +kernel
theorem d_3_1 : decode (bC 3) 1 = .ok (.getfield 27, 3) := by decide +kernel
theorem d_3_4 : decode (bC 3) 4 = .ok (.iload_n 1, 1) := by decide +kernel
theorem d_3_5 : decode (bC 3) 5 = .ok (.iadd, 1) := by decide +kernel
theorem d_3_6 : decode (bC 3) 6 = .ok (.bipush 16, 2) := by decide +kernel
theorem d_3_8 : decode (bC 3) 8 = .ok (.if_icmp .gt 7, 3) := by decide +kernel
theorem d_3_11 : decode (bC 3) 11 = .ok (.iconst 1, 1) := by decide +kernel
theorem d_3_12 : decode (bC 3) 12 = .ok (.goto 4, 3) := by decide +kernel
theorem d_3_15 : decode (bC 3) 15 = .ok (.iconst 0, 1) := by decide +kernel
theorem d_3_16 : decode (bC 3) 16 = .ok (.ireturn, 1) := by decide +kernel
theorem d_4_0 : decode (bC 4) 0 = .ok (.aload_n 0, 1) := by decide +kernel
theorem d_4_1 : decode (bC 4) 1 = .ok (.getfield 21, 3) := by decide +kernel
theorem d_4_4 : decode (bC 4) 4 = .ok (.iconst 4, 1) := by decide +kernel
theorem d_4_5 : decode (bC 4) 5 = .ok (.if_icmp .eq 11, 3) := by decide +kernel
theorem d_4_8 : decode (bC 4) 8 = .ok (.aload_n 0, 1) := by decide +kernel
theorem d_4_9 : decode (bC 4) 9 = .ok (.getfield 21, 3) := by decide +kernel
theorem d_4_12 : decode (bC 4) 12 = .ok (.iconst 5, 1) := by decide +kernel
theorem d_4_13 : decode (bC 4) 13 = .ok (.if_icmp .ne 7, 3) := by decide +kernel
theorem d_4_16 : decode (bC 4) 16 = .ok (.iconst 1, 1) := by decide +kernel
theorem d_4_17 : decode (bC 4) 17 = .ok (.goto 4, 3) := by decide +kernel
theorem d_4_20 : decode (bC 4) 20 = .ok (.iconst 0, 1) := by decide +kernel
theorem d_4_21 : decode (bC 4) 21 = .ok (.ireturn, 1) := by decide +kernel
theorem d_5_0 : decode (bC 5) 0 = .ok (.aload_n 1, 1) := by decide +kernel
theorem d_5_1 : decode (bC 5) 1 = .ok (.aload_n 0, 1) := by decide +kernel
theorem d_5_2 : decode (bC 5) 2 = .ok (.putfield 30, 3) := by decide +kernel
theorem d_5_5 : decode (bC 5) 5 = .ok (.aload_n 1, 1) := by decide +kernel
theorem d_5_6 : decode (bC 5) 6 = .ok (.aload_n 0, 1) := by decide +kernel
theorem d_5_7 : decode (bC 5) 7 = .ok (.getfield 27, 3) := by decide +kernel
theorem d_5_10 : decode (bC 5) 10 = .ok (.putfield 34, 3) := by decide +kernel
theorem d_5_13 : decode (bC 5) 13 = .ok (.aload_n 0, 1) := by decide +kernel
theorem d_5_14 : decode (bC 5) 14 = .ok (.getfield 17, 3) := by decide +kernel
theorem d_5_17 : decode (bC 5) 17 = .ok (.aload_n 0, 1) := by decide +kernel
theorem d_5_18 : decode (bC 5) 18 = .ok (.getfield 37, 3) := by decide +kernel
theorem d_5_21 : decode (bC 5) 21 = .ok (.aload_n 1, 1) := by decide +kernel
theorem d_5_22 : decode (bC 5) 22 = .ok (.aastore, 1) := by decide +kernel
theorem d_5_23 : decode (bC 5) 23 = .ok (.aload_n 0, 1) := by decide +kernel
theorem d_5_24 : decode (bC 5) 24 = .ok (.dup, 1) := by decide +kernel
theorem d_5_25 : decode (bC 5) 25 = .ok (.getfield 37, 3) := by decide +kernel
theorem d_5_28 : decode (bC 5) 28 = .ok (.iconst 1, 1) := by decide +kernel
theorem d_5_29 : decode (bC 5) 29 = .ok (.iadd, 1) := by decide +kernel
theorem d_5_30 : decode (bC 5) 30 = .ok (.putfield 37, 3) := by decide +kernel
theorem d_5_33 : decode (bC 5) 33 = .ok (.aload_n 0, 1) := by decide +kernel
theorem d_5_34 : decode (bC 5) 34 = .ok (.dup, 1) := by decide +kernel
theorem d_5_35 : decode (bC 5) 35 = .ok (.getfield 27, 3) := by decide +kernel
theorem d_5_38 : decode (bC 5) 38 = .ok (.aload_n 1, 1) := by decide +kernel
theorem d_5_39 : decode (bC 5) 39 = .ok (.getfield 40, 3) := by decide +kernel
theorem d_5_42 : decode (bC 5) 42 = .ok (.iadd, 1) := by decide +kernel
theorem d_5_43 : decode (bC 5) 43 = .ok (.putfield 27, 3) := by decide +kernel
theorem d_5_46 : decode (bC 5) 46 = .ok (.return_, 1) := by decide +kernel
theorem d_6_0 : decode (bC 6) 0 = .ok (.aload_n 0, 1) := by decide +kernel
theorem d_6_1 : decode (bC 6) 1 = .ok (.iconst 0, 1) := by decide +kernel
theorem d_6_2 : decode (bC 6) 2 = .ok (.putfield 21, 3) := by decide +kernel
theorem d_6_5 : decode (bC 6) 5 = .ok (.aload_n 0, 1) := by decide +kernel
theorem d_6_6 : decode (bC 6) 6 = .ok (.iconst 0, 1) := by decide +kernel
theorem d_6_7 : decode (bC 6) 7 = .ok (.putfield 27, 3) := by decide +kernel
theorem d_6_10 : decode (bC 6) 10 = .ok (.aload_n 0, 1) := by decide +kernel
theorem d_6_11 : decode (bC 6) 11 = .ok (.iconst (-1), 1) := by decide +kernel
theorem d_6_12 : decode (bC 6) 12 = .ok (.putfield 24, 3) := by decide +kernel
theorem d_6_15 : decode (bC 6) 15 = .ok (.aload_n 0, 1) := by decide +kernel
theorem d_6_16 : decode (bC 6) 16 = .ok (.iconst 0, 1) := by decide +kernel
theorem d_6_17 : decode (bC 6) 17 = .ok (.putfield 37, 3) := by decide +kernel
theorem d_6_20 : decode (bC 6) 20 = .ok (.return_, 1) := by decide +kernel
theorem d_7_0 : decode (bC 7) 0 = .ok (.iconst 0, 1) := by decide +kernel
theorem d_7_1 : decode (bC 7) 1 = .ok (.istore_n 1, 1) := by decide +kernel
theorem d_7_2 : decode (bC 7) 2 = .ok (.iconst 0, 1) := by decide +kernel
theorem d_7_3 : decode (bC 7) 3 = .ok (.istore_n 2, 1) := by decide +kernel
theorem d_7_4 : decode (bC 7) 4 = .ok (.iload_n 2, 1) := by decide +kernel
theorem d_7_5 : decode (bC 7) 5 = .ok (.aload_n 0, 1) := by decide +kernel
theorem d_7_6 : decode (bC 7) 6 = .ok (.getfield 37, 3) := by decide +kernel
theorem d_7_9 : decode (bC 7) 9 = .ok (.if_icmp .ge 33, 3) := by decide +kernel
theorem d_7_12 : decode (bC 7) 12 = .ok (.aload_n 0, 1) := by decide +kernel
theorem d_7_13 : decode (bC 7) 13 = .ok (.getfield 17, 3) := by decide +kernel
theorem d_7_16 : decode (bC 7) 16 = .ok (.iload_n 2, 1) := by decide +kernel
theorem d_7_17 : decode (bC 7) 17 = .ok (.aaload, 1) := by decide +kernel
theorem d_7_18 : decode (bC 7) 18 = .ok (.getfield 43, 3) := by decide +kernel
theorem d_7_21 : decode (bC 7) 21 = .ok (.ifCond .eq 15, 3) := by decide +kernel
theorem d_7_24 : decode (bC 7) 24 = .ok (.iload_n 1, 1) := by decide +kernel
theorem d_7_25 : decode (bC 7) 25 = .ok (.aload_n 0, 1) := by decide +kernel
theorem d_7_26 : decode (bC 7) 26 = .ok (.getfield 17, 3) := by decide +kernel
theorem d_7_29 : decode (bC 7) 29 = .ok (.iload_n 2, 1) := by decide +kernel
theorem d_7_30 : decode (bC 7) 30 = .ok (.aaload, 1) := by decide +kernel
theorem d_7_31 : decode (bC 7) 31 = .ok (.getfield 40, 3) := by decide +kernel
theorem d_7_34 : decode (bC 7) 34 = .ok (.iadd, 1) := by decide +kernel
theorem d_7_35 : decode (bC 7) 35 = .ok (.istore_n 1, 1) := by decide +kernel
theorem d_7_36 : decode (bC 7) 36 = .ok (.iinc 2 1, 3) := by decide +kernel
theorem d_7_39 : decode (bC 7) 39 = .ok (.goto (-35), 3) := by decide +kernel
theorem d_7_42 : decode (bC 7) 42 = .ok (.iload_n 1, 1) := by decide +kernel
theorem d_7_43 : decode (bC 7) 43 = .ok (.ireturn, 1) := by decide +kernel
theorem d_8_0 : decode (bC 8) 0 = .ok (.aload_n 0, 1) := by decide +kernel
theorem d_8_1 : decode (bC 8) 1 = .ok (.getfield 47, 3) := by decide +kernel
theorem d_8_4 : decode (bC 8) 4 = .ok (.aload_n 1, 1) := by decide +kernel
theorem d_8_5 : decode (bC 8) 5 = .ok (.getfield 50, 3) := by decide +kernel
theorem d_8_8 : decode (bC 8) 8 = .ok (.imul, 1) := by decide +kernel
theorem d_8_9 : decode (bC 8) 9 = .ok (.istore_n 2, 1) := by decide +kernel
theorem d_8_10 : decode (bC 8) 10 = .ok (.aload_n 1, 1) := by decide +kernel
theorem d_8_11 : decode (bC 8) 11 = .ok (.getfield 47, 3) := by decide +kernel
theorem d_8_14 : decode (bC 8) 14 = .ok (.aload_n 0, 1) := by decide +kernel
theorem d_8_15 : decode (bC 8) 15 = .ok (.getfield 50, 3) := by decide +kernel
theorem d_8_18 : decode (bC 8) 18 = .ok (.imul, 1) := by decide +kernel
theorem d_8_19 : decode (bC 8) 19 = .ok (.istore_n 3, 1) := by decide +kernel
theorem d_8_20 : decode (bC 8) 20 = .ok (.iload_n 2, 1) := by decide +kernel
theorem d_8_21 : decode (bC 8) 21 = .ok (.iload_n 3, 1) := by decide +kernel
theorem d_8_22 : decode (bC 8) 22 = .ok (.if_icmp .gt 19, 3) := by decide +kernel
theorem d_8_25 : decode (bC 8) 25 = .ok (.iload_n 2, 1) := by decide +kernel
theorem d_8_26 : decode (bC 8) 26 = .ok (.iload_n 3, 1) := by decide +kernel
theorem d_8_27 : decode (bC 8) 27 = .ok (.if_icmp .ne 18, 3) := by decide +kernel
theorem d_8_30 : decode (bC 8) 30 = .ok (.aload_n 0, 1) := by decide +kernel
theorem d_8_31 : decode (bC 8) 31 = .ok (.getfield 9, 3) := by decide +kernel
theorem d_8_34 : decode (bC 8) 34 = .ok (.aload_n 1, 1) := by decide +kernel
theorem d_8_35 : decode (bC 8) 35 = .ok (.getfield 9, 3) := by decide +kernel
theorem d_8_38 : decode (bC 8) 38 = .ok (.if_icmp .ge 7, 3) := by decide +kernel
theorem d_8_41 : decode (bC 8) 41 = .ok (.iconst 1, 1) := by decide +kernel
theorem d_8_42 : decode (bC 8) 42 = .ok (.goto 4, 3) := by decide +kernel
theorem d_8_45 : decode (bC 8) 45 = .ok (.iconst 0, 1) := by decide +kernel
theorem d_8_46 : decode (bC 8) 46 = .ok (.ireturn, 1) := by decide +kernel
theorem d_9_0 : decode (bC 9) 0 = .ok (.aload_n 0, 1) := by decide +kernel
theorem d_9_1 : decode (bC 9) 1 = .ok (.invokespecial 3, 3) := by decide +kernel
theorem d_9_4 : decode (bC 9) 4 = .ok (.aload_n 0, 1) := by decide +kernel
theorem d_9_5 : decode (bC 9) 5 = .ok (.bipush 12, 2) := by decide +kernel
theorem d_9_7 : decode (bC 9) 7 = .ok (.anewarray 9, 3) := by decide +kernel
theorem d_9_10 : decode (bC 9) 10 = .ok (.putfield 11, 3) := by decide +kernel
theorem d_9_13 : decode (bC 9) 13 = .ok (.iconst 0, 1) := by decide +kernel
theorem d_9_14 : decode (bC 9) 14 = .ok (.istore_n 1, 1) := by decide +kernel
theorem d_9_15 : decode (bC 9) 15 = .ok (.iload_n 1, 1) := by decide +kernel
theorem d_9_16 : decode (bC 9) 16 = .ok (.bipush 12, 2) := by decide +kernel
theorem d_9_18 : decode (bC 9) 18 = .ok (.if_icmp .ge 23, 3) := by decide +kernel
theorem d_9_21 : decode (bC 9) 21 = .ok (.aload_n 0, 1) := by decide +kernel
theorem d_9_22 : decode (bC 9) 22 = .ok (.getfield 11, 3) := by decide +kernel
theorem d_9_25 : decode (bC 9) 25 = .ok (.iload_n 1, 1) := by decide +kernel
theorem d_9_26 : decode (bC 9) 26 = .ok (.new 9, 3) := by decide +kernel
theorem d_9_29 : decode (bC 9) 29 = .ok (.dup, 1) := by decide +kernel
theorem d_9_30 : decode (bC 9) 30 = .ok (.iload_n 1, 1) := by decide +kernel
theorem d_9_31 : decode (bC 9) 31 = .ok (.invokespecial 15, 3) := by decide +kernel
theorem d_9_34 : decode (bC 9) 34 = .ok (.aastore, 1) := by decide +kernel
theorem d_9_35 : decode (bC 9) 35 = .ok (.iinc 1 1, 3) := by decide +kernel
theorem d_9_38 : decode (bC 9) 38 = .ok (.goto (-23), 3) := by decide +kernel
theorem d_9_41 : decode (bC 9) 41 = .ok (.aload_n 0, 1) := by decide +kernel
theorem d_9_42 : decode (bC 9) 42 = .ok (.bipush 6, 2) := by decide +kernel
theorem d_9_44 : decode (bC 9) 44 = .ok (.anewarray 18, 3) := by decide +kernel
theorem d_9_47 : decode (bC 9) 47 = .ok (.putfield 20, 3) := by decide +kernel
theorem d_9_50 : decode (bC 9) 50 = .ok (.aload_n 0, 1) := by decide +kernel
theorem d_9_51 : decode (bC 9) 51 = .ok (.bipush 96, 2) := by decide +kernel
theorem d_9_53 : decode (bC 9) 53 = .ok (.anewarray 18, 3) := by decide +kernel
theorem d_9_56 : decode (bC 9) 56 = .ok (.putfield 24, 3) := by decide +kernel
theorem d_9_59 : decode (bC 9) 59 = .ok (.aload_n 0, 1) := by decide +kernel
theorem d_9_60 : decode (bC 9) 60 = .ok (.iconst 4, 1) := by decide +kernel
theorem d_9_61 : decode (bC 9) 61 = .ok (.anewarray 9, 3) := by decide +kernel
theorem d_9_64 : decode (bC 9) 64 = .ok (.putfield 27, 3) := by decide +kernel
theorem d_9_67 : decode (bC 9) 67 = .ok (.return_, 1) := by decide +kernel
theorem d_10_0 : decode (bC 10) 0 = .ok (.iload_n 1, 1) := by decide +kernel
theorem d_10_1 : decode (bC 10) 1 = .ok (.invokestatic 30, 3) := by decide +kernel
theorem d_10_4 : decode (bC 10) 4 = .ok (.ifCond .eq 19, 3) := by decide +kernel
theorem d_10_7 : decode (bC 10) 7 = .ok (.iload_n 2, 1) := by decide +kernel
theorem d_10_8 : decode (bC 10) 8 = .ok (.invokestatic 34, 3) := by decide +kernel
theorem d_10_11 : decode (bC 10) 11 = .ok (.ifCond .eq 12, 3) := by decide +kernel
theorem d_10_14 : decode (bC 10) 14 = .ok (.iload_n 3, 1) := by decide +kernel
theorem d_10_15 : decode (bC 10) 15 = .ok (.ifCond .lt 8, 3) := by decide +kernel
theorem d_10_18 : decode (bC 10) 18 = .ok (.iload_n 3, 1) := by decide +kernel
theorem d_10_19 : decode (bC 10) 19 = .ok (.iconst 3, 1) := by decide +kernel
theorem d_10_20 : decode (bC 10) 20 = .ok (.if_icmp .le 5, 3) := by decide +kernel
theorem d_10_23 : decode (bC 10) 23 = .ok (.iconst (-1), 1) := by decide +kernel
theorem d_10_24 : decode (bC 10) 24 = .ok (.ireturn, 1) := by decide +kernel
theorem d_10_25 : decode (bC 10) 25 = .ok (.iconst 2, 1) := by decide +kernel
theorem d_10_26 : decode (bC 10) 26 = .ok (.iload_n 2, 1) := by decide +kernel
theorem d_10_27 : decode (bC 10) 27 = .ok (.iadd, 1) := by decide +kernel
theorem d_10_28 : decode (bC 10) 28 = .ok (.iload_n 3, 1) := by decide +kernel
theorem d_10_29 : decode (bC 10) 29 = .ok (.iadd, 1) := by decide +kernel
theorem d_10_30 : decode (bC 10) 30 = .ok (.istore 4, 2) := by decide +kernel
theorem d_10_32 : decode (bC 10) 32 = .ok (.aload_n 0, 1) := by decide +kernel
theorem d_10_33 : decode (bC 10) 33 = .ok (.iload 4, 2) := by decide +kernel
theorem d_10_35 : decode (bC 10) 35 = .ok (.invokevirtual 37, 3) := by decide +kernel
theorem d_10_38 : decode (bC 10) 38 = .ok (.astore 5, 2) := by decide +kernel
theorem d_10_40 : decode (bC 10) 40 = .ok (.aload 5, 2) := by decide +kernel
theorem d_10_42 : decode (bC 10) 42 = .ok (.ifnonnull 6, 3) := by decide +kernel
theorem d_10_45 : decode (bC 10) 45 = .ok (.bipush (-2), 2) := by decide +kernel
theorem d_10_47 : decode (bC 10) 47 = .ok (.ireturn, 1) := by decide +kernel
theorem d_10_48 : decode (bC 10) 48 = .ok (.aload_n 0, 1) := by decide +kernel
theorem d_10_49 : decode (bC 10) 49 = .ok (.iload 4, 2) := by decide +kernel
theorem d_10_51 : decode (bC 10) 51 = .ok (.iload_n 2, 1) := by decide +kernel
theorem d_10_52 : decode (bC 10) 52 = .ok (.invokevirtual 41, 3) := by decide +kernel
theorem d_10_55 : decode (bC 10) 55 = .ok (.astore 6, 2) := by decide +kernel
theorem d_10_57 : decode (bC 10) 57 = .ok (.aload 5, 2) := by decide +kernel
theorem d_10_59 : decode (bC 10) 59 = .ok (.aload 6, 2) := by decide +kernel
theorem d_10_61 : decode (bC 10) 61 = .ok (.invokevirtual 45, 3) := by decide +kernel
theorem d_10_64 : decode (bC 10) 64 = .ok (.aload 5, 2) := by decide +kernel
theorem d_10_66 : decode (bC 10) 66 = .ok (.iconst (-1), 1) := by decide +kernel
theorem d_10_67 : decode (bC 10) 67 = .ok (.putfield 49, 3) := by decide +kernel
theorem d_10_70 : decode (bC 10) 70 = .ok (.aload_n 0, 1) := by decide +kernel
theorem d_10_71 : decode (bC 10) 71 = .ok (.getfield 20, 3) := by decide +kernel
theorem d_10_74 : decode (bC 10) 74 = .ok (.iload_n 1, 1) := by decide +kernel
theorem d_10_75 : decode (bC 10) 75 = .ok (.aload 6, 2) := by decide +kernel
theorem d_10_77 : decode (bC 10) 77 = .ok (.aastore, 1) := by decide +kernel
theorem d_10_78 : decode (bC 10) 78 = .ok (.aload 6, 2) := by decide +kernel
theorem d_10_80 : decode (bC 10) 80 = .ok (.getfield 53, 3) := by decide +kernel
theorem d_10_83 : decode (bC 10) 83 = .ok (.ireturn, 1) := by decide +kernel
theorem d_11_0 : decode (bC 11) 0 = .ok (.iload_n 1, 1) := by decide +kernel
theorem d_11_1 : decode (bC 11) 1 = .ok (.invokestatic 30, 3) := by decide +kernel
theorem d_11_4 : decode (bC 11) 4 = .ok (.ifCond .eq 22, 3) := by decide +kernel
theorem d_11_7 : decode (bC 11) 7 = .ok (.iload_n 2, 1) := by decide +kernel
theorem d_11_8 : decode (bC 11) 8 = .ok (.invokestatic 34, 3) := by decide +kernel
theorem d_11_11 : decode (bC 11) 11 = .ok (.ifCond .eq 15, 3) := by decide +kernel
theorem d_11_14 : decode (bC 11) 14 = .ok (.iload_n 3, 1) := by decide +kernel
theorem d_11_15 : decode (bC 11) 15 = .ok (.bipush 9, 2) := by decide +kernel
theorem d_11_17 : decode (bC 11) 17 = .ok (.if_icmp .lt 9, 3) := by decide +kernel
theorem d_11_20 : decode (bC 11) 20 = .ok (.iload_n 3, 1) := by decide +kernel
theorem d_11_21 : decode (bC 11) 21 = .ok (.bipush 40, 2) := by decide +kernel
theorem d_11_23 : decode (bC 11) 23 = .ok (.if_icmp .le 5, 3) := by decide +kernel
theorem d_11_26 : decode (bC 11) 26 = .ok (.iconst (-1), 1) := by decide +kernel
theorem d_11_27 : decode (bC 11) 27 = .ok (.ireturn, 1) := by decide +kernel
theorem d_11_28 : decode (bC 11) 28 = .ok (.iload_n 3, 1) := by decide +kernel
theorem d_11_29 : decode (bC 11) 29 = .ok (.bipush 16, 2) := by decide +kernel
theorem d_11_31 : decode (bC 11) 31 = .ok (.iadd, 1) := by decide +kernel
theorem d_11_32 : decode (bC 11) 32 = .ok (.iconst 1, 1) := by decide +kernel
theorem d_11_33 : decode (bC 11) 33 = .ok (.isub, 1) := by decide +kernel
theorem d_11_34 : decode (bC 11) 34 = .ok (.bipush 16, 2) := by decide +kernel
theorem d_11_36 : decode (bC 11) 36 = .ok (.idiv, 1) := by decide +kernel
theorem d_11_37 : decode (bC 11) 37 = .ok (.istore 4, 2) := by decide +kernel
theorem d_11_39 : decode (bC 11) 39 = .ok (.aload_n 0, 1) := by decide +kernel
theorem d_11_40 : decode (bC 11) 40 = .ok (.iload 4, 2) := by decide +kernel
theorem d_11_42 : decode (bC 11) 42 = .ok (.invokevirtual 56, 3) := by decide +kernel
theorem d_11_45 : decode (bC 11) 45 = .ok (.istore 5, 2) := by decide +kernel
theorem d_11_47 : decode (bC 11) 47 = .ok (.iload 5, 2) := by decide +kernel
theorem d_11_49 : decode (bC 11) 49 = .ok (.ifCond .ge 16, 3) := by decide +kernel
theorem d_11_52 : decode (bC 11) 52 = .ok (.aload_n 0, 1) := by decide +kernel
theorem d_11_53 : decode (bC 11) 53 = .ok (.invokevirtual 60, 3) := by decide +kernel
theorem d_11_56 : decode (bC 11) 56 = .ok (.pop, 1) := by decide +kernel
theorem d_11_57 : decode (bC 11) 57 = .ok (.aload_n 0, 1) := by decide +kernel
theorem d_11_58 : decode (bC 11) 58 = .ok (.iload 4, 2) := by decide +kernel
theorem d_11_60 : decode (bC 11) 60 = .ok (.invokevirtual 56, 3) := by decide +kernel
theorem d_11_63 : decode (bC 11) 63 = .ok (.istore 5, 2) := by decide +kernel
theorem d_11_65 : decode (bC 11) 65 = .ok (.iload 5, 2) := by decide +kernel
theorem d_11_67 : decode (bC 11) 67 = .ok (.ifCond .ge 6, 3) := by decide +kernel
theorem d_11_70 : decode (bC 11) 70 = .ok (.bipush (-2), 2) := by decide +kernel
theorem d_11_72 : decode (bC 11) 72 = .ok (.ireturn, 1) := by decide +kernel
theorem d_11_73 : decode (bC 11) 73 = .ok (.aload_n 0, 1) := by decide +kernel
theorem d_11_74 : decode (bC 11) 74 = .ok (.iload_n 3, 1) := by decide +kernel
theorem d_11_75 : decode (bC 11) 75 = .ok (.iload_n 2, 1) := by decide +kernel
theorem d_11_76 : decode (bC 11) 76 = .ok (.invokevirtual 41, 3) := by decide +kernel
theorem d_11_79 : decode (bC 11) 79 = .ok (.astore 6, 2) := by decide +kernel
theorem d_11_81 : decode (bC 11) 81 = .ok (.aload_n 0, 1) := by decide +kernel
theorem d_11_82 : decode (bC 11) 82 = .ok (.aload 6, 2) := by decide +kernel
theorem d_11_84 : decode (bC 11) 84 = .ok (.iload 5, 2) := by decide +kernel
theorem d_11_86 : decode (bC 11) 86 = .ok (.iload 4, 2) := by decide +kernel
theorem d_11_88 : decode (bC 11) 88 = .ok (.invokevirtual 64, 3) := by decide +kernel
theorem d_11_91 : decode (bC 11) 91 = .ok (.aload_n 0, 1) := by decide +kernel
theorem d_11_92 : decode (bC 11) 92 = .ok (.getfield 20, 3) := by decide +kernel
theorem d_11_95 : decode (bC 11) 95 = .ok (.iload_n 1, 1) := by decide +kernel
theorem d_11_96 : decode (bC 11) 96 = .ok (.aload 6, 2) := by decide +kernel
theorem d_11_98 : decode (bC 11) 98 = .ok (.aastore, 1) := by decide +kernel
theorem d_11_99 : decode (bC 11) 99 = .ok (.aload 6, 2) := by decide +kernel
theorem d_11_101 : decode (bC 11) 101 = .ok (.getfield 53, 3) := by decide +kernel
theorem d_11_104 : decode (bC 11) 104 = .ok (.ireturn, 1) := by decide +kernel
theorem d_12_0 : decode (bC 12) 0 = .ok (.aload_n 0, 1) := by decide +kernel
theorem d_12_1 : decode (bC 12) 1 = .ok (.dup, 1) := by decide +kernel
theorem d_12_2 : decode (bC 12) 2 = .ok (.getfield 68, 3) := by decide +kernel
theorem d_12_5 : decode (bC 12) 5 = .ok (.iconst 1, 1) := by decide +kernel
theorem d_12_6 : decode (bC 12) 6 = .ok (.iadd, 1) := by decide +kernel
theorem d_12_7 : decode (bC 12) 7 = .ok (.putfield 68, 3) := by decide +kernel
theorem d_12_10 : decode (bC 12) 10 = .ok (.new 18, 3) := by decide +kernel
theorem d_12_13 : decode (bC 12) 13 = .ok (.dup, 1) := by decide +kernel
theorem d_12_14 : decode (bC 12) 14 = .ok (.aload_n 0, 1) := by decide +kernel
theorem d_12_15 : decode (bC 12) 15 = .ok (.getfield 68, 3) := by decide +kernel
theorem d_12_18 : decode (bC 12) 18 = .ok (.iload_n 1, 1) := by decide +kernel
theorem d_12_19 : decode (bC 12) 19 = .ok (.iload_n 2, 1) := by decide +kernel
theorem d_12_20 : decode (bC 12) 20 = .ok (.invokespecial 71, 3) := by decide +kernel
theorem d_12_23 : decode (bC 12) 23 = .ok (.areturn, 1) := by decide +kernel
theorem d_13_0 : decode (bC 13) 0 = .ok (.aload_n 0, 1) := by decide +kernel
theorem d_13_1 : decode (bC 13) 1 = .ok (.iload_n 1, 1) := by decide +kernel
theorem d_13_2 : decode (bC 13) 2 = .ok (.invokevirtual 74, 3) := by decide +kernel
theorem d_13_5 : decode (bC 13) 5 = .ok (.astore_n 2, 1) := by decide +kernel
theorem d_13_6 : decode (bC 13) 6 = .ok (.aload_n 2, 1) := by decide +kernel
theorem d_13_7 : decode (bC 13) 7 = .ok (.ifnonnull 15, 3) := by decide +kernel
theorem d_13_10 : decode (bC 13) 10 = .ok (.aload_n 0, 1) := by decide +kernel
theorem d_13_11 : decode (bC 13) 11 = .ok (.iconst 0, 1) := by decide +kernel
theorem d_13_12 : decode (bC 13) 12 = .ok (.invokevirtual 77, 3) := by decide +kernel
theorem d_13_15 : decode (bC 13) 15 = .ok (.pop, 1) := by decide +kernel
theorem d_13_16 : decode (bC 13) 16 = .ok (.aload_n 0, 1) := by decide +kernel
theorem d_13_17 : decode (bC 13) 17 = .ok (.iload_n 1, 1) := by decide +kernel
theorem d_13_18 : decode (bC 13) 18 = .ok (.invokevirtual 74, 3) := by decide +kernel
theorem d_13_21 : decode (bC 13) 21 = .ok (.astore_n 2, 1) := by decide +kernel
theorem d_13_22 : decode (bC 13) 22 = .ok (.aload_n 2, 1) := by decide +kernel
theorem d_13_23 : decode (bC 13) 23 = .ok (.ifnonnull 14, 3) := by decide +kernel
theorem d_13_26 : decode (bC 13) 26 = .ok (.aload_n 0, 1) := by decide +kernel
theorem d_13_27 : decode (bC 13) 27 = .ok (.invokevirtual 60, 3) := by decide +kernel
theorem d_13_30 : decode (bC 13) 30 = .ok (.pop, 1) := by decide +kernel
theorem d_13_31 : decode (bC 13) 31 = .ok (.aload_n 0, 1) := by decide +kernel
theorem d_13_32 : decode (bC 13) 32 = .ok (.iload_n 1, 1) := by decide +kernel
theorem d_13_33 : decode (bC 13) 33 = .ok (.invokevirtual 74, 3) := by decide +kernel
theorem d_13_36 : decode (bC 13) 36 = .ok (.astore_n 2, 1) := by decide +kernel
theorem d_13_37 : decode (bC 13) 37 = .ok (.aload_n 2, 1) := by decide +kernel
theorem d_13_38 : decode (bC 13) 38 = .ok (.ifnull 7, 3) := by decide +kernel
theorem d_13_41 : decode (bC 13) 41 = .ok (.aload_n 2, 1) := by decide +kernel
theorem d_13_42 : decode (bC 13) 42 = .ok (.goto 8, 3) := by decide +kernel
theorem d_13_45 : decode (bC 13) 45 = .ok (.aload_n 0, 1) := by decide +kernel
theorem d_13_46 : decode (bC 13) 46 = .ok (.iload_n 1, 1) := by decide +kernel
theorem d_13_47 : decode (bC 13) 47 = .ok (.invokevirtual 80, 3) := by decide +kernel
theorem d_13_50 : decode (bC 13) 50 = .ok (.areturn, 1) := by decide +kernel
theorem d_14_0 : decode (bC 14) 0 = .ok (.aload_n 0, 1) := by decide +kernel
theorem d_14_1 : decode (bC 14) 1 = .ok (.getfield 83, 3) := by decide +kernel
theorem d_14_4 : decode (bC 14) 4 = .ok (.ifnull 19, 3) := by decide +kernel
theorem d_14_7 : decode (bC 14) 7 = .ok (.aload_n 0, 1) := by decide +kernel
theorem d_14_8 : decode (bC 14) 8 = .ok (.getfield 83, 3) := by decide +kernel
theorem d_14_11 : decode (bC 14) 11 = .ok (.iload_n 1, 1) := by decide +kernel
theorem d_14_12 : decode (bC 14) 12 = .ok (.invokevirtual 87, 3) := by decide +kernel
theorem d_14_15 : decode (bC 14) 15 = .ok (.ifCond .eq 8, 3) := by decide +kernel
theorem d_14_18 : decode (bC 14) 18 = .ok (.aload_n 0, 1) := by decide +kernel
theorem d_14_19 : decode (bC 14) 19 = .ok (.getfield 83, 3) := by decide +kernel
theorem d_14_22 : decode (bC 14) 22 = .ok (.areturn, 1) := by decide +kernel
theorem d_14_23 : decode (bC 14) 23 = .ok (.aload_n 0, 1) := by decide +kernel
theorem d_14_24 : decode (bC 14) 24 = .ok (.iconst 1, 1) := by decide +kernel
theorem d_14_25 : decode (bC 14) 25 = .ok (.invokevirtual 56, 3) := by decide +kernel
theorem d_14_28 : decode (bC 14) 28 = .ok (.istore_n 2, 1) := by decide +kernel
theorem d_14_29 : decode (bC 14) 29 = .ok (.iload_n 2, 1) := by decide +kernel
theorem d_14_30 : decode (bC 14) 30 = .ok (.ifCond .lt 11, 3) := by decide +kernel
theorem d_14_33 : decode (bC 14) 33 = .ok (.aload_n 0, 1) := by decide +kernel
theorem d_14_34 : decode (bC 14) 34 = .ok (.invokevirtual 90, 3) := by decide +kernel
theorem d_14_37 : decode (bC 14) 37 = .ok (.iconst 3, 1) := by decide +kernel
theorem d_14_38 : decode (bC 14) 38 = .ok (.if_icmp .lt 5, 3) := by decide +kernel
theorem d_14_41 : decode (bC 14) 41 = .ok (.aconst_null, 1) := by decide +kernel
theorem d_14_42 : decode (bC 14) 42 = .ok (.areturn, 1) := by decide +kernel
theorem d_14_43 : decode (bC 14) 43 = .ok (.aload_n 0, 1) := by decide +kernel
theorem d_14_44 : decode (bC 14) 44 = .ok (.aload_n 0, 1) := by decide +kernel
theorem d_14_45 : decode (bC 14) 45 = .ok (.getfield 11, 3) := by decide +kernel
theorem d_14_48 : decode (bC 14) 48 = .ok (.iload_n 2, 1) := by decide +kernel
theorem d_14_49 : decode (bC 14) 49 = .ok (.aaload, 1) := by decide +kernel
theorem d_14_50 : decode (bC 14) 50 = .ok (.putfield 83, 3) := by decide +kernel
theorem d_14_53 : decode (bC 14) 53 = .ok (.aload_n 0, 1) := by decide +kernel
theorem d_14_54 : decode (bC 14) 54 = .ok (.getfield 83, 3) := by decide +kernel
theorem d_14_57 : decode (bC 14) 57 = .ok (.iconst 1, 1) := by decide +kernel
theorem d_14_58 : decode (bC 14) 58 = .ok (.putfield 93, 3) := by decide +kernel
theorem d_14_61 : decode (bC 14) 61 = .ok (.aload_n 0, 1) := by decide +kernel
theorem d_14_62 : decode (bC 14) 62 = .ok (.getfield 83, 3) := by decide +kernel
theorem d_14_65 : decode (bC 14) 65 = .ok (.areturn, 1) := by decide +kernel
theorem d_15_0 : decode (bC 15) 0 = .ok (.iconst 0, 1) := by decide +kernel
theorem d_15_1 : decode (bC 15) 1 = .ok (.istore_n 1, 1) := by decide +kernel
theorem d_15_2 : decode (bC 15) 2 = .ok (.iconst 0, 1) := by decide +kernel
theorem d_15_3 : decode (bC 15) 3 = .ok (.istore_n 2, 1) := by decide +kernel
theorem d_15_4 : decode (bC 15) 4 = .ok (.iload_n 2, 1) := by decide +kernel
theorem d_15_5 : decode (bC 15) 5 = .ok (.bipush 12, 2) := by decide +kernel
theorem d_15_7 : decode (bC 15) 7 = .ok (.if_icmp .ge 25, 3) := by decide +kernel
theorem d_15_10 : decode (bC 15) 10 = .ok (.aload_n 0, 1) := by decide +kernel
theorem d_15_11 : decode (bC 15) 11 = .ok (.getfield 11, 3) := by decide +kernel
theorem d_15_14 : decode (bC 15) 14 = .ok (.iload_n 2, 1) := by decide +kernel
theorem d_15_15 : decode (bC 15) 15 = .ok (.aaload, 1) := by decide +kernel
theorem d_15_16 : decode (bC 15) 16 = .ok (.getfield 93, 3) := by decide +kernel
theorem d_15_19 : decode (bC 15) 19 = .ok (.iconst 1, 1) := by decide +kernel
theorem d_15_20 : decode (bC 15) 20 = .ok (.if_icmp .ne 6, 3) := by decide +kernel
theorem d_15_23 : decode (bC 15) 23 = .ok (.iinc 1 1, 3) := by decide +kernel
theorem d_15_26 : decode (bC 15) 26 = .ok (.iinc 2 1, 3) := by decide +kernel
theorem d_15_29 : decode (bC 15) 29 = .ok (.goto (-25), 3) := by decide +kernel
theorem d_15_32 : decode (bC 15) 32 = .ok (.iload_n 1, 1) := by decide +kernel
theorem d_15_33 : decode (bC 15) 33 = .ok (.ireturn, 1) := by decide +kernel
theorem d_16_0 : decode (bC 16) 0 = .ok (.iconst 0, 1) := by decide +kernel
theorem d_16_1 : decode (bC 16) 1 = .ok (.istore_n 2, 1) := by decide +kernel
theorem d_16_2 : decode (bC 16) 2 = .ok (.iload_n 2, 1) := by decide +kernel
theorem d_16_3 : decode (bC 16) 3 = .ok (.bipush 12, 2) := by decide +kernel
theorem d_16_5 : decode (bC 16) 5 = .ok (.if_icmp .ge 42, 3) := by decide +kernel
theorem d_16_8 : decode (bC 16) 8 = .ok (.aload_n 0, 1) := by decide +kernel
theorem d_16_9 : decode (bC 16) 9 = .ok (.getfield 11, 3) := by decide +kernel
theorem d_16_12 : decode (bC 16) 12 = .ok (.iload_n 2, 1) := by decide +kernel
theorem d_16_13 : decode (bC 16) 13 = .ok (.aaload, 1) := by decide +kernel
theorem d_16_14 : decode (bC 16) 14 = .ok (.getfield 93, 3) := by decide +kernel
theorem d_16_17 : decode (bC 16) 17 = .ok (.iconst 3, 1) := by decide +kernel
theorem d_16_18 : decode (bC 16) 18 = .ok (.if_icmp .ne 23, 3) := by decide +kernel
theorem d_16_21 : decode (bC 16) 21 = .ok (.aload_n 0, 1) := by decide +kernel
theorem d_16_22 : decode (bC 16) 22 = .ok (.getfield 11, 3) := by decide +kernel
theorem d_16_25 : decode (bC 16) 25 = .ok (.iload_n 2, 1) := by decide +kernel
theorem d_16_26 : decode (bC 16) 26 = .ok (.aaload, 1) := by decide +kernel
theorem d_16_27 : decode (bC 16) 27 = .ok (.iload_n 1, 1) := by decide +kernel
theorem d_16_28 : decode (bC 16) 28 = .ok (.invokevirtual 87, 3) := by decide +kernel
theorem d_16_31 : decode (bC 16) 31 = .ok (.ifCond .eq 10, 3) := by decide +kernel
theorem d_16_34 : decode (bC 16) 34 = .ok (.aload_n 0, 1) := by decide +kernel
theorem d_16_35 : decode (bC 16) 35 = .ok (.getfield 11, 3) := by decide +kernel
theorem d_16_38 : decode (bC 16) 38 = .ok (.iload_n 2, 1) := by decide +kernel
theorem d_16_39 : decode (bC 16) 39 = .ok (.aaload, 1) := by decide +kernel
theorem d_16_40 : decode (bC 16) 40 = .ok (.areturn, 1) := by decide +kernel
theorem d_16_41 : decode (bC 16) 41 = .ok (.iinc 2 1, 3) := by decide +kernel
theorem d_16_44 : decode (bC 16) 44 = .ok (.goto (-42), 3) := by decide +kernel
theorem d_16_47 : decode (bC 16) 47 = .ok (.aconst_null, 1) := by decide +kernel
theorem d_16_48 : decode (bC 16) 48 = .ok (.areturn, 1) := by decide +kernel
theorem d_17_0 : decode (bC 17) 0 = .ok (.iconst 0, 1) := by decide +kernel
theorem d_17_1 : decode (bC 17) 1 = .ok (.istore_n 2, 1) := by decide +kernel
theorem d_17_2 : decode (bC 17) 2 = .ok (.iconst 0, 1) := by decide +kernel
theorem d_17_3 : decode (bC 17) 3 = .ok (.istore_n 3, 1) := by decide +kernel
theorem d_17_4 : decode (bC 17) 4 = .ok (.iload_n 3, 1) := by decide +kernel
theorem d_17_5 : decode (bC 17) 5 = .ok (.bipush 12, 2) := by decide +kernel
theorem d_17_7 : decode (bC 17) 7 = .ok (.if_icmp .ge 40, 3) := by decide +kernel
theorem d_17_10 : decode (bC 17) 10 = .ok (.aload_n 0, 1) := by decide +kernel
theorem d_17_11 : decode (bC 17) 11 = .ok (.getfield 11, 3) := by decide +kernel
theorem d_17_14 : decode (bC 17) 14 = .ok (.iload_n 3, 1) := by decide +kernel
theorem d_17_15 : decode (bC 17) 15 = .ok (.aaload, 1) := by decide +kernel
theorem d_17_16 : decode (bC 17) 16 = .ok (.getfield 93, 3) := by decide +kernel
theorem d_17_19 : decode (bC 17) 19 = .ok (.ifCond .ne 9, 3) := by decide +kernel
theorem d_17_22 : decode (bC 17) 22 = .ok (.iload_n 2, 1) := by decide +kernel
theorem d_17_23 : decode (bC 17) 23 = .ok (.iconst 1, 1) := by decide +kernel
theorem d_17_24 : decode (bC 17) 24 = .ok (.iadd, 1) := by decide +kernel
theorem d_17_25 : decode (bC 17) 25 = .ok (.goto 4, 3) := by decide +kernel
theorem d_17_28 : decode (bC 17) 28 = .ok (.iconst 0, 1) := by decide +kernel
theorem d_17_29 : decode (bC 17) 29 = .ok (.istore_n 2, 1) := by decide +kernel
theorem d_17_30 : decode (bC 17) 30 = .ok (.iload_n 2, 1) := by decide +kernel
theorem d_17_31 : decode (bC 17) 31 = .ok (.iload_n 1, 1) := by decide +kernel
theorem d_17_32 : decode (bC 17) 32 = .ok (.if_icmp .ne 9, 3) := by decide +kernel
theorem d_17_35 : decode (bC 17) 35 = .ok (.iload_n 3, 1) := by decide +kernel
theorem d_17_36 : decode (bC 17) 36 = .ok (.iload_n 1, 1) := by decide +kernel
theorem d_17_37 : decode (bC 17) 37 = .ok (.isub, 1) := by decide +kernel
theorem d_17_38 : decode (bC 17) 38 = .ok (.iconst 1, 1) := by decide +kernel
theorem d_17_39 : decode (bC 17) 39 = .ok (.iadd, 1) := by decide +kernel
theorem d_17_40 : decode (bC 17) 40 = .ok (.ireturn, 1) := by decide +kernel
theorem d_17_41 : decode (bC 17) 41 = .ok (.iinc 3 1, 3) := by decide +kernel
theorem d_17_44 : decode (bC 17) 44 = .ok (.goto (-40), 3) := by decide +kernel
theorem d_17_47 : decode (bC 17) 47 = .ok (.iconst (-1), 1) := by decide +kernel
theorem d_17_48 : decode (bC 17) 48 = .ok (.ireturn, 1) := by decide +kernel
theorem d_18_0 : decode (bC 18) 0 = .ok (.aload_n 0, 1) := by decide +kernel
theorem d_18_1 : decode (bC 18) 1 = .ok (.getfield 11, 3) := by decide +kernel
theorem d_18_4 : decode (bC 18) 4 = .ok (.iload_n 2, 1) := by decide +kernel
theorem d_18_5 : decode (bC 18) 5 = .ok (.aaload, 1) := by decide +kernel
theorem d_18_6 : decode (bC 18) 6 = .ok (.aload_n 1, 1) := by decide +kernel
theorem d_18_7 : decode (bC 18) 7 = .ok (.invokevirtual 45, 3) := by decide +kernel
theorem d_18_10 : decode (bC 18) 10 = .ok (.aload_n 1, 1) := by decide +kernel
theorem d_18_11 : decode (bC 18) 11 = .ok (.getfield 96, 3) := by decide +kernel
theorem d_18_14 : decode (bC 18) 14 = .ok (.istore 4, 2) := by decide +kernel
theorem d_18_16 : decode (bC 18) 16 = .ok (.iload_n 2, 1) := by decide +kernel
theorem d_18_17 : decode (bC 18) 17 = .ok (.istore 5, 2) := by decide +kernel
theorem d_18_19 : decode (bC 18) 19 = .ok (.iload 5, 2) := by decide +kernel
theorem d_18_21 : decode (bC 18) 21 = .ok (.iload_n 2, 1) := by decide +kernel
theorem d_18_22 : decode (bC 18) 22 = .ok (.iload_n 3, 1) := by decide +kernel
theorem d_18_23 : decode (bC 18) 23 = .ok (.iadd, 1) := by decide +kernel
theorem d_18_24 : decode (bC 18) 24 = .ok (.if_icmp .ge 50, 3) := by decide +kernel
theorem d_18_27 : decode (bC 18) 27 = .ok (.aload_n 0, 1) := by decide +kernel
theorem d_18_28 : decode (bC 18) 28 = .ok (.getfield 11, 3) := by decide +kernel
theorem d_18_31 : decode (bC 18) 31 = .ok (.iload 5, 2) := by decide +kernel
theorem d_18_33 : decode (bC 18) 33 = .ok (.aaload, 1) := by decide +kernel
theorem d_18_34 : decode (bC 18) 34 = .ok (.iload 5, 2) := by decide +kernel
theorem d_18_36 : decode (bC 18) 36 = .ok (.iload_n 2, 1) := by decide +kernel
theorem d_18_37 : decode (bC 18) 37 = .ok (.if_icmp .ne 7, 3) := by decide +kernel
theorem d_18_40 : decode (bC 18) 40 = .ok (.iconst 4, 1) := by decide +kernel
theorem d_18_41 : decode (bC 18) 41 = .ok (.goto 4, 3) := by decide +kernel
theorem d_18_44 : decode (bC 18) 44 = .ok (.iconst 5, 1) := by decide +kernel
theorem d_18_45 : decode (bC 18) 45 = .ok (.putfield 93, 3) := by decide +kernel
theorem d_18_48 : decode (bC 18) 48 = .ok (.aload_n 0, 1) := by decide +kernel
theorem d_18_49 : decode (bC 18) 49 = .ok (.getfield 11, 3) := by decide +kernel
theorem d_18_52 : decode (bC 18) 52 = .ok (.iload 5, 2) := by decide +kernel
theorem d_18_54 : decode (bC 18) 54 = .ok (.aaload, 1) := by decide +kernel
theorem d_18_55 : decode (bC 18) 55 = .ok (.iload 4, 2) := by decide +kernel
theorem d_18_57 : decode (bC 18) 57 = .ok (.bipush 16, 2) := by decide +kernel
theorem d_18_59 : decode (bC 18) 59 = .ok (.invokestatic 99, 3) := by decide +kernel
theorem d_18_62 : decode (bC 18) 62 = .ok (.putfield 105, 3) := by decide +kernel
theorem d_18_65 : decode (bC 18) 65 = .ok (.iinc 4 (-16), 3) := by decide +kernel
theorem d_18_68 : decode (bC 18) 68 = .ok (.iinc 5 1, 3) := by decide +kernel
theorem d_18_71 : decode (bC 18) 71 = .ok (.goto (-52), 3) := by decide +kernel
theorem d_18_74 : decode (bC 18) 74 = .ok (.return_, 1) := by decide +kernel
theorem d_19_0 : decode (bC 19) 0 = .ok (.aload_n 0, 1) := by decide +kernel
theorem d_19_1 : decode (bC 19) 1 = .ok (.iload_n 1, 1) := by decide +kernel
theorem d_19_2 : decode (bC 19) 2 = .ok (.invokevirtual 108, 3) := by decide +kernel
theorem d_19_5 : decode (bC 19) 5 = .ok (.astore 4, 2) := by decide +kernel
theorem d_19_7 : decode (bC 19) 7 = .ok (.aload 4, 2) := by decide +kernel
theorem d_19_9 : decode (bC 19) 9 = .ok (.ifnull 19, 3) := by decide +kernel
theorem d_19_12 : decode (bC 19) 12 = .ok (.aload 4, 2) := by decide +kernel
theorem d_19_14 : decode (bC 19) 14 = .ok (.iload_n 2, 1) := by decide +kernel
theorem d_19_15 : decode (bC 19) 15 = .ok (.invokevirtual 112, 3) := by decide +kernel
theorem d_19_18 : decode (bC 19) 18 = .ok (.ifCond .eq 10, 3) := by decide +kernel
theorem d_19_21 : decode (bC 19) 21 = .ok (.iload_n 3, 1) := by decide +kernel
theorem d_19_22 : decode (bC 19) 22 = .ok (.invokestatic 115, 3) := by decide +kernel
theorem d_19_25 : decode (bC 19) 25 = .ok (.ifCond .ne 5, 3) := by decide +kernel
theorem d_19_28 : decode (bC 19) 28 = .ok (.iconst 0, 1) := by decide +kernel
theorem d_19_29 : decode (bC 19) 29 = .ok (.ireturn, 1) := by decide +kernel
theorem d_19_30 : decode (bC 19) 30 = .ok (.aload 4, 2) := by decide +kernel
theorem d_19_32 : decode (bC 19) 32 = .ok (.getfield 118, 3) := by decide +kernel
theorem d_19_35 : decode (bC 19) 35 = .ok (.iload_n 2, 1) := by decide +kernel
theorem d_19_36 : decode (bC 19) 36 = .ok (.aload_n 0, 1) := by decide +kernel
theorem d_19_37 : decode (bC 19) 37 = .ok (.iload_n 3, 1) := by decide +kernel
theorem d_19_38 : decode (bC 19) 38 = .ok (.invokevirtual 108, 3) := by decide +kernel
theorem d_19_41 : decode (bC 19) 41 = .ok (.aastore, 1) := by decide +kernel
theorem d_19_42 : decode (bC 19) 42 = .ok (.iconst 1, 1) := by decide +kernel
theorem d_19_43 : decode (bC 19) 43 = .ok (.ireturn, 1) := by decide +kernel
