theorem d_39_0 : decode (bC 39) 0 = .ok (.iconst 0, 1) := by decide +kernel
theorem d_39_1 : decode (bC 39) 1 = .ok (.istore_n 1, 1) := by decide +kernel
theorem d_39_2 : decode (bC 39) 2 = .ok (.iload_n 1, 1) := by decide +kernel
theorem d_39_3 : decode (bC 39) 3 = .ok (.bipush 12, 2) := by decide +kernel
theorem d_39_5 : decode (bC 39) 5 = .ok (.if_icmp .ge 88, 3) := by decide +kernel
theorem d_39_8 : decode (bC 39) 8 = .ok (.aload_n 0, 1) := by decide +kernel
theorem d_39_9 : decode (bC 39) 9 = .ok (.getfield 11, 3) := by decide +kernel
theorem d_39_12 : decode (bC 39) 12 = .ok (.iload_n 1, 1) := by decide +kernel
theorem d_39_13 : decode (bC 39) 13 = .ok (.aaload, 1) := by decide +kernel
theorem d_39_14 : decode (bC 39) 14 = .ok (.astore_n 2, 1) := by decide +kernel
theorem d_39_15 : decode (bC 39) 15 = .ok (.aload_n 2, 1) := by decide +kernel
theorem d_39_16 : decode (bC 39) 16 = .ok (.aload_n 2, 1) := by decide +kernel
theorem d_39_17 : decode (bC 39) 17 = .ok (.getfield 93, 3) := by decide +kernel
theorem d_39_20 : decode (bC 39) 20 = .ok (.iconst 3, 1) := by decide +kernel
theorem d_39_21 : decode (bC 39) 21 = .ok (.if_icmp .ne 26, 3) := by decide +kernel
theorem d_39_24 : decode (bC 39) 24 = .ok (.aload_n 2, 1) := by decide +kernel
theorem d_39_25 : decode (bC 39) 25 = .ok (.getfield 49, 3) := by decide +kernel
theorem d_39_28 : decode (bC 39) 28 = .ok (.iconst (-1), 1) := by decide +kernel
theorem d_39_29 : decode (bC 39) 29 = .ok (.if_icmp .eq 18, 3) := by decide +kernel
theorem d_39_32 : decode (bC 39) 32 = .ok (.aload_n 2, 1) := by decide +kernel
theorem d_39_33 : decode (bC 39) 33 = .ok (.getfield 105, 3) := by decide +kernel
theorem d_39_36 : decode (bC 39) 36 = .ok (.aload_n 2, 1) := by decide +kernel
theorem d_39_37 : decode (bC 39) 37 = .ok (.getfield 49, 3) := by decide +kernel
theorem d_39_40 : decode (bC 39) 40 = .ok (.if_icmp .le 7, 3) := by decide +kernel
theorem d_39_43 : decode (bC 39) 43 = .ok (.iconst 1, 1) := by decide +kernel
theorem d_39_44 : decode (bC 39) 44 = .ok (.goto 4, 3) := by decide +kernel
theorem d_39_47 : decode (bC 39) 47 = .ok (.iconst 0, 1) := by decide +kernel
theorem d_39_48 : decode (bC 39) 48 = .ok (.putfield 192, 3) := by decide +kernel
theorem d_39_51 : decode (bC 39) 51 = .ok (.aload_n 2, 1) := by decide +kernel
theorem d_39_52 : decode (bC 39) 52 = .ok (.getfield 192, 3) := by decide +kernel
theorem d_39_55 : decode (bC 39) 55 = .ok (.ifCond .eq 32, 3) := by decide +kernel
theorem d_39_58 : decode (bC 39) 58 = .ok (.aload_n 2, 1) := by decide +kernel
theorem d_39_59 : decode (bC 39) 59 = .ok (.aload_n 2, 1) := by decide +kernel
theorem d_39_60 : decode (bC 39) 60 = .ok (.getfield 105, 3) := by decide +kernel
theorem d_39_63 : decode (bC 39) 63 = .ok (.aload_n 2, 1) := by decide +kernel
theorem d_39_64 : decode (bC 39) 64 = .ok (.getfield 49, 3) := by decide +kernel
theorem d_39_67 : decode (bC 39) 67 = .ok (.isub, 1) := by decide +kernel
theorem d_39_68 : decode (bC 39) 68 = .ok (.putfield 201, 3) := by decide +kernel
theorem d_39_71 : decode (bC 39) 71 = .ok (.aload_n 2, 1) := by decide +kernel
theorem d_39_72 : decode (bC 39) 72 = .ok (.iconst 1, 1) := by decide +kernel
theorem d_39_73 : decode (bC 39) 73 = .ok (.aload_n 2, 1) := by decide +kernel
theorem d_39_74 : decode (bC 39) 74 = .ok (.getfield 49, 3) := by decide +kernel
theorem d_39_77 : decode (bC 39) 77 = .ok (.iadd, 1) := by decide +kernel
theorem d_39_78 : decode (bC 39) 78 = .ok (.aload_n 0, 1) := by decide +kernel
theorem d_39_79 : decode (bC 39) 79 = .ok (.aload_n 2, 1) := by decide +kernel
theorem d_39_80 : decode (bC 39) 80 = .ok (.invokevirtual 204, 3) := by decide +kernel
theorem d_39_83 : decode (bC 39) 83 = .ok (.iadd, 1) := by decide +kernel
theorem d_39_84 : decode (bC 39) 84 = .ok (.putfield 195, 3) := by decide +kernel
theorem d_39_87 : decode (bC 39) 87 = .ok (.iinc 1 1, 3) := by decide +kernel
theorem d_39_90 : decode (bC 39) 90 = .ok (.goto (-88), 3) := by decide +kernel
theorem d_39_93 : decode (bC 39) 93 = .ok (.return_, 1) := by decide +kernel
theorem d_40_0 : decode (bC 40) 0 = .ok (.aconst_null, 1) := by decide +kernel
theorem d_40_1 : decode (bC 40) 1 = .ok (.astore_n 1, 1) := by decide +kernel
theorem d_40_2 : decode (bC 40) 2 = .ok (.iconst 0, 1) := by decide +kernel
theorem d_40_3 : decode (bC 40) 3 = .ok (.istore_n 2, 1) := by decide +kernel
theorem d_40_4 : decode (bC 40) 4 = .ok (.iload_n 2, 1) := by decide +kernel
theorem d_40_5 : decode (bC 40) 5 = .ok (.bipush 12, 2) := by decide +kernel
theorem d_40_7 : decode (bC 40) 7 = .ok (.if_icmp .ge 37, 3) := by decide +kernel
theorem d_40_10 : decode (bC 40) 10 = .ok (.aload_n 0, 1) := by decide +kernel
theorem d_40_11 : decode (bC 40) 11 = .ok (.getfield 11, 3) := by decide +kernel
theorem d_40_14 : decode (bC 40) 14 = .ok (.iload_n 2, 1) := by decide +kernel
theorem d_40_15 : decode (bC 40) 15 = .ok (.aaload, 1) := by decide +kernel
theorem d_40_16 : decode (bC 40) 16 = .ok (.astore_n 3, 1) := by decide +kernel
theorem d_40_17 : decode (bC 40) 17 = .ok (.aload_n 3, 1) := by decide +kernel
theorem d_40_18 : decode (bC 40) 18 = .ok (.getfield 192, 3) := by decide +kernel
theorem d_40_21 : decode (bC 40) 21 = .ok (.ifCond .eq 17, 3) := by decide +kernel
theorem d_40_24 : decode (bC 40) 24 = .ok (.aload_n 1, 1) := by decide +kernel
theorem d_40_25 : decode (bC 40) 25 = .ok (.ifnull 11, 3) := by decide +kernel
theorem d_40_28 : decode (bC 40) 28 = .ok (.aload_n 3, 1) := by decide +kernel
theorem d_40_29 : decode (bC 40) 29 = .ok (.aload_n 1, 1) := by decide +kernel
theorem d_40_30 : decode (bC 40) 30 = .ok (.invokevirtual 208, 3) := by decide +kernel
theorem d_40_33 : decode (bC 40) 33 = .ok (.ifCond .eq 5, 3) := by decide +kernel
theorem d_40_36 : decode (bC 40) 36 = .ok (.aload_n 3, 1) := by decide +kernel
theorem d_40_37 : decode (bC 40) 37 = .ok (.astore_n 1, 1) := by decide +kernel
theorem d_40_38 : decode (bC 40) 38 = .ok (.iinc 2 1, 3) := by decide +kernel
theorem d_40_41 : decode (bC 40) 41 = .ok (.goto (-37), 3) := by decide +kernel
theorem d_40_44 : decode (bC 40) 44 = .ok (.aload_n 1, 1) := by decide +kernel
theorem d_40_45 : decode (bC 40) 45 = .ok (.areturn, 1) := by decide +kernel
theorem d_41_0 : decode (bC 41) 0 = .ok (.iconst 0, 1) := by decide +kernel
theorem d_41_1 : decode (bC 41) 1 = .ok (.istore_n 2, 1) := by decide +kernel
theorem d_41_2 : decode (bC 41) 2 = .ok (.iconst 0, 1) := by decide +kernel
theorem d_41_3 : decode (bC 41) 3 = .ok (.istore_n 3, 1) := by decide +kernel
theorem d_41_4 : decode (bC 41) 4 = .ok (.iload_n 3, 1) := by decide +kernel
theorem d_41_5 : decode (bC 41) 5 = .ok (.bipush 12, 2) := by decide +kernel
theorem d_41_7 : decode (bC 41) 7 = .ok (.if_icmp .ge 57, 3) := by decide +kernel
theorem d_41_10 : decode (bC 41) 10 = .ok (.aload_n 0, 1) := by decide +kernel
theorem d_41_11 : decode (bC 41) 11 = .ok (.getfield 11, 3) := by decide +kernel
theorem d_41_14 : decode (bC 41) 14 = .ok (.iload_n 3, 1) := by decide +kernel
theorem d_41_15 : decode (bC 41) 15 = .ok (.aaload, 1) := by decide +kernel
theorem d_41_16 : decode (bC 41) 16 = .ok (.astore 4, 2) := by decide +kernel
theorem d_41_18 : decode (bC 41) 18 = .ok (.iconst 0, 1) := by decide +kernel
theorem d_41_19 : decode (bC 41) 19 = .ok (.istore 5, 2) := by decide +kernel
theorem d_41_21 : decode (bC 41) 21 = .ok (.aload 4, 2) := by decide +kernel
theorem d_41_23 : decode (bC 41) 23 = .ok (.aload_n 1, 1) := by decide +kernel
theorem d_41_24 : decode (bC 41) 24 = .ok (.if_acmp .eq 34, 3) := by decide +kernel
theorem d_41_27 : decode (bC 41) 27 = .ok (.iload 5, 2) := by decide +kernel
theorem d_41_29 : decode (bC 41) 29 = .ok (.aload 4, 2) := by decide +kernel
theorem d_41_31 : decode (bC 41) 31 = .ok (.getfield 153, 3) := by decide +kernel
theorem d_41_34 : decode (bC 41) 34 = .ok (.if_icmp .ge 24, 3) := by decide +kernel
theorem d_41_37 : decode (bC 41) 37 = .ok (.iload_n 2, 1) := by decide +kernel
theorem d_41_38 : decode (bC 41) 38 = .ok (.aload 4, 2) := by decide +kernel
theorem d_41_40 : decode (bC 41) 40 = .ok (.getfield 156, 3) := by decide +kernel
theorem d_41_43 : decode (bC 41) 43 = .ok (.iload 5, 2) := by decide +kernel
theorem d_41_45 : decode (bC 41) 45 = .ok (.aaload, 1) := by decide +kernel
theorem d_41_46 : decode (bC 41) 46 = .ok (.aload_n 1, 1) := by decide +kernel
theorem d_41_47 : decode (bC 41) 47 = .ok (.invokestatic 212, 3) := by decide +kernel
theorem d_41_50 : decode (bC 41) 50 = .ok (.iadd, 1) := by decide +kernel
theorem d_41_51 : decode (bC 41) 51 = .ok (.istore_n 2, 1) := by decide +kernel
theorem d_41_52 : decode (bC 41) 52 = .ok (.iinc 5 1, 3) := by decide +kernel
theorem d_41_55 : decode (bC 41) 55 = .ok (.goto (-34), 3) := by decide +kernel
theorem d_41_58 : decode (bC 41) 58 = .ok (.iinc 3 1, 3) := by decide +kernel
theorem d_41_61 : decode (bC 41) 61 = .ok (.goto (-57), 3) := by decide +kernel
theorem d_41_64 : decode (bC 41) 64 = .ok (.iload_n 2, 1) := by decide +kernel
theorem d_41_65 : decode (bC 41) 65 = .ok (.ireturn, 1) := by decide +kernel
theorem d_42_0 : decode (bC 42) 0 = .ok (.iconst 0, 1) := by decide +kernel
theorem d_42_1 : decode (bC 42) 1 = .ok (.istore_n 2, 1) := by decide +kernel
theorem d_42_2 : decode (bC 42) 2 = .ok (.iconst 0, 1) := by decide +kernel
theorem d_42_3 : decode (bC 42) 3 = .ok (.istore_n 3, 1) := by decide +kernel
theorem d_42_4 : decode (bC 42) 4 = .ok (.iload_n 3, 1) := by decide +kernel
theorem d_42_5 : decode (bC 42) 5 = .ok (.aload_n 0, 1) := by decide +kernel
theorem d_42_6 : decode (bC 42) 6 = .ok (.getfield 118, 3) := by decide +kernel
theorem d_42_9 : decode (bC 42) 9 = .ok (.arraylength, 1) := by decide +kernel
theorem d_42_10 : decode (bC 42) 10 = .ok (.if_icmp .ge 34, 3) := by decide +kernel
theorem d_42_13 : decode (bC 42) 13 = .ok (.aload_n 0, 1) := by decide +kernel
theorem d_42_14 : decode (bC 42) 14 = .ok (.getfield 118, 3) := by decide +kernel
theorem d_42_17 : decode (bC 42) 17 = .ok (.iload_n 3, 1) := by decide +kernel
theorem d_42_18 : decode (bC 42) 18 = .ok (.aaload, 1) := by decide +kernel
theorem d_42_19 : decode (bC 42) 19 = .ok (.ifnull 19, 3) := by decide +kernel
theorem d_42_22 : decode (bC 42) 22 = .ok (.aload_n 0, 1) := by decide +kernel
theorem d_42_23 : decode (bC 42) 23 = .ok (.getfield 118, 3) := by decide +kernel
theorem d_42_26 : decode (bC 42) 26 = .ok (.iload_n 3, 1) := by decide +kernel
theorem d_42_27 : decode (bC 42) 27 = .ok (.aaload, 1) := by decide +kernel
theorem d_42_28 : decode (bC 42) 28 = .ok (.getfield 169, 3) := by decide +kernel
theorem d_42_31 : decode (bC 42) 31 = .ok (.aload_n 1, 1) := by decide +kernel
theorem d_42_32 : decode (bC 42) 32 = .ok (.if_acmp .ne 6, 3) := by decide +kernel
theorem d_42_35 : decode (bC 42) 35 = .ok (.iinc 2 1, 3) := by decide +kernel
theorem d_42_38 : decode (bC 42) 38 = .ok (.iinc 3 1, 3) := by decide +kernel
theorem d_42_41 : decode (bC 42) 41 = .ok (.goto (-37), 3) := by decide +kernel
theorem d_42_44 : decode (bC 42) 44 = .ok (.iload_n 2, 1) := by decide +kernel
theorem d_42_45 : decode (bC 42) 45 = .ok (.ireturn, 1) := by decide +kernel
theorem d_43_0 : decode (bC 43) 0 = .ok (.aload_n 0, 1) := by decide +kernel
theorem d_43_1 : decode (bC 43) 1 = .ok (.invokevirtual 216, 3) := by decide +kernel
theorem d_43_4 : decode (bC 43) 4 = .ok (.istore_n 1, 1) := by decide +kernel
theorem d_43_5 : decode (bC 43) 5 = .ok (.iconst 0, 1) := by decide +kernel
theorem d_43_6 : decode (bC 43) 6 = .ok (.istore_n 2, 1) := by decide +kernel
theorem d_43_7 : decode (bC 43) 7 = .ok (.iload_n 2, 1) := by decide +kernel
theorem d_43_8 : decode (bC 43) 8 = .ok (.bipush 12, 2) := by decide +kernel
theorem d_43_10 : decode (bC 43) 10 = .ok (.if_icmp .ge 38, 3) := by decide +kernel
theorem d_43_13 : decode (bC 43) 13 = .ok (.aload_n 0, 1) := by decide +kernel
theorem d_43_14 : decode (bC 43) 14 = .ok (.getfield 11, 3) := by decide +kernel
theorem d_43_17 : decode (bC 43) 17 = .ok (.iload_n 2, 1) := by decide +kernel
theorem d_43_18 : decode (bC 43) 18 = .ok (.aaload, 1) := by decide +kernel
theorem d_43_19 : decode (bC 43) 19 = .ok (.astore_n 3, 1) := by decide +kernel
theorem d_43_20 : decode (bC 43) 20 = .ok (.aload_n 3, 1) := by decide +kernel
theorem d_43_21 : decode (bC 43) 21 = .ok (.getfield 93, 3) := by decide +kernel
theorem d_43_24 : decode (bC 43) 24 = .ok (.ifCond .eq 18, 3) := by decide +kernel
theorem d_43_27 : decode (bC 43) 27 = .ok (.aload_n 3, 1) := by decide +kernel
theorem d_43_28 : decode (bC 43) 28 = .ok (.invokevirtual 219, 3) := by decide +kernel
theorem d_43_31 : decode (bC 43) 31 = .ok (.ifCond .ne 11, 3) := by decide +kernel
theorem d_43_34 : decode (bC 43) 34 = .ok (.aload_n 3, 1) := by decide +kernel
theorem d_43_35 : decode (bC 43) 35 = .ok (.aload_n 3, 1) := by decide +kernel
theorem d_43_36 : decode (bC 43) 36 = .ok (.invokevirtual 222, 3) := by decide +kernel
theorem d_43_39 : decode (bC 43) 39 = .ok (.putfield 49, 3) := by decide +kernel
theorem d_43_42 : decode (bC 43) 42 = .ok (.iinc 2 1, 3) := by decide +kernel
theorem d_43_45 : decode (bC 43) 45 = .ok (.goto (-38), 3) := by decide +kernel
theorem d_43_48 : decode (bC 43) 48 = .ok (.iload_n 1, 1) := by decide +kernel
theorem d_43_49 : decode (bC 43) 49 = .ok (.ireturn, 1) := by decide +kernel
theorem d_44_0 : decode (bC 44) 0 = .ok (.aload_n 0, 1) := by decide +kernel
theorem d_44_1 : decode (bC 44) 1 = .ok (.invokevirtual 225, 3) := by decide +kernel
theorem d_44_4 : decode (bC 44) 4 = .ok (.iconst 0, 1) := by decide +kernel
theorem d_44_5 : decode (bC 44) 5 = .ok (.istore_n 1, 1) := by decide +kernel
theorem d_44_6 : decode (bC 44) 6 = .ok (.iload_n 1, 1) := by decide +kernel
theorem d_44_7 : decode (bC 44) 7 = .ok (.bipush 6, 2) := by decide +kernel
theorem d_44_9 : decode (bC 44) 9 = .ok (.if_icmp .ge 19, 3) := by decide +kernel
theorem d_44_12 : decode (bC 44) 12 = .ok (.aload_n 0, 1) := by decide +kernel
theorem d_44_13 : decode (bC 44) 13 = .ok (.aload_n 0, 1) := by decide +kernel
theorem d_44_14 : decode (bC 44) 14 = .ok (.getfield 20, 3) := by decide +kernel
theorem d_44_17 : decode (bC 44) 17 = .ok (.iload_n 1, 1) := by decide +kernel
theorem d_44_18 : decode (bC 44) 18 = .ok (.aaload, 1) := by decide +kernel
theorem d_44_19 : decode (bC 44) 19 = .ok (.invokevirtual 228, 3) := by decide +kernel
theorem d_44_22 : decode (bC 44) 22 = .ok (.iinc 1 1, 3) := by decide +kernel
theorem d_44_25 : decode (bC 44) 25 = .ok (.goto (-19), 3) := by decide +kernel
theorem d_44_28 : decode (bC 44) 28 = .ok (.iconst 0, 1) := by decide +kernel
theorem d_44_29 : decode (bC 44) 29 = .ok (.istore_n 1, 1) := by decide +kernel
theorem d_44_30 : decode (bC 44) 30 = .ok (.iconst 0, 1) := by decide +kernel
theorem d_44_31 : decode (bC 44) 31 = .ok (.istore_n 2, 1) := by decide +kernel
theorem d_44_32 : decode (bC 44) 32 = .ok (.iload_n 2, 1) := by decide +kernel
theorem d_44_33 : decode (bC 44) 33 = .ok (.aload_n 0, 1) := by decide +kernel
theorem d_44_34 : decode (bC 44) 34 = .ok (.getfield 140, 3) := by decide +kernel
theorem d_44_37 : decode (bC 44) 37 = .ok (.if_icmp .ge 64, 3) := by decide +kernel
theorem d_44_40 : decode (bC 44) 40 = .ok (.iload_n 2, 1) := by decide +kernel
theorem d_44_41 : decode (bC 44) 41 = .ok (.bipush 96, 2) := by decide +kernel
theorem d_44_43 : decode (bC 44) 43 = .ok (.if_icmp .ge 58, 3) := by decide +kernel
theorem d_44_46 : decode (bC 44) 46 = .ok (.iload_n 1, 1) := by decide +kernel
theorem d_44_47 : decode (bC 44) 47 = .ok (.aload_n 0, 1) := by decide +kernel
theorem d_44_48 : decode (bC 44) 48 = .ok (.getfield 24, 3) := by decide +kernel
theorem d_44_51 : decode (bC 44) 51 = .ok (.iload_n 2, 1) := by decide +kernel
theorem d_44_52 : decode (bC 44) 52 = .ok (.aaload, 1) := by decide +kernel
theorem d_44_53 : decode (bC 44) 53 = .ok (.getfield 96, 3) := by decide +kernel
theorem d_44_56 : decode (bC 44) 56 = .ok (.iadd, 1) := by decide +kernel
theorem d_44_57 : decode (bC 44) 57 = .ok (.istore_n 1, 1) := by decide +kernel
theorem d_44_58 : decode (bC 44) 58 = .ok (.iconst 0, 1) := by decide +kernel
theorem d_44_59 : decode (bC 44) 59 = .ok (.istore_n 3, 1) := by decide +kernel
theorem d_44_60 : decode (bC 44) 60 = .ok (.iload_n 3, 1) := by decide +kernel
theorem d_44_61 : decode (bC 44) 61 = .ok (.aload_n 0, 1) := by decide +kernel
theorem d_44_62 : decode (bC 44) 62 = .ok (.getfield 24, 3) := by decide +kernel
theorem d_44_65 : decode (bC 44) 65 = .ok (.iload_n 2, 1) := by decide +kernel
theorem d_44_66 : decode (bC 44) 66 = .ok (.aaload, 1) := by decide +kernel
theorem d_44_67 : decode (bC 44) 67 = .ok (.getfield 118, 3) := by decide +kernel
theorem d_44_70 : decode (bC 44) 70 = .ok (.arraylength, 1) := by decide +kernel
theorem d_44_71 : decode (bC 44) 71 = .ok (.if_icmp .ge 24, 3) := by decide +kernel
theorem d_44_74 : decode (bC 44) 74 = .ok (.aload_n 0, 1) := by decide +kernel
theorem d_44_75 : decode (bC 44) 75 = .ok (.aload_n 0, 1) := by decide +kernel
theorem d_44_76 : decode (bC 44) 76 = .ok (.getfield 24, 3) := by decide +kernel
theorem d_44_79 : decode (bC 44) 79 = .ok (.iload_n 2, 1) := by decide +kernel
theorem d_44_80 : decode (bC 44) 80 = .ok (.aaload, 1) := by decide +kernel
theorem d_44_81 : decode (bC 44) 81 = .ok (.getfield 118, 3) := by decide +kernel
theorem d_44_84 : decode (bC 44) 84 = .ok (.iload_n 3, 1) := by decide +kernel
theorem d_44_85 : decode (bC 44) 85 = .ok (.aaload, 1) := by decide +kernel
theorem d_44_86 : decode (bC 44) 86 = .ok (.invokevirtual 228, 3) := by decide +kernel
theorem d_44_89 : decode (bC 44) 89 = .ok (.iinc 3 1, 3) := by decide +kernel
theorem d_44_92 : decode (bC 44) 92 = .ok (.goto (-32), 3) := by decide +kernel
theorem d_44_95 : decode (bC 44) 95 = .ok (.iinc 2 1, 3) := by decide +kernel
theorem d_44_98 : decode (bC 44) 98 = .ok (.goto (-66), 3) := by decide +kernel
theorem d_44_101 : decode (bC 44) 101 = .ok (.iload_n 1, 1) := by decide +kernel
theorem d_44_102 : decode (bC 44) 102 = .ok (.ireturn, 1) := by decide +kernel
theorem d_45_0 : decode (bC 45) 0 = .ok (.aload_n 0, 1) := by decide +kernel
theorem d_45_1 : decode (bC 45) 1 = .ok (.iconst 0, 1) := by decide +kernel
theorem d_45_2 : decode (bC 45) 2 = .ok (.putfield 140, 3) := by decide +kernel
theorem d_45_5 : decode (bC 45) 5 = .ok (.iconst 0, 1) := by decide +kernel
theorem d_45_6 : decode (bC 45) 6 = .ok (.istore_n 1, 1) := by decide +kernel
theorem d_45_7 : decode (bC 45) 7 = .ok (.iload_n 1, 1) := by decide +kernel
theorem d_45_8 : decode (bC 45) 8 = .ok (.bipush 12, 2) := by decide +kernel
theorem d_45_10 : decode (bC 45) 10 = .ok (.if_icmp .ge 45, 3) := by decide +kernel
theorem d_45_13 : decode (bC 45) 13 = .ok (.iconst 0, 1) := by decide +kernel
theorem d_45_14 : decode (bC 45) 14 = .ok (.istore_n 2, 1) := by decide +kernel
theorem d_45_15 : decode (bC 45) 15 = .ok (.iload_n 2, 1) := by decide +kernel
theorem d_45_16 : decode (bC 45) 16 = .ok (.aload_n 0, 1) := by decide +kernel
theorem d_45_17 : decode (bC 45) 17 = .ok (.getfield 11, 3) := by decide +kernel
theorem d_45_20 : decode (bC 45) 20 = .ok (.iload_n 1, 1) := by decide +kernel
theorem d_45_21 : decode (bC 45) 21 = .ok (.aaload, 1) := by decide +kernel
theorem d_45_22 : decode (bC 45) 22 = .ok (.getfield 153, 3) := by decide +kernel
theorem d_45_25 : decode (bC 45) 25 = .ok (.if_icmp .ge 24, 3) := by decide +kernel
theorem d_45_28 : decode (bC 45) 28 = .ok (.aload_n 0, 1) := by decide +kernel
theorem d_45_29 : decode (bC 45) 29 = .ok (.getfield 11, 3) := by decide +kernel
theorem d_45_32 : decode (bC 45) 32 = .ok (.iload_n 1, 1) := by decide +kernel
theorem d_45_33 : decode (bC 45) 33 = .ok (.aaload, 1) := by decide +kernel
theorem d_45_34 : decode (bC 45) 34 = .ok (.getfield 156, 3) := by decide +kernel
theorem d_45_37 : decode (bC 45) 37 = .ok (.iload_n 2, 1) := by decide +kernel
theorem d_45_38 : decode (bC 45) 38 = .ok (.aaload, 1) := by decide +kernel
theorem d_45_39 : decode (bC 45) 39 = .ok (.iconst 0, 1) := by decide +kernel
theorem d_45_40 : decode (bC 45) 40 = .ok (.putfield 231, 3) := by decide +kernel
theorem d_45_43 : decode (bC 45) 43 = .ok (.iinc 2 1, 3) := by decide +kernel
theorem d_45_46 : decode (bC 45) 46 = .ok (.goto (-31), 3) := by decide +kernel
theorem d_45_49 : decode (bC 45) 49 = .ok (.iinc 1 1, 3) := by decide +kernel
theorem d_45_52 : decode (bC 45) 52 = .ok (.goto (-45), 3) := by decide +kernel
theorem d_45_55 : decode (bC 45) 55 = .ok (.return_, 1) := by decide +kernel
theorem d_46_0 : decode (bC 46) 0 = .ok (.aload_n 1, 1) := by decide +kernel
theorem d_46_1 : decode (bC 46) 1 = .ok (.ifnull 35, 3) := by decide +kernel
theorem d_46_4 : decode (bC 46) 4 = .ok (.aload_n 1, 1) := by decide +kernel
theorem d_46_5 : decode (bC 46) 5 = .ok (.getfield 231, 3) := by decide +kernel
theorem d_46_8 : decode (bC 46) 8 = .ok (.ifCond .ne 28, 3) := by decide +kernel
theorem d_46_11 : decode (bC 46) 11 = .ok (.aload_n 1, 1) := by decide +kernel
theorem d_46_12 : decode (bC 46) 12 = .ok (.iconst 1, 1) := by decide +kernel
theorem d_46_13 : decode (bC 46) 13 = .ok (.putfield 231, 3) := by decide +kernel
theorem d_46_16 : decode (bC 46) 16 = .ok (.aload_n 0, 1) := by decide +kernel
theorem d_46_17 : decode (bC 46) 17 = .ok (.getfield 24, 3) := by decide +kernel
theorem d_46_20 : decode (bC 46) 20 = .ok (.aload_n 0, 1) := by decide +kernel
theorem d_46_21 : decode (bC 46) 21 = .ok (.getfield 140, 3) := by decide +kernel
theorem d_46_24 : decode (bC 46) 24 = .ok (.aload_n 1, 1) := by decide +kernel
theorem d_46_25 : decode (bC 46) 25 = .ok (.aastore, 1) := by decide +kernel
theorem d_46_26 : decode (bC 46) 26 = .ok (.aload_n 0, 1) := by decide +kernel
theorem d_46_27 : decode (bC 46) 27 = .ok (.dup, 1) := by decide +kernel
theorem d_46_28 : decode (bC 46) 28 = .ok (.getfield 140, 3) := by decide +kernel
theorem d_46_31 : decode (bC 46) 31 = .ok (.iconst 1, 1) := by decide +kernel
theorem d_46_32 : decode (bC 46) 32 = .ok (.iadd, 1) := by decide +kernel
theorem d_46_33 : decode (bC 46) 33 = .ok (.putfield 140, 3) := by decide +kernel
theorem d_46_36 : decode (bC 46) 36 = .ok (.return_, 1) := by decide +kernel
theorem d_47_0 : decode (bC 47) 0 = .ok (.aload_n 0, 1) := by decide +kernel
theorem d_47_1 : decode (bC 47) 1 = .ok (.invokevirtual 60, 3) := by decide +kernel
theorem d_47_4 : decode (bC 47) 4 = .ok (.ireturn, 1) := by decide +kernel
theorem d_48_0 : decode (bC 48) 0 = .ok (.aload_n 0, 1) := by decide +kernel
theorem d_48_1 : decode (bC 48) 1 = .ok (.invokevirtual 216, 3) := by decide +kernel
theorem d_48_4 : decode (bC 48) 4 = .ok (.pop, 1) := by decide +kernel
theorem d_48_5 : decode (bC 48) 5 = .ok (.aload_n 0, 1) := by decide +kernel
theorem d_48_6 : decode (bC 48) 6 = .ok (.getfield 140, 3) := by decide +kernel
theorem d_48_9 : decode (bC 48) 9 = .ok (.istore_n 1, 1) := by decide +kernel
theorem d_48_10 : decode (bC 48) 10 = .ok (.aload_n 0, 1) := by decide +kernel
theorem d_48_11 : decode (bC 48) 11 = .ok (.invokevirtual 234, 3) := by decide +kernel
theorem d_48_14 : decode (bC 48) 14 = .ok (.aload_n 0, 1) := by decide +kernel
theorem d_48_15 : decode (bC 48) 15 = .ok (.invokevirtual 237, 3) := by decide +kernel
theorem d_48_18 : decode (bC 48) 18 = .ok (.aload_n 0, 1) := by decide +kernel
theorem d_48_19 : decode (bC 48) 19 = .ok (.aconst_null, 1) := by decide +kernel
theorem d_48_20 : decode (bC 48) 20 = .ok (.putfield 83, 3) := by decide +kernel
theorem d_48_23 : decode (bC 48) 23 = .ok (.aload_n 0, 1) := by decide +kernel
theorem d_48_24 : decode (bC 48) 24 = .ok (.dup, 1) := by decide +kernel
theorem d_48_25 : decode (bC 48) 25 = .ok (.getfield 240, 3) := by decide +kernel
theorem d_48_28 : decode (bC 48) 28 = .ok (.iconst 1, 1) := by decide +kernel
theorem d_48_29 : decode (bC 48) 29 = .ok (.iadd, 1) := by decide +kernel
theorem d_48_30 : decode (bC 48) 30 = .ok (.putfield 240, 3) := by decide +kernel
theorem d_48_33 : decode (bC 48) 33 = .ok (.iload_n 1, 1) := by decide +kernel
theorem d_48_34 : decode (bC 48) 34 = .ok (.ireturn, 1) := by decide +kernel
theorem d_49_0 : decode (bC 49) 0 = .ok (.aload_n 0, 1) := by decide +kernel
theorem d_49_1 : decode (bC 49) 1 = .ok (.iconst 0, 1) := by decide +kernel
theorem d_49_2 : decode (bC 49) 2 = .ok (.putfield 140, 3) := by decide +kernel
theorem d_49_5 : decode (bC 49) 5 = .ok (.iconst 0, 1) := by decide +kernel
theorem d_49_6 : decode (bC 49) 6 = .ok (.istore_n 1, 1) := by decide +kernel
theorem d_49_7 : decode (bC 49) 7 = .ok (.iconst 0, 1) := by decide +kernel
theorem d_49_8 : decode (bC 49) 8 = .ok (.istore_n 2, 1) := by decide +kernel
theorem d_49_9 : decode (bC 49) 9 = .ok (.iload_n 2, 1) := by decide +kernel
theorem d_49_10 : decode (bC 49) 10 = .ok (.bipush 12, 2) := by decide +kernel
theorem d_49_12 : decode (bC 49) 12 = .ok (.if_icmp .ge 64, 3) := by decide +kernel
theorem d_49_15 : decode (bC 49) 15 = .ok (.aload_n 0, 1) := by decide +kernel
theorem d_49_16 : decode (bC 49) 16 = .ok (.getfield 11, 3) := by decide +kernel
theorem d_49_19 : decode (bC 49) 19 = .ok (.iload_n 2, 1) := by decide +kernel
theorem d_49_20 : decode (bC 49) 20 = .ok (.aaload, 1) := by decide +kernel
theorem d_49_21 : decode (bC 49) 21 = .ok (.astore_n 3, 1) := by decide +kernel
theorem d_49_22 : decode (bC 49) 22 = .ok (.aload_n 3, 1) := by decide +kernel
theorem d_49_23 : decode (bC 49) 23 = .ok (.getfield 93, 3) := by decide +kernel
theorem d_49_26 : decode (bC 49) 26 = .ok (.iconst 4, 1) := by decide +kernel
theorem d_49_27 : decode (bC 49) 27 = .ok (.if_icmp .ne 16, 3) := by decide +kernel
theorem d_49_30 : decode (bC 49) 30 = .ok (.aload_n 3, 1) := by decide +kernel
theorem d_49_31 : decode (bC 49) 31 = .ok (.invokevirtual 222, 3) := by decide +kernel
theorem d_49_34 : decode (bC 49) 34 = .ok (.ifCond .le 7, 3) := by decide +kernel
theorem d_49_37 : decode (bC 49) 37 = .ok (.iconst 1, 1) := by decide +kernel
theorem d_49_38 : decode (bC 49) 38 = .ok (.goto 4, 3) := by decide +kernel
theorem d_49_41 : decode (bC 49) 41 = .ok (.iconst 0, 1) := by decide +kernel
theorem d_49_42 : decode (bC 49) 42 = .ok (.istore_n 1, 1) := by decide +kernel
theorem d_49_43 : decode (bC 49) 43 = .ok (.aload_n 3, 1) := by decide +kernel
theorem d_49_44 : decode (bC 49) 44 = .ok (.invokevirtual 219, 3) := by decide +kernel
theorem d_49_47 : decode (bC 49) 47 = .ok (.ifCond .ne 8, 3) := by decide +kernel
theorem d_49_50 : decode (bC 49) 50 = .ok (.aload_n 0, 1) := by decide +kernel
theorem d_49_51 : decode (bC 49) 51 = .ok (.aload_n 3, 1) := by decide +kernel
theorem d_49_52 : decode (bC 49) 52 = .ok (.invokevirtual 243, 3) := by decide +kernel
theorem d_49_55 : decode (bC 49) 55 = .ok (.aload_n 3, 1) := by decide +kernel
theorem d_49_56 : decode (bC 49) 56 = .ok (.invokevirtual 219, 3) := by decide +kernel
theorem d_49_59 : decode (bC 49) 59 = .ok (.ifCond .eq 7, 3) := by decide +kernel
theorem d_49_62 : decode (bC 49) 62 = .ok (.iload_n 1, 1) := by decide +kernel
theorem d_49_63 : decode (bC 49) 63 = .ok (.ifCond .ne 7, 3) := by decide +kernel
theorem d_49_66 : decode (bC 49) 66 = .ok (.aload_n 3, 1) := by decide +kernel
theorem d_49_67 : decode (bC 49) 67 = .ok (.invokevirtual 176, 3) := by decide +kernel
theorem d_49_70 : decode (bC 49) 70 = .ok (.iinc 2 1, 3) := by decide +kernel
theorem d_49_73 : decode (bC 49) 73 = .ok (.goto (-64), 3) := by decide +kernel
theorem d_49_76 : decode (bC 49) 76 = .ok (.return_, 1) := by decide +kernel
theorem d_50_0 : decode (bC 50) 0 = .ok (.iconst 0, 1) := by decide +kernel
theorem d_50_1 : decode (bC 50) 1 = .ok (.istore_n 2, 1) := by decide +kernel
theorem d_50_2 : decode (bC 50) 2 = .ok (.iload_n 2, 1) := by decide +kernel
theorem d_50_3 : decode (bC 50) 3 = .ok (.aload_n 1, 1) := by decide +kernel
theorem d_50_4 : decode (bC 50) 4 = .ok (.getfield 153, 3) := by decide +kernel
theorem d_50_7 : decode (bC 50) 7 = .ok (.if_icmp .ge 46, 3) := by decide +kernel
theorem d_50_10 : decode (bC 50) 10 = .ok (.aload_n 1, 1) := by decide +kernel
theorem d_50_11 : decode (bC 50) 11 = .ok (.getfield 156, 3) := by decide +kernel
theorem d_50_14 : decode (bC 50) 14 = .ok (.iload_n 2, 1) := by decide +kernel
theorem d_50_15 : decode (bC 50) 15 = .ok (.aaload, 1) := by decide +kernel
theorem d_50_16 : decode (bC 50) 16 = .ok (.getfield 231, 3) := by decide +kernel
theorem d_50_19 : decode (bC 50) 19 = .ok (.ifCond .eq 28, 3) := by decide +kernel
theorem d_50_22 : decode (bC 50) 22 = .ok (.aload_n 0, 1) := by decide +kernel
theorem d_50_23 : decode (bC 50) 23 = .ok (.getfield 24, 3) := by decide +kernel
theorem d_50_26 : decode (bC 50) 26 = .ok (.aload_n 0, 1) := by decide +kernel
theorem d_50_27 : decode (bC 50) 27 = .ok (.getfield 140, 3) := by decide +kernel
theorem d_50_30 : decode (bC 50) 30 = .ok (.aload_n 1, 1) := by decide +kernel
theorem d_50_31 : decode (bC 50) 31 = .ok (.getfield 156, 3) := by decide +kernel
theorem d_50_34 : decode (bC 50) 34 = .ok (.iload_n 2, 1) := by decide +kernel
theorem d_50_35 : decode (bC 50) 35 = .ok (.aaload, 1) := by decide +kernel
theorem d_50_36 : decode (bC 50) 36 = .ok (.aastore, 1) := by decide +kernel
theorem d_50_37 : decode (bC 50) 37 = .ok (.aload_n 0, 1) := by decide +kernel
theorem d_50_38 : decode (bC 50) 38 = .ok (.dup, 1) := by decide +kernel
theorem d_50_39 : decode (bC 50) 39 = .ok (.getfield 140, 3) := by decide +kernel
theorem d_50_42 : decode (bC 50) 42 = .ok (.iconst 1, 1) := by decide +kernel
theorem d_50_43 : decode (bC 50) 43 = .ok (.iadd, 1) := by decide +kernel
theorem d_50_44 : decode (bC 50) 44 = .ok (.putfield 140, 3) := by decide +kernel
theorem d_50_47 : decode (bC 50) 47 = .ok (.iinc 2 1, 3) := by decide +kernel
theorem d_50_50 : decode (bC 50) 50 = .ok (.goto (-48), 3) := by decide +kernel
theorem d_50_53 : decode (bC 50) 53 = .ok (.return_, 1) := by decide +kernel
theorem d_51_0 : decode (bC 51) 0 = .ok (.iconst 0, 1) := by decide +kernel
theorem d_51_1 : decode (bC 51) 1 = .ok (.istore_n 1, 1) := by decide +kernel
theorem d_51_2 : decode (bC 51) 2 = .ok (.iconst 0, 1) := by decide +kernel
theorem d_51_3 : decode (bC 51) 3 = .ok (.istore_n 2, 1) := by decide +kernel
theorem d_51_4 : decode (bC 51) 4 = .ok (.iload_n 2, 1) := by decide +kernel
theorem d_51_5 : decode (bC 51) 5 = .ok (.bipush 12, 2) := by decide +kernel
theorem d_51_7 : decode (bC 51) 7 = .ok (.if_icmp .ge 86, 3) := by decide +kernel
theorem d_51_10 : decode (bC 51) 10 = .ok (.aload_n 0, 1) := by decide +kernel
theorem d_51_11 : decode (bC 51) 11 = .ok (.getfield 11, 3) := by decide +kernel
theorem d_51_14 : decode (bC 51) 14 = .ok (.iload_n 2, 1) := by decide +kernel
theorem d_51_15 : decode (bC 51) 15 = .ok (.aaload, 1) := by decide +kernel
theorem d_51_16 : decode (bC 51) 16 = .ok (.astore_n 3, 1) := by decide +kernel
theorem d_51_17 : decode (bC 51) 17 = .ok (.aload_n 3, 1) := by decide +kernel
theorem d_51_18 : decode (bC 51) 18 = .ok (.invokevirtual 219, 3) := by decide +kernel
theorem d_51_21 : decode (bC 51) 21 = .ok (.ifCond .eq 6, 3) := by decide +kernel
theorem d_51_24 : decode (bC 51) 24 = .ok (.goto 63, 3) := by decide +kernel
theorem d_51_27 : decode (bC 51) 27 = .ok (.iload_n 1, 1) := by decide +kernel
theorem d_51_28 : decode (bC 51) 28 = .ok (.aload_n 0, 1) := by decide +kernel
theorem d_51_29 : decode (bC 51) 29 = .ok (.getfield 140, 3) := by decide +kernel
theorem d_51_32 : decode (bC 51) 32 = .ok (.if_icmp .ge 35, 3) := by decide +kernel
theorem d_51_35 : decode (bC 51) 35 = .ok (.aload_n 3, 1) := by decide +kernel
theorem d_51_36 : decode (bC 51) 36 = .ok (.aload_n 0, 1) := by decide +kernel
theorem d_51_37 : decode (bC 51) 37 = .ok (.getfield 24, 3) := by decide +kernel
theorem d_51_40 : decode (bC 51) 40 = .ok (.iload_n 1, 1) := by decide +kernel
theorem d_51_41 : decode (bC 51) 41 = .ok (.aaload, 1) := by decide +kernel
theorem d_51_42 : decode (bC 51) 42 = .ok (.getfield 96, 3) := by decide +kernel
theorem d_51_45 : decode (bC 51) 45 = .ok (.invokevirtual 87, 3) := by decide +kernel
theorem d_51_48 : decode (bC 51) 48 = .ok (.ifCond .eq 19, 3) := by decide +kernel
theorem d_51_51 : decode (bC 51) 51 = .ok (.aload_n 3, 1) := by decide +kernel
theorem d_51_52 : decode (bC 51) 52 = .ok (.aload_n 0, 1) := by decide +kernel
theorem d_51_53 : decode (bC 51) 53 = .ok (.getfield 24, 3) := by decide +kernel
theorem d_51_56 : decode (bC 51) 56 = .ok (.iload_n 1, 1) := by decide +kernel
theorem d_51_57 : decode (bC 51) 57 = .ok (.aaload, 1) := by decide +kernel
theorem d_51_58 : decode (bC 51) 58 = .ok (.invokevirtual 45, 3) := by decide +kernel
theorem d_51_61 : decode (bC 51) 61 = .ok (.iinc 1 1, 3) := by decide +kernel
theorem d_51_64 : decode (bC 51) 64 = .ok (.goto (-37), 3) := by decide +kernel
theorem d_51_67 : decode (bC 51) 67 = .ok (.aload_n 3, 1) := by decide +kernel
theorem d_51_68 : decode (bC 51) 68 = .ok (.getfield 153, 3) := by decide +kernel
theorem d_51_71 : decode (bC 51) 71 = .ok (.ifCond .le 16, 3) := by decide +kernel
theorem d_51_74 : decode (bC 51) 74 = .ok (.aload_n 3, 1) := by decide +kernel
theorem d_51_75 : decode (bC 51) 75 = .ok (.iconst 3, 1) := by decide +kernel
theorem d_51_76 : decode (bC 51) 76 = .ok (.putfield 93, 3) := by decide +kernel
theorem d_51_79 : decode (bC 51) 79 = .ok (.aload_n 3, 1) := by decide +kernel
theorem d_51_80 : decode (bC 51) 80 = .ok (.aload_n 3, 1) := by decide +kernel
theorem d_51_81 : decode (bC 51) 81 = .ok (.getfield 105, 3) := by decide +kernel
theorem d_51_84 : decode (bC 51) 84 = .ok (.putfield 49, 3) := by decide +kernel
theorem d_51_87 : decode (bC 51) 87 = .ok (.iinc 2 1, 3) := by decide +kernel
theorem d_51_90 : decode (bC 51) 90 = .ok (.goto (-86), 3) := by decide +kernel
theorem d_51_93 : decode (bC 51) 93 = .ok (.return_, 1) := by decide +kernel
theorem d_52_0 : decode (bC 52) 0 = .ok (.iload_n 1, 1) := by decide +kernel
theorem d_52_1 : decode (bC 52) 1 = .ok (.invokestatic 30, 3) := by decide +kernel
theorem d_52_4 : decode (bC 52) 4 = .ok (.ifCond .ne 5, 3) := by decide +kernel
theorem d_52_7 : decode (bC 52) 7 = .ok (.iconst (-1), 1) := by decide +kernel
theorem d_52_8 : decode (bC 52) 8 = .ok (.ireturn, 1) := by decide +kernel
theorem d_52_9 : decode (bC 52) 9 = .ok (.aload_n 0, 1) := by decide +kernel
theorem d_52_10 : decode (bC 52) 10 = .ok (.getfield 20, 3) := by decide +kernel
theorem d_52_13 : decode (bC 52) 13 = .ok (.iload_n 1, 1) := by decide +kernel
theorem d_52_14 : decode (bC 52) 14 = .ok (.aaload, 1) := by decide +kernel
theorem d_52_15 : decode (bC 52) 15 = .ok (.ifnonnull 7, 3) := by decide +kernel
theorem d_52_18 : decode (bC 52) 18 = .ok (.iconst 0, 1) := by decide +kernel
theorem d_52_19 : decode (bC 52) 19 = .ok (.goto 12, 3) := by decide +kernel
theorem d_52_22 : decode (bC 52) 22 = .ok (.aload_n 0, 1) := by decide +kernel
theorem d_52_23 : decode (bC 52) 23 = .ok (.getfield 20, 3) := by decide +kernel
theorem d_52_26 : decode (bC 52) 26 = .ok (.iload_n 1, 1) := by decide +kernel
theorem d_52_27 : decode (bC 52) 27 = .ok (.aaload, 1) := by decide +kernel
theorem d_52_28 : decode (bC 52) 28 = .ok (.getfield 53, 3) := by decide +kernel
theorem d_52_31 : decode (bC 52) 31 = .ok (.ireturn, 1) := by decide +kernel
theorem d_53_0 : decode (bC 53) 0 = .ok (.aload_n 0, 1) := by decide +kernel
theorem d_53_1 : decode (bC 53) 1 = .ok (.iload_n 1, 1) := by decide +kernel
theorem d_53_2 : decode (bC 53) 2 = .ok (.invokevirtual 108, 3) := by decide +kernel
theorem d_53_5 : decode (bC 53) 5 = .ok (.astore_n 2, 1) := by decide +kernel
theorem d_53_6 : decode (bC 53) 6 = .ok (.aload_n 2, 1) := by decide +kernel
theorem d_53_7 : decode (bC 53) 7 = .ok (.ifnonnull 7, 3) := by decide +kernel
theorem d_53_10 : decode (bC 53) 10 = .ok (.iconst (-1), 1) := by decide +kernel
theorem d_53_11 : decode (bC 53) 11 = .ok (.goto 10, 3) := by decide +kernel
theorem d_53_14 : decode (bC 53) 14 = .ok (.aload_n 2, 1) := by decide +kernel
theorem d_53_15 : decode (bC 53) 15 = .ok (.getfield 169, 3) := by decide +kernel
theorem d_53_18 : decode (bC 53) 18 = .ok (.getfield 198, 3) := by decide +kernel
theorem d_53_21 : decode (bC 53) 21 = .ok (.ireturn, 1) := by decide +kernel
theorem d_54_0 : decode (bC 54) 0 = .ok (.aload_n 0, 1) := by decide +kernel
theorem d_54_1 : decode (bC 54) 1 = .ok (.iload_n 1, 1) := by decide +kernel
theorem d_54_2 : decode (bC 54) 2 = .ok (.invokevirtual 108, 3) := by decide +kernel
theorem d_54_5 : decode (bC 54) 5 = .ok (.astore_n 2, 1) := by decide +kernel
theorem d_54_6 : decode (bC 54) 6 = .ok (.aload_n 2, 1) := by decide +kernel
theorem d_54_7 : decode (bC 54) 7 = .ok (.ifnonnull 7, 3) := by decide +kernel
theorem d_54_10 : decode (bC 54) 10 = .ok (.iconst (-1), 1) := by decide +kernel
theorem d_54_11 : decode (bC 54) 11 = .ok (.goto 7, 3) := by decide +kernel
theorem d_54_14 : decode (bC 54) 14 = .ok (.aload_n 2, 1) := by decide +kernel
theorem d_54_15 : decode (bC 54) 15 = .ok (.getfield 247, 3) := by decide +kernel
theorem d_54_18 : decode (bC 54) 18 = .ok (.ireturn, 1) := by decide +kernel
theorem d_55_0 : decode (bC 55) 0 = .ok (.aload_n 0, 1) := by decide +kernel
theorem d_55_1 : decode (bC 55) 1 = .ok (.iload_n 1, 1) := by decide +kernel
theorem d_55_2 : decode (bC 55) 2 = .ok (.invokevirtual 108, 3) := by decide +kernel
theorem d_55_5 : decode (bC 55) 5 = .ok (.astore_n 2, 1) := by decide +kernel
theorem d_55_6 : decode (bC 55) 6 = .ok (.aload_n 2, 1) := by decide +kernel
theorem d_55_7 : decode (bC 55) 7 = .ok (.ifnonnull 7, 3) := by decide +kernel
theorem d_55_10 : decode (bC 55) 10 = .ok (.iconst (-1), 1) := by decide +kernel
theorem d_55_11 : decode (bC 55) 11 = .ok (.goto 7, 3) := by decide +kernel
theorem d_55_14 : decode (bC 55) 14 = .ok (.aload_n 2, 1) := by decide +kernel
theorem d_55_15 : decode (bC 55) 15 = .ok (.getfield 96, 3) := by decide +kernel
theorem d_55_18 : decode (bC 55) 18 = .ok (.ireturn, 1) := by decide +kernel
theorem d_56_0 : decode (bC 56) 0 = .ok (.iload_n 1, 1) := by decide +kernel
theorem d_56_1 : decode (bC 56) 1 = .ok (.invokestatic 250, 3) := by decide +kernel
theorem d_56_4 : decode (bC 56) 4 = .ok (.ifCond .eq 15, 3) := by decide +kernel
theorem d_56_7 : decode (bC 56) 7 = .ok (.aload_n 0, 1) := by decide +kernel
theorem d_56_8 : decode (bC 56) 8 = .ok (.getfield 11, 3) := by decide +kernel
theorem d_56_11 : decode (bC 56) 11 = .ok (.iload_n 1, 1) := by decide +kernel
theorem d_56_12 : decode (bC 56) 12 = .ok (.aaload, 1) := by decide +kernel
theorem d_56_13 : decode (bC 56) 13 = .ok (.getfield 93, 3) := by decide +kernel
theorem d_56_16 : decode (bC 56) 16 = .ok (.goto 4, 3) := by decide +kernel
theorem d_56_19 : decode (bC 56) 19 = .ok (.iconst (-1), 1) := by decide +kernel
theorem d_56_20 : decode (bC 56) 20 = .ok (.ireturn, 1) := by decide +kernel
theorem d_57_0 : decode (bC 57) 0 = .ok (.iload_n 1, 1) := by decide +kernel
theorem d_57_1 : decode (bC 57) 1 = .ok (.invokestatic 250, 3) := by decide +kernel
theorem d_57_4 : decode (bC 57) 4 = .ok (.ifCond .eq 15, 3) := by decide +kernel
theorem d_57_7 : decode (bC 57) 7 = .ok (.aload_n 0, 1) := by decide +kernel
theorem d_57_8 : decode (bC 57) 8 = .ok (.getfield 11, 3) := by decide +kernel
theorem d_57_11 : decode (bC 57) 11 = .ok (.iload_n 1, 1) := by decide +kernel
theorem d_57_12 : decode (bC 57) 12 = .ok (.aaload, 1) := by decide +kernel
theorem d_57_13 : decode (bC 57) 13 = .ok (.getfield 105, 3) := by decide +kernel
theorem d_57_16 : decode (bC 57) 16 = .ok (.goto 4, 3) := by decide +kernel
theorem d_57_19 : decode (bC 57) 19 = .ok (.iconst (-1), 1) := by decide +kernel
theorem d_57_20 : decode (bC 57) 20 = .ok (.ireturn, 1) := by decide +kernel
theorem d_58_0 : decode (bC 58) 0 = .ok (.iload_n 1, 1) := by decide +kernel
theorem d_58_1 : decode (bC 58) 1 = .ok (.invokestatic 250, 3) := by decide +kernel
theorem d_58_4 : decode (bC 58) 4 = .ok (.ifCond .eq 15, 3) := by decide +kernel
theorem d_58_7 : decode (bC 58) 7 = .ok (.aload_n 0, 1) := by decide +kernel
theorem d_58_8 : decode (bC 58) 8 = .ok (.getfield 11, 3) := by decide +kernel
theorem d_58_11 : decode (bC 58) 11 = .ok (.iload_n 1, 1) := by decide +kernel
theorem d_58_12 : decode (bC 58) 12 = .ok (.aaload, 1) := by decide +kernel
theorem d_58_13 : decode (bC 58) 13 = .ok (.getfield 49, 3) := by decide +kernel
theorem d_58_16 : decode (bC 58) 16 = .ok (.goto 4, 3) := by decide +kernel
theorem d_58_19 : decode (bC 58) 19 = .ok (.iconst (-1), 1) := by decide +kernel
theorem d_58_20 : decode (bC 58) 20 = .ok (.ireturn, 1) := by decide +kernel
theorem d_59_0 : decode (bC 59) 0 = .ok (.iload_n 1, 1) := by decide +kernel
theorem d_59_1 : decode (bC 59) 1 = .ok (.invokestatic 250, 3) := by decide +kernel
theorem d_59_4 : decode (bC 59) 4 = .ok (.ifCond .eq 16, 3) := by decide +kernel
theorem d_59_7 : decode (bC 59) 7 = .ok (.aload_n 0, 1) := by decide +kernel
theorem d_59_8 : decode (bC 59) 8 = .ok (.aload_n 0, 1) := by decide +kernel
theorem d_59_9 : decode (bC 59) 9 = .ok (.getfield 11, 3) := by decide +kernel
theorem d_59_12 : decode (bC 59) 12 = .ok (.iload_n 1, 1) := by decide +kernel
theorem d_59_13 : decode (bC 59) 13 = .ok (.aaload, 1) := by decide +kernel
theorem d_59_14 : decode (bC 59) 14 = .ok (.invokevirtual 204, 3) := by decide +kernel
theorem d_59_17 : decode (bC 59) 17 = .ok (.goto 4, 3) := by decide +kernel
theorem d_59_20 : decode (bC 59) 20 = .ok (.iconst (-1), 1) := by decide +kernel
theorem d_59_21 : decode (bC 59) 21 = .ok (.ireturn, 1) := by decide +kernel
theorem d_60_0 : decode (bC 60) 0 = .ok (.iload_n 1, 1) := by decide +kernel
theorem d_60_1 : decode (bC 60) 1 = .ok (.tableswitch 51 0 3 #[31, 36, 41, 46], 31) := by decide +kernel
theorem d_60_32 : decode (bC 60) 32 = .ok (.aload_n 0, 1) := by decide +kernel
theorem d_60_33 : decode (bC 60) 33 = .ok (.getfield 182, 3) := by decide +kernel
theorem d_60_36 : decode (bC 60) 36 = .ok (.ireturn, 1) := by decide +kernel
theorem d_60_37 : decode (bC 60) 37 = .ok (.aload_n 0, 1) := by decide +kernel
theorem d_60_38 : decode (bC 60) 38 = .ok (.getfield 240, 3) := by decide +kernel
theorem d_60_41 : decode (bC 60) 41 = .ok (.ireturn, 1) := by decide +kernel
theorem d_60_42 : decode (bC 60) 42 = .ok (.aload_n 0, 1) := by decide +kernel
theorem d_60_43 : decode (bC 60) 43 = .ok (.getfield 179, 3) := by decide +kernel
theorem d_60_46 : decode (bC 60) 46 = .ok (.ireturn, 1) := by decide +kernel
theorem d_60_47 : decode (bC 60) 47 = .ok (.aload_n 0, 1) := by decide +kernel
theorem d_60_48 : decode (bC 60) 48 = .ok (.getfield 68, 3) := by decide +kernel
theorem d_60_51 : decode (bC 60) 51 = .ok (.ireturn, 1) := by decide +kernel
theorem d_60_52 : decode (bC 60) 52 = .ok (.iconst (-1), 1) := by decide +kernel
theorem d_60_53 : decode (bC 60) 53 = .ok (.ireturn, 1) := by decide +kernel
