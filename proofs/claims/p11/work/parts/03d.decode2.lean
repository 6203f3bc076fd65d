theorem d_38_1 : decode (mC 38) 1 = .ok (.aload_n 0, 1) := by decide +kernel
theorem d_38_2 : decode (mC 38) 2 = .ok (.getfield 22, 3) := by decide +kernel
theorem d_38_5 : decode (mC 38) 5 = .ok (.iload_n 1, 1) := by decide +kernel
theorem d_38_6 : decode (mC 38) 6 = .ok (.iadd, 1) := by decide +kernel
theorem d_38_7 : decode (mC 38) 7 = .ok (.iconst 4, 1) := by decide +kernel
theorem d_38_8 : decode (mC 38) 8 = .ok (.invokestatic 16, 3) := by decide +kernel
theorem d_38_11 : decode (mC 38) 11 = .ok (.putfield 25, 3) := by decide +kernel
theorem d_38_14 : decode (mC 38) 14 = .ok (.aload_n 0, 1) := by decide +kernel
theorem d_38_15 : decode (mC 38) 15 = .ok (.iload_n 2, 1) := by decide +kernel
theorem d_38_16 : decode (mC 38) 16 = .ok (.bipush 6, 2) := by decide +kernel
theorem d_38_18 : decode (mC 38) 18 = .ok (.invokestatic 16, 3) := by decide +kernel
theorem d_38_21 : decode (mC 38) 21 = .ok (.putfield 28, 3) := by decide +kernel
theorem d_38_24 : decode (mC 38) 24 = .ok (.return_, 1) := by decide +kernel
theorem d_39_0 : decode (mC 39) 0 = .ok (.iconst 0, 1) := by decide +kernel
theorem d_39_1 : decode (mC 39) 1 = .ok (.istore_n 1, 1) := by decide +kernel
theorem d_39_2 : decode (mC 39) 2 = .ok (.iconst 0, 1) := by decide +kernel
theorem d_39_3 : decode (mC 39) 3 = .ok (.istore_n 2, 1) := by decide +kernel
theorem d_39_4 : decode (mC 39) 4 = .ok (.iload_n 2, 1) := by decide +kernel
theorem d_39_5 : decode (mC 39) 5 = .ok (.iconst 4, 1) := by decide +kernel
theorem d_39_6 : decode (mC 39) 6 = .ok (.if_icmp .ge 20, 3) := by decide +kernel
theorem d_39_9 : decode (mC 39) 9 = .ok (.aload_n 0, 1) := by decide +kernel
theorem d_39_10 : decode (mC 39) 10 = .ok (.iload_n 2, 1) := by decide +kernel
theorem d_39_11 : decode (mC 39) 11 = .ok (.invokevirtual 35, 3) := by decide +kernel
theorem d_39_14 : decode (mC 39) 14 = .ok (.ifCond .eq 6, 3) := by decide +kernel
theorem d_39_17 : decode (mC 39) 17 = .ok (.iinc 1 1, 3) := by decide +kernel
theorem d_39_20 : decode (mC 39) 20 = .ok (.iinc 2 1, 3) := by decide +kernel
theorem d_39_23 : decode (mC 39) 23 = .ok (.goto (-19), 3) := by decide +kernel
theorem d_39_26 : decode (mC 39) 26 = .ok (.iload_n 1, 1) := by decide +kernel
theorem d_39_27 : decode (mC 39) 27 = .ok (.ireturn, 1) := by decide +kernel
theorem d_40_0 : decode (mC 40) 0 = .ok (.iload_n 1, 1) := by decide +kernel
theorem d_40_1 : decode (mC 40) 1 = .ok (.ifCond .le 11, 3) := by decide +kernel
theorem d_40_4 : decode (mC 40) 4 = .ok (.aload_n 0, 1) := by decide +kernel
theorem d_40_5 : decode (mC 40) 5 = .ok (.iconst 4, 1) := by decide +kernel
theorem d_40_6 : decode (mC 40) 6 = .ok (.putfield 56, 3) := by decide +kernel
theorem d_40_9 : decode (mC 40) 9 = .ok (.goto 19, 3) := by decide +kernel
theorem d_40_12 : decode (mC 40) 12 = .ok (.aload_n 0, 1) := by decide +kernel
theorem d_40_13 : decode (mC 40) 13 = .ok (.getfield 21, 3) := by decide +kernel
theorem d_40_16 : decode (mC 40) 16 = .ok (.getfield 167, 3) := by decide +kernel
theorem d_40_19 : decode (mC 40) 19 = .ok (.bipush 11, 2) := by decide +kernel
theorem d_40_21 : decode (mC 40) 21 = .ok (.if_icmp .lt 7, 3) := by decide +kernel
theorem d_40_24 : decode (mC 40) 24 = .ok (.aload_n 0, 1) := by decide +kernel
theorem d_40_25 : decode (mC 40) 25 = .ok (.invokevirtual 73, 3) := by decide +kernel
theorem d_40_28 : decode (mC 40) 28 = .ok (.return_, 1) := by decide +kernel
theorem d_41_0 : decode (mC 41) 0 = .ok (.aload_n 0, 1) := by decide +kernel
theorem d_41_1 : decode (mC 41) 1 = .ok (.getfield 118, 3) := by decide +kernel
theorem d_41_4 : decode (mC 41) 4 = .ok (.iconst (-1), 1) := by decide +kernel
theorem d_41_5 : decode (mC 41) 5 = .ok (.if_icmp .ne 11, 3) := by decide +kernel
theorem d_41_8 : decode (mC 41) 8 = .ok (.aload_n 0, 1) := by decide +kernel
theorem d_41_9 : decode (mC 41) 9 = .ok (.iconst 0, 1) := by decide +kernel
theorem d_41_10 : decode (mC 41) 10 = .ok (.putfield 118, 3) := by decide +kernel
theorem d_41_13 : decode (mC 41) 13 = .ok (.goto 49, 3) := by decide +kernel
theorem d_41_16 : decode (mC 41) 16 = .ok (.iload_n 1, 1) := by decide +kernel
theorem d_41_17 : decode (mC 41) 17 = .ok (.ifCond .ne 10, 3) := by decide +kernel
theorem d_41_20 : decode (mC 41) 20 = .ok (.aload_n 0, 1) := by decide +kernel
theorem d_41_21 : decode (mC 41) 21 = .ok (.invokevirtual 73, 3) := by decide +kernel
theorem d_41_24 : decode (mC 41) 24 = .ok (.goto 38, 3) := by decide +kernel
theorem d_41_27 : decode (mC 41) 27 = .ok (.aload_n 0, 1) := by decide +kernel
theorem d_41_28 : decode (mC 41) 28 = .ok (.invokevirtual 130, 3) := by decide +kernel
theorem d_41_31 : decode (mC 41) 31 = .ok (.ifCond .ne 8, 3) := by decide +kernel
theorem d_41_34 : decode (mC 41) 34 = .ok (.iload_n 1, 1) := by decide +kernel
theorem d_41_35 : decode (mC 41) 35 = .ok (.iconst 1, 1) := by decide +kernel
theorem d_41_36 : decode (mC 41) 36 = .ok (.if_icmp .le 26, 3) := by decide +kernel
theorem d_41_39 : decode (mC 41) 39 = .ok (.aload_n 0, 1) := by decide +kernel
theorem d_41_40 : decode (mC 41) 40 = .ok (.dup, 1) := by decide +kernel
theorem d_41_41 : decode (mC 41) 41 = .ok (.getfield 118, 3) := by decide +kernel
theorem d_41_44 : decode (mC 41) 44 = .ok (.iconst 1, 1) := by decide +kernel
theorem d_41_45 : decode (mC 41) 45 = .ok (.iadd, 1) := by decide +kernel
theorem d_41_46 : decode (mC 41) 46 = .ok (.putfield 118, 3) := by decide +kernel
theorem d_41_49 : decode (mC 41) 49 = .ok (.aload_n 0, 1) := by decide +kernel
theorem d_41_50 : decode (mC 41) 50 = .ok (.getfield 118, 3) := by decide +kernel
theorem d_41_53 : decode (mC 41) 53 = .ok (.iconst 2, 1) := by decide +kernel
theorem d_41_54 : decode (mC 41) 54 = .ok (.if_icmp .ne 8, 3) := by decide +kernel
theorem d_41_57 : decode (mC 41) 57 = .ok (.aload_n 0, 1) := by decide +kernel
theorem d_41_58 : decode (mC 41) 58 = .ok (.iconst 4, 1) := by decide +kernel
theorem d_41_59 : decode (mC 41) 59 = .ok (.putfield 56, 3) := by decide +kernel
theorem d_41_62 : decode (mC 41) 62 = .ok (.return_, 1) := by decide +kernel
theorem d_42_0 : decode (mC 42) 0 = .ok (.aload_n 0, 1) := by decide +kernel
theorem d_42_1 : decode (mC 42) 1 = .ok (.getfield 56, 3) := by decide +kernel
theorem d_42_4 : decode (mC 42) 4 = .ok (.iconst 4, 1) := by decide +kernel
theorem d_42_5 : decode (mC 42) 5 = .ok (.if_icmp .ne 14, 3) := by decide +kernel
theorem d_42_8 : decode (mC 42) 8 = .ok (.aload_n 0, 1) := by decide +kernel
theorem d_42_9 : decode (mC 42) 9 = .ok (.iconst 5, 1) := by decide +kernel
theorem d_42_10 : decode (mC 42) 10 = .ok (.putfield 56, 3) := by decide +kernel
theorem d_42_13 : decode (mC 42) 13 = .ok (.aload_n 0, 1) := by decide +kernel
theorem d_42_14 : decode (mC 42) 14 = .ok (.iconst 1, 1) := by decide +kernel
theorem d_42_15 : decode (mC 42) 15 = .ok (.putfield 118, 3) := by decide +kernel
theorem d_42_18 : decode (mC 42) 18 = .ok (.return_, 1) := by decide +kernel
theorem d_42_19 : decode (mC 42) 19 = .ok (.aload_n 0, 1) := by decide +kernel
theorem d_42_20 : decode (mC 42) 20 = .ok (.dup, 1) := by decide +kernel
theorem d_42_21 : decode (mC 42) 21 = .ok (.getfield 118, 3) := by decide +kernel
theorem d_42_24 : decode (mC 42) 24 = .ok (.iconst 1, 1) := by decide +kernel
theorem d_42_25 : decode (mC 42) 25 = .ok (.iadd, 1) := by decide +kernel
theorem d_42_26 : decode (mC 42) 26 = .ok (.putfield 118, 3) := by decide +kernel
theorem d_42_29 : decode (mC 42) 29 = .ok (.aload_n 0, 1) := by decide +kernel
theorem d_42_30 : decode (mC 42) 30 = .ok (.getfield 118, 3) := by decide +kernel
theorem d_42_33 : decode (mC 42) 33 = .ok (.iconst 3, 1) := by decide +kernel
theorem d_42_34 : decode (mC 42) 34 = .ok (.if_icmp .ne 9, 3) := by decide +kernel
theorem d_42_37 : decode (mC 42) 37 = .ok (.aload_n 0, 1) := by decide +kernel
theorem d_42_38 : decode (mC 42) 38 = .ok (.bipush 6, 2) := by decide +kernel
theorem d_42_40 : decode (mC 42) 40 = .ok (.putfield 56, 3) := by decide +kernel
theorem d_42_43 : decode (mC 42) 43 = .ok (.return_, 1) := by decide +kernel
theorem d_43_0 : decode (mC 43) 0 = .ok (.aload_n 0, 1) := by decide +kernel
theorem d_43_1 : decode (mC 43) 1 = .ok (.getfield 21, 3) := by decide +kernel
theorem d_43_4 : decode (mC 43) 4 = .ok (.getfield 144, 3) := by decide +kernel
theorem d_43_7 : decode (mC 43) 7 = .ok (.aload_n 0, 1) := by decide +kernel
theorem d_43_8 : decode (mC 43) 8 = .ok (.getfield 9, 3) := by decide +kernel
theorem d_43_11 : decode (mC 43) 11 = .ok (.invokestatic 160, 3) := by decide +kernel
theorem d_43_14 : decode (mC 43) 14 = .ok (.if_icmp .ne 35, 3) := by decide +kernel
theorem d_43_17 : decode (mC 43) 17 = .ok (.aload_n 0, 1) := by decide +kernel
theorem d_43_18 : decode (mC 43) 18 = .ok (.invokevirtual 164, 3) := by decide +kernel
theorem d_43_21 : decode (mC 43) 21 = .ok (.ifCond .eq 28, 3) := by decide +kernel
theorem d_43_24 : decode (mC 43) 24 = .ok (.aload_n 0, 1) := by decide +kernel
theorem d_43_25 : decode (mC 43) 25 = .ok (.getfield 9, 3) := by decide +kernel
theorem d_43_28 : decode (mC 43) 28 = .ok (.iconst 1, 1) := by decide +kernel
theorem d_43_29 : decode (mC 43) 29 = .ok (.iadd, 1) := by decide +kernel
theorem d_43_30 : decode (mC 43) 30 = .ok (.aload_n 0, 1) := by decide +kernel
theorem d_43_31 : decode (mC 43) 31 = .ok (.getfield 21, 3) := by decide +kernel
theorem d_43_34 : decode (mC 43) 34 = .ok (.getfield 167, 3) := by decide +kernel
theorem d_43_37 : decode (mC 43) 37 = .ok (.aload_n 0, 1) := by decide +kernel
theorem d_43_38 : decode (mC 43) 38 = .ok (.invokevirtual 130, 3) := by decide +kernel
theorem d_43_41 : decode (mC 43) 41 = .ok (.aload_n 0, 1) := by decide +kernel
theorem d_43_42 : decode (mC 43) 42 = .ok (.getfield 66, 3) := by decide +kernel
theorem d_43_45 : decode (mC 43) 45 = .ok (.invokestatic 170, 3) := by decide +kernel
theorem d_43_48 : decode (mC 43) 48 = .ok (.lreturn, 1) := by decide +kernel
theorem d_43_49 : decode (mC 43) 49 = .ok (.aload_n 0, 1) := by decide +kernel
theorem d_43_50 : decode (mC 43) 50 = .ok (.invokevirtual 174, 3) := by decide +kernel
theorem d_43_53 : decode (mC 43) 53 = .ok (.ifCond .eq 63, 3) := by decide +kernel
theorem d_43_56 : decode (mC 43) 56 = .ok (.aload_n 0, 1) := by decide +kernel
theorem d_43_57 : decode (mC 43) 57 = .ok (.getfield 42, 3) := by decide +kernel
theorem d_43_60 : decode (mC 43) 60 = .ok (.aload_n 0, 1) := by decide +kernel
theorem d_43_61 : decode (mC 43) 61 = .ok (.getfield 121, 3) := by decide +kernel
theorem d_43_64 : decode (mC 43) 64 = .ok (.aload_n 0, 1) := by decide +kernel
theorem d_43_65 : decode (mC 43) 65 = .ok (.getfield 21, 3) := by decide +kernel
theorem d_43_68 : decode (mC 43) 68 = .ok (.getfield 167, 3) := by decide +kernel
theorem d_43_71 : decode (mC 43) 71 = .ok (.invokevirtual 177, 3) := by decide +kernel
theorem d_43_74 : decode (mC 43) 74 = .ok (.ifCond .eq 42, 3) := by decide +kernel
theorem d_43_77 : decode (mC 43) 77 = .ok (.aload_n 0, 1) := by decide +kernel
theorem d_43_78 : decode (mC 43) 78 = .ok (.getfield 42, 3) := by decide +kernel
theorem d_43_81 : decode (mC 43) 81 = .ok (.iconst 0, 1) := by decide +kernel
theorem d_43_82 : decode (mC 43) 82 = .ok (.putfield 69, 3) := by decide +kernel
theorem d_43_85 : decode (mC 43) 85 = .ok (.aload_n 0, 1) := by decide +kernel
theorem d_43_86 : decode (mC 43) 86 = .ok (.iconst 1, 1) := by decide +kernel
theorem d_43_87 : decode (mC 43) 87 = .ok (.putfield 124, 3) := by decide +kernel
theorem d_43_90 : decode (mC 43) 90 = .ok (.aload_n 0, 1) := by decide +kernel
theorem d_43_91 : decode (mC 43) 91 = .ok (.getfield 42, 3) := by decide +kernel
theorem d_43_94 : decode (mC 43) 94 = .ok (.getfield 181, 3) := by decide +kernel
theorem d_43_97 : decode (mC 43) 97 = .ok (.aload_n 0, 1) := by decide +kernel
theorem d_43_98 : decode (mC 43) 98 = .ok (.getfield 21, 3) := by decide +kernel
theorem d_43_101 : decode (mC 43) 101 = .ok (.getfield 167, 3) := by decide +kernel
theorem d_43_104 : decode (mC 43) 104 = .ok (.iconst 0, 1) := by decide +kernel
theorem d_43_105 : decode (mC 43) 105 = .ok (.aload_n 0, 1) := by decide +kernel
theorem d_43_106 : decode (mC 43) 106 = .ok (.getfield 42, 3) := by decide +kernel
theorem d_43_109 : decode (mC 43) 109 = .ok (.getfield 184, 3) := by decide +kernel
theorem d_43_112 : decode (mC 43) 112 = .ok (.invokestatic 170, 3) := by decide +kernel
theorem d_43_115 : decode (mC 43) 115 = .ok (.lreturn, 1) := by decide +kernel
theorem d_43_116 : decode (mC 43) 116 = .ok (.ldc2_w 76, 3) := by decide +kernel
theorem d_43_119 : decode (mC 43) 119 = .ok (.lreturn, 1) := by decide +kernel
theorem d_44_0 : decode (mC 44) 0 = .ok (.bipush 10, 2) := by decide +kernel
theorem d_44_2 : decode (mC 44) 2 = .ok (.iload_n 0, 1) := by decide +kernel
theorem d_44_3 : decode (mC 44) 3 = .ok (.imul, 1) := by decide +kernel
theorem d_44_4 : decode (mC 44) 4 = .ok (.iconst 4, 1) := by decide +kernel
theorem d_44_5 : decode (mC 44) 5 = .ok (.iadd, 1) := by decide +kernel
theorem d_44_6 : decode (mC 44) 6 = .ok (.ireturn, 1) := by decide +kernel
theorem d_45_0 : decode (mC 45) 0 = .ok (.aload_n 0, 1) := by decide +kernel
theorem d_45_1 : decode (mC 45) 1 = .ok (.getfield 56, 3) := by decide +kernel
theorem d_45_4 : decode (mC 45) 4 = .ok (.iconst 2, 1) := by decide +kernel
theorem d_45_5 : decode (mC 45) 5 = .ok (.if_icmp .eq 33, 3) := by decide +kernel
theorem d_45_8 : decode (mC 45) 8 = .ok (.aload_n 0, 1) := by decide +kernel
theorem d_45_9 : decode (mC 45) 9 = .ok (.getfield 56, 3) := by decide +kernel
theorem d_45_12 : decode (mC 45) 12 = .ok (.iconst 4, 1) := by decide +kernel
theorem d_45_13 : decode (mC 45) 13 = .ok (.if_icmp .eq 25, 3) := by decide +kernel
theorem d_45_16 : decode (mC 45) 16 = .ok (.aload_n 0, 1) := by decide +kernel
theorem d_45_17 : decode (mC 45) 17 = .ok (.getfield 56, 3) := by decide +kernel
theorem d_45_20 : decode (mC 45) 20 = .ok (.iconst 3, 1) := by decide +kernel
theorem d_45_21 : decode (mC 45) 21 = .ok (.if_icmp .ne 21, 3) := by decide +kernel
theorem d_45_24 : decode (mC 45) 24 = .ok (.aload_n 0, 1) := by decide +kernel
theorem d_45_25 : decode (mC 45) 25 = .ok (.invokevirtual 130, 3) := by decide +kernel
theorem d_45_28 : decode (mC 45) 28 = .ok (.ifCond .eq 14, 3) := by decide +kernel
theorem d_45_31 : decode (mC 45) 31 = .ok (.aload_n 0, 1) := by decide +kernel
theorem d_45_32 : decode (mC 45) 32 = .ok (.getfield 118, 3) := by decide +kernel
theorem d_45_35 : decode (mC 45) 35 = .ok (.ifCond .le 7, 3) := by decide +kernel
theorem d_45_38 : decode (mC 45) 38 = .ok (.iconst 1, 1) := by decide +kernel
theorem d_45_39 : decode (mC 45) 39 = .ok (.goto 4, 3) := by decide +kernel
theorem d_45_42 : decode (mC 45) 42 = .ok (.iconst 0, 1) := by decide +kernel
theorem d_45_43 : decode (mC 45) 43 = .ok (.ireturn, 1) := by decide +kernel
theorem d_46_0 : decode (mC 46) 0 = .ok (.iload_n 0, 1) := by decide +kernel
theorem d_46_1 : decode (mC 46) 1 = .ok (.i2l, 1) := by decide +kernel
theorem d_46_2 : decode (mC 46) 2 = .ok (.bipush 7, 2) := by decide +kernel
theorem d_46_4 : decode (mC 46) 4 = .ok (.lshl, 1) := by decide +kernel
theorem d_46_5 : decode (mC 46) 5 = .ok (.iload_n 1, 1) := by decide +kernel
theorem d_46_6 : decode (mC 46) 6 = .ok (.iconst 1, 1) := by decide +kernel
theorem d_46_7 : decode (mC 46) 7 = .ok (.ishl, 1) := by decide +kernel
theorem d_46_8 : decode (mC 46) 8 = .ok (.i2l, 1) := by decide +kernel
theorem d_46_9 : decode (mC 46) 9 = .ok (.lor, 1) := by decide +kernel
theorem d_46_10 : decode (mC 46) 10 = .ok (.iload_n 2, 1) := by decide +kernel
theorem d_46_11 : decode (mC 46) 11 = .ok (.ifCond .eq 7, 3) := by decide +kernel
theorem d_46_14 : decode (mC 46) 14 = .ok (.iconst 1, 1) := by decide +kernel
theorem d_46_15 : decode (mC 46) 15 = .ok (.goto 4, 3) := by decide +kernel
theorem d_46_18 : decode (mC 46) 18 = .ok (.iconst 0, 1) := by decide +kernel
theorem d_46_19 : decode (mC 46) 19 = .ok (.i2l, 1) := by decide +kernel
theorem d_46_20 : decode (mC 46) 20 = .ok (.lor, 1) := by decide +kernel
theorem d_46_21 : decode (mC 46) 21 = .ok (.lstore 4, 2) := by decide +kernel
theorem d_46_23 : decode (mC 46) 23 = .ok (.lload 4, 2) := by decide +kernel
theorem d_46_25 : decode (mC 46) 25 = .ok (.bipush 11, 2) := by decide +kernel
theorem d_46_27 : decode (mC 46) 27 = .ok (.lshl, 1) := by decide +kernel
theorem d_46_28 : decode (mC 46) 28 = .ok (.lload 4, 2) := by decide +kernel
theorem d_46_30 : decode (mC 46) 30 = .ok (.invokestatic 11, 3) := by decide +kernel
theorem d_46_33 : decode (mC 46) 33 = .ok (.lor, 1) := by decide +kernel
theorem d_46_34 : decode (mC 46) 34 = .ok (.bipush 10, 2) := by decide +kernel
theorem d_46_36 : decode (mC 46) 36 = .ok (.lshl, 1) := by decide +kernel
theorem d_46_37 : decode (mC 46) 37 = .ok (.iload_n 3, 1) := by decide +kernel
theorem d_46_38 : decode (mC 46) 38 = .ok (.i2l, 1) := by decide +kernel
theorem d_46_39 : decode (mC 46) 39 = .ok (.lor, 1) := by decide +kernel
theorem d_46_40 : decode (mC 46) 40 = .ok (.lstore 6, 2) := by decide +kernel
theorem d_46_42 : decode (mC 46) 42 = .ok (.lload 6, 2) := by decide +kernel
theorem d_46_44 : decode (mC 46) 44 = .ok (.bipush 24, 2) := by decide +kernel
theorem d_46_46 : decode (mC 46) 46 = .ok (.lshl, 1) := by decide +kernel
theorem d_46_47 : decode (mC 46) 47 = .ok (.lload 6, 2) := by decide +kernel
theorem d_46_49 : decode (mC 46) 49 = .ok (.invokestatic 15, 3) := by decide +kernel
theorem d_46_52 : decode (mC 46) 52 = .ok (.lor, 1) := by decide +kernel
theorem d_46_53 : decode (mC 46) 53 = .ok (.lreturn, 1) := by decide +kernel
theorem d_47_0 : decode (mC 47) 0 = .ok (.lload_n 0, 1) := by decide +kernel
theorem d_47_1 : decode (mC 47) 1 = .ok (.bipush 12, 2) := by decide +kernel
theorem d_47_3 : decode (mC 47) 3 = .ok (.bipush 11, 2) := by decide +kernel
theorem d_47_5 : decode (mC 47) 5 = .ok (.ldc2_w 42, 3) := by decide +kernel
theorem d_47_8 : decode (mC 47) 8 = .ok (.ldc2_w 44, 3) := by decide +kernel
theorem d_47_11 : decode (mC 47) 11 = .ok (.invokestatic 46, 3) := by decide +kernel
theorem d_47_14 : decode (mC 47) 14 = .ok (.lreturn, 1) := by decide +kernel
theorem d_48_0 : decode (mC 48) 0 = .ok (.lconst 1, 1) := by decide +kernel
theorem d_48_1 : decode (mC 48) 1 = .ok (.iload_n 3, 1) := by decide +kernel
theorem d_48_2 : decode (mC 48) 2 = .ok (.lshl, 1) := by decide +kernel
theorem d_48_3 : decode (mC 48) 3 = .ok (.lconst 1, 1) := by decide +kernel
theorem d_48_4 : decode (mC 48) 4 = .ok (.lsub, 1) := by decide +kernel
theorem d_48_5 : decode (mC 48) 5 = .ok (.lstore 8, 2) := by decide +kernel
theorem d_48_7 : decode (mC 48) 7 = .ok (.lload 4, 2) := by decide +kernel
theorem d_48_9 : decode (mC 48) 9 = .ok (.lstore 10, 2) := by decide +kernel
theorem d_48_11 : decode (mC 48) 11 = .ok (.iload_n 2, 1) := by decide +kernel
theorem d_48_12 : decode (mC 48) 12 = .ok (.iconst 1, 1) := by decide +kernel
theorem d_48_13 : decode (mC 48) 13 = .ok (.isub, 1) := by decide +kernel
theorem d_48_14 : decode (mC 48) 14 = .ok (.istore 12, 2) := by decide +kernel
theorem d_48_16 : decode (mC 48) 16 = .ok (.iload 12, 2) := by decide +kernel
theorem d_48_18 : decode (mC 48) 18 = .ok (.ifCond .lt 45, 3) := by decide +kernel
theorem d_48_21 : decode (mC 48) 21 = .ok (.lload 10, 2) := by decide +kernel
theorem d_48_23 : decode (mC 48) 23 = .ok (.iload_n 3, 1) := by decide +kernel
theorem d_48_24 : decode (mC 48) 24 = .ok (.iconst 1, 1) := by decide +kernel
theorem d_48_25 : decode (mC 48) 25 = .ok (.isub, 1) := by decide +kernel
theorem d_48_26 : decode (mC 48) 26 = .ok (.lushr, 1) := by decide +kernel
theorem d_48_27 : decode (mC 48) 27 = .ok (.lstore 13, 2) := by decide +kernel
theorem d_48_29 : decode (mC 48) 29 = .ok (.lload 10, 2) := by decide +kernel
theorem d_48_31 : decode (mC 48) 31 = .ok (.iconst 1, 1) := by decide +kernel
theorem d_48_32 : decode (mC 48) 32 = .ok (.lshl, 1) := by decide +kernel
theorem d_48_33 : decode (mC 48) 33 = .ok (.lload 8, 2) := by decide +kernel
theorem d_48_35 : decode (mC 48) 35 = .ok (.land, 1) := by decide +kernel
theorem d_48_36 : decode (mC 48) 36 = .ok (.lstore 10, 2) := by decide +kernel
theorem d_48_38 : decode (mC 48) 38 = .ok (.lload 13, 2) := by decide +kernel
theorem d_48_40 : decode (mC 48) 40 = .ok (.lload_n 0, 1) := by decide +kernel
theorem d_48_41 : decode (mC 48) 41 = .ok (.iload 12, 2) := by decide +kernel
theorem d_48_43 : decode (mC 48) 43 = .ok (.lushr, 1) := by decide +kernel
theorem d_48_44 : decode (mC 48) 44 = .ok (.lconst 1, 1) := by decide +kernel
theorem d_48_45 : decode (mC 48) 45 = .ok (.land, 1) := by decide +kernel
theorem d_48_46 : decode (mC 48) 46 = .ok (.lcmp, 1) := by decide +kernel
theorem d_48_47 : decode (mC 48) 47 = .ok (.ifCond .eq 10, 3) := by decide +kernel
theorem d_48_50 : decode (mC 48) 50 = .ok (.lload 10, 2) := by decide +kernel
theorem d_48_52 : decode (mC 48) 52 = .ok (.lload 6, 2) := by decide +kernel
theorem d_48_54 : decode (mC 48) 54 = .ok (.lxor, 1) := by decide +kernel
theorem d_48_55 : decode (mC 48) 55 = .ok (.lstore 10, 2) := by decide +kernel
theorem d_48_57 : decode (mC 48) 57 = .ok (.iinc 12 (-1), 3) := by decide +kernel
theorem d_48_60 : decode (mC 48) 60 = .ok (.goto (-44), 3) := by decide +kernel
theorem d_48_63 : decode (mC 48) 63 = .ok (.lload 10, 2) := by decide +kernel
theorem d_48_65 : decode (mC 48) 65 = .ok (.lreturn, 1) := by decide +kernel
theorem d_49_0 : decode (mC 49) 0 = .ok (.lload_n 0, 1) := by decide +kernel
theorem d_49_1 : decode (mC 49) 1 = .ok (.bipush 33, 2) := by decide +kernel
theorem d_49_3 : decode (mC 49) 3 = .ok (.bipush 24, 2) := by decide +kernel
theorem d_49_5 : decode (mC 49) 5 = .ok (.ldc2_w 50, 3) := by decide +kernel
theorem d_49_8 : decode (mC 49) 8 = .ok (.ldc2_w 52, 3) := by decide +kernel
theorem d_49_11 : decode (mC 49) 11 = .ok (.invokestatic 46, 3) := by decide +kernel
theorem d_49_14 : decode (mC 49) 14 = .ok (.lreturn, 1) := by decide +kernel
theorem d_50_0 : decode (mC 50) 0 = .ok (.aload_n 0, 1) := by decide +kernel
theorem d_50_1 : decode (mC 50) 1 = .ok (.getfield 56, 3) := by decide +kernel
theorem d_50_4 : decode (mC 50) 4 = .ok (.iconst 4, 1) := by decide +kernel
theorem d_50_5 : decode (mC 50) 5 = .ok (.if_icmp .ne 37, 3) := by decide +kernel
theorem d_50_8 : decode (mC 50) 8 = .ok (.aload_n 0, 1) := by decide +kernel
theorem d_50_9 : decode (mC 50) 9 = .ok (.getfield 124, 3) := by decide +kernel
theorem d_50_12 : decode (mC 50) 12 = .ok (.ifCond .ne 30, 3) := by decide +kernel
theorem d_50_15 : decode (mC 50) 15 = .ok (.aload_n 0, 1) := by decide +kernel
theorem d_50_16 : decode (mC 50) 16 = .ok (.invokevirtual 141, 3) := by decide +kernel
theorem d_50_19 : decode (mC 50) 19 = .ok (.ifCond .eq 23, 3) := by decide +kernel
theorem d_50_22 : decode (mC 50) 22 = .ok (.aload_n 0, 1) := by decide +kernel
theorem d_50_23 : decode (mC 50) 23 = .ok (.getfield 21, 3) := by decide +kernel
theorem d_50_26 : decode (mC 50) 26 = .ok (.getfield 144, 3) := by decide +kernel
theorem d_50_29 : decode (mC 50) 29 = .ok (.bipush 40, 2) := by decide +kernel
theorem d_50_31 : decode (mC 50) 31 = .ok (.isub, 1) := by decide +kernel
theorem d_50_32 : decode (mC 50) 32 = .ok (.iconst 4, 1) := by decide +kernel
theorem d_50_33 : decode (mC 50) 33 = .ok (.irem, 1) := by decide +kernel
theorem d_50_34 : decode (mC 50) 34 = .ok (.iconst 2, 1) := by decide +kernel
theorem d_50_35 : decode (mC 50) 35 = .ok (.if_icmp .ne 7, 3) := by decide +kernel
theorem d_50_38 : decode (mC 50) 38 = .ok (.iconst 1, 1) := by decide +kernel
theorem d_50_39 : decode (mC 50) 39 = .ok (.goto 4, 3) := by decide +kernel
theorem d_50_42 : decode (mC 50) 42 = .ok (.iconst 0, 1) := by decide +kernel
theorem d_50_43 : decode (mC 50) 43 = .ok (.ireturn, 1) := by decide +kernel
theorem d_51_0 : decode (mC 51) 0 = .ok (.aload_n 0, 1) := by decide +kernel
theorem d_51_1 : decode (mC 51) 1 = .ok (.getfield 7, 3) := by decide +kernel
theorem d_51_4 : decode (mC 51) 4 = .ok (.ifCond .eq 35, 3) := by decide +kernel
theorem d_51_7 : decode (mC 51) 7 = .ok (.aload_n 0, 1) := by decide +kernel
theorem d_51_8 : decode (mC 51) 8 = .ok (.getfield 13, 3) := by decide +kernel
theorem d_51_11 : decode (mC 51) 11 = .ok (.iload_n 1, 1) := by decide +kernel
theorem d_51_12 : decode (mC 51) 12 = .ok (.if_icmp .ne 27, 3) := by decide +kernel
theorem d_51_15 : decode (mC 51) 15 = .ok (.aload_n 0, 1) := by decide +kernel
theorem d_51_16 : decode (mC 51) 16 = .ok (.getfield 23, 3) := by decide +kernel
theorem d_51_19 : decode (mC 51) 19 = .ok (.ifCond .le 20, 3) := by decide +kernel
theorem d_51_22 : decode (mC 51) 22 = .ok (.iload_n 2, 1) := by decide +kernel
theorem d_51_23 : decode (mC 51) 23 = .ok (.aload_n 0, 1) := by decide +kernel
theorem d_51_24 : decode (mC 51) 24 = .ok (.getfield 23, 3) := by decide +kernel
theorem d_51_27 : decode (mC 51) 27 = .ok (.irem, 1) := by decide +kernel
theorem d_51_28 : decode (mC 51) 28 = .ok (.aload_n 0, 1) := by decide +kernel
theorem d_51_29 : decode (mC 51) 29 = .ok (.getfield 20, 3) := by decide +kernel
theorem d_51_32 : decode (mC 51) 32 = .ok (.if_icmp .ne 7, 3) := by decide +kernel
theorem d_51_35 : decode (mC 51) 35 = .ok (.iconst 1, 1) := by decide +kernel
theorem d_51_36 : decode (mC 51) 36 = .ok (.goto 4, 3) := by decide +kernel
theorem d_51_39 : decode (mC 51) 39 = .ok (.iconst 0, 1) := by decide +kernel
theorem d_51_40 : decode (mC 51) 40 = .ok (.ireturn, 1) := by decide +kernel
theorem d_52_0 : decode (mC 52) 0 = .ok (.aload_n 0, 1) := by decide +kernel
theorem d_52_1 : decode (mC 52) 1 = .ok (.lload_n 2, 1) := by decide +kernel
theorem d_52_2 : decode (mC 52) 2 = .ok (.aload_n 0, 1) := by decide +kernel
theorem d_52_3 : decode (mC 52) 3 = .ok (.getfield 88, 3) := by decide +kernel
theorem d_52_6 : decode (mC 52) 6 = .ok (.lxor, 1) := by decide +kernel
theorem d_52_7 : decode (mC 52) 7 = .ok (.putfield 20, 3) := by decide +kernel
theorem d_52_10 : decode (mC 52) 10 = .ok (.aload_n 0, 1) := by decide +kernel
theorem d_52_11 : decode (mC 52) 11 = .ok (.lconst 0, 1) := by decide +kernel
theorem d_52_12 : decode (mC 52) 12 = .ok (.putfield 88, 3) := by decide +kernel
theorem d_52_15 : decode (mC 52) 15 = .ok (.aload_n 0, 1) := by decide +kernel
theorem d_52_16 : decode (mC 52) 16 = .ok (.getfield 91, 3) := by decide +kernel
theorem d_52_19 : decode (mC 52) 19 = .ok (.ifCond .le 14, 3) := by decide +kernel
theorem d_52_22 : decode (mC 52) 22 = .ok (.aload_n 0, 1) := by decide +kernel
theorem d_52_23 : decode (mC 52) 23 = .ok (.dup, 1) := by decide +kernel
theorem d_52_24 : decode (mC 52) 24 = .ok (.getfield 91, 3) := by decide +kernel
theorem d_52_27 : decode (mC 52) 27 = .ok (.iconst 1, 1) := by decide +kernel
theorem d_52_28 : decode (mC 52) 28 = .ok (.isub, 1) := by decide +kernel
theorem d_52_29 : decode (mC 52) 29 = .ok (.putfield 91, 3) := by decide +kernel
theorem d_52_32 : decode (mC 52) 32 = .ok (.return_, 1) := by decide +kernel
theorem d_52_33 : decode (mC 52) 33 = .ok (.aload_n 0, 1) := by decide +kernel
theorem d_52_34 : decode (mC 52) 34 = .ok (.getfield 20, 3) := by decide +kernel
theorem d_52_37 : decode (mC 52) 37 = .ok (.invokestatic 191, 3) := by decide +kernel
theorem d_52_40 : decode (mC 52) 40 = .ok (.istore 4, 2) := by decide +kernel
theorem d_52_42 : decode (mC 52) 42 = .ok (.iconst 0, 1) := by decide +kernel
theorem d_52_43 : decode (mC 52) 43 = .ok (.istore 5, 2) := by decide +kernel
theorem d_52_45 : decode (mC 52) 45 = .ok (.iload 5, 2) := by decide +kernel
theorem d_52_47 : decode (mC 52) 47 = .ok (.iconst 4, 1) := by decide +kernel
theorem d_52_48 : decode (mC 52) 48 = .ok (.if_icmp .ge 44, 3) := by decide +kernel
theorem d_52_51 : decode (mC 52) 51 = .ok (.iload 5, 2) := by decide +kernel
theorem d_52_53 : decode (mC 52) 53 = .ok (.iload_n 1, 1) := by decide +kernel
theorem d_52_54 : decode (mC 52) 54 = .ok (.if_icmp .eq 32, 3) := by decide +kernel
theorem d_52_57 : decode (mC 52) 57 = .ok (.aload_n 0, 1) := by decide +kernel
theorem d_52_58 : decode (mC 52) 58 = .ok (.getfield 11, 3) := by decide +kernel
theorem d_52_61 : decode (mC 52) 61 = .ok (.iload 5, 2) := by decide +kernel
theorem d_52_63 : decode (mC 52) 63 = .ok (.aaload, 1) := by decide +kernel
theorem d_52_64 : decode (mC 52) 64 = .ok (.invokevirtual 28, 3) := by decide +kernel
theorem d_52_67 : decode (mC 52) 67 = .ok (.ifCond .eq 19, 3) := by decide +kernel
theorem d_52_70 : decode (mC 52) 70 = .ok (.aload_n 0, 1) := by decide +kernel
theorem d_52_71 : decode (mC 52) 71 = .ok (.getfield 11, 3) := by decide +kernel
theorem d_52_74 : decode (mC 52) 74 = .ok (.iload 5, 2) := by decide +kernel
theorem d_52_76 : decode (mC 52) 76 = .ok (.aaload, 1) := by decide +kernel
theorem d_52_77 : decode (mC 52) 77 = .ok (.aload_n 0, 1) := by decide +kernel
theorem d_52_78 : decode (mC 52) 78 = .ok (.getfield 20, 3) := by decide +kernel
theorem d_52_81 : decode (mC 52) 81 = .ok (.iload 4, 2) := by decide +kernel
theorem d_52_83 : decode (mC 52) 83 = .ok (.invokevirtual 194, 3) := by decide +kernel
theorem d_52_86 : decode (mC 52) 86 = .ok (.iinc 5 1, 3) := by decide +kernel
theorem d_52_89 : decode (mC 52) 89 = .ok (.goto (-44), 3) := by decide +kernel
theorem d_52_92 : decode (mC 52) 92 = .ok (.return_, 1) := by decide +kernel
theorem d_53_0 : decode (mC 53) 0 = .ok (.lload_n 0, 1) := by decide +kernel
theorem d_53_1 : decode (mC 53) 1 = .ok (.invokestatic 22, 3) := by decide +kernel
theorem d_53_4 : decode (mC 53) 4 = .ok (.ifCond .eq 10, 3) := by decide +kernel
theorem d_53_7 : decode (mC 53) 7 = .ok (.lload_n 0, 1) := by decide +kernel
theorem d_53_8 : decode (mC 53) 8 = .ok (.invokestatic 26, 3) := by decide +kernel
theorem d_53_11 : decode (mC 53) 11 = .ok (.ifCond .ne 5, 3) := by decide +kernel
theorem d_53_14 : decode (mC 53) 14 = .ok (.iconst 1, 1) := by decide +kernel
theorem d_53_15 : decode (mC 53) 15 = .ok (.ireturn, 1) := by decide +kernel
theorem d_53_16 : decode (mC 53) 16 = .ok (.lload_n 0, 1) := by decide +kernel
theorem d_53_17 : decode (mC 53) 17 = .ok (.invokestatic 29, 3) := by decide +kernel
theorem d_53_20 : decode (mC 53) 20 = .ok (.istore_n 2, 1) := by decide +kernel
theorem d_53_21 : decode (mC 53) 21 = .ok (.iload_n 2, 1) := by decide +kernel
theorem d_53_22 : decode (mC 53) 22 = .ok (.iconst 1, 1) := by decide +kernel
theorem d_53_23 : decode (mC 53) 23 = .ok (.bipush 9, 2) := by decide +kernel
theorem d_53_25 : decode (mC 53) 25 = .ok (.invokestatic 33, 3) := by decide +kernel
theorem d_53_28 : decode (mC 53) 28 = .ok (.ifCond .eq 15, 3) := by decide +kernel
theorem d_53_31 : decode (mC 53) 31 = .ok (.lload_n 0, 1) := by decide +kernel
theorem d_53_32 : decode (mC 53) 32 = .ok (.invokestatic 37, 3) := by decide +kernel
theorem d_53_35 : decode (mC 53) 35 = .ok (.ifCond .eq 12, 3) := by decide +kernel
theorem d_53_38 : decode (mC 53) 38 = .ok (.iload_n 2, 1) := by decide +kernel
theorem d_53_39 : decode (mC 53) 39 = .ok (.iconst 2, 1) := by decide +kernel
theorem d_53_40 : decode (mC 53) 40 = .ok (.if_icmp .le 7, 3) := by decide +kernel
theorem d_53_43 : decode (mC 53) 43 = .ok (.iconst 1, 1) := by decide +kernel
theorem d_53_44 : decode (mC 53) 44 = .ok (.goto 4, 3) := by decide +kernel
theorem d_53_47 : decode (mC 53) 47 = .ok (.iconst 0, 1) := by decide +kernel
theorem d_53_48 : decode (mC 53) 48 = .ok (.ireturn, 1) := by decide +kernel
theorem d_54_0 : decode (mC 54) 0 = .ok (.lload_n 0, 1) := by decide +kernel
theorem d_54_1 : decode (mC 54) 1 = .ok (.bipush 45, 2) := by decide +kernel
theorem d_54_3 : decode (mC 54) 3 = .ok (.lushr, 1) := by decide +kernel
theorem d_54_4 : decode (mC 54) 4 = .ok (.invokestatic 11, 3) := by decide +kernel
theorem d_54_7 : decode (mC 54) 7 = .ok (.lload_n 0, 1) := by decide +kernel
theorem d_54_8 : decode (mC 54) 8 = .ok (.bipush 34, 2) := by decide +kernel
theorem d_54_10 : decode (mC 54) 10 = .ok (.lushr, 1) := by decide +kernel
theorem d_54_11 : decode (mC 54) 11 = .ok (.ldc2_w 18, 3) := by decide +kernel
theorem d_54_14 : decode (mC 54) 14 = .ok (.land, 1) := by decide +kernel
theorem d_54_15 : decode (mC 54) 15 = .ok (.lcmp, 1) := by decide +kernel
theorem d_54_16 : decode (mC 54) 16 = .ok (.ifCond .ne 7, 3) := by decide +kernel
theorem d_54_19 : decode (mC 54) 19 = .ok (.iconst 1, 1) := by decide +kernel
theorem d_54_20 : decode (mC 54) 20 = .ok (.goto 4, 3) := by decide +kernel
theorem d_54_23 : decode (mC 54) 23 = .ok (.iconst 0, 1) := by decide +kernel
theorem d_54_24 : decode (mC 54) 24 = .ok (.ireturn, 1) := by decide +kernel
theorem d_55_0 : decode (mC 55) 0 = .ok (.lload_n 0, 1) := by decide +kernel
theorem d_55_1 : decode (mC 55) 1 = .ok (.bipush 24, 2) := by decide +kernel
theorem d_55_3 : decode (mC 55) 3 = .ok (.lushr, 1) := by decide +kernel
theorem d_55_4 : decode (mC 55) 4 = .ok (.invokestatic 15, 3) := by decide +kernel
theorem d_55_7 : decode (mC 55) 7 = .ok (.lload_n 0, 1) := by decide +kernel
theorem d_55_8 : decode (mC 55) 8 = .ok (.ldc2_w 20, 3) := by decide +kernel
theorem d_55_11 : decode (mC 55) 11 = .ok (.land, 1) := by decide +kernel
theorem d_55_12 : decode (mC 55) 12 = .ok (.lcmp, 1) := by decide +kernel
theorem d_55_13 : decode (mC 55) 13 = .ok (.ifCond .ne 7, 3) := by decide +kernel
theorem d_55_16 : decode (mC 55) 16 = .ok (.iconst 1, 1) := by decide +kernel
theorem d_55_17 : decode (mC 55) 17 = .ok (.goto 4, 3) := by decide +kernel
theorem d_55_20 : decode (mC 55) 20 = .ok (.iconst 0, 1) := by decide +kernel
theorem d_55_21 : decode (mC 55) 21 = .ok (.ireturn, 1) := by decide +kernel
theorem d_56_0 : decode (mC 56) 0 = .ok (.lload_n 0, 1) := by decide +kernel
theorem d_56_1 : decode (mC 56) 1 = .ok (.bipush 52, 2) := by decide +kernel
theorem d_56_3 : decode (mC 56) 3 = .ok (.lushr, 1) := by decide +kernel
theorem d_56_4 : decode (mC 56) 4 = .ok (.l2i, 1) := by decide +kernel
theorem d_56_5 : decode (mC 56) 5 = .ok (.bipush 31, 2) := by decide +kernel
theorem d_56_7 : decode (mC 56) 7 = .ok (.iand, 1) := by decide +kernel
theorem d_56_8 : decode (mC 56) 8 = .ok (.ireturn, 1) := by decide +kernel
theorem d_57_0 : decode (mC 57) 0 = .ok (.lload_n 0, 1) := by decide +kernel
theorem d_57_1 : decode (mC 57) 1 = .ok (.bipush 45, 2) := by decide +kernel
theorem d_57_3 : decode (mC 57) 3 = .ok (.lushr, 1) := by decide +kernel
theorem d_57_4 : decode (mC 57) 4 = .ok (.lconst 1, 1) := by decide +kernel
theorem d_57_5 : decode (mC 57) 5 = .ok (.land, 1) := by decide +kernel
theorem d_57_6 : decode (mC 57) 6 = .ok (.lconst 1, 1) := by decide +kernel
theorem d_57_7 : decode (mC 57) 7 = .ok (.lcmp, 1) := by decide +kernel
theorem d_57_8 : decode (mC 57) 8 = .ok (.ifCond .ne 7, 3) := by decide +kernel
theorem d_57_11 : decode (mC 57) 11 = .ok (.iconst 1, 1) := by decide +kernel
theorem d_57_12 : decode (mC 57) 12 = .ok (.goto 4, 3) := by decide +kernel
theorem d_57_15 : decode (mC 57) 15 = .ok (.iconst 0, 1) := by decide +kernel
theorem d_57_16 : decode (mC 57) 16 = .ok (.ireturn, 1) := by decide +kernel
theorem d_58_0 : decode (mC 58) 0 = .ok (.aload_n 0, 1) := by decide +kernel
theorem d_58_1 : decode (mC 58) 1 = .ok (.getfield 56, 3) := by decide +kernel
theorem d_58_4 : decode (mC 58) 4 = .ok (.iconst 1, 1) := by decide +kernel
theorem d_58_5 : decode (mC 58) 5 = .ok (.if_icmp .ne 37, 3) := by decide +kernel
theorem d_58_8 : decode (mC 58) 8 = .ok (.aload_n 0, 1) := by decide +kernel
theorem d_58_9 : decode (mC 58) 9 = .ok (.getfield 28, 3) := by decide +kernel
theorem d_58_12 : decode (mC 58) 12 = .ok (.iconst 0, 1) := by decide +kernel
theorem d_58_13 : decode (mC 58) 13 = .ok (.putfield 88, 3) := by decide +kernel
theorem d_58_16 : decode (mC 58) 16 = .ok (.iload_n 3, 1) := by decide +kernel
theorem d_58_17 : decode (mC 58) 17 = .ok (.ifCond .ne 34, 3) := by decide +kernel
theorem d_58_20 : decode (mC 58) 20 = .ok (.lload_n 1, 1) := by decide +kernel
theorem d_58_21 : decode (mC 58) 21 = .ok (.invokestatic 91, 3) := by decide +kernel
theorem d_58_24 : decode (mC 58) 24 = .ok (.ifCond .eq 27, 3) := by decide +kernel
theorem d_58_27 : decode (mC 58) 27 = .ok (.aload_n 0, 1) := by decide +kernel
theorem d_58_28 : decode (mC 58) 28 = .ok (.lload_n 1, 1) := by decide +kernel
theorem d_58_29 : decode (mC 58) 29 = .ok (.invokestatic 97, 3) := by decide +kernel
theorem d_58_32 : decode (mC 58) 32 = .ok (.lload_n 1, 1) := by decide +kernel
theorem d_58_33 : decode (mC 58) 33 = .ok (.invokestatic 101, 3) := by decide +kernel
theorem d_58_36 : decode (mC 58) 36 = .ok (.invokevirtual 104, 3) := by decide +kernel
theorem d_58_39 : decode (mC 58) 39 = .ok (.goto 12, 3) := by decide +kernel
theorem d_58_42 : decode (mC 58) 42 = .ok (.iload_n 3, 1) := by decide +kernel
theorem d_58_43 : decode (mC 58) 43 = .ok (.ifCond .ne 8, 3) := by decide +kernel
theorem d_58_46 : decode (mC 58) 46 = .ok (.aload_n 0, 1) := by decide +kernel
theorem d_58_47 : decode (mC 58) 47 = .ok (.lload_n 1, 1) := by decide +kernel
theorem d_58_48 : decode (mC 58) 48 = .ok (.invokevirtual 108, 3) := by decide +kernel
theorem d_58_51 : decode (mC 58) 51 = .ok (.return_, 1) := by decide +kernel
theorem d_59_0 : decode (mC 59) 0 = .ok (.lload_n 0, 1) := by decide +kernel
theorem d_59_1 : decode (mC 59) 1 = .ok (.bipush 46, 2) := by decide +kernel
theorem d_59_3 : decode (mC 59) 3 = .ok (.lushr, 1) := by decide +kernel
theorem d_59_4 : decode (mC 59) 4 = .ok (.l2i, 1) := by decide +kernel
theorem d_59_5 : decode (mC 59) 5 = .ok (.bipush 63, 2) := by decide +kernel
theorem d_59_7 : decode (mC 59) 7 = .ok (.iand, 1) := by decide +kernel
theorem d_59_8 : decode (mC 59) 8 = .ok (.ireturn, 1) := by decide +kernel
theorem d_60_0 : decode (mC 60) 0 = .ok (.aload_n 0, 1) := by decide +kernel
theorem d_60_1 : decode (mC 60) 1 = .ok (.getfield 28, 3) := by decide +kernel
theorem d_60_4 : decode (mC 60) 4 = .ok (.iload_n 1, 1) := by decide +kernel
theorem d_60_5 : decode (mC 60) 5 = .ok (.iload_n 2, 1) := by decide +kernel
theorem d_60_6 : decode (mC 60) 6 = .ok (.invokevirtual 185, 3) := by decide +kernel
theorem d_60_9 : decode (mC 60) 9 = .ok (.ifCond .eq 36, 3) := by decide +kernel
theorem d_60_12 : decode (mC 60) 12 = .ok (.aload_n 0, 1) := by decide +kernel
theorem d_60_13 : decode (mC 60) 13 = .ok (.getfield 21, 3) := by decide +kernel
theorem d_60_16 : decode (mC 60) 16 = .ok (.iload_n 1, 1) := by decide +kernel
theorem d_60_17 : decode (mC 60) 17 = .ok (.iconst 1, 1) := by decide +kernel
theorem d_60_18 : decode (mC 60) 18 = .ok (.isub, 1) := by decide +kernel
theorem d_60_19 : decode (mC 60) 19 = .ok (.invokestatic 160, 3) := by decide +kernel
theorem d_60_22 : decode (mC 60) 22 = .ok (.iload_n 2, 1) := by decide +kernel
theorem d_60_23 : decode (mC 60) 23 = .ok (.aload_n 0, 1) := by decide +kernel
theorem d_60_24 : decode (mC 60) 24 = .ok (.getfield 28, 3) := by decide +kernel
theorem d_60_27 : decode (mC 60) 27 = .ok (.getfield 188, 3) := by decide +kernel
theorem d_60_30 : decode (mC 60) 30 = .ok (.bipush 80, 2) := by decide +kernel
theorem d_60_32 : decode (mC 60) 32 = .ok (.isub, 1) := by decide +kernel
theorem d_60_33 : decode (mC 60) 33 = .ok (.invokevirtual 133, 3) := by decide +kernel
theorem d_60_36 : decode (mC 60) 36 = .ok (.aload_n 0, 1) := by decide +kernel
theorem d_60_37 : decode (mC 60) 37 = .ok (.iconst 3, 1) := by decide +kernel
theorem d_60_38 : decode (mC 60) 38 = .ok (.iconst (-1), 1) := by decide +kernel
theorem d_60_39 : decode (mC 60) 39 = .ok (.invokevirtual 136, 3) := by decide +kernel
theorem d_60_42 : decode (mC 60) 42 = .ok (.goto 12, 3) := by decide +kernel
theorem d_60_45 : decode (mC 60) 45 = .ok (.aload_n 0, 1) := by decide +kernel
theorem d_60_46 : decode (mC 60) 46 = .ok (.getfield 28, 3) := by decide +kernel
theorem d_60_49 : decode (mC 60) 49 = .ok (.iload_n 1, 1) := by decide +kernel
theorem d_60_50 : decode (mC 60) 50 = .ok (.iload_n 2, 1) := by decide +kernel
theorem d_60_51 : decode (mC 60) 51 = .ok (.invokevirtual 191, 3) := by decide +kernel
theorem d_60_54 : decode (mC 60) 54 = .ok (.return_, 1) := by decide +kernel
theorem d_61_0 : decode (mC 61) 0 = .ok (.iload_n 1, 1) := by decide +kernel
theorem d_61_1 : decode (mC 61) 1 = .ok (.aload_n 0, 1) := by decide +kernel
theorem d_61_2 : decode (mC 61) 2 = .ok (.getfield 16, 3) := by decide +kernel
theorem d_61_5 : decode (mC 61) 5 = .ok (.if_icmp .ne 31, 3) := by decide +kernel
theorem d_61_8 : decode (mC 61) 8 = .ok (.iload_n 2, 1) := by decide +kernel
theorem d_61_9 : decode (mC 61) 9 = .ok (.aload_n 0, 1) := by decide +kernel
theorem d_61_10 : decode (mC 61) 10 = .ok (.getfield 19, 3) := by decide +kernel
theorem d_61_13 : decode (mC 61) 13 = .ok (.iconst 1, 1) := by decide +kernel
theorem d_61_14 : decode (mC 61) 14 = .ok (.iadd, 1) := by decide +kernel
theorem d_61_15 : decode (mC 61) 15 = .ok (.if_icmp .ne 21, 3) := by decide +kernel
theorem d_61_18 : decode (mC 61) 18 = .ok (.aload_n 0, 1) := by decide +kernel
theorem d_61_19 : decode (mC 61) 19 = .ok (.getfield 13, 3) := by decide +kernel
theorem d_61_22 : decode (mC 61) 22 = .ok (.bipush 70, 2) := by decide +kernel
theorem d_61_24 : decode (mC 61) 24 = .ok (.bipush 90, 2) := by decide +kernel
theorem d_61_26 : decode (mC 61) 26 = .ok (.invokestatic 22, 3) := by decide +kernel
theorem d_61_29 : decode (mC 61) 29 = .ok (.ifCond .eq 7, 3) := by decide +kernel
theorem d_61_32 : decode (mC 61) 32 = .ok (.iconst 1, 1) := by decide +kernel
theorem d_61_33 : decode (mC 61) 33 = .ok (.goto 4, 3) := by decide +kernel
theorem d_61_36 : decode (mC 61) 36 = .ok (.iconst 0, 1) := by decide +kernel
theorem d_61_37 : decode (mC 61) 37 = .ok (.ireturn, 1) := by decide +kernel
theorem d_62_0 : decode (mC 62) 0 = .ok (.aload_n 0, 1) := by decide +kernel
theorem d_62_1 : decode (mC 62) 1 = .ok (.getfield 16, 3) := by decide +kernel
theorem d_62_4 : decode (mC 62) 4 = .ok (.ifCond .eq 21, 3) := by decide +kernel
theorem d_62_7 : decode (mC 62) 7 = .ok (.aload_n 0, 1) := by decide +kernel
theorem d_62_8 : decode (mC 62) 8 = .ok (.getfield 16, 3) := by decide +kernel
theorem d_62_11 : decode (mC 62) 11 = .ok (.iload_n 1, 1) := by decide +kernel
theorem d_62_12 : decode (mC 62) 12 = .ok (.if_icmp .eq 13, 3) := by decide +kernel
theorem d_62_15 : decode (mC 62) 15 = .ok (.aload_n 0, 1) := by decide +kernel
theorem d_62_16 : decode (mC 62) 16 = .ok (.getfield 13, 3) := by decide +kernel
theorem d_62_19 : decode (mC 62) 19 = .ok (.bipush 90, 2) := by decide +kernel
theorem d_62_21 : decode (mC 62) 21 = .ok (.if_icmp .gt 4, 3) := by decide +kernel
theorem d_62_24 : decode (mC 62) 24 = .ok (.return_, 1) := by decide +kernel
theorem d_62_25 : decode (mC 62) 25 = .ok (.iload_n 2, 1) := by decide +kernel
theorem d_62_26 : decode (mC 62) 26 = .ok (.iconst 2, 1) := by decide +kernel
theorem d_62_27 : decode (mC 62) 27 = .ok (.irem, 1) := by decide +kernel
theorem d_62_28 : decode (mC 62) 28 = .ok (.ifCond .ne 21, 3) := by decide +kernel
theorem d_62_31 : decode (mC 62) 31 = .ok (.aload_n 0, 1) := by decide +kernel
theorem d_62_32 : decode (mC 62) 32 = .ok (.iload_n 1, 1) := by decide +kernel
theorem d_62_33 : decode (mC 62) 33 = .ok (.putfield 16, 3) := by decide +kernel
theorem d_62_36 : decode (mC 62) 36 = .ok (.aload_n 0, 1) := by decide +kernel
theorem d_62_37 : decode (mC 62) 37 = .ok (.iload_n 2, 1) := by decide +kernel
theorem d_62_38 : decode (mC 62) 38 = .ok (.putfield 19, 3) := by decide +kernel
theorem d_62_41 : decode (mC 62) 41 = .ok (.aload_n 0, 1) := by decide +kernel
theorem d_62_42 : decode (mC 62) 42 = .ok (.iconst 0, 1) := by decide +kernel
theorem d_62_43 : decode (mC 62) 43 = .ok (.putfield 13, 3) := by decide +kernel
theorem d_62_46 : decode (mC 62) 46 = .ok (.goto 8, 3) := by decide +kernel
theorem d_62_49 : decode (mC 62) 49 = .ok (.aload_n 0, 1) := by decide +kernel
theorem d_62_50 : decode (mC 62) 50 = .ok (.iconst 0, 1) := by decide +kernel
theorem d_62_51 : decode (mC 62) 51 = .ok (.putfield 16, 3) := by decide +kernel
theorem d_62_54 : decode (mC 62) 54 = .ok (.return_, 1) := by decide +kernel
theorem d_63_0 : decode (mC 63) 0 = .ok (.lload_n 1, 1) := by decide +kernel
theorem d_63_1 : decode (mC 63) 1 = .ok (.invokestatic 97, 3) := by decide +kernel
theorem d_63_4 : decode (mC 63) 4 = .ok (.istore_n 3, 1) := by decide +kernel
theorem d_63_5 : decode (mC 63) 5 = .ok (.lload_n 1, 1) := by decide +kernel
theorem d_63_6 : decode (mC 63) 6 = .ok (.invokestatic 101, 3) := by decide +kernel
theorem d_63_9 : decode (mC 63) 9 = .ok (.aload_n 0, 1) := by decide +kernel
theorem d_63_10 : decode (mC 63) 10 = .ok (.getfield 21, 3) := by decide +kernel
theorem d_63_13 : decode (mC 63) 13 = .ok (.getfield 167, 3) := by decide +kernel
theorem d_63_16 : decode (mC 63) 16 = .ok (.if_icmp .ne 7, 3) := by decide +kernel
theorem d_63_19 : decode (mC 63) 19 = .ok (.iconst 1, 1) := by decide +kernel
theorem d_63_20 : decode (mC 63) 20 = .ok (.goto 4, 3) := by decide +kernel
theorem d_63_23 : decode (mC 63) 23 = .ok (.iconst 0, 1) := by decide +kernel
theorem d_63_24 : decode (mC 63) 24 = .ok (.istore 4, 2) := by decide +kernel
theorem d_63_26 : decode (mC 63) 26 = .ok (.iload_n 3, 1) := by decide +kernel
theorem d_63_27 : decode (mC 63) 27 = .ok (.iconst 5, 1) := by decide +kernel
theorem d_63_28 : decode (mC 63) 28 = .ok (.if_icmp .lt 36, 3) := by decide +kernel
theorem d_63_31 : decode (mC 63) 31 = .ok (.iload 4, 2) := by decide +kernel
theorem d_63_33 : decode (mC 63) 33 = .ok (.ifCond .eq 30, 3) := by decide +kernel
theorem d_63_36 : decode (mC 63) 36 = .ok (.aload_n 0, 1) := by decide +kernel
theorem d_63_37 : decode (mC 63) 37 = .ok (.invokevirtual 141, 3) := by decide +kernel
theorem d_63_40 : decode (mC 63) 40 = .ok (.ifCond .eq 23, 3) := by decide +kernel
theorem d_63_43 : decode (mC 63) 43 = .ok (.aload_n 0, 1) := by decide +kernel
theorem d_63_44 : decode (mC 63) 44 = .ok (.getfield 46, 3) := by decide +kernel
theorem d_63_47 : decode (mC 63) 47 = .ok (.iload_n 3, 1) := by decide +kernel
theorem d_63_48 : decode (mC 63) 48 = .ok (.lload_n 1, 1) := by decide +kernel
theorem d_63_49 : decode (mC 63) 49 = .ok (.invokestatic 194, 3) := by decide +kernel
theorem d_63_52 : decode (mC 63) 52 = .ok (.iastore, 1) := by decide +kernel
theorem d_63_53 : decode (mC 63) 53 = .ok (.aload_n 0, 1) := by decide +kernel
theorem d_63_54 : decode (mC 63) 54 = .ok (.iload_n 3, 1) := by decide +kernel
theorem d_63_55 : decode (mC 63) 55 = .ok (.putfield 121, 3) := by decide +kernel
theorem d_63_58 : decode (mC 63) 58 = .ok (.aload_n 0, 1) := by decide +kernel
theorem d_63_59 : decode (mC 63) 59 = .ok (.iconst 1, 1) := by decide +kernel
theorem d_63_60 : decode (mC 63) 60 = .ok (.putfield 124, 3) := by decide +kernel
theorem d_63_63 : decode (mC 63) 63 = .ok (.return_, 1) := by decide +kernel
theorem d_63_64 : decode (mC 63) 64 = .ok (.aload_n 0, 1) := by decide +kernel
theorem d_63_65 : decode (mC 63) 65 = .ok (.getfield 21, 3) := by decide +kernel
theorem d_63_68 : decode (mC 63) 68 = .ok (.getfield 144, 3) := by decide +kernel
theorem d_63_71 : decode (mC 63) 71 = .ok (.iload_n 3, 1) := by decide +kernel
theorem d_63_72 : decode (mC 63) 72 = .ok (.iconst 1, 1) := by decide +kernel
theorem d_63_73 : decode (mC 63) 73 = .ok (.isub, 1) := by decide +kernel
theorem d_63_74 : decode (mC 63) 74 = .ok (.invokestatic 160, 3) := by decide +kernel
theorem d_63_77 : decode (mC 63) 77 = .ok (.isub, 1) := by decide +kernel
theorem d_63_78 : decode (mC 63) 78 = .ok (.istore 5, 2) := by decide +kernel
theorem d_63_80 : decode (mC 63) 80 = .ok (.iload 4, 2) := by decide +kernel
theorem d_63_82 : decode (mC 63) 82 = .ok (.ifCond .eq 46, 3) := by decide +kernel
theorem d_63_85 : decode (mC 63) 85 = .ok (.iload 5, 2) := by decide +kernel
theorem d_63_87 : decode (mC 63) 87 = .ok (.bipush (-3), 2) := by decide +kernel
theorem d_63_89 : decode (mC 63) 89 = .ok (.iconst 3, 1) := by decide +kernel
theorem d_63_90 : decode (mC 63) 90 = .ok (.invokestatic 156, 3) := by decide +kernel
theorem d_63_93 : decode (mC 63) 93 = .ok (.ifCond .eq 35, 3) := by decide +kernel
theorem d_63_96 : decode (mC 63) 96 = .ok (.aload_n 0, 1) := by decide +kernel
theorem d_63_97 : decode (mC 63) 97 = .ok (.getfield 35, 3) := by decide +kernel
theorem d_63_100 : decode (mC 63) 100 = .ok (.iload_n 3, 1) := by decide +kernel
theorem d_63_101 : decode (mC 63) 101 = .ok (.iconst 1, 1) := by decide +kernel
theorem d_63_102 : decode (mC 63) 102 = .ok (.isub, 1) := by decide +kernel
theorem d_63_103 : decode (mC 63) 103 = .ok (.aload_n 0, 1) := by decide +kernel
theorem d_63_104 : decode (mC 63) 104 = .ok (.getfield 21, 3) := by decide +kernel
theorem d_63_107 : decode (mC 63) 107 = .ok (.invokevirtual 150, 3) := by decide +kernel
theorem d_63_110 : decode (mC 63) 110 = .ok (.iload 5, 2) := by decide +kernel
theorem d_63_112 : decode (mC 63) 112 = .ok (.invokevirtual 197, 3) := by decide +kernel
theorem d_63_115 : decode (mC 63) 115 = .ok (.aload_n 0, 1) := by decide +kernel
theorem d_63_116 : decode (mC 63) 116 = .ok (.getfield 46, 3) := by decide +kernel
theorem d_63_119 : decode (mC 63) 119 = .ok (.iload_n 3, 1) := by decide +kernel
theorem d_63_120 : decode (mC 63) 120 = .ok (.lload_n 1, 1) := by decide +kernel
theorem d_63_121 : decode (mC 63) 121 = .ok (.invokestatic 194, 3) := by decide +kernel
theorem d_63_124 : decode (mC 63) 124 = .ok (.iastore, 1) := by decide +kernel
theorem d_63_125 : decode (mC 63) 125 = .ok (.goto 22, 3) := by decide +kernel
theorem d_63_128 : decode (mC 63) 128 = .ok (.aload_n 0, 1) := by decide +kernel
theorem d_63_129 : decode (mC 63) 129 = .ok (.getfield 56, 3) := by decide +kernel
theorem d_63_132 : decode (mC 63) 132 = .ok (.iconst 2, 1) := by decide +kernel
theorem d_63_133 : decode (mC 63) 133 = .ok (.if_icmp .ne 14, 3) := by decide +kernel
theorem d_63_136 : decode (mC 63) 136 = .ok (.lload_n 1, 1) := by decide +kernel
theorem d_63_137 : decode (mC 63) 137 = .ok (.invokestatic 91, 3) := by decide +kernel
theorem d_63_140 : decode (mC 63) 140 = .ok (.ifCond .eq 7, 3) := by decide +kernel
theorem d_63_143 : decode (mC 63) 143 = .ok (.aload_n 0, 1) := by decide +kernel
theorem d_63_144 : decode (mC 63) 144 = .ok (.invokevirtual 73, 3) := by decide +kernel
theorem d_63_147 : decode (mC 63) 147 = .ok (.return_, 1) := by decide +kernel
theorem d_64_0 : decode (mC 64) 0 = .ok (.lload_n 0, 1) := by decide +kernel
theorem d_64_1 : decode (mC 64) 1 = .ok (.bipush 24, 2) := by decide +kernel
theorem d_64_3 : decode (mC 64) 3 = .ok (.lushr, 1) := by decide +kernel
theorem d_64_4 : decode (mC 64) 4 = .ok (.l2i, 1) := by decide +kernel
theorem d_64_5 : decode (mC 64) 5 = .ok (.sipush 1023, 3) := by decide +kernel
theorem d_64_8 : decode (mC 64) 8 = .ok (.iand, 1) := by decide +kernel
theorem d_64_9 : decode (mC 64) 9 = .ok (.ireturn, 1) := by decide +kernel
theorem d_65_0 : decode (mC 65) 0 = .ok (.iload_n 2, 1) := by decide +kernel
theorem d_65_1 : decode (mC 65) 1 = .ok (.ifCond .eq 13, 3) := by decide +kernel
theorem d_65_4 : decode (mC 65) 4 = .ok (.aload_n 0, 1) := by decide +kernel
theorem d_65_5 : decode (mC 65) 5 = .ok (.getfield 15, 3) := by decide +kernel
theorem d_65_8 : decode (mC 65) 8 = .ok (.iload_n 1, 1) := by decide +kernel
theorem d_65_9 : decode (mC 65) 9 = .ok (.iload_n 3, 1) := by decide +kernel
theorem d_65_10 : decode (mC 65) 10 = .ok (.iastore, 1) := by decide +kernel
theorem d_65_11 : decode (mC 65) 11 = .ok (.goto 10, 3) := by decide +kernel
theorem d_65_14 : decode (mC 65) 14 = .ok (.aload_n 0, 1) := by decide +kernel
theorem d_65_15 : decode (mC 65) 15 = .ok (.getfield 9, 3) := by decide +kernel
theorem d_65_18 : decode (mC 65) 18 = .ok (.iload_n 1, 1) := by decide +kernel
theorem d_65_19 : decode (mC 65) 19 = .ok (.iload_n 3, 1) := by decide +kernel
theorem d_65_20 : decode (mC 65) 20 = .ok (.iastore, 1) := by decide +kernel
theorem d_65_21 : decode (mC 65) 21 = .ok (.return_, 1) := by decide +kernel
theorem d_66_0 : decode (mC 66) 0 = .ok (.aload_n 0, 1) := by decide +kernel
theorem d_66_1 : decode (mC 66) 1 = .ok (.iload_n 1, 1) := by decide +kernel
theorem d_66_2 : decode (mC 66) 2 = .ok (.iload_n 2, 1) := by decide +kernel
theorem d_66_3 : decode (mC 66) 3 = .ok (.invokevirtual 24, 3) := by decide +kernel
theorem d_66_6 : decode (mC 66) 6 = .ok (.goto 9, 3) := by decide +kernel
theorem d_66_9 : decode (mC 66) 9 = .ok (.astore_n 3, 1) := by decide +kernel
theorem d_66_10 : decode (mC 66) 10 = .ok (.iconst 1, 1) := by decide +kernel
theorem d_66_11 : decode (mC 66) 11 = .ok (.ireturn, 1) := by decide +kernel
theorem d_66_12 : decode (mC 66) 12 = .ok (.astore_n 3, 1) := by decide +kernel
theorem d_66_13 : decode (mC 66) 13 = .ok (.iconst 2, 1) := by decide +kernel
theorem d_66_14 : decode (mC 66) 14 = .ok (.ireturn, 1) := by decide +kernel
theorem d_66_15 : decode (mC 66) 15 = .ok (.iconst 0, 1) := by decide +kernel
theorem d_66_16 : decode (mC 66) 16 = .ok (.ireturn, 1) := by decide +kernel
theorem d_67_0 : decode (mC 67) 0 = .ok (.iload_n 1, 1) := by decide +kernel
theorem d_67_1 : decode (mC 67) 1 = .ok (.invokestatic 24, 3) := by decide +kernel
theorem d_67_4 : decode (mC 67) 4 = .ok (.iload_n 2, 1) := by decide +kernel
theorem d_67_5 : decode (mC 67) 5 = .ok (.iconst 0, 1) := by decide +kernel
theorem d_67_6 : decode (mC 67) 6 = .ok (.sipush 1023, 3) := by decide +kernel
theorem d_67_9 : decode (mC 67) 9 = .ok (.invokestatic 46, 3) := by decide +kernel
theorem d_67_12 : decode (mC 67) 12 = .ok (.invokestatic 50, 3) := by decide +kernel
theorem d_67_15 : decode (mC 67) 15 = .ok (.aload_n 0, 1) := by decide +kernel
theorem d_67_16 : decode (mC 67) 16 = .ok (.iload_n 1, 1) := by decide +kernel
theorem d_67_17 : decode (mC 67) 17 = .ok (.invokevirtual 60, 3) := by decide +kernel
theorem d_67_20 : decode (mC 67) 20 = .ok (.aload_n 0, 1) := by decide +kernel
theorem d_67_21 : decode (mC 67) 21 = .ok (.getfield 11, 3) := by decide +kernel
theorem d_67_24 : decode (mC 67) 24 = .ok (.iload_n 1, 1) := by decide +kernel
theorem d_67_25 : decode (mC 67) 25 = .ok (.aaload, 1) := by decide +kernel
theorem d_67_26 : decode (mC 67) 26 = .ok (.iload_n 2, 1) := by decide +kernel
theorem d_67_27 : decode (mC 67) 27 = .ok (.putfield 63, 3) := by decide +kernel
theorem d_67_30 : decode (mC 67) 30 = .ok (.return_, 1) := by decide +kernel
theorem d_68_0 : decode (mC 68) 0 = .ok (.aload_n 0, 1) := by decide +kernel
theorem d_68_1 : decode (mC 68) 1 = .ok (.getfield 11, 3) := by decide +kernel
theorem d_68_4 : decode (mC 68) 4 = .ok (.iload_n 1, 1) := by decide +kernel
theorem d_68_5 : decode (mC 68) 5 = .ok (.aaload, 1) := by decide +kernel
theorem d_68_6 : decode (mC 68) 6 = .ok (.getfield 42, 3) := by decide +kernel
theorem d_68_9 : decode (mC 68) 9 = .ok (.ifCond .ne 13, 3) := by decide +kernel
theorem d_68_12 : decode (mC 68) 12 = .ok (.new 32, 3) := by decide +kernel
theorem d_68_15 : decode (mC 68) 15 = .ok (.dup, 1) := by decide +kernel
theorem d_68_16 : decode (mC 68) 16 = .ok (.ldc 182, 2) := by decide +kernel
theorem d_68_18 : decode (mC 68) 18 = .ok (.invokespecial 36, 3) := by decide +kernel
theorem d_68_21 : decode (mC 68) 21 = .ok (.athrow, 1) := by decide +kernel
theorem d_68_22 : decode (mC 68) 22 = .ok (.return_, 1) := by decide +kernel
theorem d_69_0 : decode (mC 69) 0 = .ok (.aload_n 0, 1) := by decide +kernel
theorem d_69_1 : decode (mC 69) 1 = .ok (.iload_n 1, 1) := by decide +kernel
theorem d_69_2 : decode (mC 69) 2 = .ok (.iload_n 2, 1) := by decide +kernel
theorem d_69_3 : decode (mC 69) 3 = .ok (.iload_n 3, 1) := by decide +kernel
theorem d_69_4 : decode (mC 69) 4 = .ok (.iload 4, 2) := by decide +kernel
