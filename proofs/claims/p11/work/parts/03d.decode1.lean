theorem d_0_0 : decode (mC 0) 0 = .ok (.iconst 0, 1) := by decide +kernel
theorem d_0_1 : decode (mC 0) 1 = .ok (.istore_n 2, 1) := by decide +kernel
theorem d_0_2 : decode (mC 0) 2 = .ok (.aload_n 0, 1) := by decide +kernel
theorem d_0_3 : decode (mC 0) 3 = .ok (.arraylength, 1) := by decide +kernel
theorem d_0_4 : decode (mC 0) 4 = .ok (.istore_n 3, 1) := by decide +kernel
theorem d_0_5 : decode (mC 0) 5 = .ok (.iload_n 2, 1) := by decide +kernel
theorem d_0_6 : decode (mC 0) 6 = .ok (.iload_n 3, 1) := by decide +kernel
theorem d_0_7 : decode (mC 0) 7 = .ok (.if_icmp .ge 13, 3) := by decide +kernel
theorem d_0_10 : decode (mC 0) 10 = .ok (.aload_n 0, 1) := by decide +kernel
theorem d_0_11 : decode (mC 0) 11 = .ok (.iload_n 2, 1) := by decide +kernel
theorem d_0_12 : decode (mC 0) 12 = .ok (.iload_n 1, 1) := by decide +kernel
theorem d_0_13 : decode (mC 0) 13 = .ok (.iastore, 1) := by decide +kernel
theorem d_0_14 : decode (mC 0) 14 = .ok (.iinc 2 1, 3) := by decide +kernel
theorem d_0_17 : decode (mC 0) 17 = .ok (.goto (-12), 3) := by decide +kernel
theorem d_0_20 : decode (mC 0) 20 = .ok (.return_, 1) := by decide +kernel
theorem d_1_0 : decode (mC 1) 0 = .ok (.aload_n 0, 1) := by decide +kernel
theorem d_1_1 : decode (mC 1) 1 = .ok (.getfield 54, 3) := by decide +kernel
theorem d_1_4 : decode (mC 1) 4 = .ok (.ireturn, 1) := by decide +kernel
theorem d_2_0 : decode (mC 2) 0 = .ok (.iload_n 1, 1) := by decide +kernel
theorem d_2_1 : decode (mC 2) 1 = .ok (.aload_n 0, 1) := by decide +kernel
theorem d_2_2 : decode (mC 2) 2 = .ok (.arraylength, 1) := by decide +kernel
theorem d_2_3 : decode (mC 2) 3 = .ok (.if_icmp .ge 9, 3) := by decide +kernel
theorem d_2_6 : decode (mC 2) 6 = .ok (.aload_n 0, 1) := by decide +kernel
theorem d_2_7 : decode (mC 2) 7 = .ok (.iload_n 1, 1) := by decide +kernel
theorem d_2_8 : decode (mC 2) 8 = .ok (.iaload, 1) := by decide +kernel
theorem d_2_9 : decode (mC 2) 9 = .ok (.goto 4, 3) := by decide +kernel
theorem d_2_12 : decode (mC 2) 12 = .ok (.iconst 0, 1) := by decide +kernel
theorem d_2_13 : decode (mC 2) 13 = .ok (.ireturn, 1) := by decide +kernel
theorem d_3_0 : decode (mC 3) 0 = .ok (.aload_n 0, 1) := by decide +kernel
theorem d_3_1 : decode (mC 3) 1 = .ok (.iload_n 1, 1) := by decide +kernel
theorem d_3_2 : decode (mC 3) 2 = .ok (.invokevirtual 7, 3) := by decide +kernel
theorem d_3_5 : decode (mC 3) 5 = .ok (.goto 9, 3) := by decide +kernel
theorem d_3_8 : decode (mC 3) 8 = .ok (.astore_n 2, 1) := by decide +kernel
theorem d_3_9 : decode (mC 3) 9 = .ok (.iconst 1, 1) := by decide +kernel
theorem d_3_10 : decode (mC 3) 10 = .ok (.ireturn, 1) := by decide +kernel
theorem d_3_11 : decode (mC 3) 11 = .ok (.astore_n 2, 1) := by decide +kernel
theorem d_3_12 : decode (mC 3) 12 = .ok (.iconst 2, 1) := by decide +kernel
theorem d_3_13 : decode (mC 3) 13 = .ok (.ireturn, 1) := by decide +kernel
theorem d_3_14 : decode (mC 3) 14 = .ok (.iconst 0, 1) := by decide +kernel
theorem d_3_15 : decode (mC 3) 15 = .ok (.ireturn, 1) := by decide +kernel
theorem d_4_0 : decode (mC 4) 0 = .ok (.iload_n 1, 1) := by decide +kernel
theorem d_4_1 : decode (mC 4) 1 = .ok (.invokestatic 24, 3) := by decide +kernel
theorem d_4_4 : decode (mC 4) 4 = .ok (.aload_n 0, 1) := by decide +kernel
theorem d_4_5 : decode (mC 4) 5 = .ok (.getfield 11, 3) := by decide +kernel
theorem d_4_8 : decode (mC 4) 8 = .ok (.iload_n 1, 1) := by decide +kernel
theorem d_4_9 : decode (mC 4) 9 = .ok (.aaload, 1) := by decide +kernel
theorem d_4_10 : decode (mC 4) 10 = .ok (.invokevirtual 28, 3) := by decide +kernel
theorem d_4_13 : decode (mC 4) 13 = .ok (.ifCond .eq 13, 3) := by decide +kernel
theorem d_4_16 : decode (mC 4) 16 = .ok (.new 32, 3) := by decide +kernel
theorem d_4_19 : decode (mC 4) 19 = .ok (.dup, 1) := by decide +kernel
theorem d_4_20 : decode (mC 4) 20 = .ok (.ldc 34, 2) := by decide +kernel
theorem d_4_22 : decode (mC 4) 22 = .ok (.invokespecial 36, 3) := by decide +kernel
theorem d_4_25 : decode (mC 4) 25 = .ok (.athrow, 1) := by decide +kernel
theorem d_4_26 : decode (mC 4) 26 = .ok (.aload_n 0, 1) := by decide +kernel
theorem d_4_27 : decode (mC 4) 27 = .ok (.getfield 11, 3) := by decide +kernel
theorem d_4_30 : decode (mC 4) 30 = .ok (.iload_n 1, 1) := by decide +kernel
theorem d_4_31 : decode (mC 4) 31 = .ok (.aaload, 1) := by decide +kernel
theorem d_4_32 : decode (mC 4) 32 = .ok (.invokevirtual 39, 3) := by decide +kernel
theorem d_4_35 : decode (mC 4) 35 = .ok (.return_, 1) := by decide +kernel
theorem d_5_0 : decode (mC 5) 0 = .ok (.iload_n 0, 1) := by decide +kernel
theorem d_5_1 : decode (mC 5) 1 = .ok (.iconst 0, 1) := by decide +kernel
theorem d_5_2 : decode (mC 5) 2 = .ok (.iconst 3, 1) := by decide +kernel
theorem d_5_3 : decode (mC 5) 3 = .ok (.invokestatic 46, 3) := by decide +kernel
theorem d_5_6 : decode (mC 5) 6 = .ok (.ifCond .ne 13, 3) := by decide +kernel
theorem d_5_9 : decode (mC 5) 9 = .ok (.new 175, 3) := by decide +kernel
theorem d_5_12 : decode (mC 5) 12 = .ok (.dup, 1) := by decide +kernel
theorem d_5_13 : decode (mC 5) 13 = .ok (.ldc 180, 2) := by decide +kernel
theorem d_5_15 : decode (mC 5) 15 = .ok (.invokespecial 179, 3) := by decide +kernel
theorem d_5_18 : decode (mC 5) 18 = .ok (.athrow, 1) := by decide +kernel
theorem d_5_19 : decode (mC 5) 19 = .ok (.return_, 1) := by decide +kernel
theorem d_6_0 : decode (mC 6) 0 = .ok (.iload_n 0, 1) := by decide +kernel
theorem d_6_1 : decode (mC 6) 1 = .ok (.iload_n 1, 1) := by decide +kernel
theorem d_6_2 : decode (mC 6) 2 = .ok (.if_icmp .lt 12, 3) := by decide +kernel
theorem d_6_5 : decode (mC 6) 5 = .ok (.iload_n 0, 1) := by decide +kernel
theorem d_6_6 : decode (mC 6) 6 = .ok (.iload_n 2, 1) := by decide +kernel
theorem d_6_7 : decode (mC 6) 7 = .ok (.if_icmp .gt 7, 3) := by decide +kernel
theorem d_6_10 : decode (mC 6) 10 = .ok (.iconst 1, 1) := by decide +kernel
theorem d_6_11 : decode (mC 6) 11 = .ok (.goto 4, 3) := by decide +kernel
theorem d_6_14 : decode (mC 6) 14 = .ok (.iconst 0, 1) := by decide +kernel
theorem d_6_15 : decode (mC 6) 15 = .ok (.ireturn, 1) := by decide +kernel
theorem d_7_0 : decode (mC 7) 0 = .ok (.aload_n 0, 1) := by decide +kernel
theorem d_7_1 : decode (mC 7) 1 = .ok (.getfield 56, 3) := by decide +kernel
theorem d_7_4 : decode (mC 7) 4 = .ok (.ifCond .eq 16, 3) := by decide +kernel
theorem d_7_7 : decode (mC 7) 7 = .ok (.aload_n 0, 1) := by decide +kernel
theorem d_7_8 : decode (mC 7) 8 = .ok (.getfield 56, 3) := by decide +kernel
theorem d_7_11 : decode (mC 7) 11 = .ok (.bipush 6, 2) := by decide +kernel
theorem d_7_13 : decode (mC 7) 13 = .ok (.if_icmp .eq 7, 3) := by decide +kernel
theorem d_7_16 : decode (mC 7) 16 = .ok (.iconst 1, 1) := by decide +kernel
theorem d_7_17 : decode (mC 7) 17 = .ok (.goto 4, 3) := by decide +kernel
theorem d_7_20 : decode (mC 7) 20 = .ok (.iconst 0, 1) := by decide +kernel
theorem d_7_21 : decode (mC 7) 21 = .ok (.ireturn, 1) := by decide +kernel
theorem d_8_0 : decode (mC 8) 0 = .ok (.aload_n 0, 1) := by decide +kernel
theorem d_8_1 : decode (mC 8) 1 = .ok (.iconst 0, 1) := by decide +kernel
theorem d_8_2 : decode (mC 8) 2 = .ok (.putfield 63, 3) := by decide +kernel
theorem d_8_5 : decode (mC 8) 5 = .ok (.aload_n 0, 1) := by decide +kernel
theorem d_8_6 : decode (mC 8) 6 = .ok (.iconst 0, 1) := by decide +kernel
theorem d_8_7 : decode (mC 8) 7 = .ok (.putfield 66, 3) := by decide +kernel
theorem d_8_10 : decode (mC 8) 10 = .ok (.aload_n 0, 1) := by decide +kernel
theorem d_8_11 : decode (mC 8) 11 = .ok (.getfield 42, 3) := by decide +kernel
theorem d_8_14 : decode (mC 8) 14 = .ok (.iconst 0, 1) := by decide +kernel
theorem d_8_15 : decode (mC 8) 15 = .ok (.putfield 69, 3) := by decide +kernel
theorem d_8_18 : decode (mC 8) 18 = .ok (.aload_n 0, 1) := by decide +kernel
theorem d_8_19 : decode (mC 8) 19 = .ok (.getfield 46, 3) := by decide +kernel
theorem d_8_22 : decode (mC 8) 22 = .ok (.iconst (-1), 1) := by decide +kernel
theorem d_8_23 : decode (mC 8) 23 = .ok (.invokestatic 50, 3) := by decide +kernel
theorem d_8_26 : decode (mC 8) 26 = .ok (.aload_n 0, 1) := by decide +kernel
theorem d_8_27 : decode (mC 8) 27 = .ok (.invokevirtual 73, 3) := by decide +kernel
theorem d_8_30 : decode (mC 8) 30 = .ok (.return_, 1) := by decide +kernel
theorem d_9_0 : decode (mC 9) 0 = .ok (.aload_n 0, 1) := by decide +kernel
theorem d_9_1 : decode (mC 9) 1 = .ok (.iconst 1, 1) := by decide +kernel
theorem d_9_2 : decode (mC 9) 2 = .ok (.putfield 56, 3) := by decide +kernel
theorem d_9_5 : decode (mC 9) 5 = .ok (.aload_n 0, 1) := by decide +kernel
theorem d_9_6 : decode (mC 9) 6 = .ok (.getfield 28, 3) := by decide +kernel
theorem d_9_9 : decode (mC 9) 9 = .ok (.invokevirtual 112, 3) := by decide +kernel
theorem d_9_12 : decode (mC 9) 12 = .ok (.aload_n 0, 1) := by decide +kernel
theorem d_9_13 : decode (mC 9) 13 = .ok (.getfield 35, 3) := by decide +kernel
theorem d_9_16 : decode (mC 9) 16 = .ok (.invokevirtual 115, 3) := by decide +kernel
theorem d_9_19 : decode (mC 9) 19 = .ok (.return_, 1) := by decide +kernel
theorem d_10_0 : decode (mC 10) 0 = .ok (.aload_n 0, 1) := by decide +kernel
theorem d_10_1 : decode (mC 10) 1 = .ok (.iconst 0, 1) := by decide +kernel
theorem d_10_2 : decode (mC 10) 2 = .ok (.putfield 7, 3) := by decide +kernel
theorem d_10_5 : decode (mC 10) 5 = .ok (.aload_n 0, 1) := by decide +kernel
theorem d_10_6 : decode (mC 10) 6 = .ok (.iconst 0, 1) := by decide +kernel
theorem d_10_7 : decode (mC 10) 7 = .ok (.putfield 13, 3) := by decide +kernel
theorem d_10_10 : decode (mC 10) 10 = .ok (.aload_n 0, 1) := by decide +kernel
theorem d_10_11 : decode (mC 10) 11 = .ok (.iconst 0, 1) := by decide +kernel
theorem d_10_12 : decode (mC 10) 12 = .ok (.putfield 16, 3) := by decide +kernel
theorem d_10_15 : decode (mC 10) 15 = .ok (.return_, 1) := by decide +kernel
theorem d_11_0 : decode (mC 11) 0 = .ok (.aload_n 0, 1) := by decide +kernel
theorem d_11_1 : decode (mC 11) 1 = .ok (.getfield 9, 3) := by decide +kernel
theorem d_11_4 : decode (mC 11) 4 = .ok (.sipush 1000, 3) := by decide +kernel
theorem d_11_7 : decode (mC 11) 7 = .ok (.invokestatic 18, 3) := by decide +kernel
theorem d_11_10 : decode (mC 11) 10 = .ok (.aload_n 0, 1) := by decide +kernel
theorem d_11_11 : decode (mC 11) 11 = .ok (.getfield 15, 3) := by decide +kernel
theorem d_11_14 : decode (mC 11) 14 = .ok (.sipush 1000, 3) := by decide +kernel
theorem d_11_17 : decode (mC 11) 17 = .ok (.invokestatic 18, 3) := by decide +kernel
theorem d_11_20 : decode (mC 11) 20 = .ok (.return_, 1) := by decide +kernel
theorem d_12_0 : decode (mC 12) 0 = .ok (.aload_n 2, 1) := by decide +kernel
theorem d_12_1 : decode (mC 12) 1 = .ok (.iconst 0, 1) := by decide +kernel
theorem d_12_2 : decode (mC 12) 2 = .ok (.aload_n 0, 1) := by decide +kernel
theorem d_12_3 : decode (mC 12) 3 = .ok (.iload_n 1, 1) := by decide +kernel
theorem d_12_4 : decode (mC 12) 4 = .ok (.invokevirtual 17, 3) := by decide +kernel
theorem d_12_7 : decode (mC 12) 7 = .ok (.i2l, 1) := by decide +kernel
theorem d_12_8 : decode (mC 12) 8 = .ok (.lastore, 1) := by decide +kernel
theorem d_12_9 : decode (mC 12) 9 = .ok (.goto 6, 3) := by decide +kernel
theorem d_12_12 : decode (mC 12) 12 = .ok (.astore_n 3, 1) := by decide +kernel
theorem d_12_13 : decode (mC 12) 13 = .ok (.iconst 1, 1) := by decide +kernel
theorem d_12_14 : decode (mC 12) 14 = .ok (.ireturn, 1) := by decide +kernel
theorem d_12_15 : decode (mC 12) 15 = .ok (.iconst 0, 1) := by decide +kernel
theorem d_12_16 : decode (mC 12) 16 = .ok (.ireturn, 1) := by decide +kernel
theorem d_13_0 : decode (mC 13) 0 = .ok (.iload_n 1, 1) := by decide +kernel
theorem d_13_1 : decode (mC 13) 1 = .ok (.invokestatic 24, 3) := by decide +kernel
theorem d_13_4 : decode (mC 13) 4 = .ok (.aload_n 0, 1) := by decide +kernel
theorem d_13_5 : decode (mC 13) 5 = .ok (.getfield 11, 3) := by decide +kernel
theorem d_13_8 : decode (mC 13) 8 = .ok (.iload_n 1, 1) := by decide +kernel
theorem d_13_9 : decode (mC 13) 9 = .ok (.aaload, 1) := by decide +kernel
theorem d_13_10 : decode (mC 13) 10 = .ok (.getfield 42, 3) := by decide +kernel
theorem d_13_13 : decode (mC 13) 13 = .ok (.istore_n 2, 1) := by decide +kernel
theorem d_13_14 : decode (mC 13) 14 = .ok (.aload_n 0, 1) := by decide +kernel
theorem d_13_15 : decode (mC 13) 15 = .ok (.getfield 11, 3) := by decide +kernel
theorem d_13_18 : decode (mC 13) 18 = .ok (.iload_n 1, 1) := by decide +kernel
theorem d_13_19 : decode (mC 13) 19 = .ok (.aaload, 1) := by decide +kernel
theorem d_13_20 : decode (mC 13) 20 = .ok (.iconst 0, 1) := by decide +kernel
theorem d_13_21 : decode (mC 13) 21 = .ok (.putfield 42, 3) := by decide +kernel
theorem d_13_24 : decode (mC 13) 24 = .ok (.iload_n 2, 1) := by decide +kernel
theorem d_13_25 : decode (mC 13) 25 = .ok (.ireturn, 1) := by decide +kernel
theorem d_14_0 : decode (mC 14) 0 = .ok (.aload_n 2, 1) := by decide +kernel
theorem d_14_1 : decode (mC 14) 1 = .ok (.iconst 0, 1) := by decide +kernel
theorem d_14_2 : decode (mC 14) 2 = .ok (.aload_n 0, 1) := by decide +kernel
theorem d_14_3 : decode (mC 14) 3 = .ok (.iload_n 1, 1) := by decide +kernel
theorem d_14_4 : decode (mC 14) 4 = .ok (.invokevirtual 21, 3) := by decide +kernel
theorem d_14_7 : decode (mC 14) 7 = .ok (.i2l, 1) := by decide +kernel
theorem d_14_8 : decode (mC 14) 8 = .ok (.lastore, 1) := by decide +kernel
theorem d_14_9 : decode (mC 14) 9 = .ok (.goto 6, 3) := by decide +kernel
theorem d_14_12 : decode (mC 14) 12 = .ok (.astore_n 3, 1) := by decide +kernel
theorem d_14_13 : decode (mC 14) 13 = .ok (.iconst 1, 1) := by decide +kernel
theorem d_14_14 : decode (mC 14) 14 = .ok (.ireturn, 1) := by decide +kernel
theorem d_14_15 : decode (mC 14) 15 = .ok (.iconst 0, 1) := by decide +kernel
theorem d_14_16 : decode (mC 14) 16 = .ok (.ireturn, 1) := by decide +kernel
theorem d_15_0 : decode (mC 15) 0 = .ok (.iload_n 1, 1) := by decide +kernel
theorem d_15_1 : decode (mC 15) 1 = .ok (.iconst 1, 1) := by decide +kernel
theorem d_15_2 : decode (mC 15) 2 = .ok (.sipush 200, 3) := by decide +kernel
theorem d_15_5 : decode (mC 15) 5 = .ok (.invokestatic 46, 3) := by decide +kernel
theorem d_15_8 : decode (mC 15) 8 = .ok (.invokestatic 50, 3) := by decide +kernel
theorem d_15_11 : decode (mC 15) 11 = .ok (.aload_n 0, 1) := by decide +kernel
theorem d_15_12 : decode (mC 15) 12 = .ok (.getfield 54, 3) := by decide +kernel
theorem d_15_15 : decode (mC 15) 15 = .ok (.istore_n 2, 1) := by decide +kernel
theorem d_15_16 : decode (mC 15) 16 = .ok (.iconst 0, 1) := by decide +kernel
theorem d_15_17 : decode (mC 15) 17 = .ok (.istore_n 3, 1) := by decide +kernel
theorem d_15_18 : decode (mC 15) 18 = .ok (.iload_n 3, 1) := by decide +kernel
theorem d_15_19 : decode (mC 15) 19 = .ok (.iload_n 1, 1) := by decide +kernel
theorem d_15_20 : decode (mC 15) 20 = .ok (.if_icmp .ge 13, 3) := by decide +kernel
theorem d_15_23 : decode (mC 15) 23 = .ok (.aload_n 0, 1) := by decide +kernel
theorem d_15_24 : decode (mC 15) 24 = .ok (.invokevirtual 57, 3) := by decide +kernel
theorem d_15_27 : decode (mC 15) 27 = .ok (.iinc 3 1, 3) := by decide +kernel
theorem d_15_30 : decode (mC 15) 30 = .ok (.goto (-12), 3) := by decide +kernel
theorem d_15_33 : decode (mC 15) 33 = .ok (.aload_n 0, 1) := by decide +kernel
theorem d_15_34 : decode (mC 15) 34 = .ok (.getfield 54, 3) := by decide +kernel
theorem d_15_37 : decode (mC 15) 37 = .ok (.iload_n 2, 1) := by decide +kernel
theorem d_15_38 : decode (mC 15) 38 = .ok (.isub, 1) := by decide +kernel
theorem d_15_39 : decode (mC 15) 39 = .ok (.ireturn, 1) := by decide +kernel
theorem d_16_0 : decode (mC 16) 0 = .ok (.iload_n 0, 1) := by decide +kernel
theorem d_16_1 : decode (mC 16) 1 = .ok (.ifCond .ne 13, 3) := by decide +kernel
theorem d_16_4 : decode (mC 16) 4 = .ok (.new 175, 3) := by decide +kernel
theorem d_16_7 : decode (mC 16) 7 = .ok (.dup, 1) := by decide +kernel
theorem d_16_8 : decode (mC 16) 8 = .ok (.ldc 177, 2) := by decide +kernel
theorem d_16_10 : decode (mC 16) 10 = .ok (.invokespecial 179, 3) := by decide +kernel
theorem d_16_13 : decode (mC 16) 13 = .ok (.athrow, 1) := by decide +kernel
theorem d_16_14 : decode (mC 16) 14 = .ok (.return_, 1) := by decide +kernel
theorem d_17_0 : decode (mC 17) 0 = .ok (.iconst 0, 1) := by decide +kernel
theorem d_17_1 : decode (mC 17) 1 = .ok (.istore_n 1, 1) := by decide +kernel
theorem d_17_2 : decode (mC 17) 2 = .ok (.iconst 0, 1) := by decide +kernel
theorem d_17_3 : decode (mC 17) 3 = .ok (.istore_n 2, 1) := by decide +kernel
theorem d_17_4 : decode (mC 17) 4 = .ok (.ldc2_w 18, 3) := by decide +kernel
theorem d_17_7 : decode (mC 17) 7 = .ok (.lstore_n 3, 1) := by decide +kernel
theorem d_17_8 : decode (mC 17) 8 = .ok (.iconst 0, 1) := by decide +kernel
theorem d_17_9 : decode (mC 17) 9 = .ok (.istore 5, 2) := by decide +kernel
theorem d_17_11 : decode (mC 17) 11 = .ok (.iload 5, 2) := by decide +kernel
theorem d_17_13 : decode (mC 17) 13 = .ok (.iconst 4, 1) := by decide +kernel
theorem d_17_14 : decode (mC 17) 14 = .ok (.if_icmp .ge 39, 3) := by decide +kernel
theorem d_17_17 : decode (mC 17) 17 = .ok (.aload_n 0, 1) := by decide +kernel
theorem d_17_18 : decode (mC 17) 18 = .ok (.getfield 11, 3) := by decide +kernel
theorem d_17_21 : decode (mC 17) 21 = .ok (.iload 5, 2) := by decide +kernel
theorem d_17_23 : decode (mC 17) 23 = .ok (.aaload, 1) := by decide +kernel
theorem d_17_24 : decode (mC 17) 24 = .ok (.invokevirtual 184, 3) := by decide +kernel
theorem d_17_27 : decode (mC 17) 27 = .ok (.lstore 6, 2) := by decide +kernel
theorem d_17_29 : decode (mC 17) 29 = .ok (.lload 6, 2) := by decide +kernel
theorem d_17_31 : decode (mC 17) 31 = .ok (.ldc2_w 18, 3) := by decide +kernel
theorem d_17_34 : decode (mC 17) 34 = .ok (.lcmp, 1) := by decide +kernel
theorem d_17_35 : decode (mC 17) 35 = .ok (.ifCond .eq 12, 3) := by decide +kernel
theorem d_17_38 : decode (mC 17) 38 = .ok (.iinc 1 1, 3) := by decide +kernel
theorem d_17_41 : decode (mC 17) 41 = .ok (.iload 5, 2) := by decide +kernel
theorem d_17_43 : decode (mC 17) 43 = .ok (.istore_n 2, 1) := by decide +kernel
theorem d_17_44 : decode (mC 17) 44 = .ok (.lload 6, 2) := by decide +kernel
theorem d_17_46 : decode (mC 17) 46 = .ok (.lstore_n 3, 1) := by decide +kernel
theorem d_17_47 : decode (mC 17) 47 = .ok (.iinc 5 1, 3) := by decide +kernel
theorem d_17_50 : decode (mC 17) 50 = .ok (.goto (-39), 3) := by decide +kernel
theorem d_17_53 : decode (mC 17) 53 = .ok (.aload_n 0, 1) := by decide +kernel
theorem d_17_54 : decode (mC 17) 54 = .ok (.dup, 1) := by decide +kernel
theorem d_17_55 : decode (mC 17) 55 = .ok (.getfield 54, 3) := by decide +kernel
theorem d_17_58 : decode (mC 17) 58 = .ok (.iload_n 1, 1) := by decide +kernel
theorem d_17_59 : decode (mC 17) 59 = .ok (.iadd, 1) := by decide +kernel
theorem d_17_60 : decode (mC 17) 60 = .ok (.putfield 54, 3) := by decide +kernel
theorem d_17_63 : decode (mC 17) 63 = .ok (.iload_n 1, 1) := by decide +kernel
theorem d_17_64 : decode (mC 17) 64 = .ok (.iconst 1, 1) := by decide +kernel
theorem d_17_65 : decode (mC 17) 65 = .ok (.if_icmp .ne 9, 3) := by decide +kernel
theorem d_17_68 : decode (mC 17) 68 = .ok (.aload_n 0, 1) := by decide +kernel
theorem d_17_69 : decode (mC 17) 69 = .ok (.iload_n 2, 1) := by decide +kernel
theorem d_17_70 : decode (mC 17) 70 = .ok (.lload_n 3, 1) := by decide +kernel
theorem d_17_71 : decode (mC 17) 71 = .ok (.invokevirtual 187, 3) := by decide +kernel
theorem d_17_74 : decode (mC 17) 74 = .ok (.return_, 1) := by decide +kernel
theorem d_18_0 : decode (mC 18) 0 = .ok (.aload_n 0, 1) := by decide +kernel
theorem d_18_1 : decode (mC 18) 1 = .ok (.invokevirtual 59, 3) := by decide +kernel
theorem d_18_4 : decode (mC 18) 4 = .ok (.ifCond .ne 7, 3) := by decide +kernel
theorem d_18_7 : decode (mC 18) 7 = .ok (.ldc2_w 76, 3) := by decide +kernel
theorem d_18_10 : decode (mC 18) 10 = .ok (.lreturn, 1) := by decide +kernel
theorem d_18_11 : decode (mC 18) 11 = .ok (.aload_n 0, 1) := by decide +kernel
theorem d_18_12 : decode (mC 18) 12 = .ok (.dup, 1) := by decide +kernel
theorem d_18_13 : decode (mC 18) 13 = .ok (.getfield 63, 3) := by decide +kernel
theorem d_18_16 : decode (mC 18) 16 = .ok (.sipush 1000, 3) := by decide +kernel
theorem d_18_19 : decode (mC 18) 19 = .ok (.aload_n 0, 1) := by decide +kernel
theorem d_18_20 : decode (mC 18) 20 = .ok (.getfield 15, 3) := by decide +kernel
theorem d_18_23 : decode (mC 18) 23 = .ok (.isub, 1) := by decide +kernel
theorem d_18_24 : decode (mC 18) 24 = .ok (.iadd, 1) := by decide +kernel
theorem d_18_25 : decode (mC 18) 25 = .ok (.putfield 63, 3) := by decide +kernel
theorem d_18_28 : decode (mC 18) 28 = .ok (.aload_n 0, 1) := by decide +kernel
theorem d_18_29 : decode (mC 18) 29 = .ok (.getfield 63, 3) := by decide +kernel
theorem d_18_32 : decode (mC 18) 32 = .ok (.sipush 1000, 3) := by decide +kernel
theorem d_18_35 : decode (mC 18) 35 = .ok (.if_icmp .ge 7, 3) := by decide +kernel
theorem d_18_38 : decode (mC 18) 38 = .ok (.ldc2_w 76, 3) := by decide +kernel
theorem d_18_41 : decode (mC 18) 41 = .ok (.lreturn, 1) := by decide +kernel
theorem d_18_42 : decode (mC 18) 42 = .ok (.aload_n 0, 1) := by decide +kernel
theorem d_18_43 : decode (mC 18) 43 = .ok (.dup, 1) := by decide +kernel
theorem d_18_44 : decode (mC 18) 44 = .ok (.getfield 63, 3) := by decide +kernel
theorem d_18_47 : decode (mC 18) 47 = .ok (.sipush 1000, 3) := by decide +kernel
theorem d_18_50 : decode (mC 18) 50 = .ok (.isub, 1) := by decide +kernel
theorem d_18_51 : decode (mC 18) 51 = .ok (.putfield 63, 3) := by decide +kernel
theorem d_18_54 : decode (mC 18) 54 = .ok (.aload_n 0, 1) := by decide +kernel
theorem d_18_55 : decode (mC 18) 55 = .ok (.getfield 56, 3) := by decide +kernel
theorem d_18_58 : decode (mC 18) 58 = .ok (.iconst 1, 1) := by decide +kernel
theorem d_18_59 : decode (mC 18) 59 = .ok (.if_icmp .ne 11, 3) := by decide +kernel
theorem d_18_62 : decode (mC 18) 62 = .ok (.aload_n 0, 1) := by decide +kernel
theorem d_18_63 : decode (mC 18) 63 = .ok (.invokevirtual 78, 3) := by decide +kernel
theorem d_18_66 : decode (mC 18) 66 = .ok (.ldc2_w 76, 3) := by decide +kernel
theorem d_18_69 : decode (mC 18) 69 = .ok (.lreturn, 1) := by decide +kernel
theorem d_18_70 : decode (mC 18) 70 = .ok (.aload_n 0, 1) := by decide +kernel
theorem d_18_71 : decode (mC 18) 71 = .ok (.invokevirtual 81, 3) := by decide +kernel
theorem d_18_74 : decode (mC 18) 74 = .ok (.aload_n 0, 1) := by decide +kernel
theorem d_18_75 : decode (mC 18) 75 = .ok (.invokevirtual 84, 3) := by decide +kernel
theorem d_18_78 : decode (mC 18) 78 = .ok (.lreturn, 1) := by decide +kernel
theorem d_19_0 : decode (mC 19) 0 = .ok (.aload_n 0, 1) := by decide +kernel
theorem d_19_1 : decode (mC 19) 1 = .ok (.getfield 28, 3) := by decide +kernel
theorem d_19_4 : decode (mC 19) 4 = .ok (.invokevirtual 127, 3) := by decide +kernel
theorem d_19_7 : decode (mC 19) 7 = .ok (.aload_n 0, 1) := by decide +kernel
theorem d_19_8 : decode (mC 19) 8 = .ok (.invokevirtual 130, 3) := by decide +kernel
theorem d_19_11 : decode (mC 19) 11 = .ok (.ifCond .eq 40, 3) := by decide +kernel
theorem d_19_14 : decode (mC 19) 14 = .ok (.aload_n 0, 1) := by decide +kernel
theorem d_19_15 : decode (mC 19) 15 = .ok (.getfield 28, 3) := by decide +kernel
theorem d_19_18 : decode (mC 19) 18 = .ok (.getfield 88, 3) := by decide +kernel
theorem d_19_21 : decode (mC 19) 21 = .ok (.sipush 160, 3) := by decide +kernel
theorem d_19_24 : decode (mC 19) 24 = .ok (.bipush 20, 2) := by decide +kernel
theorem d_19_26 : decode (mC 19) 26 = .ok (.aload_n 0, 1) := by decide +kernel
theorem d_19_27 : decode (mC 19) 27 = .ok (.getfield 9, 3) := by decide +kernel
theorem d_19_30 : decode (mC 19) 30 = .ok (.imul, 1) := by decide +kernel
theorem d_19_31 : decode (mC 19) 31 = .ok (.iadd, 1) := by decide +kernel
theorem d_19_32 : decode (mC 19) 32 = .ok (.if_icmp .ne 19, 3) := by decide +kernel
theorem d_19_35 : decode (mC 19) 35 = .ok (.aload_n 0, 1) := by decide +kernel
theorem d_19_36 : decode (mC 19) 36 = .ok (.getfield 21, 3) := by decide +kernel
theorem d_19_39 : decode (mC 19) 39 = .ok (.iconst 0, 1) := by decide +kernel
theorem d_19_40 : decode (mC 19) 40 = .ok (.iconst 0, 1) := by decide +kernel
theorem d_19_41 : decode (mC 19) 41 = .ok (.iconst 0, 1) := by decide +kernel
theorem d_19_42 : decode (mC 19) 42 = .ok (.invokevirtual 133, 3) := by decide +kernel
theorem d_19_45 : decode (mC 19) 45 = .ok (.aload_n 0, 1) := by decide +kernel
theorem d_19_46 : decode (mC 19) 46 = .ok (.iconst 2, 1) := by decide +kernel
theorem d_19_47 : decode (mC 19) 47 = .ok (.iconst 0, 1) := by decide +kernel
theorem d_19_48 : decode (mC 19) 48 = .ok (.invokevirtual 136, 3) := by decide +kernel
theorem d_19_51 : decode (mC 19) 51 = .ok (.return_, 1) := by decide +kernel
theorem d_20_0 : decode (mC 20) 0 = .ok (.aload_n 0, 1) := by decide +kernel
theorem d_20_1 : decode (mC 20) 1 = .ok (.dup, 1) := by decide +kernel
theorem d_20_2 : decode (mC 20) 2 = .ok (.getfield 7, 3) := by decide +kernel
theorem d_20_5 : decode (mC 20) 5 = .ok (.iconst 1, 1) := by decide +kernel
theorem d_20_6 : decode (mC 20) 6 = .ok (.iadd, 1) := by decide +kernel
theorem d_20_7 : decode (mC 20) 7 = .ok (.putfield 7, 3) := by decide +kernel
theorem d_20_10 : decode (mC 20) 10 = .ok (.aload_n 0, 1) := by decide +kernel
theorem d_20_11 : decode (mC 20) 11 = .ok (.dup, 1) := by decide +kernel
theorem d_20_12 : decode (mC 20) 12 = .ok (.getfield 13, 3) := by decide +kernel
theorem d_20_15 : decode (mC 20) 15 = .ok (.iconst 1, 1) := by decide +kernel
theorem d_20_16 : decode (mC 20) 16 = .ok (.iadd, 1) := by decide +kernel
theorem d_20_17 : decode (mC 20) 17 = .ok (.putfield 13, 3) := by decide +kernel
theorem d_20_20 : decode (mC 20) 20 = .ok (.return_, 1) := by decide +kernel
theorem d_21_0 : decode (mC 21) 0 = .ok (.aload_n 0, 1) := by decide +kernel
theorem d_21_1 : decode (mC 21) 1 = .ok (.getfield 9, 3) := by decide +kernel
theorem d_21_4 : decode (mC 21) 4 = .ok (.iconst 2, 1) := by decide +kernel
theorem d_21_5 : decode (mC 21) 5 = .ok (.if_icmp .ge 7, 3) := by decide +kernel
theorem d_21_8 : decode (mC 21) 8 = .ok (.iconst 1, 1) := by decide +kernel
theorem d_21_9 : decode (mC 21) 9 = .ok (.goto 4, 3) := by decide +kernel
theorem d_21_12 : decode (mC 21) 12 = .ok (.iconst 0, 1) := by decide +kernel
theorem d_21_13 : decode (mC 21) 13 = .ok (.ireturn, 1) := by decide +kernel
theorem d_22_0 : decode (mC 22) 0 = .ok (.aload_n 0, 1) := by decide +kernel
theorem d_22_1 : decode (mC 22) 1 = .ok (.iload_n 1, 1) := by decide +kernel
theorem d_22_2 : decode (mC 22) 2 = .ok (.putfield 7, 3) := by decide +kernel
theorem d_22_5 : decode (mC 22) 5 = .ok (.aload_n 0, 1) := by decide +kernel
theorem d_22_6 : decode (mC 22) 6 = .ok (.iload_n 2, 1) := by decide +kernel
theorem d_22_7 : decode (mC 22) 7 = .ok (.putfield 13, 3) := by decide +kernel
theorem d_22_10 : decode (mC 22) 10 = .ok (.aload_n 0, 1) := by decide +kernel
theorem d_22_11 : decode (mC 22) 11 = .ok (.iload_n 3, 1) := by decide +kernel
theorem d_22_12 : decode (mC 22) 12 = .ok (.iconst 4, 1) := by decide +kernel
theorem d_22_13 : decode (mC 22) 13 = .ok (.invokestatic 16, 3) := by decide +kernel
theorem d_22_16 : decode (mC 22) 16 = .ok (.putfield 22, 3) := by decide +kernel
theorem d_22_19 : decode (mC 22) 19 = .ok (.aload_n 0, 1) := by decide +kernel
theorem d_22_20 : decode (mC 22) 20 = .ok (.aload_n 0, 1) := by decide +kernel
theorem d_22_21 : decode (mC 22) 21 = .ok (.getfield 22, 3) := by decide +kernel
theorem d_22_24 : decode (mC 22) 24 = .ok (.putfield 25, 3) := by decide +kernel
theorem d_22_27 : decode (mC 22) 27 = .ok (.aload_n 0, 1) := by decide +kernel
theorem d_22_28 : decode (mC 22) 28 = .ok (.iconst 0, 1) := by decide +kernel
theorem d_22_29 : decode (mC 22) 29 = .ok (.putfield 28, 3) := by decide +kernel
theorem d_22_32 : decode (mC 22) 32 = .ok (.return_, 1) := by decide +kernel
theorem d_23_0 : decode (mC 23) 0 = .ok (.iload_n 0, 1) := by decide +kernel
theorem d_23_1 : decode (mC 23) 1 = .ok (.iload_n 1, 1) := by decide +kernel
theorem d_23_2 : decode (mC 23) 2 = .ok (.if_icmp .le 7, 3) := by decide +kernel
theorem d_23_5 : decode (mC 23) 5 = .ok (.iload_n 1, 1) := by decide +kernel
theorem d_23_6 : decode (mC 23) 6 = .ok (.goto 4, 3) := by decide +kernel
theorem d_23_9 : decode (mC 23) 9 = .ok (.iload_n 0, 1) := by decide +kernel
theorem d_23_10 : decode (mC 23) 10 = .ok (.istore_n 2, 1) := by decide +kernel
theorem d_23_11 : decode (mC 23) 11 = .ok (.iload_n 2, 1) := by decide +kernel
theorem d_23_12 : decode (mC 23) 12 = .ok (.iload_n 1, 1) := by decide +kernel
theorem d_23_13 : decode (mC 23) 13 = .ok (.ineg, 1) := by decide +kernel
theorem d_23_14 : decode (mC 23) 14 = .ok (.if_icmp .ge 8, 3) := by decide +kernel
theorem d_23_17 : decode (mC 23) 17 = .ok (.iload_n 1, 1) := by decide +kernel
theorem d_23_18 : decode (mC 23) 18 = .ok (.ineg, 1) := by decide +kernel
theorem d_23_19 : decode (mC 23) 19 = .ok (.goto 4, 3) := by decide +kernel
theorem d_23_22 : decode (mC 23) 22 = .ok (.iload_n 2, 1) := by decide +kernel
theorem d_23_23 : decode (mC 23) 23 = .ok (.ireturn, 1) := by decide +kernel
theorem d_24_0 : decode (mC 24) 0 = .ok (.aload_n 0, 1) := by decide +kernel
theorem d_24_1 : decode (mC 24) 1 = .ok (.iload_n 1, 1) := by decide +kernel
theorem d_24_2 : decode (mC 24) 2 = .ok (.putfield 56, 3) := by decide +kernel
theorem d_24_5 : decode (mC 24) 5 = .ok (.aload_n 0, 1) := by decide +kernel
theorem d_24_6 : decode (mC 24) 6 = .ok (.iload_n 2, 1) := by decide +kernel
theorem d_24_7 : decode (mC 24) 7 = .ok (.putfield 118, 3) := by decide +kernel
theorem d_24_10 : decode (mC 24) 10 = .ok (.aload_n 0, 1) := by decide +kernel
theorem d_24_11 : decode (mC 24) 11 = .ok (.iconst 0, 1) := by decide +kernel
theorem d_24_12 : decode (mC 24) 12 = .ok (.putfield 121, 3) := by decide +kernel
theorem d_24_15 : decode (mC 24) 15 = .ok (.aload_n 0, 1) := by decide +kernel
theorem d_24_16 : decode (mC 24) 16 = .ok (.iconst 0, 1) := by decide +kernel
theorem d_24_17 : decode (mC 24) 17 = .ok (.putfield 124, 3) := by decide +kernel
theorem d_24_20 : decode (mC 24) 20 = .ok (.aload_n 0, 1) := by decide +kernel
theorem d_24_21 : decode (mC 24) 21 = .ok (.getfield 35, 3) := by decide +kernel
theorem d_24_24 : decode (mC 24) 24 = .ok (.invokevirtual 115, 3) := by decide +kernel
theorem d_24_27 : decode (mC 24) 27 = .ok (.return_, 1) := by decide +kernel
theorem d_25_0 : decode (mC 25) 0 = .ok (.aload_n 0, 1) := by decide +kernel
theorem d_25_1 : decode (mC 25) 1 = .ok (.getfield 21, 3) := by decide +kernel
theorem d_25_4 : decode (mC 25) 4 = .ok (.invokevirtual 139, 3) := by decide +kernel
theorem d_25_7 : decode (mC 25) 7 = .ok (.istore_n 1, 1) := by decide +kernel
theorem d_25_8 : decode (mC 25) 8 = .ok (.iload_n 1, 1) := by decide +kernel
theorem d_25_9 : decode (mC 25) 9 = .ok (.ifCond .eq 10, 3) := by decide +kernel
theorem d_25_12 : decode (mC 25) 12 = .ok (.aload_n 0, 1) := by decide +kernel
theorem d_25_13 : decode (mC 25) 13 = .ok (.getfield 35, 3) := by decide +kernel
theorem d_25_16 : decode (mC 25) 16 = .ok (.invokevirtual 115, 3) := by decide +kernel
theorem d_25_19 : decode (mC 25) 19 = .ok (.aload_n 0, 1) := by decide +kernel
theorem d_25_20 : decode (mC 25) 20 = .ok (.invokevirtual 141, 3) := by decide +kernel
theorem d_25_23 : decode (mC 25) 23 = .ok (.ifCond .eq 22, 3) := by decide +kernel
theorem d_25_26 : decode (mC 25) 26 = .ok (.aload_n 0, 1) := by decide +kernel
theorem d_25_27 : decode (mC 25) 27 = .ok (.getfield 21, 3) := by decide +kernel
theorem d_25_30 : decode (mC 25) 30 = .ok (.getfield 144, 3) := by decide +kernel
theorem d_25_33 : decode (mC 25) 33 = .ok (.bipush 40, 2) := by decide +kernel
theorem d_25_35 : decode (mC 25) 35 = .ok (.isub, 1) := by decide +kernel
theorem d_25_36 : decode (mC 25) 36 = .ok (.iconst 4, 1) := by decide +kernel
theorem d_25_37 : decode (mC 25) 37 = .ok (.irem, 1) := by decide +kernel
theorem d_25_38 : decode (mC 25) 38 = .ok (.ifCond .ne 7, 3) := by decide +kernel
theorem d_25_41 : decode (mC 25) 41 = .ok (.aload_n 0, 1) := by decide +kernel
theorem d_25_42 : decode (mC 25) 42 = .ok (.invokevirtual 147, 3) := by decide +kernel
theorem d_25_45 : decode (mC 25) 45 = .ok (.aload_n 0, 1) := by decide +kernel
theorem d_25_46 : decode (mC 25) 46 = .ok (.getfield 21, 3) := by decide +kernel
theorem d_25_49 : decode (mC 25) 49 = .ok (.getfield 144, 3) := by decide +kernel
theorem d_25_52 : decode (mC 25) 52 = .ok (.bipush 60, 2) := by decide +kernel
theorem d_25_54 : decode (mC 25) 54 = .ok (.if_icmp .ne 17, 3) := by decide +kernel
theorem d_25_57 : decode (mC 25) 57 = .ok (.aload_n 0, 1) := by decide +kernel
theorem d_25_58 : decode (mC 25) 58 = .ok (.getfield 21, 3) := by decide +kernel
theorem d_25_61 : decode (mC 25) 61 = .ok (.invokevirtual 150, 3) := by decide +kernel
theorem d_25_64 : decode (mC 25) 64 = .ok (.ifCond .eq 7, 3) := by decide +kernel
theorem d_25_67 : decode (mC 25) 67 = .ok (.aload_n 0, 1) := by decide +kernel
theorem d_25_68 : decode (mC 25) 68 = .ok (.invokevirtual 153, 3) := by decide +kernel
theorem d_25_71 : decode (mC 25) 71 = .ok (.return_, 1) := by decide +kernel
theorem d_26_0 : decode (mC 26) 0 = .ok (.aload_n 0, 1) := by decide +kernel
theorem d_26_1 : decode (mC 26) 1 = .ok (.dup, 1) := by decide +kernel
theorem d_26_2 : decode (mC 26) 2 = .ok (.getfield 7, 3) := by decide +kernel
theorem d_26_5 : decode (mC 26) 5 = .ok (.iconst 1, 1) := by decide +kernel
theorem d_26_6 : decode (mC 26) 6 = .ok (.iadd, 1) := by decide +kernel
theorem d_26_7 : decode (mC 26) 7 = .ok (.putfield 7, 3) := by decide +kernel
theorem d_26_10 : decode (mC 26) 10 = .ok (.aload_n 0, 1) := by decide +kernel
theorem d_26_11 : decode (mC 26) 11 = .ok (.getfield 7, 3) := by decide +kernel
theorem d_26_14 : decode (mC 26) 14 = .ok (.aload_n 0, 1) := by decide +kernel
theorem d_26_15 : decode (mC 26) 15 = .ok (.invokevirtual 31, 3) := by decide +kernel
theorem d_26_18 : decode (mC 26) 18 = .ok (.if_icmp .ge 5, 3) := by decide +kernel
theorem d_26_21 : decode (mC 26) 21 = .ok (.iconst 0, 1) := by decide +kernel
theorem d_26_22 : decode (mC 26) 22 = .ok (.ireturn, 1) := by decide +kernel
theorem d_26_23 : decode (mC 26) 23 = .ok (.aload_n 0, 1) := by decide +kernel
theorem d_26_24 : decode (mC 26) 24 = .ok (.invokevirtual 35, 3) := by decide +kernel
theorem d_26_27 : decode (mC 26) 27 = .ok (.istore_n 1, 1) := by decide +kernel
theorem d_26_28 : decode (mC 26) 28 = .ok (.iload_n 1, 1) := by decide +kernel
theorem d_26_29 : decode (mC 26) 29 = .ok (.ifCond .eq 11, 3) := by decide +kernel
theorem d_26_32 : decode (mC 26) 32 = .ok (.aload_n 0, 1) := by decide +kernel
theorem d_26_33 : decode (mC 26) 33 = .ok (.aload_n 0, 1) := by decide +kernel
theorem d_26_34 : decode (mC 26) 34 = .ok (.getfield 25, 3) := by decide +kernel
theorem d_26_37 : decode (mC 26) 37 = .ok (.putfield 22, 3) := by decide +kernel
theorem d_26_40 : decode (mC 26) 40 = .ok (.aload_n 0, 1) := by decide +kernel
theorem d_26_41 : decode (mC 26) 41 = .ok (.iconst 0, 1) := by decide +kernel
theorem d_26_42 : decode (mC 26) 42 = .ok (.putfield 7, 3) := by decide +kernel
theorem d_26_45 : decode (mC 26) 45 = .ok (.aload_n 0, 1) := by decide +kernel
theorem d_26_46 : decode (mC 26) 46 = .ok (.aload_n 0, 1) := by decide +kernel
theorem d_26_47 : decode (mC 26) 47 = .ok (.getfield 13, 3) := by decide +kernel
theorem d_26_50 : decode (mC 26) 50 = .ok (.iconst 1, 1) := by decide +kernel
theorem d_26_51 : decode (mC 26) 51 = .ok (.iadd, 1) := by decide +kernel
theorem d_26_52 : decode (mC 26) 52 = .ok (.bipush 64, 2) := by decide +kernel
theorem d_26_54 : decode (mC 26) 54 = .ok (.irem, 1) := by decide +kernel
theorem d_26_55 : decode (mC 26) 55 = .ok (.putfield 13, 3) := by decide +kernel
theorem d_26_58 : decode (mC 26) 58 = .ok (.iload_n 1, 1) := by decide +kernel
theorem d_26_59 : decode (mC 26) 59 = .ok (.ireturn, 1) := by decide +kernel
theorem d_27_0 : decode (mC 27) 0 = .ok (.bipush 80, 2) := by decide +kernel
theorem d_27_2 : decode (mC 27) 2 = .ok (.aload_n 0, 1) := by decide +kernel
theorem d_27_3 : decode (mC 27) 3 = .ok (.getfield 22, 3) := by decide +kernel
theorem d_27_6 : decode (mC 27) 6 = .ok (.iadd, 1) := by decide +kernel
theorem d_27_7 : decode (mC 27) 7 = .ok (.aload_n 0, 1) := by decide +kernel
theorem d_27_8 : decode (mC 27) 8 = .ok (.invokevirtual 35, 3) := by decide +kernel
theorem d_27_11 : decode (mC 27) 11 = .ok (.ifCond .eq 10, 3) := by decide +kernel
theorem d_27_14 : decode (mC 27) 14 = .ok (.aload_n 0, 1) := by decide +kernel
theorem d_27_15 : decode (mC 27) 15 = .ok (.getfield 28, 3) := by decide +kernel
theorem d_27_18 : decode (mC 27) 18 = .ok (.goto 4, 3) := by decide +kernel
theorem d_27_21 : decode (mC 27) 21 = .ok (.iconst 0, 1) := by decide +kernel
theorem d_27_22 : decode (mC 27) 22 = .ok (.iadd, 1) := by decide +kernel
theorem d_27_23 : decode (mC 27) 23 = .ok (.ireturn, 1) := by decide +kernel
theorem d_28_0 : decode (mC 28) 0 = .ok (.aload_n 0, 1) := by decide +kernel
theorem d_28_1 : decode (mC 28) 1 = .ok (.getfield 13, 3) := by decide +kernel
theorem d_28_4 : decode (mC 28) 4 = .ok (.iconst 2, 1) := by decide +kernel
theorem d_28_5 : decode (mC 28) 5 = .ok (.irem, 1) := by decide +kernel
theorem d_28_6 : decode (mC 28) 6 = .ok (.iconst 1, 1) := by decide +kernel
theorem d_28_7 : decode (mC 28) 7 = .ok (.if_icmp .ne 7, 3) := by decide +kernel
theorem d_28_10 : decode (mC 28) 10 = .ok (.iconst 1, 1) := by decide +kernel
theorem d_28_11 : decode (mC 28) 11 = .ok (.goto 4, 3) := by decide +kernel
theorem d_28_14 : decode (mC 28) 14 = .ok (.iconst 0, 1) := by decide +kernel
theorem d_28_15 : decode (mC 28) 15 = .ok (.ireturn, 1) := by decide +kernel
theorem d_29_0 : decode (mC 29) 0 = .ok (.aload_n 0, 1) := by decide +kernel
theorem d_29_1 : decode (mC 29) 1 = .ok (.getfield 21, 3) := by decide +kernel
theorem d_29_4 : decode (mC 29) 4 = .ok (.getfield 144, 3) := by decide +kernel
theorem d_29_7 : decode (mC 29) 7 = .ok (.bipush 40, 2) := by decide +kernel
theorem d_29_9 : decode (mC 29) 9 = .ok (.bipush 59, 2) := by decide +kernel
theorem d_29_11 : decode (mC 29) 11 = .ok (.invokestatic 156, 3) := by decide +kernel
theorem d_29_14 : decode (mC 29) 14 = .ok (.ireturn, 1) := by decide +kernel
theorem d_30_0 : decode (mC 30) 0 = .ok (.aload_n 0, 1) := by decide +kernel
theorem d_30_1 : decode (mC 30) 1 = .ok (.getfield 21, 3) := by decide +kernel
theorem d_30_4 : decode (mC 30) 4 = .ok (.getfield 144, 3) := by decide +kernel
theorem d_30_7 : decode (mC 30) 7 = .ok (.bipush 40, 2) := by decide +kernel
theorem d_30_9 : decode (mC 30) 9 = .ok (.if_icmp .ne 11, 3) := by decide +kernel
theorem d_30_12 : decode (mC 30) 12 = .ok (.aload_n 0, 1) := by decide +kernel
theorem d_30_13 : decode (mC 30) 13 = .ok (.iconst 5, 1) := by decide +kernel
theorem d_30_14 : decode (mC 30) 14 = .ok (.putfield 121, 3) := by decide +kernel
theorem d_30_17 : decode (mC 30) 17 = .ok (.goto 20, 3) := by decide +kernel
theorem d_30_20 : decode (mC 30) 20 = .ok (.aload_n 0, 1) := by decide +kernel
theorem d_30_21 : decode (mC 30) 21 = .ok (.getfield 124, 3) := by decide +kernel
theorem d_30_24 : decode (mC 30) 24 = .ok (.ifCond .ne 13, 3) := by decide +kernel
theorem d_30_27 : decode (mC 30) 27 = .ok (.aload_n 0, 1) := by decide +kernel
theorem d_30_28 : decode (mC 30) 28 = .ok (.dup, 1) := by decide +kernel
theorem d_30_29 : decode (mC 30) 29 = .ok (.getfield 121, 3) := by decide +kernel
theorem d_30_32 : decode (mC 30) 32 = .ok (.iconst 1, 1) := by decide +kernel
theorem d_30_33 : decode (mC 30) 33 = .ok (.iadd, 1) := by decide +kernel
theorem d_30_34 : decode (mC 30) 34 = .ok (.putfield 121, 3) := by decide +kernel
theorem d_30_37 : decode (mC 30) 37 = .ok (.aload_n 0, 1) := by decide +kernel
theorem d_30_38 : decode (mC 30) 38 = .ok (.iconst 0, 1) := by decide +kernel
theorem d_30_39 : decode (mC 30) 39 = .ok (.putfield 124, 3) := by decide +kernel
theorem d_30_42 : decode (mC 30) 42 = .ok (.return_, 1) := by decide +kernel
theorem d_31_0 : decode (mC 31) 0 = .ok (.aload_n 0, 1) := by decide +kernel
theorem d_31_1 : decode (mC 31) 1 = .ok (.getfield 21, 3) := by decide +kernel
theorem d_31_4 : decode (mC 31) 4 = .ok (.aload_n 0, 1) := by decide +kernel
theorem d_31_5 : decode (mC 31) 5 = .ok (.getfield 35, 3) := by decide +kernel
theorem d_31_8 : decode (mC 31) 8 = .ok (.invokevirtual 200, 3) := by decide +kernel
theorem d_31_11 : decode (mC 31) 11 = .ok (.aload_n 0, 1) := by decide +kernel
theorem d_31_12 : decode (mC 31) 12 = .ok (.getfield 35, 3) := by decide +kernel
theorem d_31_15 : decode (mC 31) 15 = .ok (.invokevirtual 204, 3) := by decide +kernel
theorem d_31_18 : decode (mC 31) 18 = .ok (.invokevirtual 207, 3) := by decide +kernel
theorem d_31_21 : decode (mC 31) 21 = .ok (.aload_n 0, 1) := by decide +kernel
theorem d_31_22 : decode (mC 31) 22 = .ok (.getfield 35, 3) := by decide +kernel
theorem d_31_25 : decode (mC 31) 25 = .ok (.invokevirtual 210, 3) := by decide +kernel
theorem d_31_28 : decode (mC 31) 28 = .ok (.istore_n 1, 1) := by decide +kernel
theorem d_31_29 : decode (mC 31) 29 = .ok (.aload_n 0, 1) := by decide +kernel
theorem d_31_30 : decode (mC 31) 30 = .ok (.getfield 56, 3) := by decide +kernel
theorem d_31_33 : decode (mC 31) 33 = .ok (.iconst 2, 1) := by decide +kernel
theorem d_31_34 : decode (mC 31) 34 = .ok (.if_icmp .ne 11, 3) := by decide +kernel
theorem d_31_37 : decode (mC 31) 37 = .ok (.aload_n 0, 1) := by decide +kernel
theorem d_31_38 : decode (mC 31) 38 = .ok (.iload_n 1, 1) := by decide +kernel
theorem d_31_39 : decode (mC 31) 39 = .ok (.invokevirtual 213, 3) := by decide +kernel
theorem d_31_42 : decode (mC 31) 42 = .ok (.goto 35, 3) := by decide +kernel
theorem d_31_45 : decode (mC 31) 45 = .ok (.aload_n 0, 1) := by decide +kernel
theorem d_31_46 : decode (mC 31) 46 = .ok (.getfield 56, 3) := by decide +kernel
theorem d_31_49 : decode (mC 31) 49 = .ok (.iconst 3, 1) := by decide +kernel
theorem d_31_50 : decode (mC 31) 50 = .ok (.if_icmp .ne 11, 3) := by decide +kernel
theorem d_31_53 : decode (mC 31) 53 = .ok (.aload_n 0, 1) := by decide +kernel
theorem d_31_54 : decode (mC 31) 54 = .ok (.iload_n 1, 1) := by decide +kernel
theorem d_31_55 : decode (mC 31) 55 = .ok (.invokevirtual 217, 3) := by decide +kernel
theorem d_31_58 : decode (mC 31) 58 = .ok (.goto 19, 3) := by decide +kernel
theorem d_31_61 : decode (mC 31) 61 = .ok (.iload_n 1, 1) := by decide +kernel
theorem d_31_62 : decode (mC 31) 62 = .ok (.ifCond .le 11, 3) := by decide +kernel
theorem d_31_65 : decode (mC 31) 65 = .ok (.aload_n 0, 1) := by decide +kernel
theorem d_31_66 : decode (mC 31) 66 = .ok (.iconst 4, 1) := by decide +kernel
theorem d_31_67 : decode (mC 31) 67 = .ok (.putfield 56, 3) := by decide +kernel
theorem d_31_70 : decode (mC 31) 70 = .ok (.goto 7, 3) := by decide +kernel
theorem d_31_73 : decode (mC 31) 73 = .ok (.aload_n 0, 1) := by decide +kernel
theorem d_31_74 : decode (mC 31) 74 = .ok (.invokevirtual 220, 3) := by decide +kernel
theorem d_31_77 : decode (mC 31) 77 = .ok (.return_, 1) := by decide +kernel
theorem d_32_0 : decode (mC 32) 0 = .ok (.aload_n 0, 1) := by decide +kernel
theorem d_32_1 : decode (mC 32) 1 = .ok (.getfield 27, 3) := by decide +kernel
theorem d_32_4 : decode (mC 32) 4 = .ok (.invokevirtual 39, 3) := by decide +kernel
theorem d_32_7 : decode (mC 32) 7 = .ok (.iconst 0, 1) := by decide +kernel
theorem d_32_8 : decode (mC 32) 8 = .ok (.istore_n 1, 1) := by decide +kernel
theorem d_32_9 : decode (mC 32) 9 = .ok (.iload_n 1, 1) := by decide +kernel
theorem d_32_10 : decode (mC 32) 10 = .ok (.iconst 4, 1) := by decide +kernel
theorem d_32_11 : decode (mC 32) 11 = .ok (.if_icmp .ge 37, 3) := by decide +kernel
theorem d_32_14 : decode (mC 32) 14 = .ok (.aload_n 0, 1) := by decide +kernel
theorem d_32_15 : decode (mC 32) 15 = .ok (.iload_n 1, 1) := by decide +kernel
theorem d_32_16 : decode (mC 32) 16 = .ok (.invokevirtual 35, 3) := by decide +kernel
theorem d_32_19 : decode (mC 32) 19 = .ok (.ifCond .eq 23, 3) := by decide +kernel
theorem d_32_22 : decode (mC 32) 22 = .ok (.aload_n 0, 1) := by decide +kernel
theorem d_32_23 : decode (mC 32) 23 = .ok (.getfield 27, 3) := by decide +kernel
theorem d_32_26 : decode (mC 32) 26 = .ok (.aload_n 0, 1) := by decide +kernel
theorem d_32_27 : decode (mC 32) 27 = .ok (.getfield 15, 3) := by decide +kernel
theorem d_32_30 : decode (mC 32) 30 = .ok (.iload_n 1, 1) := by decide +kernel
theorem d_32_31 : decode (mC 32) 31 = .ok (.iaload, 1) := by decide +kernel
theorem d_32_32 : decode (mC 32) 32 = .ok (.aload_n 0, 1) := by decide +kernel
theorem d_32_33 : decode (mC 32) 33 = .ok (.getfield 9, 3) := by decide +kernel
theorem d_32_36 : decode (mC 32) 36 = .ok (.iload_n 1, 1) := by decide +kernel
theorem d_32_37 : decode (mC 32) 37 = .ok (.iaload, 1) := by decide +kernel
theorem d_32_38 : decode (mC 32) 38 = .ok (.isub, 1) := by decide +kernel
theorem d_32_39 : decode (mC 32) 39 = .ok (.invokevirtual 42, 3) := by decide +kernel
theorem d_32_42 : decode (mC 32) 42 = .ok (.iinc 1 1, 3) := by decide +kernel
theorem d_32_45 : decode (mC 32) 45 = .ok (.goto (-36), 3) := by decide +kernel
theorem d_32_48 : decode (mC 32) 48 = .ok (.aload_n 0, 1) := by decide +kernel
theorem d_32_49 : decode (mC 32) 49 = .ok (.getfield 27, 3) := by decide +kernel
theorem d_32_52 : decode (mC 32) 52 = .ok (.invokevirtual 46, 3) := by decide +kernel
theorem d_32_55 : decode (mC 32) 55 = .ok (.ireturn, 1) := by decide +kernel
theorem d_33_0 : decode (mC 33) 0 = .ok (.aload_n 0, 1) := by decide +kernel
theorem d_33_1 : decode (mC 33) 1 = .ok (.getfield 9, 3) := by decide +kernel
theorem d_33_4 : decode (mC 33) 4 = .ok (.iconst 0, 1) := by decide +kernel
theorem d_33_5 : decode (mC 33) 5 = .ok (.iconst 0, 1) := by decide +kernel
theorem d_33_6 : decode (mC 33) 6 = .ok (.iastore, 1) := by decide +kernel
theorem d_33_7 : decode (mC 33) 7 = .ok (.aload_n 0, 1) := by decide +kernel
theorem d_33_8 : decode (mC 33) 8 = .ok (.iconst 1, 1) := by decide +kernel
theorem d_33_9 : decode (mC 33) 9 = .ok (.putfield 15, 3) := by decide +kernel
theorem d_33_12 : decode (mC 33) 12 = .ok (.return_, 1) := by decide +kernel
theorem d_34_0 : decode (mC 34) 0 = .ok (.aload_n 0, 1) := by decide +kernel
theorem d_34_1 : decode (mC 34) 1 = .ok (.getfield 9, 3) := by decide +kernel
theorem d_34_4 : decode (mC 34) 4 = .ok (.iload_n 1, 1) := by decide +kernel
theorem d_34_5 : decode (mC 34) 5 = .ok (.iaload, 1) := by decide +kernel
theorem d_34_6 : decode (mC 34) 6 = .ok (.sipush 1000, 3) := by decide +kernel
theorem d_34_9 : decode (mC 34) 9 = .ok (.if_icmp .eq 19, 3) := by decide +kernel
theorem d_34_12 : decode (mC 34) 12 = .ok (.aload_n 0, 1) := by decide +kernel
theorem d_34_13 : decode (mC 34) 13 = .ok (.getfield 15, 3) := by decide +kernel
theorem d_34_16 : decode (mC 34) 16 = .ok (.iload_n 1, 1) := by decide +kernel
theorem d_34_17 : decode (mC 34) 17 = .ok (.iaload, 1) := by decide +kernel
theorem d_34_18 : decode (mC 34) 18 = .ok (.sipush 1000, 3) := by decide +kernel
theorem d_34_21 : decode (mC 34) 21 = .ok (.if_icmp .eq 7, 3) := by decide +kernel
theorem d_34_24 : decode (mC 34) 24 = .ok (.iconst 1, 1) := by decide +kernel
theorem d_34_25 : decode (mC 34) 25 = .ok (.goto 4, 3) := by decide +kernel
theorem d_34_28 : decode (mC 34) 28 = .ok (.iconst 0, 1) := by decide +kernel
theorem d_34_29 : decode (mC 34) 29 = .ok (.ireturn, 1) := by decide +kernel
theorem d_35_0 : decode (mC 35) 0 = .ok (.aload_n 0, 1) := by decide +kernel
theorem d_35_1 : decode (mC 35) 1 = .ok (.getfield 15, 3) := by decide +kernel
theorem d_35_4 : decode (mC 35) 4 = .ok (.aload_n 0, 1) := by decide +kernel
theorem d_35_5 : decode (mC 35) 5 = .ok (.getfield 9, 3) := by decide +kernel
theorem d_35_8 : decode (mC 35) 8 = .ok (.arraylength, 1) := by decide +kernel
theorem d_35_9 : decode (mC 35) 9 = .ok (.if_icmp .lt 4, 3) := by decide +kernel
theorem d_35_12 : decode (mC 35) 12 = .ok (.return_, 1) := by decide +kernel
theorem d_35_13 : decode (mC 35) 13 = .ok (.aload_n 0, 1) := by decide +kernel
theorem d_35_14 : decode (mC 35) 14 = .ok (.getfield 15, 3) := by decide +kernel
theorem d_35_17 : decode (mC 35) 17 = .ok (.istore_n 2, 1) := by decide +kernel
theorem d_35_18 : decode (mC 35) 18 = .ok (.iload_n 2, 1) := by decide +kernel
theorem d_35_19 : decode (mC 35) 19 = .ok (.ifCond .le 35, 3) := by decide +kernel
theorem d_35_22 : decode (mC 35) 22 = .ok (.aload_n 0, 1) := by decide +kernel
theorem d_35_23 : decode (mC 35) 23 = .ok (.getfield 9, 3) := by decide +kernel
theorem d_35_26 : decode (mC 35) 26 = .ok (.iload_n 2, 1) := by decide +kernel
theorem d_35_27 : decode (mC 35) 27 = .ok (.iconst 1, 1) := by decide +kernel
theorem d_35_28 : decode (mC 35) 28 = .ok (.isub, 1) := by decide +kernel
theorem d_35_29 : decode (mC 35) 29 = .ok (.iaload, 1) := by decide +kernel
theorem d_35_30 : decode (mC 35) 30 = .ok (.iload_n 1, 1) := by decide +kernel
theorem d_35_31 : decode (mC 35) 31 = .ok (.if_icmp .le 23, 3) := by decide +kernel
theorem d_35_34 : decode (mC 35) 34 = .ok (.aload_n 0, 1) := by decide +kernel
theorem d_35_35 : decode (mC 35) 35 = .ok (.getfield 9, 3) := by decide +kernel
theorem d_35_38 : decode (mC 35) 38 = .ok (.iload_n 2, 1) := by decide +kernel
theorem d_35_39 : decode (mC 35) 39 = .ok (.aload_n 0, 1) := by decide +kernel
theorem d_35_40 : decode (mC 35) 40 = .ok (.getfield 9, 3) := by decide +kernel
theorem d_35_43 : decode (mC 35) 43 = .ok (.iload_n 2, 1) := by decide +kernel
theorem d_35_44 : decode (mC 35) 44 = .ok (.iconst 1, 1) := by decide +kernel
theorem d_35_45 : decode (mC 35) 45 = .ok (.isub, 1) := by decide +kernel
theorem d_35_46 : decode (mC 35) 46 = .ok (.iaload, 1) := by decide +kernel
theorem d_35_47 : decode (mC 35) 47 = .ok (.iastore, 1) := by decide +kernel
theorem d_35_48 : decode (mC 35) 48 = .ok (.iinc 2 (-1), 3) := by decide +kernel
theorem d_35_51 : decode (mC 35) 51 = .ok (.goto (-33), 3) := by decide +kernel
theorem d_35_54 : decode (mC 35) 54 = .ok (.aload_n 0, 1) := by decide +kernel
theorem d_35_55 : decode (mC 35) 55 = .ok (.getfield 9, 3) := by decide +kernel
theorem d_35_58 : decode (mC 35) 58 = .ok (.iload_n 2, 1) := by decide +kernel
theorem d_35_59 : decode (mC 35) 59 = .ok (.iload_n 1, 1) := by decide +kernel
theorem d_35_60 : decode (mC 35) 60 = .ok (.iastore, 1) := by decide +kernel
theorem d_35_61 : decode (mC 35) 61 = .ok (.aload_n 0, 1) := by decide +kernel
theorem d_35_62 : decode (mC 35) 62 = .ok (.dup, 1) := by decide +kernel
theorem d_35_63 : decode (mC 35) 63 = .ok (.getfield 15, 3) := by decide +kernel
theorem d_35_66 : decode (mC 35) 66 = .ok (.iconst 1, 1) := by decide +kernel
theorem d_35_67 : decode (mC 35) 67 = .ok (.iadd, 1) := by decide +kernel
theorem d_35_68 : decode (mC 35) 68 = .ok (.putfield 15, 3) := by decide +kernel
theorem d_35_71 : decode (mC 35) 71 = .ok (.return_, 1) := by decide +kernel
theorem d_36_0 : decode (mC 36) 0 = .ok (.aload_n 0, 1) := by decide +kernel
theorem d_36_1 : decode (mC 36) 1 = .ok (.getfield 15, 3) := by decide +kernel
theorem d_36_4 : decode (mC 36) 4 = .ok (.iconst 3, 1) := by decide +kernel
theorem d_36_5 : decode (mC 36) 5 = .ok (.if_icmp .lt 7, 3) := by decide +kernel
theorem d_36_8 : decode (mC 36) 8 = .ok (.iconst 1, 1) := by decide +kernel
theorem d_36_9 : decode (mC 36) 9 = .ok (.goto 4, 3) := by decide +kernel
theorem d_36_12 : decode (mC 36) 12 = .ok (.iconst 0, 1) := by decide +kernel
theorem d_36_13 : decode (mC 36) 13 = .ok (.istore_n 1, 1) := by decide +kernel
theorem d_36_14 : decode (mC 36) 14 = .ok (.aload_n 0, 1) := by decide +kernel
theorem d_36_15 : decode (mC 36) 15 = .ok (.getfield 9, 3) := by decide +kernel
theorem d_36_18 : decode (mC 36) 18 = .ok (.iload_n 1, 1) := by decide +kernel
theorem d_36_19 : decode (mC 36) 19 = .ok (.iaload, 1) := by decide +kernel
theorem d_36_20 : decode (mC 36) 20 = .ok (.aload_n 0, 1) := by decide +kernel
theorem d_36_21 : decode (mC 36) 21 = .ok (.getfield 9, 3) := by decide +kernel
theorem d_36_24 : decode (mC 36) 24 = .ok (.aload_n 0, 1) := by decide +kernel
theorem d_36_25 : decode (mC 36) 25 = .ok (.getfield 15, 3) := by decide +kernel
theorem d_36_28 : decode (mC 36) 28 = .ok (.iconst 1, 1) := by decide +kernel
theorem d_36_29 : decode (mC 36) 29 = .ok (.isub, 1) := by decide +kernel
theorem d_36_30 : decode (mC 36) 30 = .ok (.iload_n 1, 1) := by decide +kernel
theorem d_36_31 : decode (mC 36) 31 = .ok (.isub, 1) := by decide +kernel
theorem d_36_32 : decode (mC 36) 32 = .ok (.iaload, 1) := by decide +kernel
theorem d_36_33 : decode (mC 36) 33 = .ok (.iadd, 1) := by decide +kernel
theorem d_36_34 : decode (mC 36) 34 = .ok (.iconst 2, 1) := by decide +kernel
theorem d_36_35 : decode (mC 36) 35 = .ok (.idiv, 1) := by decide +kernel
theorem d_36_36 : decode (mC 36) 36 = .ok (.ireturn, 1) := by decide +kernel
theorem d_37_0 : decode (mC 37) 0 = .ok (.aload_n 0, 1) := by decide +kernel
theorem d_37_1 : decode (mC 37) 1 = .ok (.getfield 27, 3) := by decide +kernel
theorem d_37_4 : decode (mC 37) 4 = .ok (.invokevirtual 39, 3) := by decide +kernel
theorem d_37_7 : decode (mC 37) 7 = .ok (.iconst 0, 1) := by decide +kernel
theorem d_37_8 : decode (mC 37) 8 = .ok (.istore_n 1, 1) := by decide +kernel
theorem d_37_9 : decode (mC 37) 9 = .ok (.iload_n 1, 1) := by decide +kernel
theorem d_37_10 : decode (mC 37) 10 = .ok (.iconst 4, 1) := by decide +kernel
theorem d_37_11 : decode (mC 37) 11 = .ok (.if_icmp .ge 34, 3) := by decide +kernel
theorem d_37_14 : decode (mC 37) 14 = .ok (.aload_n 0, 1) := by decide +kernel
theorem d_37_15 : decode (mC 37) 15 = .ok (.getfield 15, 3) := by decide +kernel
theorem d_37_18 : decode (mC 37) 18 = .ok (.iload_n 1, 1) := by decide +kernel
theorem d_37_19 : decode (mC 37) 19 = .ok (.iaload, 1) := by decide +kernel
theorem d_37_20 : decode (mC 37) 20 = .ok (.sipush 1000, 3) := by decide +kernel
theorem d_37_23 : decode (mC 37) 23 = .ok (.if_icmp .eq 16, 3) := by decide +kernel
theorem d_37_26 : decode (mC 37) 26 = .ok (.aload_n 0, 1) := by decide +kernel
theorem d_37_27 : decode (mC 37) 27 = .ok (.getfield 27, 3) := by decide +kernel
theorem d_37_30 : decode (mC 37) 30 = .ok (.aload_n 0, 1) := by decide +kernel
theorem d_37_31 : decode (mC 37) 31 = .ok (.getfield 15, 3) := by decide +kernel
theorem d_37_34 : decode (mC 37) 34 = .ok (.iload_n 1, 1) := by decide +kernel
theorem d_37_35 : decode (mC 37) 35 = .ok (.iaload, 1) := by decide +kernel
theorem d_37_36 : decode (mC 37) 36 = .ok (.invokevirtual 42, 3) := by decide +kernel
theorem d_37_39 : decode (mC 37) 39 = .ok (.iinc 1 1, 3) := by decide +kernel
theorem d_37_42 : decode (mC 37) 42 = .ok (.goto (-33), 3) := by decide +kernel
theorem d_37_45 : decode (mC 37) 45 = .ok (.aload_n 0, 1) := by decide +kernel
theorem d_37_46 : decode (mC 37) 46 = .ok (.getfield 27, 3) := by decide +kernel
theorem d_37_49 : decode (mC 37) 49 = .ok (.invokevirtual 46, 3) := by decide +kernel
theorem d_37_52 : decode (mC 37) 52 = .ok (.ireturn, 1) := by decide +kernel
theorem d_38_0 : decode (mC 38) 0 = .ok (.aload_n 0, 1) := by decide +kernel
