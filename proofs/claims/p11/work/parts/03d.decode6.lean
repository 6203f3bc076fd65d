theorem d_123_9 : decode (mC 123) 9 = .ok (.iload_n 1, 1) := by decide +kernel
theorem d_123_10 : decode (mC 123) 10 = .ok (.sipush 1000, 3) := by decide +kernel
theorem d_123_13 : decode (mC 123) 13 = .ok (.aload_n 0, 1) := by decide +kernel
theorem d_123_14 : decode (mC 123) 14 = .ok (.getfield 190, 3) := by decide +kernel
theorem d_123_17 : decode (mC 123) 17 = .ok (.isub, 1) := by decide +kernel
theorem d_123_18 : decode (mC 123) 18 = .ok (.if_icmp .le 9, 3) := by decide +kernel
theorem d_123_21 : decode (mC 123) 21 = .ok (.aload_n 0, 1) := by decide +kernel
theorem d_123_22 : decode (mC 123) 22 = .ok (.iconst 1, 1) := by decide +kernel
theorem d_123_23 : decode (mC 123) 23 = .ok (.invokevirtual 201, 3) := by decide +kernel
theorem d_123_26 : decode (mC 123) 26 = .ok (.ireturn, 1) := by decide +kernel
theorem d_123_27 : decode (mC 123) 27 = .ok (.aload_n 0, 1) := by decide +kernel
theorem d_123_28 : decode (mC 123) 28 = .ok (.aload_n 0, 1) := by decide +kernel
theorem d_123_29 : decode (mC 123) 29 = .ok (.getfield 190, 3) := by decide +kernel
theorem d_123_32 : decode (mC 123) 32 = .ok (.iload_n 1, 1) := by decide +kernel
theorem d_123_33 : decode (mC 123) 33 = .ok (.iadd, 1) := by decide +kernel
theorem d_123_34 : decode (mC 123) 34 = .ok (.putfield 190, 3) := by decide +kernel
theorem d_123_37 : decode (mC 123) 37 = .ok (.aload_n 0, 1) := by decide +kernel
theorem d_123_38 : decode (mC 123) 38 = .ok (.getfield 190, 3) := by decide +kernel
theorem d_123_41 : decode (mC 123) 41 = .ok (.ireturn, 1) := by decide +kernel
theorem d_124_0 : decode (mC 124) 0 = .ok (.aload_n 0, 1) := by decide +kernel
theorem d_124_1 : decode (mC 124) 1 = .ok (.iconst 0, 1) := by decide +kernel
theorem d_124_2 : decode (mC 124) 2 = .ok (.putfield 81, 3) := by decide +kernel
theorem d_124_5 : decode (mC 124) 5 = .ok (.iload_n 1, 1) := by decide +kernel
theorem d_124_6 : decode (mC 124) 6 = .ok (.iconst 4, 1) := by decide +kernel
theorem d_124_7 : decode (mC 124) 7 = .ok (.invokestatic 197, 3) := by decide +kernel
theorem d_124_10 : decode (mC 124) 10 = .ok (.ifCond .eq 11, 3) := by decide +kernel
theorem d_124_13 : decode (mC 124) 13 = .ok (.aload_n 0, 1) := by decide +kernel
theorem d_124_14 : decode (mC 124) 14 = .ok (.iconst 1, 1) := by decide +kernel
theorem d_124_15 : decode (mC 124) 15 = .ok (.invokevirtual 201, 3) := by decide +kernel
theorem d_124_18 : decode (mC 124) 18 = .ok (.goto 9, 3) := by decide +kernel
theorem d_124_21 : decode (mC 124) 21 = .ok (.aload_n 0, 1) := by decide +kernel
theorem d_124_22 : decode (mC 124) 22 = .ok (.getfield 13, 3) := by decide +kernel
theorem d_124_25 : decode (mC 124) 25 = .ok (.iload_n 1, 1) := by decide +kernel
theorem d_124_26 : decode (mC 124) 26 = .ok (.iaload, 1) := by decide +kernel
theorem d_124_27 : decode (mC 124) 27 = .ok (.ireturn, 1) := by decide +kernel
theorem d_125_0 : decode (mC 125) 0 = .ok (.aload_n 0, 1) := by decide +kernel
theorem d_125_1 : decode (mC 125) 1 = .ok (.iconst 0, 1) := by decide +kernel
theorem d_125_2 : decode (mC 125) 2 = .ok (.putfield 81, 3) := by decide +kernel
theorem d_125_5 : decode (mC 125) 5 = .ok (.iload_n 1, 1) := by decide +kernel
theorem d_125_6 : decode (mC 125) 6 = .ok (.iconst 4, 1) := by decide +kernel
theorem d_125_7 : decode (mC 125) 7 = .ok (.invokestatic 197, 3) := by decide +kernel
theorem d_125_10 : decode (mC 125) 10 = .ok (.ifCond .ne 12, 3) := by decide +kernel
theorem d_125_13 : decode (mC 125) 13 = .ok (.iload_n 2, 1) := by decide +kernel
theorem d_125_14 : decode (mC 125) 14 = .ok (.bipush 6, 2) := by decide +kernel
theorem d_125_16 : decode (mC 125) 16 = .ok (.invokestatic 197, 3) := by decide +kernel
theorem d_125_19 : decode (mC 125) 19 = .ok (.ifCond .eq 9, 3) := by decide +kernel
theorem d_125_22 : decode (mC 125) 22 = .ok (.aload_n 0, 1) := by decide +kernel
theorem d_125_23 : decode (mC 125) 23 = .ok (.iconst 1, 1) := by decide +kernel
theorem d_125_24 : decode (mC 125) 24 = .ok (.invokevirtual 201, 3) := by decide +kernel
theorem d_125_27 : decode (mC 125) 27 = .ok (.ireturn, 1) := by decide +kernel
theorem d_125_28 : decode (mC 125) 28 = .ok (.aload_n 0, 1) := by decide +kernel
theorem d_125_29 : decode (mC 125) 29 = .ok (.iload_n 1, 1) := by decide +kernel
theorem d_125_30 : decode (mC 125) 30 = .ok (.invokevirtual 171, 3) := by decide +kernel
theorem d_125_33 : decode (mC 125) 33 = .ok (.ifCond .eq 13, 3) := by decide +kernel
theorem d_125_36 : decode (mC 125) 36 = .ok (.aload_n 0, 1) := by decide +kernel
theorem d_125_37 : decode (mC 125) 37 = .ok (.getfield 13, 3) := by decide +kernel
theorem d_125_40 : decode (mC 125) 40 = .ok (.iload_n 1, 1) := by decide +kernel
theorem d_125_41 : decode (mC 125) 41 = .ok (.iaload, 1) := by decide +kernel
theorem d_125_42 : decode (mC 125) 42 = .ok (.iconst 1, 1) := by decide +kernel
theorem d_125_43 : decode (mC 125) 43 = .ok (.if_icmp .ne 9, 3) := by decide +kernel
theorem d_125_46 : decode (mC 125) 46 = .ok (.aload_n 0, 1) := by decide +kernel
theorem d_125_47 : decode (mC 125) 47 = .ok (.iconst 2, 1) := by decide +kernel
theorem d_125_48 : decode (mC 125) 48 = .ok (.invokevirtual 201, 3) := by decide +kernel
theorem d_125_51 : decode (mC 125) 51 = .ok (.ireturn, 1) := by decide +kernel
theorem d_125_52 : decode (mC 125) 52 = .ok (.iload_n 2, 1) := by decide +kernel
theorem d_125_53 : decode (mC 125) 53 = .ok (.tableswitch 70 0 4 #[35, 42, 49, 56, 63], 35) := by decide +kernel
theorem d_125_88 : decode (mC 125) 88 = .ok (.aload_n 0, 1) := by decide +kernel
theorem d_125_89 : decode (mC 125) 89 = .ok (.getfield 28, 3) := by decide +kernel
theorem d_125_92 : decode (mC 125) 92 = .ok (.iload_n 1, 1) := by decide +kernel
theorem d_125_93 : decode (mC 125) 93 = .ok (.iaload, 1) := by decide +kernel
theorem d_125_94 : decode (mC 125) 94 = .ok (.ireturn, 1) := by decide +kernel
theorem d_125_95 : decode (mC 125) 95 = .ok (.aload_n 0, 1) := by decide +kernel
theorem d_125_96 : decode (mC 125) 96 = .ok (.getfield 31, 3) := by decide +kernel
theorem d_125_99 : decode (mC 125) 99 = .ok (.iload_n 1, 1) := by decide +kernel
theorem d_125_100 : decode (mC 125) 100 = .ok (.iaload, 1) := by decide +kernel
theorem d_125_101 : decode (mC 125) 101 = .ok (.ireturn, 1) := by decide +kernel
theorem d_125_102 : decode (mC 125) 102 = .ok (.aload_n 0, 1) := by decide +kernel
theorem d_125_103 : decode (mC 125) 103 = .ok (.getfield 34, 3) := by decide +kernel
theorem d_125_106 : decode (mC 125) 106 = .ok (.iload_n 1, 1) := by decide +kernel
theorem d_125_107 : decode (mC 125) 107 = .ok (.iaload, 1) := by decide +kernel
theorem d_125_108 : decode (mC 125) 108 = .ok (.ireturn, 1) := by decide +kernel
theorem d_125_109 : decode (mC 125) 109 = .ok (.aload_n 0, 1) := by decide +kernel
theorem d_125_110 : decode (mC 125) 110 = .ok (.getfield 37, 3) := by decide +kernel
theorem d_125_113 : decode (mC 125) 113 = .ok (.iload_n 1, 1) := by decide +kernel
theorem d_125_114 : decode (mC 125) 114 = .ok (.iaload, 1) := by decide +kernel
theorem d_125_115 : decode (mC 125) 115 = .ok (.ireturn, 1) := by decide +kernel
theorem d_125_116 : decode (mC 125) 116 = .ok (.aload_n 0, 1) := by decide +kernel
theorem d_125_117 : decode (mC 125) 117 = .ok (.getfield 43, 3) := by decide +kernel
theorem d_125_120 : decode (mC 125) 120 = .ok (.iload_n 1, 1) := by decide +kernel
theorem d_125_121 : decode (mC 125) 121 = .ok (.iaload, 1) := by decide +kernel
theorem d_125_122 : decode (mC 125) 122 = .ok (.ireturn, 1) := by decide +kernel
theorem d_125_123 : decode (mC 125) 123 = .ok (.aload_n 0, 1) := by decide +kernel
theorem d_125_124 : decode (mC 125) 124 = .ok (.getfield 46, 3) := by decide +kernel
theorem d_125_127 : decode (mC 125) 127 = .ok (.iload_n 1, 1) := by decide +kernel
theorem d_125_128 : decode (mC 125) 128 = .ok (.iaload, 1) := by decide +kernel
theorem d_125_129 : decode (mC 125) 129 = .ok (.ireturn, 1) := by decide +kernel
theorem d_126_0 : decode (mC 126) 0 = .ok (.aload_n 0, 1) := by decide +kernel
theorem d_126_1 : decode (mC 126) 1 = .ok (.iconst 0, 1) := by decide +kernel
theorem d_126_2 : decode (mC 126) 2 = .ok (.putfield 81, 3) := by decide +kernel
theorem d_126_5 : decode (mC 126) 5 = .ok (.iload_n 1, 1) := by decide +kernel
theorem d_126_6 : decode (mC 126) 6 = .ok (.iconst 4, 1) := by decide +kernel
theorem d_126_7 : decode (mC 126) 7 = .ok (.invokestatic 197, 3) := by decide +kernel
theorem d_126_10 : decode (mC 126) 10 = .ok (.ifCond .ne 11, 3) := by decide +kernel
theorem d_126_13 : decode (mC 126) 13 = .ok (.iload_n 2, 1) := by decide +kernel
theorem d_126_14 : decode (mC 126) 14 = .ok (.iconst 4, 1) := by decide +kernel
theorem d_126_15 : decode (mC 126) 15 = .ok (.invokestatic 197, 3) := by decide +kernel
theorem d_126_18 : decode (mC 126) 18 = .ok (.ifCond .eq 9, 3) := by decide +kernel
theorem d_126_21 : decode (mC 126) 21 = .ok (.aload_n 0, 1) := by decide +kernel
theorem d_126_22 : decode (mC 126) 22 = .ok (.iconst 1, 1) := by decide +kernel
theorem d_126_23 : decode (mC 126) 23 = .ok (.invokevirtual 201, 3) := by decide +kernel
theorem d_126_26 : decode (mC 126) 26 = .ok (.ireturn, 1) := by decide +kernel
theorem d_126_27 : decode (mC 126) 27 = .ok (.aload_n 0, 1) := by decide +kernel
theorem d_126_28 : decode (mC 126) 28 = .ok (.getfield 53, 3) := by decide +kernel
theorem d_126_31 : decode (mC 126) 31 = .ok (.bipush 8, 2) := by decide +kernel
theorem d_126_33 : decode (mC 126) 33 = .ok (.iload_n 1, 1) := by decide +kernel
theorem d_126_34 : decode (mC 126) 34 = .ok (.imul, 1) := by decide +kernel
theorem d_126_35 : decode (mC 126) 35 = .ok (.iconst 2, 1) := by decide +kernel
theorem d_126_36 : decode (mC 126) 36 = .ok (.iload_n 2, 1) := by decide +kernel
theorem d_126_37 : decode (mC 126) 37 = .ok (.imul, 1) := by decide +kernel
theorem d_126_38 : decode (mC 126) 38 = .ok (.iadd, 1) := by decide +kernel
theorem d_126_39 : decode (mC 126) 39 = .ok (.iload_n 3, 1) := by decide +kernel
theorem d_126_40 : decode (mC 126) 40 = .ok (.ifCond .eq 7, 3) := by decide +kernel
theorem d_126_43 : decode (mC 126) 43 = .ok (.iconst 1, 1) := by decide +kernel
theorem d_126_44 : decode (mC 126) 44 = .ok (.goto 4, 3) := by decide +kernel
theorem d_126_47 : decode (mC 126) 47 = .ok (.iconst 0, 1) := by decide +kernel
theorem d_126_48 : decode (mC 126) 48 = .ok (.iadd, 1) := by decide +kernel
theorem d_126_49 : decode (mC 126) 49 = .ok (.iaload, 1) := by decide +kernel
theorem d_126_50 : decode (mC 126) 50 = .ok (.istore 4, 2) := by decide +kernel
theorem d_126_52 : decode (mC 126) 52 = .ok (.iload 4, 2) := by decide +kernel
theorem d_126_54 : decode (mC 126) 54 = .ok (.bipush 99, 2) := by decide +kernel
theorem d_126_56 : decode (mC 126) 56 = .ok (.if_icmp .ne 11, 3) := by decide +kernel
theorem d_126_59 : decode (mC 126) 59 = .ok (.aload_n 0, 1) := by decide +kernel
theorem d_126_60 : decode (mC 126) 60 = .ok (.iconst 2, 1) := by decide +kernel
theorem d_126_61 : decode (mC 126) 61 = .ok (.invokevirtual 201, 3) := by decide +kernel
theorem d_126_64 : decode (mC 126) 64 = .ok (.goto 5, 3) := by decide +kernel
theorem d_126_67 : decode (mC 126) 67 = .ok (.iload 4, 2) := by decide +kernel
theorem d_126_69 : decode (mC 126) 69 = .ok (.ireturn, 1) := by decide +kernel
theorem d_127_0 : decode (mC 127) 0 = .ok (.aload_n 0, 1) := by decide +kernel
theorem d_127_1 : decode (mC 127) 1 = .ok (.iconst 0, 1) := by decide +kernel
theorem d_127_2 : decode (mC 127) 2 = .ok (.putfield 81, 3) := by decide +kernel
theorem d_127_5 : decode (mC 127) 5 = .ok (.iload_n 1, 1) := by decide +kernel
theorem d_127_6 : decode (mC 127) 6 = .ok (.iconst 4, 1) := by decide +kernel
theorem d_127_7 : decode (mC 127) 7 = .ok (.invokestatic 197, 3) := by decide +kernel
theorem d_127_10 : decode (mC 127) 10 = .ok (.ifCond .ne 14, 3) := by decide +kernel
theorem d_127_13 : decode (mC 127) 13 = .ok (.iload_n 2, 1) := by decide +kernel
theorem d_127_14 : decode (mC 127) 14 = .ok (.iconst 1, 1) := by decide +kernel
theorem d_127_15 : decode (mC 127) 15 = .ok (.if_icmp .lt 9, 3) := by decide +kernel
theorem d_127_18 : decode (mC 127) 18 = .ok (.iload_n 2, 1) := by decide +kernel
theorem d_127_19 : decode (mC 127) 19 = .ok (.bipush 9, 2) := by decide +kernel
theorem d_127_21 : decode (mC 127) 21 = .ok (.if_icmp .le 9, 3) := by decide +kernel
theorem d_127_24 : decode (mC 127) 24 = .ok (.aload_n 0, 1) := by decide +kernel
theorem d_127_25 : decode (mC 127) 25 = .ok (.iconst 1, 1) := by decide +kernel
theorem d_127_26 : decode (mC 127) 26 = .ok (.invokevirtual 201, 3) := by decide +kernel
theorem d_127_29 : decode (mC 127) 29 = .ok (.ireturn, 1) := by decide +kernel
theorem d_127_30 : decode (mC 127) 30 = .ok (.aload_n 0, 1) := by decide +kernel
theorem d_127_31 : decode (mC 127) 31 = .ok (.getfield 56, 3) := by decide +kernel
theorem d_127_34 : decode (mC 127) 34 = .ok (.bipush 10, 2) := by decide +kernel
theorem d_127_36 : decode (mC 127) 36 = .ok (.iload_n 1, 1) := by decide +kernel
theorem d_127_37 : decode (mC 127) 37 = .ok (.imul, 1) := by decide +kernel
theorem d_127_38 : decode (mC 127) 38 = .ok (.iload_n 2, 1) := by decide +kernel
theorem d_127_39 : decode (mC 127) 39 = .ok (.iadd, 1) := by decide +kernel
theorem d_127_40 : decode (mC 127) 40 = .ok (.iaload, 1) := by decide +kernel
theorem d_127_41 : decode (mC 127) 41 = .ok (.ifCond .ne 11, 3) := by decide +kernel
theorem d_127_44 : decode (mC 127) 44 = .ok (.aload_n 0, 1) := by decide +kernel
theorem d_127_45 : decode (mC 127) 45 = .ok (.iconst 2, 1) := by decide +kernel
theorem d_127_46 : decode (mC 127) 46 = .ok (.invokevirtual 201, 3) := by decide +kernel
theorem d_127_49 : decode (mC 127) 49 = .ok (.goto 16, 3) := by decide +kernel
theorem d_127_52 : decode (mC 127) 52 = .ok (.aload_n 0, 1) := by decide +kernel
theorem d_127_53 : decode (mC 127) 53 = .ok (.getfield 56, 3) := by decide +kernel
theorem d_127_56 : decode (mC 127) 56 = .ok (.bipush 10, 2) := by decide +kernel
theorem d_127_58 : decode (mC 127) 58 = .ok (.iload_n 1, 1) := by decide +kernel
theorem d_127_59 : decode (mC 127) 59 = .ok (.imul, 1) := by decide +kernel
theorem d_127_60 : decode (mC 127) 60 = .ok (.iload_n 2, 1) := by decide +kernel
theorem d_127_61 : decode (mC 127) 61 = .ok (.iadd, 1) := by decide +kernel
theorem d_127_62 : decode (mC 127) 62 = .ok (.iaload, 1) := by decide +kernel
theorem d_127_63 : decode (mC 127) 63 = .ok (.iconst 1, 1) := by decide +kernel
theorem d_127_64 : decode (mC 127) 64 = .ok (.isub, 1) := by decide +kernel
theorem d_127_65 : decode (mC 127) 65 = .ok (.ireturn, 1) := by decide +kernel
theorem d_128_0 : decode (mC 128) 0 = .ok (.aload_n 0, 1) := by decide +kernel
theorem d_128_1 : decode (mC 128) 1 = .ok (.iconst 0, 1) := by decide +kernel
theorem d_128_2 : decode (mC 128) 2 = .ok (.putfield 81, 3) := by decide +kernel
theorem d_128_5 : decode (mC 128) 5 = .ok (.aload_n 0, 1) := by decide +kernel
theorem d_128_6 : decode (mC 128) 6 = .ok (.getfield 177, 3) := by decide +kernel
theorem d_128_9 : decode (mC 128) 9 = .ok (.ireturn, 1) := by decide +kernel
theorem d_129_0 : decode (mC 129) 0 = .ok (.aload_n 0, 1) := by decide +kernel
theorem d_129_1 : decode (mC 129) 1 = .ok (.aload_n 0, 1) := by decide +kernel
theorem d_129_2 : decode (mC 129) 2 = .ok (.getfield 186, 3) := by decide +kernel
theorem d_129_5 : decode (mC 129) 5 = .ok (.ifCond .eq 7, 3) := by decide +kernel
theorem d_129_8 : decode (mC 129) 8 = .ok (.iconst 0, 1) := by decide +kernel
theorem d_129_9 : decode (mC 129) 9 = .ok (.goto 4, 3) := by decide +kernel
theorem d_129_12 : decode (mC 129) 12 = .ok (.iconst 1, 1) := by decide +kernel
theorem d_129_13 : decode (mC 129) 13 = .ok (.putfield 81, 3) := by decide +kernel
theorem d_129_16 : decode (mC 129) 16 = .ok (.aload_n 0, 1) := by decide +kernel
theorem d_129_17 : decode (mC 129) 17 = .ok (.getfield 186, 3) := by decide +kernel
theorem d_129_20 : decode (mC 129) 20 = .ok (.ifCond .eq 10, 3) := by decide +kernel
theorem d_129_23 : decode (mC 129) 23 = .ok (.aload_n 0, 1) := by decide +kernel
theorem d_129_24 : decode (mC 129) 24 = .ok (.getfield 183, 3) := by decide +kernel
theorem d_129_27 : decode (mC 129) 27 = .ok (.goto 4, 3) := by decide +kernel
theorem d_129_30 : decode (mC 129) 30 = .ok (.lconst 0, 1) := by decide +kernel
theorem d_129_31 : decode (mC 129) 31 = .ok (.lreturn, 1) := by decide +kernel
theorem d_130_0 : decode (mC 130) 0 = .ok (.aload_n 0, 1) := by decide +kernel
theorem d_130_1 : decode (mC 130) 1 = .ok (.iconst 0, 1) := by decide +kernel
theorem d_130_2 : decode (mC 130) 2 = .ok (.putfield 81, 3) := by decide +kernel
theorem d_130_5 : decode (mC 130) 5 = .ok (.iload_n 1, 1) := by decide +kernel
theorem d_130_6 : decode (mC 130) 6 = .ok (.bipush 32, 2) := by decide +kernel
theorem d_130_8 : decode (mC 130) 8 = .ok (.invokestatic 197, 3) := by decide +kernel
theorem d_130_11 : decode (mC 130) 11 = .ok (.ifCond .ne 23, 3) := by decide +kernel
theorem d_130_14 : decode (mC 130) 14 = .ok (.iload_n 2, 1) := by decide +kernel
theorem d_130_15 : decode (mC 130) 15 = .ok (.bipush 64, 2) := by decide +kernel
theorem d_130_17 : decode (mC 130) 17 = .ok (.invokestatic 197, 3) := by decide +kernel
theorem d_130_20 : decode (mC 130) 20 = .ok (.ifCond .ne 14, 3) := by decide +kernel
theorem d_130_23 : decode (mC 130) 23 = .ok (.iload 4, 2) := by decide +kernel
theorem d_130_25 : decode (mC 130) 25 = .ok (.sipush 1024, 3) := by decide +kernel
theorem d_130_28 : decode (mC 130) 28 = .ok (.invokestatic 197, 3) := by decide +kernel
theorem d_130_31 : decode (mC 130) 31 = .ok (.ifCond .eq 10, 3) := by decide +kernel
theorem d_130_34 : decode (mC 130) 34 = .ok (.aload_n 0, 1) := by decide +kernel
theorem d_130_35 : decode (mC 130) 35 = .ok (.iconst 1, 1) := by decide +kernel
theorem d_130_36 : decode (mC 130) 36 = .ok (.invokevirtual 201, 3) := by decide +kernel
theorem d_130_39 : decode (mC 130) 39 = .ok (.i2l, 1) := by decide +kernel
theorem d_130_40 : decode (mC 130) 40 = .ok (.lreturn, 1) := by decide +kernel
theorem d_130_41 : decode (mC 130) 41 = .ok (.iload_n 1, 1) := by decide +kernel
theorem d_130_42 : decode (mC 130) 42 = .ok (.iload_n 2, 1) := by decide +kernel
theorem d_130_43 : decode (mC 130) 43 = .ok (.iload_n 3, 1) := by decide +kernel
theorem d_130_44 : decode (mC 130) 44 = .ok (.ifCond .eq 7, 3) := by decide +kernel
theorem d_130_47 : decode (mC 130) 47 = .ok (.iconst 1, 1) := by decide +kernel
theorem d_130_48 : decode (mC 130) 48 = .ok (.goto 4, 3) := by decide +kernel
theorem d_130_51 : decode (mC 130) 51 = .ok (.iconst 0, 1) := by decide +kernel
theorem d_130_52 : decode (mC 130) 52 = .ok (.iload 4, 2) := by decide +kernel
theorem d_130_54 : decode (mC 130) 54 = .ok (.invokestatic 131, 3) := by decide +kernel
theorem d_130_57 : decode (mC 130) 57 = .ok (.lreturn, 1) := by decide +kernel
theorem d_131_0 : decode (mC 131) 0 = .ok (.aload_n 0, 1) := by decide +kernel
theorem d_131_1 : decode (mC 131) 1 = .ok (.lload_n 1, 1) := by decide +kernel
theorem d_131_2 : decode (mC 131) 2 = .ok (.invokestatic 158, 3) := by decide +kernel
theorem d_131_5 : decode (mC 131) 5 = .ok (.putfield 81, 3) := by decide +kernel
theorem d_131_8 : decode (mC 131) 8 = .ok (.aload_n 0, 1) := by decide +kernel
theorem d_131_9 : decode (mC 131) 9 = .ok (.getfield 81, 3) := by decide +kernel
theorem d_131_12 : decode (mC 131) 12 = .ok (.ifCond .le 7, 3) := by decide +kernel
theorem d_131_15 : decode (mC 131) 15 = .ok (.iconst 0, 1) := by decide +kernel
theorem d_131_16 : decode (mC 131) 16 = .ok (.goto 39, 3) := by decide +kernel
theorem d_131_19 : decode (mC 131) 19 = .ok (.lload_n 1, 1) := by decide +kernel
theorem d_131_20 : decode (mC 131) 20 = .ok (.invokestatic 150, 3) := by decide +kernel
theorem d_131_23 : decode (mC 131) 23 = .ok (.bipush 32, 2) := by decide +kernel
theorem d_131_25 : decode (mC 131) 25 = .ok (.lload_n 1, 1) := by decide +kernel
theorem d_131_26 : decode (mC 131) 26 = .ok (.invokestatic 161, 3) := by decide +kernel
theorem d_131_29 : decode (mC 131) 29 = .ok (.imul, 1) := by decide +kernel
theorem d_131_30 : decode (mC 131) 30 = .ok (.iadd, 1) := by decide +kernel
theorem d_131_31 : decode (mC 131) 31 = .ok (.lload_n 1, 1) := by decide +kernel
theorem d_131_32 : decode (mC 131) 32 = .ok (.invokestatic 154, 3) := by decide +kernel
theorem d_131_35 : decode (mC 131) 35 = .ok (.ifCond .eq 9, 3) := by decide +kernel
theorem d_131_38 : decode (mC 131) 38 = .ok (.sipush 2048, 3) := by decide +kernel
theorem d_131_41 : decode (mC 131) 41 = .ok (.goto 4, 3) := by decide +kernel
theorem d_131_44 : decode (mC 131) 44 = .ok (.iconst 0, 1) := by decide +kernel
theorem d_131_45 : decode (mC 131) 45 = .ok (.iadd, 1) := by decide +kernel
theorem d_131_46 : decode (mC 131) 46 = .ok (.sipush 4096, 3) := by decide +kernel
theorem d_131_49 : decode (mC 131) 49 = .ok (.lload_n 1, 1) := by decide +kernel
theorem d_131_50 : decode (mC 131) 50 = .ok (.invokestatic 168, 3) := by decide +kernel
theorem d_131_53 : decode (mC 131) 53 = .ok (.imul, 1) := by decide +kernel
theorem d_131_54 : decode (mC 131) 54 = .ok (.iadd, 1) := by decide +kernel
theorem d_131_55 : decode (mC 131) 55 = .ok (.ireturn, 1) := by decide +kernel
theorem d_132_0 : decode (mC 132) 0 = .ok (.new 8, 3) := by decide +kernel
theorem d_132_3 : decode (mC 132) 3 = .ok (.dup, 1) := by decide +kernel
theorem d_132_4 : decode (mC 132) 4 = .ok (.aload_n 0, 1) := by decide +kernel
theorem d_132_5 : decode (mC 132) 5 = .ok (.iconst 0, 1) := by decide +kernel
theorem d_132_6 : decode (mC 132) 6 = .ok (.invokestatic 67, 3) := by decide +kernel
theorem d_132_9 : decode (mC 132) 9 = .ok (.invokespecial 73, 3) := by decide +kernel
theorem d_132_12 : decode (mC 132) 12 = .ok (.astore_n 1, 1) := by decide +kernel
theorem d_132_13 : decode (mC 132) 13 = .ok (.new 75, 3) := by decide +kernel
theorem d_132_16 : decode (mC 132) 16 = .ok (.dup, 1) := by decide +kernel
theorem d_132_17 : decode (mC 132) 17 = .ok (.aload_n 0, 1) := by decide +kernel
theorem d_132_18 : decode (mC 132) 18 = .ok (.iconst 0, 1) := by decide +kernel
theorem d_132_19 : decode (mC 132) 19 = .ok (.invokestatic 67, 3) := by decide +kernel
theorem d_132_22 : decode (mC 132) 22 = .ok (.invokespecial 77, 3) := by decide +kernel
theorem d_132_25 : decode (mC 132) 25 = .ok (.astore_n 2, 1) := by decide +kernel
theorem d_132_26 : decode (mC 132) 26 = .ok (.iconst 1, 1) := by decide +kernel
theorem d_132_27 : decode (mC 132) 27 = .ok (.newarray .long, 2) := by decide +kernel
theorem d_132_29 : decode (mC 132) 29 = .ok (.astore_n 3, 1) := by decide +kernel
theorem d_132_30 : decode (mC 132) 30 = .ok (.iconst 1, 1) := by decide +kernel
theorem d_132_31 : decode (mC 132) 31 = .ok (.istore 4, 2) := by decide +kernel
theorem d_132_33 : decode (mC 132) 33 = .ok (.iload 4, 2) := by decide +kernel
theorem d_132_35 : decode (mC 132) 35 = .ok (.aload_n 0, 1) := by decide +kernel
theorem d_132_36 : decode (mC 132) 36 = .ok (.arraylength, 1) := by decide +kernel
theorem d_132_37 : decode (mC 132) 37 = .ok (.bipush 6, 2) := by decide +kernel
theorem d_132_39 : decode (mC 132) 39 = .ok (.isub, 1) := by decide +kernel
theorem d_132_40 : decode (mC 132) 40 = .ok (.if_icmp .gt 739, 3) := by decide +kernel
theorem d_132_43 : decode (mC 132) 43 = .ok (.aload_n 0, 1) := by decide +kernel
theorem d_132_44 : decode (mC 132) 44 = .ok (.iload 4, 2) := by decide +kernel
theorem d_132_46 : decode (mC 132) 46 = .ok (.iaload, 1) := by decide +kernel
theorem d_132_47 : decode (mC 132) 47 = .ok (.bipush 15, 2) := by decide +kernel
theorem d_132_49 : decode (mC 132) 49 = .ok (.iand, 1) := by decide +kernel
theorem d_132_50 : decode (mC 132) 50 = .ok (.tableswitch 723 0 14 #[74, 99, 127, 155, 192, 265, 322, 350, 378, 418, 514, 554, 567, 583, 663], 74) := by decide +kernel
theorem d_132_124 : decode (mC 132) 124 = .ok (.aload_n 1, 1) := by decide +kernel
theorem d_132_125 : decode (mC 132) 125 = .ok (.aload_n 0, 1) := by decide +kernel
theorem d_132_126 : decode (mC 132) 126 = .ok (.iload 4, 2) := by decide +kernel
theorem d_132_128 : decode (mC 132) 128 = .ok (.iconst 1, 1) := by decide +kernel
theorem d_132_129 : decode (mC 132) 129 = .ok (.iadd, 1) := by decide +kernel
theorem d_132_130 : decode (mC 132) 130 = .ok (.iaload, 1) := by decide +kernel
theorem d_132_131 : decode (mC 132) 131 = .ok (.invokestatic 78, 3) := by decide +kernel
theorem d_132_134 : decode (mC 132) 134 = .ok (.istore 5, 2) := by decide +kernel
theorem d_132_136 : decode (mC 132) 136 = .ok (.aload_n 2, 1) := by decide +kernel
theorem d_132_137 : decode (mC 132) 137 = .ok (.aload_n 0, 1) := by decide +kernel
theorem d_132_138 : decode (mC 132) 138 = .ok (.iload 4, 2) := by decide +kernel
theorem d_132_140 : decode (mC 132) 140 = .ok (.iconst 1, 1) := by decide +kernel
theorem d_132_141 : decode (mC 132) 141 = .ok (.iadd, 1) := by decide +kernel
theorem d_132_142 : decode (mC 132) 142 = .ok (.iaload, 1) := by decide +kernel
theorem d_132_143 : decode (mC 132) 143 = .ok (.invokevirtual 81, 3) := by decide +kernel
theorem d_132_146 : decode (mC 132) 146 = .ok (.goto 627, 3) := by decide +kernel
theorem d_132_149 : decode (mC 132) 149 = .ok (.aload_n 1, 1) := by decide +kernel
theorem d_132_150 : decode (mC 132) 150 = .ok (.aload_n 0, 1) := by decide +kernel
theorem d_132_151 : decode (mC 132) 151 = .ok (.iload 4, 2) := by decide +kernel
theorem d_132_153 : decode (mC 132) 153 = .ok (.iconst 1, 1) := by decide +kernel
theorem d_132_154 : decode (mC 132) 154 = .ok (.iadd, 1) := by decide +kernel
theorem d_132_155 : decode (mC 132) 155 = .ok (.iaload, 1) := by decide +kernel
theorem d_132_156 : decode (mC 132) 156 = .ok (.aload_n 3, 1) := by decide +kernel
theorem d_132_157 : decode (mC 132) 157 = .ok (.invokestatic 82, 3) := by decide +kernel
theorem d_132_160 : decode (mC 132) 160 = .ok (.istore 5, 2) := by decide +kernel
theorem d_132_162 : decode (mC 132) 162 = .ok (.aload_n 2, 1) := by decide +kernel
theorem d_132_163 : decode (mC 132) 163 = .ok (.aload_n 0, 1) := by decide +kernel
theorem d_132_164 : decode (mC 132) 164 = .ok (.iload 4, 2) := by decide +kernel
theorem d_132_166 : decode (mC 132) 166 = .ok (.iconst 1, 1) := by decide +kernel
theorem d_132_167 : decode (mC 132) 167 = .ok (.iadd, 1) := by decide +kernel
theorem d_132_168 : decode (mC 132) 168 = .ok (.iaload, 1) := by decide +kernel
theorem d_132_169 : decode (mC 132) 169 = .ok (.invokevirtual 85, 3) := by decide +kernel
theorem d_132_172 : decode (mC 132) 172 = .ok (.istore 6, 2) := by decide +kernel
theorem d_132_174 : decode (mC 132) 174 = .ok (.goto 599, 3) := by decide +kernel
theorem d_132_177 : decode (mC 132) 177 = .ok (.aload_n 1, 1) := by decide +kernel
theorem d_132_178 : decode (mC 132) 178 = .ok (.aload_n 0, 1) := by decide +kernel
theorem d_132_179 : decode (mC 132) 179 = .ok (.iload 4, 2) := by decide +kernel
theorem d_132_181 : decode (mC 132) 181 = .ok (.iconst 1, 1) := by decide +kernel
theorem d_132_182 : decode (mC 132) 182 = .ok (.iadd, 1) := by decide +kernel
theorem d_132_183 : decode (mC 132) 183 = .ok (.iaload, 1) := by decide +kernel
theorem d_132_184 : decode (mC 132) 184 = .ok (.aload_n 3, 1) := by decide +kernel
theorem d_132_185 : decode (mC 132) 185 = .ok (.invokestatic 86, 3) := by decide +kernel
theorem d_132_188 : decode (mC 132) 188 = .ok (.istore 5, 2) := by decide +kernel
theorem d_132_190 : decode (mC 132) 190 = .ok (.aload_n 2, 1) := by decide +kernel
theorem d_132_191 : decode (mC 132) 191 = .ok (.aload_n 0, 1) := by decide +kernel
theorem d_132_192 : decode (mC 132) 192 = .ok (.iload 4, 2) := by decide +kernel
theorem d_132_194 : decode (mC 132) 194 = .ok (.iconst 1, 1) := by decide +kernel
theorem d_132_195 : decode (mC 132) 195 = .ok (.iadd, 1) := by decide +kernel
theorem d_132_196 : decode (mC 132) 196 = .ok (.iaload, 1) := by decide +kernel
theorem d_132_197 : decode (mC 132) 197 = .ok (.invokevirtual 88, 3) := by decide +kernel
theorem d_132_200 : decode (mC 132) 200 = .ok (.istore 6, 2) := by decide +kernel
theorem d_132_202 : decode (mC 132) 202 = .ok (.goto 571, 3) := by decide +kernel
theorem d_132_205 : decode (mC 132) 205 = .ok (.aload_n 1, 1) := by decide +kernel
theorem d_132_206 : decode (mC 132) 206 = .ok (.aload_n 0, 1) := by decide +kernel
theorem d_132_207 : decode (mC 132) 207 = .ok (.iload 4, 2) := by decide +kernel
theorem d_132_209 : decode (mC 132) 209 = .ok (.iconst 1, 1) := by decide +kernel
theorem d_132_210 : decode (mC 132) 210 = .ok (.iadd, 1) := by decide +kernel
theorem d_132_211 : decode (mC 132) 211 = .ok (.iaload, 1) := by decide +kernel
theorem d_132_212 : decode (mC 132) 212 = .ok (.aload_n 0, 1) := by decide +kernel
theorem d_132_213 : decode (mC 132) 213 = .ok (.iload 4, 2) := by decide +kernel
theorem d_132_215 : decode (mC 132) 215 = .ok (.iconst 2, 1) := by decide +kernel
theorem d_132_216 : decode (mC 132) 216 = .ok (.iadd, 1) := by decide +kernel
theorem d_132_217 : decode (mC 132) 217 = .ok (.iaload, 1) := by decide +kernel
theorem d_132_218 : decode (mC 132) 218 = .ok (.invokestatic 89, 3) := by decide +kernel
theorem d_132_221 : decode (mC 132) 221 = .ok (.istore 5, 2) := by decide +kernel
theorem d_132_223 : decode (mC 132) 223 = .ok (.aload_n 2, 1) := by decide +kernel
theorem d_132_224 : decode (mC 132) 224 = .ok (.aload_n 0, 1) := by decide +kernel
theorem d_132_225 : decode (mC 132) 225 = .ok (.iload 4, 2) := by decide +kernel
theorem d_132_227 : decode (mC 132) 227 = .ok (.iconst 1, 1) := by decide +kernel
theorem d_132_228 : decode (mC 132) 228 = .ok (.iadd, 1) := by decide +kernel
theorem d_132_229 : decode (mC 132) 229 = .ok (.iaload, 1) := by decide +kernel
theorem d_132_230 : decode (mC 132) 230 = .ok (.aload_n 0, 1) := by decide +kernel
theorem d_132_231 : decode (mC 132) 231 = .ok (.iload 4, 2) := by decide +kernel
theorem d_132_233 : decode (mC 132) 233 = .ok (.iconst 2, 1) := by decide +kernel
theorem d_132_234 : decode (mC 132) 234 = .ok (.iadd, 1) := by decide +kernel
theorem d_132_235 : decode (mC 132) 235 = .ok (.iaload, 1) := by decide +kernel
theorem d_132_236 : decode (mC 132) 236 = .ok (.invokevirtual 92, 3) := by decide +kernel
theorem d_132_239 : decode (mC 132) 239 = .ok (.goto 534, 3) := by decide +kernel
theorem d_132_242 : decode (mC 132) 242 = .ok (.aload_n 1, 1) := by decide +kernel
theorem d_132_243 : decode (mC 132) 243 = .ok (.aload_n 0, 1) := by decide +kernel
theorem d_132_244 : decode (mC 132) 244 = .ok (.iload 4, 2) := by decide +kernel
theorem d_132_246 : decode (mC 132) 246 = .ok (.iconst 1, 1) := by decide +kernel
theorem d_132_247 : decode (mC 132) 247 = .ok (.iadd, 1) := by decide +kernel
theorem d_132_248 : decode (mC 132) 248 = .ok (.iaload, 1) := by decide +kernel
theorem d_132_249 : decode (mC 132) 249 = .ok (.aload_n 0, 1) := by decide +kernel
theorem d_132_250 : decode (mC 132) 250 = .ok (.iload 4, 2) := by decide +kernel
theorem d_132_252 : decode (mC 132) 252 = .ok (.iconst 2, 1) := by decide +kernel
theorem d_132_253 : decode (mC 132) 253 = .ok (.iadd, 1) := by decide +kernel
theorem d_132_254 : decode (mC 132) 254 = .ok (.iaload, 1) := by decide +kernel
theorem d_132_255 : decode (mC 132) 255 = .ok (.aload_n 0, 1) := by decide +kernel
theorem d_132_256 : decode (mC 132) 256 = .ok (.iload 4, 2) := by decide +kernel
theorem d_132_258 : decode (mC 132) 258 = .ok (.iconst 3, 1) := by decide +kernel
theorem d_132_259 : decode (mC 132) 259 = .ok (.iadd, 1) := by decide +kernel
theorem d_132_260 : decode (mC 132) 260 = .ok (.iaload, 1) := by decide +kernel
theorem d_132_261 : decode (mC 132) 261 = .ok (.aload_n 0, 1) := by decide +kernel
theorem d_132_262 : decode (mC 132) 262 = .ok (.iload 4, 2) := by decide +kernel
theorem d_132_264 : decode (mC 132) 264 = .ok (.iconst 4, 1) := by decide +kernel
theorem d_132_265 : decode (mC 132) 265 = .ok (.iadd, 1) := by decide +kernel
theorem d_132_266 : decode (mC 132) 266 = .ok (.iaload, 1) := by decide +kernel
theorem d_132_267 : decode (mC 132) 267 = .ok (.aload_n 0, 1) := by decide +kernel
theorem d_132_268 : decode (mC 132) 268 = .ok (.iload 4, 2) := by decide +kernel
theorem d_132_270 : decode (mC 132) 270 = .ok (.iconst 5, 1) := by decide +kernel
theorem d_132_271 : decode (mC 132) 271 = .ok (.iadd, 1) := by decide +kernel
theorem d_132_272 : decode (mC 132) 272 = .ok (.iaload, 1) := by decide +kernel
theorem d_132_273 : decode (mC 132) 273 = .ok (.invokestatic 93, 3) := by decide +kernel
theorem d_132_276 : decode (mC 132) 276 = .ok (.istore 5, 2) := by decide +kernel
theorem d_132_278 : decode (mC 132) 278 = .ok (.aload_n 2, 1) := by decide +kernel
theorem d_132_279 : decode (mC 132) 279 = .ok (.aload_n 0, 1) := by decide +kernel
theorem d_132_280 : decode (mC 132) 280 = .ok (.iload 4, 2) := by decide +kernel
theorem d_132_282 : decode (mC 132) 282 = .ok (.iconst 1, 1) := by decide +kernel
theorem d_132_283 : decode (mC 132) 283 = .ok (.iadd, 1) := by decide +kernel
theorem d_132_284 : decode (mC 132) 284 = .ok (.iaload, 1) := by decide +kernel
theorem d_132_285 : decode (mC 132) 285 = .ok (.aload_n 0, 1) := by decide +kernel
theorem d_132_286 : decode (mC 132) 286 = .ok (.iload 4, 2) := by decide +kernel
theorem d_132_288 : decode (mC 132) 288 = .ok (.iconst 2, 1) := by decide +kernel
theorem d_132_289 : decode (mC 132) 289 = .ok (.iadd, 1) := by decide +kernel
theorem d_132_290 : decode (mC 132) 290 = .ok (.iaload, 1) := by decide +kernel
theorem d_132_291 : decode (mC 132) 291 = .ok (.aload_n 0, 1) := by decide +kernel
theorem d_132_292 : decode (mC 132) 292 = .ok (.iload 4, 2) := by decide +kernel
theorem d_132_294 : decode (mC 132) 294 = .ok (.iconst 3, 1) := by decide +kernel
theorem d_132_295 : decode (mC 132) 295 = .ok (.iadd, 1) := by decide +kernel
theorem d_132_296 : decode (mC 132) 296 = .ok (.iaload, 1) := by decide +kernel
theorem d_132_297 : decode (mC 132) 297 = .ok (.aload_n 0, 1) := by decide +kernel
theorem d_132_298 : decode (mC 132) 298 = .ok (.iload 4, 2) := by decide +kernel
theorem d_132_300 : decode (mC 132) 300 = .ok (.iconst 4, 1) := by decide +kernel
theorem d_132_301 : decode (mC 132) 301 = .ok (.iadd, 1) := by decide +kernel
theorem d_132_302 : decode (mC 132) 302 = .ok (.iaload, 1) := by decide +kernel
theorem d_132_303 : decode (mC 132) 303 = .ok (.aload_n 0, 1) := by decide +kernel
theorem d_132_304 : decode (mC 132) 304 = .ok (.iload 4, 2) := by decide +kernel
theorem d_132_306 : decode (mC 132) 306 = .ok (.iconst 5, 1) := by decide +kernel
theorem d_132_307 : decode (mC 132) 307 = .ok (.iadd, 1) := by decide +kernel
theorem d_132_308 : decode (mC 132) 308 = .ok (.iaload, 1) := by decide +kernel
theorem d_132_309 : decode (mC 132) 309 = .ok (.invokevirtual 96, 3) := by decide +kernel
theorem d_132_312 : decode (mC 132) 312 = .ok (.goto 461, 3) := by decide +kernel
theorem d_132_315 : decode (mC 132) 315 = .ok (.aload_n 1, 1) := by decide +kernel
theorem d_132_316 : decode (mC 132) 316 = .ok (.aload_n 0, 1) := by decide +kernel
theorem d_132_317 : decode (mC 132) 317 = .ok (.iload 4, 2) := by decide +kernel
theorem d_132_319 : decode (mC 132) 319 = .ok (.iconst 1, 1) := by decide +kernel
theorem d_132_320 : decode (mC 132) 320 = .ok (.iadd, 1) := by decide +kernel
theorem d_132_321 : decode (mC 132) 321 = .ok (.iaload, 1) := by decide +kernel
theorem d_132_322 : decode (mC 132) 322 = .ok (.i2l, 1) := by decide +kernel
theorem d_132_323 : decode (mC 132) 323 = .ok (.bipush 32, 2) := by decide +kernel
theorem d_132_325 : decode (mC 132) 325 = .ok (.lshl, 1) := by decide +kernel
theorem d_132_326 : decode (mC 132) 326 = .ok (.aload_n 0, 1) := by decide +kernel
theorem d_132_327 : decode (mC 132) 327 = .ok (.iload 4, 2) := by decide +kernel
theorem d_132_329 : decode (mC 132) 329 = .ok (.iconst 2, 1) := by decide +kernel
theorem d_132_330 : decode (mC 132) 330 = .ok (.iadd, 1) := by decide +kernel
theorem d_132_331 : decode (mC 132) 331 = .ok (.iaload, 1) := by decide +kernel
theorem d_132_332 : decode (mC 132) 332 = .ok (.i2l, 1) := by decide +kernel
theorem d_132_333 : decode (mC 132) 333 = .ok (.ldc2_w 97, 3) := by decide +kernel
theorem d_132_336 : decode (mC 132) 336 = .ok (.land, 1) := by decide +kernel
theorem d_132_337 : decode (mC 132) 337 = .ok (.lor, 1) := by decide +kernel
theorem d_132_338 : decode (mC 132) 338 = .ok (.invokestatic 99, 3) := by decide +kernel
theorem d_132_341 : decode (mC 132) 341 = .ok (.istore 5, 2) := by decide +kernel
theorem d_132_343 : decode (mC 132) 343 = .ok (.aload_n 2, 1) := by decide +kernel
theorem d_132_344 : decode (mC 132) 344 = .ok (.aload_n 0, 1) := by decide +kernel
theorem d_132_345 : decode (mC 132) 345 = .ok (.iload 4, 2) := by decide +kernel
theorem d_132_347 : decode (mC 132) 347 = .ok (.iconst 1, 1) := by decide +kernel
theorem d_132_348 : decode (mC 132) 348 = .ok (.iadd, 1) := by decide +kernel
theorem d_132_349 : decode (mC 132) 349 = .ok (.iaload, 1) := by decide +kernel
theorem d_132_350 : decode (mC 132) 350 = .ok (.i2l, 1) := by decide +kernel
theorem d_132_351 : decode (mC 132) 351 = .ok (.bipush 32, 2) := by decide +kernel
theorem d_132_353 : decode (mC 132) 353 = .ok (.lshl, 1) := by decide +kernel
theorem d_132_354 : decode (mC 132) 354 = .ok (.aload_n 0, 1) := by decide +kernel
theorem d_132_355 : decode (mC 132) 355 = .ok (.iload 4, 2) := by decide +kernel
theorem d_132_357 : decode (mC 132) 357 = .ok (.iconst 2, 1) := by decide +kernel
theorem d_132_358 : decode (mC 132) 358 = .ok (.iadd, 1) := by decide +kernel
theorem d_132_359 : decode (mC 132) 359 = .ok (.iaload, 1) := by decide +kernel
theorem d_132_360 : decode (mC 132) 360 = .ok (.i2l, 1) := by decide +kernel
theorem d_132_361 : decode (mC 132) 361 = .ok (.ldc2_w 97, 3) := by decide +kernel
theorem d_132_364 : decode (mC 132) 364 = .ok (.land, 1) := by decide +kernel
theorem d_132_365 : decode (mC 132) 365 = .ok (.lor, 1) := by decide +kernel
theorem d_132_366 : decode (mC 132) 366 = .ok (.invokevirtual 102, 3) := by decide +kernel
theorem d_132_369 : decode (mC 132) 369 = .ok (.goto 404, 3) := by decide +kernel
theorem d_132_372 : decode (mC 132) 372 = .ok (.aload_n 1, 1) := by decide +kernel
theorem d_132_373 : decode (mC 132) 373 = .ok (.aload_n 0, 1) := by decide +kernel
theorem d_132_374 : decode (mC 132) 374 = .ok (.iload 4, 2) := by decide +kernel
theorem d_132_376 : decode (mC 132) 376 = .ok (.iconst 1, 1) := by decide +kernel
theorem d_132_377 : decode (mC 132) 377 = .ok (.iadd, 1) := by decide +kernel
theorem d_132_378 : decode (mC 132) 378 = .ok (.iaload, 1) := by decide +kernel
theorem d_132_379 : decode (mC 132) 379 = .ok (.aload_n 3, 1) := by decide +kernel
theorem d_132_380 : decode (mC 132) 380 = .ok (.invokestatic 103, 3) := by decide +kernel
theorem d_132_383 : decode (mC 132) 383 = .ok (.istore 5, 2) := by decide +kernel
theorem d_132_385 : decode (mC 132) 385 = .ok (.aload_n 2, 1) := by decide +kernel
theorem d_132_386 : decode (mC 132) 386 = .ok (.aload_n 0, 1) := by decide +kernel
theorem d_132_387 : decode (mC 132) 387 = .ok (.iload 4, 2) := by decide +kernel
theorem d_132_389 : decode (mC 132) 389 = .ok (.iconst 1, 1) := by decide +kernel
theorem d_132_390 : decode (mC 132) 390 = .ok (.iadd, 1) := by decide +kernel
theorem d_132_391 : decode (mC 132) 391 = .ok (.iaload, 1) := by decide +kernel
theorem d_132_392 : decode (mC 132) 392 = .ok (.invokevirtual 105, 3) := by decide +kernel
theorem d_132_395 : decode (mC 132) 395 = .ok (.istore 6, 2) := by decide +kernel
theorem d_132_397 : decode (mC 132) 397 = .ok (.goto 376, 3) := by decide +kernel
theorem d_132_400 : decode (mC 132) 400 = .ok (.aload_n 1, 1) := by decide +kernel
theorem d_132_401 : decode (mC 132) 401 = .ok (.aload_n 0, 1) := by decide +kernel
theorem d_132_402 : decode (mC 132) 402 = .ok (.iload 4, 2) := by decide +kernel
theorem d_132_404 : decode (mC 132) 404 = .ok (.iconst 1, 1) := by decide +kernel
theorem d_132_405 : decode (mC 132) 405 = .ok (.iadd, 1) := by decide +kernel
theorem d_132_406 : decode (mC 132) 406 = .ok (.iaload, 1) := by decide +kernel
theorem d_132_407 : decode (mC 132) 407 = .ok (.aload_n 3, 1) := by decide +kernel
theorem d_132_408 : decode (mC 132) 408 = .ok (.invokestatic 106, 3) := by decide +kernel
theorem d_132_411 : decode (mC 132) 411 = .ok (.istore 5, 2) := by decide +kernel
theorem d_132_413 : decode (mC 132) 413 = .ok (.aload_n 2, 1) := by decide +kernel
theorem d_132_414 : decode (mC 132) 414 = .ok (.aload_n 0, 1) := by decide +kernel
theorem d_132_415 : decode (mC 132) 415 = .ok (.iload 4, 2) := by decide +kernel
theorem d_132_417 : decode (mC 132) 417 = .ok (.iconst 1, 1) := by decide +kernel
theorem d_132_418 : decode (mC 132) 418 = .ok (.iadd, 1) := by decide +kernel
theorem d_132_419 : decode (mC 132) 419 = .ok (.iaload, 1) := by decide +kernel
theorem d_132_420 : decode (mC 132) 420 = .ok (.invokevirtual 108, 3) := by decide +kernel
theorem d_132_423 : decode (mC 132) 423 = .ok (.istore 6, 2) := by decide +kernel
theorem d_132_425 : decode (mC 132) 425 = .ok (.goto 348, 3) := by decide +kernel
theorem d_132_428 : decode (mC 132) 428 = .ok (.aload_n 1, 1) := by decide +kernel
theorem d_132_429 : decode (mC 132) 429 = .ok (.aload_n 0, 1) := by decide +kernel
theorem d_132_430 : decode (mC 132) 430 = .ok (.iload 4, 2) := by decide +kernel
theorem d_132_432 : decode (mC 132) 432 = .ok (.iconst 1, 1) := by decide +kernel
theorem d_132_433 : decode (mC 132) 433 = .ok (.iadd, 1) := by decide +kernel
theorem d_132_434 : decode (mC 132) 434 = .ok (.iaload, 1) := by decide +kernel
theorem d_132_435 : decode (mC 132) 435 = .ok (.aload_n 0, 1) := by decide +kernel
theorem d_132_436 : decode (mC 132) 436 = .ok (.iload 4, 2) := by decide +kernel
theorem d_132_438 : decode (mC 132) 438 = .ok (.iconst 2, 1) := by decide +kernel
theorem d_132_439 : decode (mC 132) 439 = .ok (.iadd, 1) := by decide +kernel
theorem d_132_440 : decode (mC 132) 440 = .ok (.iaload, 1) := by decide +kernel
theorem d_132_441 : decode (mC 132) 441 = .ok (.aload_n 3, 1) := by decide +kernel
theorem d_132_442 : decode (mC 132) 442 = .ok (.invokestatic 109, 3) := by decide +kernel
theorem d_132_445 : decode (mC 132) 445 = .ok (.istore 5, 2) := by decide +kernel
theorem d_132_447 : decode (mC 132) 447 = .ok (.aload_n 2, 1) := by decide +kernel
theorem d_132_448 : decode (mC 132) 448 = .ok (.aload_n 0, 1) := by decide +kernel
theorem d_132_449 : decode (mC 132) 449 = .ok (.iload 4, 2) := by decide +kernel
theorem d_132_451 : decode (mC 132) 451 = .ok (.iconst 1, 1) := by decide +kernel
theorem d_132_452 : decode (mC 132) 452 = .ok (.iadd, 1) := by decide +kernel
theorem d_132_453 : decode (mC 132) 453 = .ok (.iaload, 1) := by decide +kernel
theorem d_132_454 : decode (mC 132) 454 = .ok (.aload_n 0, 1) := by decide +kernel
theorem d_132_455 : decode (mC 132) 455 = .ok (.iload 4, 2) := by decide +kernel
theorem d_132_457 : decode (mC 132) 457 = .ok (.iconst 2, 1) := by decide +kernel
theorem d_132_458 : decode (mC 132) 458 = .ok (.iadd, 1) := by decide +kernel
theorem d_132_459 : decode (mC 132) 459 = .ok (.iaload, 1) := by decide +kernel
theorem d_132_460 : decode (mC 132) 460 = .ok (.invokevirtual 112, 3) := by decide +kernel
theorem d_132_463 : decode (mC 132) 463 = .ok (.istore 6, 2) := by decide +kernel
theorem d_132_465 : decode (mC 132) 465 = .ok (.goto 308, 3) := by decide +kernel
theorem d_132_468 : decode (mC 132) 468 = .ok (.aload_n 1, 1) := by decide +kernel
theorem d_132_469 : decode (mC 132) 469 = .ok (.aload_n 0, 1) := by decide +kernel
theorem d_132_470 : decode (mC 132) 470 = .ok (.iload 4, 2) := by decide +kernel
theorem d_132_472 : decode (mC 132) 472 = .ok (.iconst 1, 1) := by decide +kernel
theorem d_132_473 : decode (mC 132) 473 = .ok (.iadd, 1) := by decide +kernel
theorem d_132_474 : decode (mC 132) 474 = .ok (.iaload, 1) := by decide +kernel
theorem d_132_475 : decode (mC 132) 475 = .ok (.aload_n 0, 1) := by decide +kernel
theorem d_132_476 : decode (mC 132) 476 = .ok (.iload 4, 2) := by decide +kernel
theorem d_132_478 : decode (mC 132) 478 = .ok (.iconst 2, 1) := by decide +kernel
theorem d_132_479 : decode (mC 132) 479 = .ok (.iadd, 1) := by decide +kernel
theorem d_132_480 : decode (mC 132) 480 = .ok (.iaload, 1) := by decide +kernel
theorem d_132_481 : decode (mC 132) 481 = .ok (.aload_n 0, 1) := by decide +kernel
theorem d_132_482 : decode (mC 132) 482 = .ok (.iload 4, 2) := by decide +kernel
theorem d_132_484 : decode (mC 132) 484 = .ok (.iconst 3, 1) := by decide +kernel
theorem d_132_485 : decode (mC 132) 485 = .ok (.iadd, 1) := by decide +kernel
theorem d_132_486 : decode (mC 132) 486 = .ok (.iaload, 1) := by decide +kernel
theorem d_132_487 : decode (mC 132) 487 = .ok (.ifCond .eq 7, 3) := by decide +kernel
theorem d_132_490 : decode (mC 132) 490 = .ok (.iconst 1, 1) := by decide +kernel
theorem d_132_491 : decode (mC 132) 491 = .ok (.goto 4, 3) := by decide +kernel
theorem d_132_494 : decode (mC 132) 494 = .ok (.iconst 0, 1) := by decide +kernel
theorem d_132_495 : decode (mC 132) 495 = .ok (.aload_n 3, 1) := by decide +kernel
theorem d_132_496 : decode (mC 132) 496 = .ok (.invokestatic 113, 3) := by decide +kernel
theorem d_132_499 : decode (mC 132) 499 = .ok (.istore 5, 2) := by decide +kernel
theorem d_132_501 : decode (mC 132) 501 = .ok (.aload_n 2, 1) := by decide +kernel
theorem d_132_502 : decode (mC 132) 502 = .ok (.aload_n 0, 1) := by decide +kernel
theorem d_132_503 : decode (mC 132) 503 = .ok (.iload 4, 2) := by decide +kernel
theorem d_132_505 : decode (mC 132) 505 = .ok (.iconst 1, 1) := by decide +kernel
theorem d_132_506 : decode (mC 132) 506 = .ok (.iadd, 1) := by decide +kernel
theorem d_132_507 : decode (mC 132) 507 = .ok (.iaload, 1) := by decide +kernel
theorem d_132_508 : decode (mC 132) 508 = .ok (.aload_n 0, 1) := by decide +kernel
theorem d_132_509 : decode (mC 132) 509 = .ok (.iload 4, 2) := by decide +kernel
theorem d_132_511 : decode (mC 132) 511 = .ok (.iconst 2, 1) := by decide +kernel
theorem d_132_512 : decode (mC 132) 512 = .ok (.iadd, 1) := by decide +kernel
theorem d_132_513 : decode (mC 132) 513 = .ok (.iaload, 1) := by decide +kernel
theorem d_132_514 : decode (mC 132) 514 = .ok (.aload_n 0, 1) := by decide +kernel
theorem d_132_515 : decode (mC 132) 515 = .ok (.iload 4, 2) := by decide +kernel
theorem d_132_517 : decode (mC 132) 517 = .ok (.iconst 3, 1) := by decide +kernel
theorem d_132_518 : decode (mC 132) 518 = .ok (.iadd, 1) := by decide +kernel
theorem d_132_519 : decode (mC 132) 519 = .ok (.iaload, 1) := by decide +kernel
theorem d_132_520 : decode (mC 132) 520 = .ok (.ifCond .eq 7, 3) := by decide +kernel
theorem d_132_523 : decode (mC 132) 523 = .ok (.iconst 1, 1) := by decide +kernel
theorem d_132_524 : decode (mC 132) 524 = .ok (.goto 4, 3) := by decide +kernel
theorem d_132_527 : decode (mC 132) 527 = .ok (.iconst 0, 1) := by decide +kernel
theorem d_132_528 : decode (mC 132) 528 = .ok (.invokevirtual 116, 3) := by decide +kernel
theorem d_132_531 : decode (mC 132) 531 = .ok (.istore 6, 2) := by decide +kernel
theorem d_132_533 : decode (mC 132) 533 = .ok (.aload_n 2, 1) := by decide +kernel
theorem d_132_534 : decode (mC 132) 534 = .ok (.invokevirtual 117, 3) := by decide +kernel
theorem d_132_537 : decode (mC 132) 537 = .ok (.iload 5, 2) := by decide +kernel
theorem d_132_539 : decode (mC 132) 539 = .ok (.if_icmp .eq 5, 3) := by decide +kernel
theorem d_132_542 : decode (mC 132) 542 = .ok (.iconst 0, 1) := by decide +kernel
theorem d_132_543 : decode (mC 132) 543 = .ok (.ireturn, 1) := by decide +kernel
theorem d_132_544 : decode (mC 132) 544 = .ok (.iload 5, 2) := by decide +kernel
theorem d_132_546 : decode (mC 132) 546 = .ok (.ifCond .ne 15, 3) := by decide +kernel
theorem d_132_549 : decode (mC 132) 549 = .ok (.aload_n 3, 1) := by decide +kernel
theorem d_132_550 : decode (mC 132) 550 = .ok (.iconst 0, 1) := by decide +kernel
theorem d_132_551 : decode (mC 132) 551 = .ok (.laload, 1) := by decide +kernel
theorem d_132_552 : decode (mC 132) 552 = .ok (.iload 6, 2) := by decide +kernel
theorem d_132_554 : decode (mC 132) 554 = .ok (.i2l, 1) := by decide +kernel
theorem d_132_555 : decode (mC 132) 555 = .ok (.lcmp, 1) := by decide +kernel
theorem d_132_556 : decode (mC 132) 556 = .ok (.ifCond .eq 5, 3) := by decide +kernel
theorem d_132_559 : decode (mC 132) 559 = .ok (.iconst 0, 1) := by decide +kernel
theorem d_132_560 : decode (mC 132) 560 = .ok (.ireturn, 1) := by decide +kernel
theorem d_132_561 : decode (mC 132) 561 = .ok (.goto 212, 3) := by decide +kernel
theorem d_132_564 : decode (mC 132) 564 = .ok (.aload_n 1, 1) := by decide +kernel
theorem d_132_565 : decode (mC 132) 565 = .ok (.aload_n 0, 1) := by decide +kernel
theorem d_132_566 : decode (mC 132) 566 = .ok (.iload 4, 2) := by decide +kernel
theorem d_132_568 : decode (mC 132) 568 = .ok (.iconst 1, 1) := by decide +kernel
theorem d_132_569 : decode (mC 132) 569 = .ok (.iadd, 1) := by decide +kernel
theorem d_132_570 : decode (mC 132) 570 = .ok (.iaload, 1) := by decide +kernel
theorem d_132_571 : decode (mC 132) 571 = .ok (.aload_n 0, 1) := by decide +kernel
theorem d_132_572 : decode (mC 132) 572 = .ok (.iload 4, 2) := by decide +kernel
theorem d_132_574 : decode (mC 132) 574 = .ok (.iconst 2, 1) := by decide +kernel
theorem d_132_575 : decode (mC 132) 575 = .ok (.iadd, 1) := by decide +kernel
theorem d_132_576 : decode (mC 132) 576 = .ok (.iaload, 1) := by decide +kernel
theorem d_132_577 : decode (mC 132) 577 = .ok (.aload_n 3, 1) := by decide +kernel
theorem d_132_578 : decode (mC 132) 578 = .ok (.invokestatic 121, 3) := by decide +kernel
theorem d_132_581 : decode (mC 132) 581 = .ok (.istore 5, 2) := by decide +kernel
theorem d_132_583 : decode (mC 132) 583 = .ok (.aload_n 2, 1) := by decide +kernel
theorem d_132_584 : decode (mC 132) 584 = .ok (.aload_n 0, 1) := by decide +kernel
theorem d_132_585 : decode (mC 132) 585 = .ok (.iload 4, 2) := by decide +kernel
theorem d_132_587 : decode (mC 132) 587 = .ok (.iconst 1, 1) := by decide +kernel
theorem d_132_588 : decode (mC 132) 588 = .ok (.iadd, 1) := by decide +kernel
theorem d_132_589 : decode (mC 132) 589 = .ok (.iaload, 1) := by decide +kernel
theorem d_132_590 : decode (mC 132) 590 = .ok (.aload_n 0, 1) := by decide +kernel
theorem d_132_591 : decode (mC 132) 591 = .ok (.iload 4, 2) := by decide +kernel
theorem d_132_593 : decode (mC 132) 593 = .ok (.iconst 2, 1) := by decide +kernel
theorem d_132_594 : decode (mC 132) 594 = .ok (.iadd, 1) := by decide +kernel
theorem d_132_595 : decode (mC 132) 595 = .ok (.iaload, 1) := by decide +kernel
theorem d_132_596 : decode (mC 132) 596 = .ok (.invokevirtual 123, 3) := by decide +kernel
theorem d_132_599 : decode (mC 132) 599 = .ok (.istore 6, 2) := by decide +kernel
theorem d_132_601 : decode (mC 132) 601 = .ok (.goto 172, 3) := by decide +kernel
theorem d_132_604 : decode (mC 132) 604 = .ok (.aload_n 1, 1) := by decide +kernel
theorem d_132_605 : decode (mC 132) 605 = .ok (.invokevirtual 124, 3) := by decide +kernel
theorem d_132_608 : decode (mC 132) 608 = .ok (.pop, 1) := by decide +kernel
theorem d_132_609 : decode (mC 132) 609 = .ok (.aload_n 2, 1) := by decide +kernel
theorem d_132_610 : decode (mC 132) 610 = .ok (.invokevirtual 127, 3) := by decide +kernel
theorem d_132_613 : decode (mC 132) 613 = .ok (.pop, 1) := by decide +kernel
theorem d_132_614 : decode (mC 132) 614 = .ok (.goto 159, 3) := by decide +kernel
theorem d_132_617 : decode (mC 132) 617 = .ok (.aload_n 1, 1) := by decide +kernel
theorem d_132_618 : decode (mC 132) 618 = .ok (.aload_n 3, 1) := by decide +kernel
theorem d_132_619 : decode (mC 132) 619 = .ok (.invokestatic 128, 3) := by decide +kernel
theorem d_132_622 : decode (mC 132) 622 = .ok (.istore 5, 2) := by decide +kernel
theorem d_132_624 : decode (mC 132) 624 = .ok (.aload_n 2, 1) := by decide +kernel
theorem d_132_625 : decode (mC 132) 625 = .ok (.invokevirtual 131, 3) := by decide +kernel
theorem d_132_628 : decode (mC 132) 628 = .ok (.lstore 6, 2) := by decide +kernel
theorem d_132_630 : decode (mC 132) 630 = .ok (.goto 143, 3) := by decide +kernel
theorem d_132_633 : decode (mC 132) 633 = .ok (.aload_n 1, 1) := by decide +kernel
theorem d_132_634 : decode (mC 132) 634 = .ok (.aload_n 0, 1) := by decide +kernel
theorem d_132_635 : decode (mC 132) 635 = .ok (.iload 4, 2) := by decide +kernel
theorem d_132_637 : decode (mC 132) 637 = .ok (.iconst 1, 1) := by decide +kernel
theorem d_132_638 : decode (mC 132) 638 = .ok (.iadd, 1) := by decide +kernel
theorem d_132_639 : decode (mC 132) 639 = .ok (.iaload, 1) := by decide +kernel
theorem d_132_640 : decode (mC 132) 640 = .ok (.aload_n 0, 1) := by decide +kernel
theorem d_132_641 : decode (mC 132) 641 = .ok (.iload 4, 2) := by decide +kernel
theorem d_132_643 : decode (mC 132) 643 = .ok (.iconst 2, 1) := by decide +kernel
theorem d_132_644 : decode (mC 132) 644 = .ok (.iadd, 1) := by decide +kernel
theorem d_132_645 : decode (mC 132) 645 = .ok (.iaload, 1) := by decide +kernel
theorem d_132_646 : decode (mC 132) 646 = .ok (.aload_n 0, 1) := by decide +kernel
theorem d_132_647 : decode (mC 132) 647 = .ok (.iload 4, 2) := by decide +kernel
theorem d_132_649 : decode (mC 132) 649 = .ok (.iconst 3, 1) := by decide +kernel
theorem d_132_650 : decode (mC 132) 650 = .ok (.iadd, 1) := by decide +kernel
theorem d_132_651 : decode (mC 132) 651 = .ok (.iaload, 1) := by decide +kernel
theorem d_132_652 : decode (mC 132) 652 = .ok (.ifCond .eq 7, 3) := by decide +kernel
theorem d_132_655 : decode (mC 132) 655 = .ok (.iconst 1, 1) := by decide +kernel
theorem d_132_656 : decode (mC 132) 656 = .ok (.goto 4, 3) := by decide +kernel
theorem d_132_659 : decode (mC 132) 659 = .ok (.iconst 0, 1) := by decide +kernel
theorem d_132_660 : decode (mC 132) 660 = .ok (.aload_n 0, 1) := by decide +kernel
theorem d_132_661 : decode (mC 132) 661 = .ok (.iload 4, 2) := by decide +kernel
theorem d_132_663 : decode (mC 132) 663 = .ok (.iconst 4, 1) := by decide +kernel
theorem d_132_664 : decode (mC 132) 664 = .ok (.iadd, 1) := by decide +kernel
theorem d_132_665 : decode (mC 132) 665 = .ok (.iaload, 1) := by decide +kernel
theorem d_132_666 : decode (mC 132) 666 = .ok (.aload_n 3, 1) := by decide +kernel
theorem d_132_667 : decode (mC 132) 667 = .ok (.invokestatic 132, 3) := by decide +kernel
theorem d_132_670 : decode (mC 132) 670 = .ok (.istore 5, 2) := by decide +kernel
theorem d_132_672 : decode (mC 132) 672 = .ok (.aload_n 2, 1) := by decide +kernel
theorem d_132_673 : decode (mC 132) 673 = .ok (.aload_n 0, 1) := by decide +kernel
theorem d_132_674 : decode (mC 132) 674 = .ok (.iload 4, 2) := by decide +kernel
theorem d_132_676 : decode (mC 132) 676 = .ok (.iconst 1, 1) := by decide +kernel
theorem d_132_677 : decode (mC 132) 677 = .ok (.iadd, 1) := by decide +kernel
theorem d_132_678 : decode (mC 132) 678 = .ok (.iaload, 1) := by decide +kernel
theorem d_132_679 : decode (mC 132) 679 = .ok (.aload_n 0, 1) := by decide +kernel
theorem d_132_680 : decode (mC 132) 680 = .ok (.iload 4, 2) := by decide +kernel
theorem d_132_682 : decode (mC 132) 682 = .ok (.iconst 2, 1) := by decide +kernel
theorem d_132_683 : decode (mC 132) 683 = .ok (.iadd, 1) := by decide +kernel
theorem d_132_684 : decode (mC 132) 684 = .ok (.iaload, 1) := by decide +kernel
theorem d_132_685 : decode (mC 132) 685 = .ok (.aload_n 0, 1) := by decide +kernel
theorem d_132_686 : decode (mC 132) 686 = .ok (.iload 4, 2) := by decide +kernel
theorem d_132_688 : decode (mC 132) 688 = .ok (.iconst 3, 1) := by decide +kernel
theorem d_132_689 : decode (mC 132) 689 = .ok (.iadd, 1) := by decide +kernel
theorem d_132_690 : decode (mC 132) 690 = .ok (.iaload, 1) := by decide +kernel
theorem d_132_691 : decode (mC 132) 691 = .ok (.ifCond .eq 7, 3) := by decide +kernel
theorem d_132_694 : decode (mC 132) 694 = .ok (.iconst 1, 1) := by decide +kernel
theorem d_132_695 : decode (mC 132) 695 = .ok (.goto 4, 3) := by decide +kernel
theorem d_132_698 : decode (mC 132) 698 = .ok (.iconst 0, 1) := by decide +kernel
theorem d_132_699 : decode (mC 132) 699 = .ok (.aload_n 0, 1) := by decide +kernel
theorem d_132_700 : decode (mC 132) 700 = .ok (.iload 4, 2) := by decide +kernel
theorem d_132_702 : decode (mC 132) 702 = .ok (.iconst 4, 1) := by decide +kernel
theorem d_132_703 : decode (mC 132) 703 = .ok (.iadd, 1) := by decide +kernel
theorem d_132_704 : decode (mC 132) 704 = .ok (.iaload, 1) := by decide +kernel
theorem d_132_705 : decode (mC 132) 705 = .ok (.invokevirtual 135, 3) := by decide +kernel
theorem d_132_708 : decode (mC 132) 708 = .ok (.lstore 6, 2) := by decide +kernel
theorem d_132_710 : decode (mC 132) 710 = .ok (.goto 63, 3) := by decide +kernel
theorem d_132_713 : decode (mC 132) 713 = .ok (.aload_n 1, 1) := by decide +kernel
theorem d_132_714 : decode (mC 132) 714 = .ok (.aload_n 0, 1) := by decide +kernel
theorem d_132_715 : decode (mC 132) 715 = .ok (.iload 4, 2) := by decide +kernel
theorem d_132_717 : decode (mC 132) 717 = .ok (.iconst 1, 1) := by decide +kernel
theorem d_132_718 : decode (mC 132) 718 = .ok (.iadd, 1) := by decide +kernel
theorem d_132_719 : decode (mC 132) 719 = .ok (.iaload, 1) := by decide +kernel
theorem d_132_720 : decode (mC 132) 720 = .ok (.i2l, 1) := by decide +kernel
theorem d_132_721 : decode (mC 132) 721 = .ok (.bipush 32, 2) := by decide +kernel
theorem d_132_723 : decode (mC 132) 723 = .ok (.lshl, 1) := by decide +kernel
theorem d_132_724 : decode (mC 132) 724 = .ok (.aload_n 0, 1) := by decide +kernel
