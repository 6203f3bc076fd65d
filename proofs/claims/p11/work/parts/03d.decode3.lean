theorem d_69_6 : decode (mC 69) 6 = .ok (.iload 5, 2) := by decide +kernel
theorem d_69_8 : decode (mC 69) 8 = .ok (.invokevirtual 28, 3) := by decide +kernel
theorem d_69_11 : decode (mC 69) 11 = .ok (.goto 11, 3) := by decide +kernel
theorem d_69_14 : decode (mC 69) 14 = .ok (.astore 6, 2) := by decide +kernel
theorem d_69_16 : decode (mC 69) 16 = .ok (.iconst 1, 1) := by decide +kernel
theorem d_69_17 : decode (mC 69) 17 = .ok (.ireturn, 1) := by decide +kernel
theorem d_69_18 : decode (mC 69) 18 = .ok (.astore 6, 2) := by decide +kernel
theorem d_69_20 : decode (mC 69) 20 = .ok (.iconst 2, 1) := by decide +kernel
theorem d_69_21 : decode (mC 69) 21 = .ok (.ireturn, 1) := by decide +kernel
theorem d_69_22 : decode (mC 69) 22 = .ok (.iconst 0, 1) := by decide +kernel
theorem d_69_23 : decode (mC 69) 23 = .ok (.ireturn, 1) := by decide +kernel
theorem d_70_0 : decode (mC 70) 0 = .ok (.iload_n 1, 1) := by decide +kernel
theorem d_70_1 : decode (mC 70) 1 = .ok (.invokestatic 24, 3) := by decide +kernel
theorem d_70_4 : decode (mC 70) 4 = .ok (.iload_n 2, 1) := by decide +kernel
theorem d_70_5 : decode (mC 70) 5 = .ok (.iconst 5, 1) := by decide +kernel
theorem d_70_6 : decode (mC 70) 6 = .ok (.bipush 9, 2) := by decide +kernel
theorem d_70_8 : decode (mC 70) 8 = .ok (.invokestatic 46, 3) := by decide +kernel
theorem d_70_11 : decode (mC 70) 11 = .ok (.invokestatic 50, 3) := by decide +kernel
theorem d_70_14 : decode (mC 70) 14 = .ok (.iload_n 3, 1) := by decide +kernel
theorem d_70_15 : decode (mC 70) 15 = .ok (.iconst 0, 1) := by decide +kernel
theorem d_70_16 : decode (mC 70) 16 = .ok (.sipush 1023, 3) := by decide +kernel
theorem d_70_19 : decode (mC 70) 19 = .ok (.invokestatic 46, 3) := by decide +kernel
theorem d_70_22 : decode (mC 70) 22 = .ok (.invokestatic 50, 3) := by decide +kernel
theorem d_70_25 : decode (mC 70) 25 = .ok (.iload 5, 2) := by decide +kernel
theorem d_70_27 : decode (mC 70) 27 = .ok (.iconst 1, 1) := by decide +kernel
theorem d_70_28 : decode (mC 70) 28 = .ok (.if_icmp .eq 15, 3) := by decide +kernel
theorem d_70_31 : decode (mC 70) 31 = .ok (.iload 5, 2) := by decide +kernel
theorem d_70_33 : decode (mC 70) 33 = .ok (.iconst 2, 1) := by decide +kernel
theorem d_70_34 : decode (mC 70) 34 = .ok (.if_icmp .eq 9, 3) := by decide +kernel
theorem d_70_37 : decode (mC 70) 37 = .ok (.iload 5, 2) := by decide +kernel
theorem d_70_39 : decode (mC 70) 39 = .ok (.iconst 4, 1) := by decide +kernel
theorem d_70_40 : decode (mC 70) 40 = .ok (.if_icmp .ne 7, 3) := by decide +kernel
theorem d_70_43 : decode (mC 70) 43 = .ok (.iconst 1, 1) := by decide +kernel
theorem d_70_44 : decode (mC 70) 44 = .ok (.goto 4, 3) := by decide +kernel
theorem d_70_47 : decode (mC 70) 47 = .ok (.iconst 0, 1) := by decide +kernel
theorem d_70_48 : decode (mC 70) 48 = .ok (.invokestatic 50, 3) := by decide +kernel
theorem d_70_51 : decode (mC 70) 51 = .ok (.iload 4, 2) := by decide +kernel
theorem d_70_53 : decode (mC 70) 53 = .ok (.iconst 0, 1) := by decide +kernel
theorem d_70_54 : decode (mC 70) 54 = .ok (.iload 5, 2) := by decide +kernel
theorem d_70_56 : decode (mC 70) 56 = .ok (.iconst 1, 1) := by decide +kernel
theorem d_70_57 : decode (mC 70) 57 = .ok (.isub, 1) := by decide +kernel
theorem d_70_58 : decode (mC 70) 58 = .ok (.invokestatic 46, 3) := by decide +kernel
theorem d_70_61 : decode (mC 70) 61 = .ok (.invokestatic 50, 3) := by decide +kernel
theorem d_70_64 : decode (mC 70) 64 = .ok (.aload_n 0, 1) := by decide +kernel
theorem d_70_65 : decode (mC 70) 65 = .ok (.iload_n 1, 1) := by decide +kernel
theorem d_70_66 : decode (mC 70) 66 = .ok (.invokevirtual 60, 3) := by decide +kernel
theorem d_70_69 : decode (mC 70) 69 = .ok (.aload_n 0, 1) := by decide +kernel
theorem d_70_70 : decode (mC 70) 70 = .ok (.getfield 11, 3) := by decide +kernel
theorem d_70_73 : decode (mC 70) 73 = .ok (.iload_n 1, 1) := by decide +kernel
theorem d_70_74 : decode (mC 70) 74 = .ok (.aaload, 1) := by decide +kernel
theorem d_70_75 : decode (mC 70) 75 = .ok (.getfield 66, 3) := by decide +kernel
theorem d_70_78 : decode (mC 70) 78 = .ok (.astore 6, 2) := by decide +kernel
theorem d_70_80 : decode (mC 70) 80 = .ok (.aload 6, 2) := by decide +kernel
theorem d_70_82 : decode (mC 70) 82 = .ok (.getfield 70, 3) := by decide +kernel
theorem d_70_85 : decode (mC 70) 85 = .ok (.ifCond .eq 13, 3) := by decide +kernel
theorem d_70_88 : decode (mC 70) 88 = .ok (.new 32, 3) := by decide +kernel
theorem d_70_91 : decode (mC 70) 91 = .ok (.dup, 1) := by decide +kernel
theorem d_70_92 : decode (mC 70) 92 = .ok (.ldc 76, 2) := by decide +kernel
theorem d_70_94 : decode (mC 70) 94 = .ok (.invokespecial 36, 3) := by decide +kernel
theorem d_70_97 : decode (mC 70) 97 = .ok (.athrow, 1) := by decide +kernel
theorem d_70_98 : decode (mC 70) 98 = .ok (.aload 6, 2) := by decide +kernel
theorem d_70_100 : decode (mC 70) 100 = .ok (.iload_n 2, 1) := by decide +kernel
theorem d_70_101 : decode (mC 70) 101 = .ok (.iload_n 3, 1) := by decide +kernel
theorem d_70_102 : decode (mC 70) 102 = .ok (.iload 4, 2) := by decide +kernel
theorem d_70_104 : decode (mC 70) 104 = .ok (.iload 5, 2) := by decide +kernel
theorem d_70_106 : decode (mC 70) 106 = .ok (.invokevirtual 78, 3) := by decide +kernel
theorem d_70_109 : decode (mC 70) 109 = .ok (.return_, 1) := by decide +kernel
theorem d_71_0 : decode (mC 71) 0 = .ok (.aload_n 0, 1) := by decide +kernel
theorem d_71_1 : decode (mC 71) 1 = .ok (.iconst 1, 1) := by decide +kernel
theorem d_71_2 : decode (mC 71) 2 = .ok (.putfield 7, 3) := by decide +kernel
theorem d_71_5 : decode (mC 71) 5 = .ok (.aload_n 0, 1) := by decide +kernel
theorem d_71_6 : decode (mC 71) 6 = .ok (.iload_n 1, 1) := by decide +kernel
theorem d_71_7 : decode (mC 71) 7 = .ok (.putfield 13, 3) := by decide +kernel
theorem d_71_10 : decode (mC 71) 10 = .ok (.aload_n 0, 1) := by decide +kernel
theorem d_71_11 : decode (mC 71) 11 = .ok (.iload_n 2, 1) := by decide +kernel
theorem d_71_12 : decode (mC 71) 12 = .ok (.putfield 17, 3) := by decide +kernel
theorem d_71_15 : decode (mC 71) 15 = .ok (.aload_n 0, 1) := by decide +kernel
theorem d_71_16 : decode (mC 71) 16 = .ok (.iload_n 3, 1) := by decide +kernel
theorem d_71_17 : decode (mC 71) 17 = .ok (.putfield 20, 3) := by decide +kernel
theorem d_71_20 : decode (mC 71) 20 = .ok (.aload_n 0, 1) := by decide +kernel
theorem d_71_21 : decode (mC 71) 21 = .ok (.iload 4, 2) := by decide +kernel
theorem d_71_23 : decode (mC 71) 23 = .ok (.putfield 23, 3) := by decide +kernel
theorem d_71_26 : decode (mC 71) 26 = .ok (.return_, 1) := by decide +kernel
theorem d_72_0 : decode (mC 72) 0 = .ok (.aload_n 0, 1) := by decide +kernel
theorem d_72_1 : decode (mC 72) 1 = .ok (.lload_n 1, 1) := by decide +kernel
theorem d_72_2 : decode (mC 72) 2 = .ok (.invokevirtual 32, 3) := by decide +kernel
theorem d_72_5 : decode (mC 72) 5 = .ok (.goto 6, 3) := by decide +kernel
theorem d_72_8 : decode (mC 72) 8 = .ok (.astore_n 3, 1) := by decide +kernel
theorem d_72_9 : decode (mC 72) 9 = .ok (.iconst 1, 1) := by decide +kernel
theorem d_72_10 : decode (mC 72) 10 = .ok (.ireturn, 1) := by decide +kernel
theorem d_72_11 : decode (mC 72) 11 = .ok (.iconst 0, 1) := by decide +kernel
theorem d_72_12 : decode (mC 72) 12 = .ok (.ireturn, 1) := by decide +kernel
theorem d_73_0 : decode (mC 73) 0 = .ok (.lload_n 1, 1) := by decide +kernel
theorem d_73_1 : decode (mC 73) 1 = .ok (.invokestatic 82, 3) := by decide +kernel
theorem d_73_4 : decode (mC 73) 4 = .ok (.invokestatic 50, 3) := by decide +kernel
theorem d_73_7 : decode (mC 73) 7 = .ok (.aload_n 0, 1) := by decide +kernel
theorem d_73_8 : decode (mC 73) 8 = .ok (.dup, 1) := by decide +kernel
theorem d_73_9 : decode (mC 73) 9 = .ok (.getfield 88, 3) := by decide +kernel
theorem d_73_12 : decode (mC 73) 12 = .ok (.lload_n 1, 1) := by decide +kernel
theorem d_73_13 : decode (mC 73) 13 = .ok (.lxor, 1) := by decide +kernel
theorem d_73_14 : decode (mC 73) 14 = .ok (.putfield 88, 3) := by decide +kernel
theorem d_73_17 : decode (mC 73) 17 = .ok (.return_, 1) := by decide +kernel
theorem d_74_0 : decode (mC 74) 0 = .ok (.lload_n 0, 1) := by decide +kernel
theorem d_74_1 : decode (mC 74) 1 = .ok (.bipush 57, 2) := by decide +kernel
theorem d_74_3 : decode (mC 74) 3 = .ok (.lushr, 1) := by decide +kernel
theorem d_74_4 : decode (mC 74) 4 = .ok (.lconst 0, 1) := by decide +kernel
theorem d_74_5 : decode (mC 74) 5 = .ok (.lcmp, 1) := by decide +kernel
theorem d_74_6 : decode (mC 74) 6 = .ok (.ifCond .ne 7, 3) := by decide +kernel
theorem d_74_9 : decode (mC 74) 9 = .ok (.iconst 1, 1) := by decide +kernel
theorem d_74_10 : decode (mC 74) 10 = .ok (.goto 4, 3) := by decide +kernel
theorem d_74_13 : decode (mC 74) 13 = .ok (.iconst 0, 1) := by decide +kernel
theorem d_74_14 : decode (mC 74) 14 = .ok (.ireturn, 1) := by decide +kernel
theorem d_75_0 : decode (mC 75) 0 = .ok (.aload_n 2, 1) := by decide +kernel
theorem d_75_1 : decode (mC 75) 1 = .ok (.iconst 0, 1) := by decide +kernel
theorem d_75_2 : decode (mC 75) 2 = .ok (.aload_n 0, 1) := by decide +kernel
theorem d_75_3 : decode (mC 75) 3 = .ok (.iload_n 1, 1) := by decide +kernel
theorem d_75_4 : decode (mC 75) 4 = .ok (.invokevirtual 36, 3) := by decide +kernel
theorem d_75_7 : decode (mC 75) 7 = .ok (.i2l, 1) := by decide +kernel
theorem d_75_8 : decode (mC 75) 8 = .ok (.lastore, 1) := by decide +kernel
theorem d_75_9 : decode (mC 75) 9 = .ok (.goto 6, 3) := by decide +kernel
theorem d_75_12 : decode (mC 75) 12 = .ok (.astore_n 3, 1) := by decide +kernel
theorem d_75_13 : decode (mC 75) 13 = .ok (.iconst 1, 1) := by decide +kernel
theorem d_75_14 : decode (mC 75) 14 = .ok (.ireturn, 1) := by decide +kernel
theorem d_75_15 : decode (mC 75) 15 = .ok (.iconst 0, 1) := by decide +kernel
theorem d_75_16 : decode (mC 75) 16 = .ok (.ireturn, 1) := by decide +kernel
theorem d_76_0 : decode (mC 76) 0 = .ok (.iload_n 1, 1) := by decide +kernel
theorem d_76_1 : decode (mC 76) 1 = .ok (.iconst 0, 1) := by decide +kernel
theorem d_76_2 : decode (mC 76) 2 = .ok (.sipush 1000, 3) := by decide +kernel
theorem d_76_5 : decode (mC 76) 5 = .ok (.aload_n 0, 1) := by decide +kernel
theorem d_76_6 : decode (mC 76) 6 = .ok (.getfield 91, 3) := by decide +kernel
theorem d_76_9 : decode (mC 76) 9 = .ok (.isub, 1) := by decide +kernel
theorem d_76_10 : decode (mC 76) 10 = .ok (.invokestatic 46, 3) := by decide +kernel
theorem d_76_13 : decode (mC 76) 13 = .ok (.invokestatic 50, 3) := by decide +kernel
theorem d_76_16 : decode (mC 76) 16 = .ok (.aload_n 0, 1) := by decide +kernel
theorem d_76_17 : decode (mC 76) 17 = .ok (.dup, 1) := by decide +kernel
theorem d_76_18 : decode (mC 76) 18 = .ok (.getfield 91, 3) := by decide +kernel
theorem d_76_21 : decode (mC 76) 21 = .ok (.iload_n 1, 1) := by decide +kernel
theorem d_76_22 : decode (mC 76) 22 = .ok (.iadd, 1) := by decide +kernel
theorem d_76_23 : decode (mC 76) 23 = .ok (.putfield 91, 3) := by decide +kernel
theorem d_76_26 : decode (mC 76) 26 = .ok (.aload_n 0, 1) := by decide +kernel
theorem d_76_27 : decode (mC 76) 27 = .ok (.getfield 91, 3) := by decide +kernel
theorem d_76_30 : decode (mC 76) 30 = .ok (.ireturn, 1) := by decide +kernel
theorem d_77_0 : decode (mC 77) 0 = .ok (.aload_n 2, 1) := by decide +kernel
theorem d_77_1 : decode (mC 77) 1 = .ok (.iconst 0, 1) := by decide +kernel
theorem d_77_2 : decode (mC 77) 2 = .ok (.aload_n 0, 1) := by decide +kernel
theorem d_77_3 : decode (mC 77) 3 = .ok (.iload_n 1, 1) := by decide +kernel
theorem d_77_4 : decode (mC 77) 4 = .ok (.invokevirtual 39, 3) := by decide +kernel
theorem d_77_7 : decode (mC 77) 7 = .ok (.i2l, 1) := by decide +kernel
theorem d_77_8 : decode (mC 77) 8 = .ok (.lastore, 1) := by decide +kernel
theorem d_77_9 : decode (mC 77) 9 = .ok (.goto 6, 3) := by decide +kernel
theorem d_77_12 : decode (mC 77) 12 = .ok (.astore_n 3, 1) := by decide +kernel
theorem d_77_13 : decode (mC 77) 13 = .ok (.iconst 1, 1) := by decide +kernel
theorem d_77_14 : decode (mC 77) 14 = .ok (.ireturn, 1) := by decide +kernel
theorem d_77_15 : decode (mC 77) 15 = .ok (.iconst 0, 1) := by decide +kernel
theorem d_77_16 : decode (mC 77) 16 = .ok (.ireturn, 1) := by decide +kernel
theorem d_78_0 : decode (mC 78) 0 = .ok (.iload_n 1, 1) := by decide +kernel
theorem d_78_1 : decode (mC 78) 1 = .ok (.invokestatic 24, 3) := by decide +kernel
theorem d_78_4 : decode (mC 78) 4 = .ok (.aload_n 0, 1) := by decide +kernel
theorem d_78_5 : decode (mC 78) 5 = .ok (.getfield 11, 3) := by decide +kernel
theorem d_78_8 : decode (mC 78) 8 = .ok (.iload_n 1, 1) := by decide +kernel
theorem d_78_9 : decode (mC 78) 9 = .ok (.aaload, 1) := by decide +kernel
theorem d_78_10 : decode (mC 78) 10 = .ok (.getfield 42, 3) := by decide +kernel
theorem d_78_13 : decode (mC 78) 13 = .ok (.ireturn, 1) := by decide +kernel
theorem d_79_0 : decode (mC 79) 0 = .ok (.aload_n 3, 1) := by decide +kernel
theorem d_79_1 : decode (mC 79) 1 = .ok (.iconst 0, 1) := by decide +kernel
theorem d_79_2 : decode (mC 79) 2 = .ok (.aload_n 0, 1) := by decide +kernel
theorem d_79_3 : decode (mC 79) 3 = .ok (.iload_n 1, 1) := by decide +kernel
theorem d_79_4 : decode (mC 79) 4 = .ok (.iload_n 2, 1) := by decide +kernel
theorem d_79_5 : decode (mC 79) 5 = .ok (.invokevirtual 42, 3) := by decide +kernel
theorem d_79_8 : decode (mC 79) 8 = .ok (.i2l, 1) := by decide +kernel
theorem d_79_9 : decode (mC 79) 9 = .ok (.lastore, 1) := by decide +kernel
theorem d_79_10 : decode (mC 79) 10 = .ok (.goto 11, 3) := by decide +kernel
theorem d_79_13 : decode (mC 79) 13 = .ok (.astore 4, 2) := by decide +kernel
theorem d_79_15 : decode (mC 79) 15 = .ok (.iconst 1, 1) := by decide +kernel
theorem d_79_16 : decode (mC 79) 16 = .ok (.ireturn, 1) := by decide +kernel
theorem d_79_17 : decode (mC 79) 17 = .ok (.astore 4, 2) := by decide +kernel
theorem d_79_19 : decode (mC 79) 19 = .ok (.iconst 2, 1) := by decide +kernel
theorem d_79_20 : decode (mC 79) 20 = .ok (.ireturn, 1) := by decide +kernel
theorem d_79_21 : decode (mC 79) 21 = .ok (.iconst 0, 1) := by decide +kernel
theorem d_79_22 : decode (mC 79) 22 = .ok (.ireturn, 1) := by decide +kernel
theorem d_80_0 : decode (mC 80) 0 = .ok (.iload_n 1, 1) := by decide +kernel
theorem d_80_1 : decode (mC 80) 1 = .ok (.invokestatic 24, 3) := by decide +kernel
theorem d_80_4 : decode (mC 80) 4 = .ok (.iload_n 2, 1) := by decide +kernel
theorem d_80_5 : decode (mC 80) 5 = .ok (.iconst 0, 1) := by decide +kernel
theorem d_80_6 : decode (mC 80) 6 = .ok (.iconst 5, 1) := by decide +kernel
theorem d_80_7 : decode (mC 80) 7 = .ok (.invokestatic 46, 3) := by decide +kernel
theorem d_80_10 : decode (mC 80) 10 = .ok (.invokestatic 50, 3) := by decide +kernel
theorem d_80_13 : decode (mC 80) 13 = .ok (.aload_n 0, 1) := by decide +kernel
theorem d_80_14 : decode (mC 80) 14 = .ok (.getfield 11, 3) := by decide +kernel
theorem d_80_17 : decode (mC 80) 17 = .ok (.iload_n 1, 1) := by decide +kernel
theorem d_80_18 : decode (mC 80) 18 = .ok (.aaload, 1) := by decide +kernel
theorem d_80_19 : decode (mC 80) 19 = .ok (.astore_n 3, 1) := by decide +kernel
theorem d_80_20 : decode (mC 80) 20 = .ok (.aload_n 3, 1) := by decide +kernel
theorem d_80_21 : decode (mC 80) 21 = .ok (.invokevirtual 94, 3) := by decide +kernel
theorem d_80_24 : decode (mC 80) 24 = .ok (.ifCond .ne 13, 3) := by decide +kernel
theorem d_80_27 : decode (mC 80) 27 = .ok (.new 32, 3) := by decide +kernel
theorem d_80_30 : decode (mC 80) 30 = .ok (.dup, 1) := by decide +kernel
theorem d_80_31 : decode (mC 80) 31 = .ok (.ldc 97, 2) := by decide +kernel
theorem d_80_33 : decode (mC 80) 33 = .ok (.invokespecial 36, 3) := by decide +kernel
theorem d_80_36 : decode (mC 80) 36 = .ok (.athrow, 1) := by decide +kernel
theorem d_80_37 : decode (mC 80) 37 = .ok (.iload_n 2, 1) := by decide +kernel
theorem d_80_38 : decode (mC 80) 38 = .ok (.tableswitch 71 0 4 #[34, 42, 50, 58, 66], 34) := by decide +kernel
theorem d_80_72 : decode (mC 80) 72 = .ok (.aload_n 3, 1) := by decide +kernel
theorem d_80_73 : decode (mC 80) 73 = .ok (.getfield 99, 3) := by decide +kernel
theorem d_80_76 : decode (mC 80) 76 = .ok (.getfield 103, 3) := by decide +kernel
theorem d_80_79 : decode (mC 80) 79 = .ok (.ireturn, 1) := by decide +kernel
theorem d_80_80 : decode (mC 80) 80 = .ok (.aload_n 3, 1) := by decide +kernel
theorem d_80_81 : decode (mC 80) 81 = .ok (.getfield 99, 3) := by decide +kernel
theorem d_80_84 : decode (mC 80) 84 = .ok (.getfield 108, 3) := by decide +kernel
theorem d_80_87 : decode (mC 80) 87 = .ok (.ireturn, 1) := by decide +kernel
theorem d_80_88 : decode (mC 80) 88 = .ok (.aload_n 3, 1) := by decide +kernel
theorem d_80_89 : decode (mC 80) 89 = .ok (.getfield 99, 3) := by decide +kernel
theorem d_80_92 : decode (mC 80) 92 = .ok (.getfield 111, 3) := by decide +kernel
theorem d_80_95 : decode (mC 80) 95 = .ok (.ireturn, 1) := by decide +kernel
theorem d_80_96 : decode (mC 80) 96 = .ok (.aload_n 3, 1) := by decide +kernel
theorem d_80_97 : decode (mC 80) 97 = .ok (.getfield 99, 3) := by decide +kernel
theorem d_80_100 : decode (mC 80) 100 = .ok (.getfield 114, 3) := by decide +kernel
theorem d_80_103 : decode (mC 80) 103 = .ok (.ireturn, 1) := by decide +kernel
theorem d_80_104 : decode (mC 80) 104 = .ok (.aload_n 3, 1) := by decide +kernel
theorem d_80_105 : decode (mC 80) 105 = .ok (.getfield 117, 3) := by decide +kernel
theorem d_80_108 : decode (mC 80) 108 = .ok (.ireturn, 1) := by decide +kernel
theorem d_80_109 : decode (mC 80) 109 = .ok (.aload_n 3, 1) := by decide +kernel
theorem d_80_110 : decode (mC 80) 110 = .ok (.getfield 120, 3) := by decide +kernel
theorem d_80_113 : decode (mC 80) 113 = .ok (.ireturn, 1) := by decide +kernel
theorem d_81_0 : decode (mC 81) 0 = .ok (.aload_n 0, 1) := by decide +kernel
theorem d_81_1 : decode (mC 81) 1 = .ok (.invokevirtual 59, 3) := by decide +kernel
theorem d_81_4 : decode (mC 81) 4 = .ok (.ifCond .eq 15, 3) := by decide +kernel
theorem d_81_7 : decode (mC 81) 7 = .ok (.aload_n 0, 1) := by decide +kernel
theorem d_81_8 : decode (mC 81) 8 = .ok (.getfield 56, 3) := by decide +kernel
theorem d_81_11 : decode (mC 81) 11 = .ok (.iconst 1, 1) := by decide +kernel
theorem d_81_12 : decode (mC 81) 12 = .ok (.if_icmp .eq 7, 3) := by decide +kernel
theorem d_81_15 : decode (mC 81) 15 = .ok (.iconst 1, 1) := by decide +kernel
theorem d_81_16 : decode (mC 81) 16 = .ok (.goto 4, 3) := by decide +kernel
theorem d_81_19 : decode (mC 81) 19 = .ok (.iconst 0, 1) := by decide +kernel
theorem d_81_20 : decode (mC 81) 20 = .ok (.ireturn, 1) := by decide +kernel
theorem d_82_0 : decode (mC 82) 0 = .ok (.aload 4, 2) := by decide +kernel
theorem d_82_2 : decode (mC 82) 2 = .ok (.iconst 0, 1) := by decide +kernel
theorem d_82_3 : decode (mC 82) 3 = .ok (.aload_n 0, 1) := by decide +kernel
theorem d_82_4 : decode (mC 82) 4 = .ok (.iload_n 1, 1) := by decide +kernel
theorem d_82_5 : decode (mC 82) 5 = .ok (.iload_n 2, 1) := by decide +kernel
theorem d_82_6 : decode (mC 82) 6 = .ok (.iload_n 3, 1) := by decide +kernel
theorem d_82_7 : decode (mC 82) 7 = .ok (.invokevirtual 46, 3) := by decide +kernel
theorem d_82_10 : decode (mC 82) 10 = .ok (.i2l, 1) := by decide +kernel
theorem d_82_11 : decode (mC 82) 11 = .ok (.lastore, 1) := by decide +kernel
theorem d_82_12 : decode (mC 82) 12 = .ok (.goto 11, 3) := by decide +kernel
theorem d_82_15 : decode (mC 82) 15 = .ok (.astore 5, 2) := by decide +kernel
theorem d_82_17 : decode (mC 82) 17 = .ok (.iconst 1, 1) := by decide +kernel
theorem d_82_18 : decode (mC 82) 18 = .ok (.ireturn, 1) := by decide +kernel
theorem d_82_19 : decode (mC 82) 19 = .ok (.astore 5, 2) := by decide +kernel
theorem d_82_21 : decode (mC 82) 21 = .ok (.iconst 2, 1) := by decide +kernel
theorem d_82_22 : decode (mC 82) 22 = .ok (.ireturn, 1) := by decide +kernel
theorem d_82_23 : decode (mC 82) 23 = .ok (.iconst 0, 1) := by decide +kernel
theorem d_82_24 : decode (mC 82) 24 = .ok (.ireturn, 1) := by decide +kernel
theorem d_83_0 : decode (mC 83) 0 = .ok (.iload_n 1, 1) := by decide +kernel
theorem d_83_1 : decode (mC 83) 1 = .ok (.invokestatic 24, 3) := by decide +kernel
theorem d_83_4 : decode (mC 83) 4 = .ok (.iload_n 2, 1) := by decide +kernel
theorem d_83_5 : decode (mC 83) 5 = .ok (.invokestatic 24, 3) := by decide +kernel
theorem d_83_8 : decode (mC 83) 8 = .ok (.aload_n 0, 1) := by decide +kernel
theorem d_83_9 : decode (mC 83) 9 = .ok (.getfield 11, 3) := by decide +kernel
theorem d_83_12 : decode (mC 83) 12 = .ok (.iload_n 1, 1) := by decide +kernel
theorem d_83_13 : decode (mC 83) 13 = .ok (.aaload, 1) := by decide +kernel
theorem d_83_14 : decode (mC 83) 14 = .ok (.getfield 123, 3) := by decide +kernel
theorem d_83_17 : decode (mC 83) 17 = .ok (.astore 4, 2) := by decide +kernel
theorem d_83_19 : decode (mC 83) 19 = .ok (.iload_n 1, 1) := by decide +kernel
theorem d_83_20 : decode (mC 83) 20 = .ok (.iload_n 2, 1) := by decide +kernel
theorem d_83_21 : decode (mC 83) 21 = .ok (.if_icmp .eq 13, 3) := by decide +kernel
theorem d_83_24 : decode (mC 83) 24 = .ok (.aload 4, 2) := by decide +kernel
theorem d_83_26 : decode (mC 83) 26 = .ok (.iload_n 2, 1) := by decide +kernel
theorem d_83_27 : decode (mC 83) 27 = .ok (.iload_n 3, 1) := by decide +kernel
theorem d_83_28 : decode (mC 83) 28 = .ok (.invokevirtual 127, 3) := by decide +kernel
theorem d_83_31 : decode (mC 83) 31 = .ok (.ifCond .ne 13, 3) := by decide +kernel
theorem d_83_34 : decode (mC 83) 34 = .ok (.new 133, 3) := by decide +kernel
theorem d_83_37 : decode (mC 83) 37 = .ok (.dup, 1) := by decide +kernel
theorem d_83_38 : decode (mC 83) 38 = .ok (.ldc 135, 2) := by decide +kernel
theorem d_83_40 : decode (mC 83) 40 = .ok (.invokespecial 137, 3) := by decide +kernel
theorem d_83_43 : decode (mC 83) 43 = .ok (.athrow, 1) := by decide +kernel
theorem d_83_44 : decode (mC 83) 44 = .ok (.aload 4, 2) := by decide +kernel
theorem d_83_46 : decode (mC 83) 46 = .ok (.iload_n 2, 1) := by decide +kernel
theorem d_83_47 : decode (mC 83) 47 = .ok (.iload_n 3, 1) := by decide +kernel
theorem d_83_48 : decode (mC 83) 48 = .ok (.invokevirtual 138, 3) := by decide +kernel
theorem d_83_51 : decode (mC 83) 51 = .ok (.ireturn, 1) := by decide +kernel
theorem d_84_0 : decode (mC 84) 0 = .ok (.aload_n 0, 1) := by decide +kernel
theorem d_84_1 : decode (mC 84) 1 = .ok (.iload_n 1, 1) := by decide +kernel
theorem d_84_2 : decode (mC 84) 2 = .ok (.iload_n 2, 1) := by decide +kernel
theorem d_84_3 : decode (mC 84) 3 = .ok (.invokevirtual 31, 3) := by decide +kernel
theorem d_84_6 : decode (mC 84) 6 = .ok (.sipush 1000, 3) := by decide +kernel
theorem d_84_9 : decode (mC 84) 9 = .ok (.if_icmp .eq 7, 3) := by decide +kernel
theorem d_84_12 : decode (mC 84) 12 = .ok (.iconst 1, 1) := by decide +kernel
theorem d_84_13 : decode (mC 84) 13 = .ok (.goto 4, 3) := by decide +kernel
theorem d_84_16 : decode (mC 84) 16 = .ok (.iconst 0, 1) := by decide +kernel
theorem d_84_17 : decode (mC 84) 17 = .ok (.ireturn, 1) := by decide +kernel
theorem d_85_0 : decode (mC 85) 0 = .ok (.iload_n 2, 1) := by decide +kernel
theorem d_85_1 : decode (mC 85) 1 = .ok (.ifCond .eq 12, 3) := by decide +kernel
theorem d_85_4 : decode (mC 85) 4 = .ok (.aload_n 0, 1) := by decide +kernel
theorem d_85_5 : decode (mC 85) 5 = .ok (.getfield 15, 3) := by decide +kernel
theorem d_85_8 : decode (mC 85) 8 = .ok (.iload_n 1, 1) := by decide +kernel
theorem d_85_9 : decode (mC 85) 9 = .ok (.iaload, 1) := by decide +kernel
theorem d_85_10 : decode (mC 85) 10 = .ok (.goto 9, 3) := by decide +kernel
theorem d_85_13 : decode (mC 85) 13 = .ok (.aload_n 0, 1) := by decide +kernel
theorem d_85_14 : decode (mC 85) 14 = .ok (.getfield 9, 3) := by decide +kernel
theorem d_85_17 : decode (mC 85) 17 = .ok (.iload_n 1, 1) := by decide +kernel
theorem d_85_18 : decode (mC 85) 18 = .ok (.iaload, 1) := by decide +kernel
theorem d_85_19 : decode (mC 85) 19 = .ok (.ireturn, 1) := by decide +kernel
theorem d_86_0 : decode (mC 86) 0 = .ok (.aload_n 3, 1) := by decide +kernel
theorem d_86_1 : decode (mC 86) 1 = .ok (.iconst 0, 1) := by decide +kernel
theorem d_86_2 : decode (mC 86) 2 = .ok (.aload_n 0, 1) := by decide +kernel
theorem d_86_3 : decode (mC 86) 3 = .ok (.iload_n 1, 1) := by decide +kernel
theorem d_86_4 : decode (mC 86) 4 = .ok (.iload_n 2, 1) := by decide +kernel
theorem d_86_5 : decode (mC 86) 5 = .ok (.invokevirtual 52, 3) := by decide +kernel
theorem d_86_8 : decode (mC 86) 8 = .ok (.i2l, 1) := by decide +kernel
theorem d_86_9 : decode (mC 86) 9 = .ok (.lastore, 1) := by decide +kernel
theorem d_86_10 : decode (mC 86) 10 = .ok (.goto 11, 3) := by decide +kernel
theorem d_86_13 : decode (mC 86) 13 = .ok (.astore 4, 2) := by decide +kernel
theorem d_86_15 : decode (mC 86) 15 = .ok (.iconst 1, 1) := by decide +kernel
theorem d_86_16 : decode (mC 86) 16 = .ok (.ireturn, 1) := by decide +kernel
theorem d_86_17 : decode (mC 86) 17 = .ok (.astore 4, 2) := by decide +kernel
theorem d_86_19 : decode (mC 86) 19 = .ok (.iconst 2, 1) := by decide +kernel
theorem d_86_20 : decode (mC 86) 20 = .ok (.ireturn, 1) := by decide +kernel
theorem d_86_21 : decode (mC 86) 21 = .ok (.iconst 0, 1) := by decide +kernel
theorem d_86_22 : decode (mC 86) 22 = .ok (.ireturn, 1) := by decide +kernel
theorem d_87_0 : decode (mC 87) 0 = .ok (.iload_n 1, 1) := by decide +kernel
theorem d_87_1 : decode (mC 87) 1 = .ok (.invokestatic 24, 3) := by decide +kernel
theorem d_87_4 : decode (mC 87) 4 = .ok (.iload_n 2, 1) := by decide +kernel
theorem d_87_5 : decode (mC 87) 5 = .ok (.iconst 1, 1) := by decide +kernel
theorem d_87_6 : decode (mC 87) 6 = .ok (.bipush 9, 2) := by decide +kernel
theorem d_87_8 : decode (mC 87) 8 = .ok (.invokestatic 46, 3) := by decide +kernel
theorem d_87_11 : decode (mC 87) 11 = .ok (.invokestatic 50, 3) := by decide +kernel
theorem d_87_14 : decode (mC 87) 14 = .ok (.aload_n 0, 1) := by decide +kernel
theorem d_87_15 : decode (mC 87) 15 = .ok (.getfield 11, 3) := by decide +kernel
theorem d_87_18 : decode (mC 87) 18 = .ok (.iload_n 1, 1) := by decide +kernel
theorem d_87_19 : decode (mC 87) 19 = .ok (.aaload, 1) := by decide +kernel
theorem d_87_20 : decode (mC 87) 20 = .ok (.getfield 142, 3) := by decide +kernel
theorem d_87_23 : decode (mC 87) 23 = .ok (.iload_n 2, 1) := by decide +kernel
theorem d_87_24 : decode (mC 87) 24 = .ok (.iaload, 1) := by decide +kernel
theorem d_87_25 : decode (mC 87) 25 = .ok (.istore_n 3, 1) := by decide +kernel
theorem d_87_26 : decode (mC 87) 26 = .ok (.iload_n 3, 1) := by decide +kernel
theorem d_87_27 : decode (mC 87) 27 = .ok (.iconst (-1), 1) := by decide +kernel
theorem d_87_28 : decode (mC 87) 28 = .ok (.if_icmp .ne 13, 3) := by decide +kernel
theorem d_87_31 : decode (mC 87) 31 = .ok (.new 133, 3) := by decide +kernel
theorem d_87_34 : decode (mC 87) 34 = .ok (.dup, 1) := by decide +kernel
theorem d_87_35 : decode (mC 87) 35 = .ok (.ldc 146, 2) := by decide +kernel
theorem d_87_37 : decode (mC 87) 37 = .ok (.invokespecial 137, 3) := by decide +kernel
theorem d_87_40 : decode (mC 87) 40 = .ok (.athrow, 1) := by decide +kernel
theorem d_87_41 : decode (mC 87) 41 = .ok (.iload_n 3, 1) := by decide +kernel
theorem d_87_42 : decode (mC 87) 42 = .ok (.ireturn, 1) := by decide +kernel
theorem d_88_0 : decode (mC 88) 0 = .ok (.aload_n 1, 1) := by decide +kernel
theorem d_88_1 : decode (mC 88) 1 = .ok (.iconst 0, 1) := by decide +kernel
theorem d_88_2 : decode (mC 88) 2 = .ok (.aload_n 0, 1) := by decide +kernel
theorem d_88_3 : decode (mC 88) 3 = .ok (.invokevirtual 55, 3) := by decide +kernel
theorem d_88_6 : decode (mC 88) 6 = .ok (.lastore, 1) := by decide +kernel
theorem d_88_7 : decode (mC 88) 7 = .ok (.goto 6, 3) := by decide +kernel
theorem d_88_10 : decode (mC 88) 10 = .ok (.astore_n 2, 1) := by decide +kernel
theorem d_88_11 : decode (mC 88) 11 = .ok (.iconst 1, 1) := by decide +kernel
theorem d_88_12 : decode (mC 88) 12 = .ok (.ireturn, 1) := by decide +kernel
theorem d_88_13 : decode (mC 88) 13 = .ok (.iconst 0, 1) := by decide +kernel
theorem d_88_14 : decode (mC 88) 14 = .ok (.ireturn, 1) := by decide +kernel
theorem d_89_0 : decode (mC 89) 0 = .ok (.aload_n 0, 1) := by decide +kernel
theorem d_89_1 : decode (mC 89) 1 = .ok (.getfield 20, 3) := by decide +kernel
theorem d_89_4 : decode (mC 89) 4 = .ok (.ldc2_w 18, 3) := by decide +kernel
theorem d_89_7 : decode (mC 89) 7 = .ok (.lcmp, 1) := by decide +kernel
theorem d_89_8 : decode (mC 89) 8 = .ok (.ifCond .ne 13, 3) := by decide +kernel
theorem d_89_11 : decode (mC 89) 11 = .ok (.new 133, 3) := by decide +kernel
theorem d_89_14 : decode (mC 89) 14 = .ok (.dup, 1) := by decide +kernel
theorem d_89_15 : decode (mC 89) 15 = .ok (.ldc 148, 2) := by decide +kernel
theorem d_89_17 : decode (mC 89) 17 = .ok (.invokespecial 137, 3) := by decide +kernel
theorem d_89_20 : decode (mC 89) 20 = .ok (.athrow, 1) := by decide +kernel
theorem d_89_21 : decode (mC 89) 21 = .ok (.aload_n 0, 1) := by decide +kernel
theorem d_89_22 : decode (mC 89) 22 = .ok (.getfield 20, 3) := by decide +kernel
theorem d_89_25 : decode (mC 89) 25 = .ok (.lreturn, 1) := by decide +kernel
theorem d_90_0 : decode (mC 90) 0 = .ok (.aload 5, 2) := by decide +kernel
theorem d_90_2 : decode (mC 90) 2 = .ok (.iconst 0, 1) := by decide +kernel
theorem d_90_3 : decode (mC 90) 3 = .ok (.aload_n 0, 1) := by decide +kernel
theorem d_90_4 : decode (mC 90) 4 = .ok (.iload_n 1, 1) := by decide +kernel
theorem d_90_5 : decode (mC 90) 5 = .ok (.iload_n 2, 1) := by decide +kernel
theorem d_90_6 : decode (mC 90) 6 = .ok (.iload_n 3, 1) := by decide +kernel
theorem d_90_7 : decode (mC 90) 7 = .ok (.iload 4, 2) := by decide +kernel
theorem d_90_9 : decode (mC 90) 9 = .ok (.invokevirtual 59, 3) := by decide +kernel
theorem d_90_12 : decode (mC 90) 12 = .ok (.lastore, 1) := by decide +kernel
theorem d_90_13 : decode (mC 90) 13 = .ok (.goto 7, 3) := by decide +kernel
theorem d_90_16 : decode (mC 90) 16 = .ok (.astore 6, 2) := by decide +kernel
theorem d_90_18 : decode (mC 90) 18 = .ok (.iconst 1, 1) := by decide +kernel
theorem d_90_19 : decode (mC 90) 19 = .ok (.ireturn, 1) := by decide +kernel
theorem d_90_20 : decode (mC 90) 20 = .ok (.iconst 0, 1) := by decide +kernel
theorem d_90_21 : decode (mC 90) 21 = .ok (.ireturn, 1) := by decide +kernel
theorem d_91_0 : decode (mC 91) 0 = .ok (.iload_n 1, 1) := by decide +kernel
theorem d_91_1 : decode (mC 91) 1 = .ok (.iconst 0, 1) := by decide +kernel
theorem d_91_2 : decode (mC 91) 2 = .ok (.bipush 31, 2) := by decide +kernel
theorem d_91_4 : decode (mC 91) 4 = .ok (.invokestatic 46, 3) := by decide +kernel
theorem d_91_7 : decode (mC 91) 7 = .ok (.invokestatic 50, 3) := by decide +kernel
theorem d_91_10 : decode (mC 91) 10 = .ok (.iload_n 2, 1) := by decide +kernel
theorem d_91_11 : decode (mC 91) 11 = .ok (.iconst 0, 1) := by decide +kernel
theorem d_91_12 : decode (mC 91) 12 = .ok (.bipush 63, 2) := by decide +kernel
theorem d_91_14 : decode (mC 91) 14 = .ok (.invokestatic 46, 3) := by decide +kernel
theorem d_91_17 : decode (mC 91) 17 = .ok (.invokestatic 50, 3) := by decide +kernel
theorem d_91_20 : decode (mC 91) 20 = .ok (.iload 4, 2) := by decide +kernel
theorem d_91_22 : decode (mC 91) 22 = .ok (.iconst 0, 1) := by decide +kernel
theorem d_91_23 : decode (mC 91) 23 = .ok (.sipush 1023, 3) := by decide +kernel
theorem d_91_26 : decode (mC 91) 26 = .ok (.invokestatic 46, 3) := by decide +kernel
theorem d_91_29 : decode (mC 91) 29 = .ok (.invokestatic 50, 3) := by decide +kernel
theorem d_91_32 : decode (mC 91) 32 = .ok (.iload_n 1, 1) := by decide +kernel
theorem d_91_33 : decode (mC 91) 33 = .ok (.iload_n 2, 1) := by decide +kernel
theorem d_91_34 : decode (mC 91) 34 = .ok (.iload_n 3, 1) := by decide +kernel
theorem d_91_35 : decode (mC 91) 35 = .ok (.iload 4, 2) := by decide +kernel
theorem d_91_37 : decode (mC 91) 37 = .ok (.invokestatic 150, 3) := by decide +kernel
theorem d_91_40 : decode (mC 91) 40 = .ok (.lreturn, 1) := by decide +kernel
theorem d_92_0 : decode (mC 92) 0 = .ok (.aload_n 3, 1) := by decide +kernel
theorem d_92_1 : decode (mC 92) 1 = .ok (.iconst 0, 1) := by decide +kernel
theorem d_92_2 : decode (mC 92) 2 = .ok (.aload_n 0, 1) := by decide +kernel
theorem d_92_3 : decode (mC 92) 3 = .ok (.lload_n 1, 1) := by decide +kernel
theorem d_92_4 : decode (mC 92) 4 = .ok (.invokevirtual 63, 3) := by decide +kernel
theorem d_92_7 : decode (mC 92) 7 = .ok (.i2l, 1) := by decide +kernel
theorem d_92_8 : decode (mC 92) 8 = .ok (.lastore, 1) := by decide +kernel
theorem d_92_9 : decode (mC 92) 9 = .ok (.goto 11, 3) := by decide +kernel
theorem d_92_12 : decode (mC 92) 12 = .ok (.astore 4, 2) := by decide +kernel
theorem d_92_14 : decode (mC 92) 14 = .ok (.iconst 1, 1) := by decide +kernel
theorem d_92_15 : decode (mC 92) 15 = .ok (.ireturn, 1) := by decide +kernel
theorem d_92_16 : decode (mC 92) 16 = .ok (.astore 4, 2) := by decide +kernel
theorem d_92_18 : decode (mC 92) 18 = .ok (.iconst 2, 1) := by decide +kernel
theorem d_92_19 : decode (mC 92) 19 = .ok (.ireturn, 1) := by decide +kernel
theorem d_92_20 : decode (mC 92) 20 = .ok (.iconst 0, 1) := by decide +kernel
theorem d_92_21 : decode (mC 92) 21 = .ok (.ireturn, 1) := by decide +kernel
theorem d_93_0 : decode (mC 93) 0 = .ok (.lload_n 1, 1) := by decide +kernel
theorem d_93_1 : decode (mC 93) 1 = .ok (.invokestatic 82, 3) := by decide +kernel
theorem d_93_4 : decode (mC 93) 4 = .ok (.ifCond .eq 14, 3) := by decide +kernel
theorem d_93_7 : decode (mC 93) 7 = .ok (.lload_n 1, 1) := by decide +kernel
theorem d_93_8 : decode (mC 93) 8 = .ok (.invokestatic 154, 3) := by decide +kernel
theorem d_93_11 : decode (mC 93) 11 = .ok (.ifCond .eq 7, 3) := by decide +kernel
theorem d_93_14 : decode (mC 93) 14 = .ok (.iconst 1, 1) := by decide +kernel
theorem d_93_15 : decode (mC 93) 15 = .ok (.goto 4, 3) := by decide +kernel
theorem d_93_18 : decode (mC 93) 18 = .ok (.iconst 0, 1) := by decide +kernel
theorem d_93_19 : decode (mC 93) 19 = .ok (.invokestatic 50, 3) := by decide +kernel
theorem d_93_22 : decode (mC 93) 22 = .ok (.lload_n 1, 1) := by decide +kernel
theorem d_93_23 : decode (mC 93) 23 = .ok (.invokestatic 157, 3) := by decide +kernel
theorem d_93_26 : decode (mC 93) 26 = .ok (.ifCond .ne 13, 3) := by decide +kernel
theorem d_93_29 : decode (mC 93) 29 = .ok (.new 32, 3) := by decide +kernel
theorem d_93_32 : decode (mC 93) 32 = .ok (.dup, 1) := by decide +kernel
theorem d_93_33 : decode (mC 93) 33 = .ok (.ldc 160, 2) := by decide +kernel
theorem d_93_35 : decode (mC 93) 35 = .ok (.invokespecial 36, 3) := by decide +kernel
theorem d_93_38 : decode (mC 93) 38 = .ok (.athrow, 1) := by decide +kernel
theorem d_93_39 : decode (mC 93) 39 = .ok (.lload_n 1, 1) := by decide +kernel
theorem d_93_40 : decode (mC 93) 40 = .ok (.invokestatic 162, 3) := by decide +kernel
theorem d_93_43 : decode (mC 93) 43 = .ok (.ifCond .eq 7, 3) := by decide +kernel
theorem d_93_46 : decode (mC 93) 46 = .ok (.iconst 1, 1) := by decide +kernel
theorem d_93_47 : decode (mC 93) 47 = .ok (.goto 4, 3) := by decide +kernel
theorem d_93_50 : decode (mC 93) 50 = .ok (.iconst 0, 1) := by decide +kernel
theorem d_93_51 : decode (mC 93) 51 = .ok (.istore_n 3, 1) := by decide +kernel
theorem d_93_52 : decode (mC 93) 52 = .ok (.lload_n 1, 1) := by decide +kernel
theorem d_93_53 : decode (mC 93) 53 = .ok (.invokestatic 165, 3) := by decide +kernel
theorem d_93_56 : decode (mC 93) 56 = .ok (.bipush 32, 2) := by decide +kernel
theorem d_93_58 : decode (mC 93) 58 = .ok (.lload_n 1, 1) := by decide +kernel
theorem d_93_59 : decode (mC 93) 59 = .ok (.invokestatic 169, 3) := by decide +kernel
theorem d_93_62 : decode (mC 93) 62 = .ok (.imul, 1) := by decide +kernel
theorem d_93_63 : decode (mC 93) 63 = .ok (.iadd, 1) := by decide +kernel
theorem d_93_64 : decode (mC 93) 64 = .ok (.sipush 2048, 3) := by decide +kernel
theorem d_93_67 : decode (mC 93) 67 = .ok (.iload_n 3, 1) := by decide +kernel
theorem d_93_68 : decode (mC 93) 68 = .ok (.imul, 1) := by decide +kernel
theorem d_93_69 : decode (mC 93) 69 = .ok (.iadd, 1) := by decide +kernel
theorem d_93_70 : decode (mC 93) 70 = .ok (.sipush 4096, 3) := by decide +kernel
theorem d_93_73 : decode (mC 93) 73 = .ok (.lload_n 1, 1) := by decide +kernel
theorem d_93_74 : decode (mC 93) 74 = .ok (.invokestatic 172, 3) := by decide +kernel
theorem d_93_77 : decode (mC 93) 77 = .ok (.imul, 1) := by decide +kernel
theorem d_93_78 : decode (mC 93) 78 = .ok (.iadd, 1) := by decide +kernel
theorem d_93_79 : decode (mC 93) 79 = .ok (.ireturn, 1) := by decide +kernel
theorem d_94_0 : decode (mC 94) 0 = .ok (.iconst 0, 1) := by decide +kernel
theorem d_94_1 : decode (mC 94) 1 = .ok (.istore_n 2, 1) := by decide +kernel
theorem d_94_2 : decode (mC 94) 2 = .ok (.iload_n 2, 1) := by decide +kernel
theorem d_94_3 : decode (mC 94) 3 = .ok (.bipush 8, 2) := by decide +kernel
theorem d_94_5 : decode (mC 94) 5 = .ok (.if_icmp .ge 22, 3) := by decide +kernel
theorem d_94_8 : decode (mC 94) 8 = .ok (.aload_n 0, 1) := by decide +kernel
theorem d_94_9 : decode (mC 94) 9 = .ok (.getfield 53, 3) := by decide +kernel
theorem d_94_12 : decode (mC 94) 12 = .ok (.bipush 8, 2) := by decide +kernel
theorem d_94_14 : decode (mC 94) 14 = .ok (.iload_n 1, 1) := by decide +kernel
theorem d_94_15 : decode (mC 94) 15 = .ok (.imul, 1) := by decide +kernel
theorem d_94_16 : decode (mC 94) 16 = .ok (.iload_n 2, 1) := by decide +kernel
theorem d_94_17 : decode (mC 94) 17 = .ok (.iadd, 1) := by decide +kernel
theorem d_94_18 : decode (mC 94) 18 = .ok (.bipush 99, 2) := by decide +kernel
theorem d_94_20 : decode (mC 94) 20 = .ok (.iastore, 1) := by decide +kernel
theorem d_94_21 : decode (mC 94) 21 = .ok (.iinc 2 1, 3) := by decide +kernel
theorem d_94_24 : decode (mC 94) 24 = .ok (.goto (-22), 3) := by decide +kernel
theorem d_94_27 : decode (mC 94) 27 = .ok (.return_, 1) := by decide +kernel
theorem d_95_0 : decode (mC 95) 0 = .ok (.aload_n 0, 1) := by decide +kernel
theorem d_95_1 : decode (mC 95) 1 = .ok (.getfield 81, 3) := by decide +kernel
theorem d_95_4 : decode (mC 95) 4 = .ok (.ireturn, 1) := by decide +kernel
theorem d_96_0 : decode (mC 96) 0 = .ok (.aload_n 0, 1) := by decide +kernel
theorem d_96_1 : decode (mC 96) 1 = .ok (.iload_n 1, 1) := by decide +kernel
theorem d_96_2 : decode (mC 96) 2 = .ok (.iconst 4, 1) := by decide +kernel
theorem d_96_3 : decode (mC 96) 3 = .ok (.invokestatic 197, 3) := by decide +kernel
theorem d_96_6 : decode (mC 96) 6 = .ok (.ifCond .eq 7, 3) := by decide +kernel
theorem d_96_9 : decode (mC 96) 9 = .ok (.iconst 1, 1) := by decide +kernel
theorem d_96_10 : decode (mC 96) 10 = .ok (.goto 16, 3) := by decide +kernel
theorem d_96_13 : decode (mC 96) 13 = .ok (.aload_n 0, 1) := by decide +kernel
theorem d_96_14 : decode (mC 96) 14 = .ok (.iload_n 1, 1) := by decide +kernel
theorem d_96_15 : decode (mC 96) 15 = .ok (.invokevirtual 171, 3) := by decide +kernel
theorem d_96_18 : decode (mC 96) 18 = .ok (.ifCond .eq 7, 3) := by decide +kernel
theorem d_96_21 : decode (mC 96) 21 = .ok (.iconst 2, 1) := by decide +kernel
theorem d_96_22 : decode (mC 96) 22 = .ok (.goto 4, 3) := by decide +kernel
theorem d_96_25 : decode (mC 96) 25 = .ok (.iconst 0, 1) := by decide +kernel
theorem d_96_26 : decode (mC 96) 26 = .ok (.putfield 81, 3) := by decide +kernel
theorem d_96_29 : decode (mC 96) 29 = .ok (.aload_n 0, 1) := by decide +kernel
theorem d_96_30 : decode (mC 96) 30 = .ok (.getfield 81, 3) := by decide +kernel
theorem d_96_33 : decode (mC 96) 33 = .ok (.ifCond .le 4, 3) := by decide +kernel
theorem d_96_36 : decode (mC 96) 36 = .ok (.return_, 1) := by decide +kernel
theorem d_96_37 : decode (mC 96) 37 = .ok (.aload_n 0, 1) := by decide +kernel
theorem d_96_38 : decode (mC 96) 38 = .ok (.getfield 16, 3) := by decide +kernel
theorem d_96_41 : decode (mC 96) 41 = .ok (.iload_n 1, 1) := by decide +kernel
theorem d_96_42 : decode (mC 96) 42 = .ok (.iconst 0, 1) := by decide +kernel
theorem d_96_43 : decode (mC 96) 43 = .ok (.iastore, 1) := by decide +kernel
theorem d_96_44 : decode (mC 96) 44 = .ok (.aload_n 0, 1) := by decide +kernel
theorem d_96_45 : decode (mC 96) 45 = .ok (.getfield 59, 3) := by decide +kernel
theorem d_96_48 : decode (mC 96) 48 = .ok (.iload_n 1, 1) := by decide +kernel
theorem d_96_49 : decode (mC 96) 49 = .ok (.iconst 0, 1) := by decide +kernel
theorem d_96_50 : decode (mC 96) 50 = .ok (.iastore, 1) := by decide +kernel
theorem d_96_51 : decode (mC 96) 51 = .ok (.aload_n 0, 1) := by decide +kernel
theorem d_96_52 : decode (mC 96) 52 = .ok (.getfield 62, 3) := by decide +kernel
theorem d_96_55 : decode (mC 96) 55 = .ok (.iload_n 1, 1) := by decide +kernel
theorem d_96_56 : decode (mC 96) 56 = .ok (.iconst 0, 1) := by decide +kernel
theorem d_96_57 : decode (mC 96) 57 = .ok (.iastore, 1) := by decide +kernel
theorem d_96_58 : decode (mC 96) 58 = .ok (.iconst 0, 1) := by decide +kernel
theorem d_96_59 : decode (mC 96) 59 = .ok (.istore_n 2, 1) := by decide +kernel
theorem d_96_60 : decode (mC 96) 60 = .ok (.iload_n 2, 1) := by decide +kernel
theorem d_96_61 : decode (mC 96) 61 = .ok (.bipush 10, 2) := by decide +kernel
theorem d_96_63 : decode (mC 96) 63 = .ok (.if_icmp .ge 21, 3) := by decide +kernel
theorem d_96_66 : decode (mC 96) 66 = .ok (.aload_n 0, 1) := by decide +kernel
theorem d_96_67 : decode (mC 96) 67 = .ok (.getfield 56, 3) := by decide +kernel
theorem d_96_70 : decode (mC 96) 70 = .ok (.bipush 10, 2) := by decide +kernel
theorem d_96_72 : decode (mC 96) 72 = .ok (.iload_n 1, 1) := by decide +kernel
theorem d_96_73 : decode (mC 96) 73 = .ok (.imul, 1) := by decide +kernel
theorem d_96_74 : decode (mC 96) 74 = .ok (.iload_n 2, 1) := by decide +kernel
theorem d_96_75 : decode (mC 96) 75 = .ok (.iadd, 1) := by decide +kernel
theorem d_96_76 : decode (mC 96) 76 = .ok (.iconst 0, 1) := by decide +kernel
theorem d_96_77 : decode (mC 96) 77 = .ok (.iastore, 1) := by decide +kernel
theorem d_96_78 : decode (mC 96) 78 = .ok (.iinc 2 1, 3) := by decide +kernel
theorem d_96_81 : decode (mC 96) 81 = .ok (.goto (-21), 3) := by decide +kernel
theorem d_96_84 : decode (mC 96) 84 = .ok (.aload_n 0, 1) := by decide +kernel
theorem d_96_85 : decode (mC 96) 85 = .ok (.iload_n 1, 1) := by decide +kernel
theorem d_96_86 : decode (mC 96) 86 = .ok (.invokevirtual 128, 3) := by decide +kernel
theorem d_96_89 : decode (mC 96) 89 = .ok (.return_, 1) := by decide +kernel
theorem d_97_0 : decode (mC 97) 0 = .ok (.iload_n 0, 1) := by decide +kernel
theorem d_97_1 : decode (mC 97) 1 = .ok (.ifCond .lt 8, 3) := by decide +kernel
theorem d_97_4 : decode (mC 97) 4 = .ok (.iload_n 0, 1) := by decide +kernel
theorem d_97_5 : decode (mC 97) 5 = .ok (.iload_n 1, 1) := by decide +kernel
theorem d_97_6 : decode (mC 97) 6 = .ok (.if_icmp .lt 7, 3) := by decide +kernel
theorem d_97_9 : decode (mC 97) 9 = .ok (.iconst 1, 1) := by decide +kernel
theorem d_97_10 : decode (mC 97) 10 = .ok (.goto 4, 3) := by decide +kernel
theorem d_97_13 : decode (mC 97) 13 = .ok (.iconst 0, 1) := by decide +kernel
theorem d_97_14 : decode (mC 97) 14 = .ok (.ireturn, 1) := by decide +kernel
theorem d_98_0 : decode (mC 98) 0 = .ok (.aload_n 0, 1) := by decide +kernel
theorem d_98_1 : decode (mC 98) 1 = .ok (.getfield 13, 3) := by decide +kernel
theorem d_98_4 : decode (mC 98) 4 = .ok (.iload_n 1, 1) := by decide +kernel
theorem d_98_5 : decode (mC 98) 5 = .ok (.iaload, 1) := by decide +kernel
theorem d_98_6 : decode (mC 98) 6 = .ok (.ifCond .eq 18, 3) := by decide +kernel
theorem d_98_9 : decode (mC 98) 9 = .ok (.aload_n 0, 1) := by decide +kernel
theorem d_98_10 : decode (mC 98) 10 = .ok (.getfield 13, 3) := by decide +kernel
theorem d_98_13 : decode (mC 98) 13 = .ok (.iload_n 1, 1) := by decide +kernel
theorem d_98_14 : decode (mC 98) 14 = .ok (.iaload, 1) := by decide +kernel
theorem d_98_15 : decode (mC 98) 15 = .ok (.bipush 6, 2) := by decide +kernel
theorem d_98_17 : decode (mC 98) 17 = .ok (.if_icmp .eq 7, 3) := by decide +kernel
theorem d_98_20 : decode (mC 98) 20 = .ok (.iconst 1, 1) := by decide +kernel
theorem d_98_21 : decode (mC 98) 21 = .ok (.goto 4, 3) := by decide +kernel
theorem d_98_24 : decode (mC 98) 24 = .ok (.iconst 0, 1) := by decide +kernel
theorem d_98_25 : decode (mC 98) 25 = .ok (.ireturn, 1) := by decide +kernel
theorem d_99_0 : decode (mC 99) 0 = .ok (.aload_n 0, 1) := by decide +kernel
theorem d_99_1 : decode (mC 99) 1 = .ok (.getfield 13, 3) := by decide +kernel
theorem d_99_4 : decode (mC 99) 4 = .ok (.iload_n 1, 1) := by decide +kernel
theorem d_99_5 : decode (mC 99) 5 = .ok (.iconst 1, 1) := by decide +kernel
theorem d_99_6 : decode (mC 99) 6 = .ok (.iastore, 1) := by decide +kernel
theorem d_99_7 : decode (mC 99) 7 = .ok (.aload_n 0, 1) := by decide +kernel
theorem d_99_8 : decode (mC 99) 8 = .ok (.getfield 19, 3) := by decide +kernel
theorem d_99_11 : decode (mC 99) 11 = .ok (.iload_n 1, 1) := by decide +kernel
theorem d_99_12 : decode (mC 99) 12 = .ok (.iconst 0, 1) := by decide +kernel
theorem d_99_13 : decode (mC 99) 13 = .ok (.iastore, 1) := by decide +kernel
theorem d_99_14 : decode (mC 99) 14 = .ok (.aload_n 0, 1) := by decide +kernel
theorem d_99_15 : decode (mC 99) 15 = .ok (.getfield 22, 3) := by decide +kernel
theorem d_99_18 : decode (mC 99) 18 = .ok (.iload_n 1, 1) := by decide +kernel
theorem d_99_19 : decode (mC 99) 19 = .ok (.iconst 0, 1) := by decide +kernel
theorem d_99_20 : decode (mC 99) 20 = .ok (.iastore, 1) := by decide +kernel
theorem d_99_21 : decode (mC 99) 21 = .ok (.aload_n 0, 1) := by decide +kernel
theorem d_99_22 : decode (mC 99) 22 = .ok (.getfield 25, 3) := by decide +kernel
theorem d_99_25 : decode (mC 99) 25 = .ok (.iload_n 1, 1) := by decide +kernel
theorem d_99_26 : decode (mC 99) 26 = .ok (.iconst 0, 1) := by decide +kernel
theorem d_99_27 : decode (mC 99) 27 = .ok (.iastore, 1) := by decide +kernel
theorem d_99_28 : decode (mC 99) 28 = .ok (.aload_n 0, 1) := by decide +kernel
theorem d_99_29 : decode (mC 99) 29 = .ok (.iload_n 1, 1) := by decide +kernel
theorem d_99_30 : decode (mC 99) 30 = .ok (.invokevirtual 77, 3) := by decide +kernel
theorem d_99_33 : decode (mC 99) 33 = .ok (.return_, 1) := by decide +kernel
theorem d_100_0 : decode (mC 100) 0 = .ok (.aload_n 0, 1) := by decide +kernel
theorem d_100_1 : decode (mC 100) 1 = .ok (.iconst 0, 1) := by decide +kernel
theorem d_100_2 : decode (mC 100) 2 = .ok (.putfield 81, 3) := by decide +kernel
theorem d_100_5 : decode (mC 100) 5 = .ok (.iload_n 1, 1) := by decide +kernel
theorem d_100_6 : decode (mC 100) 6 = .ok (.iconst 4, 1) := by decide +kernel
theorem d_100_7 : decode (mC 100) 7 = .ok (.invokestatic 197, 3) := by decide +kernel
theorem d_100_10 : decode (mC 100) 10 = .ok (.ifCond .eq 9, 3) := by decide +kernel
theorem d_100_13 : decode (mC 100) 13 = .ok (.aload_n 0, 1) := by decide +kernel
theorem d_100_14 : decode (mC 100) 14 = .ok (.iconst 1, 1) := by decide +kernel
theorem d_100_15 : decode (mC 100) 15 = .ok (.invokevirtual 201, 3) := by decide +kernel
theorem d_100_18 : decode (mC 100) 18 = .ok (.ireturn, 1) := by decide +kernel
theorem d_100_19 : decode (mC 100) 19 = .ok (.aload_n 0, 1) := by decide +kernel
theorem d_100_20 : decode (mC 100) 20 = .ok (.getfield 13, 3) := by decide +kernel
theorem d_100_23 : decode (mC 100) 23 = .ok (.iload_n 1, 1) := by decide +kernel
theorem d_100_24 : decode (mC 100) 24 = .ok (.iaload, 1) := by decide +kernel
theorem d_100_25 : decode (mC 100) 25 = .ok (.istore_n 2, 1) := by decide +kernel
theorem d_100_26 : decode (mC 100) 26 = .ok (.aload_n 0, 1) := by decide +kernel
theorem d_100_27 : decode (mC 100) 27 = .ok (.getfield 13, 3) := by decide +kernel
theorem d_100_30 : decode (mC 100) 30 = .ok (.iload_n 1, 1) := by decide +kernel
theorem d_100_31 : decode (mC 100) 31 = .ok (.iconst 0, 1) := by decide +kernel
theorem d_100_32 : decode (mC 100) 32 = .ok (.iastore, 1) := by decide +kernel
theorem d_100_33 : decode (mC 100) 33 = .ok (.iload_n 2, 1) := by decide +kernel
theorem d_100_34 : decode (mC 100) 34 = .ok (.ireturn, 1) := by decide +kernel
theorem d_101_0 : decode (mC 101) 0 = .ok (.aload_n 0, 1) := by decide +kernel
theorem d_101_1 : decode (mC 101) 1 = .ok (.iload_n 1, 1) := by decide +kernel
theorem d_101_2 : decode (mC 101) 2 = .ok (.putfield 81, 3) := by decide +kernel
theorem d_101_5 : decode (mC 101) 5 = .ok (.iconst 0, 1) := by decide +kernel
theorem d_101_6 : decode (mC 101) 6 = .ok (.ireturn, 1) := by decide +kernel
theorem d_102_0 : decode (mC 102) 0 = .ok (.aload_n 0, 1) := by decide +kernel
theorem d_102_1 : decode (mC 102) 1 = .ok (.iconst 0, 1) := by decide +kernel
theorem d_102_2 : decode (mC 102) 2 = .ok (.putfield 81, 3) := by decide +kernel
theorem d_102_5 : decode (mC 102) 5 = .ok (.iload_n 1, 1) := by decide +kernel
theorem d_102_6 : decode (mC 102) 6 = .ok (.iconst 1, 1) := by decide +kernel
theorem d_102_7 : decode (mC 102) 7 = .ok (.if_icmp .lt 10, 3) := by decide +kernel
theorem d_102_10 : decode (mC 102) 10 = .ok (.iload_n 1, 1) := by decide +kernel
theorem d_102_11 : decode (mC 102) 11 = .ok (.sipush 200, 3) := by decide +kernel
theorem d_102_14 : decode (mC 102) 14 = .ok (.if_icmp .le 9, 3) := by decide +kernel
theorem d_102_17 : decode (mC 102) 17 = .ok (.aload_n 0, 1) := by decide +kernel
theorem d_102_18 : decode (mC 102) 18 = .ok (.iconst 1, 1) := by decide +kernel
theorem d_102_19 : decode (mC 102) 19 = .ok (.invokevirtual 201, 3) := by decide +kernel
theorem d_102_22 : decode (mC 102) 22 = .ok (.ireturn, 1) := by decide +kernel
theorem d_102_23 : decode (mC 102) 23 = .ok (.aload_n 0, 1) := by decide +kernel
theorem d_102_24 : decode (mC 102) 24 = .ok (.getfield 177, 3) := by decide +kernel
theorem d_102_27 : decode (mC 102) 27 = .ok (.istore_n 2, 1) := by decide +kernel
theorem d_102_28 : decode (mC 102) 28 = .ok (.iconst 0, 1) := by decide +kernel
theorem d_102_29 : decode (mC 102) 29 = .ok (.istore_n 3, 1) := by decide +kernel
theorem d_102_30 : decode (mC 102) 30 = .ok (.iload_n 3, 1) := by decide +kernel
theorem d_102_31 : decode (mC 102) 31 = .ok (.iload_n 1, 1) := by decide +kernel
theorem d_102_32 : decode (mC 102) 32 = .ok (.if_icmp .ge 13, 3) := by decide +kernel
theorem d_102_35 : decode (mC 102) 35 = .ok (.aload_n 0, 1) := by decide +kernel
theorem d_102_36 : decode (mC 102) 36 = .ok (.invokevirtual 205, 3) := by decide +kernel
theorem d_102_39 : decode (mC 102) 39 = .ok (.iinc 3 1, 3) := by decide +kernel
theorem d_102_42 : decode (mC 102) 42 = .ok (.goto (-12), 3) := by decide +kernel
theorem d_102_45 : decode (mC 102) 45 = .ok (.aload_n 0, 1) := by decide +kernel
theorem d_102_46 : decode (mC 102) 46 = .ok (.getfield 177, 3) := by decide +kernel
theorem d_102_49 : decode (mC 102) 49 = .ok (.iload_n 2, 1) := by decide +kernel
theorem d_102_50 : decode (mC 102) 50 = .ok (.isub, 1) := by decide +kernel
theorem d_102_51 : decode (mC 102) 51 = .ok (.ireturn, 1) := by decide +kernel
theorem d_103_0 : decode (mC 103) 0 = .ok (.iconst 0, 1) := by decide +kernel
theorem d_103_1 : decode (mC 103) 1 = .ok (.istore_n 1, 1) := by decide +kernel
theorem d_103_2 : decode (mC 103) 2 = .ok (.iconst (-1), 1) := by decide +kernel
theorem d_103_3 : decode (mC 103) 3 = .ok (.istore_n 2, 1) := by decide +kernel
theorem d_103_4 : decode (mC 103) 4 = .ok (.lconst 0, 1) := by decide +kernel
theorem d_103_5 : decode (mC 103) 5 = .ok (.lstore_n 3, 1) := by decide +kernel
theorem d_103_6 : decode (mC 103) 6 = .ok (.iconst 0, 1) := by decide +kernel
theorem d_103_7 : decode (mC 103) 7 = .ok (.istore 5, 2) := by decide +kernel
theorem d_103_9 : decode (mC 103) 9 = .ok (.iload 5, 2) := by decide +kernel
theorem d_103_11 : decode (mC 103) 11 = .ok (.iconst 4, 1) := by decide +kernel
theorem d_103_12 : decode (mC 103) 12 = .ok (.if_icmp .ge 122, 3) := by decide +kernel
theorem d_103_15 : decode (mC 103) 15 = .ok (.aload_n 0, 1) := by decide +kernel
theorem d_103_16 : decode (mC 103) 16 = .ok (.iload 5, 2) := by decide +kernel
theorem d_103_18 : decode (mC 103) 18 = .ok (.invokevirtual 171, 3) := by decide +kernel
theorem d_103_21 : decode (mC 103) 21 = .ok (.ifCond .eq 107, 3) := by decide +kernel
theorem d_103_24 : decode (mC 103) 24 = .ok (.aload_n 0, 1) := by decide +kernel
theorem d_103_25 : decode (mC 103) 25 = .ok (.getfield 16, 3) := by decide +kernel
theorem d_103_28 : decode (mC 103) 28 = .ok (.iload 5, 2) := by decide +kernel
theorem d_103_30 : decode (mC 103) 30 = .ok (.aload_n 0, 1) := by decide +kernel
theorem d_103_31 : decode (mC 103) 31 = .ok (.getfield 16, 3) := by decide +kernel
theorem d_103_34 : decode (mC 103) 34 = .ok (.iload 5, 2) := by decide +kernel
theorem d_103_36 : decode (mC 103) 36 = .ok (.iaload, 1) := by decide +kernel
theorem d_103_37 : decode (mC 103) 37 = .ok (.sipush 1000, 3) := by decide +kernel
theorem d_103_40 : decode (mC 103) 40 = .ok (.iadd, 1) := by decide +kernel
theorem d_103_41 : decode (mC 103) 41 = .ok (.aload_n 0, 1) := by decide +kernel
theorem d_103_42 : decode (mC 103) 42 = .ok (.getfield 7, 3) := by decide +kernel
theorem d_103_45 : decode (mC 103) 45 = .ok (.iload 5, 2) := by decide +kernel
theorem d_103_47 : decode (mC 103) 47 = .ok (.iaload, 1) := by decide +kernel
theorem d_103_48 : decode (mC 103) 48 = .ok (.isub, 1) := by decide +kernel
theorem d_103_49 : decode (mC 103) 49 = .ok (.iastore, 1) := by decide +kernel
theorem d_103_50 : decode (mC 103) 50 = .ok (.aload_n 0, 1) := by decide +kernel
theorem d_103_51 : decode (mC 103) 51 = .ok (.getfield 16, 3) := by decide +kernel
theorem d_103_54 : decode (mC 103) 54 = .ok (.iload 5, 2) := by decide +kernel
theorem d_103_56 : decode (mC 103) 56 = .ok (.iaload, 1) := by decide +kernel
theorem d_103_57 : decode (mC 103) 57 = .ok (.sipush 1000, 3) := by decide +kernel
theorem d_103_60 : decode (mC 103) 60 = .ok (.if_icmp .lt 7, 3) := by decide +kernel
theorem d_103_63 : decode (mC 103) 63 = .ok (.iconst 1, 1) := by decide +kernel
theorem d_103_64 : decode (mC 103) 64 = .ok (.goto 4, 3) := by decide +kernel
theorem d_103_67 : decode (mC 103) 67 = .ok (.iconst 0, 1) := by decide +kernel
theorem d_103_68 : decode (mC 103) 68 = .ok (.istore 6, 2) := by decide +kernel
theorem d_103_70 : decode (mC 103) 70 = .ok (.aload_n 0, 1) := by decide +kernel
theorem d_103_71 : decode (mC 103) 71 = .ok (.getfield 16, 3) := by decide +kernel
theorem d_103_74 : decode (mC 103) 74 = .ok (.iload 5, 2) := by decide +kernel
theorem d_103_76 : decode (mC 103) 76 = .ok (.iload 6, 2) := by decide +kernel
theorem d_103_78 : decode (mC 103) 78 = .ok (.ifCond .eq 17, 3) := by decide +kernel
theorem d_103_81 : decode (mC 103) 81 = .ok (.aload_n 0, 1) := by decide +kernel
theorem d_103_82 : decode (mC 103) 82 = .ok (.getfield 16, 3) := by decide +kernel
theorem d_103_85 : decode (mC 103) 85 = .ok (.iload 5, 2) := by decide +kernel
theorem d_103_87 : decode (mC 103) 87 = .ok (.iaload, 1) := by decide +kernel
theorem d_103_88 : decode (mC 103) 88 = .ok (.sipush 1000, 3) := by decide +kernel
theorem d_103_91 : decode (mC 103) 91 = .ok (.isub, 1) := by decide +kernel
theorem d_103_92 : decode (mC 103) 92 = .ok (.goto 10, 3) := by decide +kernel
theorem d_103_95 : decode (mC 103) 95 = .ok (.aload_n 0, 1) := by decide +kernel
theorem d_103_96 : decode (mC 103) 96 = .ok (.getfield 16, 3) := by decide +kernel
theorem d_103_99 : decode (mC 103) 99 = .ok (.iload 5, 2) := by decide +kernel
theorem d_103_101 : decode (mC 103) 101 = .ok (.iaload, 1) := by decide +kernel
theorem d_103_102 : decode (mC 103) 102 = .ok (.iastore, 1) := by decide +kernel
