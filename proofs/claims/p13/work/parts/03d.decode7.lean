theorem d_132_725 : decode (mC 132) 725 = .ok (.aload_n 0, 1) := by decide +kernel
theorem d_132_726 : decode (mC 132) 726 = .ok (.iload 4, 2) := by decide +kernel
theorem d_132_728 : decode (mC 132) 728 = .ok (.iconst 2, 1) := by decide +kernel
theorem d_132_729 : decode (mC 132) 729 = .ok (.iadd, 1) := by decide +kernel
theorem d_132_730 : decode (mC 132) 730 = .ok (.iaload, 1) := by decide +kernel
theorem d_132_731 : decode (mC 132) 731 = .ok (.i2l, 1) := by decide +kernel
theorem d_132_732 : decode (mC 132) 732 = .ok (.ldc2_w 97, 3) := by decide +kernel
theorem d_132_735 : decode (mC 132) 735 = .ok (.land, 1) := by decide +kernel
theorem d_132_736 : decode (mC 132) 736 = .ok (.lor, 1) := by decide +kernel
theorem d_132_737 : decode (mC 132) 737 = .ok (.invokevirtual 136, 3) := by decide +kernel
theorem d_132_740 : decode (mC 132) 740 = .ok (.istore 6, 2) := by decide +kernel
theorem d_132_742 : decode (mC 132) 742 = .ok (.goto 3, 3) := by decide +kernel
theorem d_132_745 : decode (mC 132) 745 = .ok (.iinc 4 6, 3) := by decide +kernel
theorem d_132_748 : decode (mC 132) 748 = .ok (.goto (-715), 3) := by decide +kernel
theorem d_132_751 : decode (mC 132) 751 = .ok (.iconst 1, 1) := by decide +kernel
theorem d_132_752 : decode (mC 132) 752 = .ok (.ireturn, 1) := by decide +kernel
