theorem d_132_725 : decode (mC 132) 725 = .ok (.aload_n 2, 1) := by decide +kernel
theorem d_132_726 : decode (mC 132) 726 = .ok (.aload_n 0, 1) := by decide +kernel
theorem d_132_727 : decode (mC 132) 727 = .ok (.iload 4, 2) := by decide +kernel
theorem d_132_729 : decode (mC 132) 729 = .ok (.iconst 1, 1) := by decide +kernel
theorem d_132_730 : decode (mC 132) 730 = .ok (.iadd, 1) := by decide +kernel
theorem d_132_731 : decode (mC 132) 731 = .ok (.iaload, 1) := by decide +kernel
theorem d_132_732 : decode (mC 132) 732 = .ok (.i2l, 1) := by decide +kernel
theorem d_132_733 : decode (mC 132) 733 = .ok (.bipush 32, 2) := by decide +kernel
theorem d_132_735 : decode (mC 132) 735 = .ok (.lshl, 1) := by decide +kernel
theorem d_132_736 : decode (mC 132) 736 = .ok (.aload_n 0, 1) := by decide +kernel
theorem d_132_737 : decode (mC 132) 737 = .ok (.iload 4, 2) := by decide +kernel
theorem d_132_739 : decode (mC 132) 739 = .ok (.iconst 2, 1) := by decide +kernel
theorem d_132_740 : decode (mC 132) 740 = .ok (.iadd, 1) := by decide +kernel
theorem d_132_741 : decode (mC 132) 741 = .ok (.iaload, 1) := by decide +kernel
theorem d_132_742 : decode (mC 132) 742 = .ok (.i2l, 1) := by decide +kernel
theorem d_132_743 : decode (mC 132) 743 = .ok (.ldc2_w 97, 3) := by decide +kernel
theorem d_132_746 : decode (mC 132) 746 = .ok (.land, 1) := by decide +kernel
theorem d_132_747 : decode (mC 132) 747 = .ok (.lor, 1) := by decide +kernel
theorem d_132_748 : decode (mC 132) 748 = .ok (.invokevirtual 139, 3) := by decide +kernel
theorem d_132_751 : decode (mC 132) 751 = .ok (.istore 6, 2) := by decide +kernel
theorem d_132_753 : decode (mC 132) 753 = .ok (.goto 3, 3) := by decide +kernel
theorem d_132_756 : decode (mC 132) 756 = .ok (.iinc 4 6, 3) := by decide +kernel
theorem d_132_759 : decode (mC 132) 759 = .ok (.goto (-726), 3) := by decide +kernel
theorem d_132_762 : decode (mC 132) 762 = .ok (.iconst 1, 1) := by decide +kernel
theorem d_132_763 : decode (mC 132) 763 = .ok (.ireturn, 1) := by decide +kernel
