theorem d_132_725 : decode (mC 132) 725 = .ok (.iload 4, 2) := by decide +kernel
theorem d_132_727 : decode (mC 132) 727 = .ok (.iconst 2, 1) := by decide +kernel
theorem d_132_728 : decode (mC 132) 728 = .ok (.iadd, 1) := by decide +kernel
theorem d_132_729 : decode (mC 132) 729 = .ok (.iaload, 1) := by decide +kernel
theorem d_132_730 : decode (mC 132) 730 = .ok (.i2l, 1) := by decide +kernel
theorem d_132_731 : decode (mC 132) 731 = .ok (.ldc2_w 97, 3) := by decide +kernel
theorem d_132_734 : decode (mC 132) 734 = .ok (.land, 1) := by decide +kernel
theorem d_132_735 : decode (mC 132) 735 = .ok (.lor, 1) := by decide +kernel
theorem d_132_736 : decode (mC 132) 736 = .ok (.aload_n 3, 1) := by decide +kernel
theorem d_132_737 : decode (mC 132) 737 = .ok (.invokestatic 136, 3) := by decide +kernel
theorem d_132_740 : decode (mC 132) 740 = .ok (.istore 5, 2) := by decide +kernel
theorem d_132_742 : decode (mC 132) 742 = .ok (.aload_n 2, 1) := by decide +kernel
theorem d_132_743 : decode (mC 132) 743 = .ok (.aload_n 0, 1) := by decide +kernel
theorem d_132_744 : decode (mC 132) 744 = .ok (.iload 4, 2) := by decide +kernel
theorem d_132_746 : decode (mC 132) 746 = .ok (.iconst 1, 1) := by decide +kernel
theorem d_132_747 : decode (mC 132) 747 = .ok (.iadd, 1) := by decide +kernel
theorem d_132_748 : decode (mC 132) 748 = .ok (.iaload, 1) := by decide +kernel
theorem d_132_749 : decode (mC 132) 749 = .ok (.i2l, 1) := by decide +kernel
theorem d_132_750 : decode (mC 132) 750 = .ok (.bipush 32, 2) := by decide +kernel
theorem d_132_752 : decode (mC 132) 752 = .ok (.lshl, 1) := by decide +kernel
theorem d_132_753 : decode (mC 132) 753 = .ok (.aload_n 0, 1) := by decide +kernel
theorem d_132_754 : decode (mC 132) 754 = .ok (.iload 4, 2) := by decide +kernel
theorem d_132_756 : decode (mC 132) 756 = .ok (.iconst 2, 1) := by decide +kernel
theorem d_132_757 : decode (mC 132) 757 = .ok (.iadd, 1) := by decide +kernel
theorem d_132_758 : decode (mC 132) 758 = .ok (.iaload, 1) := by decide +kernel
theorem d_132_759 : decode (mC 132) 759 = .ok (.i2l, 1) := by decide +kernel
theorem d_132_760 : decode (mC 132) 760 = .ok (.ldc2_w 97, 3) := by decide +kernel
theorem d_132_763 : decode (mC 132) 763 = .ok (.land, 1) := by decide +kernel
theorem d_132_764 : decode (mC 132) 764 = .ok (.lor, 1) := by decide +kernel
theorem d_132_765 : decode (mC 132) 765 = .ok (.invokevirtual 139, 3) := by decide +kernel
theorem d_132_768 : decode (mC 132) 768 = .ok (.istore 6, 2) := by decide +kernel
theorem d_132_770 : decode (mC 132) 770 = .ok (.goto 3, 3) := by decide +kernel
theorem d_132_773 : decode (mC 132) 773 = .ok (.iinc 4 6, 3) := by decide +kernel
theorem d_132_776 : decode (mC 132) 776 = .ok (.goto (-743), 3) := by decide +kernel
theorem d_132_779 : decode (mC 132) 779 = .ok (.iconst 1, 1) := by decide +kernel
theorem d_132_780 : decode (mC 132) 780 = .ok (.ireturn, 1) := by decide +kernel
