theorem d_132_726 : decode (mC 132) 726 = .ok (.iconst 2, 1) := by decide +kernel
theorem d_132_727 : decode (mC 132) 727 = .ok (.iadd, 1) := by decide +kernel
theorem d_132_728 : decode (mC 132) 728 = .ok (.iaload, 1) := by decide +kernel
theorem d_132_729 : decode (mC 132) 729 = .ok (.i2l, 1) := by decide +kernel
theorem d_132_730 : decode (mC 132) 730 = .ok (.ldc2_w 97, 3) := by decide +kernel
theorem d_132_733 : decode (mC 132) 733 = .ok (.land, 1) := by decide +kernel
theorem d_132_734 : decode (mC 132) 734 = .ok (.lor, 1) := by decide +kernel
theorem d_132_735 : decode (mC 132) 735 = .ok (.aload_n 3, 1) := by decide +kernel
theorem d_132_736 : decode (mC 132) 736 = .ok (.invokestatic 136, 3) := by decide +kernel
theorem d_132_739 : decode (mC 132) 739 = .ok (.istore 5, 2) := by decide +kernel
theorem d_132_741 : decode (mC 132) 741 = .ok (.aload_n 2, 1) := by decide +kernel
theorem d_132_742 : decode (mC 132) 742 = .ok (.aload_n 0, 1) := by decide +kernel
theorem d_132_743 : decode (mC 132) 743 = .ok (.iload 4, 2) := by decide +kernel
theorem d_132_745 : decode (mC 132) 745 = .ok (.iconst 1, 1) := by decide +kernel
theorem d_132_746 : decode (mC 132) 746 = .ok (.iadd, 1) := by decide +kernel
theorem d_132_747 : decode (mC 132) 747 = .ok (.iaload, 1) := by decide +kernel
theorem d_132_748 : decode (mC 132) 748 = .ok (.i2l, 1) := by decide +kernel
theorem d_132_749 : decode (mC 132) 749 = .ok (.bipush 32, 2) := by decide +kernel
theorem d_132_751 : decode (mC 132) 751 = .ok (.lshl, 1) := by decide +kernel
theorem d_132_752 : decode (mC 132) 752 = .ok (.aload_n 0, 1) := by decide +kernel
theorem d_132_753 : decode (mC 132) 753 = .ok (.iload 4, 2) := by decide +kernel
theorem d_132_755 : decode (mC 132) 755 = .ok (.iconst 2, 1) := by decide +kernel
theorem d_132_756 : decode (mC 132) 756 = .ok (.iadd, 1) := by decide +kernel
theorem d_132_757 : decode (mC 132) 757 = .ok (.iaload, 1) := by decide +kernel
theorem d_132_758 : decode (mC 132) 758 = .ok (.i2l, 1) := by decide +kernel
theorem d_132_759 : decode (mC 132) 759 = .ok (.ldc2_w 97, 3) := by decide +kernel
theorem d_132_762 : decode (mC 132) 762 = .ok (.land, 1) := by decide +kernel
theorem d_132_763 : decode (mC 132) 763 = .ok (.lor, 1) := by decide +kernel
theorem d_132_764 : decode (mC 132) 764 = .ok (.invokevirtual 139, 3) := by decide +kernel
theorem d_132_767 : decode (mC 132) 767 = .ok (.istore 6, 2) := by decide +kernel
theorem d_132_769 : decode (mC 132) 769 = .ok (.goto 3, 3) := by decide +kernel
theorem d_132_772 : decode (mC 132) 772 = .ok (.iinc 4 6, 3) := by decide +kernel
theorem d_132_775 : decode (mC 132) 775 = .ok (.goto (-742), 3) := by decide +kernel
theorem d_132_778 : decode (mC 132) 778 = .ok (.iconst 1, 1) := by decide +kernel
theorem d_132_779 : decode (mC 132) 779 = .ok (.ireturn, 1) := by decide +kernel
