theorem d_132_721 : decode (mC 132) 721 = .ok (.i2l, 1) := by decide +kernel
theorem d_132_722 : decode (mC 132) 722 = .ok (.bipush 32, 2) := by decide +kernel
theorem d_132_724 : decode (mC 132) 724 = .ok (.lshl, 1) := by decide +kernel
theorem d_132_725 : decode (mC 132) 725 = .ok (.aload_n 0, 1) := by decide +kernel
theorem d_132_726 : decode (mC 132) 726 = .ok (.iload 4, 2) := by decide +kernel
theorem d_132_728 : decode (mC 132) 728 = .ok (.iconst 2, 1) := by decide +kernel
theorem d_132_729 : decode (mC 132) 729 = .ok (.iadd, 1) := by decide +kernel
theorem d_132_730 : decode (mC 132) 730 = .ok (.iaload, 1) := by decide +kernel
theorem d_132_731 : decode (mC 132) 731 = .ok (.i2l, 1) := by decide +kernel
theorem d_132_732 : decode (mC 132) 732 = .ok (.ldc2_w 97, 3) := by decide +kernel
theorem d_132_735 : decode (mC 132) 735 = .ok (.land, 1) := by decide +kernel
theorem d_132_736 : decode (mC 132) 736 = .ok (.lor, 1) := by decide +kernel
theorem d_132_737 : decode (mC 132) 737 = .ok (.invokevirtual 136, 3) := by decide +kernel
theorem d_132_740 : decode (mC 132) 740 = .ok (.istore 6, 2) := by decide +kernel
theorem d_132_742 : decode (mC 132) 742 = .ok (.aload_n 2, 1) := by decide +kernel
theorem d_132_743 : decode (mC 132) 743 = .ok (.invokevirtual 137, 3) := by decide +kernel
theorem d_132_746 : decode (mC 132) 746 = .ok (.iload 5, 2) := by decide +kernel
theorem d_132_748 : decode (mC 132) 748 = .ok (.if_icmp .eq 5, 3) := by decide +kernel
theorem d_132_751 : decode (mC 132) 751 = .ok (.iconst 0, 1) := by decide +kernel
theorem d_132_752 : decode (mC 132) 752 = .ok (.ireturn, 1) := by decide +kernel
theorem d_132_753 : decode (mC 132) 753 = .ok (.iload 5, 2) := by decide +kernel
theorem d_132_755 : decode (mC 132) 755 = .ok (.ifCond .ne 15, 3) := by decide +kernel
theorem d_132_758 : decode (mC 132) 758 = .ok (.aload_n 3, 1) := by decide +kernel
theorem d_132_759 : decode (mC 132) 759 = .ok (.iconst 0, 1) := by decide +kernel
theorem d_132_760 : decode (mC 132) 760 = .ok (.laload, 1) := by decide +kernel
theorem d_132_761 : decode (mC 132) 761 = .ok (.iload 6, 2) := by decide +kernel
theorem d_132_763 : decode (mC 132) 763 = .ok (.i2l, 1) := by decide +kernel
theorem d_132_764 : decode (mC 132) 764 = .ok (.lcmp, 1) := by decide +kernel
theorem d_132_765 : decode (mC 132) 765 = .ok (.ifCond .eq 5, 3) := by decide +kernel
theorem d_132_768 : decode (mC 132) 768 = .ok (.iconst 0, 1) := by decide +kernel
theorem d_132_769 : decode (mC 132) 769 = .ok (.ireturn, 1) := by decide +kernel
theorem d_132_770 : decode (mC 132) 770 = .ok (.goto 3, 3) := by decide +kernel
theorem d_132_773 : decode (mC 132) 773 = .ok (.iinc 4 6, 3) := by decide +kernel
theorem d_132_776 : decode (mC 132) 776 = .ok (.goto (-743), 3) := by decide +kernel
theorem d_132_779 : decode (mC 132) 779 = .ok (.iconst 1, 1) := by decide +kernel
theorem d_132_780 : decode (mC 132) 780 = .ok (.ireturn, 1) := by decide +kernel
