theorem dX12_init_800 : decode cX12_init 800 = .ok (.newarray .int, 2) := by decide +kernel
theorem dX12_init_802 : decode cX12_init 802 = .ok (.putfield 298, 3) := by decide +kernel
theorem dX12_init_805 : decode cX12_init 805 = .ok (.iconst 0, 1) := by decide +kernel
theorem dX12_init_806 : decode cX12_init 806 = .ok (.istore_n 1, 1) := by decide +kernel
theorem dX12_init_807 : decode cX12_init 807 = .ok (.lconst 0, 1) := by decide +kernel
theorem dX12_init_808 : decode cX12_init 808 = .ok (.lstore_n 2, 1) := by decide +kernel
theorem dX12_init_809 : decode cX12_init 809 = .ok (.iconst 0, 1) := by decide +kernel
theorem dX12_init_810 : decode cX12_init 810 = .ok (.istore 4, 2) := by decide +kernel
theorem dX12_init_812 : decode cX12_init 812 = .ok (.iload 4, 2) := by decide +kernel
theorem dX12_init_814 : decode cX12_init 814 = .ok (.ldc 34, 2) := by decide +kernel
theorem dX12_init_816 : decode cX12_init 816 = .ok (.invokevirtual 301, 3) := by decide +kernel
theorem dX12_init_819 : decode cX12_init 819 = .ok (.if_icmp .ge 53, 3) := by decide +kernel
theorem dX12_init_822 : decode cX12_init 822 = .ok (.ldc 34, 2) := by decide +kernel
theorem dX12_init_824 : decode cX12_init 824 = .ok (.iload 4, 2) := by decide +kernel
theorem dX12_init_826 : decode cX12_init 826 = .ok (.invokevirtual 307, 3) := by decide +kernel
theorem dX12_init_829 : decode cX12_init 829 = .ok (.istore 5, 2) := by decide +kernel
theorem dX12_init_831 : decode cX12_init 831 = .ok (.iload 5, 2) := by decide +kernel
theorem dX12_init_833 : decode cX12_init 833 = .ok (.bipush 32, 2) := by decide +kernel
theorem dX12_init_835 : decode cX12_init 835 = .ok (.if_icmp .ne 18, 3) := by decide +kernel
theorem dX12_init_838 : decode cX12_init 838 = .ok (.aload_n 0, 1) := by decide +kernel
theorem dX12_init_839 : decode cX12_init 839 = .ok (.getfield 40, 3) := by decide +kernel
theorem dX12_init_842 : decode cX12_init 842 = .ok (.iload_n 1, 1) := by decide +kernel
theorem dX12_init_843 : decode cX12_init 843 = .ok (.lload_n 2, 1) := by decide +kernel
theorem dX12_init_844 : decode cX12_init 844 = .ok (.lastore, 1) := by decide +kernel
theorem dX12_init_845 : decode cX12_init 845 = .ok (.iinc 1 1, 3) := by decide +kernel
theorem dX12_init_848 : decode cX12_init 848 = .ok (.lconst 0, 1) := by decide +kernel
theorem dX12_init_849 : decode cX12_init 849 = .ok (.lstore_n 2, 1) := by decide +kernel
theorem dX12_init_850 : decode cX12_init 850 = .ok (.goto 16, 3) := by decide +kernel
theorem dX12_init_853 : decode cX12_init 853 = .ok (.ldc2_w 311, 3) := by decide +kernel
theorem dX12_init_856 : decode cX12_init 856 = .ok (.lload_n 2, 1) := by decide +kernel
theorem dX12_init_857 : decode cX12_init 857 = .ok (.lmul, 1) := by decide +kernel
theorem dX12_init_858 : decode cX12_init 858 = .ok (.iload 5, 2) := by decide +kernel
theorem dX12_init_860 : decode cX12_init 860 = .ok (.invokestatic 313, 3) := by decide +kernel
theorem dX12_init_863 : decode cX12_init 863 = .ok (.i2l, 1) := by decide +kernel
theorem dX12_init_864 : decode cX12_init 864 = .ok (.ladd, 1) := by decide +kernel
theorem dX12_init_865 : decode cX12_init 865 = .ok (.lstore_n 2, 1) := by decide +kernel
theorem dX12_init_866 : decode cX12_init 866 = .ok (.iinc 4 1, 3) := by decide +kernel
theorem dX12_init_869 : decode cX12_init 869 = .ok (.goto (-57), 3) := by decide +kernel
theorem dX12_init_872 : decode cX12_init 872 = .ok (.return_, 1) := by decide +kernel
