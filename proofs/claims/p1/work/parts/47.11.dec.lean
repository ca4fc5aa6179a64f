/-! THE LAW: decode rows -/
theorem d_Law_law_862 : decode b_Law_law 862 = .ok (.istore 6, 2) := by decide +kernel
theorem d_Law_law_864 : decode b_Law_law 864 = .ok (.aload_n 2, 1) := by decide +kernel
theorem d_Law_law_865 : decode b_Law_law 865 = .ok (.invokevirtual 83, 3) := by decide +kernel
theorem d_Law_law_868 : decode b_Law_law 868 = .ok (.iload 5, 2) := by decide +kernel
theorem d_Law_law_870 : decode b_Law_law 870 = .ok (.if_icmp .eq 5, 3) := by decide +kernel
theorem d_Law_law_873 : decode b_Law_law 873 = .ok (.iconst 0, 1) := by decide +kernel
theorem d_Law_law_874 : decode b_Law_law 874 = .ok (.ireturn, 1) := by decide +kernel
theorem d_Law_law_875 : decode b_Law_law 875 = .ok (.iload 5, 2) := by decide +kernel
theorem d_Law_law_877 : decode b_Law_law 877 = .ok (.ifCond .ne 15, 3) := by decide +kernel
theorem d_Law_law_880 : decode b_Law_law 880 = .ok (.aload_n 3, 1) := by decide +kernel
theorem d_Law_law_881 : decode b_Law_law 881 = .ok (.iconst 0, 1) := by decide +kernel
theorem d_Law_law_882 : decode b_Law_law 882 = .ok (.laload, 1) := by decide +kernel
theorem d_Law_law_883 : decode b_Law_law 883 = .ok (.iload 6, 2) := by decide +kernel
theorem d_Law_law_885 : decode b_Law_law 885 = .ok (.i2l, 1) := by decide +kernel
theorem d_Law_law_886 : decode b_Law_law 886 = .ok (.lcmp, 1) := by decide +kernel
theorem d_Law_law_887 : decode b_Law_law 887 = .ok (.ifCond .eq 5, 3) := by decide +kernel
theorem d_Law_law_890 : decode b_Law_law 890 = .ok (.iconst 0, 1) := by decide +kernel
theorem d_Law_law_891 : decode b_Law_law 891 = .ok (.ireturn, 1) := by decide +kernel
theorem d_Law_law_892 : decode b_Law_law 892 = .ok (.goto 236, 3) := by decide +kernel
theorem d_Law_law_895 : decode b_Law_law 895 = .ok (.aload_n 1, 1) := by decide +kernel
theorem d_Law_law_896 : decode b_Law_law 896 = .ok (.aload_n 0, 1) := by decide +kernel
theorem d_Law_law_897 : decode b_Law_law 897 = .ok (.iload 4, 2) := by decide +kernel
theorem d_Law_law_899 : decode b_Law_law 899 = .ok (.iconst 1, 1) := by decide +kernel
theorem d_Law_law_900 : decode b_Law_law 900 = .ok (.iadd, 1) := by decide +kernel
theorem d_Law_law_901 : decode b_Law_law 901 = .ok (.iaload, 1) := by decide +kernel
theorem d_Law_law_902 : decode b_Law_law 902 = .ok (.aload_n 3, 1) := by decide +kernel
theorem d_Law_law_903 : decode b_Law_law 903 = .ok (.invokestatic 119, 3) := by decide +kernel
theorem d_Law_law_906 : decode b_Law_law 906 = .ok (.istore 5, 2) := by decide +kernel
theorem d_Law_law_908 : decode b_Law_law 908 = .ok (.aload_n 2, 1) := by decide +kernel
theorem d_Law_law_909 : decode b_Law_law 909 = .ok (.aload_n 0, 1) := by decide +kernel
theorem d_Law_law_910 : decode b_Law_law 910 = .ok (.iload 4, 2) := by decide +kernel
theorem d_Law_law_912 : decode b_Law_law 912 = .ok (.iconst 1, 1) := by decide +kernel
theorem d_Law_law_913 : decode b_Law_law 913 = .ok (.iadd, 1) := by decide +kernel
theorem d_Law_law_914 : decode b_Law_law 914 = .ok (.iaload, 1) := by decide +kernel
theorem d_Law_law_915 : decode b_Law_law 915 = .ok (.invokevirtual 121, 3) := by decide +kernel
theorem d_Law_law_918 : decode b_Law_law 918 = .ok (.istore 6, 2) := by decide +kernel
theorem d_Law_law_920 : decode b_Law_law 920 = .ok (.aload_n 2, 1) := by decide +kernel
theorem d_Law_law_921 : decode b_Law_law 921 = .ok (.invokevirtual 83, 3) := by decide +kernel
theorem d_Law_law_924 : decode b_Law_law 924 = .ok (.iload 5, 2) := by decide +kernel
theorem d_Law_law_926 : decode b_Law_law 926 = .ok (.if_icmp .eq 5, 3) := by decide +kernel
theorem d_Law_law_929 : decode b_Law_law 929 = .ok (.iconst 0, 1) := by decide +kernel
theorem d_Law_law_930 : decode b_Law_law 930 = .ok (.ireturn, 1) := by decide +kernel
theorem d_Law_law_931 : decode b_Law_law 931 = .ok (.iload 5, 2) := by decide +kernel
theorem d_Law_law_933 : decode b_Law_law 933 = .ok (.ifCond .ne 15, 3) := by decide +kernel
theorem d_Law_law_936 : decode b_Law_law 936 = .ok (.aload_n 3, 1) := by decide +kernel
theorem d_Law_law_937 : decode b_Law_law 937 = .ok (.iconst 0, 1) := by decide +kernel
theorem d_Law_law_938 : decode b_Law_law 938 = .ok (.laload, 1) := by decide +kernel
theorem d_Law_law_939 : decode b_Law_law 939 = .ok (.iload 6, 2) := by decide +kernel
theorem d_Law_law_941 : decode b_Law_law 941 = .ok (.i2l, 1) := by decide +kernel
theorem d_Law_law_942 : decode b_Law_law 942 = .ok (.lcmp, 1) := by decide +kernel
