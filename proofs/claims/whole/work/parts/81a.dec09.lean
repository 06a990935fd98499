theorem d_law_884 : decode code 884 = .ok (.iconst 0, 1) := by decide +kernel
theorem d_law_885 : decode code 885 = .ok (.laload, 1) := by decide +kernel
theorem d_law_886 : decode code 886 = .ok (.iload 6, 2) := by decide +kernel
theorem d_law_888 : decode code 888 = .ok (.ifCond .eq 7, 3) := by decide +kernel
theorem d_law_891 : decode code 891 = .ok (.lconst 1, 1) := by decide +kernel
theorem d_law_892 : decode code 892 = .ok (.goto 4, 3) := by decide +kernel
theorem d_law_895 : decode code 895 = .ok (.lconst 0, 1) := by decide +kernel
theorem d_law_896 : decode code 896 = .ok (.lcmp, 1) := by decide +kernel
theorem d_law_897 : decode code 897 = .ok (.ifCond .eq 5, 3) := by decide +kernel
theorem d_law_900 : decode code 900 = .ok (.iconst 0, 1) := by decide +kernel
theorem d_law_901 : decode code 901 = .ok (.ireturn, 1) := by decide +kernel
theorem d_law_902 : decode code 902 = .ok (.goto 331, 3) := by decide +kernel
theorem d_law_905 : decode code 905 = .ok (.aload_n 1, 1) := by decide +kernel
theorem d_law_906 : decode code 906 = .ok (.aload_n 0, 1) := by decide +kernel
theorem d_law_907 : decode code 907 = .ok (.iload 4, 2) := by decide +kernel
theorem d_law_909 : decode code 909 = .ok (.iconst 1, 1) := by decide +kernel
theorem d_law_910 : decode code 910 = .ok (.iadd, 1) := by decide +kernel
theorem d_law_911 : decode code 911 = .ok (.iaload, 1) := by decide +kernel
theorem d_law_912 : decode code 912 = .ok (.aload_n 3, 1) := by decide +kernel
theorem d_law_913 : decode code 913 = .ok (.invokestatic 117, 3) := by decide +kernel
theorem d_law_916 : decode code 916 = .ok (.istore 5, 2) := by decide +kernel
theorem d_law_918 : decode code 918 = .ok (.aload_n 2, 1) := by decide +kernel
theorem d_law_919 : decode code 919 = .ok (.aload_n 0, 1) := by decide +kernel
theorem d_law_920 : decode code 920 = .ok (.iload 4, 2) := by decide +kernel
theorem d_law_922 : decode code 922 = .ok (.iconst 1, 1) := by decide +kernel
theorem d_law_923 : decode code 923 = .ok (.iadd, 1) := by decide +kernel
theorem d_law_924 : decode code 924 = .ok (.iaload, 1) := by decide +kernel
theorem d_law_925 : decode code 925 = .ok (.invokevirtual 119, 3) := by decide +kernel
theorem d_law_928 : decode code 928 = .ok (.istore 6, 2) := by decide +kernel
theorem d_law_930 : decode code 930 = .ok (.aload_n 2, 1) := by decide +kernel
theorem d_law_931 : decode code 931 = .ok (.invokevirtual 82, 3) := by decide +kernel
theorem d_law_934 : decode code 934 = .ok (.iload 5, 2) := by decide +kernel
theorem d_law_936 : decode code 936 = .ok (.if_icmp .eq 5, 3) := by decide +kernel
theorem d_law_939 : decode code 939 = .ok (.iconst 0, 1) := by decide +kernel
theorem d_law_940 : decode code 940 = .ok (.ireturn, 1) := by decide +kernel
theorem d_law_941 : decode code 941 = .ok (.iload 5, 2) := by decide +kernel
theorem d_law_943 : decode code 943 = .ok (.ifCond .ne 15, 3) := by decide +kernel
theorem d_law_946 : decode code 946 = .ok (.aload_n 3, 1) := by decide +kernel
theorem d_law_947 : decode code 947 = .ok (.iconst 0, 1) := by decide +kernel
theorem d_law_948 : decode code 948 = .ok (.laload, 1) := by decide +kernel
theorem d_law_949 : decode code 949 = .ok (.iload 6, 2) := by decide +kernel
theorem d_law_951 : decode code 951 = .ok (.i2l, 1) := by decide +kernel
theorem d_law_952 : decode code 952 = .ok (.lcmp, 1) := by decide +kernel
theorem d_law_953 : decode code 953 = .ok (.ifCond .eq 5, 3) := by decide +kernel
theorem d_law_956 : decode code 956 = .ok (.iconst 0, 1) := by decide +kernel
theorem d_law_957 : decode code 957 = .ok (.ireturn, 1) := by decide +kernel
theorem d_law_958 : decode code 958 = .ok (.goto 275, 3) := by decide +kernel
theorem d_law_961 : decode code 961 = .ok (.aload_n 1, 1) := by decide +kernel
theorem d_law_962 : decode code 962 = .ok (.aload_n 0, 1) := by decide +kernel
theorem d_law_963 : decode code 963 = .ok (.iload 4, 2) := by decide +kernel
theorem d_law_965 : decode code 965 = .ok (.iconst 1, 1) := by decide +kernel
theorem d_law_966 : decode code 966 = .ok (.iadd, 1) := by decide +kernel
theorem d_law_967 : decode code 967 = .ok (.iaload, 1) := by decide +kernel
theorem d_law_968 : decode code 968 = .ok (.aload_n 0, 1) := by decide +kernel
theorem d_law_969 : decode code 969 = .ok (.iload 4, 2) := by decide +kernel
theorem d_law_971 : decode code 971 = .ok (.iconst 2, 1) := by decide +kernel
theorem d_law_972 : decode code 972 = .ok (.iadd, 1) := by decide +kernel
theorem d_law_973 : decode code 973 = .ok (.iaload, 1) := by decide +kernel
theorem d_law_974 : decode code 974 = .ok (.aload_n 3, 1) := by decide +kernel
theorem d_law_975 : decode code 975 = .ok (.invokestatic 120, 3) := by decide +kernel
