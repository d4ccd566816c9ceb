theorem d_L_law_917 : decode b_L_law 917 = .ok (.aload_n 1, 1) := by decide +kernel
theorem d_L_law_918 : decode b_L_law 918 = .ok (.invokevirtual 128, 3) := by decide +kernel
theorem d_L_law_921 : decode b_L_law 921 = .ok (.aload_n 2, 1) := by decide +kernel
theorem d_L_law_922 : decode b_L_law 922 = .ok (.invokevirtual 131, 3) := by decide +kernel
theorem d_L_law_925 : decode b_L_law 925 = .ok (.if_icmp .eq (250), 3) := by decide +kernel
theorem d_L_law_928 : decode b_L_law 928 = .ok (.iconst 0, 1) := by decide +kernel
theorem d_L_law_929 : decode b_L_law 929 = .ok (.ireturn, 1) := by decide +kernel
theorem d_L_law_930 : decode b_L_law 930 = .ok (.aload_n 1, 1) := by decide +kernel
theorem d_L_law_931 : decode b_L_law 931 = .ok (.aload_n 0, 1) := by decide +kernel
theorem d_L_law_932 : decode b_L_law 932 = .ok (.iload 4, 2) := by decide +kernel
theorem d_L_law_934 : decode b_L_law 934 = .ok (.iconst 1, 1) := by decide +kernel
theorem d_L_law_935 : decode b_L_law 935 = .ok (.iadd, 1) := by decide +kernel
theorem d_L_law_936 : decode b_L_law 936 = .ok (.iaload, 1) := by decide +kernel
theorem d_L_law_937 : decode b_L_law 937 = .ok (.aload_n 3, 1) := by decide +kernel
theorem d_L_law_938 : decode b_L_law 938 = .ok (.invokestatic 132, 3) := by decide +kernel
theorem d_L_law_941 : decode b_L_law 941 = .ok (.istore 5, 2) := by decide +kernel
theorem d_L_law_943 : decode b_L_law 943 = .ok (.aload_n 2, 1) := by decide +kernel
theorem d_L_law_944 : decode b_L_law 944 = .ok (.aload_n 0, 1) := by decide +kernel
theorem d_L_law_945 : decode b_L_law 945 = .ok (.iload 4, 2) := by decide +kernel
theorem d_L_law_947 : decode b_L_law 947 = .ok (.iconst 1, 1) := by decide +kernel
theorem d_L_law_948 : decode b_L_law 948 = .ok (.iadd, 1) := by decide +kernel
theorem d_L_law_949 : decode b_L_law 949 = .ok (.iaload, 1) := by decide +kernel
theorem d_L_law_950 : decode b_L_law 950 = .ok (.invokevirtual 134, 3) := by decide +kernel
theorem d_L_law_953 : decode b_L_law 953 = .ok (.istore 6, 2) := by decide +kernel
theorem d_L_law_955 : decode b_L_law 955 = .ok (.aload_n 2, 1) := by decide +kernel
theorem d_L_law_956 : decode b_L_law 956 = .ok (.invokevirtual 82, 3) := by decide +kernel
theorem d_L_law_959 : decode b_L_law 959 = .ok (.iload 5, 2) := by decide +kernel
theorem d_L_law_961 : decode b_L_law 961 = .ok (.if_icmp .eq (5), 3) := by decide +kernel
theorem d_L_law_964 : decode b_L_law 964 = .ok (.iconst 0, 1) := by decide +kernel
theorem d_L_law_965 : decode b_L_law 965 = .ok (.ireturn, 1) := by decide +kernel
theorem d_L_law_966 : decode b_L_law 966 = .ok (.iload 5, 2) := by decide +kernel
theorem d_L_law_968 : decode b_L_law 968 = .ok (.ifCond .ne (15), 3) := by decide +kernel
theorem d_L_law_971 : decode b_L_law 971 = .ok (.aload_n 3, 1) := by decide +kernel
theorem d_L_law_972 : decode b_L_law 972 = .ok (.iconst 0, 1) := by decide +kernel
theorem d_L_law_973 : decode b_L_law 973 = .ok (.laload, 1) := by decide +kernel
theorem d_L_law_974 : decode b_L_law 974 = .ok (.iload 6, 2) := by decide +kernel
theorem d_L_law_976 : decode b_L_law 976 = .ok (.i2l, 1) := by decide +kernel
theorem d_L_law_977 : decode b_L_law 977 = .ok (.lcmp, 1) := by decide +kernel
theorem d_L_law_978 : decode b_L_law 978 = .ok (.ifCond .eq (5), 3) := by decide +kernel
theorem d_L_law_981 : decode b_L_law 981 = .ok (.iconst 0, 1) := by decide +kernel
theorem d_L_law_982 : decode b_L_law 982 = .ok (.ireturn, 1) := by decide +kernel
theorem d_L_law_983 : decode b_L_law 983 = .ok (.goto (192), 3) := by decide +kernel
theorem d_L_law_986 : decode b_L_law 986 = .ok (.aload_n 1, 1) := by decide +kernel
theorem d_L_law_987 : decode b_L_law 987 = .ok (.aload_n 0, 1) := by decide +kernel
theorem d_L_law_988 : decode b_L_law 988 = .ok (.iload 4, 2) := by decide +kernel
theorem d_L_law_990 : decode b_L_law 990 = .ok (.iconst 1, 1) := by decide +kernel
theorem d_L_law_991 : decode b_L_law 991 = .ok (.iadd, 1) := by decide +kernel
theorem d_L_law_992 : decode b_L_law 992 = .ok (.iaload, 1) := by decide +kernel
theorem d_L_law_993 : decode b_L_law 993 = .ok (.invokestatic 135, 3) := by decide +kernel
theorem d_L_law_996 : decode b_L_law 996 = .ok (.istore 5, 2) := by decide +kernel
theorem d_L_law_998 : decode b_L_law 998 = .ok (.aload_n 2, 1) := by decide +kernel
theorem d_L_law_999 : decode b_L_law 999 = .ok (.aload_n 0, 1) := by decide +kernel
theorem d_L_law_1000 : decode b_L_law 1000 = .ok (.iload 4, 2) := by decide +kernel
theorem d_L_law_1002 : decode b_L_law 1002 = .ok (.iconst 1, 1) := by decide +kernel
theorem d_L_law_1003 : decode b_L_law 1003 = .ok (.iadd, 1) := by decide +kernel
theorem d_L_law_1004 : decode b_L_law 1004 = .ok (.iaload, 1) := by decide +kernel
theorem d_L_law_1005 : decode b_L_law 1005 = .ok (.invokevirtual 137, 3) := by decide +kernel
theorem d_L_law_1008 : decode b_L_law 1008 = .ok (.aload_n 2, 1) := by decide +kernel
theorem d_L_law_1009 : decode b_L_law 1009 = .ok (.invokevirtual 82, 3) := by decide +kernel
theorem d_L_law_1012 : decode b_L_law 1012 = .ok (.iload 5, 2) := by decide +kernel
