/-! The law's decode rows, 6 of 10. -/
theorem d_Law_law_870 : decode b_Law_law 870 = .ok (.aload_n 0, 1) := by decide +kernel
theorem d_Law_law_871 : decode b_Law_law 871 = .ok (.iload 4, 2) := by decide +kernel
theorem d_Law_law_873 : decode b_Law_law 873 = .ok (.iconst 3, 1) := by decide +kernel
theorem d_Law_law_874 : decode b_Law_law 874 = .ok (.iadd, 1) := by decide +kernel
theorem d_Law_law_875 : decode b_Law_law 875 = .ok (.iaload, 1) := by decide +kernel
theorem d_Law_law_876 : decode b_Law_law 876 = .ok (.invokevirtual 133, 3) := by decide +kernel
theorem d_Law_law_879 : decode b_Law_law 879 = .ok (.istore 6, 2) := by decide +kernel
theorem d_Law_law_881 : decode b_Law_law 881 = .ok (.aload_n 2, 1) := by decide +kernel
theorem d_Law_law_882 : decode b_Law_law 882 = .ok (.invokevirtual 97, 3) := by decide +kernel
theorem d_Law_law_885 : decode b_Law_law 885 = .ok (.iload 5, 2) := by decide +kernel
theorem d_Law_law_887 : decode b_Law_law 887 = .ok (.if_icmp .eq 5, 3) := by decide +kernel
theorem d_Law_law_892 : decode b_Law_law 892 = .ok (.iload 5, 2) := by decide +kernel
theorem d_Law_law_894 : decode b_Law_law 894 = .ok (.ifCond .ne 15, 3) := by decide +kernel
theorem d_Law_law_897 : decode b_Law_law 897 = .ok (.aload_n 3, 1) := by decide +kernel
theorem d_Law_law_898 : decode b_Law_law 898 = .ok (.iconst 0, 1) := by decide +kernel
theorem d_Law_law_899 : decode b_Law_law 899 = .ok (.laload, 1) := by decide +kernel
theorem d_Law_law_900 : decode b_Law_law 900 = .ok (.iload 6, 2) := by decide +kernel
theorem d_Law_law_902 : decode b_Law_law 902 = .ok (.i2l, 1) := by decide +kernel
theorem d_Law_law_903 : decode b_Law_law 903 = .ok (.lcmp, 1) := by decide +kernel
theorem d_Law_law_904 : decode b_Law_law 904 = .ok (.ifCond .eq 5, 3) := by decide +kernel
theorem d_Law_law_909 : decode b_Law_law 909 = .ok (.goto 739, 3) := by decide +kernel
theorem d_Law_law_912 : decode b_Law_law 912 = .ok (.aload_n 1, 1) := by decide +kernel
theorem d_Law_law_913 : decode b_Law_law 913 = .ok (.aload_n 0, 1) := by decide +kernel
theorem d_Law_law_914 : decode b_Law_law 914 = .ok (.iload 4, 2) := by decide +kernel
theorem d_Law_law_916 : decode b_Law_law 916 = .ok (.iconst 1, 1) := by decide +kernel
theorem d_Law_law_917 : decode b_Law_law 917 = .ok (.iadd, 1) := by decide +kernel
theorem d_Law_law_918 : decode b_Law_law 918 = .ok (.iaload, 1) := by decide +kernel
theorem d_Law_law_919 : decode b_Law_law 919 = .ok (.aload_n 0, 1) := by decide +kernel
theorem d_Law_law_920 : decode b_Law_law 920 = .ok (.iload 4, 2) := by decide +kernel
theorem d_Law_law_922 : decode b_Law_law 922 = .ok (.iconst 2, 1) := by decide +kernel
theorem d_Law_law_923 : decode b_Law_law 923 = .ok (.iadd, 1) := by decide +kernel
theorem d_Law_law_924 : decode b_Law_law 924 = .ok (.iaload, 1) := by decide +kernel
theorem d_Law_law_925 : decode b_Law_law 925 = .ok (.aload_n 0, 1) := by decide +kernel
theorem d_Law_law_926 : decode b_Law_law 926 = .ok (.iload 4, 2) := by decide +kernel
theorem d_Law_law_928 : decode b_Law_law 928 = .ok (.iconst 3, 1) := by decide +kernel
theorem d_Law_law_929 : decode b_Law_law 929 = .ok (.iadd, 1) := by decide +kernel
theorem d_Law_law_930 : decode b_Law_law 930 = .ok (.iaload, 1) := by decide +kernel
theorem d_Law_law_931 : decode b_Law_law 931 = .ok (.aload_n 3, 1) := by decide +kernel
theorem d_Law_law_932 : decode b_Law_law 932 = .ok (.invokestatic 134, 3) := by decide +kernel
theorem d_Law_law_935 : decode b_Law_law 935 = .ok (.istore 5, 2) := by decide +kernel
theorem d_Law_law_937 : decode b_Law_law 937 = .ok (.aload_n 2, 1) := by decide +kernel
theorem d_Law_law_938 : decode b_Law_law 938 = .ok (.aload_n 0, 1) := by decide +kernel
theorem d_Law_law_939 : decode b_Law_law 939 = .ok (.iload 4, 2) := by decide +kernel
theorem d_Law_law_941 : decode b_Law_law 941 = .ok (.iconst 1, 1) := by decide +kernel
theorem d_Law_law_942 : decode b_Law_law 942 = .ok (.iadd, 1) := by decide +kernel
theorem d_Law_law_943 : decode b_Law_law 943 = .ok (.iaload, 1) := by decide +kernel
theorem d_Law_law_944 : decode b_Law_law 944 = .ok (.aload_n 0, 1) := by decide +kernel
theorem d_Law_law_945 : decode b_Law_law 945 = .ok (.iload 4, 2) := by decide +kernel
theorem d_Law_law_947 : decode b_Law_law 947 = .ok (.iconst 2, 1) := by decide +kernel
theorem d_Law_law_948 : decode b_Law_law 948 = .ok (.iadd, 1) := by decide +kernel
theorem d_Law_law_949 : decode b_Law_law 949 = .ok (.iaload, 1) := by decide +kernel
theorem d_Law_law_950 : decode b_Law_law 950 = .ok (.aload_n 0, 1) := by decide +kernel
theorem d_Law_law_951 : decode b_Law_law 951 = .ok (.iload 4, 2) := by decide +kernel
theorem d_Law_law_953 : decode b_Law_law 953 = .ok (.iconst 3, 1) := by decide +kernel
theorem d_Law_law_954 : decode b_Law_law 954 = .ok (.iadd, 1) := by decide +kernel
theorem d_Law_law_955 : decode b_Law_law 955 = .ok (.iaload, 1) := by decide +kernel
theorem d_Law_law_956 : decode b_Law_law 956 = .ok (.invokevirtual 136, 3) := by decide +kernel
theorem d_Law_law_959 : decode b_Law_law 959 = .ok (.istore 6, 2) := by decide +kernel
theorem d_Law_law_961 : decode b_Law_law 961 = .ok (.aload_n 2, 1) := by decide +kernel
theorem d_Law_law_962 : decode b_Law_law 962 = .ok (.invokevirtual 97, 3) := by decide +kernel
theorem d_Law_law_965 : decode b_Law_law 965 = .ok (.iload 5, 2) := by decide +kernel
theorem d_Law_law_967 : decode b_Law_law 967 = .ok (.if_icmp .eq 5, 3) := by decide +kernel
theorem d_Law_law_972 : decode b_Law_law 972 = .ok (.iload 5, 2) := by decide +kernel
theorem d_Law_law_974 : decode b_Law_law 974 = .ok (.ifCond .ne 15, 3) := by decide +kernel
theorem d_Law_law_977 : decode b_Law_law 977 = .ok (.aload_n 3, 1) := by decide +kernel
theorem d_Law_law_978 : decode b_Law_law 978 = .ok (.iconst 0, 1) := by decide +kernel
theorem d_Law_law_979 : decode b_Law_law 979 = .ok (.laload, 1) := by decide +kernel
theorem d_Law_law_980 : decode b_Law_law 980 = .ok (.iload 6, 2) := by decide +kernel
theorem d_Law_law_982 : decode b_Law_law 982 = .ok (.i2l, 1) := by decide +kernel
theorem d_Law_law_983 : decode b_Law_law 983 = .ok (.lcmp, 1) := by decide +kernel
theorem d_Law_law_984 : decode b_Law_law 984 = .ok (.ifCond .eq 5, 3) := by decide +kernel
theorem d_Law_law_989 : decode b_Law_law 989 = .ok (.goto 659, 3) := by decide +kernel
theorem d_Law_law_992 : decode b_Law_law 992 = .ok (.aload_n 1, 1) := by decide +kernel
theorem d_Law_law_993 : decode b_Law_law 993 = .ok (.aload_n 0, 1) := by decide +kernel
theorem d_Law_law_994 : decode b_Law_law 994 = .ok (.iload 4, 2) := by decide +kernel
theorem d_Law_law_996 : decode b_Law_law 996 = .ok (.iconst 1, 1) := by decide +kernel
theorem d_Law_law_997 : decode b_Law_law 997 = .ok (.iadd, 1) := by decide +kernel
theorem d_Law_law_998 : decode b_Law_law 998 = .ok (.iaload, 1) := by decide +kernel
theorem d_Law_law_999 : decode b_Law_law 999 = .ok (.aload_n 0, 1) := by decide +kernel
theorem d_Law_law_1000 : decode b_Law_law 1000 = .ok (.iload 4, 2) := by decide +kernel
theorem d_Law_law_1002 : decode b_Law_law 1002 = .ok (.iconst 2, 1) := by decide +kernel
theorem d_Law_law_1003 : decode b_Law_law 1003 = .ok (.iadd, 1) := by decide +kernel
theorem d_Law_law_1004 : decode b_Law_law 1004 = .ok (.iaload, 1) := by decide +kernel
theorem d_Law_law_1005 : decode b_Law_law 1005 = .ok (.aload_n 3, 1) := by decide +kernel
theorem d_Law_law_1006 : decode b_Law_law 1006 = .ok (.invokestatic 137, 3) := by decide +kernel
theorem d_Law_law_1009 : decode b_Law_law 1009 = .ok (.istore 5, 2) := by decide +kernel
theorem d_Law_law_1011 : decode b_Law_law 1011 = .ok (.aload_n 2, 1) := by decide +kernel
theorem d_Law_law_1012 : decode b_Law_law 1012 = .ok (.aload_n 0, 1) := by decide +kernel
theorem d_Law_law_1013 : decode b_Law_law 1013 = .ok (.iload 4, 2) := by decide +kernel
theorem d_Law_law_1015 : decode b_Law_law 1015 = .ok (.iconst 1, 1) := by decide +kernel
theorem d_Law_law_1016 : decode b_Law_law 1016 = .ok (.iadd, 1) := by decide +kernel
theorem d_Law_law_1017 : decode b_Law_law 1017 = .ok (.iaload, 1) := by decide +kernel
theorem d_Law_law_1018 : decode b_Law_law 1018 = .ok (.aload_n 0, 1) := by decide +kernel
theorem d_Law_law_1019 : decode b_Law_law 1019 = .ok (.iload 4, 2) := by decide +kernel
theorem d_Law_law_1021 : decode b_Law_law 1021 = .ok (.iconst 2, 1) := by decide +kernel
