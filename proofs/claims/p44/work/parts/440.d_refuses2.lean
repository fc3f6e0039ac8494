/-! instructions of refuses -/
theorem dL_refuses_929 : decode cL_refuses 929 = .ok (.iconst 0, 1) := by decide +kernel
theorem dL_refuses_930 : decode cL_refuses 930 = .ok (.istore 10, 2) := by decide +kernel
theorem dL_refuses_932 : decode cL_refuses 932 = .ok (.iload 10, 2) := by decide +kernel
theorem dL_refuses_934 : decode cL_refuses 934 = .ok (.aload_n 1, 1) := by decide +kernel
theorem dL_refuses_935 : decode cL_refuses 935 = .ok (.iconst 1, 1) := by decide +kernel
theorem dL_refuses_936 : decode cL_refuses 936 = .ok (.iaload, 1) := by decide +kernel
theorem dL_refuses_937 : decode cL_refuses 937 = .ok (.if_icmp .ge 107, 3) := by decide +kernel
theorem dL_refuses_940 : decode cL_refuses 940 = .ok (.iload 9, 2) := by decide +kernel
theorem dL_refuses_942 : decode cL_refuses 942 = .ok (.ifCond .eq 102, 3) := by decide +kernel
theorem dL_refuses_945 : decode cL_refuses 945 = .ok (.aload_n 0, 1) := by decide +kernel
theorem dL_refuses_946 : decode cL_refuses 946 = .ok (.iload 10, 2) := by decide +kernel
theorem dL_refuses_948 : decode cL_refuses 948 = .ok (.invokestatic 224, 3) := by decide +kernel
theorem dL_refuses_951 : decode cL_refuses 951 = .ok (.iconst 1, 1) := by decide +kernel
theorem dL_refuses_952 : decode cL_refuses 952 = .ok (.if_icmp .ne 53, 3) := by decide +kernel
theorem dL_refuses_955 : decode cL_refuses 955 = .ok (.aload_n 1, 1) := by decide +kernel
theorem dL_refuses_956 : decode cL_refuses 956 = .ok (.iconst 2, 1) := by decide +kernel
theorem dL_refuses_957 : decode cL_refuses 957 = .ok (.iaload, 1) := by decide +kernel
theorem dL_refuses_958 : decode cL_refuses 958 = .ok (.bipush 30, 2) := by decide +kernel
theorem dL_refuses_960 : decode cL_refuses 960 = .ok (.if_icmp .eq 37, 3) := by decide +kernel
theorem dL_refuses_963 : decode cL_refuses 963 = .ok (.aload_n 0, 1) := by decide +kernel
theorem dL_refuses_964 : decode cL_refuses 964 = .ok (.iload 10, 2) := by decide +kernel
theorem dL_refuses_966 : decode cL_refuses 966 = .ok (.iload 8, 2) := by decide +kernel
theorem dL_refuses_968 : decode cL_refuses 968 = .ok (.iconst 0, 1) := by decide +kernel
theorem dL_refuses_969 : decode cL_refuses 969 = .ok (.sipush 401, 3) := by decide +kernel
theorem dL_refuses_972 : decode cL_refuses 972 = .ok (.iload_n 2, 1) := by decide +kernel
theorem dL_refuses_973 : decode cL_refuses 973 = .ok (.iadd, 1) := by decide +kernel
theorem dL_refuses_974 : decode cL_refuses 974 = .ok (.invokestatic 179, 3) := by decide +kernel
theorem dL_refuses_977 : decode cL_refuses 977 = .ok (.ldc 18, 2) := by decide +kernel
theorem dL_refuses_979 : decode cL_refuses 979 = .ok (.if_icmp .ne 22, 3) := by decide +kernel
theorem dL_refuses_982 : decode cL_refuses 982 = .ok (.aload_n 0, 1) := by decide +kernel
theorem dL_refuses_983 : decode cL_refuses 983 = .ok (.iload 10, 2) := by decide +kernel
theorem dL_refuses_985 : decode cL_refuses 985 = .ok (.iload 8, 2) := by decide +kernel
theorem dL_refuses_987 : decode cL_refuses 987 = .ok (.iconst 5, 1) := by decide +kernel
theorem dL_refuses_988 : decode cL_refuses 988 = .ok (.iconst 4, 1) := by decide +kernel
theorem dL_refuses_989 : decode cL_refuses 989 = .ok (.invokestatic 179, 3) := by decide +kernel
theorem dL_refuses_992 : decode cL_refuses 992 = .ok (.ldc 18, 2) := by decide +kernel
theorem dL_refuses_994 : decode cL_refuses 994 = .ok (.if_icmp .ne 7, 3) := by decide +kernel
theorem dL_refuses_997 : decode cL_refuses 997 = .ok (.iconst 1, 1) := by decide +kernel
theorem dL_refuses_998 : decode cL_refuses 998 = .ok (.goto 38, 3) := by decide +kernel
theorem dL_refuses_1001 : decode cL_refuses 1001 = .ok (.iconst 0, 1) := by decide +kernel
theorem dL_refuses_1002 : decode cL_refuses 1002 = .ok (.goto 34, 3) := by decide +kernel
theorem dL_refuses_1005 : decode cL_refuses 1005 = .ok (.aload_n 0, 1) := by decide +kernel
theorem dL_refuses_1006 : decode cL_refuses 1006 = .ok (.iload 10, 2) := by decide +kernel
theorem dL_refuses_1008 : decode cL_refuses 1008 = .ok (.invokestatic 176, 3) := by decide +kernel
theorem dL_refuses_1011 : decode cL_refuses 1011 = .ok (.ldc 21, 2) := by decide +kernel
theorem dL_refuses_1013 : decode cL_refuses 1013 = .ok (.if_icmp .ne 22, 3) := by decide +kernel
theorem dL_refuses_1016 : decode cL_refuses 1016 = .ok (.aload_n 0, 1) := by decide +kernel
theorem dL_refuses_1017 : decode cL_refuses 1017 = .ok (.iload 10, 2) := by decide +kernel
theorem dL_refuses_1019 : decode cL_refuses 1019 = .ok (.iload 8, 2) := by decide +kernel
theorem dL_refuses_1021 : decode cL_refuses 1021 = .ok (.iconst 0, 1) := by decide +kernel
theorem dL_refuses_1022 : decode cL_refuses 1022 = .ok (.iconst 0, 1) := by decide +kernel
theorem dL_refuses_1023 : decode cL_refuses 1023 = .ok (.invokestatic 179, 3) := by decide +kernel
theorem dL_refuses_1026 : decode cL_refuses 1026 = .ok (.ldc 21, 2) := by decide +kernel
theorem dL_refuses_1028 : decode cL_refuses 1028 = .ok (.if_icmp .ne 7, 3) := by decide +kernel
theorem dL_refuses_1031 : decode cL_refuses 1031 = .ok (.iconst 1, 1) := by decide +kernel
theorem dL_refuses_1032 : decode cL_refuses 1032 = .ok (.goto 4, 3) := by decide +kernel
theorem dL_refuses_1035 : decode cL_refuses 1035 = .ok (.iconst 0, 1) := by decide +kernel
theorem dL_refuses_1036 : decode cL_refuses 1036 = .ok (.istore 9, 2) := by decide +kernel
theorem dL_refuses_1038 : decode cL_refuses 1038 = .ok (.iinc 10 1, 3) := by decide +kernel
theorem dL_refuses_1041 : decode cL_refuses 1041 = .ok (.goto (-109), 3) := by decide +kernel
theorem dL_refuses_1044 : decode cL_refuses 1044 = .ok (.iconst 0, 1) := by decide +kernel
theorem dL_refuses_1045 : decode cL_refuses 1045 = .ok (.istore 10, 2) := by decide +kernel
theorem dL_refuses_1047 : decode cL_refuses 1047 = .ok (.iload 10, 2) := by decide +kernel
theorem dL_refuses_1049 : decode cL_refuses 1049 = .ok (.aload_n 1, 1) := by decide +kernel
theorem dL_refuses_1050 : decode cL_refuses 1050 = .ok (.iconst 0, 1) := by decide +kernel
theorem dL_refuses_1051 : decode cL_refuses 1051 = .ok (.iaload, 1) := by decide +kernel
theorem dL_refuses_1052 : decode cL_refuses 1052 = .ok (.if_icmp .ge 51, 3) := by decide +kernel
theorem dL_refuses_1055 : decode cL_refuses 1055 = .ok (.iload 9, 2) := by decide +kernel
theorem dL_refuses_1057 : decode cL_refuses 1057 = .ok (.ifCond .eq 46, 3) := by decide +kernel
theorem dL_refuses_1060 : decode cL_refuses 1060 = .ok (.aload_n 0, 1) := by decide +kernel
theorem dL_refuses_1061 : decode cL_refuses 1061 = .ok (.iload 10, 2) := by decide +kernel
theorem dL_refuses_1063 : decode cL_refuses 1063 = .ok (.invokestatic 211, 3) := by decide +kernel
theorem dL_refuses_1066 : decode cL_refuses 1066 = .ok (.ifCond .lt 24, 3) := by decide +kernel
theorem dL_refuses_1069 : decode cL_refuses 1069 = .ok (.aload_n 0, 1) := by decide +kernel
theorem dL_refuses_1070 : decode cL_refuses 1070 = .ok (.iload 10, 2) := by decide +kernel
theorem dL_refuses_1072 : decode cL_refuses 1072 = .ok (.invokestatic 220, 3) := by decide +kernel
theorem dL_refuses_1075 : decode cL_refuses 1075 = .ok (.iconst 1, 1) := by decide +kernel
theorem dL_refuses_1076 : decode cL_refuses 1076 = .ok (.if_icmp .eq 14, 3) := by decide +kernel
theorem dL_refuses_1079 : decode cL_refuses 1079 = .ok (.aload_n 0, 1) := by decide +kernel
theorem dL_refuses_1080 : decode cL_refuses 1080 = .ok (.iload 10, 2) := by decide +kernel
theorem dL_refuses_1082 : decode cL_refuses 1082 = .ok (.invokestatic 173, 3) := by decide +kernel
theorem dL_refuses_1085 : decode cL_refuses 1085 = .ok (.ldc 21, 2) := by decide +kernel
theorem dL_refuses_1087 : decode cL_refuses 1087 = .ok (.if_icmp .ne 7, 3) := by decide +kernel
theorem dL_refuses_1090 : decode cL_refuses 1090 = .ok (.iconst 1, 1) := by decide +kernel
theorem dL_refuses_1091 : decode cL_refuses 1091 = .ok (.goto 4, 3) := by decide +kernel
theorem dL_refuses_1094 : decode cL_refuses 1094 = .ok (.iconst 0, 1) := by decide +kernel
theorem dL_refuses_1095 : decode cL_refuses 1095 = .ok (.istore 9, 2) := by decide +kernel
theorem dL_refuses_1097 : decode cL_refuses 1097 = .ok (.iinc 10 1, 3) := by decide +kernel
theorem dL_refuses_1100 : decode cL_refuses 1100 = .ok (.goto (-53), 3) := by decide +kernel
theorem dL_refuses_1103 : decode cL_refuses 1103 = .ok (.iload 9, 2) := by decide +kernel
theorem dL_refuses_1105 : decode cL_refuses 1105 = .ok (.ireturn, 1) := by decide +kernel
