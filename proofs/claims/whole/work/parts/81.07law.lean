/-! decode rows of the law -/
theorem dL_law_969 : decode mL.2.1 969 = .ok (.invokevirtual 132, 3) := by decide +kernel
theorem dL_law_972 : decode mL.2.1 972 = .ok (.if_icmp .eq 523, 3) := by decide +kernel
theorem dL_law_977 : decode mL.2.1 977 = .ok (.aload_n 1, 1) := by decide +kernel
theorem dL_law_978 : decode mL.2.1 978 = .ok (.aload_n 0, 1) := by decide +kernel
theorem dL_law_979 : decode mL.2.1 979 = .ok (.iload_n 3, 1) := by decide +kernel
theorem dL_law_980 : decode mL.2.1 980 = .ok (.iconst 1, 1) := by decide +kernel
theorem dL_law_981 : decode mL.2.1 981 = .ok (.iadd, 1) := by decide +kernel
theorem dL_law_982 : decode mL.2.1 982 = .ok (.iaload, 1) := by decide +kernel
theorem dL_law_983 : decode mL.2.1 983 = .ok (.aload_n 0, 1) := by decide +kernel
theorem dL_law_984 : decode mL.2.1 984 = .ok (.iload_n 3, 1) := by decide +kernel
theorem dL_law_985 : decode mL.2.1 985 = .ok (.iconst 2, 1) := by decide +kernel
theorem dL_law_986 : decode mL.2.1 986 = .ok (.iadd, 1) := by decide +kernel
theorem dL_law_987 : decode mL.2.1 987 = .ok (.iaload, 1) := by decide +kernel
theorem dL_law_988 : decode mL.2.1 988 = .ok (.invokevirtual 133, 3) := by decide +kernel
theorem dL_law_991 : decode mL.2.1 991 = .ok (.aload_n 2, 1) := by decide +kernel
theorem dL_law_992 : decode mL.2.1 992 = .ok (.aload_n 0, 1) := by decide +kernel
theorem dL_law_993 : decode mL.2.1 993 = .ok (.iload_n 3, 1) := by decide +kernel
theorem dL_law_994 : decode mL.2.1 994 = .ok (.iconst 1, 1) := by decide +kernel
theorem dL_law_995 : decode mL.2.1 995 = .ok (.iadd, 1) := by decide +kernel
theorem dL_law_996 : decode mL.2.1 996 = .ok (.iaload, 1) := by decide +kernel
theorem dL_law_997 : decode mL.2.1 997 = .ok (.aload_n 0, 1) := by decide +kernel
theorem dL_law_998 : decode mL.2.1 998 = .ok (.iload_n 3, 1) := by decide +kernel
theorem dL_law_999 : decode mL.2.1 999 = .ok (.iconst 2, 1) := by decide +kernel
theorem dL_law_1000 : decode mL.2.1 1000 = .ok (.iadd, 1) := by decide +kernel
theorem dL_law_1001 : decode mL.2.1 1001 = .ok (.iaload, 1) := by decide +kernel
theorem dL_law_1002 : decode mL.2.1 1002 = .ok (.invokevirtual 136, 3) := by decide +kernel
theorem dL_law_1005 : decode mL.2.1 1005 = .ok (.if_icmp .eq 490, 3) := by decide +kernel
theorem dL_law_1010 : decode mL.2.1 1010 = .ok (.aload_n 1, 1) := by decide +kernel
theorem dL_law_1011 : decode mL.2.1 1011 = .ok (.aload_n 0, 1) := by decide +kernel
theorem dL_law_1012 : decode mL.2.1 1012 = .ok (.iload_n 3, 1) := by decide +kernel
theorem dL_law_1013 : decode mL.2.1 1013 = .ok (.iconst 1, 1) := by decide +kernel
theorem dL_law_1014 : decode mL.2.1 1014 = .ok (.iadd, 1) := by decide +kernel
theorem dL_law_1015 : decode mL.2.1 1015 = .ok (.iaload, 1) := by decide +kernel
theorem dL_law_1016 : decode mL.2.1 1016 = .ok (.invokevirtual 137, 3) := by decide +kernel
theorem dL_law_1019 : decode mL.2.1 1019 = .ok (.aload_n 2, 1) := by decide +kernel
theorem dL_law_1020 : decode mL.2.1 1020 = .ok (.aload_n 0, 1) := by decide +kernel
theorem dL_law_1021 : decode mL.2.1 1021 = .ok (.iload_n 3, 1) := by decide +kernel
theorem dL_law_1022 : decode mL.2.1 1022 = .ok (.iconst 1, 1) := by decide +kernel
theorem dL_law_1023 : decode mL.2.1 1023 = .ok (.iadd, 1) := by decide +kernel
theorem dL_law_1024 : decode mL.2.1 1024 = .ok (.iaload, 1) := by decide +kernel
theorem dL_law_1025 : decode mL.2.1 1025 = .ok (.invokevirtual 140, 3) := by decide +kernel
theorem dL_law_1028 : decode mL.2.1 1028 = .ok (.if_icmp .eq 467, 3) := by decide +kernel
theorem dL_law_1033 : decode mL.2.1 1033 = .ok (.aload_n 1, 1) := by decide +kernel
theorem dL_law_1034 : decode mL.2.1 1034 = .ok (.aload_n 0, 1) := by decide +kernel
theorem dL_law_1035 : decode mL.2.1 1035 = .ok (.iload_n 3, 1) := by decide +kernel
theorem dL_law_1036 : decode mL.2.1 1036 = .ok (.iconst 1, 1) := by decide +kernel
theorem dL_law_1037 : decode mL.2.1 1037 = .ok (.iadd, 1) := by decide +kernel
theorem dL_law_1038 : decode mL.2.1 1038 = .ok (.iaload, 1) := by decide +kernel
theorem dL_law_1039 : decode mL.2.1 1039 = .ok (.aload_n 0, 1) := by decide +kernel
theorem dL_law_1040 : decode mL.2.1 1040 = .ok (.iload_n 3, 1) := by decide +kernel
theorem dL_law_1041 : decode mL.2.1 1041 = .ok (.iconst 2, 1) := by decide +kernel
theorem dL_law_1042 : decode mL.2.1 1042 = .ok (.iadd, 1) := by decide +kernel
theorem dL_law_1043 : decode mL.2.1 1043 = .ok (.iaload, 1) := by decide +kernel
theorem dL_law_1044 : decode mL.2.1 1044 = .ok (.invokevirtual 141, 3) := by decide +kernel
theorem dL_law_1047 : decode mL.2.1 1047 = .ok (.aload_n 2, 1) := by decide +kernel
theorem dL_law_1048 : decode mL.2.1 1048 = .ok (.aload_n 0, 1) := by decide +kernel
theorem dL_law_1049 : decode mL.2.1 1049 = .ok (.iload_n 3, 1) := by decide +kernel
theorem dL_law_1050 : decode mL.2.1 1050 = .ok (.iconst 1, 1) := by decide +kernel
theorem dL_law_1051 : decode mL.2.1 1051 = .ok (.iadd, 1) := by decide +kernel
theorem dL_law_1052 : decode mL.2.1 1052 = .ok (.iaload, 1) := by decide +kernel
theorem dL_law_1053 : decode mL.2.1 1053 = .ok (.aload_n 0, 1) := by decide +kernel
theorem dL_law_1054 : decode mL.2.1 1054 = .ok (.iload_n 3, 1) := by decide +kernel
theorem dL_law_1055 : decode mL.2.1 1055 = .ok (.iconst 2, 1) := by decide +kernel
theorem dL_law_1056 : decode mL.2.1 1056 = .ok (.iadd, 1) := by decide +kernel
theorem dL_law_1057 : decode mL.2.1 1057 = .ok (.iaload, 1) := by decide +kernel
theorem dL_law_1058 : decode mL.2.1 1058 = .ok (.invokevirtual 145, 3) := by decide +kernel
theorem dL_law_1061 : decode mL.2.1 1061 = .ok (.lcmp, 1) := by decide +kernel
theorem dL_law_1062 : decode mL.2.1 1062 = .ok (.ifCond .eq 433, 3) := by decide +kernel
theorem dL_law_1067 : decode mL.2.1 1067 = .ok (.aload_n 1, 1) := by decide +kernel
theorem dL_law_1068 : decode mL.2.1 1068 = .ok (.aload_n 0, 1) := by decide +kernel
theorem dL_law_1069 : decode mL.2.1 1069 = .ok (.iload_n 3, 1) := by decide +kernel
theorem dL_law_1070 : decode mL.2.1 1070 = .ok (.iconst 1, 1) := by decide +kernel
theorem dL_law_1071 : decode mL.2.1 1071 = .ok (.iadd, 1) := by decide +kernel
theorem dL_law_1072 : decode mL.2.1 1072 = .ok (.iaload, 1) := by decide +kernel
theorem dL_law_1073 : decode mL.2.1 1073 = .ok (.invokevirtual 146, 3) := by decide +kernel
