theorem dL_law_929 : decode cL_law 929 = .ok (.iload 4, 2) := by decide +kernel
theorem dL_law_931 : decode cL_law 931 = .ok (.iconst 1, 1) := by decide +kernel
theorem dL_law_932 : decode cL_law 932 = .ok (.iadd, 1) := by decide +kernel
theorem dL_law_933 : decode cL_law 933 = .ok (.iaload, 1) := by decide +kernel
theorem dL_law_934 : decode cL_law 934 = .ok (.invokevirtual 150, 3) := by decide +kernel
theorem dL_law_937 : decode cL_law 937 = .ok (.istore 6, 2) := by decide +kernel
theorem dL_law_939 : decode cL_law 939 = .ok (.aload_n 2, 1) := by decide +kernel
theorem dL_law_940 : decode cL_law 940 = .ok (.invokevirtual 102, 3) := by decide +kernel
theorem dL_law_943 : decode cL_law 943 = .ok (.iload 5, 2) := by decide +kernel
theorem dL_law_945 : decode cL_law 945 = .ok (.if_icmp .eq 5, 3) := by decide +kernel
theorem dL_law_948 : decode cL_law 948 = .ok (.iconst 0, 1) := by decide +kernel
theorem dL_law_949 : decode cL_law 949 = .ok (.ireturn, 1) := by decide +kernel
theorem dL_law_950 : decode cL_law 950 = .ok (.iload 5, 2) := by decide +kernel
theorem dL_law_952 : decode cL_law 952 = .ok (.ifCond .ne 15, 3) := by decide +kernel
theorem dL_law_955 : decode cL_law 955 = .ok (.aload_n 3, 1) := by decide +kernel
theorem dL_law_956 : decode cL_law 956 = .ok (.iconst 0, 1) := by decide +kernel
theorem dL_law_957 : decode cL_law 957 = .ok (.laload, 1) := by decide +kernel
theorem dL_law_958 : decode cL_law 958 = .ok (.iload 6, 2) := by decide +kernel
theorem dL_law_960 : decode cL_law 960 = .ok (.i2l, 1) := by decide +kernel
theorem dL_law_961 : decode cL_law 961 = .ok (.lcmp, 1) := by decide +kernel
theorem dL_law_962 : decode cL_law 962 = .ok (.ifCond .eq 5, 3) := by decide +kernel
theorem dL_law_965 : decode cL_law 965 = .ok (.iconst 0, 1) := by decide +kernel
theorem dL_law_966 : decode cL_law 966 = .ok (.ireturn, 1) := by decide +kernel
theorem dL_law_967 : decode cL_law 967 = .ok (.goto 747, 3) := by decide +kernel
theorem dL_law_970 : decode cL_law 970 = .ok (.aload_n 1, 1) := by decide +kernel
theorem dL_law_971 : decode cL_law 971 = .ok (.aload_n 0, 1) := by decide +kernel
theorem dL_law_972 : decode cL_law 972 = .ok (.iload 4, 2) := by decide +kernel
theorem dL_law_974 : decode cL_law 974 = .ok (.iconst 1, 1) := by decide +kernel
theorem dL_law_975 : decode cL_law 975 = .ok (.iadd, 1) := by decide +kernel
theorem dL_law_976 : decode cL_law 976 = .ok (.iaload, 1) := by decide +kernel
theorem dL_law_977 : decode cL_law 977 = .ok (.aload_n 0, 1) := by decide +kernel
theorem dL_law_978 : decode cL_law 978 = .ok (.iload 4, 2) := by decide +kernel
theorem dL_law_980 : decode cL_law 980 = .ok (.iconst 2, 1) := by decide +kernel
theorem dL_law_981 : decode cL_law 981 = .ok (.iadd, 1) := by decide +kernel
theorem dL_law_982 : decode cL_law 982 = .ok (.iaload, 1) := by decide +kernel
theorem dL_law_983 : decode cL_law 983 = .ok (.ifCond .eq 7, 3) := by decide +kernel
theorem dL_law_986 : decode cL_law 986 = .ok (.iconst 1, 1) := by decide +kernel
theorem dL_law_987 : decode cL_law 987 = .ok (.goto 4, 3) := by decide +kernel
theorem dL_law_990 : decode cL_law 990 = .ok (.iconst 0, 1) := by decide +kernel
theorem dL_law_991 : decode cL_law 991 = .ok (.aload_n 3, 1) := by decide +kernel
theorem dL_law_992 : decode cL_law 992 = .ok (.invokestatic 151, 3) := by decide +kernel
theorem dL_law_995 : decode cL_law 995 = .ok (.istore 5, 2) := by decide +kernel
theorem dL_law_997 : decode cL_law 997 = .ok (.aload_n 2, 1) := by decide +kernel
theorem dL_law_998 : decode cL_law 998 = .ok (.aload_n 0, 1) := by decide +kernel
theorem dL_law_999 : decode cL_law 999 = .ok (.iload 4, 2) := by decide +kernel
theorem dL_law_1001 : decode cL_law 1001 = .ok (.iconst 1, 1) := by decide +kernel
theorem dL_law_1002 : decode cL_law 1002 = .ok (.iadd, 1) := by decide +kernel
theorem dL_law_1003 : decode cL_law 1003 = .ok (.iaload, 1) := by decide +kernel
theorem dL_law_1004 : decode cL_law 1004 = .ok (.aload_n 0, 1) := by decide +kernel
theorem dL_law_1005 : decode cL_law 1005 = .ok (.iload 4, 2) := by decide +kernel
theorem dL_law_1007 : decode cL_law 1007 = .ok (.iconst 2, 1) := by decide +kernel
theorem dL_law_1008 : decode cL_law 1008 = .ok (.iadd, 1) := by decide +kernel
theorem dL_law_1009 : decode cL_law 1009 = .ok (.iaload, 1) := by decide +kernel
theorem dL_law_1010 : decode cL_law 1010 = .ok (.ifCond .eq 7, 3) := by decide +kernel
theorem dL_law_1013 : decode cL_law 1013 = .ok (.iconst 1, 1) := by decide +kernel
theorem dL_law_1014 : decode cL_law 1014 = .ok (.goto 4, 3) := by decide +kernel
theorem dL_law_1017 : decode cL_law 1017 = .ok (.iconst 0, 1) := by decide +kernel
theorem dL_law_1018 : decode cL_law 1018 = .ok (.invokevirtual 154, 3) := by decide +kernel
theorem dL_law_1021 : decode cL_law 1021 = .ok (.istore 6, 2) := by decide +kernel
theorem dL_law_1023 : decode cL_law 1023 = .ok (.aload_n 2, 1) := by decide +kernel
theorem dL_law_1024 : decode cL_law 1024 = .ok (.invokevirtual 102, 3) := by decide +kernel
theorem dL_law_1027 : decode cL_law 1027 = .ok (.iload 5, 2) := by decide +kernel
theorem dL_law_1029 : decode cL_law 1029 = .ok (.if_icmp .eq 5, 3) := by decide +kernel
theorem dL_law_1032 : decode cL_law 1032 = .ok (.iconst 0, 1) := by decide +kernel
theorem dL_law_1033 : decode cL_law 1033 = .ok (.ireturn, 1) := by decide +kernel
theorem dL_law_1034 : decode cL_law 1034 = .ok (.iload 5, 2) := by decide +kernel
theorem dL_law_1036 : decode cL_law 1036 = .ok (.ifCond .ne 15, 3) := by decide +kernel
theorem dL_law_1039 : decode cL_law 1039 = .ok (.aload_n 3, 1) := by decide +kernel
theorem dL_law_1040 : decode cL_law 1040 = .ok (.iconst 0, 1) := by decide +kernel
theorem dL_law_1041 : decode cL_law 1041 = .ok (.laload, 1) := by decide +kernel
theorem dL_law_1042 : decode cL_law 1042 = .ok (.iload 6, 2) := by decide +kernel
theorem dL_law_1044 : decode cL_law 1044 = .ok (.i2l, 1) := by decide +kernel
theorem dL_law_1045 : decode cL_law 1045 = .ok (.lcmp, 1) := by decide +kernel
theorem dL_law_1046 : decode cL_law 1046 = .ok (.ifCond .eq 5, 3) := by decide +kernel
theorem dL_law_1049 : decode cL_law 1049 = .ok (.iconst 0, 1) := by decide +kernel
theorem dL_law_1050 : decode cL_law 1050 = .ok (.ireturn, 1) := by decide +kernel
theorem dL_law_1051 : decode cL_law 1051 = .ok (.goto 663, 3) := by decide +kernel
theorem dL_law_1054 : decode cL_law 1054 = .ok (.aload_n 1, 1) := by decide +kernel
theorem dL_law_1055 : decode cL_law 1055 = .ok (.aload_n 0, 1) := by decide +kernel
theorem dL_law_1056 : decode cL_law 1056 = .ok (.iload 4, 2) := by decide +kernel
theorem dL_law_1058 : decode cL_law 1058 = .ok (.iconst 1, 1) := by decide +kernel
theorem dL_law_1059 : decode cL_law 1059 = .ok (.iadd, 1) := by decide +kernel
theorem dL_law_1060 : decode cL_law 1060 = .ok (.iaload, 1) := by decide +kernel
theorem dL_law_1061 : decode cL_law 1061 = .ok (.aload_n 0, 1) := by decide +kernel
theorem dL_law_1062 : decode cL_law 1062 = .ok (.iload 4, 2) := by decide +kernel
theorem dL_law_1064 : decode cL_law 1064 = .ok (.iconst 2, 1) := by decide +kernel
theorem dL_law_1065 : decode cL_law 1065 = .ok (.iadd, 1) := by decide +kernel
theorem dL_law_1066 : decode cL_law 1066 = .ok (.iaload, 1) := by decide +kernel
theorem dL_law_1067 : decode cL_law 1067 = .ok (.ifCond .eq 7, 3) := by decide +kernel
theorem dL_law_1070 : decode cL_law 1070 = .ok (.iconst 1, 1) := by decide +kernel
theorem dL_law_1071 : decode cL_law 1071 = .ok (.goto 4, 3) := by decide +kernel
theorem dL_law_1074 : decode cL_law 1074 = .ok (.iconst 0, 1) := by decide +kernel
theorem dL_law_1075 : decode cL_law 1075 = .ok (.aload_n 3, 1) := by decide +kernel
theorem dL_law_1076 : decode cL_law 1076 = .ok (.invokestatic 155, 3) := by decide +kernel
theorem dL_law_1079 : decode cL_law 1079 = .ok (.istore 5, 2) := by decide +kernel
theorem dL_law_1081 : decode cL_law 1081 = .ok (.aload_n 2, 1) := by decide +kernel
theorem dL_law_1082 : decode cL_law 1082 = .ok (.aload_n 0, 1) := by decide +kernel
theorem dL_law_1083 : decode cL_law 1083 = .ok (.iload 4, 2) := by decide +kernel
theorem dL_law_1085 : decode cL_law 1085 = .ok (.iconst 1, 1) := by decide +kernel
theorem dL_law_1086 : decode cL_law 1086 = .ok (.iadd, 1) := by decide +kernel
theorem dL_law_1087 : decode cL_law 1087 = .ok (.iaload, 1) := by decide +kernel
theorem dL_law_1088 : decode cL_law 1088 = .ok (.aload_n 0, 1) := by decide +kernel
theorem dL_law_1089 : decode cL_law 1089 = .ok (.iload 4, 2) := by decide +kernel
theorem dL_law_1091 : decode cL_law 1091 = .ok (.iconst 2, 1) := by decide +kernel
theorem dL_law_1092 : decode cL_law 1092 = .ok (.iadd, 1) := by decide +kernel
theorem dL_law_1093 : decode cL_law 1093 = .ok (.iaload, 1) := by decide +kernel
theorem dL_law_1094 : decode cL_law 1094 = .ok (.ifCond .eq 7, 3) := by decide +kernel
theorem dL_law_1097 : decode cL_law 1097 = .ok (.iconst 1, 1) := by decide +kernel
theorem dL_law_1098 : decode cL_law 1098 = .ok (.goto 4, 3) := by decide +kernel
theorem dL_law_1101 : decode cL_law 1101 = .ok (.iconst 0, 1) := by decide +kernel
theorem dL_law_1102 : decode cL_law 1102 = .ok (.invokevirtual 157, 3) := by decide +kernel
theorem dL_law_1105 : decode cL_law 1105 = .ok (.istore 6, 2) := by decide +kernel
theorem dL_law_1107 : decode cL_law 1107 = .ok (.aload_n 2, 1) := by decide +kernel
theorem dL_law_1108 : decode cL_law 1108 = .ok (.invokevirtual 102, 3) := by decide +kernel
theorem dL_law_1111 : decode cL_law 1111 = .ok (.iload 5, 2) := by decide +kernel
theorem dL_law_1113 : decode cL_law 1113 = .ok (.if_icmp .eq 5, 3) := by decide +kernel
theorem dL_law_1116 : decode cL_law 1116 = .ok (.iconst 0, 1) := by decide +kernel
theorem dL_law_1117 : decode cL_law 1117 = .ok (.ireturn, 1) := by decide +kernel
theorem dL_law_1118 : decode cL_law 1118 = .ok (.iload 5, 2) := by decide +kernel
theorem dL_law_1120 : decode cL_law 1120 = .ok (.ifCond .ne 15, 3) := by decide +kernel
theorem dL_law_1123 : decode cL_law 1123 = .ok (.aload_n 3, 1) := by decide +kernel
theorem dL_law_1124 : decode cL_law 1124 = .ok (.iconst 0, 1) := by decide +kernel
theorem dL_law_1125 : decode cL_law 1125 = .ok (.laload, 1) := by decide +kernel
theorem dL_law_1126 : decode cL_law 1126 = .ok (.iload 6, 2) := by decide +kernel
theorem dL_law_1128 : decode cL_law 1128 = .ok (.i2l, 1) := by decide +kernel
theorem dL_law_1129 : decode cL_law 1129 = .ok (.lcmp, 1) := by decide +kernel
theorem dL_law_1130 : decode cL_law 1130 = .ok (.ifCond .eq 5, 3) := by decide +kernel
theorem dL_law_1133 : decode cL_law 1133 = .ok (.iconst 0, 1) := by decide +kernel
theorem dL_law_1134 : decode cL_law 1134 = .ok (.ireturn, 1) := by decide +kernel
theorem dL_law_1135 : decode cL_law 1135 = .ok (.goto 579, 3) := by decide +kernel
theorem dL_law_1138 : decode cL_law 1138 = .ok (.aload_n 1, 1) := by decide +kernel
theorem dL_law_1139 : decode cL_law 1139 = .ok (.aload_n 0, 1) := by decide +kernel
theorem dL_law_1140 : decode cL_law 1140 = .ok (.iload 4, 2) := by decide +kernel
theorem dL_law_1142 : decode cL_law 1142 = .ok (.iconst 1, 1) := by decide +kernel
theorem dL_law_1143 : decode cL_law 1143 = .ok (.iadd, 1) := by decide +kernel
theorem dL_law_1144 : decode cL_law 1144 = .ok (.iaload, 1) := by decide +kernel
theorem dL_law_1145 : decode cL_law 1145 = .ok (.aload_n 3, 1) := by decide +kernel
theorem dL_law_1146 : decode cL_law 1146 = .ok (.invokestatic 158, 3) := by decide +kernel
theorem dL_law_1149 : decode cL_law 1149 = .ok (.istore 5, 2) := by decide +kernel
theorem dL_law_1151 : decode cL_law 1151 = .ok (.aload_n 2, 1) := by decide +kernel
theorem dL_law_1152 : decode cL_law 1152 = .ok (.aload_n 0, 1) := by decide +kernel
theorem dL_law_1153 : decode cL_law 1153 = .ok (.iload 4, 2) := by decide +kernel
theorem dL_law_1155 : decode cL_law 1155 = .ok (.iconst 1, 1) := by decide +kernel
theorem dL_law_1156 : decode cL_law 1156 = .ok (.iadd, 1) := by decide +kernel
theorem dL_law_1157 : decode cL_law 1157 = .ok (.iaload, 1) := by decide +kernel
theorem dL_law_1158 : decode cL_law 1158 = .ok (.invokevirtual 160, 3) := by decide +kernel
theorem dL_law_1161 : decode cL_law 1161 = .ok (.istore 6, 2) := by decide +kernel
theorem dL_law_1163 : decode cL_law 1163 = .ok (.aload_n 2, 1) := by decide +kernel
theorem dL_law_1164 : decode cL_law 1164 = .ok (.invokevirtual 102, 3) := by decide +kernel
theorem dL_law_1167 : decode cL_law 1167 = .ok (.iload 5, 2) := by decide +kernel
theorem dL_law_1169 : decode cL_law 1169 = .ok (.if_icmp .eq 5, 3) := by decide +kernel
theorem dL_law_1172 : decode cL_law 1172 = .ok (.iconst 0, 1) := by decide +kernel
theorem dL_law_1173 : decode cL_law 1173 = .ok (.ireturn, 1) := by decide +kernel
theorem dL_law_1174 : decode cL_law 1174 = .ok (.iload 5, 2) := by decide +kernel
theorem dL_law_1176 : decode cL_law 1176 = .ok (.ifCond .ne 15, 3) := by decide +kernel
theorem dL_law_1179 : decode cL_law 1179 = .ok (.aload_n 3, 1) := by decide +kernel
theorem dL_law_1180 : decode cL_law 1180 = .ok (.iconst 0, 1) := by decide +kernel
theorem dL_law_1181 : decode cL_law 1181 = .ok (.laload, 1) := by decide +kernel
theorem dL_law_1182 : decode cL_law 1182 = .ok (.iload 6, 2) := by decide +kernel
theorem dL_law_1184 : decode cL_law 1184 = .ok (.i2l, 1) := by decide +kernel
theorem dL_law_1185 : decode cL_law 1185 = .ok (.lcmp, 1) := by decide +kernel
theorem dL_law_1186 : decode cL_law 1186 = .ok (.ifCond .eq 5, 3) := by decide +kernel
theorem dL_law_1189 : decode cL_law 1189 = .ok (.iconst 0, 1) := by decide +kernel
theorem dL_law_1190 : decode cL_law 1190 = .ok (.ireturn, 1) := by decide +kernel
theorem dL_law_1191 : decode cL_law 1191 = .ok (.goto 523, 3) := by decide +kernel
theorem dL_law_1194 : decode cL_law 1194 = .ok (.aload_n 1, 1) := by decide +kernel
theorem dL_law_1195 : decode cL_law 1195 = .ok (.aload_n 0, 1) := by decide +kernel
theorem dL_law_1196 : decode cL_law 1196 = .ok (.iload 4, 2) := by decide +kernel
theorem dL_law_1198 : decode cL_law 1198 = .ok (.iconst 1, 1) := by decide +kernel
theorem dL_law_1199 : decode cL_law 1199 = .ok (.iadd, 1) := by decide +kernel
