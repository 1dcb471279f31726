/-! ===== decode rows of the law ===== -/
theorem dL_law_841 : decode cL_law 841 = .ok (.aload 5, 2) := by decide +kernel
theorem dL_law_843 : decode cL_law 843 = .ok (.iload 11, 2) := by decide +kernel
theorem dL_law_845 : decode cL_law 845 = .ok (.iaload, 1) := by decide +kernel
theorem dL_law_846 : decode cL_law 846 = .ok (.aload 6, 2) := by decide +kernel
theorem dL_law_848 : decode cL_law 848 = .ok (.iload 11, 2) := by decide +kernel
theorem dL_law_850 : decode cL_law 850 = .ok (.iaload, 1) := by decide +kernel
theorem dL_law_851 : decode cL_law 851 = .ok (.invokevirtual 99, 3) := by decide +kernel
theorem dL_law_854 : decode cL_law 854 = .ok (.iload 11, 2) := by decide +kernel
theorem dL_law_856 : decode cL_law 856 = .ok (.if_icmp .ne 7, 3) := by decide +kernel
theorem dL_law_859 : decode cL_law 859 = .ok (.iconst 1, 1) := by decide +kernel
theorem dL_law_860 : decode cL_law 860 = .ok (.goto 4, 3) := by decide +kernel
theorem dL_law_863 : decode cL_law 863 = .ok (.iconst 0, 1) := by decide +kernel
theorem dL_law_864 : decode cL_law 864 = .ok (.istore 13, 2) := by decide +kernel
theorem dL_law_866 : decode cL_law 866 = .ok (.iinc 11 1, 3) := by decide +kernel
theorem dL_law_869 : decode cL_law 869 = .ok (.goto 757, 3) := by decide +kernel
theorem dL_law_872 : decode cL_law 872 = .ok (.iload 18, 2) := by decide +kernel
theorem dL_law_874 : decode cL_law 874 = .ok (.bipush 12, 2) := by decide +kernel
theorem dL_law_876 : decode cL_law 876 = .ok (.if_icmp .ge 165, 3) := by decide +kernel
theorem dL_law_879 : decode cL_law 879 = .ok (.iload 11, 2) := by decide +kernel
theorem dL_law_881 : decode cL_law 881 = .ok (.ifCond .le 160, 3) := by decide +kernel
theorem dL_law_884 : decode cL_law 884 = .ok (.aload_n 1, 1) := by decide +kernel
theorem dL_law_885 : decode cL_law 885 = .ok (.iload 19, 2) := by decide +kernel
theorem dL_law_887 : decode cL_law 887 = .ok (.aload 5, 2) := by decide +kernel
theorem dL_law_889 : decode cL_law 889 = .ok (.iload 20, 2) := by decide +kernel
theorem dL_law_891 : decode cL_law 891 = .ok (.iaload, 1) := by decide +kernel
theorem dL_law_892 : decode cL_law 892 = .ok (.invokevirtual 102, 3) := by decide +kernel
theorem dL_law_895 : decode cL_law 895 = .ok (.ifCond .ne 25, 3) := by decide +kernel
theorem dL_law_898 : decode cL_law 898 = .ok (.aload_n 1, 1) := by decide +kernel
theorem dL_law_899 : decode cL_law 899 = .ok (.iload 19, 2) := by decide +kernel
theorem dL_law_901 : decode cL_law 901 = .ok (.aload 5, 2) := by decide +kernel
theorem dL_law_903 : decode cL_law 903 = .ok (.iload 20, 2) := by decide +kernel
theorem dL_law_905 : decode cL_law 905 = .ok (.iaload, 1) := by decide +kernel
theorem dL_law_906 : decode cL_law 906 = .ok (.aload 6, 2) := by decide +kernel
theorem dL_law_908 : decode cL_law 908 = .ok (.iload 20, 2) := by decide +kernel
theorem dL_law_910 : decode cL_law 910 = .ok (.iaload, 1) := by decide +kernel
theorem dL_law_911 : decode cL_law 911 = .ok (.iadd, 1) := by decide +kernel
theorem dL_law_912 : decode cL_law 912 = .ok (.iconst 1, 1) := by decide +kernel
theorem dL_law_913 : decode cL_law 913 = .ok (.isub, 1) := by decide +kernel
theorem dL_law_914 : decode cL_law 914 = .ok (.invokevirtual 102, 3) := by decide +kernel
theorem dL_law_917 : decode cL_law 917 = .ok (.ifCond .eq 7, 3) := by decide +kernel
theorem dL_law_920 : decode cL_law 920 = .ok (.iconst 1, 1) := by decide +kernel
theorem dL_law_921 : decode cL_law 921 = .ok (.goto 4, 3) := by decide +kernel
theorem dL_law_924 : decode cL_law 924 = .ok (.iconst 0, 1) := by decide +kernel
theorem dL_law_925 : decode cL_law 925 = .ok (.istore 21, 2) := by decide +kernel
theorem dL_law_927 : decode cL_law 927 = .ok (.aload_n 1, 1) := by decide +kernel
theorem dL_law_928 : decode cL_law 928 = .ok (.iconst 1, 1) := by decide +kernel
theorem dL_law_929 : decode cL_law 929 = .ok (.iload 20, 2) := by decide +kernel
theorem dL_law_931 : decode cL_law 931 = .ok (.iload 19, 2) := by decide +kernel
theorem dL_law_933 : decode cL_law 933 = .ok (.iconst 0, 1) := by decide +kernel
theorem dL_law_934 : decode cL_law 934 = .ok (.iconst 0, 1) := by decide +kernel
theorem dL_law_935 : decode cL_law 935 = .ok (.invokestatic 59, 3) := by decide +kernel
theorem dL_law_938 : decode cL_law 938 = .ok (.istore 22, 2) := by decide +kernel
theorem dL_law_940 : decode cL_law 940 = .ok (.iload 22, 2) := by decide +kernel
theorem dL_law_942 : decode cL_law 942 = .ok (.ldc 51, 2) := by decide +kernel
theorem dL_law_944 : decode cL_law 944 = .ok (.if_icmp .eq 67, 3) := by decide +kernel
theorem dL_law_947 : decode cL_law 947 = .ok (.iload 22, 2) := by decide +kernel
theorem dL_law_949 : decode cL_law 949 = .ok (.aload 7, 2) := by decide +kernel
theorem dL_law_951 : decode cL_law 951 = .ok (.iload 20, 2) := by decide +kernel
theorem dL_law_953 : decode cL_law 953 = .ok (.iaload, 1) := by decide +kernel
theorem dL_law_954 : decode cL_law 954 = .ok (.iconst 1, 1) := by decide +kernel
theorem dL_law_955 : decode cL_law 955 = .ok (.iadd, 1) := by decide +kernel
theorem dL_law_956 : decode cL_law 956 = .ok (.if_icmp .ne 59, 3) := by decide +kernel
theorem dL_law_959 : decode cL_law 959 = .ok (.iload 21, 2) := by decide +kernel
theorem dL_law_961 : decode cL_law 961 = .ok (.ifCond .ne 54, 3) := by decide +kernel
theorem dL_law_964 : decode cL_law 964 = .ok (.aload_n 1, 1) := by decide +kernel
theorem dL_law_965 : decode cL_law 965 = .ok (.iload 19, 2) := by decide +kernel
theorem dL_law_967 : decode cL_law 967 = .ok (.aload 5, 2) := by decide +kernel
theorem dL_law_969 : decode cL_law 969 = .ok (.iload 20, 2) := by decide +kernel
theorem dL_law_971 : decode cL_law 971 = .ok (.iaload, 1) := by decide +kernel
theorem dL_law_972 : decode cL_law 972 = .ok (.invokevirtual 102, 3) := by decide +kernel
theorem dL_law_975 : decode cL_law 975 = .ok (.ifCond .eq 40, 3) := by decide +kernel
theorem dL_law_978 : decode cL_law 978 = .ok (.aload_n 1, 1) := by decide +kernel
theorem dL_law_979 : decode cL_law 979 = .ok (.iload 19, 2) := by decide +kernel
theorem dL_law_981 : decode cL_law 981 = .ok (.aload 5, 2) := by decide +kernel
theorem dL_law_983 : decode cL_law 983 = .ok (.iload 20, 2) := by decide +kernel
theorem dL_law_985 : decode cL_law 985 = .ok (.iaload, 1) := by decide +kernel
theorem dL_law_986 : decode cL_law 986 = .ok (.aload 6, 2) := by decide +kernel
theorem dL_law_988 : decode cL_law 988 = .ok (.iload 20, 2) := by decide +kernel
theorem dL_law_990 : decode cL_law 990 = .ok (.iaload, 1) := by decide +kernel
theorem dL_law_991 : decode cL_law 991 = .ok (.iadd, 1) := by decide +kernel
theorem dL_law_992 : decode cL_law 992 = .ok (.iconst 1, 1) := by decide +kernel
theorem dL_law_993 : decode cL_law 993 = .ok (.isub, 1) := by decide +kernel
theorem dL_law_994 : decode cL_law 994 = .ok (.invokevirtual 102, 3) := by decide +kernel
theorem dL_law_997 : decode cL_law 997 = .ok (.ifCond .eq 18, 3) := by decide +kernel
theorem dL_law_1000 : decode cL_law 1000 = .ok (.aload_n 1, 1) := by decide +kernel
theorem dL_law_1001 : decode cL_law 1001 = .ok (.iload 19, 2) := by decide +kernel
theorem dL_law_1003 : decode cL_law 1003 = .ok (.invokevirtual 84, 3) := by decide +kernel
theorem dL_law_1006 : decode cL_law 1006 = .ok (.bipush 50, 2) := by decide +kernel
theorem dL_law_1008 : decode cL_law 1008 = .ok (.if_icmp .ge 7, 3) := by decide +kernel
theorem dL_law_1011 : decode cL_law 1011 = .ok (.iconst 1, 1) := by decide +kernel
theorem dL_law_1012 : decode cL_law 1012 = .ok (.goto 4, 3) := by decide +kernel
theorem dL_law_1015 : decode cL_law 1015 = .ok (.iconst 0, 1) := by decide +kernel
theorem dL_law_1016 : decode cL_law 1016 = .ok (.istore 13, 2) := by decide +kernel
theorem dL_law_1018 : decode cL_law 1018 = .ok (.aload 7, 2) := by decide +kernel
theorem dL_law_1020 : decode cL_law 1020 = .ok (.iload 20, 2) := by decide +kernel
theorem dL_law_1022 : decode cL_law 1022 = .ok (.iload 22, 2) := by decide +kernel
theorem dL_law_1024 : decode cL_law 1024 = .ok (.ifCond .le 8, 3) := by decide +kernel
theorem dL_law_1027 : decode cL_law 1027 = .ok (.iload 22, 2) := by decide +kernel
theorem dL_law_1029 : decode cL_law 1029 = .ok (.goto 8, 3) := by decide +kernel
theorem dL_law_1032 : decode cL_law 1032 = .ok (.aload 7, 2) := by decide +kernel
theorem dL_law_1034 : decode cL_law 1034 = .ok (.iload 20, 2) := by decide +kernel
theorem dL_law_1036 : decode cL_law 1036 = .ok (.iaload, 1) := by decide +kernel
theorem dL_law_1037 : decode cL_law 1037 = .ok (.iastore, 1) := by decide +kernel
theorem dL_law_1038 : decode cL_law 1038 = .ok (.goto 588, 3) := by decide +kernel
theorem dL_law_1041 : decode cL_law 1041 = .ok (.iload 18, 2) := by decide +kernel
theorem dL_law_1043 : decode cL_law 1043 = .ok (.bipush 12, 2) := by decide +kernel
theorem dL_law_1045 : decode cL_law 1045 = .ok (.if_icmp .ne 111, 3) := by decide +kernel
theorem dL_law_1048 : decode cL_law 1048 = .ok (.iload 17, 2) := by decide +kernel
theorem dL_law_1050 : decode cL_law 1050 = .ok (.bipush 6, 2) := by decide +kernel
theorem dL_law_1052 : decode cL_law 1052 = .ok (.ishr, 1) := by decide +kernel
theorem dL_law_1053 : decode cL_law 1053 = .ok (.iconst 3, 1) := by decide +kernel
theorem dL_law_1054 : decode cL_law 1054 = .ok (.iand, 1) := by decide +kernel
theorem dL_law_1055 : decode cL_law 1055 = .ok (.ifCond .ne 101, 3) := by decide +kernel
theorem dL_law_1058 : decode cL_law 1058 = .ok (.iload 11, 2) := by decide +kernel
theorem dL_law_1060 : decode cL_law 1060 = .ok (.ifCond .le 96, 3) := by decide +kernel
theorem dL_law_1063 : decode cL_law 1063 = .ok (.aload_n 1, 1) := by decide +kernel
theorem dL_law_1064 : decode cL_law 1064 = .ok (.iconst 2, 1) := by decide +kernel
theorem dL_law_1065 : decode cL_law 1065 = .ok (.iload 20, 2) := by decide +kernel
theorem dL_law_1067 : decode cL_law 1067 = .ok (.iload 19, 2) := by decide +kernel
theorem dL_law_1069 : decode cL_law 1069 = .ok (.iconst 0, 1) := by decide +kernel
theorem dL_law_1070 : decode cL_law 1070 = .ok (.iconst 0, 1) := by decide +kernel
theorem dL_law_1071 : decode cL_law 1071 = .ok (.invokestatic 59, 3) := by decide +kernel
theorem dL_law_1074 : decode cL_law 1074 = .ok (.istore 21, 2) := by decide +kernel
theorem dL_law_1076 : decode cL_law 1076 = .ok (.iload 21, 2) := by decide +kernel
theorem dL_law_1078 : decode cL_law 1078 = .ok (.ldc 51, 2) := by decide +kernel
theorem dL_law_1080 : decode cL_law 1080 = .ok (.if_icmp .eq 46, 3) := by decide +kernel
theorem dL_law_1083 : decode cL_law 1083 = .ok (.iload 21, 2) := by decide +kernel
theorem dL_law_1085 : decode cL_law 1085 = .ok (.aload 7, 2) := by decide +kernel
theorem dL_law_1087 : decode cL_law 1087 = .ok (.iload 20, 2) := by decide +kernel
theorem dL_law_1089 : decode cL_law 1089 = .ok (.iaload, 1) := by decide +kernel
theorem dL_law_1090 : decode cL_law 1090 = .ok (.iconst 1, 1) := by decide +kernel
theorem dL_law_1091 : decode cL_law 1091 = .ok (.isub, 1) := by decide +kernel
theorem dL_law_1092 : decode cL_law 1092 = .ok (.if_icmp .ne 38, 3) := by decide +kernel
theorem dL_law_1095 : decode cL_law 1095 = .ok (.aload_n 1, 1) := by decide +kernel
theorem dL_law_1096 : decode cL_law 1096 = .ok (.iload 19, 2) := by decide +kernel
theorem dL_law_1098 : decode cL_law 1098 = .ok (.aload 5, 2) := by decide +kernel
theorem dL_law_1100 : decode cL_law 1100 = .ok (.iload 20, 2) := by decide +kernel
theorem dL_law_1102 : decode cL_law 1102 = .ok (.iaload, 1) := by decide +kernel
theorem dL_law_1103 : decode cL_law 1103 = .ok (.invokevirtual 102, 3) := by decide +kernel
theorem dL_law_1106 : decode cL_law 1106 = .ok (.ifCond .ne 24, 3) := by decide +kernel
theorem dL_law_1109 : decode cL_law 1109 = .ok (.aload_n 1, 1) := by decide +kernel
theorem dL_law_1110 : decode cL_law 1110 = .ok (.bipush 6, 2) := by decide +kernel
theorem dL_law_1112 : decode cL_law 1112 = .ok (.iload 20, 2) := by decide +kernel
theorem dL_law_1114 : decode cL_law 1114 = .ok (.iload 19, 2) := by decide +kernel
theorem dL_law_1116 : decode cL_law 1116 = .ok (.iconst 0, 1) := by decide +kernel
theorem dL_law_1117 : decode cL_law 1117 = .ok (.iconst 0, 1) := by decide +kernel
theorem dL_law_1118 : decode cL_law 1118 = .ok (.invokestatic 59, 3) := by decide +kernel
theorem dL_law_1121 : decode cL_law 1121 = .ok (.ldc 48, 2) := by decide +kernel
theorem dL_law_1123 : decode cL_law 1123 = .ok (.if_icmp .ne 7, 3) := by decide +kernel
theorem dL_law_1126 : decode cL_law 1126 = .ok (.iconst 1, 1) := by decide +kernel
theorem dL_law_1127 : decode cL_law 1127 = .ok (.goto 4, 3) := by decide +kernel
theorem dL_law_1130 : decode cL_law 1130 = .ok (.iconst 0, 1) := by decide +kernel
theorem dL_law_1131 : decode cL_law 1131 = .ok (.istore 13, 2) := by decide +kernel
theorem dL_law_1133 : decode cL_law 1133 = .ok (.aload 7, 2) := by decide +kernel
theorem dL_law_1135 : decode cL_law 1135 = .ok (.iload 20, 2) := by decide +kernel
theorem dL_law_1137 : decode cL_law 1137 = .ok (.iload 21, 2) := by decide +kernel
theorem dL_law_1139 : decode cL_law 1139 = .ok (.ifCond .lt 8, 3) := by decide +kernel
theorem dL_law_1142 : decode cL_law 1142 = .ok (.iload 21, 2) := by decide +kernel
theorem dL_law_1144 : decode cL_law 1144 = .ok (.goto 8, 3) := by decide +kernel
theorem dL_law_1147 : decode cL_law 1147 = .ok (.aload 7, 2) := by decide +kernel
theorem dL_law_1149 : decode cL_law 1149 = .ok (.iload 20, 2) := by decide +kernel
theorem dL_law_1151 : decode cL_law 1151 = .ok (.iaload, 1) := by decide +kernel
theorem dL_law_1152 : decode cL_law 1152 = .ok (.iastore, 1) := by decide +kernel
theorem dL_law_1153 : decode cL_law 1153 = .ok (.goto 473, 3) := by decide +kernel
theorem dL_law_1156 : decode cL_law 1156 = .ok (.iload 18, 2) := by decide +kernel
theorem dL_law_1158 : decode cL_law 1158 = .ok (.bipush 13, 2) := by decide +kernel
theorem dL_law_1160 : decode cL_law 1160 = .ok (.if_icmp .ne 135, 3) := by decide +kernel
theorem dL_law_1163 : decode cL_law 1163 = .ok (.iload 11, 2) := by decide +kernel
theorem dL_law_1165 : decode cL_law 1165 = .ok (.ifCond .le 130, 3) := by decide +kernel
theorem dL_law_1168 : decode cL_law 1168 = .ok (.iconst 1, 1) := by decide +kernel
theorem dL_law_1169 : decode cL_law 1169 = .ok (.iload 17, 2) := by decide +kernel
theorem dL_law_1171 : decode cL_law 1171 = .ok (.iconst 5, 1) := by decide +kernel
theorem dL_law_1172 : decode cL_law 1172 = .ok (.ishr, 1) := by decide +kernel
theorem dL_law_1173 : decode cL_law 1173 = .ok (.bipush 20, 2) := by decide +kernel
theorem dL_law_1175 : decode cL_law 1175 = .ok (.irem, 1) := by decide +kernel
theorem dL_law_1176 : decode cL_law 1176 = .ok (.iadd, 1) := by decide +kernel
theorem dL_law_1177 : decode cL_law 1177 = .ok (.istore 21, 2) := by decide +kernel
theorem dL_law_1179 : decode cL_law 1179 = .ok (.aload_n 1, 1) := by decide +kernel
theorem dL_law_1180 : decode cL_law 1180 = .ok (.iconst 3, 1) := by decide +kernel
theorem dL_law_1181 : decode cL_law 1181 = .ok (.iload 20, 2) := by decide +kernel
theorem dL_law_1183 : decode cL_law 1183 = .ok (.iload 21, 2) := by decide +kernel
theorem dL_law_1185 : decode cL_law 1185 = .ok (.iload 17, 2) := by decide +kernel
theorem dL_law_1187 : decode cL_law 1187 = .ok (.bipush 10, 2) := by decide +kernel
theorem dL_law_1189 : decode cL_law 1189 = .ok (.ishr, 1) := by decide +kernel
theorem dL_law_1190 : decode cL_law 1190 = .ok (.bipush 101, 2) := by decide +kernel
theorem dL_law_1192 : decode cL_law 1192 = .ok (.irem, 1) := by decide +kernel
theorem dL_law_1193 : decode cL_law 1193 = .ok (.iconst 0, 1) := by decide +kernel
theorem dL_law_1194 : decode cL_law 1194 = .ok (.invokestatic 59, 3) := by decide +kernel
theorem dL_law_1197 : decode cL_law 1197 = .ok (.istore 22, 2) := by decide +kernel
theorem dL_law_1199 : decode cL_law 1199 = .ok (.iload 22, 2) := by decide +kernel
theorem dL_law_1201 : decode cL_law 1201 = .ok (.ldc 51, 2) := by decide +kernel
theorem dL_law_1203 : decode cL_law 1203 = .ok (.if_icmp .ne 21, 3) := by decide +kernel
theorem dL_law_1206 : decode cL_law 1206 = .ok (.aload 8, 2) := by decide +kernel
theorem dL_law_1208 : decode cL_law 1208 = .ok (.iload 20, 2) := by decide +kernel
theorem dL_law_1210 : decode cL_law 1210 = .ok (.iaload, 1) := by decide +kernel
theorem dL_law_1211 : decode cL_law 1211 = .ok (.iload 21, 2) := by decide +kernel
theorem dL_law_1213 : decode cL_law 1213 = .ok (.if_icmp .ge 7, 3) := by decide +kernel
theorem dL_law_1216 : decode cL_law 1216 = .ok (.iconst 1, 1) := by decide +kernel
theorem dL_law_1217 : decode cL_law 1217 = .ok (.goto 25, 3) := by decide +kernel
theorem dL_law_1220 : decode cL_law 1220 = .ok (.iconst 0, 1) := by decide +kernel
theorem dL_law_1221 : decode cL_law 1221 = .ok (.goto 21, 3) := by decide +kernel
theorem dL_law_1224 : decode cL_law 1224 = .ok (.iload 22, 2) := by decide +kernel
theorem dL_law_1226 : decode cL_law 1226 = .ok (.aload 8, 2) := by decide +kernel
theorem dL_law_1228 : decode cL_law 1228 = .ok (.iload 20, 2) := by decide +kernel
theorem dL_law_1230 : decode cL_law 1230 = .ok (.iaload, 1) := by decide +kernel
theorem dL_law_1231 : decode cL_law 1231 = .ok (.iload 21, 2) := by decide +kernel
theorem dL_law_1233 : decode cL_law 1233 = .ok (.isub, 1) := by decide +kernel
theorem dL_law_1234 : decode cL_law 1234 = .ok (.if_icmp .ne 7, 3) := by decide +kernel
theorem dL_law_1237 : decode cL_law 1237 = .ok (.iconst 1, 1) := by decide +kernel
theorem dL_law_1238 : decode cL_law 1238 = .ok (.goto 4, 3) := by decide +kernel
theorem dL_law_1241 : decode cL_law 1241 = .ok (.iconst 0, 1) := by decide +kernel
theorem dL_law_1242 : decode cL_law 1242 = .ok (.istore 13, 2) := by decide +kernel
theorem dL_law_1244 : decode cL_law 1244 = .ok (.aload 9, 2) := by decide +kernel
theorem dL_law_1246 : decode cL_law 1246 = .ok (.iload 20, 2) := by decide +kernel
theorem dL_law_1248 : decode cL_law 1248 = .ok (.dup2, 1) := by decide +kernel
theorem dL_law_1249 : decode cL_law 1249 = .ok (.iaload, 1) := by decide +kernel
theorem dL_law_1250 : decode cL_law 1250 = .ok (.iload 22, 2) := by decide +kernel
theorem dL_law_1252 : decode cL_law 1252 = .ok (.ifCond .lt 17, 3) := by decide +kernel
theorem dL_law_1255 : decode cL_law 1255 = .ok (.iload 21, 2) := by decide +kernel
theorem dL_law_1257 : decode cL_law 1257 = .ok (.iload 17, 2) := by decide +kernel
theorem dL_law_1259 : decode cL_law 1259 = .ok (.bipush 10, 2) := by decide +kernel
theorem dL_law_1261 : decode cL_law 1261 = .ok (.ishr, 1) := by decide +kernel
theorem dL_law_1262 : decode cL_law 1262 = .ok (.bipush 101, 2) := by decide +kernel
theorem dL_law_1264 : decode cL_law 1264 = .ok (.irem, 1) := by decide +kernel
theorem dL_law_1265 : decode cL_law 1265 = .ok (.imul, 1) := by decide +kernel
theorem dL_law_1266 : decode cL_law 1266 = .ok (.goto 4, 3) := by decide +kernel
theorem dL_law_1269 : decode cL_law 1269 = .ok (.iconst 0, 1) := by decide +kernel
theorem dL_law_1270 : decode cL_law 1270 = .ok (.iadd, 1) := by decide +kernel
theorem dL_law_1271 : decode cL_law 1271 = .ok (.iastore, 1) := by decide +kernel
theorem dL_law_1272 : decode cL_law 1272 = .ok (.aload 8, 2) := by decide +kernel
theorem dL_law_1274 : decode cL_law 1274 = .ok (.iload 20, 2) := by decide +kernel
theorem dL_law_1276 : decode cL_law 1276 = .ok (.iload 22, 2) := by decide +kernel
