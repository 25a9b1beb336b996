/-! The law's decode rows, 3. -/
theorem dL_law_837 : decode cL_law 837 = .ok (.bipush 31, 2) := by decide +kernel
theorem dL_law_839 : decode cL_law 839 = .ok (.iload 9, 2) := by decide +kernel
theorem dL_law_841 : decode cL_law 841 = .ok (.imul, 1) := by decide +kernel
theorem dL_law_842 : decode cL_law 842 = .ok (.aload_n 1, 1) := by decide +kernel
theorem dL_law_843 : decode cL_law 843 = .ok (.aload_n 1, 1) := by decide +kernel
theorem dL_law_844 : decode cL_law 844 = .ok (.iload 10, 2) := by decide +kernel
theorem dL_law_846 : decode cL_law 846 = .ok (.invokevirtual 36, 3) := by decide +kernel
theorem dL_law_849 : decode cL_law 849 = .ok (.aload_n 1, 1) := by decide +kernel
theorem dL_law_850 : decode cL_law 850 = .ok (.iload 11, 2) := by decide +kernel
theorem dL_law_852 : decode cL_law 852 = .ok (.invokevirtual 36, 3) := by decide +kernel
theorem dL_law_855 : decode cL_law 855 = .ok (.aload_n 1, 1) := by decide +kernel
theorem dL_law_856 : decode cL_law 856 = .ok (.iload 12, 2) := by decide +kernel
theorem dL_law_858 : decode cL_law 858 = .ok (.invokevirtual 36, 3) := by decide +kernel
theorem dL_law_861 : decode cL_law 861 = .ok (.invokevirtual 42, 3) := by decide +kernel
theorem dL_law_864 : decode cL_law 864 = .ok (.iadd, 1) := by decide +kernel
theorem dL_law_865 : decode cL_law 865 = .ok (.istore 9, 2) := by decide +kernel
theorem dL_law_867 : decode cL_law 867 = .ok (.iinc 12 1, 3) := by decide +kernel
theorem dL_law_870 : decode cL_law 870 = .ok (.goto (-40), 3) := by decide +kernel
theorem dL_law_873 : decode cL_law 873 = .ok (.iinc 11 1, 3) := by decide +kernel
theorem dL_law_876 : decode cL_law 876 = .ok (.goto (-56), 3) := by decide +kernel
theorem dL_law_879 : decode cL_law 879 = .ok (.iinc 10 1, 3) := by decide +kernel
theorem dL_law_882 : decode cL_law 882 = .ok (.goto (-72), 3) := by decide +kernel
theorem dL_law_885 : decode cL_law 885 = .ok (.iload 9, 2) := by decide +kernel
theorem dL_law_887 : decode cL_law 887 = .ok (.iload 8, 2) := by decide +kernel
theorem dL_law_889 : decode cL_law 889 = .ok (.if_icmp .ne 27, 3) := by decide +kernel
theorem dL_law_892 : decode cL_law 892 = .ok (.aload_n 1, 1) := by decide +kernel
theorem dL_law_893 : decode cL_law 893 = .ok (.bipush 6, 2) := by decide +kernel
theorem dL_law_895 : decode cL_law 895 = .ok (.invokevirtual 17, 3) := by decide +kernel
theorem dL_law_898 : decode cL_law 898 = .ok (.iload 5, 2) := by decide +kernel
theorem dL_law_900 : decode cL_law 900 = .ok (.iload 7, 2) := by decide +kernel
theorem dL_law_902 : decode cL_law 902 = .ok (.iadd, 1) := by decide +kernel
theorem dL_law_903 : decode cL_law 903 = .ok (.if_icmp .ne 13, 3) := by decide +kernel
theorem dL_law_906 : decode cL_law 906 = .ok (.aload_n 1, 1) := by decide +kernel
theorem dL_law_907 : decode cL_law 907 = .ok (.iconst 0, 1) := by decide +kernel
theorem dL_law_908 : decode cL_law 908 = .ok (.invokevirtual 17, 3) := by decide +kernel
theorem dL_law_911 : decode cL_law 911 = .ok (.iload 7, 2) := by decide +kernel
theorem dL_law_913 : decode cL_law 913 = .ok (.if_icmp .eq 5, 3) := by decide +kernel
theorem dL_law_916 : decode cL_law 916 = .ok (.iconst 0, 1) := by decide +kernel
theorem dL_law_917 : decode cL_law 917 = .ok (.ireturn, 1) := by decide +kernel
theorem dL_law_918 : decode cL_law 918 = .ok (.aload_n 0, 1) := by decide +kernel
theorem dL_law_919 : decode cL_law 919 = .ok (.bipush 60, 2) := by decide +kernel
theorem dL_law_921 : decode cL_law 921 = .ok (.sipush 360, 3) := by decide +kernel
theorem dL_law_924 : decode cL_law 924 = .ok (.invokestatic 11, 3) := by decide +kernel
theorem dL_law_927 : decode cL_law 927 = .ok (.istore 10, 2) := by decide +kernel
theorem dL_law_929 : decode cL_law 929 = .ok (.iconst 1, 1) := by decide +kernel
theorem dL_law_930 : decode cL_law 930 = .ok (.istore 11, 2) := by decide +kernel
theorem dL_law_932 : decode cL_law 932 = .ok (.iload 11, 2) := by decide +kernel
theorem dL_law_934 : decode cL_law 934 = .ok (.iload 5, 2) := by decide +kernel
theorem dL_law_936 : decode cL_law 936 = .ok (.if_icmp .gt 29, 3) := by decide +kernel
theorem dL_law_939 : decode cL_law 939 = .ok (.aload_n 1, 1) := by decide +kernel
theorem dL_law_940 : decode cL_law 940 = .ok (.iload 11, 2) := by decide +kernel
theorem dL_law_942 : decode cL_law 942 = .ok (.iload 10, 2) := by decide +kernel
theorem dL_law_944 : decode cL_law 944 = .ok (.iload 11, 2) := by decide +kernel
theorem dL_law_946 : decode cL_law 946 = .ok (.imul, 1) := by decide +kernel
theorem dL_law_947 : decode cL_law 947 = .ok (.sipush 360, 3) := by decide +kernel
theorem dL_law_950 : decode cL_law 950 = .ok (.irem, 1) := by decide +kernel
theorem dL_law_951 : decode cL_law 951 = .ok (.invokevirtual 39, 3) := by decide +kernel
theorem dL_law_954 : decode cL_law 954 = .ok (.ifCond .ge 5, 3) := by decide +kernel
theorem dL_law_957 : decode cL_law 957 = .ok (.iconst 0, 1) := by decide +kernel
theorem dL_law_958 : decode cL_law 958 = .ok (.ireturn, 1) := by decide +kernel
theorem dL_law_959 : decode cL_law 959 = .ok (.iinc 11 1, 3) := by decide +kernel
theorem dL_law_962 : decode cL_law 962 = .ok (.goto (-30), 3) := by decide +kernel
theorem dL_law_965 : decode cL_law 965 = .ok (.iconst 2, 1) := by decide +kernel
theorem dL_law_966 : decode cL_law 966 = .ok (.istore 11, 2) := by decide +kernel
theorem dL_law_968 : decode cL_law 968 = .ok (.iload 11, 2) := by decide +kernel
theorem dL_law_970 : decode cL_law 970 = .ok (.iload 7, 2) := by decide +kernel
theorem dL_law_972 : decode cL_law 972 = .ok (.if_icmp .ge 60, 3) := by decide +kernel
theorem dL_law_975 : decode cL_law 975 = .ok (.aload_n 1, 1) := by decide +kernel
theorem dL_law_976 : decode cL_law 976 = .ok (.aload_n 1, 1) := by decide +kernel
theorem dL_law_977 : decode cL_law 977 = .ok (.iload 11, 2) := by decide +kernel
theorem dL_law_979 : decode cL_law 979 = .ok (.invokevirtual 36, 3) := by decide +kernel
theorem dL_law_982 : decode cL_law 982 = .ok (.aload_n 1, 1) := by decide +kernel
theorem dL_law_983 : decode cL_law 983 = .ok (.iconst 0, 1) := by decide +kernel
theorem dL_law_984 : decode cL_law 984 = .ok (.invokevirtual 36, 3) := by decide +kernel
theorem dL_law_987 : decode cL_law 987 = .ok (.aload_n 1, 1) := by decide +kernel
theorem dL_law_988 : decode cL_law 988 = .ok (.iconst 1, 1) := by decide +kernel
theorem dL_law_989 : decode cL_law 989 = .ok (.invokevirtual 36, 3) := by decide +kernel
theorem dL_law_992 : decode cL_law 992 = .ok (.invokevirtual 42, 3) := by decide +kernel
theorem dL_law_995 : decode cL_law 995 = .ok (.ifCond .ne 29, 3) := by decide +kernel
theorem dL_law_998 : decode cL_law 998 = .ok (.aload_n 1, 1) := by decide +kernel
theorem dL_law_999 : decode cL_law 999 = .ok (.aload_n 1, 1) := by decide +kernel
theorem dL_law_1000 : decode cL_law 1000 = .ok (.iconst 0, 1) := by decide +kernel
theorem dL_law_1001 : decode cL_law 1001 = .ok (.invokevirtual 36, 3) := by decide +kernel
theorem dL_law_1004 : decode cL_law 1004 = .ok (.aload_n 1, 1) := by decide +kernel
theorem dL_law_1005 : decode cL_law 1005 = .ok (.iload 11, 2) := by decide +kernel
theorem dL_law_1007 : decode cL_law 1007 = .ok (.iconst 1, 1) := by decide +kernel
theorem dL_law_1008 : decode cL_law 1008 = .ok (.isub, 1) := by decide +kernel
theorem dL_law_1009 : decode cL_law 1009 = .ok (.invokevirtual 36, 3) := by decide +kernel
theorem dL_law_1012 : decode cL_law 1012 = .ok (.aload_n 1, 1) := by decide +kernel
theorem dL_law_1013 : decode cL_law 1013 = .ok (.iload 11, 2) := by decide +kernel
theorem dL_law_1015 : decode cL_law 1015 = .ok (.invokevirtual 36, 3) := by decide +kernel
theorem dL_law_1018 : decode cL_law 1018 = .ok (.invokevirtual 42, 3) := by decide +kernel
theorem dL_law_1021 : decode cL_law 1021 = .ok (.ifCond .eq 5, 3) := by decide +kernel
theorem dL_law_1024 : decode cL_law 1024 = .ok (.iconst 0, 1) := by decide +kernel
theorem dL_law_1025 : decode cL_law 1025 = .ok (.ireturn, 1) := by decide +kernel
theorem dL_law_1026 : decode cL_law 1026 = .ok (.iinc 11 1, 3) := by decide +kernel
theorem dL_law_1029 : decode cL_law 1029 = .ok (.goto (-61), 3) := by decide +kernel
theorem dL_law_1032 : decode cL_law 1032 = .ok (.bipush 99, 2) := by decide +kernel
theorem dL_law_1034 : decode cL_law 1034 = .ok (.istore 11, 2) := by decide +kernel
theorem dL_law_1036 : decode cL_law 1036 = .ok (.iconst 0, 1) := by decide +kernel
theorem dL_law_1037 : decode cL_law 1037 = .ok (.istore 12, 2) := by decide +kernel
theorem dL_law_1039 : decode cL_law 1039 = .ok (.iload 12, 2) := by decide +kernel
theorem dL_law_1041 : decode cL_law 1041 = .ok (.iload 7, 2) := by decide +kernel
theorem dL_law_1043 : decode cL_law 1043 = .ok (.if_icmp .ge 150, 3) := by decide +kernel
theorem dL_law_1046 : decode cL_law 1046 = .ok (.aload_n 1, 1) := by decide +kernel
theorem dL_law_1047 : decode cL_law 1047 = .ok (.iload 12, 2) := by decide +kernel
theorem dL_law_1049 : decode cL_law 1049 = .ok (.invokevirtual 36, 3) := by decide +kernel
theorem dL_law_1052 : decode cL_law 1052 = .ok (.istore 13, 2) := by decide +kernel
theorem dL_law_1054 : decode cL_law 1054 = .ok (.aload_n 1, 1) := by decide +kernel
theorem dL_law_1055 : decode cL_law 1055 = .ok (.bipush 100, 2) := by decide +kernel
theorem dL_law_1057 : decode cL_law 1057 = .ok (.iload 13, 2) := by decide +kernel
theorem dL_law_1059 : decode cL_law 1059 = .ok (.iadd, 1) := by decide +kernel
theorem dL_law_1060 : decode cL_law 1060 = .ok (.invokevirtual 17, 3) := by decide +kernel
theorem dL_law_1063 : decode cL_law 1063 = .ok (.istore 14, 2) := by decide +kernel
theorem dL_law_1065 : decode cL_law 1065 = .ok (.aload_n 1, 1) := by decide +kernel
theorem dL_law_1066 : decode cL_law 1066 = .ok (.iload 13, 2) := by decide +kernel
theorem dL_law_1068 : decode cL_law 1068 = .ok (.invokevirtual 48, 3) := by decide +kernel
theorem dL_law_1071 : decode cL_law 1071 = .ok (.istore 15, 2) := by decide +kernel
theorem dL_law_1073 : decode cL_law 1073 = .ok (.iload 15, 2) := by decide +kernel
theorem dL_law_1075 : decode cL_law 1075 = .ok (.iload 11, 2) := by decide +kernel
theorem dL_law_1077 : decode cL_law 1077 = .ok (.if_icmp .ge 8, 3) := by decide +kernel
theorem dL_law_1080 : decode cL_law 1080 = .ok (.iload 15, 2) := by decide +kernel
theorem dL_law_1082 : decode cL_law 1082 = .ok (.goto 5, 3) := by decide +kernel
theorem dL_law_1085 : decode cL_law 1085 = .ok (.iload 11, 2) := by decide +kernel
theorem dL_law_1087 : decode cL_law 1087 = .ok (.istore 11, 2) := by decide +kernel
theorem dL_law_1089 : decode cL_law 1089 = .ok (.aload_n 1, 1) := by decide +kernel
theorem dL_law_1090 : decode cL_law 1090 = .ok (.iconst 0, 1) := by decide +kernel
theorem dL_law_1091 : decode cL_law 1091 = .ok (.invokevirtual 51, 3) := by decide +kernel
theorem dL_law_1094 : decode cL_law 1094 = .ok (.iconst 1, 1) := by decide +kernel
theorem dL_law_1095 : decode cL_law 1095 = .ok (.if_icmp .ne 90, 3) := by decide +kernel
theorem dL_law_1098 : decode cL_law 1098 = .ok (.aload_n 1, 1) := by decide +kernel
theorem dL_law_1099 : decode cL_law 1099 = .ok (.iload 13, 2) := by decide +kernel
theorem dL_law_1101 : decode cL_law 1101 = .ok (.invokevirtual 54, 3) := by decide +kernel
theorem dL_law_1104 : decode cL_law 1104 = .ok (.iload 7, 2) := by decide +kernel
theorem dL_law_1106 : decode cL_law 1106 = .ok (.iconst 1, 1) := by decide +kernel
theorem dL_law_1107 : decode cL_law 1107 = .ok (.isub, 1) := by decide +kernel
theorem dL_law_1108 : decode cL_law 1108 = .ok (.if_icmp .ne 77, 3) := by decide +kernel
theorem dL_law_1111 : decode cL_law 1111 = .ok (.aload_n 1, 1) := by decide +kernel
theorem dL_law_1112 : decode cL_law 1112 = .ok (.iconst 2, 1) := by decide +kernel
theorem dL_law_1113 : decode cL_law 1113 = .ok (.invokevirtual 33, 3) := by decide +kernel
theorem dL_law_1116 : decode cL_law 1116 = .ok (.iload 15, 2) := by decide +kernel
theorem dL_law_1118 : decode cL_law 1118 = .ok (.if_icmp .ne 67, 3) := by decide +kernel
theorem dL_law_1121 : decode cL_law 1121 = .ok (.aload_n 1, 1) := by decide +kernel
theorem dL_law_1122 : decode cL_law 1122 = .ok (.bipush 100, 2) := by decide +kernel
theorem dL_law_1124 : decode cL_law 1124 = .ok (.iload 13, 2) := by decide +kernel
theorem dL_law_1126 : decode cL_law 1126 = .ok (.iadd, 1) := by decide +kernel
theorem dL_law_1127 : decode cL_law 1127 = .ok (.invokevirtual 17, 3) := by decide +kernel
theorem dL_law_1130 : decode cL_law 1130 = .ok (.bipush (-6), 2) := by decide +kernel
theorem dL_law_1132 : decode cL_law 1132 = .ok (.if_icmp .ne 53, 3) := by decide +kernel
theorem dL_law_1135 : decode cL_law 1135 = .ok (.aload_n 1, 1) := by decide +kernel
theorem dL_law_1136 : decode cL_law 1136 = .ok (.iload 13, 2) := by decide +kernel
theorem dL_law_1138 : decode cL_law 1138 = .ok (.aload_n 1, 1) := by decide +kernel
theorem dL_law_1139 : decode cL_law 1139 = .ok (.iconst 0, 1) := by decide +kernel
theorem dL_law_1140 : decode cL_law 1140 = .ok (.invokevirtual 36, 3) := by decide +kernel
theorem dL_law_1143 : decode cL_law 1143 = .ok (.invokevirtual 57, 3) := by decide +kernel
theorem dL_law_1146 : decode cL_law 1146 = .ok (.iconst (-1), 1) := by decide +kernel
theorem dL_law_1147 : decode cL_law 1147 = .ok (.if_icmp .ne 38, 3) := by decide +kernel
theorem dL_law_1150 : decode cL_law 1150 = .ok (.aload_n 1, 1) := by decide +kernel
theorem dL_law_1151 : decode cL_law 1151 = .ok (.invokevirtual 60, 3) := by decide +kernel
theorem dL_law_1154 : decode cL_law 1154 = .ok (.iload 7, 2) := by decide +kernel
theorem dL_law_1156 : decode cL_law 1156 = .ok (.if_icmp .ne 29, 3) := by decide +kernel
theorem dL_law_1159 : decode cL_law 1159 = .ok (.aload_n 1, 1) := by decide +kernel
theorem dL_law_1160 : decode cL_law 1160 = .ok (.bipush 100, 2) := by decide +kernel
theorem dL_law_1162 : decode cL_law 1162 = .ok (.iload 13, 2) := by decide +kernel
theorem dL_law_1164 : decode cL_law 1164 = .ok (.iadd, 1) := by decide +kernel
theorem dL_law_1165 : decode cL_law 1165 = .ok (.invokevirtual 17, 3) := by decide +kernel
theorem dL_law_1168 : decode cL_law 1168 = .ok (.iload 14, 2) := by decide +kernel
theorem dL_law_1170 : decode cL_law 1170 = .ok (.if_icmp .ne 15, 3) := by decide +kernel
theorem dL_law_1173 : decode cL_law 1173 = .ok (.aload_n 1, 1) := by decide +kernel
theorem dL_law_1174 : decode cL_law 1174 = .ok (.iconst 3, 1) := by decide +kernel
theorem dL_law_1175 : decode cL_law 1175 = .ok (.invokevirtual 17, 3) := by decide +kernel
theorem dL_law_1178 : decode cL_law 1178 = .ok (.iload 12, 2) := by decide +kernel
theorem dL_law_1180 : decode cL_law 1180 = .ok (.iconst 1, 1) := by decide +kernel
theorem dL_law_1181 : decode cL_law 1181 = .ok (.iadd, 1) := by decide +kernel
theorem dL_law_1182 : decode cL_law 1182 = .ok (.if_icmp .eq 5, 3) := by decide +kernel
theorem dL_law_1185 : decode cL_law 1185 = .ok (.iconst 0, 1) := by decide +kernel
theorem dL_law_1186 : decode cL_law 1186 = .ok (.ireturn, 1) := by decide +kernel
theorem dL_law_1187 : decode cL_law 1187 = .ok (.iinc 12 1, 3) := by decide +kernel
theorem dL_law_1190 : decode cL_law 1190 = .ok (.goto (-151), 3) := by decide +kernel
theorem dL_law_1193 : decode cL_law 1193 = .ok (.aload_n 1, 1) := by decide +kernel
theorem dL_law_1194 : decode cL_law 1194 = .ok (.invokevirtual 64, 3) := by decide +kernel
theorem dL_law_1197 : decode cL_law 1197 = .ok (.iload 11, 2) := by decide +kernel
theorem dL_law_1199 : decode cL_law 1199 = .ok (.if_icmp .ne 26, 3) := by decide +kernel
theorem dL_law_1202 : decode cL_law 1202 = .ok (.aload_n 1, 1) := by decide +kernel
theorem dL_law_1203 : decode cL_law 1203 = .ok (.aload_n 1, 1) := by decide +kernel
theorem dL_law_1204 : decode cL_law 1204 = .ok (.iconst 0, 1) := by decide +kernel
theorem dL_law_1205 : decode cL_law 1205 = .ok (.invokevirtual 67, 3) := by decide +kernel
theorem dL_law_1208 : decode cL_law 1208 = .ok (.invokevirtual 48, 3) := by decide +kernel
theorem dL_law_1211 : decode cL_law 1211 = .ok (.iload 11, 2) := by decide +kernel
theorem dL_law_1213 : decode cL_law 1213 = .ok (.if_icmp .ne 12, 3) := by decide +kernel
theorem dL_law_1216 : decode cL_law 1216 = .ok (.aload_n 1, 1) := by decide +kernel
theorem dL_law_1217 : decode cL_law 1217 = .ok (.invokevirtual 64, 3) := by decide +kernel
theorem dL_law_1220 : decode cL_law 1220 = .ok (.iload 5, 2) := by decide +kernel
theorem dL_law_1222 : decode cL_law 1222 = .ok (.if_icmp .le 5, 3) := by decide +kernel
theorem dL_law_1225 : decode cL_law 1225 = .ok (.iconst 0, 1) := by decide +kernel
theorem dL_law_1226 : decode cL_law 1226 = .ok (.ireturn, 1) := by decide +kernel
theorem dL_law_1227 : decode cL_law 1227 = .ok (.iconst 0, 1) := by decide +kernel
theorem dL_law_1228 : decode cL_law 1228 = .ok (.istore 12, 2) := by decide +kernel
theorem dL_law_1230 : decode cL_law 1230 = .ok (.iload 12, 2) := by decide +kernel
theorem dL_law_1232 : decode cL_law 1232 = .ok (.iload 7, 2) := by decide +kernel
theorem dL_law_1234 : decode cL_law 1234 = .ok (.if_icmp .ge 46, 3) := by decide +kernel
theorem dL_law_1237 : decode cL_law 1237 = .ok (.aload_n 1, 1) := by decide +kernel
theorem dL_law_1238 : decode cL_law 1238 = .ok (.invokevirtual 60, 3) := by decide +kernel
theorem dL_law_1241 : decode cL_law 1241 = .ok (.iload 7, 2) := by decide +kernel
theorem dL_law_1243 : decode cL_law 1243 = .ok (.iconst 1, 1) := by decide +kernel
theorem dL_law_1244 : decode cL_law 1244 = .ok (.isub, 1) := by decide +kernel
theorem dL_law_1245 : decode cL_law 1245 = .ok (.iload 12, 2) := by decide +kernel
theorem dL_law_1247 : decode cL_law 1247 = .ok (.isub, 1) := by decide +kernel
theorem dL_law_1248 : decode cL_law 1248 = .ok (.if_icmp .ne 24, 3) := by decide +kernel
theorem dL_law_1251 : decode cL_law 1251 = .ok (.aload_n 1, 1) := by decide +kernel
theorem dL_law_1252 : decode cL_law 1252 = .ok (.bipush 100, 2) := by decide +kernel
theorem dL_law_1254 : decode cL_law 1254 = .ok (.aload_n 1, 1) := by decide +kernel
theorem dL_law_1255 : decode cL_law 1255 = .ok (.iload 7, 2) := by decide +kernel
theorem dL_law_1257 : decode cL_law 1257 = .ok (.iconst 1, 1) := by decide +kernel
theorem dL_law_1258 : decode cL_law 1258 = .ok (.isub, 1) := by decide +kernel
theorem dL_law_1259 : decode cL_law 1259 = .ok (.iload 12, 2) := by decide +kernel
theorem dL_law_1261 : decode cL_law 1261 = .ok (.isub, 1) := by decide +kernel
