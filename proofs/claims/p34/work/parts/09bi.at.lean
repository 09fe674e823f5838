theorem at_146_846 : ab_at 146 846 = some (.iconst 0, 1) := by decide +kernel
theorem at_146_847 : ab_at 146 847 = some (.invokevirtual 160, 3) := by decide +kernel
theorem at_146_850 : ab_at 146 850 = some (.ifCond .eq 5, 3) := by decide +kernel
theorem at_146_853 : ab_at 146 853 = some (.iconst 0, 1) := by decide +kernel
theorem at_146_854 : ab_at 146 854 = some (.ireturn, 1) := by decide +kernel
theorem at_146_855 : ab_at 146 855 = some (.iinc 18 1, 3) := by decide +kernel
theorem at_146_858 : ab_at 146 858 = some (.goto (-57), 3) := by decide +kernel
theorem at_146_861 : ab_at 146 861 = some (.iinc 16 1, 3) := by decide +kernel
theorem at_146_864 : ab_at 146 864 = some (.goto (-116), 3) := by decide +kernel
theorem at_146_867 : ab_at 146 867 = some (.bipush 6, 2) := by decide +kernel
theorem at_146_869 : ab_at 146 869 = some (.newarray .long, 2) := by decide +kernel
theorem at_146_871 : ab_at 146 871 = some (.astore 16, 2) := by decide +kernel
theorem at_146_873 : ab_at 146 873 = some (.bipush 60, 2) := by decide +kernel
theorem at_146_875 : ab_at 146 875 = some (.newarray .long, 2) := by decide +kernel
theorem at_146_877 : ab_at 146 877 = some (.astore 17, 2) := by decide +kernel
theorem at_146_879 : ab_at 146 879 = some (.iconst 0, 1) := by decide +kernel
theorem at_146_880 : ab_at 146 880 = some (.istore 18, 2) := by decide +kernel
theorem at_146_882 : ab_at 146 882 = some (.iload 18, 2) := by decide +kernel
theorem at_146_884 : ab_at 146 884 = some (.iconst 3, 1) := by decide +kernel
theorem at_146_885 : ab_at 146 885 = some (.if_icmp .ge 176, 3) := by decide +kernel
theorem at_146_888 : ab_at 146 888 = some (.aload_n 0, 1) := by decide +kernel
theorem at_146_889 : ab_at 146 889 = some (.bipush 35, 2) := by decide +kernel
theorem at_146_891 : ab_at 146 891 = some (.iconst 3, 1) := by decide +kernel
theorem at_146_892 : ab_at 146 892 = some (.iload 12, 2) := by decide +kernel
theorem at_146_894 : ab_at 146 894 = some (.imul, 1) := by decide +kernel
theorem at_146_895 : ab_at 146 895 = some (.iadd, 1) := by decide +kernel
theorem at_146_896 : ab_at 146 896 = some (.iload 18, 2) := by decide +kernel
theorem at_146_898 : ab_at 146 898 = some (.iadd, 1) := by decide +kernel
theorem at_146_899 : ab_at 146 899 = some (.invokestatic 73, 3) := by decide +kernel
theorem at_146_902 : ab_at 146 902 = some (.istore 19, 2) := by decide +kernel
theorem at_146_904 : ab_at 146 904 = some (.aload 16, 2) := by decide +kernel
theorem at_146_906 : ab_at 146 906 = some (.iload 18, 2) := by decide +kernel
theorem at_146_908 : ab_at 146 908 = some (.aload_n 1, 1) := by decide +kernel
theorem at_146_909 : ab_at 146 909 = some (.iload 19, 2) := by decide +kernel
theorem at_146_911 : ab_at 146 911 = some (.bipush 9, 2) := by decide +kernel
theorem at_146_913 : ab_at 146 913 = some (.invokestatic 69, 3) := by decide +kernel
theorem at_146_916 : ab_at 146 916 = some (.iconst 4, 1) := by decide +kernel
theorem at_146_917 : ab_at 146 917 = some (.isub, 1) := by decide +kernel
theorem at_146_918 : ab_at 146 918 = some (.iload 19, 2) := by decide +kernel
theorem at_146_920 : ab_at 146 920 = some (.iconst 2, 1) := by decide +kernel
theorem at_146_921 : ab_at 146 921 = some (.ishr, 1) := by decide +kernel
theorem at_146_922 : ab_at 146 922 = some (.bipush 9, 2) := by decide +kernel
theorem at_146_924 : ab_at 146 924 = some (.invokestatic 69, 3) := by decide +kernel
theorem at_146_927 : ab_at 146 927 = some (.iconst 4, 1) := by decide +kernel
theorem at_146_928 : ab_at 146 928 = some (.isub, 1) := by decide +kernel
theorem at_146_929 : ab_at 146 929 = some (.iload 19, 2) := by decide +kernel
theorem at_146_931 : ab_at 146 931 = some (.iconst 4, 1) := by decide +kernel
theorem at_146_932 : ab_at 146 932 = some (.ishr, 1) := by decide +kernel
theorem at_146_933 : ab_at 146 933 = some (.bipush 9, 2) := by decide +kernel
theorem at_146_935 : ab_at 146 935 = some (.invokestatic 69, 3) := by decide +kernel
theorem at_146_938 : ab_at 146 938 = some (.iconst 4, 1) := by decide +kernel
theorem at_146_939 : ab_at 146 939 = some (.isub, 1) := by decide +kernel
theorem at_146_940 : ab_at 146 940 = some (.iload 19, 2) := by decide +kernel
theorem at_146_942 : ab_at 146 942 = some (.bipush 6, 2) := by decide +kernel
theorem at_146_944 : ab_at 146 944 = some (.ishr, 1) := by decide +kernel
theorem at_146_945 : ab_at 146 945 = some (.bipush 9, 2) := by decide +kernel
theorem at_146_947 : ab_at 146 947 = some (.invokestatic 69, 3) := by decide +kernel
theorem at_146_950 : ab_at 146 950 = some (.iconst 4, 1) := by decide +kernel
theorem at_146_951 : ab_at 146 951 = some (.isub, 1) := by decide +kernel
theorem at_146_952 : ab_at 146 952 = some (.invokevirtual 164, 3) := by decide +kernel
theorem at_146_955 : ab_at 146 955 = some (.lastore, 1) := by decide +kernel
theorem at_146_956 : ab_at 146 956 = some (.aload 16, 2) := by decide +kernel
theorem at_146_958 : ab_at 146 958 = some (.iconst 3, 1) := by decide +kernel
theorem at_146_959 : ab_at 146 959 = some (.iload 18, 2) := by decide +kernel
theorem at_146_961 : ab_at 146 961 = some (.iadd, 1) := by decide +kernel
theorem at_146_962 : ab_at 146 962 = some (.aload_n 1, 1) := by decide +kernel
theorem at_146_963 : ab_at 146 963 = some (.iconst 0, 1) := by decide +kernel
theorem at_146_964 : ab_at 146 964 = some (.invokevirtual 168, 3) := by decide +kernel
theorem at_146_967 : ab_at 146 967 = some (.bipush 10, 2) := by decide +kernel
theorem at_146_969 : ab_at 146 969 = some (.imul, 1) := by decide +kernel
theorem at_146_970 : ab_at 146 970 = some (.aload_n 1, 1) := by decide +kernel
theorem at_146_971 : ab_at 146 971 = some (.iconst 2, 1) := by decide +kernel
theorem at_146_972 : ab_at 146 972 = some (.invokevirtual 168, 3) := by decide +kernel
theorem at_146_975 : ab_at 146 975 = some (.iadd, 1) := by decide +kernel
theorem at_146_976 : ab_at 146 976 = some (.i2l, 1) := by decide +kernel
theorem at_146_977 : ab_at 146 977 = some (.lastore, 1) := by decide +kernel
theorem at_146_978 : ab_at 146 978 = some (.iconst 0, 1) := by decide +kernel
theorem at_146_979 : ab_at 146 979 = some (.istore 20, 2) := by decide +kernel
theorem at_146_981 : ab_at 146 981 = some (.iload 20, 2) := by decide +kernel
theorem at_146_983 : ab_at 146 983 = some (.iload 11, 2) := by decide +kernel
theorem at_146_985 : ab_at 146 985 = some (.if_icmp .ge 70, 3) := by decide +kernel
theorem at_146_988 : ab_at 146 988 = some (.aload 17, 2) := by decide +kernel
theorem at_146_990 : ab_at 146 990 = some (.bipush 20, 2) := by decide +kernel
theorem at_146_992 : ab_at 146 992 = some (.iload 18, 2) := by decide +kernel
theorem at_146_994 : ab_at 146 994 = some (.imul, 1) := by decide +kernel
theorem at_146_995 : ab_at 146 995 = some (.iload 20, 2) := by decide +kernel
theorem at_146_997 : ab_at 146 997 = some (.iadd, 1) := by decide +kernel
theorem at_146_998 : ab_at 146 998 = some (.aload_n 1, 1) := by decide +kernel
theorem at_146_999 : ab_at 146 999 = some (.iload 20, 2) := by decide +kernel
theorem at_146_1001 : ab_at 146 1001 = some (.invokevirtual 171, 3) := by decide +kernel
theorem at_146_1004 : ab_at 146 1004 = some (.lastore, 1) := by decide +kernel
theorem at_146_1005 : ab_at 146 1005 = some (.aload_n 1, 1) := by decide +kernel
theorem at_146_1006 : ab_at 146 1006 = some (.iload 20, 2) := by decide +kernel
theorem at_146_1008 : ab_at 146 1008 = some (.invokevirtual 171, 3) := by decide +kernel
theorem at_146_1011 : ab_at 146 1011 = some (.ldc2_w 100, 3) := by decide +kernel
theorem at_146_1014 : ab_at 146 1014 = some (.lcmp, 1) := by decide +kernel
theorem at_146_1015 : ab_at 146 1015 = some (.ifCond .eq 34, 3) := by decide +kernel
theorem at_146_1018 : ab_at 146 1018 = some (.aload_n 1, 1) := by decide +kernel
theorem at_146_1019 : ab_at 146 1019 = some (.iload 20, 2) := by decide +kernel
theorem at_146_1021 : ab_at 146 1021 = some (.invokevirtual 157, 3) := by decide +kernel
theorem at_146_1024 : ab_at 146 1024 = some (.ldc2_w 100, 3) := by decide +kernel
theorem at_146_1027 : ab_at 146 1027 = some (.lcmp, 1) := by decide +kernel
theorem at_146_1028 : ab_at 146 1028 = some (.ifCond .eq 21, 3) := by decide +kernel
theorem at_146_1031 : ab_at 146 1031 = some (.aload_n 1, 1) := by decide +kernel
theorem at_146_1032 : ab_at 146 1032 = some (.iload 20, 2) := by decide +kernel
theorem at_146_1034 : ab_at 146 1034 = some (.invokevirtual 171, 3) := by decide +kernel
theorem at_146_1037 : ab_at 146 1037 = some (.aload_n 1, 1) := by decide +kernel
theorem at_146_1038 : ab_at 146 1038 = some (.iload 20, 2) := by decide +kernel
theorem at_146_1040 : ab_at 146 1040 = some (.invokevirtual 157, 3) := by decide +kernel
theorem at_146_1043 : ab_at 146 1043 = some (.lcmp, 1) := by decide +kernel
theorem at_146_1044 : ab_at 146 1044 = some (.ifCond .eq 5, 3) := by decide +kernel
theorem at_146_1047 : ab_at 146 1047 = some (.iconst 0, 1) := by decide +kernel
theorem at_146_1048 : ab_at 146 1048 = some (.ireturn, 1) := by decide +kernel
theorem at_146_1049 : ab_at 146 1049 = some (.iinc 20 1, 3) := by decide +kernel
theorem at_146_1052 : ab_at 146 1052 = some (.goto (-71), 3) := by decide +kernel
theorem at_146_1055 : ab_at 146 1055 = some (.iinc 18 1, 3) := by decide +kernel
theorem at_146_1058 : ab_at 146 1058 = some (.goto (-176), 3) := by decide +kernel
theorem at_146_1061 : ab_at 146 1061 = some (.iconst 0, 1) := by decide +kernel
theorem at_146_1062 : ab_at 146 1062 = some (.istore 18, 2) := by decide +kernel
theorem at_146_1064 : ab_at 146 1064 = some (.iload 18, 2) := by decide +kernel
theorem at_146_1066 : ab_at 146 1066 = some (.iconst 3, 1) := by decide +kernel
theorem at_146_1067 : ab_at 146 1067 = some (.if_icmp .ge 339, 3) := by decide +kernel
theorem at_146_1070 : ab_at 146 1070 = some (.iload 18, 2) := by decide +kernel
theorem at_146_1072 : ab_at 146 1072 = some (.ifCond .ne 12, 3) := by decide +kernel
theorem at_146_1075 : ab_at 146 1075 = some (.aload_n 1, 1) := by decide +kernel
theorem at_146_1076 : ab_at 146 1076 = some (.invokevirtual 174, 3) := by decide +kernel
theorem at_146_1079 : ab_at 146 1079 = some (.ifCond .ge 5, 3) := by decide +kernel
theorem at_146_1082 : ab_at 146 1082 = some (.iconst 0, 1) := by decide +kernel
theorem at_146_1083 : ab_at 146 1083 = some (.ireturn, 1) := by decide +kernel
theorem at_146_1084 : ab_at 146 1084 = some (.iload 18, 2) := by decide +kernel
theorem at_146_1086 : ab_at 146 1086 = some (.iconst 1, 1) := by decide +kernel
theorem at_146_1087 : ab_at 146 1087 = some (.if_icmp .ne 119, 3) := by decide +kernel
theorem at_146_1090 : ab_at 146 1090 = some (.aload_n 1, 1) := by decide +kernel
theorem at_146_1091 : ab_at 146 1091 = some (.iconst 2, 1) := by decide +kernel
theorem at_146_1092 : ab_at 146 1092 = some (.invokevirtual 127, 3) := by decide +kernel
theorem at_146_1095 : ab_at 146 1095 = some (.istore 19, 2) := by decide +kernel
theorem at_146_1097 : ab_at 146 1097 = some (.aload_n 1, 1) := by decide +kernel
theorem at_146_1098 : ab_at 146 1098 = some (.invokevirtual 177, 3) := by decide +kernel
theorem at_146_1101 : ab_at 146 1101 = some (.istore 20, 2) := by decide +kernel
theorem at_146_1103 : ab_at 146 1103 = some (.aload_n 1, 1) := by decide +kernel
theorem at_146_1104 : ab_at 146 1104 = some (.iconst 2, 1) := by decide +kernel
theorem at_146_1105 : ab_at 146 1105 = some (.invokevirtual 127, 3) := by decide +kernel
theorem at_146_1108 : ab_at 146 1108 = some (.iload 19, 2) := by decide +kernel
theorem at_146_1110 : ab_at 146 1110 = some (.iload 20, 2) := by decide +kernel
theorem at_146_1112 : ab_at 146 1112 = some (.iadd, 1) := by decide +kernel
theorem at_146_1113 : ab_at 146 1113 = some (.if_icmp .ne 10, 3) := by decide +kernel
theorem at_146_1116 : ab_at 146 1116 = some (.aload_n 1, 1) := by decide +kernel
theorem at_146_1117 : ab_at 146 1117 = some (.invokevirtual 177, 3) := by decide +kernel
theorem at_146_1120 : ab_at 146 1120 = some (.ifCond .eq 5, 3) := by decide +kernel
theorem at_146_1123 : ab_at 146 1123 = some (.iconst 0, 1) := by decide +kernel
theorem at_146_1124 : ab_at 146 1124 = some (.ireturn, 1) := by decide +kernel
theorem at_146_1125 : ab_at 146 1125 = some (.iconst 0, 1) := by decide +kernel
theorem at_146_1126 : ab_at 146 1126 = some (.istore 21, 2) := by decide +kernel
theorem at_146_1128 : ab_at 146 1128 = some (.iload 21, 2) := by decide +kernel
theorem at_146_1130 : ab_at 146 1130 = some (.iload 11, 2) := by decide +kernel
theorem at_146_1132 : ab_at 146 1132 = some (.if_icmp .ge 74, 3) := by decide +kernel
theorem at_146_1135 : ab_at 146 1135 = some (.aload_n 1, 1) := by decide +kernel
theorem at_146_1136 : ab_at 146 1136 = some (.iload 21, 2) := by decide +kernel
theorem at_146_1138 : ab_at 146 1138 = some (.iconst 0, 1) := by decide +kernel
theorem at_146_1139 : ab_at 146 1139 = some (.invokevirtual 119, 3) := by decide +kernel
theorem at_146_1142 : ab_at 146 1142 = some (.bipush 8, 2) := by decide +kernel
theorem at_146_1144 : ab_at 146 1144 = some (.if_icmp .ne 15, 3) := by decide +kernel
theorem at_146_1147 : ab_at 146 1147 = some (.aload_n 1, 1) := by decide +kernel
theorem at_146_1148 : ab_at 146 1148 = some (.iload 21, 2) := by decide +kernel
theorem at_146_1150 : ab_at 146 1150 = some (.iconst 4, 1) := by decide +kernel
theorem at_146_1151 : ab_at 146 1151 = some (.invokevirtual 119, 3) := by decide +kernel
theorem at_146_1154 : ab_at 146 1154 = some (.ifCond .eq 5, 3) := by decide +kernel
theorem at_146_1157 : ab_at 146 1157 = some (.iconst 0, 1) := by decide +kernel
theorem at_146_1158 : ab_at 146 1158 = some (.ireturn, 1) := by decide +kernel
theorem at_146_1159 : ab_at 146 1159 = some (.iconst 0, 1) := by decide +kernel
theorem at_146_1160 : ab_at 146 1160 = some (.istore 22, 2) := by decide +kernel
theorem at_146_1162 : ab_at 146 1162 = some (.iload 22, 2) := by decide +kernel
theorem at_146_1164 : ab_at 146 1164 = some (.aload_n 1, 1) := by decide +kernel
theorem at_146_1165 : ab_at 146 1165 = some (.iload 21, 2) := by decide +kernel
theorem at_146_1167 : ab_at 146 1167 = some (.iconst 2, 1) := by decide +kernel
theorem at_146_1168 : ab_at 146 1168 = some (.invokevirtual 119, 3) := by decide +kernel
theorem at_146_1171 : ab_at 146 1171 = some (.if_icmp .ge 29, 3) := by decide +kernel
theorem at_146_1174 : ab_at 146 1174 = some (.aload_n 1, 1) := by decide +kernel
theorem at_146_1175 : ab_at 146 1175 = some (.aload_n 1, 1) := by decide +kernel
theorem at_146_1176 : ab_at 146 1176 = some (.iload 21, 2) := by decide +kernel
theorem at_146_1178 : ab_at 146 1178 = some (.iload 22, 2) := by decide +kernel
theorem at_146_1180 : ab_at 146 1180 = some (.invokevirtual 121, 3) := by decide +kernel
theorem at_146_1183 : ab_at 146 1183 = some (.iconst 0, 1) := by decide +kernel
theorem at_146_1184 : ab_at 146 1184 = some (.invokevirtual 119, 3) := by decide +kernel
theorem at_146_1187 : ab_at 146 1187 = some (.bipush 8, 2) := by decide +kernel
theorem at_146_1189 : ab_at 146 1189 = some (.if_icmp .ne 5, 3) := by decide +kernel
theorem at_146_1192 : ab_at 146 1192 = some (.iconst 0, 1) := by decide +kernel
theorem at_146_1193 : ab_at 146 1193 = some (.ireturn, 1) := by decide +kernel
theorem at_146_1194 : ab_at 146 1194 = some (.iinc 22 1, 3) := by decide +kernel
theorem at_146_1197 : ab_at 146 1197 = some (.goto (-35), 3) := by decide +kernel
theorem at_146_1200 : ab_at 146 1200 = some (.iinc 21 1, 3) := by decide +kernel
theorem at_146_1203 : ab_at 146 1203 = some (.goto (-75), 3) := by decide +kernel
theorem at_146_1206 : ab_at 146 1206 = some (.iload 18, 2) := by decide +kernel
theorem at_146_1208 : ab_at 146 1208 = some (.iconst 2, 1) := by decide +kernel
theorem at_146_1209 : ab_at 146 1209 = some (.if_icmp .ne 19, 3) := by decide +kernel
theorem at_146_1212 : ab_at 146 1212 = some (.aload_n 1, 1) := by decide +kernel
theorem at_146_1213 : ab_at 146 1213 = some (.invokevirtual 174, 3) := by decide +kernel
theorem at_146_1216 : ab_at 146 1216 = some (.ifCond .lt 10, 3) := by decide +kernel
theorem at_146_1219 : ab_at 146 1219 = some (.aload_n 1, 1) := by decide +kernel
theorem at_146_1220 : ab_at 146 1220 = some (.invokevirtual 177, 3) := by decide +kernel
theorem at_146_1223 : ab_at 146 1223 = some (.ifCond .ge 5, 3) := by decide +kernel
theorem at_146_1226 : ab_at 146 1226 = some (.iconst 0, 1) := by decide +kernel
theorem at_146_1227 : ab_at 146 1227 = some (.ireturn, 1) := by decide +kernel
theorem at_146_1228 : ab_at 146 1228 = some (.iconst 0, 1) := by decide +kernel
theorem at_146_1229 : ab_at 146 1229 = some (.istore 19, 2) := by decide +kernel
theorem at_146_1231 : ab_at 146 1231 = some (.iload 19, 2) := by decide +kernel
theorem at_146_1233 : ab_at 146 1233 = some (.iconst 3, 1) := by decide +kernel
theorem at_146_1234 : ab_at 146 1234 = some (.if_icmp .ge 166, 3) := by decide +kernel
theorem at_146_1237 : ab_at 146 1237 = some (.aload_n 0, 1) := by decide +kernel
theorem at_146_1238 : ab_at 146 1238 = some (.bipush 35, 2) := by decide +kernel
theorem at_146_1240 : ab_at 146 1240 = some (.iconst 3, 1) := by decide +kernel
theorem at_146_1241 : ab_at 146 1241 = some (.iload 12, 2) := by decide +kernel
theorem at_146_1243 : ab_at 146 1243 = some (.imul, 1) := by decide +kernel
theorem at_146_1244 : ab_at 146 1244 = some (.iadd, 1) := by decide +kernel
theorem at_146_1245 : ab_at 146 1245 = some (.iload 19, 2) := by decide +kernel
theorem at_146_1247 : ab_at 146 1247 = some (.iadd, 1) := by decide +kernel
theorem at_146_1248 : ab_at 146 1248 = some (.invokestatic 73, 3) := by decide +kernel
theorem at_146_1251 : ab_at 146 1251 = some (.istore 20, 2) := by decide +kernel
theorem at_146_1253 : ab_at 146 1253 = some (.aload_n 1, 1) := by decide +kernel
theorem at_146_1254 : ab_at 146 1254 = some (.iload 20, 2) := by decide +kernel
theorem at_146_1256 : ab_at 146 1256 = some (.bipush 9, 2) := by decide +kernel
theorem at_146_1258 : ab_at 146 1258 = some (.invokestatic 69, 3) := by decide +kernel
theorem at_146_1261 : ab_at 146 1261 = some (.iconst 4, 1) := by decide +kernel
theorem at_146_1262 : ab_at 146 1262 = some (.isub, 1) := by decide +kernel
theorem at_146_1263 : ab_at 146 1263 = some (.iload 20, 2) := by decide +kernel
theorem at_146_1265 : ab_at 146 1265 = some (.iconst 2, 1) := by decide +kernel
theorem at_146_1266 : ab_at 146 1266 = some (.ishr, 1) := by decide +kernel
theorem at_146_1267 : ab_at 146 1267 = some (.bipush 9, 2) := by decide +kernel
theorem at_146_1269 : ab_at 146 1269 = some (.invokestatic 69, 3) := by decide +kernel
theorem at_146_1272 : ab_at 146 1272 = some (.iconst 4, 1) := by decide +kernel
theorem at_146_1273 : ab_at 146 1273 = some (.isub, 1) := by decide +kernel
theorem at_146_1274 : ab_at 146 1274 = some (.iload 20, 2) := by decide +kernel
theorem at_146_1276 : ab_at 146 1276 = some (.iconst 4, 1) := by decide +kernel
theorem at_146_1277 : ab_at 146 1277 = some (.ishr, 1) := by decide +kernel
theorem at_146_1278 : ab_at 146 1278 = some (.bipush 9, 2) := by decide +kernel
theorem at_146_1280 : ab_at 146 1280 = some (.invokestatic 69, 3) := by decide +kernel
theorem at_146_1283 : ab_at 146 1283 = some (.iconst 4, 1) := by decide +kernel
theorem at_146_1284 : ab_at 146 1284 = some (.isub, 1) := by decide +kernel
theorem at_146_1285 : ab_at 146 1285 = some (.iload 20, 2) := by decide +kernel
theorem at_146_1287 : ab_at 146 1287 = some (.bipush 6, 2) := by decide +kernel
theorem at_146_1289 : ab_at 146 1289 = some (.ishr, 1) := by decide +kernel
theorem at_146_1290 : ab_at 146 1290 = some (.bipush 9, 2) := by decide +kernel
theorem at_146_1292 : ab_at 146 1292 = some (.invokestatic 69, 3) := by decide +kernel
theorem at_146_1295 : ab_at 146 1295 = some (.iconst 4, 1) := by decide +kernel
theorem at_146_1296 : ab_at 146 1296 = some (.isub, 1) := by decide +kernel
theorem at_146_1297 : ab_at 146 1297 = some (.invokevirtual 164, 3) := by decide +kernel
theorem at_146_1300 : ab_at 146 1300 = some (.aload 16, 2) := by decide +kernel
theorem at_146_1302 : ab_at 146 1302 = some (.iload 19, 2) := by decide +kernel
theorem at_146_1304 : ab_at 146 1304 = some (.laload, 1) := by decide +kernel
theorem at_146_1305 : ab_at 146 1305 = some (.lcmp, 1) := by decide +kernel
theorem at_146_1306 : ab_at 146 1306 = some (.ifCond .ne 29, 3) := by decide +kernel
theorem at_146_1309 : ab_at 146 1309 = some (.aload_n 1, 1) := by decide +kernel
theorem at_146_1310 : ab_at 146 1310 = some (.iconst 0, 1) := by decide +kernel
theorem at_146_1311 : ab_at 146 1311 = some (.invokevirtual 168, 3) := by decide +kernel
theorem at_146_1314 : ab_at 146 1314 = some (.bipush 10, 2) := by decide +kernel
theorem at_146_1316 : ab_at 146 1316 = some (.imul, 1) := by decide +kernel
theorem at_146_1317 : ab_at 146 1317 = some (.aload_n 1, 1) := by decide +kernel
theorem at_146_1318 : ab_at 146 1318 = some (.iconst 2, 1) := by decide +kernel
theorem at_146_1319 : ab_at 146 1319 = some (.invokevirtual 168, 3) := by decide +kernel
theorem at_146_1322 : ab_at 146 1322 = some (.iadd, 1) := by decide +kernel
theorem at_146_1323 : ab_at 146 1323 = some (.i2l, 1) := by decide +kernel
theorem at_146_1324 : ab_at 146 1324 = some (.aload 16, 2) := by decide +kernel
theorem at_146_1326 : ab_at 146 1326 = some (.iconst 3, 1) := by decide +kernel
theorem at_146_1327 : ab_at 146 1327 = some (.iload 19, 2) := by decide +kernel
theorem at_146_1329 : ab_at 146 1329 = some (.iadd, 1) := by decide +kernel
theorem at_146_1330 : ab_at 146 1330 = some (.laload, 1) := by decide +kernel
theorem at_146_1331 : ab_at 146 1331 = some (.lcmp, 1) := by decide +kernel
theorem at_146_1332 : ab_at 146 1332 = some (.ifCond .eq 5, 3) := by decide +kernel
theorem at_146_1335 : ab_at 146 1335 = some (.iconst 0, 1) := by decide +kernel
theorem at_146_1336 : ab_at 146 1336 = some (.ireturn, 1) := by decide +kernel
theorem at_146_1337 : ab_at 146 1337 = some (.iconst 0, 1) := by decide +kernel
theorem at_146_1338 : ab_at 146 1338 = some (.istore 21, 2) := by decide +kernel
theorem at_146_1340 : ab_at 146 1340 = some (.iload 21, 2) := by decide +kernel
theorem at_146_1342 : ab_at 146 1342 = some (.iload 11, 2) := by decide +kernel
theorem at_146_1344 : ab_at 146 1344 = some (.if_icmp .ge 50, 3) := by decide +kernel
theorem at_146_1347 : ab_at 146 1347 = some (.aload_n 1, 1) := by decide +kernel
theorem at_146_1348 : ab_at 146 1348 = some (.iload 21, 2) := by decide +kernel
theorem at_146_1350 : ab_at 146 1350 = some (.invokevirtual 171, 3) := by decide +kernel
theorem at_146_1353 : ab_at 146 1353 = some (.aload_n 1, 1) := by decide +kernel
theorem at_146_1354 : ab_at 146 1354 = some (.iload 21, 2) := by decide +kernel
theorem at_146_1356 : ab_at 146 1356 = some (.iconst 0, 1) := by decide +kernel
theorem at_146_1357 : ab_at 146 1357 = some (.invokevirtual 119, 3) := by decide +kernel
theorem at_146_1360 : ab_at 146 1360 = some (.bipush 8, 2) := by decide +kernel
theorem at_146_1362 : ab_at 146 1362 = some (.if_icmp .ne 9, 3) := by decide +kernel
theorem at_146_1365 : ab_at 146 1365 = some (.ldc2_w 100, 3) := by decide +kernel
theorem at_146_1368 : ab_at 146 1368 = some (.goto 14, 3) := by decide +kernel
theorem at_146_1371 : ab_at 146 1371 = some (.aload 17, 2) := by decide +kernel
theorem at_146_1373 : ab_at 146 1373 = some (.bipush 20, 2) := by decide +kernel
theorem at_146_1375 : ab_at 146 1375 = some (.iload 19, 2) := by decide +kernel
theorem at_146_1377 : ab_at 146 1377 = some (.imul, 1) := by decide +kernel
theorem at_146_1378 : ab_at 146 1378 = some (.iload 21, 2) := by decide +kernel
theorem at_146_1380 : ab_at 146 1380 = some (.iadd, 1) := by decide +kernel
theorem at_146_1381 : ab_at 146 1381 = some (.laload, 1) := by decide +kernel
theorem at_146_1382 : ab_at 146 1382 = some (.lcmp, 1) := by decide +kernel
theorem at_146_1383 : ab_at 146 1383 = some (.ifCond .eq 5, 3) := by decide +kernel
theorem at_146_1386 : ab_at 146 1386 = some (.iconst 0, 1) := by decide +kernel
theorem at_146_1387 : ab_at 146 1387 = some (.ireturn, 1) := by decide +kernel
theorem at_146_1388 : ab_at 146 1388 = some (.iinc 21 1, 3) := by decide +kernel
theorem at_146_1391 : ab_at 146 1391 = some (.goto (-51), 3) := by decide +kernel
theorem at_146_1394 : ab_at 146 1394 = some (.iinc 19 1, 3) := by decide +kernel
theorem at_146_1397 : ab_at 146 1397 = some (.goto (-166), 3) := by decide +kernel
theorem at_146_1400 : ab_at 146 1400 = some (.iinc 18 1, 3) := by decide +kernel
theorem at_146_1403 : ab_at 146 1403 = some (.goto (-339), 3) := by decide +kernel
theorem at_146_1406 : ab_at 146 1406 = some (.aload_n 1, 1) := by decide +kernel
theorem at_146_1407 : ab_at 146 1407 = some (.iconst 0, 1) := by decide +kernel
theorem at_146_1408 : ab_at 146 1408 = some (.invokevirtual 180, 3) := by decide +kernel
theorem at_146_1411 : ab_at 146 1411 = some (.iload 11, 2) := by decide +kernel
theorem at_146_1413 : ab_at 146 1413 = some (.if_icmp .eq 5, 3) := by decide +kernel
theorem at_146_1416 : ab_at 146 1416 = some (.iconst 0, 1) := by decide +kernel
theorem at_146_1417 : ab_at 146 1417 = some (.ireturn, 1) := by decide +kernel
theorem at_146_1418 : ab_at 146 1418 = some (.iconst 0, 1) := by decide +kernel
theorem at_146_1419 : ab_at 146 1419 = some (.istore 18, 2) := by decide +kernel
theorem at_146_1421 : ab_at 146 1421 = some (.iload 18, 2) := by decide +kernel
theorem at_146_1423 : ab_at 146 1423 = some (.bipush 6, 2) := by decide +kernel
theorem at_146_1425 : ab_at 146 1425 = some (.if_icmp .ge 143, 3) := by decide +kernel
theorem at_146_1428 : ab_at 146 1428 = some (.aload_n 0, 1) := by decide +kernel
theorem at_146_1429 : ab_at 146 1429 = some (.bipush 41, 2) := by decide +kernel
theorem at_146_1431 : ab_at 146 1431 = some (.bipush 6, 2) := by decide +kernel
theorem at_146_1433 : ab_at 146 1433 = some (.iload 12, 2) := by decide +kernel
theorem at_146_1435 : ab_at 146 1435 = some (.imul, 1) := by decide +kernel
theorem at_146_1436 : ab_at 146 1436 = some (.iadd, 1) := by decide +kernel
theorem at_146_1437 : ab_at 146 1437 = some (.iload 18, 2) := by decide +kernel
theorem at_146_1439 : ab_at 146 1439 = some (.iadd, 1) := by decide +kernel
theorem at_146_1440 : ab_at 146 1440 = some (.invokestatic 73, 3) := by decide +kernel
theorem at_146_1443 : ab_at 146 1443 = some (.istore 19, 2) := by decide +kernel
theorem at_146_1445 : ab_at 146 1445 = some (.iload 19, 2) := by decide +kernel
theorem at_146_1447 : ab_at 146 1447 = some (.iload 11, 2) := by decide +kernel
theorem at_146_1449 : ab_at 146 1449 = some (.invokestatic 69, 3) := by decide +kernel
theorem at_146_1452 : ab_at 146 1452 = some (.istore 20, 2) := by decide +kernel
theorem at_146_1454 : ab_at 146 1454 = some (.iload 19, 2) := by decide +kernel
theorem at_146_1456 : ab_at 146 1456 = some (.iconst 5, 1) := by decide +kernel
theorem at_146_1457 : ab_at 146 1457 = some (.ishr, 1) := by decide +kernel
theorem at_146_1458 : ab_at 146 1458 = some (.iconst 2, 1) := by decide +kernel
theorem at_146_1459 : ab_at 146 1459 = some (.invokestatic 69, 3) := by decide +kernel
theorem at_146_1462 : ab_at 146 1462 = some (.istore 21, 2) := by decide +kernel
theorem at_146_1464 : ab_at 146 1464 = some (.iload 19, 2) := by decide +kernel
theorem at_146_1466 : ab_at 146 1466 = some (.iconst 3, 1) := by decide +kernel
theorem at_146_1467 : ab_at 146 1467 = some (.ishr, 1) := by decide +kernel
theorem at_146_1468 : ab_at 146 1468 = some (.iload 11, 2) := by decide +kernel
theorem at_146_1470 : ab_at 146 1470 = some (.invokestatic 69, 3) := by decide +kernel
theorem at_146_1473 : ab_at 146 1473 = some (.istore 22, 2) := by decide +kernel
theorem at_146_1475 : ab_at 146 1475 = some (.aload_n 1, 1) := by decide +kernel
theorem at_146_1476 : ab_at 146 1476 = some (.iload 20, 2) := by decide +kernel
theorem at_146_1478 : ab_at 146 1478 = some (.iload 21, 2) := by decide +kernel
theorem at_146_1480 : ab_at 146 1480 = some (.iload 22, 2) := by decide +kernel
theorem at_146_1482 : ab_at 146 1482 = some (.invokevirtual 183, 3) := by decide +kernel
theorem at_146_1485 : ab_at 146 1485 = some (.istore 23, 2) := by decide +kernel
theorem at_146_1487 : ab_at 146 1487 = some (.iload 23, 2) := by decide +kernel
theorem at_146_1489 : ab_at 146 1489 = some (.ifCond .lt 40, 3) := by decide +kernel
theorem at_146_1492 : ab_at 146 1492 = some (.aload_n 1, 1) := by decide +kernel
theorem at_146_1493 : ab_at 146 1493 = some (.iload 20, 2) := by decide +kernel
theorem at_146_1495 : ab_at 146 1495 = some (.iload 21, 2) := by decide +kernel
theorem at_146_1497 : ab_at 146 1497 = some (.invokevirtual 121, 3) := by decide +kernel
theorem at_146_1500 : ab_at 146 1500 = some (.iload 22, 2) := by decide +kernel
theorem at_146_1502 : ab_at 146 1502 = some (.if_icmp .ne 58, 3) := by decide +kernel
theorem at_146_1505 : ab_at 146 1505 = some (.aload_n 1, 1) := by decide +kernel
theorem at_146_1506 : ab_at 146 1506 = some (.iload 20, 2) := by decide +kernel
theorem at_146_1508 : ab_at 146 1508 = some (.iconst 0, 1) := by decide +kernel
theorem at_146_1509 : ab_at 146 1509 = some (.invokevirtual 119, 3) := by decide +kernel
theorem at_146_1512 : ab_at 146 1512 = some (.bipush 7, 2) := by decide +kernel
theorem at_146_1514 : ab_at 146 1514 = some (.if_icmp .eq 15, 3) := by decide +kernel
theorem at_146_1517 : ab_at 146 1517 = some (.aload_n 1, 1) := by decide +kernel
theorem at_146_1518 : ab_at 146 1518 = some (.iload 22, 2) := by decide +kernel
theorem at_146_1520 : ab_at 146 1520 = some (.iload 20, 2) := by decide +kernel
theorem at_146_1522 : ab_at 146 1522 = some (.invokevirtual 152, 3) := by decide +kernel
theorem at_146_1525 : ab_at 146 1525 = some (.iconst 1, 1) := by decide +kernel
theorem at_146_1526 : ab_at 146 1526 = some (.if_icmp .ne 34, 3) := by decide +kernel
theorem at_146_1529 : ab_at 146 1529 = some (.iload 23, 2) := by decide +kernel
theorem at_146_1531 : ab_at 146 1531 = some (.bipush (-2), 2) := by decide +kernel
theorem at_146_1533 : ab_at 146 1533 = some (.if_icmp .ne 29, 3) := by decide +kernel
theorem at_146_1536 : ab_at 146 1536 = some (.aload_n 1, 1) := by decide +kernel
theorem at_146_1537 : ab_at 146 1537 = some (.iload 20, 2) := by decide +kernel
theorem at_146_1539 : ab_at 146 1539 = some (.iconst 0, 1) := by decide +kernel
theorem at_146_1540 : ab_at 146 1540 = some (.invokevirtual 119, 3) := by decide +kernel
theorem at_146_1543 : ab_at 146 1543 = some (.bipush 7, 2) := by decide +kernel
theorem at_146_1545 : ab_at 146 1545 = some (.if_icmp .eq 17, 3) := by decide +kernel
theorem at_146_1548 : ab_at 146 1548 = some (.aload_n 1, 1) := by decide +kernel
theorem at_146_1549 : ab_at 146 1549 = some (.iload 22, 2) := by decide +kernel
theorem at_146_1551 : ab_at 146 1551 = some (.iload 20, 2) := by decide +kernel
theorem at_146_1553 : ab_at 146 1553 = some (.invokevirtual 152, 3) := by decide +kernel
theorem at_146_1556 : ab_at 146 1556 = some (.iconst 1, 1) := by decide +kernel
theorem at_146_1557 : ab_at 146 1557 = some (.if_icmp .ne 5, 3) := by decide +kernel
theorem at_146_1560 : ab_at 146 1560 = some (.iconst 0, 1) := by decide +kernel
theorem at_146_1561 : ab_at 146 1561 = some (.ireturn, 1) := by decide +kernel
theorem at_146_1562 : ab_at 146 1562 = some (.iinc 18 1, 3) := by decide +kernel
theorem at_146_1565 : ab_at 146 1565 = some (.goto (-144), 3) := by decide +kernel
theorem at_146_1568 : ab_at 146 1568 = some (.aload_n 0, 1) := by decide +kernel
theorem at_146_1569 : ab_at 146 1569 = some (.bipush 53, 2) := by decide +kernel
theorem at_146_1571 : ab_at 146 1571 = some (.iload 12, 2) := by decide +kernel
theorem at_146_1573 : ab_at 146 1573 = some (.iadd, 1) := by decide +kernel
theorem at_146_1574 : ab_at 146 1574 = some (.invokestatic 73, 3) := by decide +kernel
theorem at_146_1577 : ab_at 146 1577 = some (.istore 18, 2) := by decide +kernel
theorem at_146_1579 : ab_at 146 1579 = some (.aload_n 1, 1) := by decide +kernel
theorem at_146_1580 : ab_at 146 1580 = some (.iload 18, 2) := by decide +kernel
theorem at_146_1582 : ab_at 146 1582 = some (.iload 11, 2) := by decide +kernel
theorem at_146_1584 : ab_at 146 1584 = some (.invokestatic 69, 3) := by decide +kernel
theorem at_146_1587 : ab_at 146 1587 = some (.iload 18, 2) := by decide +kernel
theorem at_146_1589 : ab_at 146 1589 = some (.iconst 4, 1) := by decide +kernel
theorem at_146_1590 : ab_at 146 1590 = some (.ishr, 1) := by decide +kernel
theorem at_146_1591 : ab_at 146 1591 = some (.iconst 3, 1) := by decide +kernel
theorem at_146_1592 : ab_at 146 1592 = some (.invokestatic 69, 3) := by decide +kernel
theorem at_146_1595 : ab_at 146 1595 = some (.invokevirtual 186, 3) := by decide +kernel
theorem at_146_1598 : ab_at 146 1598 = some (.bipush (-2), 2) := by decide +kernel
theorem at_146_1600 : ab_at 146 1600 = some (.if_icmp .ne 5, 3) := by decide +kernel
theorem at_146_1603 : ab_at 146 1603 = some (.iconst 0, 1) := by decide +kernel
theorem at_146_1604 : ab_at 146 1604 = some (.ireturn, 1) := by decide +kernel
theorem at_146_1605 : ab_at 146 1605 = some (.iinc 12 1, 3) := by decide +kernel
theorem at_146_1608 : ab_at 146 1608 = some (.goto (-1519), 3) := by decide +kernel
theorem at_146_1611 : ab_at 146 1611 = some (.aload 8, 2) := by decide +kernel
theorem at_146_1613 : ab_at 146 1613 = some (.iconst 0, 1) := by decide +kernel
theorem at_146_1614 : ab_at 146 1614 = some (.iaload, 1) := by decide +kernel
theorem at_146_1615 : ab_at 146 1615 = some (.ifCond .ne 23, 3) := by decide +kernel
theorem at_146_1618 : ab_at 146 1618 = some (.aload 9, 2) := by decide +kernel
theorem at_146_1620 : ab_at 146 1620 = some (.iconst 0, 1) := by decide +kernel
theorem at_146_1621 : ab_at 146 1621 = some (.iaload, 1) := by decide +kernel
theorem at_146_1622 : ab_at 146 1622 = some (.ifCond .ne 16, 3) := by decide +kernel
theorem at_146_1625 : ab_at 146 1625 = some (.aload 10, 2) := by decide +kernel
theorem at_146_1627 : ab_at 146 1627 = some (.iconst 0, 1) := by decide +kernel
theorem at_146_1628 : ab_at 146 1628 = some (.laload, 1) := by decide +kernel
theorem at_146_1629 : ab_at 146 1629 = some (.lconst 0, 1) := by decide +kernel
theorem at_146_1630 : ab_at 146 1630 = some (.lcmp, 1) := by decide +kernel
theorem at_146_1631 : ab_at 146 1631 = some (.ifCond .ne 7, 3) := by decide +kernel
theorem at_146_1634 : ab_at 146 1634 = some (.iconst 1, 1) := by decide +kernel
theorem at_146_1635 : ab_at 146 1635 = some (.goto 4, 3) := by decide +kernel
theorem at_146_1638 : ab_at 146 1638 = some (.iconst 0, 1) := by decide +kernel
theorem at_146_1639 : ab_at 146 1639 = some (.ireturn, 1) := by decide +kernel
