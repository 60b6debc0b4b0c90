set_option maxRecDepth 20000 in
theorem ggL_law_X11_claim : GoodIn wsL_law wsX11_claim := goodIn_r _ [964, 225, 176, 177, 486, 190, 191, 192, 537, 538, 539, 5, 540, 485, 226, 227, 228, 697, 698, 699, 700, 1155, 1156, 1157, 1158, 1159, 1160, 1161, 1162, 1163, 1164, 1165, 1166, 1167, 1168, 1169, 1170, 1171, 1172, 1173, 1174, 1175, 1176, 1177, 1178, 1179, 1180, 1181, 1182, 1183, 1184, 1185, 1186, 1187, 1188, 1189, 1190, 1191, 1192, 1193, 1194, 1195, 1196, 1197, 1198, 1199, 1200, 1201, 1202, 1203, 1204, 1205, 1206, 1207, 1208, 1209, 1210, 1211, 1212] (by decide +kernel) (by decide +kernel)
set_option maxRecDepth 20000 in
theorem gL_law_X11_claim : GoodIn wsL_law (wsV RL 122 RX11 yX11_claim wsX11_claim) := goodIn_app (goodIn_of _ (by decide +kernel)) ggL_law_X11_claim
set_option maxRecDepth 20000 in
theorem ggL_law_X10_fits : GoodIn wsL_law wsX10_fits := goodIn_r _ [968, 24, 471, 435, 969, 970, 971, 78, 972, 104, 973, 974, 975, 976, 105, 977, 106, 107, 978, 979, 574, 575, 70, 576, 90, 577, 514, 515, 516, 88, 980, 981, 982, 983, 92, 984, 836, 837, 838, 94, 1145, 1146, 1147, 1148, 1149, 1150, 1151, 1152, 1153, 1154, 1228, 1229, 1230, 1231, 1232, 1262, 1263, 1264, 1265, 1252, 1253, 1254, 1255, 1256, 1257, 1258, 1259] (by decide +kernel) (by decide +kernel)
set_option maxRecDepth 20000 in
theorem gL_law_X10_fits : GoodIn wsL_law (wsV RL 123 RX10 yX10_fits wsX10_fits) := goodIn_app (goodIn_of _ (by decide +kernel)) ggL_law_X10_fits
set_option maxRecDepth 20000 in
theorem ggL_law_X11_fits : GoodIn wsL_law wsX11_fits := goodIn_r _ [988, 989, 990, 991, 5, 992, 486, 226, 227, 228, 993, 994, 995, 996, 173, 190, 191, 192, 997, 998, 999, 1000, 207, 171, 161, 175, 1155, 1156, 1157, 1158, 1159, 1160, 1161, 1162, 1163, 1164, 1165, 1166, 1167, 1168, 1169, 1170, 1171, 1172, 1173, 1174, 1175, 1176, 1177, 1178, 1179, 1180, 1181, 1182, 1183, 1184, 1185, 1186, 1187, 1188, 1189, 1190, 1191, 1192, 1193, 1194, 1195, 1196, 1197, 1198, 1199, 1200, 1201, 1202, 1203, 1204, 1205, 1206, 1207, 1208, 1209, 1210, 1211, 1212] (by decide +kernel) (by decide +kernel)
set_option maxRecDepth 20000 in
theorem gL_law_X11_fits : GoodIn wsL_law (wsV RL 126 RX11 yX11_fits wsX11_fits) := goodIn_app (goodIn_of _ (by decide +kernel)) ggL_law_X11_fits
set_option maxRecDepth 20000 in
theorem ggL_law_X10_ways : GoodIn wsL_law wsX10_ways := goodIn_r _ [1004, 38, 24, 471, 435, 1005, 1006, 1007, 37, 1008, 1009, 1010, 1011, 859, 1012, 142, 139, 1013, 974, 975, 78, 976, 105, 977, 106, 107, 978, 970, 971, 972, 104, 979, 574, 575, 70, 576, 90, 577, 514, 515, 516, 88, 980, 981, 982, 983, 92, 984, 836, 837, 838, 94, 1014, 1015, 1016, 1017, 141, 1018, 1019, 1020, 1021, 1145, 1146, 1147, 1148, 1149, 1150, 1151, 1152, 1153, 1154, 1228, 1229, 1230, 1231, 1232, 1262, 1263, 1264, 1265, 1249, 1250, 1251, 1252, 1253, 1254, 1255, 1256, 1257, 1258, 1259] (by decide +kernel) (by decide +kernel)
set_option maxRecDepth 20000 in
theorem gL_law_X10_ways : GoodIn wsL_law (wsV RL 127 RX10 yX10_ways wsX10_ways) := goodIn_app (goodIn_of _ (by decide +kernel)) ggL_law_X10_ways
set_option maxRecDepth 20000 in
theorem ggL_law_X11_ways : GoodIn wsL_law wsX11_ways := goodIn_r _ [1025, 1026, 1027, 1028, 5, 1029, 486, 193, 485, 993, 994, 995, 996, 173, 190, 191, 192, 997, 998, 999, 1000, 207, 171, 161, 175, 1155, 1156, 1157, 1158, 1159, 1160, 1161, 1162, 1163, 1164, 1165, 1166, 1167, 1168, 1169, 1170, 1171, 1172, 1173, 1174, 1175, 1176, 1177, 1178, 1179, 1180, 1181, 1182, 1183, 1184, 1185, 1186, 1187, 1188, 1189, 1190, 1191, 1192, 1193, 1194, 1195, 1196, 1197, 1198, 1199, 1200, 1201, 1202, 1203, 1204, 1205, 1206, 1207, 1208, 1209, 1210, 1211, 1212] (by decide +kernel) (by decide +kernel)
set_option maxRecDepth 20000 in
theorem gL_law_X11_ways : GoodIn wsL_law (wsV RL 131 RX11 yX11_ways wsX11_ways) := goodIn_app (goodIn_of _ (by decide +kernel)) ggL_law_X11_ways
set_option maxRecDepth 20000 in
theorem ggL_law_X10_sure : GoodIn wsL_law wsX10_sure := goodIn_r _ [1033, 24, 471, 38, 435, 969, 970, 971, 78, 972, 104, 1005, 1006, 1007, 37, 1008, 1009, 1010, 1011, 859, 1012, 142, 139, 1013, 974, 975, 976, 105, 977, 106, 107, 978, 979, 574, 575, 70, 576, 90, 577, 514, 515, 516, 88, 980, 981, 982, 983, 92, 984, 836, 837, 838, 94, 1034, 1035, 1036, 1037, 155, 2, 156, 1038, 1015, 1016, 1017, 141, 1018, 1019, 1020, 1021, 1145, 1146, 1147, 1148, 1149, 1150, 1151, 1152, 1153, 1154, 1228, 1229, 1230, 1231, 1232, 1262, 1263, 1264, 1265, 1249, 1250, 1251, 1252, 1253, 1254, 1255, 1256, 1257, 1258, 1259] (by decide +kernel) (by decide +kernel)
set_option maxRecDepth 20000 in
theorem gL_law_X10_sure : GoodIn wsL_law (wsV RL 132 RX10 yX10_sure wsX10_sure) := goodIn_app (goodIn_of _ (by decide +kernel)) ggL_law_X10_sure
set_option maxRecDepth 20000 in
theorem ggL_law_X11_sure : GoodIn wsL_law wsX11_sure := goodIn_r _ [1042, 989, 990, 991, 5, 992, 486, 226, 227, 228, 1043, 1044, 1045, 1046, 485, 1026, 1027, 1028, 1029, 193, 993, 994, 995, 996, 173, 190, 191, 192, 997, 998, 999, 1000, 207, 171, 161, 175, 1155, 1156, 1157, 1158, 1159, 1160, 1161, 1162, 1163, 1164, 1165, 1166, 1167, 1168, 1169, 1170, 1171, 1172, 1173, 1174, 1175, 1176, 1177, 1178, 1179, 1180, 1181, 1182, 1183, 1184, 1185, 1186, 1187, 1188, 1189, 1190, 1191, 1192, 1193, 1194, 1195, 1196, 1197, 1198, 1199, 1200, 1201, 1202, 1203, 1204, 1205, 1206, 1207, 1208, 1209, 1210, 1211, 1212] (by decide +kernel) (by decide +kernel)
set_option maxRecDepth 20000 in
theorem gL_law_X11_sure : GoodIn wsL_law (wsV RL 135 RX11 yX11_sure wsX11_sure) := goodIn_app (goodIn_of _ (by decide +kernel)) ggL_law_X11_sure
set_option maxRecDepth 20000 in
theorem ggL_law_X10_grant : GoodIn wsL_law wsX10_grant := goodIn_r _ [1050, 24, 471, 38, 435, 969, 970, 971, 78, 972, 104, 1005, 1006, 1007, 37, 1008, 1009, 1010, 1011, 859, 1012, 142, 139, 1013, 974, 975, 976, 105, 977, 106, 107, 978, 979, 574, 575, 70, 576, 90, 577, 514, 515, 516, 88, 980, 981, 982, 983, 92, 984, 836, 837, 838, 94, 1034, 1035, 1036, 1037, 155, 2, 156, 1038, 1015, 1016, 1017, 141, 1018, 1019, 1020, 1021, 1051, 1052, 1053, 1054, 713, 714, 715, 716, 95, 1055, 1056, 1057, 1058, 1145, 1146, 1147, 1148, 1149, 1150, 1151, 1152, 1153, 1154, 1228, 1229, 1230, 1231, 1232, 1262, 1263, 1264, 1265, 1249, 1250, 1251, 1252, 1253, 1254, 1255, 1256, 1257, 1258, 1259] (by decide +kernel) (by decide +kernel)
set_option maxRecDepth 20000 in
theorem gL_law_X10_grant : GoodIn wsL_law (wsV RL 136 RX10 yX10_grant wsX10_grant) := goodIn_app (goodIn_of _ (by decide +kernel)) ggL_law_X10_grant
set_option maxRecDepth 20000 in
theorem ggL_law_X11_grant : GoodIn wsL_law wsX11_grant := goodIn_r _ [1062, 177, 190, 171, 486, 191, 192, 989, 990, 991, 5, 992, 226, 227, 228, 1043, 1044, 1045, 1046, 485, 1026, 1027, 1028, 1029, 193, 993, 994, 995, 996, 173, 997, 998, 999, 1000, 207, 161, 175, 541, 542, 543, 544, 1155, 1156, 1157, 1158, 1159, 1160, 1161, 1162, 1163, 1164, 1165, 1166, 1167, 1168, 1169, 1170, 1171, 1172, 1173, 1174, 1175, 1176, 1177, 1178, 1179, 1180, 1181, 1182, 1183, 1184, 1185, 1186, 1187, 1188, 1189, 1190, 1191, 1192, 1193, 1194, 1195, 1196, 1197, 1198, 1199, 1200, 1201, 1202, 1203, 1204, 1205, 1206, 1207, 1208, 1209, 1210, 1211, 1212] (by decide +kernel) (by decide +kernel)
set_option maxRecDepth 20000 in
theorem gL_law_X11_grant : GoodIn wsL_law (wsV RL 139 RX11 yX11_grant wsX11_grant) := goodIn_app (goodIn_of _ (by decide +kernel)) ggL_law_X11_grant
set_option maxRecDepth 20000 in
theorem ggL_law_X10_apart : GoodIn wsL_law wsX10_apart := goodIn_r _ [1066, 24, 435, 509, 513, 514, 515, 70, 516, 88, 1145, 1146, 1147, 1148, 1149, 1150, 1151, 1152, 1153, 1154, 1228, 1229, 1230, 1231, 1232, 1252, 1253, 1254, 1255, 1256, 1257, 1258, 1259] (by decide +kernel) (by decide +kernel)
set_option maxRecDepth 20000 in
theorem gL_law_X10_apart : GoodIn wsL_law (wsV RL 140 RX10 yX10_apart wsX10_apart) := goodIn_app (goodIn_of _ (by decide +kernel)) ggL_law_X10_apart
set_option maxRecDepth 20000 in
theorem ggL_law_X11_apart : GoodIn wsL_law wsX11_apart := goodIn_r _ [1070, 175, 537, 538, 539, 5, 540, 485, 226, 227, 228, 1155, 1156, 1157, 1158, 1159, 1160, 1161, 1162, 1163, 1164, 1165, 1166, 1167, 1168, 1169, 1170, 1171, 1172, 1173, 1174, 1175, 1176, 1177, 1178, 1179, 1180, 1181, 1182, 1183, 1184, 1185, 1186, 1187, 1188, 1189, 1190, 1191, 1192, 1193, 1194, 1195, 1196, 1197, 1198, 1199, 1200, 1201, 1202, 1203, 1204, 1205, 1206, 1207, 1208, 1209, 1210, 1211, 1212] (by decide +kernel) (by decide +kernel)
set_option maxRecDepth 20000 in
theorem gL_law_X11_apart : GoodIn wsL_law (wsV RL 143 RX11 yX11_apart wsX11_apart) := goodIn_app (goodIn_of _ (by decide +kernel)) ggL_law_X11_apart
set_option maxRecDepth 20000 in
theorem ggL_law_X10_asks : GoodIn wsL_law wsX10_asks := goodIn_r _ [1074, 24, 471, 435, 969, 970, 971, 78, 972, 104, 1075, 1076, 1077, 1078, 1079, 974, 975, 976, 105, 977, 106, 107, 978, 979, 574, 575, 70, 576, 90, 577, 514, 515, 516, 88, 980, 981, 982, 983, 92, 984, 836, 837, 838, 94, 1080, 1052, 1053, 1054, 1081, 904, 905, 906, 907, 908, 909, 1082, 1083, 1084, 1145, 1146, 1147, 1148, 1149, 1150, 1151, 1152, 1153, 1154, 1228, 1229, 1230, 1231, 1232, 1262, 1263, 1264, 1265, 1252, 1253, 1254, 1255, 1256, 1257, 1258, 1259] (by decide +kernel) (by decide +kernel)
set_option maxRecDepth 20000 in
theorem gL_law_X10_asks : GoodIn wsL_law (wsV RL 144 RX10 yX10_asks wsX10_asks) := goodIn_app (goodIn_of _ (by decide +kernel)) ggL_law_X10_asks
set_option maxRecDepth 20000 in
theorem ggL_law_X11_asks : GoodIn wsL_law wsX11_asks := goodIn_r _ [1088, 190, 173, 191, 175, 192, 989, 990, 991, 5, 992, 486, 226, 227, 228, 997, 998, 999, 1000, 207, 171, 161, 937, 938, 939, 1155, 1156, 1157, 1158, 1159, 1160, 1161, 1162, 1163, 1164, 1165, 1166, 1167, 1168, 1169, 1170, 1171, 1172, 1173, 1174, 1175, 1176, 1177, 1178, 1179, 1180, 1181, 1182, 1183, 1184, 1185, 1186, 1187, 1188, 1189, 1190, 1191, 1192, 1193, 1194, 1195, 1196, 1197, 1198, 1199, 1200, 1201, 1202, 1203, 1204, 1205, 1206, 1207, 1208, 1209, 1210, 1211, 1212] (by decide +kernel) (by decide +kernel)
set_option maxRecDepth 20000 in
theorem gL_law_X11_asks : GoodIn wsL_law (wsV RL 147 RX11 yX11_asks wsX11_asks) := goodIn_app (goodIn_of _ (by decide +kernel)) ggL_law_X11_asks
set_option maxRecDepth 20000 in
theorem ggL_law_X10_keep : GoodIn wsL_law wsX10_keep := goodIn_r _ [1092, 24, 235, 1093, 1094, 1095, 2, 1096, 25, 26, 214, 155, 156, 1097, 1098, 1099, 23, 1100, 71, 75, 79, 83, 1101, 1102, 1103, 70, 1104, 88, 89, 1105, 1106, 1107, 1108, 90, 91, 92, 93, 94, 95, 1109, 1110, 1111, 74, 1112, 99, 100, 1113, 1114, 1115, 1116, 78, 1117, 104, 105, 1118, 106, 107, 1119, 1120, 1121, 82, 1122, 111, 112, 1123, 1145, 1146, 1147, 1148, 1149, 1150, 1151, 1152, 1153, 1154, 1228, 1229, 1230, 1231, 1232, 1252, 1253, 1254, 1255, 1256, 1257, 1258, 1259, 1260, 1261, 1262, 1263, 1264, 1265, 1266, 1267] (by decide +kernel) (by decide +kernel)
set_option maxRecDepth 20000 in
theorem gL_law_X10_keep : GoodIn wsL_law (wsV RL 148 RX10 yX10_keep wsX10_keep) := goodIn_app (goodIn_of _ (by decide +kernel)) ggL_law_X10_keep
set_option maxRecDepth 20000 in
theorem ggL_law_X11_keep : GoodIn wsL_law wsX11_keep := goodIn_r _ [1127, 1128, 208, 485, 360, 486, 487, 172, 173, 174, 175, 176, 177, 178, 171, 185, 190, 191, 192, 182, 183, 184, 195, 226, 227, 5, 228, 1129, 1130, 1131, 1132, 194, 1155, 1156, 1157, 1158, 1159, 1160, 1161, 1162, 1163, 1164, 1165, 1166, 1167, 1168, 1169, 1170, 1171, 1172, 1173, 1174, 1175, 1176, 1177, 1178, 1179, 1180, 1181, 1182, 1183, 1184, 1185, 1186, 1187, 1188, 1189, 1190, 1191, 1192, 1193, 1194, 1195, 1196, 1197, 1198, 1199, 1200, 1201, 1202, 1203, 1204, 1205, 1206, 1207, 1208, 1209, 1210, 1211, 1212] (by decide +kernel) (by decide +kernel)
set_option maxRecDepth 20000 in
theorem gL_law_X11_keep : GoodIn wsL_law (wsV RL 151 RX11 yX11_keep wsX11_keep) := goodIn_app (goodIn_of _ (by decide +kernel)) ggL_law_X11_keep
set_option maxRecDepth 20000 in
theorem ggL_law_X10_goBack : GoodIn wsL_law wsX10_goBack := goodIn_r _ [1136, 235, 24, 1093, 1094, 1095, 2, 1096, 25, 26, 214, 155, 156, 1097, 1098, 1099, 23, 1100, 71, 75, 79, 83, 1101, 1102, 1103, 70, 1104, 88, 89, 1105, 1106, 1107, 1108, 90, 91, 92, 93, 94, 95, 1109, 1110, 1111, 74, 1112, 99, 100, 1113, 1114, 1115, 1116, 78, 1117, 104, 105, 1118, 106, 107, 1119, 1120, 1121, 82, 1122, 111, 112, 1123, 1228, 1229, 1230, 1231, 1232, 1145, 1146, 1147, 1148, 1149, 1150, 1151, 1152, 1153, 1154, 1252, 1253, 1254, 1255, 1256, 1257, 1258, 1259, 1260, 1261, 1262, 1263, 1264, 1265, 1266, 1267] (by decide +kernel) (by decide +kernel)
set_option maxRecDepth 20000 in
theorem gL_law_X10_goBack : GoodIn wsL_law (wsV RL 152 RX10 yX10_goBack wsX10_goBack) := goodIn_app (goodIn_of _ (by decide +kernel)) ggL_law_X10_goBack
set_option maxRecDepth 20000 in
theorem ggL_law_X11_goBack : GoodIn wsL_law wsX11_goBack := goodIn_r _ [1140, 1128, 195, 208, 485, 360, 486, 487, 172, 173, 174, 175, 176, 177, 178, 171, 185, 190, 191, 192, 182, 183, 184, 226, 227, 5, 228, 1141, 1142, 1143, 1144, 194, 1155, 1156, 1157, 1158, 1159, 1160, 1161, 1162, 1163, 1164, 1165, 1166, 1167, 1168, 1169, 1170, 1171, 1172, 1173, 1174, 1175, 1176, 1177, 1178, 1179, 1180, 1181, 1182, 1183, 1184, 1185, 1186, 1187, 1188, 1189, 1190, 1191, 1192, 1193, 1194, 1195, 1196, 1197, 1198, 1199, 1200, 1201, 1202, 1203, 1204, 1205, 1206, 1207, 1208, 1209, 1210, 1211, 1212] (by decide +kernel) (by decide +kernel)
set_option maxRecDepth 20000 in
theorem gL_law_X11_goBack : GoodIn wsL_law (wsV RL 155 RX11 yX11_goBack wsX11_goBack) := goodIn_app (goodIn_of _ (by decide +kernel)) ggL_law_X11_goBack
