set_option maxRecDepth 20000 in
theorem ggL_law_X10_init : GoodIn wsL_law wsX10_init := goodIn_r _ [9, 10, 11, 12, 13, 14, 15, 16, 17, 18, 19, 20, 21, 22, 23, 24, 25, 26, 27, 28, 29, 30, 31, 32, 33, 34, 35, 36, 37, 38, 39, 40, 41, 42, 43, 44, 45, 46, 47, 48, 49, 50, 51, 52, 53, 54, 55, 56, 57, 58, 59, 60, 61, 62, 63, 64, 65, 66, 67, 68, 69, 70, 71, 72, 73, 74, 75, 76, 77, 78, 79, 80, 81, 82, 83, 84, 85, 86, 87, 88, 89, 90, 91, 92, 93, 94, 95, 96, 97, 98, 99, 100, 101, 102, 103, 104, 105, 106, 107, 108, 109, 110, 111, 112, 113, 114, 115, 116, 117, 118, 119, 120, 121, 122, 123, 124, 125, 126, 127, 128, 129, 130, 131, 132, 133, 134, 135, 136, 137, 138, 139, 140, 141, 142, 143, 144, 145, 146, 147, 148, 149, 150, 151, 152, 153, 154, 155, 2, 156, 1213, 1214, 1215, 1216, 1217, 1218, 1219, 1145, 1146, 1147, 1148, 1149, 1150, 1151, 1152, 1153, 1154, 1220, 1221, 1222, 1223, 1224, 1225, 1226, 1227, 1228, 1229, 1230, 1231, 1232, 1233, 1234, 1235, 1236, 1237, 1238, 1239, 1240, 1241, 1242, 1243, 1244, 1245, 1246, 1247, 1248, 1249, 1250, 1251, 1252, 1253, 1254, 1255, 1256, 1257, 1258, 1259, 1260, 1261, 1262, 1263, 1264, 1265, 1266, 1267] (by decide +kernel) (by decide +kernel)
set_option maxRecDepth 20000 in
theorem gL_law_X10_init : GoodIn wsL_law (wsX10_init) := ggL_law_X10_init
set_option maxRecDepth 20000 in
theorem ggL_law_X11_init : GoodIn wsL_law wsX11_init := goodIn_r _ [159, 160, 11, 12, 44, 161, 162, 163, 164, 165, 166, 167, 168, 169, 170, 171, 172, 173, 174, 175, 176, 177, 178, 179, 180, 118, 181, 182, 183, 184, 185, 186, 187, 188, 189, 190, 191, 192, 140, 193, 194, 195, 196, 197, 198, 5, 199, 200, 201, 202, 203, 204, 205, 206, 207, 208, 1155, 1156, 1157, 1158, 1159, 1160, 1161, 1162, 1163, 1164, 1165, 1166, 1167, 1168, 1169, 1170, 1171, 1172, 1173, 1174, 1175, 1176, 1177, 1178, 1179, 1180, 1181, 1182, 1183, 1184, 1185, 1186, 1187, 1188, 1189, 1190, 1191, 1192, 1193, 1194, 1195, 1196, 1197, 1198, 1199, 1200, 1201, 1202, 1203, 1204, 1205, 1206, 1207, 1208, 1209, 1210, 1211, 1212] (by decide +kernel) (by decide +kernel)
set_option maxRecDepth 20000 in
theorem gL_law_X11_init : GoodIn wsL_law (wsX11_init) := ggL_law_X11_init
set_option maxRecDepth 20000 in
theorem ggL_law_X10_feed : GoodIn wsL_law wsX10_feed := goodIn_r _ [212, 20, 213, 214, 155, 2, 156, 215, 216, 217, 19, 218, 57, 56, 1145, 1146, 1147, 1148, 1149, 1150, 1151, 1152, 1153, 1154, 1220, 1221, 1222, 1223, 1224, 1225, 1226, 1227] (by decide +kernel) (by decide +kernel)
set_option maxRecDepth 20000 in
theorem gL_law_X10_feed : GoodIn wsL_law (wsV RL 15 RX10 yX10_feed wsX10_feed) := goodIn_app (goodIn_of _ (by decide +kernel)) ggL_law_X10_feed
set_option maxRecDepth 20000 in
theorem ggL_law_X11_feed : GoodIn wsL_law wsX11_feed := goodIn_r _ [222, 223, 224, 165, 225, 226, 227, 5, 228, 1155, 1156, 1157, 1158, 1159, 1160, 1161, 1162, 1163, 1164, 1165, 1166, 1167, 1168, 1169, 1170, 1171, 1172, 1173, 1174, 1175, 1176, 1177, 1178, 1179, 1180, 1181, 1182, 1183, 1184, 1185, 1186, 1187, 1188, 1189, 1190, 1191, 1192, 1193, 1194, 1195, 1196, 1197, 1198, 1199, 1200, 1201, 1202, 1203, 1204, 1205, 1206, 1207, 1208, 1209, 1210, 1211, 1212] (by decide +kernel) (by decide +kernel)
set_option maxRecDepth 20000 in
theorem gL_law_X11_feed : GoodIn wsL_law (wsV RL 19 RX11 yX11_feed wsX11_feed) := goodIn_app (goodIn_of _ (by decide +kernel)) ggL_law_X11_feed
set_option maxRecDepth 20000 in
theorem ggL_law_X10_hall : GoodIn wsL_law wsX10_hall := goodIn_r _ [232, 24, 233, 234, 20, 16, 25, 235, 26, 236, 237, 238, 239, 19, 240, 64, 59, 58, 60, 62, 57, 241, 144, 145, 15, 146, 49, 50, 51, 147, 148, 149, 150, 48, 151, 152, 153, 154, 47, 155, 2, 156, 242, 243, 244, 245, 246, 247, 248, 249, 56, 250, 251, 252, 253, 254, 255, 256, 257, 258, 259, 260, 261, 262, 263, 264, 265, 266, 267, 268, 269, 270, 271, 272, 273, 274, 275, 276, 277, 278, 279, 280, 281, 282, 283, 284, 285, 286, 287, 288, 289, 290, 291, 292, 293, 294, 295, 296, 297, 298, 299, 300, 301, 302, 303, 304, 305, 306, 307, 308, 309, 310, 311, 312, 313, 61, 314, 315, 316, 317, 318, 319, 320, 321, 322, 323, 324, 325, 326, 327, 328, 329, 330, 331, 332, 333, 334, 335, 336, 337, 45, 46, 338, 339, 340, 341, 342, 343, 344, 345, 346, 347, 348, 349, 350, 351, 352, 353, 354, 355, 1145, 1146, 1147, 1148, 1149, 1150, 1151, 1152, 1153, 1154, 1228, 1229, 1230, 1231, 1232, 1260, 1261, 1213, 1214, 1215, 1216, 1217, 1218, 1219, 1220, 1221, 1222, 1223, 1224, 1225, 1226, 1227] (by decide +kernel) (by decide +kernel)
set_option maxRecDepth 20000 in
theorem gL_law_X10_hall : GoodIn wsL_law (wsV RL 20 RX10 yX10_hall wsX10_hall) := goodIn_app (goodIn_of _ (by decide +kernel)) ggL_law_X10_hall
set_option maxRecDepth 20000 in
theorem ggL_law_X11_hall : GoodIn wsL_law wsX11_hall := goodIn_r _ [359, 360, 166, 361, 224, 207, 196, 197, 198, 5, 199, 200, 201, 202, 169, 170, 362, 363, 364, 365, 165, 366, 367, 368, 369, 370, 371, 372, 373, 374, 375, 376, 377, 378, 379, 380, 381, 226, 227, 228, 382, 383, 384, 385, 386, 387, 388, 389, 390, 391, 392, 393, 394, 395, 396, 397, 398, 399, 400, 401, 167, 168, 402, 403, 404, 405, 406, 407, 408, 409, 410, 411, 412, 413, 414, 415, 416, 417, 418, 419, 203, 204, 205, 206, 161, 162, 163, 164, 208, 1155, 1156, 1157, 1158, 1159, 1160, 1161, 1162, 1163, 1164, 1165, 1166, 1167, 1168, 1169, 1170, 1171, 1172, 1173, 1174, 1175, 1176, 1177, 1178, 1179, 1180, 1181, 1182, 1183, 1184, 1185, 1186, 1187, 1188, 1189, 1190, 1191, 1192, 1193, 1194, 1195, 1196, 1197, 1198, 1199, 1200, 1201, 1202, 1203, 1204, 1205, 1206, 1207, 1208, 1209, 1210, 1211, 1212] (by decide +kernel) (by decide +kernel)
set_option maxRecDepth 20000 in
theorem gL_law_X11_hall : GoodIn wsL_law (wsV RL 24 RX11 yX11_hall wsX11_hall) := goodIn_app (goodIn_of _ (by decide +kernel)) ggL_law_X11_hall
set_option maxRecDepth 20000 in
theorem ggL_law_X10_fault : GoodIn wsL_law wsX10_fault := goodIn_r _ [423, 20, 424, 1145, 1146, 1147, 1148, 1149, 1150, 1151, 1152, 1153, 1154, 1220, 1221, 1222, 1223, 1224, 1225, 1226, 1227] (by decide +kernel) (by decide +kernel)
set_option maxRecDepth 20000 in
theorem gL_law_X10_fault : GoodIn wsL_law (wsV RL 25 RX10 yX10_fault wsX10_fault) := goodIn_app (goodIn_of _ (by decide +kernel)) ggL_law_X10_fault
set_option maxRecDepth 20000 in
theorem ggL_law_X11_fault : GoodIn wsL_law wsX11_fault := goodIn_r _ [428, 166, 1155, 1156, 1157, 1158, 1159, 1160, 1161, 1162, 1163, 1164, 1165, 1166, 1167, 1168, 1169, 1170, 1171, 1172, 1173, 1174, 1175, 1176, 1177, 1178, 1179, 1180, 1181, 1182, 1183, 1184, 1185, 1186, 1187, 1188, 1189, 1190, 1191, 1192, 1193, 1194, 1195, 1196, 1197, 1198, 1199, 1200, 1201, 1202, 1203, 1204, 1205, 1206, 1207, 1208, 1209, 1210, 1211, 1212] (by decide +kernel) (by decide +kernel)
set_option maxRecDepth 20000 in
theorem gL_law_X11_fault : GoodIn wsL_law (wsV RL 28 RX11 yX11_fault wsX11_fault) := goodIn_app (goodIn_of _ (by decide +kernel)) ggL_law_X11_fault
set_option maxRecDepth 20000 in
theorem ggL_law_X10_peg : GoodIn wsL_law wsX10_peg := goodIn_r _ [432, 16, 433, 434, 24, 435, 436, 437, 438, 15, 439, 49, 440, 441, 442, 70, 443, 88, 94, 1145, 1146, 1147, 1148, 1149, 1150, 1151, 1152, 1153, 1154, 1213, 1214, 1215, 1216, 1217, 1218, 1219, 1228, 1229, 1230, 1231, 1232, 1252, 1253, 1254, 1255, 1256, 1257, 1258, 1259] (by decide +kernel) (by decide +kernel)
set_option maxRecDepth 20000 in
theorem gL_law_X10_peg : GoodIn wsL_law (wsV RL 29 RX10 yX10_peg wsX10_peg) := goodIn_app (goodIn_of _ (by decide +kernel)) ggL_law_X10_peg
set_option maxRecDepth 20000 in
theorem ggL_law_X11_peg : GoodIn wsL_law wsX11_peg := goodIn_r _ [447, 161, 162, 171, 448, 449, 450, 5, 451, 207, 226, 227, 228, 1155, 1156, 1157, 1158, 1159, 1160, 1161, 1162, 1163, 1164, 1165, 1166, 1167, 1168, 1169, 1170, 1171, 1172, 1173, 1174, 1175, 1176, 1177, 1178, 1179, 1180, 1181, 1182, 1183, 1184, 1185, 1186, 1187, 1188, 1189, 1190, 1191, 1192, 1193, 1194, 1195, 1196, 1197, 1198, 1199, 1200, 1201, 1202, 1203, 1204, 1205, 1206, 1207, 1208, 1209, 1210, 1211, 1212] (by decide +kernel) (by decide +kernel)
set_option maxRecDepth 20000 in
theorem gL_law_X11_peg : GoodIn wsL_law (wsV RL 33 RX11 yX11_peg wsX11_peg) := goodIn_app (goodIn_of _ (by decide +kernel)) ggL_law_X11_peg
set_option maxRecDepth 20000 in
theorem ggL_law_X10_odds : GoodIn wsL_law wsX10_odds := goodIn_r _ [455, 16, 214, 155, 2, 156, 456, 457, 458, 15, 459, 47, 1145, 1146, 1147, 1148, 1149, 1150, 1151, 1152, 1153, 1154, 1213, 1214, 1215, 1216, 1217, 1218, 1219] (by decide +kernel) (by decide +kernel)
set_option maxRecDepth 20000 in
theorem gL_law_X10_odds : GoodIn wsL_law (wsV RL 34 RX10 yX10_odds wsX10_odds) := goodIn_app (goodIn_of _ (by decide +kernel)) ggL_law_X10_odds
set_option maxRecDepth 20000 in
theorem ggL_law_X11_odds : GoodIn wsL_law wsX11_odds := goodIn_r _ [463, 464, 465, 163, 226, 227, 5, 228, 1155, 1156, 1157, 1158, 1159, 1160, 1161, 1162, 1163, 1164, 1165, 1166, 1167, 1168, 1169, 1170, 1171, 1172, 1173, 1174, 1175, 1176, 1177, 1178, 1179, 1180, 1181, 1182, 1183, 1184, 1185, 1186, 1187, 1188, 1189, 1190, 1191, 1192, 1193, 1194, 1195, 1196, 1197, 1198, 1199, 1200, 1201, 1202, 1203, 1204, 1205, 1206, 1207, 1208, 1209, 1210, 1211, 1212] (by decide +kernel) (by decide +kernel)
set_option maxRecDepth 20000 in
theorem gL_law_X11_odds : GoodIn wsL_law (wsV RL 37 RX11 yX11_odds wsX11_odds) := goodIn_app (goodIn_of _ (by decide +kernel)) ggL_law_X11_odds
set_option maxRecDepth 20000 in
theorem ggL_law_X10_count : GoodIn wsL_law wsX10_count := goodIn_r _ [469, 16, 236, 24, 435, 470, 233, 234, 471, 472, 473, 474, 20, 213, 475, 476, 477, 478, 479, 15, 480, 48, 155, 2, 156, 1145, 1146, 1147, 1148, 1149, 1150, 1151, 1152, 1153, 1154, 1213, 1214, 1215, 1216, 1217, 1218, 1219, 1228, 1229, 1230, 1231, 1232, 1252, 1253, 1254, 1255, 1256, 1257, 1258, 1259, 1260, 1261, 1262, 1263, 1264, 1265, 1266, 1267, 1220, 1221, 1222, 1223, 1224, 1225, 1226, 1227] (by decide +kernel) (by decide +kernel)
set_option maxRecDepth 20000 in
theorem gL_law_X10_count : GoodIn wsL_law (wsV RL 38 RX10 yX10_count wsX10_count) := goodIn_app (goodIn_of _ (by decide +kernel)) ggL_law_X10_count
set_option maxRecDepth 20000 in
theorem ggL_law_X11_count : GoodIn wsL_law wsX11_count := goodIn_r _ [484, 207, 485, 360, 486, 487, 224, 164, 223, 488, 226, 227, 5, 228, 1155, 1156, 1157, 1158, 1159, 1160, 1161, 1162, 1163, 1164, 1165, 1166, 1167, 1168, 1169, 1170, 1171, 1172, 1173, 1174, 1175, 1176, 1177, 1178, 1179, 1180, 1181, 1182, 1183, 1184, 1185, 1186, 1187, 1188, 1189, 1190, 1191, 1192, 1193, 1194, 1195, 1196, 1197, 1198, 1199, 1200, 1201, 1202, 1203, 1204, 1205, 1206, 1207, 1208, 1209, 1210, 1211, 1212] (by decide +kernel) (by decide +kernel)
set_option maxRecDepth 20000 in
theorem gL_law_X11_count : GoodIn wsL_law (wsV RL 42 RX11 yX11_count wsX11_count) := goodIn_app (goodIn_of _ (by decide +kernel)) ggL_law_X11_count
set_option maxRecDepth 20000 in
theorem ggL_law_X10_guest : GoodIn wsL_law wsX10_guest := goodIn_r _ [492, 24, 435, 470, 214, 155, 2, 156, 493, 494, 495, 70, 496, 88, 89, 90, 91, 92, 93, 94, 95, 1145, 1146, 1147, 1148, 1149, 1150, 1151, 1152, 1153, 1154, 1228, 1229, 1230, 1231, 1232, 1252, 1253, 1254, 1255, 1256, 1257, 1258, 1259] (by decide +kernel) (by decide +kernel)
set_option maxRecDepth 20000 in
theorem gL_law_X10_guest : GoodIn wsL_law (wsV RL 43 RX10 yX10_guest wsX10_guest) := goodIn_app (goodIn_of _ (by decide +kernel)) ggL_law_X10_guest
set_option maxRecDepth 20000 in
theorem ggL_law_X11_guest : GoodIn wsL_law wsX11_guest := goodIn_r _ [500, 464, 465, 501, 225, 485, 172, 173, 174, 175, 176, 177, 178, 226, 227, 5, 228, 1155, 1156, 1157, 1158, 1159, 1160, 1161, 1162, 1163, 1164, 1165, 1166, 1167, 1168, 1169, 1170, 1171, 1172, 1173, 1174, 1175, 1176, 1177, 1178, 1179, 1180, 1181, 1182, 1183, 1184, 1185, 1186, 1187, 1188, 1189, 1190, 1191, 1192, 1193, 1194, 1195, 1196, 1197, 1198, 1199, 1200, 1201, 1202, 1203, 1204, 1205, 1206, 1207, 1208, 1209, 1210, 1211, 1212] (by decide +kernel) (by decide +kernel)
set_option maxRecDepth 20000 in
theorem gL_law_X11_guest : GoodIn wsL_law (wsV RL 47 RX11 yX11_guest wsX11_guest) := goodIn_app (goodIn_of _ (by decide +kernel)) ggL_law_X11_guest
set_option maxRecDepth 20000 in
theorem ggL_law_X10_told : GoodIn wsL_law wsX10_told := goodIn_r _ [505, 24, 435, 506, 507, 508, 509, 510, 511, 512, 513, 514, 515, 70, 516, 88, 517, 518, 519, 520, 95, 521, 522, 523, 2, 524, 16, 525, 526, 527, 528, 39, 473, 40, 456, 457, 458, 15, 459, 47, 155, 156, 529, 530, 531, 82, 532, 112, 477, 478, 479, 480, 48, 1145, 1146, 1147, 1148, 1149, 1150, 1151, 1152, 1153, 1154, 1228, 1229, 1230, 1231, 1232, 1252, 1253, 1254, 1255, 1256, 1257, 1258, 1259, 1213, 1214, 1215, 1216, 1217, 1218, 1219, 1266, 1267] (by decide +kernel) (by decide +kernel)
set_option maxRecDepth 20000 in
theorem gL_law_X10_told : GoodIn wsL_law (wsV RL 48 RX10 yX10_told wsX10_told) := goodIn_app (goodIn_of _ (by decide +kernel)) ggL_law_X10_told
