set_option maxRecDepth 20000 in
theorem ggL_law_X11_told : GoodIn wsL_law wsX11_told := goodIn_r _ [536, 172, 173, 174, 175, 176, 177, 537, 538, 539, 5, 540, 485, 226, 227, 228, 541, 542, 543, 544, 207, 171, 545, 546, 547, 548, 549, 550, 551, 552, 179, 163, 553, 164, 554, 555, 556, 557, 487, 182, 183, 184, 1155, 1156, 1157, 1158, 1159, 1160, 1161, 1162, 1163, 1164, 1165, 1166, 1167, 1168, 1169, 1170, 1171, 1172, 1173, 1174, 1175, 1176, 1177, 1178, 1179, 1180, 1181, 1182, 1183, 1184, 1185, 1186, 1187, 1188, 1189, 1190, 1191, 1192, 1193, 1194, 1195, 1196, 1197, 1198, 1199, 1200, 1201, 1202, 1203, 1204, 1205, 1206, 1207, 1208, 1209, 1210, 1211, 1212] (by decide +kernel) (by decide +kernel)
set_option maxRecDepth 20000 in
theorem gL_law_X11_told : GoodIn wsL_law (wsV RL 51 RX11 yX11_told wsX11_told) := goodIn_app (goodIn_of _ (by decide +kernel)) ggL_law_X11_told
set_option maxRecDepth 20000 in
theorem ggL_law_X10_plan : GoodIn wsL_law wsX10_plan := goodIn_r _ [561, 24, 435, 470, 30, 562, 16, 563, 513, 514, 515, 70, 516, 88, 521, 522, 523, 2, 524, 506, 525, 526, 527, 528, 39, 473, 40, 456, 457, 458, 15, 459, 47, 155, 156, 529, 530, 531, 82, 532, 112, 477, 478, 479, 480, 48, 564, 565, 566, 29, 567, 120, 119, 117, 568, 116, 569, 570, 571, 572, 573, 574, 575, 576, 90, 577, 578, 579, 580, 581, 582, 583, 584, 585, 586, 587, 45, 588, 437, 438, 439, 49, 589, 590, 591, 592, 593, 594, 46, 595, 596, 597, 598, 1145, 1146, 1147, 1148, 1149, 1150, 1151, 1152, 1153, 1154, 1228, 1229, 1230, 1231, 1232, 1252, 1253, 1254, 1255, 1256, 1257, 1258, 1259, 1233, 1234, 1235, 1236, 1213, 1214, 1215, 1216, 1217, 1218, 1219, 1266, 1267] (by decide +kernel) (by decide +kernel)
set_option maxRecDepth 20000 in
theorem gL_law_X10_plan : GoodIn wsL_law (wsV RL 52 RX10 yX10_plan wsX10_plan) := goodIn_app (goodIn_of _ (by decide +kernel)) ggL_law_X10_plan
set_option maxRecDepth 20000 in
theorem ggL_law_X11_plan : GoodIn wsL_law wsX11_plan := goodIn_r _ [602, 485, 162, 180, 537, 538, 539, 5, 540, 226, 227, 228, 603, 604, 605, 606, 181, 173, 607, 608, 609, 610, 549, 550, 551, 552, 179, 163, 172, 553, 164, 554, 555, 556, 557, 487, 182, 183, 184, 611, 612, 613, 614, 207, 161, 1155, 1156, 1157, 1158, 1159, 1160, 1161, 1162, 1163, 1164, 1165, 1166, 1167, 1168, 1169, 1170, 1171, 1172, 1173, 1174, 1175, 1176, 1177, 1178, 1179, 1180, 1181, 1182, 1183, 1184, 1185, 1186, 1187, 1188, 1189, 1190, 1191, 1192, 1193, 1194, 1195, 1196, 1197, 1198, 1199, 1200, 1201, 1202, 1203, 1204, 1205, 1206, 1207, 1208, 1209, 1210, 1211, 1212] (by decide +kernel) (by decide +kernel)
set_option maxRecDepth 20000 in
theorem gL_law_X11_plan : GoodIn wsL_law (wsV RL 56 RX11 yX11_plan wsX11_plan) := goodIn_app (goodIn_of _ (by decide +kernel)) ggL_law_X11_plan
set_option maxRecDepth 20000 in
theorem ggL_law_X10_night : GoodIn wsL_law wsX10_night := goodIn_r _ [618, 24, 473, 474, 214, 155, 2, 156, 619, 620, 621, 82, 622, 112, 111, 1145, 1146, 1147, 1148, 1149, 1150, 1151, 1152, 1153, 1154, 1228, 1229, 1230, 1231, 1232, 1266, 1267] (by decide +kernel) (by decide +kernel)
set_option maxRecDepth 20000 in
theorem gL_law_X10_night : GoodIn wsL_law (wsV RL 57 RX10 yX10_night wsX10_night) := goodIn_app (goodIn_of _ (by decide +kernel)) ggL_law_X10_night
set_option maxRecDepth 20000 in
theorem ggL_law_X11_night : GoodIn wsL_law wsX11_night := goodIn_r _ [626, 627, 487, 182, 183, 184, 628, 629, 5, 630, 464, 226, 227, 228, 1155, 1156, 1157, 1158, 1159, 1160, 1161, 1162, 1163, 1164, 1165, 1166, 1167, 1168, 1169, 1170, 1171, 1172, 1173, 1174, 1175, 1176, 1177, 1178, 1179, 1180, 1181, 1182, 1183, 1184, 1185, 1186, 1187, 1188, 1189, 1190, 1191, 1192, 1193, 1194, 1195, 1196, 1197, 1198, 1199, 1200, 1201, 1202, 1203, 1204, 1205, 1206, 1207, 1208, 1209, 1210, 1211, 1212] (by decide +kernel) (by decide +kernel)
set_option maxRecDepth 20000 in
theorem gL_law_X11_night : GoodIn wsL_law (wsV RL 61 RX11 yX11_night wsX11_night) := goodIn_app (goodIn_of _ (by decide +kernel)) ggL_law_X11_night
set_option maxRecDepth 20000 in
theorem ggL_law_X10_learnt : GoodIn wsL_law wsX10_learnt := goodIn_r _ [634, 24, 473, 214, 155, 2, 156, 529, 530, 531, 82, 532, 112, 1145, 1146, 1147, 1148, 1149, 1150, 1151, 1152, 1153, 1154, 1228, 1229, 1230, 1231, 1232, 1266, 1267] (by decide +kernel) (by decide +kernel)
set_option maxRecDepth 20000 in
theorem gL_law_X10_learnt : GoodIn wsL_law (wsV RL 62 RX10 yX10_learnt wsX10_learnt) := goodIn_app (goodIn_of _ (by decide +kernel)) ggL_law_X10_learnt
set_option maxRecDepth 20000 in
theorem ggL_law_X11_learnt : GoodIn wsL_law wsX11_learnt := goodIn_r _ [638, 465, 628, 629, 5, 630, 464, 226, 227, 228, 554, 555, 556, 557, 487, 182, 183, 184, 1155, 1156, 1157, 1158, 1159, 1160, 1161, 1162, 1163, 1164, 1165, 1166, 1167, 1168, 1169, 1170, 1171, 1172, 1173, 1174, 1175, 1176, 1177, 1178, 1179, 1180, 1181, 1182, 1183, 1184, 1185, 1186, 1187, 1188, 1189, 1190, 1191, 1192, 1193, 1194, 1195, 1196, 1197, 1198, 1199, 1200, 1201, 1202, 1203, 1204, 1205, 1206, 1207, 1208, 1209, 1210, 1211, 1212] (by decide +kernel) (by decide +kernel)
set_option maxRecDepth 20000 in
theorem gL_law_X11_learnt : GoodIn wsL_law (wsV RL 66 RX11 yX11_learnt wsX11_learnt) := goodIn_app (goodIn_of _ (by decide +kernel)) ggL_law_X11_learnt
set_option maxRecDepth 20000 in
theorem ggL_law_X10_tonight : GoodIn wsL_law wsX10_tonight := goodIn_r _ [642, 39, 40, 214, 155, 2, 156, 1145, 1146, 1147, 1148, 1149, 1150, 1151, 1152, 1153, 1154] (by decide +kernel) (by decide +kernel)
set_option maxRecDepth 20000 in
theorem gL_law_X10_tonight : GoodIn wsL_law (wsV RL 67 RX10 yX10_tonight wsX10_tonight) := goodIn_app (goodIn_of _ (by decide +kernel)) ggL_law_X10_tonight
set_option maxRecDepth 20000 in
theorem ggL_law_X11_tonight : GoodIn wsL_law wsX11_tonight := goodIn_r _ [646, 179, 553, 628, 629, 5, 630, 464, 226, 227, 228, 1155, 1156, 1157, 1158, 1159, 1160, 1161, 1162, 1163, 1164, 1165, 1166, 1167, 1168, 1169, 1170, 1171, 1172, 1173, 1174, 1175, 1176, 1177, 1178, 1179, 1180, 1181, 1182, 1183, 1184, 1185, 1186, 1187, 1188, 1189, 1190, 1191, 1192, 1193, 1194, 1195, 1196, 1197, 1198, 1199, 1200, 1201, 1202, 1203, 1204, 1205, 1206, 1207, 1208, 1209, 1210, 1211, 1212] (by decide +kernel) (by decide +kernel)
set_option maxRecDepth 20000 in
theorem gL_law_X11_tonight : GoodIn wsL_law (wsV RL 70 RX11 yX11_tonight wsX11_tonight) := goodIn_app (goodIn_of _ (by decide +kernel)) ggL_law_X11_tonight
set_option maxRecDepth 20000 in
theorem ggL_law_X10_hang : GoodIn wsL_law wsX10_hang := goodIn_r _ [650, 24, 435, 16, 233, 511, 510, 651, 652, 2, 653, 214, 155, 156, 513, 514, 515, 70, 516, 88, 436, 437, 438, 15, 439, 49, 654, 655, 656, 657, 471, 658, 659, 660, 74, 661, 99, 662, 663, 664, 665, 100, 666, 667, 668, 669, 670, 671, 672, 78, 673, 104, 105, 674, 574, 575, 576, 90, 577, 675, 585, 586, 587, 45, 588, 440, 441, 442, 443, 94, 676, 677, 678, 679, 93, 680, 681, 682, 683, 684, 685, 686, 687, 688, 1145, 1146, 1147, 1148, 1149, 1150, 1151, 1152, 1153, 1154, 1228, 1229, 1230, 1231, 1232, 1252, 1253, 1254, 1255, 1256, 1257, 1258, 1259, 1213, 1214, 1215, 1216, 1217, 1218, 1219, 1260, 1261, 1262, 1263, 1264, 1265] (by decide +kernel) (by decide +kernel)
set_option maxRecDepth 20000 in
theorem gL_law_X10_hang : GoodIn wsL_law (wsV RL 71 RX10 yX10_hang wsX10_hang) := goodIn_app (goodIn_of _ (by decide +kernel)) ggL_law_X10_hang
set_option maxRecDepth 20000 in
theorem ggL_law_X11_hang : GoodIn wsL_law wsX11_hang := goodIn_r _ [692, 693, 178, 161, 173, 171, 360, 176, 694, 695, 5, 696, 464, 226, 227, 228, 537, 538, 539, 540, 485, 448, 449, 450, 451, 207, 697, 698, 699, 700, 486, 190, 701, 702, 703, 704, 705, 706, 707, 708, 185, 1155, 1156, 1157, 1158, 1159, 1160, 1161, 1162, 1163, 1164, 1165, 1166, 1167, 1168, 1169, 1170, 1171, 1172, 1173, 1174, 1175, 1176, 1177, 1178, 1179, 1180, 1181, 1182, 1183, 1184, 1185, 1186, 1187, 1188, 1189, 1190, 1191, 1192, 1193, 1194, 1195, 1196, 1197, 1198, 1199, 1200, 1201, 1202, 1203, 1204, 1205, 1206, 1207, 1208, 1209, 1210, 1211, 1212] (by decide +kernel) (by decide +kernel)
set_option maxRecDepth 20000 in
theorem gL_law_X11_hang : GoodIn wsL_law (wsV RL 74 RX11 yX11_hang wsX11_hang) := goodIn_app (goodIn_of _ (by decide +kernel)) ggL_law_X11_hang
set_option maxRecDepth 20000 in
theorem ggL_law_X10_give : GoodIn wsL_law wsX10_give := goodIn_r _ [712, 24, 435, 16, 510, 512, 233, 651, 652, 2, 653, 214, 155, 156, 513, 514, 515, 70, 516, 88, 436, 437, 438, 15, 439, 49, 440, 441, 442, 443, 94, 680, 681, 682, 74, 683, 99, 713, 714, 715, 716, 95, 577, 684, 685, 686, 687, 100, 688, 1145, 1146, 1147, 1148, 1149, 1150, 1151, 1152, 1153, 1154, 1228, 1229, 1230, 1231, 1232, 1252, 1253, 1254, 1255, 1256, 1257, 1258, 1259, 1213, 1214, 1215, 1216, 1217, 1218, 1219, 1260, 1261] (by decide +kernel) (by decide +kernel)
set_option maxRecDepth 20000 in
theorem gL_law_X10_give : GoodIn wsL_law (wsV RL 75 RX10 yX10_give wsX10_give) := goodIn_app (goodIn_of _ (by decide +kernel)) ggL_law_X10_give
set_option maxRecDepth 20000 in
theorem ggL_law_X11_give : GoodIn wsL_law wsX11_give := goodIn_r _ [720, 176, 177, 171, 360, 694, 695, 5, 696, 464, 226, 227, 228, 537, 538, 539, 540, 485, 448, 449, 450, 451, 207, 705, 706, 707, 708, 185, 1155, 1156, 1157, 1158, 1159, 1160, 1161, 1162, 1163, 1164, 1165, 1166, 1167, 1168, 1169, 1170, 1171, 1172, 1173, 1174, 1175, 1176, 1177, 1178, 1179, 1180, 1181, 1182, 1183, 1184, 1185, 1186, 1187, 1188, 1189, 1190, 1191, 1192, 1193, 1194, 1195, 1196, 1197, 1198, 1199, 1200, 1201, 1202, 1203, 1204, 1205, 1206, 1207, 1208, 1209, 1210, 1211, 1212] (by decide +kernel) (by decide +kernel)
set_option maxRecDepth 20000 in
theorem gL_law_X11_give : GoodIn wsL_law (wsV RL 78 RX11 yX11_give wsX11_give) := goodIn_app (goodIn_of _ (by decide +kernel)) ggL_law_X11_give
set_option maxRecDepth 20000 in
theorem ggL_law_X10_lose : GoodIn wsL_law wsX10_lose := goodIn_r _ [724, 24, 435, 510, 233, 513, 514, 515, 70, 516, 88, 680, 681, 682, 74, 683, 99, 684, 685, 686, 687, 100, 688, 1145, 1146, 1147, 1148, 1149, 1150, 1151, 1152, 1153, 1154, 1228, 1229, 1230, 1231, 1232, 1252, 1253, 1254, 1255, 1256, 1257, 1258, 1259, 1260, 1261] (by decide +kernel) (by decide +kernel)
set_option maxRecDepth 20000 in
theorem gL_law_X10_lose : GoodIn wsL_law (wsV RL 79 RX10 yX10_lose wsX10_lose) := goodIn_app (goodIn_of _ (by decide +kernel)) ggL_law_X10_lose
set_option maxRecDepth 20000 in
theorem ggL_law_X11_lose : GoodIn wsL_law wsX11_lose := goodIn_r _ [728, 176, 360, 537, 538, 539, 5, 540, 485, 226, 227, 228, 705, 706, 707, 708, 185, 1155, 1156, 1157, 1158, 1159, 1160, 1161, 1162, 1163, 1164, 1165, 1166, 1167, 1168, 1169, 1170, 1171, 1172, 1173, 1174, 1175, 1176, 1177, 1178, 1179, 1180, 1181, 1182, 1183, 1184, 1185, 1186, 1187, 1188, 1189, 1190, 1191, 1192, 1193, 1194, 1195, 1196, 1197, 1198, 1199, 1200, 1201, 1202, 1203, 1204, 1205, 1206, 1207, 1208, 1209, 1210, 1211, 1212] (by decide +kernel) (by decide +kernel)
set_option maxRecDepth 20000 in
theorem gL_law_X11_lose : GoodIn wsL_law (wsV RL 82 RX11 yX11_lose wsX11_lose) := goodIn_app (goodIn_of _ (by decide +kernel)) ggL_law_X11_lose
set_option maxRecDepth 20000 in
theorem ggL_law_X10_event : GoodIn wsL_law wsX10_event := goodIn_r _ [732, 24, 233, 733, 667, 668, 74, 669, 99, 214, 155, 2, 156, 734, 663, 664, 665, 100, 666, 1145, 1146, 1147, 1148, 1149, 1150, 1151, 1152, 1153, 1154, 1228, 1229, 1230, 1231, 1232, 1260, 1261] (by decide +kernel) (by decide +kernel)
set_option maxRecDepth 20000 in
theorem gL_law_X10_event : GoodIn wsL_law (wsV RL 83 RX10 yX10_event wsX10_event) := goodIn_app (goodIn_of _ (by decide +kernel)) ggL_law_X10_event
set_option maxRecDepth 20000 in
theorem ggL_law_X11_event : GoodIn wsL_law wsX11_event := goodIn_r _ [738, 360, 739, 185, 226, 227, 5, 228, 1155, 1156, 1157, 1158, 1159, 1160, 1161, 1162, 1163, 1164, 1165, 1166, 1167, 1168, 1169, 1170, 1171, 1172, 1173, 1174, 1175, 1176, 1177, 1178, 1179, 1180, 1181, 1182, 1183, 1184, 1185, 1186, 1187, 1188, 1189, 1190, 1191, 1192, 1193, 1194, 1195, 1196, 1197, 1198, 1199, 1200, 1201, 1202, 1203, 1204, 1205, 1206, 1207, 1208, 1209, 1210, 1211, 1212] (by decide +kernel) (by decide +kernel)
set_option maxRecDepth 20000 in
theorem gL_law_X11_event : GoodIn wsL_law (wsV RL 86 RX11 yX11_event wsX11_event) := goodIn_app (goodIn_of _ (by decide +kernel)) ggL_law_X11_event
