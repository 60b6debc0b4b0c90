set_option maxRecDepth 20000 in
theorem ggL_law_X10_astray : GoodIn wsL_law wsX10_astray := goodIn_r _ [743, 24, 435, 470, 744, 745, 746, 70, 747, 95, 577, 514, 515, 516, 88, 1145, 1146, 1147, 1148, 1149, 1150, 1151, 1152, 1153, 1154, 1228, 1229, 1230, 1231, 1232, 1252, 1253, 1254, 1255, 1256, 1257, 1258, 1259] (by decide +kernel) (by decide +kernel)
set_option maxRecDepth 20000 in
theorem gL_law_X10_astray : GoodIn wsL_law (wsV RL 87 RX10 yX10_astray wsX10_astray) := goodIn_app (goodIn_of _ (by decide +kernel)) ggL_law_X10_astray
set_option maxRecDepth 20000 in
theorem ggL_law_X11_astray : GoodIn wsL_law wsX11_astray := goodIn_r _ [751, 485, 752, 753, 754, 5, 755, 177, 1155, 1156, 1157, 1158, 1159, 1160, 1161, 1162, 1163, 1164, 1165, 1166, 1167, 1168, 1169, 1170, 1171, 1172, 1173, 1174, 1175, 1176, 1177, 1178, 1179, 1180, 1181, 1182, 1183, 1184, 1185, 1186, 1187, 1188, 1189, 1190, 1191, 1192, 1193, 1194, 1195, 1196, 1197, 1198, 1199, 1200, 1201, 1202, 1203, 1204, 1205, 1206, 1207, 1208, 1209, 1210, 1211, 1212] (by decide +kernel) (by decide +kernel)
set_option maxRecDepth 20000 in
theorem gL_law_X11_astray : GoodIn wsL_law (wsV RL 90 RX11 yX11_astray wsX11_astray) := goodIn_app (goodIn_of _ (by decide +kernel)) ggL_law_X11_astray
set_option maxRecDepth 20000 in
theorem ggL_law_X10_chain : GoodIn wsL_law wsX10_chain := goodIn_r _ [759, 24, 435, 513, 514, 515, 70, 516, 88, 744, 745, 746, 747, 95, 577, 760, 761, 762, 763, 764, 765, 766, 767, 768, 769, 770, 771, 1145, 1146, 1147, 1148, 1149, 1150, 1151, 1152, 1153, 1154, 1228, 1229, 1230, 1231, 1232, 1252, 1253, 1254, 1255, 1256, 1257, 1258, 1259] (by decide +kernel) (by decide +kernel)
set_option maxRecDepth 20000 in
theorem gL_law_X10_chain : GoodIn wsL_law (wsV RL 91 RX10 yX10_chain wsX10_chain) := goodIn_app (goodIn_of _ (by decide +kernel)) ggL_law_X10_chain
set_option maxRecDepth 20000 in
theorem ggL_law_X11_chain : GoodIn wsL_law wsX11_chain := goodIn_r _ [775, 776, 186, 537, 538, 539, 5, 540, 485, 226, 227, 228, 752, 753, 754, 755, 177, 777, 778, 779, 780, 781, 1155, 1156, 1157, 1158, 1159, 1160, 1161, 1162, 1163, 1164, 1165, 1166, 1167, 1168, 1169, 1170, 1171, 1172, 1173, 1174, 1175, 1176, 1177, 1178, 1179, 1180, 1181, 1182, 1183, 1184, 1185, 1186, 1187, 1188, 1189, 1190, 1191, 1192, 1193, 1194, 1195, 1196, 1197, 1198, 1199, 1200, 1201, 1202, 1203, 1204, 1205, 1206, 1207, 1208, 1209, 1210, 1211, 1212] (by decide +kernel) (by decide +kernel)
set_option maxRecDepth 20000 in
theorem gL_law_X11_chain : GoodIn wsL_law (wsV RL 94 RX11 yX11_chain wsX11_chain) := goodIn_app (goodIn_of _ (by decide +kernel)) ggL_law_X11_chain
set_option maxRecDepth 20000 in
theorem ggL_law_X10_ring : GoodIn wsL_law wsX10_ring := goodIn_r _ [785, 24, 435, 513, 514, 515, 70, 516, 88, 744, 745, 746, 747, 95, 577, 786, 787, 788, 789, 790, 761, 762, 763, 764, 765, 766, 767, 791, 769, 770, 771, 1145, 1146, 1147, 1148, 1149, 1150, 1151, 1152, 1153, 1154, 1228, 1229, 1230, 1231, 1232, 1252, 1253, 1254, 1255, 1256, 1257, 1258, 1259] (by decide +kernel) (by decide +kernel)
set_option maxRecDepth 20000 in
theorem gL_law_X10_ring : GoodIn wsL_law (wsV RL 95 RX10 yX10_ring wsX10_ring) := goodIn_app (goodIn_of _ (by decide +kernel)) ggL_law_X10_ring
set_option maxRecDepth 20000 in
theorem ggL_law_X11_ring : GoodIn wsL_law wsX11_ring := goodIn_r _ [795, 781, 537, 538, 539, 5, 540, 485, 226, 227, 228, 752, 753, 754, 755, 177, 777, 778, 779, 780, 186, 776, 1155, 1156, 1157, 1158, 1159, 1160, 1161, 1162, 1163, 1164, 1165, 1166, 1167, 1168, 1169, 1170, 1171, 1172, 1173, 1174, 1175, 1176, 1177, 1178, 1179, 1180, 1181, 1182, 1183, 1184, 1185, 1186, 1187, 1188, 1189, 1190, 1191, 1192, 1193, 1194, 1195, 1196, 1197, 1198, 1199, 1200, 1201, 1202, 1203, 1204, 1205, 1206, 1207, 1208, 1209, 1210, 1211, 1212] (by decide +kernel) (by decide +kernel)
set_option maxRecDepth 20000 in
theorem gL_law_X11_ring : GoodIn wsL_law (wsV RL 98 RX11 yX11_ring wsX11_ring) := goodIn_app (goodIn_of _ (by decide +kernel)) ggL_law_X11_ring
set_option maxRecDepth 20000 in
theorem ggL_law_X10_exchanges : GoodIn wsL_law wsX10_exchanges := goodIn_r _ [799, 24, 435, 470, 744, 745, 746, 70, 747, 95, 577, 514, 515, 516, 88, 800, 801, 802, 803, 804, 805, 787, 788, 789, 790, 761, 762, 763, 764, 765, 766, 767, 791, 769, 770, 771, 1145, 1146, 1147, 1148, 1149, 1150, 1151, 1152, 1153, 1154, 1228, 1229, 1230, 1231, 1232, 1252, 1253, 1254, 1255, 1256, 1257, 1258, 1259] (by decide +kernel) (by decide +kernel)
set_option maxRecDepth 20000 in
theorem gL_law_X10_exchanges : GoodIn wsL_law (wsV RL 99 RX10 yX10_exchanges wsX10_exchanges) := goodIn_app (goodIn_of _ (by decide +kernel)) ggL_law_X10_exchanges
set_option maxRecDepth 20000 in
theorem ggL_law_X11_exchanges : GoodIn wsL_law wsX11_exchanges := goodIn_r _ [809, 485, 781, 776, 186, 752, 753, 754, 5, 755, 177, 777, 778, 779, 780, 1155, 1156, 1157, 1158, 1159, 1160, 1161, 1162, 1163, 1164, 1165, 1166, 1167, 1168, 1169, 1170, 1171, 1172, 1173, 1174, 1175, 1176, 1177, 1178, 1179, 1180, 1181, 1182, 1183, 1184, 1185, 1186, 1187, 1188, 1189, 1190, 1191, 1192, 1193, 1194, 1195, 1196, 1197, 1198, 1199, 1200, 1201, 1202, 1203, 1204, 1205, 1206, 1207, 1208, 1209, 1210, 1211, 1212] (by decide +kernel) (by decide +kernel)
set_option maxRecDepth 20000 in
theorem gL_law_X11_exchanges : GoodIn wsL_law (wsV RL 102 RX11 yX11_exchanges wsX11_exchanges) := goodIn_app (goodIn_of _ (by decide +kernel)) ggL_law_X11_exchanges
set_option maxRecDepth 20000 in
theorem ggL_law_X10_wrong : GoodIn wsL_law wsX10_wrong := goodIn_r _ [813, 24, 435, 233, 513, 514, 515, 70, 516, 88, 214, 155, 2, 156, 814, 815, 816, 74, 817, 818, 659, 660, 661, 99, 662, 663, 664, 665, 100, 666, 667, 668, 669, 819, 820, 821, 822, 734, 1145, 1146, 1147, 1148, 1149, 1150, 1151, 1152, 1153, 1154, 1228, 1229, 1230, 1231, 1232, 1252, 1253, 1254, 1255, 1256, 1257, 1258, 1259, 1260, 1261] (by decide +kernel) (by decide +kernel)
set_option maxRecDepth 20000 in
theorem gL_law_X10_wrong : GoodIn wsL_law (wsV RL 103 RX10 yX10_wrong wsX10_wrong) := goodIn_app (goodIn_of _ (by decide +kernel)) ggL_law_X10_wrong
set_option maxRecDepth 20000 in
theorem ggL_law_X11_wrong : GoodIn wsL_law wsX11_wrong := goodIn_r _ [826, 360, 185, 178, 537, 538, 539, 5, 540, 485, 226, 227, 228, 1155, 1156, 1157, 1158, 1159, 1160, 1161, 1162, 1163, 1164, 1165, 1166, 1167, 1168, 1169, 1170, 1171, 1172, 1173, 1174, 1175, 1176, 1177, 1178, 1179, 1180, 1181, 1182, 1183, 1184, 1185, 1186, 1187, 1188, 1189, 1190, 1191, 1192, 1193, 1194, 1195, 1196, 1197, 1198, 1199, 1200, 1201, 1202, 1203, 1204, 1205, 1206, 1207, 1208, 1209, 1210, 1211, 1212] (by decide +kernel) (by decide +kernel)
set_option maxRecDepth 20000 in
theorem gL_law_X11_wrong : GoodIn wsL_law (wsV RL 106 RX11 yX11_wrong wsX11_wrong) := goodIn_app (goodIn_of _ (by decide +kernel)) ggL_law_X11_wrong
set_option maxRecDepth 20000 in
theorem ggL_law_X10_rush : GoodIn wsL_law wsX10_rush := goodIn_r _ [830, 34, 24, 435, 16, 831, 832, 833, 2, 834, 470, 835, 836, 837, 70, 838, 94, 577, 514, 515, 516, 88, 214, 155, 156, 839, 840, 841, 33, 842, 132, 843, 133, 844, 124, 845, 846, 125, 847, 126, 848, 592, 593, 15, 594, 46, 588, 437, 438, 439, 49, 849, 850, 851, 852, 853, 854, 855, 856, 127, 128, 129, 857, 858, 859, 860, 130, 861, 862, 863, 864, 865, 866, 867, 868, 869, 870, 871, 872, 1145, 1146, 1147, 1148, 1149, 1150, 1151, 1152, 1153, 1154, 1228, 1229, 1230, 1231, 1232, 1252, 1253, 1254, 1255, 1256, 1257, 1258, 1259, 1237, 1238, 1239, 1240, 1241, 1242, 1243, 1244, 1245, 1246, 1247, 1248, 1213, 1214, 1215, 1216, 1217, 1218, 1219] (by decide +kernel) (by decide +kernel)
set_option maxRecDepth 20000 in
theorem gL_law_X10_rush : GoodIn wsL_law (wsV RL 107 RX10 yX10_rush wsX10_rush) := goodIn_app (goodIn_of _ (by decide +kernel)) ggL_law_X10_rush
set_option maxRecDepth 20000 in
theorem ggL_law_X11_rush : GoodIn wsL_law wsX11_rush := goodIn_r _ [876, 877, 465, 878, 879, 880, 881, 882, 883, 5, 884, 485, 885, 886, 887, 888, 226, 227, 228, 541, 542, 543, 544, 207, 171, 889, 890, 891, 892, 893, 187, 894, 895, 896, 897, 188, 162, 164, 174, 1155, 1156, 1157, 1158, 1159, 1160, 1161, 1162, 1163, 1164, 1165, 1166, 1167, 1168, 1169, 1170, 1171, 1172, 1173, 1174, 1175, 1176, 1177, 1178, 1179, 1180, 1181, 1182, 1183, 1184, 1185, 1186, 1187, 1188, 1189, 1190, 1191, 1192, 1193, 1194, 1195, 1196, 1197, 1198, 1199, 1200, 1201, 1202, 1203, 1204, 1205, 1206, 1207, 1208, 1209, 1210, 1211, 1212] (by decide +kernel) (by decide +kernel)
set_option maxRecDepth 20000 in
theorem gL_law_X11_rush : GoodIn wsL_law (wsV RL 110 RX11 yX11_rush wsX11_rush) := goodIn_app (goodIn_of _ (by decide +kernel)) ggL_law_X11_rush
set_option maxRecDepth 20000 in
theorem ggL_law_X10_bestRow : GoodIn wsL_law wsX10_bestRow := goodIn_r _ [901, 34, 24, 435, 16, 902, 831, 832, 833, 2, 834, 470, 835, 836, 837, 70, 838, 94, 577, 514, 515, 516, 88, 214, 155, 156, 903, 904, 905, 906, 907, 908, 909, 839, 840, 841, 33, 842, 132, 843, 133, 844, 124, 845, 846, 125, 847, 126, 848, 592, 593, 15, 594, 46, 588, 437, 438, 439, 49, 910, 911, 912, 913, 134, 135, 914, 850, 851, 852, 853, 854, 855, 856, 127, 128, 129, 857, 858, 859, 860, 130, 915, 916, 917, 918, 131, 919, 870, 871, 872, 920, 862, 863, 864, 921, 922, 923, 924, 925, 926, 927, 928, 929, 930, 931, 932, 1145, 1146, 1147, 1148, 1149, 1150, 1151, 1152, 1153, 1154, 1228, 1229, 1230, 1231, 1232, 1237, 1238, 1239, 1240, 1241, 1242, 1243, 1244, 1245, 1246, 1247, 1248, 1252, 1253, 1254, 1255, 1256, 1257, 1258, 1259, 1213, 1214, 1215, 1216, 1217, 1218, 1219] (by decide +kernel) (by decide +kernel)
set_option maxRecDepth 20000 in
theorem gL_law_X10_bestRow : GoodIn wsL_law (wsV RL 111 RX10 yX10_bestRow wsX10_bestRow) := goodIn_app (goodIn_of _ (by decide +kernel)) ggL_law_X10_bestRow
set_option maxRecDepth 20000 in
theorem ggL_law_X11_bestRow : GoodIn wsL_law wsX11_bestRow := goodIn_r _ [936, 877, 880, 878, 893, 189, 187, 881, 882, 883, 5, 884, 485, 885, 886, 887, 888, 226, 227, 228, 541, 542, 543, 544, 207, 171, 937, 938, 939, 889, 890, 891, 892, 894, 895, 896, 897, 879, 188, 162, 164, 174, 940, 941, 942, 943, 1155, 1156, 1157, 1158, 1159, 1160, 1161, 1162, 1163, 1164, 1165, 1166, 1167, 1168, 1169, 1170, 1171, 1172, 1173, 1174, 1175, 1176, 1177, 1178, 1179, 1180, 1181, 1182, 1183, 1184, 1185, 1186, 1187, 1188, 1189, 1190, 1191, 1192, 1193, 1194, 1195, 1196, 1197, 1198, 1199, 1200, 1201, 1202, 1203, 1204, 1205, 1206, 1207, 1208, 1209, 1210, 1211, 1212] (by decide +kernel) (by decide +kernel)
set_option maxRecDepth 20000 in
theorem gL_law_X11_bestRow : GoodIn wsL_law (wsV RL 114 RX11 yX11_bestRow wsX11_bestRow) := goodIn_app (goodIn_of _ (by decide +kernel)) ggL_law_X11_bestRow
set_option maxRecDepth 20000 in
theorem ggL_law_X10_wanted : GoodIn wsL_law wsX10_wanted := goodIn_r _ [947, 34, 24, 435, 16, 831, 832, 833, 2, 834, 470, 835, 836, 837, 70, 838, 94, 577, 514, 515, 516, 88, 214, 155, 156, 839, 840, 841, 33, 842, 132, 843, 133, 844, 124, 845, 846, 125, 847, 126, 848, 592, 593, 15, 594, 46, 588, 437, 438, 439, 49, 849, 850, 851, 852, 853, 854, 855, 856, 127, 128, 129, 857, 858, 859, 860, 130, 865, 866, 867, 868, 1145, 1146, 1147, 1148, 1149, 1150, 1151, 1152, 1153, 1154, 1228, 1229, 1230, 1231, 1232, 1252, 1253, 1254, 1255, 1256, 1257, 1258, 1259, 1237, 1238, 1239, 1240, 1241, 1242, 1243, 1244, 1245, 1246, 1247, 1248, 1213, 1214, 1215, 1216, 1217, 1218, 1219] (by decide +kernel) (by decide +kernel)
set_option maxRecDepth 20000 in
theorem gL_law_X10_wanted : GoodIn wsL_law (wsV RL 115 RX10 yX10_wanted wsX10_wanted) := goodIn_app (goodIn_of _ (by decide +kernel)) ggL_law_X10_wanted
set_option maxRecDepth 20000 in
theorem ggL_law_X11_wanted : GoodIn wsL_law wsX11_wanted := goodIn_r _ [951, 952, 879, 881, 882, 883, 5, 884, 485, 885, 886, 887, 888, 226, 227, 228, 541, 542, 543, 544, 207, 171, 889, 890, 891, 892, 893, 187, 894, 895, 896, 897, 878, 880, 188, 162, 164, 174, 1155, 1156, 1157, 1158, 1159, 1160, 1161, 1162, 1163, 1164, 1165, 1166, 1167, 1168, 1169, 1170, 1171, 1172, 1173, 1174, 1175, 1176, 1177, 1178, 1179, 1180, 1181, 1182, 1183, 1184, 1185, 1186, 1187, 1188, 1189, 1190, 1191, 1192, 1193, 1194, 1195, 1196, 1197, 1198, 1199, 1200, 1201, 1202, 1203, 1204, 1205, 1206, 1207, 1208, 1209, 1210, 1211, 1212] (by decide +kernel) (by decide +kernel)
set_option maxRecDepth 20000 in
theorem gL_law_X11_wanted : GoodIn wsL_law (wsV RL 118 RX11 yX11_wanted wsX11_wanted) := goodIn_app (goodIn_of _ (by decide +kernel)) ggL_law_X11_wanted
set_option maxRecDepth 20000 in
theorem ggL_law_X10_claim : GoodIn wsL_law wsX10_claim := goodIn_r _ [956, 24, 435, 510, 512, 471, 472, 513, 514, 515, 70, 516, 88, 214, 155, 2, 156, 670, 671, 672, 78, 673, 104, 105, 957, 958, 959, 960, 106, 107, 1145, 1146, 1147, 1148, 1149, 1150, 1151, 1152, 1153, 1154, 1228, 1229, 1230, 1231, 1232, 1252, 1253, 1254, 1255, 1256, 1257, 1258, 1259, 1262, 1263, 1264, 1265] (by decide +kernel) (by decide +kernel)
set_option maxRecDepth 20000 in
theorem gL_law_X10_claim : GoodIn wsL_law (wsV RL 119 RX10 yX10_claim wsX10_claim) := goodIn_app (goodIn_of _ (by decide +kernel)) ggL_law_X10_claim
