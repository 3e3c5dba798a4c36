set_option maxRecDepth 20000 in
theorem ggL_law_X10_sign : GoodIn wsL_law wsX10_sign := goodIn_r _ [916, 40, 456, 866, 867, 2, 868, 211, 212, 213, 917, 918, 919, 39, 920, 921, 130, 131, 132, 1160, 1161, 1162, 1163, 1164, 1165, 1166, 1167, 1168, 1169, 1170, 1171, 1252, 1253, 1254, 1255, 1256, 1257, 1258] (by decide +kernel) (by decide +kernel)
set_option maxRecDepth 20000 in
theorem gL_law_X10_sign : GoodIn wsL_law (wsV RL 105 RX10 yX10_sign wsX10_sign) := goodIn_app (goodIn_of _ (by decide +kernel)) ggL_law_X10_sign
set_option maxRecDepth 20000 in
theorem ggL_law_X11_sign : GoodIn wsL_law wsX11_sign := goodIn_r _ [925, 854, 203, 183, 184, 185, 901, 902, 5, 903, 904, 225, 226, 227, 541, 542, 543, 1172, 1173, 1174, 1175, 1176, 1177, 1178, 1179, 1180, 1181, 1182, 1183, 1184, 1185, 1186, 1187, 1188, 1189, 1190, 1191, 1192, 1193, 1194, 1195, 1196, 1197, 1198, 1199, 1200] (by decide +kernel) (by decide +kernel)
set_option maxRecDepth 20000 in
theorem gL_law_X11_sign : GoodIn wsL_law (wsV RL 109 RX11 yX11_sign wsX11_sign) := goodIn_app (goodIn_of _ (by decide +kernel)) ggL_law_X11_sign
set_option maxRecDepth 20000 in
theorem ggL_law_X10_forget : GoodIn wsL_law wsX10_forget := goodIn_r _ [929, 40, 456, 1160, 1161, 1162, 1163, 1164, 1165, 1166, 1167, 1168, 1169, 1170, 1171, 1252, 1253, 1254, 1255, 1256, 1257, 1258] (by decide +kernel) (by decide +kernel)
set_option maxRecDepth 20000 in
theorem gL_law_X10_forget : GoodIn wsL_law (wsV RL 110 RX10 yX10_forget wsX10_forget) := goodIn_app (goodIn_of _ (by decide +kernel)) ggL_law_X10_forget
set_option maxRecDepth 20000 in
theorem ggL_law_X11_forget : GoodIn wsL_law wsX11_forget := goodIn_r _ [933, 203, 1172, 1173, 1174, 1175, 1176, 1177, 1178, 1179, 1180, 1181, 1182, 1183, 1184, 1185, 1186, 1187, 1188, 1189, 1190, 1191, 1192, 1193, 1194, 1195, 1196, 1197, 1198, 1199, 1200] (by decide +kernel) (by decide +kernel)
set_option maxRecDepth 20000 in
theorem gL_law_X11_forget : GoodIn wsL_law (wsV RL 113 RX11 yX11_forget wsX11_forget) := goodIn_app (goodIn_of _ (by decide +kernel)) ggL_law_X11_forget
set_option maxRecDepth 20000 in
theorem ggL_law_X10_likely : GoodIn wsL_law wsX10_likely := goodIn_r _ [937, 863, 864, 40, 15, 938, 866, 867, 2, 868, 211, 212, 213, 939, 940, 941, 39, 942, 134, 135, 873, 874, 168, 875, 943, 944, 945, 946, 921, 130, 131, 132, 876, 877, 878, 879, 136, 880, 881, 882, 254, 255, 256, 947, 948, 949, 950, 951, 888, 889, 890, 883, 884, 885, 886, 887, 891, 892, 893, 1160, 1161, 1162, 1163, 1164, 1165, 1166, 1167, 1168, 1169, 1170, 1171, 1252, 1253, 1254, 1255, 1256, 1257, 1258, 1201, 1202, 1203, 1204, 1205, 1206, 1207, 1208, 1209, 1210, 1211, 1212, 1213, 1214, 1215] (by decide +kernel) (by decide +kernel)
set_option maxRecDepth 20000 in
theorem gL_law_X10_likely : GoodIn wsL_law (wsV RL 114 RX10 yX10_likely wsX10_likely) := goodIn_app (goodIn_of _ (by decide +kernel)) ggL_law_X10_likely
set_option maxRecDepth 20000 in
theorem ggL_law_X11_likely : GoodIn wsL_law wsX11_likely := goodIn_r _ [955, 898, 854, 899, 956, 900, 182, 901, 902, 5, 903, 904, 225, 226, 227, 541, 542, 543, 957, 958, 959, 960, 180, 961, 962, 963, 964, 203, 184, 183, 185, 905, 906, 907, 908, 181, 174, 909, 910, 911, 912, 1172, 1173, 1174, 1175, 1176, 1177, 1178, 1179, 1180, 1181, 1182, 1183, 1184, 1185, 1186, 1187, 1188, 1189, 1190, 1191, 1192, 1193, 1194, 1195, 1196, 1197, 1198, 1199, 1200] (by decide +kernel) (by decide +kernel)
set_option maxRecDepth 20000 in
theorem gL_law_X11_likely : GoodIn wsL_law (wsV RL 117 RX11 yX11_likely wsX11_likely) := goodIn_app (goodIn_of _ (by decide +kernel)) ggL_law_X11_likely
set_option maxRecDepth 20000 in
theorem ggL_law_X10_wording : GoodIn wsL_law wsX10_wording := goodIn_r _ [968, 48, 457, 211, 212, 2, 213, 969, 970, 971, 47, 972, 973, 147, 974, 975, 976, 977, 978, 979, 980, 981, 982, 983, 984, 1160, 1161, 1162, 1163, 1164, 1165, 1166, 1167, 1168, 1169, 1170, 1171, 1264, 1265] (by decide +kernel) (by decide +kernel)
set_option maxRecDepth 20000 in
theorem gL_law_X10_wording : GoodIn wsL_law (wsV RL 118 RX10 yX10_wording wsX10_wording) := goodIn_app (goodIn_of _ (by decide +kernel)) ggL_law_X10_wording
set_option maxRecDepth 20000 in
theorem ggL_law_X11_wording : GoodIn wsL_law wsX11_wording := goodIn_r _ [988, 989, 204, 186, 225, 226, 5, 227, 1172, 1173, 1174, 1175, 1176, 1177, 1178, 1179, 1180, 1181, 1182, 1183, 1184, 1185, 1186, 1187, 1188, 1189, 1190, 1191, 1192, 1193, 1194, 1195, 1196, 1197, 1198, 1199, 1200] (by decide +kernel) (by decide +kernel)
set_option maxRecDepth 20000 in
theorem gL_law_X11_wording : GoodIn wsL_law (wsV RL 121 RX11 yX11_wording wsX11_wording) := goodIn_app (goodIn_of _ (by decide +kernel)) ggL_law_X11_wording
set_option maxRecDepth 20000 in
theorem ggL_law_X10_bears : GoodIn wsL_law wsX10_bears := goodIn_r _ [993, 48, 457, 994, 995, 996, 47, 997, 973, 147, 998, 601, 531, 602, 974, 975, 976, 977, 978, 979, 980, 1160, 1161, 1162, 1163, 1164, 1165, 1166, 1167, 1168, 1169, 1170, 1171, 1264, 1265] (by decide +kernel) (by decide +kernel)
set_option maxRecDepth 20000 in
theorem gL_law_X10_bears : GoodIn wsL_law (wsV RL 122 RX10 yX10_bears wsX10_bears) := goodIn_app (goodIn_of _ (by decide +kernel)) ggL_law_X10_bears
set_option maxRecDepth 20000 in
theorem ggL_law_X11_bears : GoodIn wsL_law wsX11_bears := goodIn_r _ [1002, 204, 186, 1003, 1004, 5, 1005, 1172, 1173, 1174, 1175, 1176, 1177, 1178, 1179, 1180, 1181, 1182, 1183, 1184, 1185, 1186, 1187, 1188, 1189, 1190, 1191, 1192, 1193, 1194, 1195, 1196, 1197, 1198, 1199, 1200] (by decide +kernel) (by decide +kernel)
set_option maxRecDepth 20000 in
theorem gL_law_X11_bears : GoodIn wsL_law (wsV RL 125 RX11 yX11_bears wsX11_bears) := goodIn_app (goodIn_of _ (by decide +kernel)) ggL_law_X11_bears
set_option maxRecDepth 20000 in
theorem ggL_law_X10_meant : GoodIn wsL_law wsX10_meant := goodIn_r _ [1009, 48, 211, 212, 2, 213, 969, 970, 971, 47, 972, 973, 147, 974, 975, 976, 977, 978, 979, 980, 1160, 1161, 1162, 1163, 1164, 1165, 1166, 1167, 1168, 1169, 1170, 1171, 1264, 1265] (by decide +kernel) (by decide +kernel)
set_option maxRecDepth 20000 in
theorem gL_law_X10_meant : GoodIn wsL_law (wsV RL 126 RX10 yX10_meant wsX10_meant) := goodIn_app (goodIn_of _ (by decide +kernel)) ggL_law_X10_meant
set_option maxRecDepth 20000 in
theorem ggL_law_X11_meant : GoodIn wsL_law wsX11_meant := goodIn_r _ [1013, 989, 1014, 204, 186, 225, 226, 5, 227, 1003, 1004, 1005, 1172, 1173, 1174, 1175, 1176, 1177, 1178, 1179, 1180, 1181, 1182, 1183, 1184, 1185, 1186, 1187, 1188, 1189, 1190, 1191, 1192, 1193, 1194, 1195, 1196, 1197, 1198, 1199, 1200] (by decide +kernel) (by decide +kernel)
set_option maxRecDepth 20000 in
theorem gL_law_X11_meant : GoodIn wsL_law (wsV RL 129 RX11 yX11_meant wsX11_meant) := goodIn_app (goodIn_of _ (by decide +kernel)) ggL_law_X11_meant
set_option maxRecDepth 20000 in
theorem ggL_law_X10_pairs : GoodIn wsL_law wsX10_pairs := goodIn_r _ [1018, 44, 15, 23, 1019, 1020, 1021, 211, 212, 2, 213, 1022, 1023, 1024, 43, 1025, 1026, 141, 142, 1027, 1028, 626, 627, 14, 628, 61, 481, 482, 1029, 630, 631, 22, 632, 100, 1030, 1031, 1032, 1033, 1034, 530, 531, 532, 1035, 1036, 1037, 1038, 1039, 1040, 1160, 1161, 1162, 1163, 1164, 1165, 1166, 1167, 1168, 1169, 1170, 1171, 1259, 1260, 1261, 1262, 1263, 1201, 1202, 1203, 1204, 1205, 1206, 1207, 1208, 1209, 1210, 1211, 1212, 1213, 1214, 1215, 1224, 1225, 1226, 1227, 1228, 1229, 1230, 1231, 1232, 1233] (by decide +kernel) (by decide +kernel)
set_option maxRecDepth 20000 in
theorem gL_law_X10_pairs : GoodIn wsL_law (wsV RL 130 RX10 yX10_pairs wsX10_pairs) := goodIn_app (goodIn_of _ (by decide +kernel)) ggL_law_X10_pairs
set_option maxRecDepth 20000 in
theorem ggL_law_X11_pairs : GoodIn wsL_law wsX11_pairs := goodIn_r _ [1044, 589, 174, 1045, 187, 188, 225, 226, 5, 227, 1046, 1047, 1048, 1049, 637, 638, 639, 640, 175, 641, 642, 643, 644, 573, 574, 575, 1050, 1051, 1052, 1053, 1172, 1173, 1174, 1175, 1176, 1177, 1178, 1179, 1180, 1181, 1182, 1183, 1184, 1185, 1186, 1187, 1188, 1189, 1190, 1191, 1192, 1193, 1194, 1195, 1196, 1197, 1198, 1199, 1200] (by decide +kernel) (by decide +kernel)
set_option maxRecDepth 20000 in
theorem gL_law_X11_pairs : GoodIn wsL_law (wsV RL 133 RX11 yX11_pairs wsX11_pairs) := goodIn_app (goodIn_of _ (by decide +kernel)) ggL_law_X11_pairs
set_option maxRecDepth 20000 in
theorem ggL_law_X10_ballot : GoodIn wsL_law wsX10_ballot := goodIn_r _ [1057, 52, 15, 479, 458, 1058, 1059, 1060, 51, 1061, 153, 1062, 1063, 1064, 1065, 1066, 152, 1067, 254, 255, 256, 1160, 1161, 1162, 1163, 1164, 1165, 1166, 1167, 1168, 1169, 1170, 1171, 1201, 1202, 1203, 1204, 1205, 1206, 1207, 1208, 1209, 1210, 1211, 1212, 1213, 1214, 1215, 1266, 1267, 1268, 1269] (by decide +kernel) (by decide +kernel)
set_option maxRecDepth 20000 in
theorem gL_law_X10_ballot : GoodIn wsL_law (wsV RL 134 RX10 yX10_ballot wsX10_ballot) := goodIn_app (goodIn_of _ (by decide +kernel)) ggL_law_X10_ballot
set_option maxRecDepth 20000 in
theorem ggL_law_X11_ballot : GoodIn wsL_law wsX11_ballot := goodIn_r _ [1071, 174, 205, 189, 1172, 1173, 1174, 1175, 1176, 1177, 1178, 1179, 1180, 1181, 1182, 1183, 1184, 1185, 1186, 1187, 1188, 1189, 1190, 1191, 1192, 1193, 1194, 1195, 1196, 1197, 1198, 1199, 1200] (by decide +kernel) (by decide +kernel)
set_option maxRecDepth 20000 in
theorem gL_law_X11_ballot : GoodIn wsL_law (wsV RL 137 RX11 yX11_ballot wsX11_ballot) := goodIn_app (goodIn_of _ (by decide +kernel)) ggL_law_X11_ballot
set_option maxRecDepth 20000 in
theorem ggL_law_X10_mayor : GoodIn wsL_law wsX10_mayor := goodIn_r _ [1075, 52, 458, 15, 479, 211, 212, 2, 213, 1076, 1077, 1078, 51, 1079, 1080, 1081, 1082, 1083, 154, 1066, 1084, 167, 168, 169, 1085, 1086, 1087, 1088, 152, 1089, 1090, 1091, 1092, 1093, 1094, 1095, 1096, 1097, 1098, 1099, 1100, 1160, 1161, 1162, 1163, 1164, 1165, 1166, 1167, 1168, 1169, 1170, 1171, 1266, 1267, 1268, 1269, 1201, 1202, 1203, 1204, 1205, 1206, 1207, 1208, 1209, 1210, 1211, 1212, 1213, 1214, 1215] (by decide +kernel) (by decide +kernel)
set_option maxRecDepth 20000 in
theorem gL_law_X10_mayor : GoodIn wsL_law (wsV RL 138 RX10 yX10_mayor wsX10_mayor) := goodIn_app (goodIn_of _ (by decide +kernel)) ggL_law_X10_mayor
set_option maxRecDepth 20000 in
theorem ggL_law_X11_mayor : GoodIn wsL_law wsX11_mayor := goodIn_r _ [1104, 205, 541, 542, 5, 543, 225, 226, 227, 1105, 1106, 1107, 1108, 174, 189, 1109, 1110, 1111, 1112, 1113, 1114, 1115, 1116, 1117, 1118, 1119, 1120, 1172, 1173, 1174, 1175, 1176, 1177, 1178, 1179, 1180, 1181, 1182, 1183, 1184, 1185, 1186, 1187, 1188, 1189, 1190, 1191, 1192, 1193, 1194, 1195, 1196, 1197, 1198, 1199, 1200] (by decide +kernel) (by decide +kernel)
set_option maxRecDepth 20000 in
theorem gL_law_X11_mayor : GoodIn wsL_law (wsV RL 141 RX11 yX11_mayor wsX11_mayor) := goodIn_app (goodIn_of _ (by decide +kernel)) ggL_law_X11_mayor
set_option maxRecDepth 20000 in
theorem ggL_law_X10_points : GoodIn wsL_law wsX10_points := goodIn_r _ [1124, 52, 15, 479, 475, 476, 477, 2, 478, 1125, 1098, 1099, 51, 1100, 1066, 1085, 1086, 1087, 1088, 152, 1160, 1161, 1162, 1163, 1164, 1165, 1166, 1167, 1168, 1169, 1170, 1171, 1201, 1202, 1203, 1204, 1205, 1206, 1207, 1208, 1209, 1210, 1211, 1212, 1213, 1214, 1215, 1266, 1267, 1268, 1269] (by decide +kernel) (by decide +kernel)
set_option maxRecDepth 20000 in
theorem gL_law_X10_points : GoodIn wsL_law (wsV RL 142 RX10 yX10_points wsX10_points) := goodIn_app (goodIn_of _ (by decide +kernel)) ggL_law_X10_points
set_option maxRecDepth 20000 in
theorem ggL_law_X11_points : GoodIn wsL_law wsX11_points := goodIn_r _ [1129, 487, 488, 489, 5, 490, 174, 225, 226, 227, 1113, 1114, 1115, 1116, 205, 1117, 1118, 1119, 1120, 189, 1172, 1173, 1174, 1175, 1176, 1177, 1178, 1179, 1180, 1181, 1182, 1183, 1184, 1185, 1186, 1187, 1188, 1189, 1190, 1191, 1192, 1193, 1194, 1195, 1196, 1197, 1198, 1199, 1200] (by decide +kernel) (by decide +kernel)
set_option maxRecDepth 20000 in
theorem gL_law_X11_points : GoodIn wsL_law (wsV RL 145 RX11 yX11_points wsX11_points) := goodIn_app (goodIn_of _ (by decide +kernel)) ggL_law_X11_points
set_option maxRecDepth 20000 in
theorem ggL_law_X10_swing : GoodIn wsL_law wsX10_swing := goodIn_r _ [1133, 52, 458, 15, 479, 1134, 1135, 1136, 51, 1137, 1066, 1138, 1077, 1078, 1079, 1080, 1081, 1082, 1083, 154, 1084, 167, 168, 169, 1085, 1086, 1087, 1088, 152, 1089, 1090, 1091, 1092, 1139, 1140, 1141, 1142, 1160, 1161, 1162, 1163, 1164, 1165, 1166, 1167, 1168, 1169, 1170, 1171, 1266, 1267, 1268, 1269, 1201, 1202, 1203, 1204, 1205, 1206, 1207, 1208, 1209, 1210, 1211, 1212, 1213, 1214, 1215] (by decide +kernel) (by decide +kernel)
set_option maxRecDepth 20000 in
theorem gL_law_X10_swing : GoodIn wsL_law (wsV RL 146 RX10 yX10_swing wsX10_swing) := goodIn_app (goodIn_of _ (by decide +kernel)) ggL_law_X10_swing
set_option maxRecDepth 20000 in
theorem ggL_law_X11_swing : GoodIn wsL_law wsX11_swing := goodIn_r _ [1146, 205, 174, 1105, 1106, 1107, 5, 1108, 189, 1117, 1118, 1119, 1120, 1172, 1173, 1174, 1175, 1176, 1177, 1178, 1179, 1180, 1181, 1182, 1183, 1184, 1185, 1186, 1187, 1188, 1189, 1190, 1191, 1192, 1193, 1194, 1195, 1196, 1197, 1198, 1199, 1200] (by decide +kernel) (by decide +kernel)
set_option maxRecDepth 20000 in
theorem gL_law_X11_swing : GoodIn wsL_law (wsV RL 149 RX11 yX11_swing wsX11_swing) := goodIn_app (goodIn_of _ (by decide +kernel)) ggL_law_X11_swing
set_option maxRecDepth 20000 in
theorem ggL_law_X10_count : GoodIn wsL_law wsX10_count := goodIn_r _ [1150, 15, 479, 504, 524, 54, 23, 518, 865, 653, 624, 48, 457, 52, 458, 40, 456, 27, 455, 19, 210, 1151, 685, 686, 22, 687, 101, 1160, 1161, 1162, 1163, 1164, 1165, 1166, 1167, 1168, 1169, 1170, 1171, 1201, 1202, 1203, 1204, 1205, 1206, 1207, 1208, 1209, 1210, 1211, 1212, 1213, 1214, 1215, 1224, 1225, 1226, 1227, 1228, 1229, 1230, 1231, 1232, 1233, 1264, 1265, 1266, 1267, 1268, 1269, 1252, 1253, 1254, 1255, 1256, 1257, 1258, 1234, 1235, 1236, 1216, 1217, 1218, 1219, 1220, 1221, 1222, 1223] (by decide +kernel) (by decide +kernel)
set_option maxRecDepth 20000 in
theorem gL_law_X10_count : GoodIn wsL_law (wsV RL 150 RX10 yX10_count wsX10_count) := goodIn_app (goodIn_of _ (by decide +kernel)) ggL_law_X10_count
set_option maxRecDepth 20000 in
theorem ggL_law_X11_count : GoodIn wsL_law wsX11_count := goodIn_r _ [1155, 174, 175, 204, 205, 203, 202, 224, 1156, 1157, 1158, 5, 1159, 645, 646, 647, 648, 1172, 1173, 1174, 1175, 1176, 1177, 1178, 1179, 1180, 1181, 1182, 1183, 1184, 1185, 1186, 1187, 1188, 1189, 1190, 1191, 1192, 1193, 1194, 1195, 1196, 1197, 1198, 1199, 1200] (by decide +kernel) (by decide +kernel)
set_option maxRecDepth 20000 in
theorem gL_law_X11_count : GoodIn wsL_law (wsV RL 153 RX11 yX11_count wsX11_count) := goodIn_app (goodIn_of _ (by decide +kernel)) ggL_law_X11_count
