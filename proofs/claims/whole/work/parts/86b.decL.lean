set_option maxRecDepth 20000 in
theorem ggL_law_X11_marry : GoodIn wsL_law wsX11_marry := goodIn_r _ [636, 175, 487, 488, 489, 5, 490, 174, 225, 226, 227, 637, 638, 639, 640, 641, 642, 643, 644, 573, 574, 575, 612, 613, 614, 615, 202, 616, 617, 618, 619, 645, 646, 647, 648, 1172, 1173, 1174, 1175, 1176, 1177, 1178, 1179, 1180, 1181, 1182, 1183, 1184, 1185, 1186, 1187, 1188, 1189, 1190, 1191, 1192, 1193, 1194, 1195, 1196, 1197, 1198, 1199, 1200] (by decide +kernel) (by decide +kernel)
set_option maxRecDepth 20000 in
theorem gL_law_X11_marry : GoodIn wsL_law (wsV RL 59 RX11 yX11_marry wsX11_marry) := goodIn_app (goodIn_of _ (by decide +kernel)) ggL_law_X11_marry
set_option maxRecDepth 20000 in
theorem ggL_law_X10_sell : GoodIn wsL_law wsX10_sell := goodIn_r _ [652, 23, 519, 27, 15, 518, 653, 520, 521, 522, 2, 523, 524, 480, 481, 482, 594, 595, 596, 26, 597, 107, 598, 599, 600, 601, 531, 602, 603, 604, 605, 22, 606, 159, 160, 161, 162, 163, 164, 165, 99, 607, 254, 255, 256, 100, 101, 525, 526, 527, 14, 528, 67, 77, 66, 529, 530, 532, 1160, 1161, 1162, 1163, 1164, 1165, 1166, 1167, 1168, 1169, 1170, 1171, 1224, 1225, 1226, 1227, 1228, 1229, 1230, 1231, 1232, 1233, 1201, 1202, 1203, 1204, 1205, 1206, 1207, 1208, 1209, 1210, 1211, 1212, 1213, 1214, 1215, 1234, 1235, 1236] (by decide +kernel) (by decide +kernel)
set_option maxRecDepth 20000 in
theorem gL_law_X10_sell : GoodIn wsL_law (wsV RL 60 RX10 yX10_sell wsX10_sell) := goodIn_app (goodIn_of _ (by decide +kernel)) ggL_law_X10_sell
set_option maxRecDepth 20000 in
theorem ggL_law_X11_sell : GoodIn wsL_law wsX11_sell := goodIn_r _ [657, 175, 537, 538, 539, 5, 540, 174, 225, 226, 227, 573, 574, 575, 612, 613, 614, 615, 202, 616, 617, 618, 619, 544, 545, 546, 547, 1172, 1173, 1174, 1175, 1176, 1177, 1178, 1179, 1180, 1181, 1182, 1183, 1184, 1185, 1186, 1187, 1188, 1189, 1190, 1191, 1192, 1193, 1194, 1195, 1196, 1197, 1198, 1199, 1200] (by decide +kernel) (by decide +kernel)
set_option maxRecDepth 20000 in
theorem gL_law_X11_sell : GoodIn wsL_law (wsV RL 63 RX11 yX11_sell wsX11_sell) := goodIn_app (goodIn_of _ (by decide +kernel)) ggL_law_X11_sell
set_option maxRecDepth 20000 in
theorem ggL_law_X10_oversleep : GoodIn wsL_law wsX10_oversleep := goodIn_r _ [661, 27, 23, 474, 475, 476, 477, 2, 478, 15, 479, 211, 212, 213, 594, 595, 596, 26, 597, 107, 598, 599, 600, 601, 531, 602, 603, 604, 605, 22, 606, 159, 160, 161, 162, 163, 164, 165, 99, 607, 254, 255, 256, 100, 101, 480, 481, 482, 1160, 1161, 1162, 1163, 1164, 1165, 1166, 1167, 1168, 1169, 1170, 1171, 1224, 1225, 1226, 1227, 1228, 1229, 1230, 1231, 1232, 1233, 1201, 1202, 1203, 1204, 1205, 1206, 1207, 1208, 1209, 1210, 1211, 1212, 1213, 1214, 1215, 1234, 1235, 1236] (by decide +kernel) (by decide +kernel)
set_option maxRecDepth 20000 in
theorem gL_law_X10_oversleep : GoodIn wsL_law (wsV RL 64 RX10 yX10_oversleep wsX10_oversleep) := goodIn_app (goodIn_of _ (by decide +kernel)) ggL_law_X10_oversleep
set_option maxRecDepth 20000 in
theorem ggL_law_X11_oversleep : GoodIn wsL_law wsX11_oversleep := goodIn_r _ [665, 175, 487, 488, 489, 5, 490, 174, 225, 226, 227, 541, 542, 543, 612, 613, 614, 615, 202, 616, 617, 618, 619, 1172, 1173, 1174, 1175, 1176, 1177, 1178, 1179, 1180, 1181, 1182, 1183, 1184, 1185, 1186, 1187, 1188, 1189, 1190, 1191, 1192, 1193, 1194, 1195, 1196, 1197, 1198, 1199, 1200] (by decide +kernel) (by decide +kernel)
set_option maxRecDepth 20000 in
theorem gL_law_X11_oversleep : GoodIn wsL_law (wsV RL 67 RX11 yX11_oversleep wsX11_oversleep) := goodIn_app (goodIn_of _ (by decide +kernel)) ggL_law_X11_oversleep
set_option maxRecDepth 20000 in
theorem ggL_law_X10_sleep : GoodIn wsL_law wsX10_sleep := goodIn_r _ [669, 23, 518, 27, 15, 211, 212, 2, 213, 594, 595, 596, 26, 597, 107, 598, 599, 600, 601, 531, 602, 603, 604, 605, 22, 606, 159, 160, 161, 162, 163, 164, 165, 99, 607, 254, 255, 256, 100, 101, 670, 671, 672, 673, 674, 675, 676, 677, 678, 166, 167, 168, 169, 679, 680, 681, 682, 683, 530, 532, 684, 685, 686, 687, 1160, 1161, 1162, 1163, 1164, 1165, 1166, 1167, 1168, 1169, 1170, 1171, 1224, 1225, 1226, 1227, 1228, 1229, 1230, 1231, 1232, 1233, 1234, 1235, 1236, 1201, 1202, 1203, 1204, 1205, 1206, 1207, 1208, 1209, 1210, 1211, 1212, 1213, 1214, 1215] (by decide +kernel) (by decide +kernel)
set_option maxRecDepth 20000 in
theorem gL_law_X10_sleep : GoodIn wsL_law (wsV RL 68 RX10 yX10_sleep wsX10_sleep) := goodIn_app (goodIn_of _ (by decide +kernel)) ggL_law_X10_sleep
set_option maxRecDepth 20000 in
theorem ggL_law_X11_sleep : GoodIn wsL_law wsX11_sleep := goodIn_r _ [691, 692, 175, 174, 693, 694, 565, 695, 696, 225, 226, 5, 227, 612, 613, 614, 615, 202, 616, 617, 618, 619, 1172, 1173, 1174, 1175, 1176, 1177, 1178, 1179, 1180, 1181, 1182, 1183, 1184, 1185, 1186, 1187, 1188, 1189, 1190, 1191, 1192, 1193, 1194, 1195, 1196, 1197, 1198, 1199, 1200] (by decide +kernel) (by decide +kernel)
set_option maxRecDepth 20000 in
theorem gL_law_X11_sleep : GoodIn wsL_law (wsV RL 71 RX11 yX11_sleep wsX11_sleep) := goodIn_app (goodIn_of _ (by decide +kernel)) ggL_law_X11_sleep
set_option maxRecDepth 20000 in
theorem ggL_law_X10_undo : GoodIn wsL_law wsX10_undo := goodIn_r _ [700, 27, 455, 23, 701, 702, 703, 26, 704, 598, 107, 599, 705, 530, 531, 532, 603, 604, 605, 22, 606, 159, 160, 161, 162, 163, 164, 165, 99, 607, 254, 255, 256, 100, 101, 1160, 1161, 1162, 1163, 1164, 1165, 1166, 1167, 1168, 1169, 1170, 1171, 1234, 1235, 1236, 1224, 1225, 1226, 1227, 1228, 1229, 1230, 1231, 1232, 1233] (by decide +kernel) (by decide +kernel)
set_option maxRecDepth 20000 in
theorem gL_law_X10_undo : GoodIn wsL_law (wsV RL 72 RX10 yX10_undo wsX10_undo) := goodIn_app (goodIn_of _ (by decide +kernel)) ggL_law_X10_undo
set_option maxRecDepth 20000 in
theorem ggL_law_X11_undo : GoodIn wsL_law wsX11_undo := goodIn_r _ [709, 202, 616, 617, 618, 5, 619, 175, 1172, 1173, 1174, 1175, 1176, 1177, 1178, 1179, 1180, 1181, 1182, 1183, 1184, 1185, 1186, 1187, 1188, 1189, 1190, 1191, 1192, 1193, 1194, 1195, 1196, 1197, 1198, 1199, 1200] (by decide +kernel) (by decide +kernel)
set_option maxRecDepth 20000 in
theorem gL_law_X11_undo : GoodIn wsL_law (wsV RL 75 RX11 yX11_undo wsX11_undo) := goodIn_app (goodIn_of _ (by decide +kernel)) ggL_law_X11_undo
set_option maxRecDepth 20000 in
theorem ggL_law_X10_keep : GoodIn wsL_law wsX10_keep := goodIn_r _ [713, 28, 23, 53, 518, 211, 212, 2, 213, 714, 604, 605, 22, 606, 159, 160, 161, 162, 163, 164, 165, 99, 607, 254, 255, 256, 100, 101, 1160, 1161, 1162, 1163, 1164, 1165, 1166, 1167, 1168, 1169, 1170, 1171, 1224, 1225, 1226, 1227, 1228, 1229, 1230, 1231, 1232, 1233] (by decide +kernel) (by decide +kernel)
set_option maxRecDepth 20000 in
theorem gL_law_X10_keep : GoodIn wsL_law (wsV RL 76 RX10 yX10_keep wsX10_keep) := goodIn_app (goodIn_of _ (by decide +kernel)) ggL_law_X10_keep
set_option maxRecDepth 20000 in
theorem ggL_law_X11_keep : GoodIn wsL_law wsX11_keep := goodIn_r _ [718, 177, 175, 541, 542, 5, 543, 225, 226, 227, 616, 617, 618, 619, 1172, 1173, 1174, 1175, 1176, 1177, 1178, 1179, 1180, 1181, 1182, 1183, 1184, 1185, 1186, 1187, 1188, 1189, 1190, 1191, 1192, 1193, 1194, 1195, 1196, 1197, 1198, 1199, 1200] (by decide +kernel) (by decide +kernel)
set_option maxRecDepth 20000 in
theorem gL_law_X11_keep : GoodIn wsL_law (wsV RL 79 RX11 yX11_keep wsX11_keep) := goodIn_app (goodIn_of _ (by decide +kernel)) ggL_law_X11_keep
set_option maxRecDepth 20000 in
theorem ggL_law_X10_back : GoodIn wsL_law wsX10_back := goodIn_r _ [722, 53, 23, 28, 27, 455, 518, 211, 212, 2, 213, 480, 481, 482, 714, 604, 605, 22, 606, 159, 160, 161, 162, 163, 164, 165, 99, 607, 254, 255, 256, 100, 101, 1160, 1161, 1162, 1163, 1164, 1165, 1166, 1167, 1168, 1169, 1170, 1171, 1234, 1235, 1236, 1224, 1225, 1226, 1227, 1228, 1229, 1230, 1231, 1232, 1233] (by decide +kernel) (by decide +kernel)
set_option maxRecDepth 20000 in
theorem gL_law_X10_back : GoodIn wsL_law (wsV RL 80 RX10 yX10_back wsX10_back) := goodIn_app (goodIn_of _ (by decide +kernel)) ggL_law_X10_back
set_option maxRecDepth 20000 in
theorem ggL_law_X11_back : GoodIn wsL_law wsX11_back := goodIn_r _ [726, 177, 202, 175, 541, 542, 5, 543, 225, 226, 227, 616, 617, 618, 619, 1172, 1173, 1174, 1175, 1176, 1177, 1178, 1179, 1180, 1181, 1182, 1183, 1184, 1185, 1186, 1187, 1188, 1189, 1190, 1191, 1192, 1193, 1194, 1195, 1196, 1197, 1198, 1199, 1200] (by decide +kernel) (by decide +kernel)
set_option maxRecDepth 20000 in
theorem gL_law_X11_back : GoodIn wsL_law (wsV RL 83 RX11 yX11_back wsX11_back) := goodIn_app (goodIn_of _ (by decide +kernel)) ggL_law_X11_back
set_option maxRecDepth 20000 in
theorem ggL_law_X10_plan : GoodIn wsL_law wsX10_plan := goodIn_r _ [730, 32, 15, 23, 731, 732, 733, 734, 31, 735, 736, 737, 738, 739, 740, 114, 113, 741, 742, 743, 115, 744, 745, 558, 559, 14, 560, 60, 481, 2, 482, 746, 747, 748, 749, 116, 750, 117, 751, 118, 752, 753, 754, 755, 756, 530, 531, 532, 119, 757, 167, 168, 169, 758, 759, 760, 761, 762, 763, 764, 765, 1160, 1161, 1162, 1163, 1164, 1165, 1166, 1167, 1168, 1169, 1170, 1171, 1237, 1238, 1239, 1240, 1241, 1242, 1243, 1244, 1245, 1246, 1201, 1202, 1203, 1204, 1205, 1206, 1207, 1208, 1209, 1210, 1211, 1212, 1213, 1214, 1215, 1224, 1225, 1226, 1227, 1228, 1229, 1230, 1231, 1232, 1233] (by decide +kernel) (by decide +kernel)
set_option maxRecDepth 20000 in
theorem gL_law_X10_plan : GoodIn wsL_law (wsV RL 84 RX10 yX10_plan wsX10_plan) := goodIn_app (goodIn_of _ (by decide +kernel)) ggL_law_X10_plan
set_option maxRecDepth 20000 in
theorem ggL_law_X11_plan : GoodIn wsL_law wsX11_plan := goodIn_r _ [769, 175, 770, 771, 772, 5, 773, 774, 174, 179, 775, 776, 777, 778, 779, 780, 781, 573, 574, 575, 576, 577, 578, 579, 1172, 1173, 1174, 1175, 1176, 1177, 1178, 1179, 1180, 1181, 1182, 1183, 1184, 1185, 1186, 1187, 1188, 1189, 1190, 1191, 1192, 1193, 1194, 1195, 1196, 1197, 1198, 1199, 1200] (by decide +kernel) (by decide +kernel)
set_option maxRecDepth 20000 in
theorem gL_law_X11_plan : GoodIn wsL_law (wsV RL 87 RX11 yX11_plan wsX11_plan) := goodIn_app (goodIn_of _ (by decide +kernel)) ggL_law_X11_plan
set_option maxRecDepth 20000 in
theorem ggL_law_X10_planOf : GoodIn wsL_law wsX10_planOf := goodIn_r _ [785, 32, 15, 23, 500, 501, 502, 2, 503, 504, 732, 733, 734, 31, 735, 736, 737, 738, 739, 740, 114, 113, 741, 742, 743, 115, 744, 745, 558, 559, 14, 560, 60, 481, 482, 746, 747, 748, 749, 116, 750, 117, 751, 118, 786, 787, 788, 789, 790, 753, 754, 755, 756, 530, 531, 532, 119, 757, 167, 168, 169, 758, 759, 760, 761, 762, 763, 764, 765, 791, 792, 793, 794, 1160, 1161, 1162, 1163, 1164, 1165, 1166, 1167, 1168, 1169, 1170, 1171, 1201, 1202, 1203, 1204, 1205, 1206, 1207, 1208, 1209, 1210, 1211, 1212, 1213, 1214, 1215, 1237, 1238, 1239, 1240, 1241, 1242, 1243, 1244, 1245, 1246, 1224, 1225, 1226, 1227, 1228, 1229, 1230, 1231, 1232, 1233] (by decide +kernel) (by decide +kernel)
set_option maxRecDepth 20000 in
theorem gL_law_X10_planOf : GoodIn wsL_law (wsV RL 88 RX10 yX10_planOf wsX10_planOf) := goodIn_app (goodIn_of _ (by decide +kernel)) ggL_law_X10_planOf
set_option maxRecDepth 20000 in
theorem ggL_law_X11_planOf : GoodIn wsL_law wsX11_planOf := goodIn_r _ [798, 175, 774, 174, 510, 511, 512, 5, 513, 225, 226, 227, 770, 771, 772, 773, 179, 775, 776, 777, 778, 779, 780, 781, 573, 574, 575, 576, 577, 578, 579, 1172, 1173, 1174, 1175, 1176, 1177, 1178, 1179, 1180, 1181, 1182, 1183, 1184, 1185, 1186, 1187, 1188, 1189, 1190, 1191, 1192, 1193, 1194, 1195, 1196, 1197, 1198, 1199, 1200] (by decide +kernel) (by decide +kernel)
set_option maxRecDepth 20000 in
theorem gL_law_X11_planOf : GoodIn wsL_law (wsV RL 91 RX11 yX11_planOf wsX11_planOf) := goodIn_app (goodIn_of _ (by decide +kernel)) ggL_law_X11_planOf
set_option maxRecDepth 20000 in
theorem ggL_law_X10_shortest : GoodIn wsL_law wsX10_shortest := goodIn_r _ [802, 32, 15, 23, 732, 733, 734, 31, 735, 736, 737, 738, 739, 740, 114, 113, 741, 742, 743, 115, 744, 745, 558, 559, 14, 560, 60, 481, 2, 482, 746, 747, 748, 749, 116, 750, 117, 751, 118, 803, 804, 805, 806, 807, 808, 809, 810, 757, 167, 168, 169, 790, 753, 754, 755, 756, 530, 531, 532, 119, 758, 759, 760, 761, 762, 763, 764, 765, 1160, 1161, 1162, 1163, 1164, 1165, 1166, 1167, 1168, 1169, 1170, 1171, 1201, 1202, 1203, 1204, 1205, 1206, 1207, 1208, 1209, 1210, 1211, 1212, 1213, 1214, 1215, 1237, 1238, 1239, 1240, 1241, 1242, 1243, 1244, 1245, 1246, 1224, 1225, 1226, 1227, 1228, 1229, 1230, 1231, 1232, 1233] (by decide +kernel) (by decide +kernel)
set_option maxRecDepth 20000 in
theorem gL_law_X10_shortest : GoodIn wsL_law (wsV RL 92 RX10 yX10_shortest wsX10_shortest) := goodIn_app (goodIn_of _ (by decide +kernel)) ggL_law_X10_shortest
set_option maxRecDepth 20000 in
theorem ggL_law_X11_shortest : GoodIn wsL_law wsX11_shortest := goodIn_r _ [814, 770, 771, 772, 5, 773, 774, 174, 179, 175, 775, 776, 777, 778, 779, 780, 781, 573, 574, 575, 576, 577, 578, 579, 1172, 1173, 1174, 1175, 1176, 1177, 1178, 1179, 1180, 1181, 1182, 1183, 1184, 1185, 1186, 1187, 1188, 1189, 1190, 1191, 1192, 1193, 1194, 1195, 1196, 1197, 1198, 1199, 1200] (by decide +kernel) (by decide +kernel)
set_option maxRecDepth 20000 in
theorem gL_law_X11_shortest : GoodIn wsL_law (wsV RL 95 RX11 yX11_shortest wsX11_shortest) := goodIn_app (goodIn_of _ (by decide +kernel)) ggL_law_X11_shortest
set_option maxRecDepth 20000 in
theorem ggL_law_X10_sale : GoodIn wsL_law wsX10_sale := goodIn_r _ [818, 36, 15, 23, 819, 520, 521, 522, 2, 523, 524, 211, 212, 213, 820, 821, 822, 35, 823, 824, 825, 826, 827, 828, 124, 829, 830, 526, 527, 14, 528, 67, 77, 66, 529, 530, 531, 532, 481, 482, 831, 832, 833, 834, 125, 835, 167, 168, 169, 836, 837, 838, 839, 840, 841, 842, 843, 844, 845, 846, 847, 848, 849, 1160, 1161, 1162, 1163, 1164, 1165, 1166, 1167, 1168, 1169, 1170, 1171, 1247, 1248, 1249, 1250, 1251, 1201, 1202, 1203, 1204, 1205, 1206, 1207, 1208, 1209, 1210, 1211, 1212, 1213, 1214, 1215, 1224, 1225, 1226, 1227, 1228, 1229, 1230, 1231, 1232, 1233] (by decide +kernel) (by decide +kernel)
set_option maxRecDepth 20000 in
theorem gL_law_X10_sale : GoodIn wsL_law (wsV RL 96 RX10 yX10_sale wsX10_sale) := goodIn_app (goodIn_of _ (by decide +kernel)) ggL_law_X10_sale
set_option maxRecDepth 20000 in
theorem ggL_law_X11_sale : GoodIn wsL_law wsX11_sale := goodIn_r _ [853, 854, 174, 537, 538, 539, 5, 540, 225, 226, 227, 775, 776, 777, 855, 856, 857, 858, 175, 573, 574, 575, 544, 545, 546, 547, 1172, 1173, 1174, 1175, 1176, 1177, 1178, 1179, 1180, 1181, 1182, 1183, 1184, 1185, 1186, 1187, 1188, 1189, 1190, 1191, 1192, 1193, 1194, 1195, 1196, 1197, 1198, 1199, 1200] (by decide +kernel) (by decide +kernel)
set_option maxRecDepth 20000 in
theorem gL_law_X11_sale : GoodIn wsL_law (wsV RL 99 RX11 yX11_sale wsX11_sale) := goodIn_app (goodIn_of _ (by decide +kernel)) ggL_law_X11_sale
set_option maxRecDepth 20000 in
theorem ggL_law_X10_odds : GoodIn wsL_law wsX10_odds := goodIn_r _ [862, 863, 864, 40, 15, 23, 865, 866, 867, 2, 868, 211, 212, 213, 869, 870, 871, 39, 872, 134, 873, 874, 168, 875, 876, 877, 878, 879, 136, 880, 881, 882, 254, 255, 256, 883, 884, 885, 886, 887, 888, 889, 890, 891, 892, 893, 1160, 1161, 1162, 1163, 1164, 1165, 1166, 1167, 1168, 1169, 1170, 1171, 1224, 1225, 1226, 1227, 1228, 1229, 1230, 1231, 1232, 1233, 1252, 1253, 1254, 1255, 1256, 1257, 1258, 1201, 1202, 1203, 1204, 1205, 1206, 1207, 1208, 1209, 1210, 1211, 1212, 1213, 1214, 1215] (by decide +kernel) (by decide +kernel)
set_option maxRecDepth 20000 in
theorem gL_law_X10_odds : GoodIn wsL_law (wsV RL 100 RX10 yX10_odds wsX10_odds) := goodIn_app (goodIn_of _ (by decide +kernel)) ggL_law_X10_odds
set_option maxRecDepth 20000 in
theorem ggL_law_X11_odds : GoodIn wsL_law wsX11_odds := goodIn_r _ [897, 898, 854, 899, 180, 175, 696, 900, 182, 901, 902, 5, 903, 904, 225, 226, 227, 541, 542, 543, 905, 906, 907, 908, 181, 174, 909, 910, 911, 912, 1172, 1173, 1174, 1175, 1176, 1177, 1178, 1179, 1180, 1181, 1182, 1183, 1184, 1185, 1186, 1187, 1188, 1189, 1190, 1191, 1192, 1193, 1194, 1195, 1196, 1197, 1198, 1199, 1200] (by decide +kernel) (by decide +kernel)
set_option maxRecDepth 20000 in
theorem gL_law_X11_odds : GoodIn wsL_law (wsV RL 104 RX11 yX11_odds wsX11_odds) := goodIn_app (goodIn_of _ (by decide +kernel)) ggL_law_X11_odds
