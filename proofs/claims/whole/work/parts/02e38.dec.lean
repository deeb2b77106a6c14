set_option maxRecDepth 20000 in
theorem gL_law_X8_gold : GoodIn wsL_law (wsV RL 138 RX8 yX8_gold wsX8_gold) := goodIn_app (goodIn_of _ (by decide +kernel)) ggL_law_X8_gold
set_option maxRecDepth 20000 in
theorem ggL_law_X9_gold : GoodIn wsL_law wsX9_gold := goodIn_r _ [981, 134, 314, 315, 316, 5, 317, 205, 148, 149, 150, 779, 780, 781, 782, 116, 708, 783, 114, 728, 729, 730, 731, 115, 700, 701, 702, 703, 704, 705, 706, 707, 656, 657, 658, 659, 106, 257, 258, 259, 260, 261, 262, 263, 264, 253, 254, 255, 256, 403, 404, 405, 406, 660, 661, 662, 663, 664, 665, 666, 667, 668, 669, 670, 671, 360, 349, 350, 351, 672, 673, 674, 494, 495, 496, 497, 265, 266, 267, 268, 105, 356, 357, 358, 359, 331, 361, 362, 363, 364, 102, 103, 104, 675, 676, 677, 678, 679, 759, 760, 761, 762, 556, 557, 558, 559, 100, 101, 400, 401, 402, 907, 908, 909, 910, 434, 911, 912, 913, 914, 915, 916, 917, 918, 919, 920, 117, 921, 922, 923, 924, 118, 925, 926, 927, 928, 929, 930, 931, 932, 933, 934, 935, 936, 937, 938, 939, 940, 941, 392, 393, 394, 395, 942, 943, 944, 945, 443, 444, 445, 446, 99, 1236, 1237, 1238, 1239, 1240, 1241, 1242, 1243, 1244, 1245, 1246, 1247, 1248, 1249, 1250, 1251, 1252, 1253, 1254, 1255, 1256, 1257, 1258, 1259, 1260, 1261, 1262, 1263, 1264, 1265, 1266, 1267, 1268, 1269, 1270, 1271, 1272, 1273, 1274, 1275] (by decide +kernel) (by decide +kernel)
set_option maxRecDepth 20000 in
theorem gL_law_X9_gold : GoodIn wsL_law (wsV RL 141 RX9 yX9_gold wsX9_gold) := goodIn_app (goodIn_of _ (by decide +kernel)) ggL_law_X9_gold
set_option maxRecDepth 20000 in
theorem ggL_law_X8_line : GoodIn wsL_law wsX8_line := goodIn_r _ [985, 33, 29, 24, 42, 41, 815, 294, 295, 296, 2, 297, 155, 585, 586, 587, 32, 588, 85, 86, 974, 975, 976, 977, 713, 714, 715, 716, 37, 18, 325, 717, 40, 718, 719, 720, 721, 722, 723, 688, 689, 690, 691, 593, 594, 595, 36, 596, 90, 91, 92, 94, 597, 598, 599, 600, 601, 602, 603, 28, 604, 605, 606, 607, 608, 609, 610, 611, 612, 613, 614, 615, 616, 617, 618, 619, 620, 385, 386, 23, 387, 71, 72, 621, 376, 377, 378, 67, 69, 74, 66, 379, 349, 350, 351, 622, 623, 624, 625, 626, 627, 628, 629, 630, 631, 632, 633, 634, 635, 636, 637, 638, 639, 640, 641, 642, 643, 644, 645, 345, 346, 20, 347, 56, 348, 646, 647, 767, 768, 769, 770, 740, 741, 742, 743, 744, 745, 535, 536, 537, 538, 539, 746, 747, 748, 749, 750, 816, 817, 818, 819, 43, 820, 821, 822, 823, 824, 825, 11, 12, 826, 827, 828, 39, 829, 830, 831, 832, 833, 834, 835, 836, 837, 838, 839, 840, 841, 842, 843, 844, 845, 846, 847, 848, 849, 850, 851, 852, 853, 854, 855, 856, 857, 858, 859, 860, 861, 862, 863, 864, 865, 866, 867, 868, 869, 870, 871, 872, 873, 874, 875, 876, 877, 878, 879, 880, 881, 882, 883, 884, 885, 886, 887, 888, 889, 890, 891, 892, 893, 894, 895, 896, 897, 898, 899, 900, 901, 902, 986, 987, 988, 989, 1224, 1225, 1226, 1227, 1228, 1229, 1230, 1231, 1232, 1233, 1234, 1235, 1314, 1315, 1316, 1317, 1318, 1319, 1320, 1321, 1322, 1323, 1324, 1325, 1284, 1285, 1286, 1287, 1288, 1289, 1290, 1291, 1292, 1293, 1294, 1295, 1296, 1297, 1298, 1299, 1308, 1309, 1300, 1301, 1302, 1303, 1304, 1305, 1306, 1307, 1310, 1311, 1312, 1313, 1280, 1281, 1282, 1283] (by decide +kernel) (by decide +kernel)
set_option maxRecDepth 20000 in
theorem gL_law_X8_line : GoodIn wsL_law (wsV RL 142 RX8 yX8_line wsX8_line) := goodIn_app (goodIn_of _ (by decide +kernel)) ggL_law_X8_line
set_option maxRecDepth 20000 in
theorem ggL_law_X9_line : GoodIn wsL_law wsX9_line := goodIn_r _ [993, 134, 434, 106, 314, 315, 316, 5, 317, 205, 148, 149, 150, 652, 653, 654, 655, 114, 779, 780, 781, 782, 116, 708, 783, 728, 729, 730, 731, 115, 700, 701, 702, 703, 704, 705, 706, 707, 656, 657, 658, 659, 257, 258, 259, 260, 261, 262, 263, 264, 253, 254, 255, 256, 403, 404, 405, 406, 660, 661, 662, 663, 664, 665, 666, 667, 668, 669, 670, 671, 360, 349, 350, 351, 672, 673, 674, 494, 495, 496, 497, 265, 266, 267, 268, 105, 356, 357, 358, 359, 331, 361, 362, 363, 364, 102, 103, 104, 675, 676, 677, 678, 679, 759, 760, 761, 762, 556, 557, 558, 559, 100, 101, 400, 401, 402, 917, 918, 919, 920, 117, 921, 922, 923, 924, 118, 925, 926, 927, 928, 929, 930, 931, 932, 933, 934, 935, 916, 936, 937, 938, 939, 940, 941, 392, 393, 394, 395, 994, 995, 996, 997, 312, 443, 444, 445, 446, 99, 1236, 1237, 1238, 1239, 1240, 1241, 1242, 1243, 1244, 1245, 1246, 1247, 1248, 1249, 1250, 1251, 1252, 1253, 1254, 1255, 1256, 1257, 1258, 1259, 1260, 1261, 1262, 1263, 1264, 1265, 1266, 1267, 1268, 1269, 1270, 1271, 1272, 1273, 1274, 1275] (by decide +kernel) (by decide +kernel)
set_option maxRecDepth 20000 in
theorem gL_law_X9_line : GoodIn wsL_law (wsV RL 146 RX9 yX9_line wsX9_line) := goodIn_app (goodIn_of _ (by decide +kernel)) ggL_law_X9_line
set_option maxRecDepth 20000 in
theorem ggL_law_X8_duel : GoodIn wsL_law wsX8_duel := goodIn_r _ [1001, 24, 373, 294, 295, 296, 2, 297, 155, 1002, 1003, 1004, 1005, 1006, 1007, 44, 1008, 1009, 1010, 41, 42, 380, 381, 382, 23, 383, 67, 69, 1011, 1012, 1013, 11, 12, 1014, 1015, 1016, 1017, 1018, 1019, 1020, 1021, 39, 1022, 1023, 1024, 1025, 1026, 1027, 1028, 1029, 1030, 1031, 1032, 1033, 1034, 1035, 1036, 1037, 1038, 1039, 1040, 535, 536, 20, 537, 538, 539, 1041, 345, 346, 347, 56, 348, 349, 350, 351, 1042, 1043, 1044, 1045, 1046, 1047, 937, 938, 1048, 1049, 1050, 1051, 1052, 646, 647, 1053, 1054, 1055, 1056, 1057, 1058, 1059, 1060, 1061, 1062, 1063, 1064, 1065, 598, 599, 600, 1066, 1067, 1068, 1069, 1070, 1071, 1072, 1073, 1074, 1075, 1076, 1077, 1078, 1079, 1080, 1081, 1082, 1083, 1084, 1085, 1086, 1087, 1224, 1225, 1226, 1227, 1228, 1229, 1230, 1231, 1232, 1233, 1234, 1235, 1284, 1285, 1286, 1287, 1288, 1289, 1290, 1291, 1292, 1293, 1294, 1295, 1296, 1297, 1298, 1299, 1326, 1327, 1328, 1329, 1330, 1331, 1332, 1333, 1334, 1335, 1336, 1337, 1338, 1339, 1340, 1341, 1280, 1281, 1282, 1283] (by decide +kernel) (by decide +kernel)
set_option maxRecDepth 20000 in
theorem gL_law_X8_duel : GoodIn wsL_law (wsV RL 147 RX8 yX8_duel wsX8_duel) := goodIn_app (goodIn_of _ (by decide +kernel)) ggL_law_X8_duel
set_option maxRecDepth 20000 in
theorem ggL_law_X9_duel : GoodIn wsL_law wsX9_duel := goodIn_r _ [1091, 134, 1092, 1093, 314, 315, 316, 5, 317, 205, 148, 149, 150, 1094, 1095, 1096, 1097, 106, 396, 397, 398, 399, 261, 262, 263, 264, 257, 258, 259, 260, 253, 254, 255, 256, 1098, 1099, 1100, 1101, 119, 1102, 1103, 1104, 1105, 120, 1106, 1107, 1108, 1109, 101, 1110, 1111, 1112, 1113, 360, 349, 350, 351, 1114, 1115, 1116, 1117, 1118, 1119, 1120, 1121, 1122, 1123, 1124, 1125, 708, 664, 665, 666, 667, 556, 557, 558, 559, 100, 1126, 1127, 1128, 1129, 356, 357, 358, 359, 331, 361, 362, 363, 364, 102, 103, 104, 675, 676, 677, 678, 1130, 1131, 1132, 1133, 1134, 1135, 1136, 1137, 1138, 1139, 434, 443, 444, 445, 446, 99, 1236, 1237, 1238, 1239, 1240, 1241, 1242, 1243, 1244, 1245, 1246, 1247, 1248, 1249, 1250, 1251, 1252, 1253, 1254, 1255, 1256, 1257, 1258, 1259, 1260, 1261, 1262, 1263, 1264, 1265, 1266, 1267, 1268, 1269, 1270, 1271, 1272, 1273, 1274, 1275] (by decide +kernel) (by decide +kernel)
set_option maxRecDepth 20000 in
theorem gL_law_X9_duel : GoodIn wsL_law (wsV RL 150 RX9 yX9_duel wsX9_duel) := goodIn_app (goodIn_of _ (by decide +kernel)) ggL_law_X9_duel
set_option maxRecDepth 20000 in
theorem ggL_law_X8_bluff : GoodIn wsL_law wsX8_bluff := goodIn_r _ [1143, 294, 295, 296, 2, 297, 24, 155, 1002, 1003, 1004, 1005, 1006, 1007, 44, 1008, 1009, 1010, 41, 42, 380, 381, 382, 23, 383, 67, 69, 1011, 1012, 1013, 11, 12, 1014, 1015, 1016, 1017, 1018, 1019, 1020, 1021, 39, 1022, 1023, 1024, 1025, 1026, 1027, 1028, 1029, 1030, 1031, 1032, 1033, 1034, 1035, 1036, 1037, 1038, 1039, 1040, 535, 536, 20, 537, 538, 539, 1041, 345, 346, 347, 56, 348, 349, 350, 351, 1042, 1043, 1044, 1045, 1046, 1047, 937, 938, 1048, 1049, 1050, 1051, 1052, 646, 647, 1053, 1054, 1055, 1056, 1057, 1058, 1059, 1060, 1061, 1062, 1063, 1064, 1065, 598, 599, 600, 1066, 1067, 1068, 1069, 1070, 1071, 1072, 1073, 1074, 1075, 1076, 1077, 1078, 1079, 1080, 1081, 1082, 1083, 1084, 1085, 1086, 1087, 1224, 1225, 1226, 1227, 1228, 1229, 1230, 1231, 1232, 1233, 1234, 1235, 1284, 1285, 1286, 1287, 1288, 1289, 1290, 1291, 1292, 1293, 1294, 1295, 1296, 1297, 1298, 1299, 1326, 1327, 1328, 1329, 1330, 1331, 1332, 1333, 1334, 1335, 1336, 1337, 1338, 1339, 1340, 1341, 1280, 1281, 1282, 1283] (by decide +kernel) (by decide +kernel)
set_option maxRecDepth 20000 in
theorem gL_law_X8_bluff : GoodIn wsL_law (wsV RL 151 RX8 yX8_bluff wsX8_bluff) := goodIn_app (goodIn_of _ (by decide +kernel)) ggL_law_X8_bluff
set_option maxRecDepth 20000 in
theorem ggL_law_X9_bluff : GoodIn wsL_law wsX9_bluff := goodIn_r _ [1147, 134, 311, 1092, 1093, 314, 315, 316, 5, 317, 205, 148, 149, 150, 1094, 1095, 1096, 1097, 106, 396, 397, 398, 399, 261, 262, 263, 264, 257, 258, 259, 260, 253, 254, 255, 256, 1098, 1099, 1100, 1101, 119, 1102, 1103, 1104, 1105, 120, 1106, 1107, 1108, 1109, 101, 1110, 1111, 1112, 1113, 360, 349, 350, 351, 1114, 1115, 1116, 1117, 1118, 1119, 1120, 1121, 1122, 1123, 1124, 1125, 708, 664, 665, 666, 667, 556, 557, 558, 559, 100, 1126, 1127, 1128, 1129, 356, 357, 358, 359, 331, 361, 362, 363, 364, 102, 103, 104, 675, 676, 677, 678, 1130, 1131, 1132, 1133, 1134, 1135, 1136, 1137, 1138, 1139, 434, 443, 444, 445, 446, 99, 1236, 1237, 1238, 1239, 1240, 1241, 1242, 1243, 1244, 1245, 1246, 1247, 1248, 1249, 1250, 1251, 1252, 1253, 1254, 1255, 1256, 1257, 1258, 1259, 1260, 1261, 1262, 1263, 1264, 1265, 1266, 1267, 1268, 1269, 1270, 1271, 1272, 1273, 1274, 1275] (by decide +kernel) (by decide +kernel)
set_option maxRecDepth 20000 in
theorem gL_law_X9_bluff : GoodIn wsL_law (wsV RL 154 RX9 yX9_bluff wsX9_bluff) := goodIn_app (goodIn_of _ (by decide +kernel)) ggL_law_X9_bluff
set_option maxRecDepth 20000 in
theorem ggL_law_X8_plays : GoodIn wsL_law wsX8_plays := goodIn_r _ [1151, 24, 510, 411, 412, 413, 23, 414, 62, 67, 415, 381, 382, 383, 69, 416, 417, 418, 419, 78, 420, 1152, 1153, 1154, 1155, 1156, 480, 1157, 422, 423, 424, 64, 73, 63, 425, 345, 346, 20, 347, 56, 348, 349, 350, 351, 1158, 473, 474, 475, 76, 194, 75, 66, 379, 77, 72, 74, 65, 1159, 477, 478, 479, 195, 196, 197, 198, 70, 481, 482, 483, 484, 71, 190, 191, 192, 193, 521, 522, 523, 2, 524, 155, 41, 42, 525, 526, 527, 528, 529, 530, 531, 532, 533, 385, 386, 387, 534, 535, 536, 537, 538, 539, 1224, 1225, 1226, 1227, 1228, 1229, 1230, 1231, 1232, 1233, 1234, 1235, 1284, 1285, 1286, 1287, 1288, 1289, 1290, 1291, 1292, 1293, 1294, 1295, 1296, 1297, 1298, 1299, 1280, 1281, 1282, 1283] (by decide +kernel) (by decide +kernel)
set_option maxRecDepth 20000 in
theorem gL_law_X8_plays : GoodIn wsL_law (wsV RL 155 RX8 yX8_plays wsX8_plays) := goodIn_app (goodIn_of _ (by decide +kernel)) ggL_law_X8_plays
set_option maxRecDepth 20000 in
theorem ggL_law_X9_plays : GoodIn wsL_law wsX9_plays := goodIn_r _ [1163, 134, 1164, 435, 436, 437, 5, 438, 205, 396, 397, 398, 399, 261, 262, 263, 264, 106, 257, 258, 259, 260, 253, 254, 255, 256, 439, 440, 441, 442, 101, 1165, 1166, 1167, 1168, 1169, 1170, 1171, 1172, 1173, 356, 357, 358, 359, 331, 360, 349, 350, 351, 361, 362, 363, 364, 102, 103, 104, 490, 491, 492, 493, 489, 108, 247, 248, 494, 495, 496, 497, 265, 266, 267, 268, 105, 269, 270, 271, 272, 400, 401, 402, 498, 499, 500, 501, 502, 503, 504, 505, 249, 250, 251, 252, 273, 274, 275, 276, 277, 278, 279, 280, 544, 545, 546, 547, 434, 548, 549, 550, 551, 552, 553, 554, 555, 403, 404, 405, 406, 556, 557, 558, 559, 100, 443, 444, 445, 446, 99, 1236, 1237, 1238, 1239, 1240, 1241, 1242, 1243, 1244, 1245, 1246, 1247, 1248, 1249, 1250, 1251, 1252, 1253, 1254, 1255, 1256, 1257, 1258, 1259, 1260, 1261, 1262, 1263, 1264, 1265, 1266, 1267, 1268, 1269, 1270, 1271, 1272, 1273, 1274, 1275] (by decide +kernel) (by decide +kernel)
set_option maxRecDepth 20000 in
theorem gL_law_X9_plays : GoodIn wsL_law (wsV RL 158 RX9 yX9_plays wsX9_plays) := goodIn_app (goodIn_of _ (by decide +kernel)) ggL_law_X9_plays
set_option maxRecDepth 20000 in
theorem ggL_law_X8_often : GoodIn wsL_law wsX8_often := goodIn_r _ [1177, 25, 24, 374, 294, 295, 296, 2, 297, 155, 1178, 1179, 1180, 23, 1181, 62, 63, 64, 65, 66, 76, 77, 67, 69, 70, 71, 73, 74, 72, 1152, 1153, 1154, 1155, 1156, 480, 412, 413, 414, 415, 381, 382, 383, 416, 417, 418, 419, 78, 420, 1157, 422, 423, 424, 425, 345, 346, 20, 347, 56, 348, 349, 350, 351, 1158, 473, 474, 475, 194, 75, 379, 1159, 477, 478, 479, 195, 196, 197, 198, 481, 482, 483, 484, 190, 191, 192, 193, 525, 526, 527, 528, 529, 530, 531, 532, 533, 385, 386, 387, 534, 535, 536, 537, 538, 539, 384, 426, 427, 428, 429, 41, 42, 1224, 1225, 1226, 1227, 1228, 1229, 1230, 1231, 1232, 1233, 1234, 1235, 1284, 1285, 1286, 1287, 1288, 1289, 1290, 1291, 1292, 1293, 1294, 1295, 1296, 1297, 1298, 1299, 1280, 1281, 1282, 1283] (by decide +kernel) (by decide +kernel)
set_option maxRecDepth 20000 in
theorem gL_law_X8_often : GoodIn wsL_law (wsV RL 159 RX8 yX8_often wsX8_often) := goodIn_app (goodIn_of _ (by decide +kernel)) ggL_law_X8_often
set_option maxRecDepth 20000 in
theorem ggL_law_X9_often : GoodIn wsL_law wsX9_often := goodIn_r _ [1185, 134, 1186, 247, 248, 106, 107, 1164, 434, 314, 315, 316, 5, 317, 205, 148, 149, 150, 1165, 1166, 1167, 1168, 435, 436, 437, 438, 396, 397, 398, 399, 261, 262, 263, 264, 257, 258, 259, 260, 253, 254, 255, 256, 439, 440, 441, 442, 101, 1169, 1170, 1171, 1172, 1173, 356, 357, 358, 359, 331, 360, 349, 350, 351, 361, 362, 363, 364, 102, 103, 104, 490, 491, 492, 493, 489, 108, 494, 495, 496, 497, 265, 266, 267, 268, 105, 269, 270, 271, 272, 400, 401, 402, 498, 499, 500, 501, 502, 503, 504, 505, 249, 250, 251, 252, 273, 274, 275, 276, 277, 278, 279, 280, 548, 549, 550, 551, 552, 553, 554, 555, 403, 404, 405, 406, 556, 557, 558, 559, 100, 443, 444, 445, 446, 99, 1236, 1237, 1238, 1239, 1240, 1241, 1242, 1243, 1244, 1245, 1246, 1247, 1248, 1249, 1250, 1251, 1252, 1253, 1254, 1255, 1256, 1257, 1258, 1259, 1260, 1261, 1262, 1263, 1264, 1265, 1266, 1267, 1268, 1269, 1270, 1271, 1272, 1273, 1274, 1275] (by decide +kernel) (by decide +kernel)
set_option maxRecDepth 20000 in
theorem gL_law_X9_often : GoodIn wsL_law (wsV RL 162 RX9 yX9_often wsX9_often) := goodIn_app (goodIn_of _ (by decide +kernel)) ggL_law_X9_often
set_option maxRecDepth 20000 in
theorem ggL_law_X8_count : GoodIn wsL_law wsX8_count := goodIn_r _ [1190, 24, 155, 1006, 1007, 1191, 510, 1192, 325, 42, 16, 125, 1193, 1194, 1195, 23, 1196, 62, 71, 1224, 1225, 1226, 1227, 1228, 1229, 1230, 1231, 1232, 1233, 1234, 1235, 1284, 1285, 1286, 1287, 1288, 1289, 1290, 1291, 1292, 1293, 1294, 1295, 1296, 1297, 1298, 1299, 1276, 1277, 1278, 1279] (by decide +kernel) (by decide +kernel)
set_option maxRecDepth 20000 in
theorem gL_law_X8_count : GoodIn wsL_law (wsV RL 163 RX8 yX8_count wsX8_count) := goodIn_app (goodIn_of _ (by decide +kernel)) ggL_law_X8_count
set_option maxRecDepth 20000 in
theorem ggL_law_X9_count : GoodIn wsL_law wsX9_count := goodIn_r _ [1200, 134, 205, 106, 247, 248, 331, 434, 135, 1201, 1202, 1203, 5, 1204, 261, 262, 263, 264, 1236, 1237, 1238, 1239, 1240, 1241, 1242, 1243, 1244, 1245, 1246, 1247, 1248, 1249, 1250, 1251, 1252, 1253, 1254, 1255, 1256, 1257, 1258, 1259, 1260, 1261, 1262, 1263, 1264, 1265, 1266, 1267, 1268, 1269, 1270, 1271, 1272, 1273, 1274, 1275] (by decide +kernel) (by decide +kernel)
set_option maxRecDepth 20000 in
theorem gL_law_X9_count : GoodIn wsL_law (wsV RL 166 RX9 yX9_count wsX9_count) := goodIn_app (goodIn_of _ (by decide +kernel)) ggL_law_X9_count
set_option maxRecDepth 20000 in
theorem ggL_law_L_row : GoodIn wsL_law wsL_row := goodIn_ca (goodIn_r _ [1208, 1209, 1210, 1211, 1212, 2, 1213, 1214, 1215, 42, 41, 1224, 1225, 1226, 1227, 1228, 1229, 1230, 1231, 1232, 1233, 1234, 1235] (by decide +kernel) (by decide +kernel)) (goodIn_sub (fun _ h => List.mem_append_right _ h) (by decide +kernel))
set_option maxRecDepth 20000 in
theorem gL_law_L_row : GoodIn wsL_law (va_wsS RL 167 yL_row wsL_row) := goodIn_app (goodIn_of _ (by decide +kernel)) ggL_law_L_row
set_option maxRecDepth 20000 in
theorem ggL_law_X9_row : GoodIn wsL_law wsX9_row := goodIn_r _ [1219, 434, 134, 99, 148, 149, 5, 150, 400, 401, 402, 1236, 1237, 1238, 1239, 1240, 1241, 1242, 1243, 1244, 1245, 1246, 1247, 1248, 1249, 1250, 1251, 1252, 1253, 1254, 1255, 1256, 1257, 1258, 1259, 1260, 1261, 1262, 1263, 1264, 1265, 1266, 1267, 1268, 1269, 1270, 1271, 1272, 1273, 1274, 1275] (by decide +kernel) (by decide +kernel)
set_option maxRecDepth 20000 in
theorem gL_law_X9_row : GoodIn wsL_law (wsV RL 172 RX9 yX9_row wsX9_row) := goodIn_app (goodIn_of _ (by decide +kernel)) ggL_law_X9_row
set_option maxRecDepth 20000 in
theorem ggL_law_X9_thrown : GoodIn wsL_law wsX9_thrown := goodIn_r _ [1223, 134, 1236, 1237, 1238, 1239, 1240, 1241, 1242, 1243, 1244, 1245, 1246, 1247, 1248, 1249, 1250, 1251, 1252, 1253, 1254, 1255, 1256, 1257, 1258, 1259, 1260, 1261, 1262, 1263, 1264, 1265, 1266, 1267, 1268, 1269, 1270, 1271, 1272, 1273, 1274, 1275] (by decide +kernel) (by decide +kernel)
set_option maxRecDepth 20000 in
theorem gL_law_X9_thrown : GoodIn wsL_law (wsV RL 173 RX9 yX9_thrown wsX9_thrown) := goodIn_app (goodIn_of _ (by decide +kernel)) ggL_law_X9_thrown
theorem dL_law_0 : decode cL_law 0 = .ok (.new 8, 3) := by decide +kernel
theorem dL_law_3 : decode cL_law 3 = .ok (.dup, 1) := by decide +kernel
theorem dL_law_4 : decode cL_law 4 = .ok (.invokespecial 15, 3) := by decide +kernel
theorem dL_law_7 : decode cL_law 7 = .ok (.astore_n 1, 1) := by decide +kernel
theorem dL_law_8 : decode cL_law 8 = .ok (.new 16, 3) := by decide +kernel
theorem dL_law_11 : decode cL_law 11 = .ok (.dup, 1) := by decide +kernel
theorem dL_law_12 : decode cL_law 12 = .ok (.invokespecial 18, 3) := by decide +kernel
theorem dL_law_15 : decode cL_law 15 = .ok (.astore_n 2, 1) := by decide +kernel
theorem dL_law_16 : decode cL_law 16 = .ok (.iconst 1, 1) := by decide +kernel
theorem dL_law_17 : decode cL_law 17 = .ok (.newarray .long, 2) := by decide +kernel
theorem dL_law_19 : decode cL_law 19 = .ok (.astore_n 3, 1) := by decide +kernel
theorem dL_law_20 : decode cL_law 20 = .ok (.iconst 0, 1) := by decide +kernel
theorem dL_law_21 : decode cL_law 21 = .ok (.istore 4, 2) := by decide +kernel
theorem dL_law_23 : decode cL_law 23 = .ok (.iload 4, 2) := by decide +kernel
theorem dL_law_25 : decode cL_law 25 = .ok (.aload_n 0, 1) := by decide +kernel
theorem dL_law_26 : decode cL_law 26 = .ok (.arraylength, 1) := by decide +kernel
theorem dL_law_27 : decode cL_law 27 = .ok (.iconst 5, 1) := by decide +kernel
theorem dL_law_28 : decode cL_law 28 = .ok (.isub, 1) := by decide +kernel
theorem dL_law_29 : decode cL_law 29 = .ok (.if_icmp .gt 1399, 3) := by decide +kernel
theorem dL_law_32 : decode cL_law 32 = .ok (.aload_n 0, 1) := by decide +kernel
theorem dL_law_33 : decode cL_law 33 = .ok (.iload 4, 2) := by decide +kernel
theorem dL_law_35 : decode cL_law 35 = .ok (.iaload, 1) := by decide +kernel
theorem dL_law_36 : decode cL_law 36 = .ok (.bipush 63, 2) := by decide +kernel
theorem dL_law_38 : decode cL_law 38 = .ok (.iand, 1) := by decide +kernel
theorem dL_law_39 : decode cL_law 39 = .ok (.tableswitch 1383 0 35 #[157, 182, 207, 220, 233, 294, 319, 332, 393, 442, 455, 468, 505, 546, 583, 608, 645, 682, 707, 744, 769, 806, 831, 856, 905, 930, 967, 1004, 1041, 1066, 1131, 1168, 1229, 1254, 1303, 1328], 157) := by decide +kernel
theorem dL_law_196 : decode cL_law 196 = .ok (.aload_n 1, 1) := by decide +kernel
theorem dL_law_197 : decode cL_law 197 = .ok (.aload_n 0, 1) := by decide +kernel
theorem dL_law_198 : decode cL_law 198 = .ok (.iload 4, 2) := by decide +kernel
theorem dL_law_200 : decode cL_law 200 = .ok (.iconst 1, 1) := by decide +kernel
theorem dL_law_201 : decode cL_law 201 = .ok (.iadd, 1) := by decide +kernel
theorem dL_law_202 : decode cL_law 202 = .ok (.iaload, 1) := by decide +kernel
theorem dL_law_203 : decode cL_law 203 = .ok (.invokevirtual 19, 3) := by decide +kernel
theorem dL_law_206 : decode cL_law 206 = .ok (.aload_n 2, 1) := by decide +kernel
theorem dL_law_207 : decode cL_law 207 = .ok (.aload_n 0, 1) := by decide +kernel
theorem dL_law_208 : decode cL_law 208 = .ok (.iload 4, 2) := by decide +kernel
theorem dL_law_210 : decode cL_law 210 = .ok (.iconst 1, 1) := by decide +kernel
theorem dL_law_211 : decode cL_law 211 = .ok (.iadd, 1) := by decide +kernel
theorem dL_law_212 : decode cL_law 212 = .ok (.iaload, 1) := by decide +kernel
theorem dL_law_213 : decode cL_law 213 = .ok (.invokevirtual 23, 3) := by decide +kernel
theorem dL_law_216 : decode cL_law 216 = .ok (.if_icmp .eq 1206, 3) := by decide +kernel
theorem dL_law_219 : decode cL_law 219 = .ok (.iconst 0, 1) := by decide +kernel
theorem dL_law_220 : decode cL_law 220 = .ok (.ireturn, 1) := by decide +kernel
theorem dL_law_221 : decode cL_law 221 = .ok (.aload_n 1, 1) := by decide +kernel
theorem dL_law_222 : decode cL_law 222 = .ok (.aload_n 0, 1) := by decide +kernel
theorem dL_law_223 : decode cL_law 223 = .ok (.iload 4, 2) := by decide +kernel
theorem dL_law_225 : decode cL_law 225 = .ok (.iconst 1, 1) := by decide +kernel
theorem dL_law_226 : decode cL_law 226 = .ok (.iadd, 1) := by decide +kernel
theorem dL_law_227 : decode cL_law 227 = .ok (.iaload, 1) := by decide +kernel
theorem dL_law_228 : decode cL_law 228 = .ok (.invokevirtual 24, 3) := by decide +kernel
theorem dL_law_231 : decode cL_law 231 = .ok (.aload_n 2, 1) := by decide +kernel
theorem dL_law_232 : decode cL_law 232 = .ok (.aload_n 0, 1) := by decide +kernel
theorem dL_law_233 : decode cL_law 233 = .ok (.iload 4, 2) := by decide +kernel
theorem dL_law_235 : decode cL_law 235 = .ok (.iconst 1, 1) := by decide +kernel
theorem dL_law_236 : decode cL_law 236 = .ok (.iadd, 1) := by decide +kernel
theorem dL_law_237 : decode cL_law 237 = .ok (.iaload, 1) := by decide +kernel
theorem dL_law_238 : decode cL_law 238 = .ok (.invokevirtual 28, 3) := by decide +kernel
theorem dL_law_241 : decode cL_law 241 = .ok (.if_icmp .eq 1181, 3) := by decide +kernel
theorem dL_law_244 : decode cL_law 244 = .ok (.iconst 0, 1) := by decide +kernel
theorem dL_law_245 : decode cL_law 245 = .ok (.ireturn, 1) := by decide +kernel
theorem dL_law_246 : decode cL_law 246 = .ok (.aload_n 1, 1) := by decide +kernel
theorem dL_law_247 : decode cL_law 247 = .ok (.invokevirtual 29, 3) := by decide +kernel
theorem dL_law_250 : decode cL_law 250 = .ok (.aload_n 2, 1) := by decide +kernel
theorem dL_law_251 : decode cL_law 251 = .ok (.invokevirtual 33, 3) := by decide +kernel
theorem dL_law_254 : decode cL_law 254 = .ok (.if_icmp .eq 1168, 3) := by decide +kernel
theorem dL_law_257 : decode cL_law 257 = .ok (.iconst 0, 1) := by decide +kernel
theorem dL_law_258 : decode cL_law 258 = .ok (.ireturn, 1) := by decide +kernel
theorem dL_law_259 : decode cL_law 259 = .ok (.aload_n 1, 1) := by decide +kernel
theorem dL_law_260 : decode cL_law 260 = .ok (.invokevirtual 34, 3) := by decide +kernel
theorem dL_law_263 : decode cL_law 263 = .ok (.aload_n 2, 1) := by decide +kernel
theorem dL_law_264 : decode cL_law 264 = .ok (.invokevirtual 37, 3) := by decide +kernel
theorem dL_law_267 : decode cL_law 267 = .ok (.if_icmp .eq 1155, 3) := by decide +kernel
theorem dL_law_270 : decode cL_law 270 = .ok (.iconst 0, 1) := by decide +kernel
theorem dL_law_271 : decode cL_law 271 = .ok (.ireturn, 1) := by decide +kernel
theorem dL_law_272 : decode cL_law 272 = .ok (.aload_n 1, 1) := by decide +kernel
theorem dL_law_273 : decode cL_law 273 = .ok (.aload_n 0, 1) := by decide +kernel
theorem dL_law_274 : decode cL_law 274 = .ok (.iload 4, 2) := by decide +kernel
theorem dL_law_276 : decode cL_law 276 = .ok (.iconst 1, 1) := by decide +kernel
theorem dL_law_277 : decode cL_law 277 = .ok (.iadd, 1) := by decide +kernel
theorem dL_law_278 : decode cL_law 278 = .ok (.iaload, 1) := by decide +kernel
theorem dL_law_279 : decode cL_law 279 = .ok (.aload_n 0, 1) := by decide +kernel
theorem dL_law_280 : decode cL_law 280 = .ok (.iload 4, 2) := by decide +kernel
theorem dL_law_282 : decode cL_law 282 = .ok (.iconst 2, 1) := by decide +kernel
theorem dL_law_283 : decode cL_law 283 = .ok (.iadd, 1) := by decide +kernel
theorem dL_law_284 : decode cL_law 284 = .ok (.iaload, 1) := by decide +kernel
theorem dL_law_285 : decode cL_law 285 = .ok (.aload_n 0, 1) := by decide +kernel
theorem dL_law_286 : decode cL_law 286 = .ok (.iload 4, 2) := by decide +kernel
theorem dL_law_288 : decode cL_law 288 = .ok (.iconst 3, 1) := by decide +kernel
theorem dL_law_289 : decode cL_law 289 = .ok (.iadd, 1) := by decide +kernel
theorem dL_law_290 : decode cL_law 290 = .ok (.iaload, 1) := by decide +kernel
theorem dL_law_291 : decode cL_law 291 = .ok (.aload_n 0, 1) := by decide +kernel
theorem dL_law_292 : decode cL_law 292 = .ok (.iload 4, 2) := by decide +kernel
theorem dL_law_294 : decode cL_law 294 = .ok (.iconst 4, 1) := by decide +kernel
theorem dL_law_295 : decode cL_law 295 = .ok (.iadd, 1) := by decide +kernel
