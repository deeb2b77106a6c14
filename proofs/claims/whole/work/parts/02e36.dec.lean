set_option maxRecDepth 20000 in
theorem gL_law_X8_odds : GoodIn wsL_law (wsV RL 51 RX8 yX8_odds wsX8_odds) := goodIn_app (goodIn_of _ (by decide +kernel)) ggL_law_X8_odds
set_option maxRecDepth 20000 in
theorem ggL_law_X9_odds : GoodIn wsL_law wsX9_odds := goodIn_r _ [355, 134, 312, 311, 314, 315, 316, 5, 317, 205, 148, 149, 150, 318, 319, 320, 356, 357, 358, 359, 331, 360, 349, 350, 351, 361, 362, 363, 364, 102, 103, 104, 1236, 1237, 1238, 1239, 1240, 1241, 1242, 1243, 1244, 1245, 1246, 1247, 1248, 1249, 1250, 1251, 1252, 1253, 1254, 1255, 1256, 1257, 1258, 1259, 1260, 1261, 1262, 1263, 1264, 1265, 1266, 1267, 1268, 1269, 1270, 1271, 1272, 1273, 1274, 1275] (by decide +kernel) (by decide +kernel)
set_option maxRecDepth 20000 in
theorem gL_law_X9_odds : GoodIn wsL_law (wsV RL 54 RX9 yX9_odds wsX9_odds) := goodIn_app (goodIn_of _ (by decide +kernel)) ggL_law_X9_odds
set_option maxRecDepth 20000 in
theorem ggL_law_X8_lifter : GoodIn wsL_law wsX8_lifter := goodIn_r _ [368, 18, 369, 370, 293, 24, 371, 372, 373, 374, 294, 295, 296, 2, 297, 155, 298, 299, 300, 375, 376, 377, 23, 378, 67, 69, 74, 66, 379, 349, 350, 351, 380, 381, 382, 383, 384, 385, 386, 387, 71, 72, 1224, 1225, 1226, 1227, 1228, 1229, 1230, 1231, 1232, 1233, 1234, 1235, 1280, 1281, 1282, 1283, 1284, 1285, 1286, 1287, 1288, 1289, 1290, 1291, 1292, 1293, 1294, 1295, 1296, 1297, 1298, 1299] (by decide +kernel) (by decide +kernel)
set_option maxRecDepth 20000 in
theorem gL_law_X8_lifter : GoodIn wsL_law (wsV RL 55 RX8 yX8_lifter wsX8_lifter) := goodIn_app (goodIn_of _ (by decide +kernel)) ggL_law_X8_lifter
set_option maxRecDepth 20000 in
theorem ggL_law_X9_lifter : GoodIn wsL_law wsX9_lifter := goodIn_r _ [391, 134, 100, 101, 314, 315, 316, 5, 317, 205, 148, 149, 150, 318, 319, 320, 311, 265, 266, 267, 268, 105, 261, 262, 263, 264, 106, 392, 393, 394, 395, 360, 349, 350, 351, 257, 258, 259, 260, 253, 254, 255, 256, 396, 397, 398, 399, 400, 401, 402, 403, 404, 405, 406, 1236, 1237, 1238, 1239, 1240, 1241, 1242, 1243, 1244, 1245, 1246, 1247, 1248, 1249, 1250, 1251, 1252, 1253, 1254, 1255, 1256, 1257, 1258, 1259, 1260, 1261, 1262, 1263, 1264, 1265, 1266, 1267, 1268, 1269, 1270, 1271, 1272, 1273, 1274, 1275] (by decide +kernel) (by decide +kernel)
set_option maxRecDepth 20000 in
theorem gL_law_X9_lifter : GoodIn wsL_law (wsV RL 59 RX9 yX9_lifter wsX9_lifter) := goodIn_app (goodIn_of _ (by decide +kernel)) ggL_law_X9_lifter
set_option maxRecDepth 20000 in
theorem ggL_law_X8_called : GoodIn wsL_law wsX8_called := goodIn_r _ [410, 24, 372, 411, 412, 413, 23, 414, 62, 67, 415, 381, 382, 383, 69, 416, 417, 418, 419, 78, 420, 421, 422, 423, 424, 64, 73, 63, 425, 345, 346, 20, 347, 56, 348, 349, 350, 351, 426, 427, 428, 2, 429, 41, 42, 1224, 1225, 1226, 1227, 1228, 1229, 1230, 1231, 1232, 1233, 1234, 1235, 1284, 1285, 1286, 1287, 1288, 1289, 1290, 1291, 1292, 1293, 1294, 1295, 1296, 1297, 1298, 1299, 1280, 1281, 1282, 1283] (by decide +kernel) (by decide +kernel)
set_option maxRecDepth 20000 in
theorem gL_law_X8_called : GoodIn wsL_law (wsV RL 60 RX8 yX8_called wsX8_called) := goodIn_app (goodIn_of _ (by decide +kernel)) ggL_law_X8_called
set_option maxRecDepth 20000 in
theorem ggL_law_X9_called : GoodIn wsL_law wsX9_called := goodIn_r _ [433, 134, 434, 106, 435, 436, 437, 5, 438, 205, 396, 397, 398, 399, 261, 262, 263, 264, 257, 258, 259, 260, 253, 254, 255, 256, 439, 440, 441, 442, 101, 443, 444, 445, 446, 99, 356, 357, 358, 359, 331, 360, 349, 350, 351, 361, 362, 363, 364, 102, 103, 104, 1236, 1237, 1238, 1239, 1240, 1241, 1242, 1243, 1244, 1245, 1246, 1247, 1248, 1249, 1250, 1251, 1252, 1253, 1254, 1255, 1256, 1257, 1258, 1259, 1260, 1261, 1262, 1263, 1264, 1265, 1266, 1267, 1268, 1269, 1270, 1271, 1272, 1273, 1274, 1275] (by decide +kernel) (by decide +kernel)
set_option maxRecDepth 20000 in
theorem gL_law_X9_called : GoodIn wsL_law (wsV RL 63 RX9 yX9_called wsX9_called) := goodIn_app (goodIn_of _ (by decide +kernel)) ggL_law_X9_called
set_option maxRecDepth 20000 in
theorem ggL_law_X8_order : GoodIn wsL_law wsX8_order := goodIn_r _ [450, 42, 24, 155, 41, 372, 380, 381, 382, 23, 383, 67, 69, 451, 417, 418, 419, 62, 78, 420, 415, 1224, 1225, 1226, 1227, 1228, 1229, 1230, 1231, 1232, 1233, 1234, 1235, 1284, 1285, 1286, 1287, 1288, 1289, 1290, 1291, 1292, 1293, 1294, 1295, 1296, 1297, 1298, 1299, 1280, 1281, 1282, 1283] (by decide +kernel) (by decide +kernel)
set_option maxRecDepth 20000 in
theorem gL_law_X8_order : GoodIn wsL_law (wsV RL 64 RX8 yX8_order wsX8_order) := goodIn_app (goodIn_of _ (by decide +kernel)) ggL_law_X8_order
set_option maxRecDepth 20000 in
theorem ggL_law_X9_order : GoodIn wsL_law wsX9_order := goodIn_r _ [455, 134, 434, 205, 396, 397, 398, 5, 399, 261, 262, 263, 264, 106, 257, 258, 259, 260, 253, 254, 255, 256, 456, 457, 458, 459, 439, 440, 441, 442, 101, 400, 401, 402, 443, 444, 445, 446, 99, 1236, 1237, 1238, 1239, 1240, 1241, 1242, 1243, 1244, 1245, 1246, 1247, 1248, 1249, 1250, 1251, 1252, 1253, 1254, 1255, 1256, 1257, 1258, 1259, 1260, 1261, 1262, 1263, 1264, 1265, 1266, 1267, 1268, 1269, 1270, 1271, 1272, 1273, 1274, 1275] (by decide +kernel) (by decide +kernel)
set_option maxRecDepth 20000 in
theorem gL_law_X9_order : GoodIn wsL_law (wsV RL 67 RX9 yX9_order wsX9_order) := goodIn_app (goodIn_of _ (by decide +kernel)) ggL_law_X9_order
set_option maxRecDepth 20000 in
theorem ggL_law_X8_asks : GoodIn wsL_law wsX8_asks := goodIn_r _ [463, 24, 373, 372, 294, 295, 296, 2, 297, 155, 304, 305, 306, 380, 381, 382, 23, 383, 67, 69, 375, 376, 377, 378, 74, 66, 379, 349, 350, 351, 1224, 1225, 1226, 1227, 1228, 1229, 1230, 1231, 1232, 1233, 1234, 1235, 1284, 1285, 1286, 1287, 1288, 1289, 1290, 1291, 1292, 1293, 1294, 1295, 1296, 1297, 1298, 1299] (by decide +kernel) (by decide +kernel)
set_option maxRecDepth 20000 in
theorem gL_law_X8_asks : GoodIn wsL_law (wsV RL 68 RX8 yX8_asks wsX8_asks) := goodIn_app (goodIn_of _ (by decide +kernel)) ggL_law_X8_asks
set_option maxRecDepth 20000 in
theorem ggL_law_X9_asks : GoodIn wsL_law wsX9_asks := goodIn_r _ [467, 134, 312, 314, 315, 316, 5, 317, 205, 148, 149, 150, 396, 397, 398, 399, 261, 262, 263, 264, 106, 257, 258, 259, 260, 253, 254, 255, 256, 392, 393, 394, 395, 360, 349, 350, 351, 269, 270, 271, 272, 1236, 1237, 1238, 1239, 1240, 1241, 1242, 1243, 1244, 1245, 1246, 1247, 1248, 1249, 1250, 1251, 1252, 1253, 1254, 1255, 1256, 1257, 1258, 1259, 1260, 1261, 1262, 1263, 1264, 1265, 1266, 1267, 1268, 1269, 1270, 1271, 1272, 1273, 1274, 1275] (by decide +kernel) (by decide +kernel)
set_option maxRecDepth 20000 in
theorem gL_law_X9_asks : GoodIn wsL_law (wsV RL 72 RX9 yX9_asks wsX9_asks) := goodIn_app (goodIn_of _ (by decide +kernel)) ggL_law_X9_asks
set_option maxRecDepth 20000 in
theorem ggL_law_X8_tries : GoodIn wsL_law wsX8_tries := goodIn_r _ [471, 24, 372, 411, 412, 413, 23, 414, 62, 67, 415, 381, 382, 383, 69, 416, 417, 418, 419, 78, 420, 472, 473, 474, 475, 64, 76, 194, 75, 66, 379, 349, 350, 351, 77, 72, 74, 73, 65, 426, 427, 428, 2, 429, 41, 42, 476, 477, 478, 479, 480, 195, 196, 197, 198, 70, 481, 482, 483, 484, 71, 190, 191, 192, 193, 1224, 1225, 1226, 1227, 1228, 1229, 1230, 1231, 1232, 1233, 1234, 1235, 1284, 1285, 1286, 1287, 1288, 1289, 1290, 1291, 1292, 1293, 1294, 1295, 1296, 1297, 1298, 1299, 1280, 1281, 1282, 1283] (by decide +kernel) (by decide +kernel)
set_option maxRecDepth 20000 in
theorem gL_law_X8_tries : GoodIn wsL_law (wsV RL 73 RX8 yX8_tries wsX8_tries) := goodIn_app (goodIn_of _ (by decide +kernel)) ggL_law_X8_tries
set_option maxRecDepth 20000 in
theorem ggL_law_X9_tries : GoodIn wsL_law wsX9_tries := goodIn_r _ [488, 134, 434, 489, 435, 436, 437, 5, 438, 205, 396, 397, 398, 399, 261, 262, 263, 264, 106, 257, 258, 259, 260, 253, 254, 255, 256, 439, 440, 441, 442, 101, 490, 491, 492, 493, 360, 349, 350, 351, 108, 247, 248, 494, 495, 496, 497, 265, 266, 267, 268, 105, 269, 270, 271, 272, 400, 401, 402, 498, 499, 500, 501, 502, 503, 504, 505, 249, 250, 251, 252, 273, 274, 275, 276, 277, 278, 279, 280, 443, 444, 445, 446, 99, 1236, 1237, 1238, 1239, 1240, 1241, 1242, 1243, 1244, 1245, 1246, 1247, 1248, 1249, 1250, 1251, 1252, 1253, 1254, 1255, 1256, 1257, 1258, 1259, 1260, 1261, 1262, 1263, 1264, 1265, 1266, 1267, 1268, 1269, 1270, 1271, 1272, 1273, 1274, 1275] (by decide +kernel) (by decide +kernel)
set_option maxRecDepth 20000 in
theorem gL_law_X9_tries : GoodIn wsL_law (wsV RL 77 RX9 yX9_tries wsX9_tries) := goodIn_app (goodIn_of _ (by decide +kernel)) ggL_law_X9_tries
set_option maxRecDepth 20000 in
theorem ggL_law_X8_tried : GoodIn wsL_law wsX8_tried := goodIn_r _ [509, 24, 510, 511, 1224, 1225, 1226, 1227, 1228, 1229, 1230, 1231, 1232, 1233, 1234, 1235, 1284, 1285, 1286, 1287, 1288, 1289, 1290, 1291, 1292, 1293, 1294, 1295, 1296, 1297, 1298, 1299] (by decide +kernel) (by decide +kernel)
set_option maxRecDepth 20000 in
theorem gL_law_X8_tried : GoodIn wsL_law (wsV RL 78 RX8 yX8_tried wsX8_tried) := goodIn_app (goodIn_of _ (by decide +kernel)) ggL_law_X8_tried
set_option maxRecDepth 20000 in
theorem ggL_law_X9_tried : GoodIn wsL_law wsX9_tried := goodIn_r _ [515, 134, 247, 516, 108, 148, 149, 5, 150, 1236, 1237, 1238, 1239, 1240, 1241, 1242, 1243, 1244, 1245, 1246, 1247, 1248, 1249, 1250, 1251, 1252, 1253, 1254, 1255, 1256, 1257, 1258, 1259, 1260, 1261, 1262, 1263, 1264, 1265, 1266, 1267, 1268, 1269, 1270, 1271, 1272, 1273, 1274, 1275] (by decide +kernel) (by decide +kernel)
set_option maxRecDepth 20000 in
theorem gL_law_X9_tried : GoodIn wsL_law (wsV RL 81 RX9 yX9_tried wsX9_tried) := goodIn_app (goodIn_of _ (by decide +kernel)) ggL_law_X9_tried
set_option maxRecDepth 20000 in
theorem ggL_law_X8_place : GoodIn wsL_law wsX8_place := goodIn_r _ [520, 24, 294, 295, 296, 2, 297, 155, 521, 522, 523, 524, 41, 42, 525, 526, 527, 23, 528, 62, 529, 530, 531, 532, 71, 78, 533, 385, 386, 387, 72, 534, 535, 536, 20, 537, 538, 539, 1224, 1225, 1226, 1227, 1228, 1229, 1230, 1231, 1232, 1233, 1234, 1235, 1284, 1285, 1286, 1287, 1288, 1289, 1290, 1291, 1292, 1293, 1294, 1295, 1296, 1297, 1298, 1299, 1280, 1281, 1282, 1283] (by decide +kernel) (by decide +kernel)
set_option maxRecDepth 20000 in
theorem gL_law_X8_place : GoodIn wsL_law (wsV RL 82 RX8 yX8_place wsX8_place) := goodIn_app (goodIn_of _ (by decide +kernel)) ggL_law_X8_place
set_option maxRecDepth 20000 in
theorem ggL_law_X9_place : GoodIn wsL_law wsX9_place := goodIn_r _ [543, 134, 314, 315, 316, 5, 317, 205, 148, 149, 150, 544, 545, 546, 547, 434, 548, 549, 550, 551, 552, 553, 554, 555, 257, 258, 259, 260, 261, 262, 263, 264, 106, 403, 404, 405, 406, 556, 557, 558, 559, 100, 101, 400, 401, 402, 443, 444, 445, 446, 99, 1236, 1237, 1238, 1239, 1240, 1241, 1242, 1243, 1244, 1245, 1246, 1247, 1248, 1249, 1250, 1251, 1252, 1253, 1254, 1255, 1256, 1257, 1258, 1259, 1260, 1261, 1262, 1263, 1264, 1265, 1266, 1267, 1268, 1269, 1270, 1271, 1272, 1273, 1274, 1275] (by decide +kernel) (by decide +kernel)
set_option maxRecDepth 20000 in
theorem gL_law_X9_place : GoodIn wsL_law (wsV RL 85 RX9 yX9_place wsX9_place) := goodIn_app (goodIn_of _ (by decide +kernel)) ggL_law_X9_place
set_option maxRecDepth 20000 in
theorem ggL_law_X8_slot : GoodIn wsL_law wsX8_slot := goodIn_r _ [563, 24, 294, 295, 296, 2, 297, 155, 380, 381, 382, 23, 383, 67, 69, 375, 376, 377, 378, 74, 66, 379, 349, 350, 351, 451, 417, 418, 419, 62, 78, 420, 415, 1224, 1225, 1226, 1227, 1228, 1229, 1230, 1231, 1232, 1233, 1234, 1235, 1284, 1285, 1286, 1287, 1288, 1289, 1290, 1291, 1292, 1293, 1294, 1295, 1296, 1297, 1298, 1299, 1280, 1281, 1282, 1283] (by decide +kernel) (by decide +kernel)
set_option maxRecDepth 20000 in
theorem gL_law_X8_slot : GoodIn wsL_law (wsV RL 86 RX8 yX8_slot wsX8_slot) := goodIn_app (goodIn_of _ (by decide +kernel)) ggL_law_X8_slot
set_option maxRecDepth 20000 in
theorem ggL_law_X9_slot : GoodIn wsL_law wsX9_slot := goodIn_r _ [567, 134, 314, 315, 316, 5, 317, 205, 148, 149, 150, 396, 397, 398, 399, 261, 262, 263, 264, 106, 257, 258, 259, 260, 253, 254, 255, 256, 392, 393, 394, 395, 360, 349, 350, 351, 269, 270, 271, 272, 456, 457, 458, 459, 439, 440, 441, 442, 101, 400, 401, 402, 1236, 1237, 1238, 1239, 1240, 1241, 1242, 1243, 1244, 1245, 1246, 1247, 1248, 1249, 1250, 1251, 1252, 1253, 1254, 1255, 1256, 1257, 1258, 1259, 1260, 1261, 1262, 1263, 1264, 1265, 1266, 1267, 1268, 1269, 1270, 1271, 1272, 1273, 1274, 1275] (by decide +kernel) (by decide +kernel)
set_option maxRecDepth 20000 in
theorem gL_law_X9_slot : GoodIn wsL_law (wsV RL 89 RX9 yX9_slot wsX9_slot) := goodIn_app (goodIn_of _ (by decide +kernel)) ggL_law_X9_slot
set_option maxRecDepth 20000 in
theorem ggL_law_X8_needs : GoodIn wsL_law wsX8_needs := goodIn_r _ [571, 24, 372, 294, 295, 296, 2, 297, 155, 572, 530, 531, 23, 532, 71, 78, 533, 385, 386, 387, 72, 534, 535, 536, 20, 537, 538, 539, 375, 376, 377, 378, 67, 69, 74, 66, 379, 349, 350, 351, 573, 574, 575, 576, 64, 1224, 1225, 1226, 1227, 1228, 1229, 1230, 1231, 1232, 1233, 1234, 1235, 1284, 1285, 1286, 1287, 1288, 1289, 1290, 1291, 1292, 1293, 1294, 1295, 1296, 1297, 1298, 1299, 1280, 1281, 1282, 1283] (by decide +kernel) (by decide +kernel)
set_option maxRecDepth 20000 in
theorem gL_law_X8_needs : GoodIn wsL_law (wsV RL 90 RX8 yX8_needs wsX8_needs) := goodIn_app (goodIn_of _ (by decide +kernel)) ggL_law_X8_needs
set_option maxRecDepth 20000 in
theorem ggL_law_X9_needs : GoodIn wsL_law wsX9_needs := goodIn_r _ [580, 134, 106, 360, 349, 350, 351, 314, 315, 316, 5, 317, 205, 148, 149, 150, 552, 553, 554, 555, 257, 258, 259, 260, 261, 262, 263, 264, 403, 404, 405, 406, 556, 557, 558, 559, 100, 101, 392, 393, 394, 395, 253, 254, 255, 256, 269, 270, 271, 272, 1236, 1237, 1238, 1239, 1240, 1241, 1242, 1243, 1244, 1245, 1246, 1247, 1248, 1249, 1250, 1251, 1252, 1253, 1254, 1255, 1256, 1257, 1258, 1259, 1260, 1261, 1262, 1263, 1264, 1265, 1266, 1267, 1268, 1269, 1270, 1271, 1272, 1273, 1274, 1275] (by decide +kernel) (by decide +kernel)
set_option maxRecDepth 20000 in
theorem gL_law_X9_needs : GoodIn wsL_law (wsV RL 93 RX9 yX9_needs wsX9_needs) := goodIn_app (goodIn_of _ (by decide +kernel)) ggL_law_X9_needs
set_option maxRecDepth 20000 in
theorem ggL_law_X8_mass : GoodIn wsL_law wsX8_mass := goodIn_r _ [584, 33, 294, 295, 296, 2, 297, 24, 155, 585, 586, 587, 32, 588, 85, 86, 589, 590, 591, 592, 37, 18, 325, 29, 593, 594, 595, 36, 596, 90, 91, 92, 94, 597, 598, 599, 600, 601, 602, 603, 28, 604, 605, 606, 607, 608, 609, 610, 611, 612, 613, 614, 615, 616, 617, 618, 619, 620, 385, 386, 23, 387, 71, 72, 621, 376, 377, 378, 67, 69, 74, 66, 379, 349, 350, 351, 622, 623, 624, 625, 626, 627, 628, 629, 630, 631, 632, 633, 634, 635, 636, 637, 638, 639, 640, 641, 642, 643, 644, 645, 345, 346, 20, 347, 56, 348, 646, 647, 1224, 1225, 1226, 1227, 1228, 1229, 1230, 1231, 1232, 1233, 1234, 1235, 1284, 1285, 1286, 1287, 1288, 1289, 1290, 1291, 1292, 1293, 1294, 1295, 1296, 1297, 1298, 1299, 1308, 1309, 1310, 1311, 1312, 1313, 1300, 1301, 1302, 1303, 1304, 1305, 1306, 1307, 1280, 1281, 1282, 1283] (by decide +kernel) (by decide +kernel)
set_option maxRecDepth 20000 in
theorem gL_law_X8_mass : GoodIn wsL_law (wsV RL 94 RX8 yX8_mass wsX8_mass) := goodIn_app (goodIn_of _ (by decide +kernel)) ggL_law_X8_mass
set_option maxRecDepth 20000 in
theorem ggL_law_X9_mass : GoodIn wsL_law wsX9_mass := goodIn_r _ [651, 134, 314, 315, 316, 5, 317, 205, 148, 149, 150, 652, 653, 654, 655, 114, 656, 657, 658, 659, 106, 257, 258, 259, 260, 261, 262, 263, 264, 253, 254, 255, 256, 403, 404, 405, 406, 660, 661, 662, 663, 664, 665, 666, 667, 668, 669, 670, 671, 360, 349, 350, 351, 672, 673, 674, 494, 495, 496, 497, 265, 266, 267, 268, 105, 356, 357, 358, 359, 331, 361, 362, 363, 364, 102, 103, 104, 675, 676, 677, 678, 679, 1236, 1237, 1238, 1239, 1240, 1241, 1242, 1243, 1244, 1245, 1246, 1247, 1248, 1249, 1250, 1251, 1252, 1253, 1254, 1255, 1256, 1257, 1258, 1259, 1260, 1261, 1262, 1263, 1264, 1265, 1266, 1267, 1268, 1269, 1270, 1271, 1272, 1273, 1274, 1275] (by decide +kernel) (by decide +kernel)
