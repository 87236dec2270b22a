set_option maxRecDepth 20000 in
theorem ggL_law_X5_brings : GoodIn wsL_law wsX5_brings := goodIn_ca (goodIn_r _ [1172, 37, 1154, 36, 1155, 1156, 1142, 61, 59, 1173, 1174, 1175, 1176, 186, 187, 188, 60, 1269, 1270, 1271, 1272, 1273, 1274, 1275, 1276, 1277, 1278, 1279, 1280, 1281, 1302, 1303, 1304, 1305, 1306] (by decide +kernel) (by decide +kernel)) (goodIn_sub (fun _ h => List.mem_append_left _ (List.mem_append_left _ (List.mem_append_left _ (List.mem_append_left _ (List.mem_append_left _ (List.mem_append_left _ (List.mem_append_right _ h))))))) (by decide +kernel))
set_option maxRecDepth 20000 in
theorem gL_law_X5_brings : GoodIn wsL_law (wsV RL 271 RX5 yX5_brings wsX5_brings) := goodIn_app (goodIn_of _ (by decide +kernel)) ggL_law_X5_brings
set_option maxRecDepth 20000 in
theorem ggL_law_X8_brings : GoodIn wsL_law wsX8_brings := goodIn_ca (goodIn_r _ [1180, 151, 86, 402, 157, 158, 159, 75, 160, 156, 249, 250, 251, 252, 253, 254, 255, 256, 257, 258, 259, 260, 261, 262, 263, 264, 92, 1161, 1162, 1163, 5, 1164, 1165, 1166, 1167, 1168, 1181, 1182, 1183, 353, 186, 187, 188, 1282, 1283, 1284, 1285, 1286, 1287, 1288, 1289, 1290, 1314, 1315, 1316] (by decide +kernel) (by decide +kernel)) (goodIn_sub (fun _ h => List.mem_append_left _ (List.mem_append_left _ (List.mem_append_left _ (List.mem_append_left _ (List.mem_append_left _ (List.mem_append_left _ (List.mem_append_right _ h))))))) (by decide +kernel))
set_option maxRecDepth 20000 in
theorem gL_law_X8_brings : GoodIn wsL_law (wsV RL 274 RX8 yX8_brings wsX8_brings) := goodIn_app (goodIn_of _ (by decide +kernel)) ggL_law_X8_brings
set_option maxRecDepth 20000 in
theorem ggL_law_X5_bringsMost : GoodIn wsL_law wsX5_bringsMost := goodIn_ca (goodIn_r _ [1187, 37, 1188, 36, 1189, 1190, 1142, 62, 1176, 186, 187, 188, 1191, 1192, 1193, 1194, 59, 1195, 1173, 1174, 1175, 61, 60, 1269, 1270, 1271, 1272, 1273, 1274, 1275, 1276, 1277, 1278, 1279, 1280, 1281, 1302, 1303, 1304, 1305, 1306] (by decide +kernel) (by decide +kernel)) (goodIn_sub (fun _ h => List.mem_append_left _ (List.mem_append_left _ (List.mem_append_left _ (List.mem_append_left _ (List.mem_append_left _ (List.mem_append_left _ (List.mem_append_right _ h))))))) (by decide +kernel))
set_option maxRecDepth 20000 in
theorem gL_law_X5_bringsMost : GoodIn wsL_law (wsV RL 275 RX5 yX5_bringsMost wsX5_bringsMost) := goodIn_app (goodIn_of _ (by decide +kernel)) ggL_law_X5_bringsMost
set_option maxRecDepth 20000 in
theorem ggL_law_X8_bringsMost : GoodIn wsL_law wsX8_bringsMost := goodIn_ca (goodIn_r _ [1199, 151, 86, 17, 402, 353, 186, 187, 188, 157, 158, 159, 75, 160, 156, 1200, 1201, 201, 1202, 249, 250, 251, 252, 253, 254, 255, 256, 257, 258, 259, 260, 261, 262, 263, 264, 92, 1181, 1182, 5, 1183, 1282, 1283, 1284, 1285, 1286, 1287, 1288, 1289, 1290, 1314, 1315, 1316] (by decide +kernel) (by decide +kernel)) (goodIn_sub (fun _ h => List.mem_append_left _ (List.mem_append_left _ (List.mem_append_left _ (List.mem_append_left _ (List.mem_append_left _ (List.mem_append_left _ (List.mem_append_right _ h))))))) (by decide +kernel))
set_option maxRecDepth 20000 in
theorem gL_law_X8_bringsMost : GoodIn wsL_law (wsV RL 278 RX8 yX8_bringsMost wsX8_bringsMost) := goodIn_app (goodIn_of _ (by decide +kernel)) ggL_law_X8_bringsMost
set_option maxRecDepth 20000 in
theorem ggL_law_X5_checksum : GoodIn wsL_law wsX5_checksum := goodIn_ca (goodIn_r _ [1206, 1207, 126, 1208, 15, 125, 37, 431, 39, 432, 433, 67, 434, 435, 436, 437, 66, 438, 2, 439, 361, 277, 278, 1269, 1270, 1271, 1272, 1273, 1274, 1275, 1276, 1277, 1278, 1279, 1280, 1281, 1307, 1308, 1309, 1310, 1311, 1312, 1313, 1302, 1303, 1304, 1305, 1306] (by decide +kernel) (by decide +kernel)) (goodIn_sub (fun _ h => List.mem_append_left _ (List.mem_append_left _ (List.mem_append_left _ (List.mem_append_left _ (List.mem_append_left _ (List.mem_append_left _ (List.mem_append_right _ h))))))) (by decide +kernel))
set_option maxRecDepth 20000 in
theorem gL_law_X5_checksum : GoodIn wsL_law (wsV RL 279 RX5 yX5_checksum wsX5_checksum) := goodIn_app (goodIn_of _ (by decide +kernel)) ggL_law_X5_checksum
set_option maxRecDepth 20000 in
theorem ggL_law_X8_checksum : GoodIn wsL_law wsX8_checksum := goodIn_ca (goodIn_r _ [1212, 151, 1213, 76, 244, 1214, 77, 86, 283, 284, 285, 75, 286, 287, 288, 289, 290, 291, 292, 293, 294, 12, 13, 295, 296, 172, 297, 298, 299, 300, 301, 302, 303, 304, 305, 306, 307, 308, 309, 310, 311, 157, 158, 159, 160, 156, 448, 449, 450, 5, 451, 249, 250, 251, 252, 253, 254, 255, 256, 257, 258, 259, 260, 261, 262, 263, 264, 92, 452, 453, 454, 455, 402, 456, 457, 458, 140, 459, 165, 1282, 1283, 1284, 1285, 1286, 1287, 1288, 1289, 1290, 1322, 1323, 1324, 1325, 1326, 1327, 1328, 1329, 1330, 1314, 1315, 1316] (by decide +kernel) (by decide +kernel)) (goodIn_sub (fun _ h => List.mem_append_left _ (List.mem_append_left _ (List.mem_append_left _ (List.mem_append_left _ (List.mem_append_left _ (List.mem_append_left _ (List.mem_append_right _ h))))))) (by decide +kernel))
set_option maxRecDepth 20000 in
theorem gL_law_X8_checksum : GoodIn wsL_law (wsV RL 283 RX8 yX8_checksum wsX8_checksum) := goodIn_app (goodIn_of _ (by decide +kernel)) ggL_law_X8_checksum
set_option maxRecDepth 20000 in
theorem ggL_law_L_rightShare : GoodIn wsL_law wsL_rightShare := goodIn_ca (goodIn_ca (goodIn_r _ [1217, 1218, 1219, 1220, 1221, 2, 1222, 1223, 1224, 126, 125, 999, 1000, 1001, 1002, 961, 962, 963, 964, 15, 431, 39, 432, 433, 67, 434, 435, 436, 437, 66, 438, 439, 361, 277, 278, 794, 795, 796, 797, 18, 742, 743, 744, 745, 24, 23, 798, 22, 799, 800, 751, 752, 750, 45, 43, 740, 741, 1269, 1270, 1271, 1272, 1273, 1274, 1275, 1276, 1277, 1278, 1279, 1280, 1281, 1307, 1308, 1309, 1310, 1311, 1312, 1313, 1291, 1292, 1293, 1294, 1295, 1296, 1297] (by decide +kernel) (by decide +kernel)) (goodIn_sub (fun _ h => List.mem_append_left _ (List.mem_append_left _ (List.mem_append_left _ (List.mem_append_left _ (List.mem_append_left _ (List.mem_append_left _ (List.mem_append_right _ h))))))) (by decide +kernel))) (goodIn_sub (fun _ h => List.mem_append_right _ h) (by decide +kernel))
set_option maxRecDepth 20000 in
theorem gL_law_L_rightShare : GoodIn wsL_law (va_wsS RL 284 yL_rightShare wsL_rightShare) := goodIn_app (goodIn_of _ (by decide +kernel)) ggL_law_L_rightShare
set_option maxRecDepth 20000 in
theorem ggL_law_X8_rightShare : GoodIn wsL_law wsX8_rightShare := goodIn_ca (goodIn_r _ [1228, 76, 77, 157, 158, 159, 75, 160, 156, 973, 974, 975, 5, 976, 448, 449, 450, 451, 244, 249, 250, 251, 252, 253, 254, 255, 256, 257, 258, 259, 260, 261, 262, 263, 264, 92, 452, 453, 454, 455, 402, 456, 457, 458, 140, 459, 165, 805, 806, 807, 808, 79, 761, 762, 763, 764, 84, 83, 514, 515, 516, 517, 518, 519, 520, 521, 522, 523, 524, 525, 144, 145, 146, 809, 810, 811, 812, 813, 814, 815, 816, 817, 818, 628, 819, 820, 666, 667, 600, 668, 821, 822, 540, 823, 662, 663, 664, 594, 595, 596, 665, 714, 715, 716, 590, 607, 608, 147, 148, 149, 150, 151, 1282, 1283, 1284, 1285, 1286, 1287, 1288, 1289, 1290, 1314, 1315, 1316, 1322, 1323, 1324, 1325, 1326, 1317, 1318, 1319, 1320, 1321, 1335, 1336, 1337, 1338] (by decide +kernel) (by decide +kernel)) (goodIn_sub (fun _ h => List.mem_append_left _ (List.mem_append_left _ (List.mem_append_left _ (List.mem_append_left _ (List.mem_append_left _ (List.mem_append_left _ (List.mem_append_right _ h))))))) (by decide +kernel))
set_option maxRecDepth 20000 in
theorem gL_law_X8_rightShare : GoodIn wsL_law (wsV RL 287 RX8 yX8_rightShare wsX8_rightShare) := goodIn_app (goodIn_of _ (by decide +kernel)) ggL_law_X8_rightShare
set_option maxRecDepth 20000 in
theorem ggL_law_L_meanTwist : GoodIn wsL_law wsL_meanTwist := goodIn_ca (goodIn_ca (goodIn_r _ [1231, 1218, 1232, 1233, 1234, 2, 1235, 1223, 1224, 126, 15, 1269, 1270, 1271, 1272, 1273, 1274, 1275, 1276, 1277, 1278, 1279, 1280, 1281, 1307, 1308, 1309, 1310, 1311, 1312, 1313] (by decide +kernel) (by decide +kernel)) (goodIn_sub (fun _ h => List.mem_append_left _ (List.mem_append_left _ (List.mem_append_left _ (List.mem_append_left _ (List.mem_append_left _ (List.mem_append_left _ (List.mem_append_right _ h))))))) (by decide +kernel))) (goodIn_sub (fun _ h => List.mem_append_right _ h) (by decide +kernel))
set_option maxRecDepth 20000 in
theorem gL_law_L_meanTwist : GoodIn wsL_law (va_wsS RL 288 yL_meanTwist wsL_meanTwist) := goodIn_app (goodIn_of _ (by decide +kernel)) ggL_law_L_meanTwist
set_option maxRecDepth 20000 in
theorem ggL_law_X8_meanTwist : GoodIn wsL_law wsX8_meanTwist := goodIn_r _ [1239, 76, 244, 283, 284, 285, 75, 286, 287, 288, 289, 290, 291, 292, 293, 294, 12, 13, 295, 296, 172, 297, 298, 299, 300, 301, 302, 303, 304, 305, 306, 307, 308, 309, 310, 311, 152, 153, 154, 155, 156, 147, 148, 149, 5, 150, 151, 157, 158, 159, 160, 1282, 1283, 1284, 1285, 1286, 1287, 1288, 1289, 1290, 1322, 1323, 1324, 1325, 1326, 1327, 1328, 1329, 1330, 1314, 1315, 1316] (by decide +kernel) (by decide +kernel)
set_option maxRecDepth 20000 in
theorem gL_law_X8_meanTwist : GoodIn wsL_law (wsV RL 290 RX8 yX8_meanTwist wsX8_meanTwist) := goodIn_app (goodIn_of _ (by decide +kernel)) ggL_law_X8_meanTwist
set_option maxRecDepth 20000 in
theorem ggL_law_X5_isSound : GoodIn wsL_law wsX5_isSound := goodIn_ca (goodIn_r _ [1243, 126, 15, 1244, 1245, 1246, 2, 1247, 125, 344, 345, 187, 346, 1248, 438, 439, 361, 277, 278, 1249, 1250, 1251, 1252, 28, 846, 855, 27, 856, 857, 49, 858, 859, 860, 861, 862, 863, 864, 865, 866, 867, 868, 794, 795, 796, 797, 18, 742, 743, 744, 745, 24, 23, 798, 22, 799, 800, 751, 752, 750, 45, 43, 740, 741, 869, 870, 871, 50, 435, 39, 436, 437, 66, 872, 873, 874, 875, 876, 877, 878, 879, 880, 881, 882, 883, 884, 1253, 1254, 1255, 1256, 930, 931, 932, 933, 1257, 1258, 1259, 1260, 1047, 1048, 1049, 1050, 1051, 1052, 1053, 1054, 1055, 1056, 1057, 67, 1261, 1262, 1263, 1264, 1269, 1270, 1271, 1272, 1273, 1274, 1275, 1276, 1277, 1278, 1279, 1280, 1281, 1307, 1308, 1309, 1310, 1311, 1312, 1313, 1298, 1299, 1291, 1292, 1293, 1294, 1295, 1296, 1297] (by decide +kernel) (by decide +kernel)) (goodIn_sub (fun _ h => List.mem_append_left _ (List.mem_append_left _ (List.mem_append_left _ (List.mem_append_left _ (List.mem_append_left _ (List.mem_append_left _ (List.mem_append_right _ h))))))) (by decide +kernel))
set_option maxRecDepth 20000 in
theorem gL_law_X5_isSound : GoodIn wsL_law (wsV RL 291 RX5 yX5_isSound wsX5_isSound) := goodIn_app (goodIn_of _ (by decide +kernel)) ggL_law_X5_isSound
set_option maxRecDepth 20000 in
theorem ggL_law_X8_isSound : GoodIn wsL_law wsX8_isSound := goodIn_r _ [1268, 151, 1282, 1283, 1284, 1285, 1286, 1287, 1288, 1289, 1290] (by decide +kernel) (by decide +kernel)
set_option maxRecDepth 20000 in
theorem gL_law_X8_isSound : GoodIn wsL_law (wsV RL 295 RX8 yX8_isSound wsX8_isSound) := goodIn_app (goodIn_of _ (by decide +kernel)) ggL_law_X8_isSound
theorem dL_law_2452 : decode cL_law 2452 = .ok (.aload_n 1, 1) := by decide +kernel
theorem dL_law_2453 : decode cL_law 2453 = .ok (.invokevirtual 271, 3) := by decide +kernel
theorem dL_law_2456 : decode cL_law 2456 = .ok (.aload_n 2, 1) := by decide +kernel
theorem dL_law_2457 : decode cL_law 2457 = .ok (.invokevirtual 274, 3) := by decide +kernel
theorem dL_law_2460 : decode cL_law 2460 = .ok (.if_icmp .eq 176, 3) := by decide +kernel
theorem dL_law_2465 : decode cL_law 2465 = .ok (.aload_n 1, 1) := by decide +kernel
theorem dL_law_2466 : decode cL_law 2466 = .ok (.invokevirtual 275, 3) := by decide +kernel
theorem dL_law_2469 : decode cL_law 2469 = .ok (.aload_n 2, 1) := by decide +kernel
theorem dL_law_2470 : decode cL_law 2470 = .ok (.invokevirtual 278, 3) := by decide +kernel
theorem dL_law_2473 : decode cL_law 2473 = .ok (.if_icmp .eq 163, 3) := by decide +kernel
theorem dL_law_2478 : decode cL_law 2478 = .ok (.aload_n 1, 1) := by decide +kernel
theorem dL_law_2479 : decode cL_law 2479 = .ok (.invokevirtual 279, 3) := by decide +kernel
theorem dL_law_2482 : decode cL_law 2482 = .ok (.aload_n 2, 1) := by decide +kernel
theorem dL_law_2483 : decode cL_law 2483 = .ok (.invokevirtual 283, 3) := by decide +kernel
theorem dL_law_2486 : decode cL_law 2486 = .ok (.lcmp, 1) := by decide +kernel
theorem dL_law_2487 : decode cL_law 2487 = .ok (.ifCond .eq 149, 3) := by decide +kernel
theorem dL_law_2492 : decode cL_law 2492 = .ok (.aload_n 1, 1) := by decide +kernel
theorem dL_law_2493 : decode cL_law 2493 = .ok (.aload 4, 2) := by decide +kernel
theorem dL_law_2495 : decode cL_law 2495 = .ok (.invokestatic 284, 3) := by decide +kernel
theorem dL_law_2498 : decode cL_law 2498 = .ok (.istore 6, 2) := by decide +kernel
theorem dL_law_2500 : decode cL_law 2500 = .ok (.aload_n 2, 1) := by decide +kernel
theorem dL_law_2501 : decode cL_law 2501 = .ok (.invokevirtual 287, 3) := by decide +kernel
theorem dL_law_2504 : decode cL_law 2504 = .ok (.fstore 7, 2) := by decide +kernel
theorem dL_law_2506 : decode cL_law 2506 = .ok (.aload_n 2, 1) := by decide +kernel
theorem dL_law_2507 : decode cL_law 2507 = .ok (.invokevirtual 146, 3) := by decide +kernel
theorem dL_law_2510 : decode cL_law 2510 = .ok (.iload 6, 2) := by decide +kernel
theorem dL_law_2512 : decode cL_law 2512 = .ok (.if_icmp .eq 5, 3) := by decide +kernel
theorem dL_law_2517 : decode cL_law 2517 = .ok (.iload 6, 2) := by decide +kernel
theorem dL_law_2519 : decode cL_law 2519 = .ok (.ifCond .ne 36, 3) := by decide +kernel
theorem dL_law_2555 : decode cL_law 2555 = .ok (.goto 81, 3) := by decide +kernel
theorem dL_law_2558 : decode cL_law 2558 = .ok (.aload_n 1, 1) := by decide +kernel
theorem dL_law_2559 : decode cL_law 2559 = .ok (.aload 4, 2) := by decide +kernel
theorem dL_law_2561 : decode cL_law 2561 = .ok (.invokestatic 288, 3) := by decide +kernel
theorem dL_law_2564 : decode cL_law 2564 = .ok (.istore 6, 2) := by decide +kernel
theorem dL_law_2566 : decode cL_law 2566 = .ok (.aload_n 2, 1) := by decide +kernel
theorem dL_law_2567 : decode cL_law 2567 = .ok (.invokevirtual 290, 3) := by decide +kernel
theorem dL_law_2570 : decode cL_law 2570 = .ok (.dstore 7, 2) := by decide +kernel
theorem dL_law_2572 : decode cL_law 2572 = .ok (.aload_n 2, 1) := by decide +kernel
theorem dL_law_2573 : decode cL_law 2573 = .ok (.invokevirtual 146, 3) := by decide +kernel
theorem dL_law_2576 : decode cL_law 2576 = .ok (.iload 6, 2) := by decide +kernel
theorem dL_law_2578 : decode cL_law 2578 = .ok (.if_icmp .eq 5, 3) := by decide +kernel
theorem dL_law_2583 : decode cL_law 2583 = .ok (.iload 6, 2) := by decide +kernel
theorem dL_law_2585 : decode cL_law 2585 = .ok (.ifCond .ne 35, 3) := by decide +kernel
theorem dL_law_2620 : decode cL_law 2620 = .ok (.goto 16, 3) := by decide +kernel
theorem dL_law_2623 : decode cL_law 2623 = .ok (.aload_n 1, 1) := by decide +kernel
theorem dL_law_2624 : decode cL_law 2624 = .ok (.invokevirtual 291, 3) := by decide +kernel
theorem dL_law_2627 : decode cL_law 2627 = .ok (.aload_n 2, 1) := by decide +kernel
theorem dL_law_2628 : decode cL_law 2628 = .ok (.invokevirtual 295, 3) := by decide +kernel
theorem dL_law_2631 : decode cL_law 2631 = .ok (.if_icmp .eq 5, 3) := by decide +kernel
