set_option maxRecDepth 20000 in
theorem ggL_law_L_setGround : GoodIn wsL_law wsL_setGround := goodIn_ca (goodIn_ca (goodIn_r _ [778, 112, 779, 780, 781, 2, 782, 127, 128, 129, 119, 120, 742, 743, 744, 745, 24, 23, 1291, 1292, 1293, 1294, 1295, 1296, 1297, 1269, 1270, 1271, 1272, 1273, 1274, 1275, 1276, 1277, 1278, 1279, 1280, 1281] (by decide +kernel) (by decide +kernel)) (goodIn_sub (fun _ h => List.mem_append_left _ (List.mem_append_left _ (List.mem_append_left _ (List.mem_append_left _ (List.mem_append_left _ (List.mem_append_left _ (List.mem_append_right _ h))))))) (by decide +kernel))) (goodIn_sub (fun _ h => List.mem_append_left _ (List.mem_append_left _ (List.mem_append_left _ (List.mem_append_left _ (List.mem_append_left _ (List.mem_append_right _ h)))))) (by decide +kernel))
set_option maxRecDepth 20000 in
theorem gL_law_L_setGround : GoodIn wsL_law (va_wsS RL 212 yL_setGround wsL_setGround) := goodIn_app (goodIn_of _ (by decide +kernel)) ggL_law_L_setGround
set_option maxRecDepth 20000 in
theorem ggL_law_X8_setGround : GoodIn wsL_law wsX8_setGround := goodIn_r _ [786, 141, 142, 5, 143, 144, 145, 146, 147, 148, 149, 150, 151, 761, 762, 763, 764, 84, 83, 1317, 1318, 1319, 1320, 1321, 1282, 1283, 1284, 1285, 1286, 1287, 1288, 1289, 1290] (by decide +kernel) (by decide +kernel)
set_option maxRecDepth 20000 in
theorem gL_law_X8_setGround : GoodIn wsL_law (wsV RL 214 RX8 yX8_setGround wsX8_setGround) := goodIn_app (goodIn_of _ (by decide +kernel)) ggL_law_X8_setGround
set_option maxRecDepth 20000 in
theorem ggL_law_L_wanted : GoodIn wsL_law wsL_wanted := goodIn_ca (goodIn_ca (goodIn_ca (goodIn_r _ [789, 226, 112, 790, 791, 792, 2, 793, 231, 232, 233, 234, 235, 236, 126, 736, 737, 738, 119, 120, 794, 795, 796, 797, 18, 742, 743, 744, 745, 24, 23, 798, 22, 799, 800, 751, 752, 750, 45, 43, 740, 741, 1269, 1270, 1271, 1272, 1273, 1274, 1275, 1276, 1277, 1278, 1279, 1280, 1281, 1291, 1292, 1293, 1294, 1295, 1296, 1297] (by decide +kernel) (by decide +kernel)) (goodIn_sub (fun _ h => List.mem_append_left _ (List.mem_append_left _ (List.mem_append_left _ (List.mem_append_left _ (List.mem_append_left _ (List.mem_append_left _ (List.mem_append_right _ h))))))) (by decide +kernel))) (goodIn_sub (fun _ h => List.mem_append_left _ (List.mem_append_left _ (List.mem_append_right _ h))) (by decide +kernel))) (goodIn_sub (fun _ h => List.mem_append_left _ (List.mem_append_left _ (List.mem_append_left _ (List.mem_append_left _ (List.mem_append_left _ (List.mem_append_right _ h)))))) (by decide +kernel))
set_option maxRecDepth 20000 in
theorem gL_law_L_wanted : GoodIn wsL_law (va_wsS RL 215 yL_wanted wsL_wanted) := goodIn_app (goodIn_of _ (by decide +kernel)) ggL_law_L_wanted
set_option maxRecDepth 20000 in
theorem ggL_law_X8_wanted : GoodIn wsL_law wsX8_wanted := goodIn_ca (goodIn_r _ [804, 245, 246, 247, 5, 248, 76, 157, 158, 159, 75, 160, 156, 144, 145, 146, 147, 148, 149, 150, 151, 805, 806, 807, 808, 79, 761, 762, 763, 764, 84, 83, 514, 515, 516, 517, 518, 519, 520, 521, 522, 523, 524, 525, 809, 810, 811, 812, 813, 814, 815, 816, 817, 818, 628, 819, 820, 666, 667, 600, 668, 258, 259, 260, 821, 822, 540, 823, 662, 663, 664, 594, 595, 596, 665, 714, 715, 716, 590, 607, 608, 1282, 1283, 1284, 1285, 1286, 1287, 1288, 1289, 1290, 1314, 1315, 1316, 1317, 1318, 1319, 1320, 1321, 1335, 1336, 1337, 1338] (by decide +kernel) (by decide +kernel)) (goodIn_sub (fun _ h => List.mem_append_left _ (List.mem_append_left _ (List.mem_append_left _ (List.mem_append_left _ (List.mem_append_left _ (List.mem_append_left _ (List.mem_append_right _ h))))))) (by decide +kernel))
set_option maxRecDepth 20000 in
theorem gL_law_X8_wanted : GoodIn wsL_law (wsV RL 217 RX8 yX8_wanted wsX8_wanted) := goodIn_app (goodIn_of _ (by decide +kernel)) ggL_law_X8_wanted
set_option maxRecDepth 20000 in
theorem ggL_law_L_pairs : GoodIn wsL_law wsL_pairs := goodIn_ca (goodIn_ca (goodIn_r _ [826, 226, 827, 828, 829, 2, 830, 15, 231, 232, 233, 234, 235, 236, 126, 831, 832, 833, 435, 39, 436, 437, 66, 438, 439, 361, 277, 278, 1269, 1270, 1271, 1272, 1273, 1274, 1275, 1276, 1277, 1278, 1279, 1280, 1281, 1307, 1308, 1309, 1310, 1311, 1312, 1313] (by decide +kernel) (by decide +kernel)) (goodIn_sub (fun _ h => List.mem_append_left _ (List.mem_append_left _ (List.mem_append_left _ (List.mem_append_left _ (List.mem_append_left _ (List.mem_append_left _ (List.mem_append_right _ h))))))) (by decide +kernel))) (goodIn_sub (fun _ h => List.mem_append_left _ (List.mem_append_left _ (List.mem_append_right _ h))) (by decide +kernel))
set_option maxRecDepth 20000 in
theorem gL_law_L_pairs : GoodIn wsL_law (va_wsS RL 218 yL_pairs wsL_pairs) := goodIn_app (goodIn_of _ (by decide +kernel)) ggL_law_L_pairs
set_option maxRecDepth 20000 in
theorem ggL_law_X8_pairs : GoodIn wsL_law wsX8_pairs := goodIn_ca (goodIn_r _ [837, 838, 76, 244, 245, 246, 247, 5, 248, 157, 158, 159, 75, 160, 156, 144, 145, 146, 147, 148, 149, 150, 151, 249, 250, 251, 252, 253, 254, 255, 256, 257, 258, 259, 260, 261, 262, 263, 264, 92, 456, 457, 458, 140, 459, 165, 1282, 1283, 1284, 1285, 1286, 1287, 1288, 1289, 1290, 1314, 1315, 1316, 1322, 1323, 1324, 1325, 1326] (by decide +kernel) (by decide +kernel)) (goodIn_sub (fun _ h => List.mem_append_left _ (List.mem_append_left _ (List.mem_append_left _ (List.mem_append_left _ (List.mem_append_left _ (List.mem_append_left _ (List.mem_append_right _ h))))))) (by decide +kernel))
set_option maxRecDepth 20000 in
theorem gL_law_X8_pairs : GoodIn wsL_law (wsV RL 220 RX8 yX8_pairs wsX8_pairs) := goodIn_app (goodIn_of _ (by decide +kernel)) ggL_law_X8_pairs
set_option maxRecDepth 20000 in
theorem ggL_law_L_canPlan : GoodIn wsL_law wsL_canPlan := goodIn_ca (goodIn_ca (goodIn_ca (goodIn_r _ [841, 226, 112, 842, 843, 844, 2, 845, 846, 231, 232, 233, 234, 235, 236, 126, 847, 848, 849, 850, 119, 120, 125, 851, 852, 853, 854, 28, 15, 855, 27, 856, 857, 49, 858, 859, 860, 861, 862, 863, 864, 865, 866, 867, 868, 794, 795, 796, 797, 18, 742, 743, 744, 745, 24, 23, 798, 22, 799, 800, 751, 752, 750, 45, 43, 740, 741, 869, 870, 871, 50, 435, 39, 436, 437, 66, 438, 439, 361, 277, 278, 872, 873, 874, 875, 876, 877, 878, 187, 879, 880, 881, 882, 883, 884, 1269, 1270, 1271, 1272, 1273, 1274, 1275, 1276, 1277, 1278, 1279, 1280, 1281, 1307, 1308, 1309, 1310, 1311, 1312, 1313, 1298, 1299, 1291, 1292, 1293, 1294, 1295, 1296, 1297] (by decide +kernel) (by decide +kernel)) (goodIn_sub (fun _ h => List.mem_append_left _ (List.mem_append_left _ (List.mem_append_left _ (List.mem_append_left _ (List.mem_append_left _ (List.mem_append_left _ (List.mem_append_right _ h))))))) (by decide +kernel))) (goodIn_sub (fun _ h => List.mem_append_left _ (List.mem_append_left _ (List.mem_append_right _ h))) (by decide +kernel))) (goodIn_sub (fun _ h => List.mem_append_left _ (List.mem_append_left _ (List.mem_append_left _ (List.mem_append_left _ (List.mem_append_left _ (List.mem_append_right _ h)))))) (by decide +kernel))
set_option maxRecDepth 20000 in
theorem gL_law_L_canPlan : GoodIn wsL_law (va_wsS RL 221 yL_canPlan wsL_canPlan) := goodIn_app (goodIn_of _ (by decide +kernel)) ggL_law_L_canPlan
set_option maxRecDepth 20000 in
theorem ggL_law_X8_canPlan : GoodIn wsL_law wsX8_canPlan := goodIn_ca (goodIn_r _ [888, 245, 246, 247, 5, 248, 76, 157, 158, 159, 75, 160, 156, 144, 145, 146, 147, 148, 149, 150, 151, 889, 890, 891, 892, 77, 893, 894, 895, 896, 244, 249, 250, 251, 252, 253, 254, 255, 256, 257, 258, 259, 260, 261, 262, 263, 264, 92, 897, 898, 899, 900, 901, 213, 187, 214, 902, 903, 904, 905, 456, 457, 458, 140, 459, 165, 805, 806, 807, 808, 79, 761, 762, 763, 764, 84, 83, 514, 515, 516, 517, 518, 519, 520, 521, 522, 523, 524, 525, 809, 810, 811, 812, 813, 814, 815, 816, 817, 818, 628, 819, 820, 666, 667, 600, 668, 821, 822, 540, 823, 662, 663, 664, 594, 595, 596, 665, 714, 715, 716, 590, 607, 608, 1282, 1283, 1284, 1285, 1286, 1287, 1288, 1289, 1290, 1314, 1315, 1316, 1322, 1323, 1324, 1325, 1326, 1317, 1318, 1319, 1320, 1321, 1335, 1336, 1337, 1338] (by decide +kernel) (by decide +kernel)) (goodIn_sub (fun _ h => List.mem_append_left _ (List.mem_append_left _ (List.mem_append_left _ (List.mem_append_left _ (List.mem_append_left _ (List.mem_append_left _ (List.mem_append_right _ h))))))) (by decide +kernel))
set_option maxRecDepth 20000 in
theorem gL_law_X8_canPlan : GoodIn wsL_law (wsV RL 223 RX8 yX8_canPlan wsX8_canPlan) := goodIn_app (goodIn_of _ (by decide +kernel)) ggL_law_X8_canPlan
set_option maxRecDepth 20000 in
theorem ggL_law_L_reversals : GoodIn wsL_law wsL_reversals := goodIn_ca (goodIn_ca (goodIn_ca (goodIn_ca (goodIn_r _ [908, 226, 112, 909, 910, 911, 912, 2, 913, 231, 232, 233, 234, 235, 236, 126, 847, 848, 849, 850, 119, 120, 125, 851, 852, 853, 854, 28, 15, 855, 27, 856, 857, 49, 858, 859, 860, 861, 862, 863, 864, 865, 866, 867, 868, 794, 795, 796, 797, 18, 742, 743, 744, 745, 24, 23, 798, 22, 799, 800, 751, 752, 750, 45, 43, 740, 741, 869, 870, 871, 50, 435, 39, 436, 437, 66, 438, 439, 361, 277, 278, 872, 873, 874, 875, 876, 877, 878, 187, 879, 880, 881, 882, 883, 884, 914, 915, 916, 917, 918, 846, 1269, 1270, 1271, 1272, 1273, 1274, 1275, 1276, 1277, 1278, 1279, 1280, 1281, 1307, 1308, 1309, 1310, 1311, 1312, 1313, 1298, 1299, 1291, 1292, 1293, 1294, 1295, 1296, 1297] (by decide +kernel) (by decide +kernel)) (goodIn_sub (fun _ h => List.mem_append_left _ (List.mem_append_left _ (List.mem_append_left _ (List.mem_append_left _ (List.mem_append_left _ (List.mem_append_left _ (List.mem_append_right _ h))))))) (by decide +kernel))) (goodIn_sub (fun _ h => List.mem_append_left _ (List.mem_append_left _ (List.mem_append_right _ h))) (by decide +kernel))) (goodIn_sub (fun _ h => List.mem_append_left _ (List.mem_append_left _ (List.mem_append_left _ (List.mem_append_left _ (List.mem_append_left _ (List.mem_append_right _ h)))))) (by decide +kernel))) (goodIn_sub (fun _ h => List.mem_append_left _ (List.mem_append_right _ h)) (by decide +kernel))
set_option maxRecDepth 20000 in
theorem gL_law_L_reversals : GoodIn wsL_law (va_wsS RL 224 yL_reversals wsL_reversals) := goodIn_app (goodIn_of _ (by decide +kernel)) ggL_law_L_reversals
set_option maxRecDepth 20000 in
theorem ggL_law_X8_reversals : GoodIn wsL_law wsX8_reversals := goodIn_ca (goodIn_r _ [922, 245, 246, 247, 5, 248, 76, 157, 158, 159, 75, 160, 156, 144, 145, 146, 147, 148, 149, 150, 151, 889, 890, 891, 892, 77, 893, 894, 895, 896, 244, 249, 250, 251, 252, 253, 254, 255, 256, 257, 258, 259, 260, 261, 262, 263, 264, 92, 897, 898, 899, 900, 901, 213, 187, 214, 902, 903, 904, 905, 456, 457, 458, 140, 459, 165, 805, 806, 807, 808, 79, 761, 762, 763, 764, 84, 83, 514, 515, 516, 517, 518, 519, 520, 521, 522, 523, 524, 525, 809, 810, 811, 812, 813, 814, 815, 816, 817, 818, 628, 819, 820, 666, 667, 600, 668, 821, 822, 540, 823, 662, 663, 664, 594, 595, 596, 665, 714, 715, 716, 590, 607, 608, 1282, 1283, 1284, 1285, 1286, 1287, 1288, 1289, 1290, 1314, 1315, 1316, 1322, 1323, 1324, 1325, 1326, 1317, 1318, 1319, 1320, 1321, 1335, 1336, 1337, 1338] (by decide +kernel) (by decide +kernel)) (goodIn_sub (fun _ h => List.mem_append_left _ (List.mem_append_left _ (List.mem_append_left _ (List.mem_append_left _ (List.mem_append_left _ (List.mem_append_left _ (List.mem_append_right _ h))))))) (by decide +kernel))
set_option maxRecDepth 20000 in
theorem gL_law_X8_reversals : GoodIn wsL_law (wsV RL 226 RX8 yX8_reversals wsX8_reversals) := goodIn_app (goodIn_of _ (by decide +kernel)) ggL_law_X8_reversals
set_option maxRecDepth 20000 in
theorem ggL_law_L_planAt : GoodIn wsL_law wsL_planAt := goodIn_ca (goodIn_ca (goodIn_ca (goodIn_ca (goodIn_r _ [925, 226, 112, 909, 926, 927, 928, 2, 929, 917, 918, 125, 231, 232, 233, 234, 235, 236, 126, 847, 848, 849, 850, 119, 120, 851, 852, 853, 854, 28, 15, 855, 27, 856, 857, 49, 858, 859, 860, 861, 862, 863, 864, 865, 866, 867, 868, 794, 795, 796, 797, 18, 742, 743, 744, 745, 24, 23, 798, 22, 799, 800, 751, 752, 750, 45, 43, 740, 741, 869, 870, 871, 50, 435, 39, 436, 437, 66, 438, 439, 361, 277, 278, 872, 873, 874, 875, 876, 877, 878, 187, 879, 880, 881, 882, 883, 884, 914, 915, 916, 846, 930, 931, 932, 933, 1269, 1270, 1271, 1272, 1273, 1274, 1275, 1276, 1277, 1278, 1279, 1280, 1281, 1307, 1308, 1309, 1310, 1311, 1312, 1313, 1298, 1299, 1291, 1292, 1293, 1294, 1295, 1296, 1297] (by decide +kernel) (by decide +kernel)) (goodIn_sub (fun _ h => List.mem_append_left _ (List.mem_append_left _ (List.mem_append_left _ (List.mem_append_left _ (List.mem_append_left _ (List.mem_append_left _ (List.mem_append_right _ h))))))) (by decide +kernel))) (goodIn_sub (fun _ h => List.mem_append_left _ (List.mem_append_right _ h)) (by decide +kernel))) (goodIn_sub (fun _ h => List.mem_append_left _ (List.mem_append_left _ (List.mem_append_right _ h))) (by decide +kernel))) (goodIn_sub (fun _ h => List.mem_append_left _ (List.mem_append_left _ (List.mem_append_left _ (List.mem_append_left _ (List.mem_append_left _ (List.mem_append_right _ h)))))) (by decide +kernel))
set_option maxRecDepth 20000 in
theorem gL_law_L_planAt : GoodIn wsL_law (va_wsS RL 227 yL_planAt wsL_planAt) := goodIn_app (goodIn_of _ (by decide +kernel)) ggL_law_L_planAt
set_option maxRecDepth 20000 in
theorem ggL_law_X8_planAt : GoodIn wsL_law wsX8_planAt := goodIn_ca (goodIn_r _ [937, 245, 246, 247, 5, 248, 76, 157, 158, 159, 75, 160, 156, 144, 145, 146, 147, 148, 149, 150, 151, 889, 890, 891, 892, 77, 938, 939, 940, 941, 244, 511, 512, 513, 249, 250, 251, 252, 253, 254, 255, 256, 257, 258, 259, 260, 261, 262, 263, 264, 92, 897, 898, 899, 900, 901, 213, 187, 214, 902, 903, 904, 905, 456, 457, 458, 140, 459, 165, 805, 806, 807, 808, 79, 761, 762, 763, 764, 84, 83, 514, 515, 516, 517, 518, 519, 520, 521, 522, 523, 524, 525, 809, 810, 811, 812, 813, 814, 815, 816, 817, 818, 628, 819, 820, 666, 667, 600, 668, 821, 822, 540, 823, 662, 663, 664, 594, 595, 596, 665, 714, 715, 716, 590, 607, 608, 526, 527, 528, 529, 530, 531, 532, 533, 12, 13, 534, 535, 536, 537, 538, 539, 541, 542, 543, 544, 545, 648, 649, 650, 651, 652, 653, 552, 654, 655, 555, 561, 562, 563, 564, 565, 566, 567, 568, 569, 570, 571, 572, 191, 192, 193, 194, 186, 188, 195, 196, 197, 198, 573, 574, 201, 575, 576, 577, 578, 579, 580, 581, 212, 215, 216, 217, 218, 582, 583, 584, 585, 586, 656, 657, 658, 621, 622, 623, 624, 625, 626, 627, 629, 630, 631, 632, 633, 634, 635, 636, 637, 638, 639, 640, 641, 604, 605, 606, 659, 660, 661, 669, 670, 671, 672, 673, 674, 675, 676, 677, 678, 679, 680, 681, 682, 683, 684, 685, 686, 687, 688, 689, 690, 691, 692, 693, 694, 695, 696, 697, 698, 699, 700, 701, 702, 703, 704, 705, 706, 707, 708, 709, 710, 711, 712, 713, 717, 718, 719, 720, 1282, 1283, 1284, 1285, 1286, 1287, 1288, 1289, 1290, 1314, 1315, 1316, 1322, 1323, 1324, 1325, 1326, 1331, 1332, 1333, 1334, 1317, 1318, 1319, 1320, 1321, 1335, 1336, 1337, 1338] (by decide +kernel) (by decide +kernel)) (goodIn_sub (fun _ h => List.mem_append_left _ (List.mem_append_left _ (List.mem_append_left _ (List.mem_append_left _ (List.mem_append_left _ (List.mem_append_left _ (List.mem_append_right _ h))))))) (by decide +kernel))
set_option maxRecDepth 20000 in
theorem gL_law_X8_planAt : GoodIn wsL_law (wsV RL 230 RX8 yX8_planAt wsX8_planAt) := goodIn_app (goodIn_of _ (by decide +kernel)) ggL_law_X8_planAt
theorem dL_law_1340 : decode cL_law 1340 = .ok (.aload_n 1, 1) := by decide +kernel
theorem dL_law_1341 : decode cL_law 1341 = .ok (.aload_n 0, 1) := by decide +kernel
theorem dL_law_1342 : decode cL_law 1342 = .ok (.iload 5, 2) := by decide +kernel
theorem dL_law_1344 : decode cL_law 1344 = .ok (.iconst 1, 1) := by decide +kernel
theorem dL_law_1345 : decode cL_law 1345 = .ok (.iadd, 1) := by decide +kernel
theorem dL_law_1346 : decode cL_law 1346 = .ok (.iaload, 1) := by decide +kernel
theorem dL_law_1347 : decode cL_law 1347 = .ok (.ifCond .eq 7, 3) := by decide +kernel
theorem dL_law_1350 : decode cL_law 1350 = .ok (.iconst 1, 1) := by decide +kernel
theorem dL_law_1351 : decode cL_law 1351 = .ok (.goto 4, 3) := by decide +kernel
theorem dL_law_1354 : decode cL_law 1354 = .ok (.iconst 0, 1) := by decide +kernel
theorem dL_law_1355 : decode cL_law 1355 = .ok (.aload_n 0, 1) := by decide +kernel
theorem dL_law_1356 : decode cL_law 1356 = .ok (.iload 5, 2) := by decide +kernel
theorem dL_law_1358 : decode cL_law 1358 = .ok (.iconst 2, 1) := by decide +kernel
theorem dL_law_1359 : decode cL_law 1359 = .ok (.iadd, 1) := by decide +kernel
theorem dL_law_1360 : decode cL_law 1360 = .ok (.iaload, 1) := by decide +kernel
theorem dL_law_1361 : decode cL_law 1361 = .ok (.aload_n 3, 1) := by decide +kernel
theorem dL_law_1362 : decode cL_law 1362 = .ok (.invokestatic 212, 3) := by decide +kernel
theorem dL_law_1365 : decode cL_law 1365 = .ok (.istore 6, 2) := by decide +kernel
theorem dL_law_1367 : decode cL_law 1367 = .ok (.aload_n 2, 1) := by decide +kernel
theorem dL_law_1368 : decode cL_law 1368 = .ok (.aload_n 0, 1) := by decide +kernel
theorem dL_law_1369 : decode cL_law 1369 = .ok (.iload 5, 2) := by decide +kernel
theorem dL_law_1371 : decode cL_law 1371 = .ok (.iconst 1, 1) := by decide +kernel
theorem dL_law_1372 : decode cL_law 1372 = .ok (.iadd, 1) := by decide +kernel
theorem dL_law_1373 : decode cL_law 1373 = .ok (.iaload, 1) := by decide +kernel
theorem dL_law_1374 : decode cL_law 1374 = .ok (.ifCond .eq 7, 3) := by decide +kernel
theorem dL_law_1377 : decode cL_law 1377 = .ok (.iconst 1, 1) := by decide +kernel
theorem dL_law_1378 : decode cL_law 1378 = .ok (.goto 4, 3) := by decide +kernel
theorem dL_law_1381 : decode cL_law 1381 = .ok (.iconst 0, 1) := by decide +kernel
theorem dL_law_1382 : decode cL_law 1382 = .ok (.aload_n 0, 1) := by decide +kernel
theorem dL_law_1383 : decode cL_law 1383 = .ok (.iload 5, 2) := by decide +kernel
theorem dL_law_1385 : decode cL_law 1385 = .ok (.iconst 2, 1) := by decide +kernel
theorem dL_law_1386 : decode cL_law 1386 = .ok (.iadd, 1) := by decide +kernel
theorem dL_law_1387 : decode cL_law 1387 = .ok (.iaload, 1) := by decide +kernel
theorem dL_law_1388 : decode cL_law 1388 = .ok (.invokevirtual 214, 3) := by decide +kernel
theorem dL_law_1391 : decode cL_law 1391 = .ok (.istore 7, 2) := by decide +kernel
theorem dL_law_1393 : decode cL_law 1393 = .ok (.aload_n 2, 1) := by decide +kernel
theorem dL_law_1394 : decode cL_law 1394 = .ok (.invokevirtual 146, 3) := by decide +kernel
theorem dL_law_1397 : decode cL_law 1397 = .ok (.iload 6, 2) := by decide +kernel
theorem dL_law_1399 : decode cL_law 1399 = .ok (.if_icmp .eq 5, 3) := by decide +kernel
theorem dL_law_1404 : decode cL_law 1404 = .ok (.iload 6, 2) := by decide +kernel
theorem dL_law_1406 : decode cL_law 1406 = .ok (.ifCond .ne 15, 3) := by decide +kernel
theorem dL_law_1409 : decode cL_law 1409 = .ok (.aload_n 3, 1) := by decide +kernel
theorem dL_law_1410 : decode cL_law 1410 = .ok (.iconst 0, 1) := by decide +kernel
theorem dL_law_1411 : decode cL_law 1411 = .ok (.laload, 1) := by decide +kernel
theorem dL_law_1412 : decode cL_law 1412 = .ok (.iload 7, 2) := by decide +kernel
theorem dL_law_1414 : decode cL_law 1414 = .ok (.i2l, 1) := by decide +kernel
theorem dL_law_1415 : decode cL_law 1415 = .ok (.lcmp, 1) := by decide +kernel
theorem dL_law_1416 : decode cL_law 1416 = .ok (.ifCond .eq 5, 3) := by decide +kernel
theorem dL_law_1421 : decode cL_law 1421 = .ok (.goto 1215, 3) := by decide +kernel
theorem dL_law_1424 : decode cL_law 1424 = .ok (.aload_n 1, 1) := by decide +kernel
theorem dL_law_1425 : decode cL_law 1425 = .ok (.aload_n 0, 1) := by decide +kernel
theorem dL_law_1426 : decode cL_law 1426 = .ok (.iload 5, 2) := by decide +kernel
theorem dL_law_1428 : decode cL_law 1428 = .ok (.iconst 1, 1) := by decide +kernel
theorem dL_law_1429 : decode cL_law 1429 = .ok (.iadd, 1) := by decide +kernel
theorem dL_law_1430 : decode cL_law 1430 = .ok (.iaload, 1) := by decide +kernel
theorem dL_law_1431 : decode cL_law 1431 = .ok (.aload_n 0, 1) := by decide +kernel
theorem dL_law_1432 : decode cL_law 1432 = .ok (.iload 5, 2) := by decide +kernel
theorem dL_law_1434 : decode cL_law 1434 = .ok (.iconst 2, 1) := by decide +kernel
theorem dL_law_1435 : decode cL_law 1435 = .ok (.iadd, 1) := by decide +kernel
theorem dL_law_1436 : decode cL_law 1436 = .ok (.iaload, 1) := by decide +kernel
theorem dL_law_1437 : decode cL_law 1437 = .ok (.aload_n 0, 1) := by decide +kernel
theorem dL_law_1438 : decode cL_law 1438 = .ok (.iload 5, 2) := by decide +kernel
theorem dL_law_1440 : decode cL_law 1440 = .ok (.iconst 3, 1) := by decide +kernel
theorem dL_law_1441 : decode cL_law 1441 = .ok (.iadd, 1) := by decide +kernel
theorem dL_law_1442 : decode cL_law 1442 = .ok (.iaload, 1) := by decide +kernel
theorem dL_law_1443 : decode cL_law 1443 = .ok (.ifCond .eq 7, 3) := by decide +kernel
theorem dL_law_1446 : decode cL_law 1446 = .ok (.iconst 1, 1) := by decide +kernel
theorem dL_law_1447 : decode cL_law 1447 = .ok (.goto 4, 3) := by decide +kernel
theorem dL_law_1450 : decode cL_law 1450 = .ok (.iconst 0, 1) := by decide +kernel
theorem dL_law_1451 : decode cL_law 1451 = .ok (.aload_n 3, 1) := by decide +kernel
theorem dL_law_1452 : decode cL_law 1452 = .ok (.invokestatic 215, 3) := by decide +kernel
theorem dL_law_1455 : decode cL_law 1455 = .ok (.istore 6, 2) := by decide +kernel
theorem dL_law_1457 : decode cL_law 1457 = .ok (.aload_n 2, 1) := by decide +kernel
theorem dL_law_1458 : decode cL_law 1458 = .ok (.aload_n 0, 1) := by decide +kernel
theorem dL_law_1459 : decode cL_law 1459 = .ok (.iload 5, 2) := by decide +kernel
theorem dL_law_1461 : decode cL_law 1461 = .ok (.iconst 1, 1) := by decide +kernel
theorem dL_law_1462 : decode cL_law 1462 = .ok (.iadd, 1) := by decide +kernel
theorem dL_law_1463 : decode cL_law 1463 = .ok (.iaload, 1) := by decide +kernel
theorem dL_law_1464 : decode cL_law 1464 = .ok (.aload_n 0, 1) := by decide +kernel
theorem dL_law_1465 : decode cL_law 1465 = .ok (.iload 5, 2) := by decide +kernel
theorem dL_law_1467 : decode cL_law 1467 = .ok (.iconst 2, 1) := by decide +kernel
theorem dL_law_1468 : decode cL_law 1468 = .ok (.iadd, 1) := by decide +kernel
theorem dL_law_1469 : decode cL_law 1469 = .ok (.iaload, 1) := by decide +kernel
theorem dL_law_1470 : decode cL_law 1470 = .ok (.aload_n 0, 1) := by decide +kernel
theorem dL_law_1471 : decode cL_law 1471 = .ok (.iload 5, 2) := by decide +kernel
theorem dL_law_1473 : decode cL_law 1473 = .ok (.iconst 3, 1) := by decide +kernel
theorem dL_law_1474 : decode cL_law 1474 = .ok (.iadd, 1) := by decide +kernel
theorem dL_law_1475 : decode cL_law 1475 = .ok (.iaload, 1) := by decide +kernel
theorem dL_law_1476 : decode cL_law 1476 = .ok (.ifCond .eq 7, 3) := by decide +kernel
