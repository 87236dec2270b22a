set_option maxRecDepth 20000 in
theorem ggL_law_L_weave : GoodIn wsL_law wsL_weave := goodIn_ca (goodIn_ca (goodIn_ca (goodIn_r _ [944, 112, 113, 945, 946, 947, 2, 948, 121, 122, 126, 846, 15, 847, 848, 849, 850, 119, 120, 125, 851, 852, 853, 854, 28, 855, 27, 856, 857, 49, 858, 859, 860, 861, 862, 863, 864, 865, 866, 867, 868, 794, 795, 796, 797, 18, 742, 743, 744, 745, 24, 23, 798, 22, 799, 800, 751, 752, 750, 45, 43, 740, 741, 869, 870, 871, 50, 435, 39, 436, 437, 66, 438, 439, 361, 277, 278, 872, 873, 874, 875, 876, 877, 878, 187, 879, 880, 881, 882, 883, 884, 930, 931, 932, 933, 272, 273, 274, 275, 276, 133, 373, 374, 375, 376, 377, 378, 379, 67, 68, 1269, 1270, 1271, 1272, 1273, 1274, 1275, 1276, 1277, 1278, 1279, 1280, 1281, 1307, 1308, 1309, 1310, 1311, 1312, 1313, 1298, 1299, 1291, 1292, 1293, 1294, 1295, 1296, 1297] (by decide +kernel) (by decide +kernel)) (goodIn_sub (fun _ h => List.mem_append_left _ (List.mem_append_left _ (List.mem_append_left _ (List.mem_append_left _ (List.mem_append_left _ (List.mem_append_left _ (List.mem_append_right _ h))))))) (by decide +kernel))) (goodIn_sub (fun _ h => List.mem_append_left _ (List.mem_append_left _ (List.mem_append_left _ (List.mem_append_left _ (List.mem_append_right _ h))))) (by decide +kernel))) (goodIn_sub (fun _ h => List.mem_append_left _ (List.mem_append_left _ (List.mem_append_left _ (List.mem_append_left _ (List.mem_append_left _ (List.mem_append_right _ h)))))) (by decide +kernel))
set_option maxRecDepth 20000 in
theorem gL_law_L_weave : GoodIn wsL_law (va_wsS RL 231 yL_weave wsL_weave) := goodIn_app (goodIn_of _ (by decide +kernel)) ggL_law_L_weave
set_option maxRecDepth 20000 in
theorem ggL_law_X8_weave : GoodIn wsL_law wsX8_weave := goodIn_ca (goodIn_r _ [952, 76, 244, 889, 890, 891, 5, 892, 77, 157, 158, 159, 75, 160, 156, 144, 145, 146, 147, 148, 149, 150, 151, 152, 153, 154, 155, 938, 939, 940, 941, 511, 512, 513, 249, 250, 251, 252, 253, 254, 255, 256, 257, 258, 259, 260, 261, 262, 263, 264, 92, 897, 898, 899, 900, 901, 213, 187, 214, 902, 903, 904, 905, 456, 457, 458, 140, 459, 165, 805, 806, 807, 808, 79, 761, 762, 763, 764, 84, 83, 514, 515, 516, 517, 518, 519, 520, 521, 522, 523, 524, 525, 809, 810, 811, 812, 813, 814, 815, 816, 817, 818, 628, 819, 820, 666, 667, 600, 668, 821, 822, 540, 823, 662, 663, 664, 594, 595, 596, 665, 714, 715, 716, 590, 607, 608, 526, 527, 528, 529, 530, 531, 532, 533, 12, 13, 534, 535, 536, 537, 538, 539, 541, 542, 543, 544, 545, 648, 649, 650, 651, 652, 653, 552, 654, 655, 555, 561, 562, 563, 564, 565, 566, 567, 568, 569, 570, 571, 572, 191, 192, 193, 194, 186, 188, 195, 196, 197, 198, 573, 574, 201, 575, 576, 577, 578, 579, 580, 581, 212, 215, 216, 217, 218, 582, 583, 584, 585, 586, 656, 657, 658, 621, 622, 623, 624, 625, 626, 627, 629, 630, 631, 632, 633, 634, 635, 636, 637, 638, 639, 640, 641, 604, 605, 606, 659, 660, 661, 669, 670, 671, 672, 673, 674, 675, 676, 677, 678, 679, 680, 681, 682, 683, 684, 685, 686, 687, 688, 689, 690, 691, 692, 693, 694, 695, 696, 697, 698, 699, 700, 701, 702, 703, 704, 705, 706, 707, 708, 709, 710, 711, 712, 713, 717, 718, 719, 720, 757, 758, 759, 760, 312, 313, 314, 315, 316, 317, 166, 384, 385, 386, 387, 17, 167, 168, 169, 170, 171, 172, 173, 174, 175, 176, 177, 178, 179, 180, 181, 182, 183, 184, 91, 185, 189, 190, 199, 200, 202, 203, 204, 205, 206, 207, 208, 209, 210, 211, 1282, 1283, 1284, 1285, 1286, 1287, 1288, 1289, 1290, 1314, 1315, 1316, 1322, 1323, 1324, 1325, 1326, 1331, 1332, 1333, 1334, 1317, 1318, 1319, 1320, 1321, 1335, 1336, 1337, 1338] (by decide +kernel) (by decide +kernel)) (goodIn_sub (fun _ h => List.mem_append_left _ (List.mem_append_left _ (List.mem_append_left _ (List.mem_append_left _ (List.mem_append_left _ (List.mem_append_left _ (List.mem_append_right _ h))))))) (by decide +kernel))
set_option maxRecDepth 20000 in
theorem gL_law_X8_weave : GoodIn wsL_law (wsV RL 233 RX8 yX8_weave wsX8_weave) := goodIn_app (goodIn_of _ (by decide +kernel)) ggL_law_X8_weave
set_option maxRecDepth 20000 in
theorem ggL_law_X5_faults : GoodIn wsL_law wsX5_faults := goodIn_ca (goodIn_r _ [956, 126, 957, 958, 959, 2, 960, 125, 961, 962, 963, 964, 15, 431, 39, 432, 433, 67, 434, 435, 436, 437, 66, 438, 439, 361, 277, 278, 794, 795, 796, 797, 18, 742, 743, 744, 745, 24, 23, 798, 22, 799, 800, 751, 752, 750, 45, 43, 740, 741, 1269, 1270, 1271, 1272, 1273, 1274, 1275, 1276, 1277, 1278, 1279, 1280, 1281, 1307, 1308, 1309, 1310, 1311, 1312, 1313, 1291, 1292, 1293, 1294, 1295, 1296, 1297] (by decide +kernel) (by decide +kernel)) (goodIn_sub (fun _ h => List.mem_append_left _ (List.mem_append_left _ (List.mem_append_left _ (List.mem_append_left _ (List.mem_append_left _ (List.mem_append_left _ (List.mem_append_right _ h))))))) (by decide +kernel))
set_option maxRecDepth 20000 in
theorem gL_law_X5_faults : GoodIn wsL_law (wsV RL 234 RX5 yX5_faults wsX5_faults) := goodIn_app (goodIn_of _ (by decide +kernel)) ggL_law_X5_faults
set_option maxRecDepth 20000 in
theorem ggL_law_X8_faults : GoodIn wsL_law wsX8_faults := goodIn_ca (goodIn_r _ [968, 151, 969, 970, 971, 5, 972, 77, 76, 157, 158, 159, 75, 160, 156, 973, 974, 975, 976, 448, 449, 450, 451, 244, 249, 250, 251, 252, 253, 254, 255, 256, 257, 258, 259, 260, 261, 262, 263, 264, 92, 452, 453, 454, 455, 402, 456, 457, 458, 140, 459, 165, 805, 806, 807, 808, 79, 761, 762, 763, 764, 84, 83, 514, 515, 516, 517, 518, 519, 520, 521, 522, 523, 524, 525, 144, 145, 146, 809, 810, 811, 812, 813, 814, 815, 816, 817, 818, 628, 819, 820, 666, 667, 600, 668, 821, 822, 540, 823, 662, 663, 664, 594, 595, 596, 665, 714, 715, 716, 590, 607, 608, 1282, 1283, 1284, 1285, 1286, 1287, 1288, 1289, 1290, 1314, 1315, 1316, 1322, 1323, 1324, 1325, 1326, 1317, 1318, 1319, 1320, 1321, 1335, 1336, 1337, 1338] (by decide +kernel) (by decide +kernel)) (goodIn_sub (fun _ h => List.mem_append_left _ (List.mem_append_left _ (List.mem_append_left _ (List.mem_append_left _ (List.mem_append_left _ (List.mem_append_left _ (List.mem_append_right _ h))))))) (by decide +kernel))
set_option maxRecDepth 20000 in
theorem gL_law_X8_faults : GoodIn wsL_law (wsV RL 238 RX8 yX8_faults wsX8_faults) := goodIn_app (goodIn_of _ (by decide +kernel)) ggL_law_X8_faults
set_option maxRecDepth 20000 in
theorem ggL_law_L_faultsOf : GoodIn wsL_law wsL_faultsOf := goodIn_ca (goodIn_ca (goodIn_r _ [979, 226, 980, 981, 982, 2, 983, 231, 232, 233, 234, 235, 236, 126, 957, 958, 959, 960, 125, 961, 962, 963, 964, 15, 431, 39, 432, 433, 67, 434, 435, 436, 437, 66, 438, 439, 361, 277, 278, 794, 795, 796, 797, 18, 742, 743, 744, 745, 24, 23, 798, 22, 799, 800, 751, 752, 750, 45, 43, 740, 741, 1269, 1270, 1271, 1272, 1273, 1274, 1275, 1276, 1277, 1278, 1279, 1280, 1281, 1307, 1308, 1309, 1310, 1311, 1312, 1313, 1291, 1292, 1293, 1294, 1295, 1296, 1297] (by decide +kernel) (by decide +kernel)) (goodIn_sub (fun _ h => List.mem_append_left _ (List.mem_append_left _ (List.mem_append_left _ (List.mem_append_left _ (List.mem_append_left _ (List.mem_append_left _ (List.mem_append_right _ h))))))) (by decide +kernel))) (goodIn_sub (fun _ h => List.mem_append_left _ (List.mem_append_left _ (List.mem_append_right _ h))) (by decide +kernel))
set_option maxRecDepth 20000 in
theorem gL_law_L_faultsOf : GoodIn wsL_law (va_wsS RL 239 yL_faultsOf wsL_faultsOf) := goodIn_app (goodIn_of _ (by decide +kernel)) ggL_law_L_faultsOf
set_option maxRecDepth 20000 in
theorem ggL_law_X8_faultsOf : GoodIn wsL_law wsX8_faultsOf := goodIn_ca (goodIn_r _ [987, 245, 246, 247, 5, 248, 76, 157, 158, 159, 75, 160, 156, 144, 145, 146, 147, 148, 149, 150, 151, 988, 989, 990, 991, 77, 973, 974, 975, 976, 448, 449, 450, 451, 244, 249, 250, 251, 252, 253, 254, 255, 256, 257, 258, 259, 260, 261, 262, 263, 264, 92, 452, 453, 454, 455, 402, 456, 457, 458, 140, 459, 165, 805, 806, 807, 808, 79, 761, 762, 763, 764, 84, 83, 514, 515, 516, 517, 518, 519, 520, 521, 522, 523, 524, 525, 809, 810, 811, 812, 813, 814, 815, 816, 817, 818, 628, 819, 820, 666, 667, 600, 668, 821, 822, 540, 823, 662, 663, 664, 594, 595, 596, 665, 714, 715, 716, 590, 607, 608, 1282, 1283, 1284, 1285, 1286, 1287, 1288, 1289, 1290, 1314, 1315, 1316, 1322, 1323, 1324, 1325, 1326, 1317, 1318, 1319, 1320, 1321, 1335, 1336, 1337, 1338] (by decide +kernel) (by decide +kernel)) (goodIn_sub (fun _ h => List.mem_append_left _ (List.mem_append_left _ (List.mem_append_left _ (List.mem_append_left _ (List.mem_append_left _ (List.mem_append_left _ (List.mem_append_right _ h))))))) (by decide +kernel))
set_option maxRecDepth 20000 in
theorem gL_law_X8_faultsOf : GoodIn wsL_law (wsV RL 241 RX8 yX8_faultsOf wsX8_faultsOf) := goodIn_app (goodIn_of _ (by decide +kernel)) ggL_law_X8_faultsOf
set_option maxRecDepth 20000 in
theorem ggL_law_L_firstFault : GoodIn wsL_law wsL_firstFault := goodIn_ca (goodIn_ca (goodIn_r _ [994, 909, 995, 996, 997, 2, 998, 917, 918, 125, 126, 999, 1000, 1001, 1002, 961, 962, 963, 964, 15, 431, 39, 432, 433, 67, 434, 435, 436, 437, 66, 438, 439, 361, 277, 278, 794, 795, 796, 797, 18, 742, 743, 744, 745, 24, 23, 798, 22, 799, 800, 751, 752, 750, 45, 43, 740, 741, 1269, 1270, 1271, 1272, 1273, 1274, 1275, 1276, 1277, 1278, 1279, 1280, 1281, 1307, 1308, 1309, 1310, 1311, 1312, 1313, 1291, 1292, 1293, 1294, 1295, 1296, 1297] (by decide +kernel) (by decide +kernel)) (goodIn_sub (fun _ h => List.mem_append_left _ (List.mem_append_left _ (List.mem_append_left _ (List.mem_append_left _ (List.mem_append_left _ (List.mem_append_left _ (List.mem_append_right _ h))))))) (by decide +kernel))) (goodIn_sub (fun _ h => List.mem_append_left _ (List.mem_append_right _ h)) (by decide +kernel))
set_option maxRecDepth 20000 in
theorem gL_law_L_firstFault : GoodIn wsL_law (va_wsS RL 242 yL_firstFault wsL_firstFault) := goodIn_app (goodIn_of _ (by decide +kernel)) ggL_law_L_firstFault
set_option maxRecDepth 20000 in
theorem ggL_law_X8_firstFault : GoodIn wsL_law wsX8_firstFault := goodIn_ca (goodIn_r _ [1006, 77, 76, 151, 157, 158, 159, 75, 160, 156, 973, 974, 975, 5, 976, 448, 449, 450, 451, 244, 249, 250, 251, 252, 253, 254, 255, 256, 257, 258, 259, 260, 261, 262, 263, 264, 92, 452, 453, 454, 455, 402, 456, 457, 458, 140, 459, 165, 805, 806, 807, 808, 79, 761, 762, 763, 764, 84, 83, 514, 515, 516, 517, 518, 519, 520, 521, 522, 523, 524, 525, 144, 145, 146, 809, 810, 811, 812, 813, 814, 815, 816, 817, 818, 628, 819, 820, 666, 667, 600, 668, 821, 822, 540, 823, 662, 663, 664, 594, 595, 596, 665, 714, 715, 716, 590, 607, 608, 1282, 1283, 1284, 1285, 1286, 1287, 1288, 1289, 1290, 1314, 1315, 1316, 1322, 1323, 1324, 1325, 1326, 1317, 1318, 1319, 1320, 1321, 1335, 1336, 1337, 1338] (by decide +kernel) (by decide +kernel)) (goodIn_sub (fun _ h => List.mem_append_left _ (List.mem_append_left _ (List.mem_append_left _ (List.mem_append_left _ (List.mem_append_left _ (List.mem_append_left _ (List.mem_append_right _ h))))))) (by decide +kernel))
set_option maxRecDepth 20000 in
theorem gL_law_X8_firstFault : GoodIn wsL_law (wsV RL 244 RX8 yX8_firstFault wsX8_firstFault) := goodIn_app (goodIn_of _ (by decide +kernel)) ggL_law_X8_firstFault
set_option maxRecDepth 20000 in
theorem ggL_law_L_suspect : GoodIn wsL_law wsL_suspect := goodIn_ca (goodIn_ca (goodIn_r _ [1009, 909, 1010, 1011, 1012, 2, 1013, 917, 918, 126, 957, 958, 959, 960, 125, 961, 962, 963, 964, 15, 431, 39, 432, 433, 67, 434, 435, 436, 437, 66, 438, 439, 361, 277, 278, 794, 795, 796, 797, 18, 742, 743, 744, 745, 24, 23, 798, 22, 799, 800, 751, 752, 750, 45, 43, 740, 741, 1269, 1270, 1271, 1272, 1273, 1274, 1275, 1276, 1277, 1278, 1279, 1280, 1281, 1307, 1308, 1309, 1310, 1311, 1312, 1313, 1291, 1292, 1293, 1294, 1295, 1296, 1297] (by decide +kernel) (by decide +kernel)) (goodIn_sub (fun _ h => List.mem_append_left _ (List.mem_append_left _ (List.mem_append_left _ (List.mem_append_left _ (List.mem_append_left _ (List.mem_append_left _ (List.mem_append_right _ h))))))) (by decide +kernel))) (goodIn_sub (fun _ h => List.mem_append_left _ (List.mem_append_right _ h)) (by decide +kernel))
set_option maxRecDepth 20000 in
theorem gL_law_L_suspect : GoodIn wsL_law (va_wsS RL 245 yL_suspect wsL_suspect) := goodIn_app (goodIn_of _ (by decide +kernel)) ggL_law_L_suspect
set_option maxRecDepth 20000 in
theorem ggL_law_X8_suspect : GoodIn wsL_law wsX8_suspect := goodIn_ca (goodIn_r _ [1017, 76, 353, 186, 187, 188, 157, 158, 159, 75, 160, 156, 988, 989, 990, 5, 991, 77, 973, 974, 975, 976, 448, 449, 450, 451, 244, 249, 250, 251, 252, 253, 254, 255, 256, 257, 258, 259, 260, 261, 262, 263, 264, 92, 452, 453, 454, 455, 402, 456, 457, 458, 140, 459, 165, 805, 806, 807, 808, 79, 761, 762, 763, 764, 84, 83, 514, 515, 516, 517, 518, 519, 520, 521, 522, 523, 524, 525, 144, 145, 146, 809, 810, 811, 812, 813, 814, 815, 816, 817, 818, 628, 819, 820, 666, 667, 600, 668, 821, 822, 540, 823, 662, 663, 664, 594, 595, 596, 665, 714, 715, 716, 590, 607, 608, 147, 148, 149, 150, 151, 1282, 1283, 1284, 1285, 1286, 1287, 1288, 1289, 1290, 1314, 1315, 1316, 1322, 1323, 1324, 1325, 1326, 1317, 1318, 1319, 1320, 1321, 1335, 1336, 1337, 1338] (by decide +kernel) (by decide +kernel)) (goodIn_sub (fun _ h => List.mem_append_left _ (List.mem_append_left _ (List.mem_append_left _ (List.mem_append_left _ (List.mem_append_left _ (List.mem_append_left _ (List.mem_append_right _ h))))))) (by decide +kernel))
set_option maxRecDepth 20000 in
theorem gL_law_X8_suspect : GoodIn wsL_law (wsV RL 247 RX8 yX8_suspect wsX8_suspect) := goodIn_app (goodIn_of _ (by decide +kernel)) ggL_law_X8_suspect
set_option maxRecDepth 20000 in
theorem ggL_law_L_ways : GoodIn wsL_law wsL_ways := goodIn_ca (goodIn_ca (goodIn_ca (goodIn_r _ [1020, 226, 112, 1021, 1022, 1023, 2, 1024, 119, 120, 32, 15, 231, 232, 233, 234, 235, 236, 126, 427, 428, 429, 430, 125, 1025, 31, 1026, 1027, 54, 1028, 1029, 1030, 1031, 55, 277, 278, 431, 39, 432, 433, 67, 434, 435, 436, 437, 66, 438, 439, 361, 1032, 1033, 1034, 1035, 1269, 1270, 1271, 1272, 1273, 1274, 1275, 1276, 1277, 1278, 1279, 1280, 1281, 1300, 1301, 1307, 1308, 1309, 1310, 1311, 1312, 1313] (by decide +kernel) (by decide +kernel)) (goodIn_sub (fun _ h => List.mem_append_left _ (List.mem_append_left _ (List.mem_append_left _ (List.mem_append_left _ (List.mem_append_left _ (List.mem_append_left _ (List.mem_append_right _ h))))))) (by decide +kernel))) (goodIn_sub (fun _ h => List.mem_append_left _ (List.mem_append_left _ (List.mem_append_left _ (List.mem_append_left _ (List.mem_append_left _ (List.mem_append_right _ h)))))) (by decide +kernel))) (goodIn_sub (fun _ h => List.mem_append_left _ (List.mem_append_left _ (List.mem_append_right _ h))) (by decide +kernel))
set_option maxRecDepth 20000 in
theorem gL_law_L_ways : GoodIn wsL_law (va_wsS RL 248 yL_ways wsL_ways) := goodIn_app (goodIn_of _ (by decide +kernel)) ggL_law_L_ways
set_option maxRecDepth 20000 in
theorem ggL_law_X8_ways : GoodIn wsL_law wsX8_ways := goodIn_ca (goodIn_r _ [1039, 6, 76, 244, 245, 246, 247, 5, 248, 157, 158, 159, 75, 160, 156, 144, 145, 146, 444, 445, 446, 447, 77, 147, 148, 149, 150, 151, 452, 453, 454, 455, 402, 249, 250, 251, 252, 253, 254, 255, 256, 257, 258, 259, 260, 261, 262, 263, 264, 92, 456, 457, 458, 140, 459, 165, 448, 449, 450, 451, 1282, 1283, 1284, 1285, 1286, 1287, 1288, 1289, 1290, 1314, 1315, 1316, 1322, 1323, 1324, 1325, 1326] (by decide +kernel) (by decide +kernel)) (goodIn_sub (fun _ h => List.mem_append_left _ (List.mem_append_left _ (List.mem_append_left _ (List.mem_append_left _ (List.mem_append_left _ (List.mem_append_left _ (List.mem_append_right _ h))))))) (by decide +kernel))
set_option maxRecDepth 20000 in
theorem gL_law_X8_ways : GoodIn wsL_law (wsV RL 251 RX8 yX8_ways wsX8_ways) := goodIn_app (goodIn_of _ (by decide +kernel)) ggL_law_X8_ways
theorem dL_law_1799 : decode cL_law 1799 = .ok (.aload_n 1, 1) := by decide +kernel
theorem dL_law_1800 : decode cL_law 1800 = .ok (.aload_n 0, 1) := by decide +kernel
theorem dL_law_1801 : decode cL_law 1801 = .ok (.iload 5, 2) := by decide +kernel
theorem dL_law_1803 : decode cL_law 1803 = .ok (.iconst 1, 1) := by decide +kernel
theorem dL_law_1804 : decode cL_law 1804 = .ok (.iadd, 1) := by decide +kernel
theorem dL_law_1805 : decode cL_law 1805 = .ok (.iaload, 1) := by decide +kernel
theorem dL_law_1806 : decode cL_law 1806 = .ok (.aload_n 3, 1) := by decide +kernel
theorem dL_law_1807 : decode cL_law 1807 = .ok (.invokestatic 231, 3) := by decide +kernel
theorem dL_law_1810 : decode cL_law 1810 = .ok (.istore 6, 2) := by decide +kernel
theorem dL_law_1812 : decode cL_law 1812 = .ok (.aload_n 2, 1) := by decide +kernel
theorem dL_law_1813 : decode cL_law 1813 = .ok (.aload_n 0, 1) := by decide +kernel
theorem dL_law_1814 : decode cL_law 1814 = .ok (.iload 5, 2) := by decide +kernel
theorem dL_law_1816 : decode cL_law 1816 = .ok (.iconst 1, 1) := by decide +kernel
theorem dL_law_1817 : decode cL_law 1817 = .ok (.iadd, 1) := by decide +kernel
theorem dL_law_1818 : decode cL_law 1818 = .ok (.iaload, 1) := by decide +kernel
theorem dL_law_1819 : decode cL_law 1819 = .ok (.invokevirtual 233, 3) := by decide +kernel
theorem dL_law_1822 : decode cL_law 1822 = .ok (.istore 7, 2) := by decide +kernel
theorem dL_law_1824 : decode cL_law 1824 = .ok (.aload_n 2, 1) := by decide +kernel
theorem dL_law_1825 : decode cL_law 1825 = .ok (.invokevirtual 146, 3) := by decide +kernel
theorem dL_law_1828 : decode cL_law 1828 = .ok (.iload 6, 2) := by decide +kernel
theorem dL_law_1830 : decode cL_law 1830 = .ok (.if_icmp .eq 5, 3) := by decide +kernel
theorem dL_law_1835 : decode cL_law 1835 = .ok (.iload 6, 2) := by decide +kernel
theorem dL_law_1837 : decode cL_law 1837 = .ok (.ifCond .ne 15, 3) := by decide +kernel
theorem dL_law_1852 : decode cL_law 1852 = .ok (.goto 784, 3) := by decide +kernel
theorem dL_law_1855 : decode cL_law 1855 = .ok (.aload_n 1, 1) := by decide +kernel
theorem dL_law_1856 : decode cL_law 1856 = .ok (.aload_n 0, 1) := by decide +kernel
theorem dL_law_1857 : decode cL_law 1857 = .ok (.iload 5, 2) := by decide +kernel
theorem dL_law_1859 : decode cL_law 1859 = .ok (.iconst 1, 1) := by decide +kernel
theorem dL_law_1860 : decode cL_law 1860 = .ok (.iadd, 1) := by decide +kernel
theorem dL_law_1861 : decode cL_law 1861 = .ok (.iaload, 1) := by decide +kernel
theorem dL_law_1862 : decode cL_law 1862 = .ok (.ifCond .eq 7, 3) := by decide +kernel
theorem dL_law_1865 : decode cL_law 1865 = .ok (.iconst 1, 1) := by decide +kernel
theorem dL_law_1866 : decode cL_law 1866 = .ok (.goto 4, 3) := by decide +kernel
theorem dL_law_1869 : decode cL_law 1869 = .ok (.iconst 0, 1) := by decide +kernel
theorem dL_law_1870 : decode cL_law 1870 = .ok (.invokevirtual 234, 3) := by decide +kernel
theorem dL_law_1873 : decode cL_law 1873 = .ok (.aload_n 2, 1) := by decide +kernel
theorem dL_law_1874 : decode cL_law 1874 = .ok (.aload_n 0, 1) := by decide +kernel
theorem dL_law_1875 : decode cL_law 1875 = .ok (.iload 5, 2) := by decide +kernel
theorem dL_law_1877 : decode cL_law 1877 = .ok (.iconst 1, 1) := by decide +kernel
theorem dL_law_1878 : decode cL_law 1878 = .ok (.iadd, 1) := by decide +kernel
theorem dL_law_1879 : decode cL_law 1879 = .ok (.iaload, 1) := by decide +kernel
theorem dL_law_1880 : decode cL_law 1880 = .ok (.ifCond .eq 7, 3) := by decide +kernel
theorem dL_law_1883 : decode cL_law 1883 = .ok (.iconst 1, 1) := by decide +kernel
theorem dL_law_1884 : decode cL_law 1884 = .ok (.goto 4, 3) := by decide +kernel
theorem dL_law_1887 : decode cL_law 1887 = .ok (.iconst 0, 1) := by decide +kernel
theorem dL_law_1888 : decode cL_law 1888 = .ok (.invokevirtual 238, 3) := by decide +kernel
theorem dL_law_1891 : decode cL_law 1891 = .ok (.if_icmp .eq 745, 3) := by decide +kernel
theorem dL_law_1896 : decode cL_law 1896 = .ok (.aload_n 1, 1) := by decide +kernel
theorem dL_law_1897 : decode cL_law 1897 = .ok (.aload_n 0, 1) := by decide +kernel
theorem dL_law_1898 : decode cL_law 1898 = .ok (.iload 5, 2) := by decide +kernel
theorem dL_law_1900 : decode cL_law 1900 = .ok (.iconst 1, 1) := by decide +kernel
theorem dL_law_1901 : decode cL_law 1901 = .ok (.iadd, 1) := by decide +kernel
theorem dL_law_1902 : decode cL_law 1902 = .ok (.iaload, 1) := by decide +kernel
theorem dL_law_1903 : decode cL_law 1903 = .ok (.aload_n 3, 1) := by decide +kernel
theorem dL_law_1904 : decode cL_law 1904 = .ok (.invokestatic 239, 3) := by decide +kernel
theorem dL_law_1907 : decode cL_law 1907 = .ok (.istore 6, 2) := by decide +kernel
theorem dL_law_1909 : decode cL_law 1909 = .ok (.aload_n 2, 1) := by decide +kernel
theorem dL_law_1910 : decode cL_law 1910 = .ok (.aload_n 0, 1) := by decide +kernel
theorem dL_law_1911 : decode cL_law 1911 = .ok (.iload 5, 2) := by decide +kernel
theorem dL_law_1913 : decode cL_law 1913 = .ok (.iconst 1, 1) := by decide +kernel
theorem dL_law_1914 : decode cL_law 1914 = .ok (.iadd, 1) := by decide +kernel
theorem dL_law_1915 : decode cL_law 1915 = .ok (.iaload, 1) := by decide +kernel
theorem dL_law_1916 : decode cL_law 1916 = .ok (.invokevirtual 241, 3) := by decide +kernel
theorem dL_law_1919 : decode cL_law 1919 = .ok (.istore 7, 2) := by decide +kernel
theorem dL_law_1921 : decode cL_law 1921 = .ok (.aload_n 2, 1) := by decide +kernel
theorem dL_law_1922 : decode cL_law 1922 = .ok (.invokevirtual 146, 3) := by decide +kernel
theorem dL_law_1925 : decode cL_law 1925 = .ok (.iload 6, 2) := by decide +kernel
theorem dL_law_1927 : decode cL_law 1927 = .ok (.if_icmp .eq 5, 3) := by decide +kernel
theorem dL_law_1932 : decode cL_law 1932 = .ok (.iload 6, 2) := by decide +kernel
theorem dL_law_1934 : decode cL_law 1934 = .ok (.ifCond .ne 15, 3) := by decide +kernel
theorem dL_law_1949 : decode cL_law 1949 = .ok (.goto 687, 3) := by decide +kernel
theorem dL_law_1952 : decode cL_law 1952 = .ok (.aload_n 1, 1) := by decide +kernel
theorem dL_law_1953 : decode cL_law 1953 = .ok (.aload_n 3, 1) := by decide +kernel
theorem dL_law_1954 : decode cL_law 1954 = .ok (.invokestatic 242, 3) := by decide +kernel
theorem dL_law_1957 : decode cL_law 1957 = .ok (.istore 6, 2) := by decide +kernel
theorem dL_law_1959 : decode cL_law 1959 = .ok (.aload_n 2, 1) := by decide +kernel
theorem dL_law_1960 : decode cL_law 1960 = .ok (.invokevirtual 244, 3) := by decide +kernel
theorem dL_law_1963 : decode cL_law 1963 = .ok (.istore 7, 2) := by decide +kernel
theorem dL_law_1965 : decode cL_law 1965 = .ok (.aload_n 2, 1) := by decide +kernel
theorem dL_law_1966 : decode cL_law 1966 = .ok (.invokevirtual 146, 3) := by decide +kernel
theorem dL_law_1969 : decode cL_law 1969 = .ok (.iload 6, 2) := by decide +kernel
theorem dL_law_1971 : decode cL_law 1971 = .ok (.if_icmp .eq 5, 3) := by decide +kernel
theorem dL_law_1976 : decode cL_law 1976 = .ok (.iload 6, 2) := by decide +kernel
theorem dL_law_1978 : decode cL_law 1978 = .ok (.ifCond .ne 15, 3) := by decide +kernel
theorem dL_law_1993 : decode cL_law 1993 = .ok (.goto 643, 3) := by decide +kernel
theorem dL_law_1996 : decode cL_law 1996 = .ok (.aload_n 1, 1) := by decide +kernel
theorem dL_law_1997 : decode cL_law 1997 = .ok (.aload_n 3, 1) := by decide +kernel
theorem dL_law_1998 : decode cL_law 1998 = .ok (.invokestatic 245, 3) := by decide +kernel
theorem dL_law_2001 : decode cL_law 2001 = .ok (.istore 6, 2) := by decide +kernel
