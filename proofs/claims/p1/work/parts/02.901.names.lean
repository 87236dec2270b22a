theorem dX5_weaver_63 : decode cX5_weaver 63 = .ok (.iconst 1, 1) := by decide +kernel
theorem dX5_weaver_64 : decode cX5_weaver 64 = .ok (.isub, 1) := by decide +kernel
theorem dX5_weaver_65 : decode cX5_weaver 65 = .ok (.ireturn, 1) := by decide +kernel
theorem dX5_hand_0 : decode cX5_hand 0 = .ok (.aload_n 0, 1) := by decide +kernel
theorem dX5_hand_1 : decode cX5_hand 1 = .ok (.getfield 239, 3) := by decide +kernel
theorem dX5_hand_4 : decode cX5_hand 4 = .ok (.ifCond .eq 10, 3) := by decide +kernel
theorem dX5_hand_14 : decode cX5_hand 14 = .ok (.new 207, 3) := by decide +kernel
theorem dX5_hand_17 : decode cX5_hand 17 = .ok (.dup, 1) := by decide +kernel
theorem dX5_hand_18 : decode cX5_hand 18 = .ok (.ldc 244, 2) := by decide +kernel
theorem dX5_hand_20 : decode cX5_hand 20 = .ok (.invokespecial 211, 3) := by decide +kernel
theorem dX5_hand_23 : decode cX5_hand 23 = .ok (.athrow, 1) := by decide +kernel
set_option maxRecDepth 20000 in
theorem ggX5_order_X0_enter : GoodIn wsX5_order wsX0_enter := goodIn_ca (goodIn_r _ [9, 10, 11, 12, 13, 27, 28, 29, 30, 31] (by decide +kernel) (by decide +kernel)) (goodIn_sub (fun _ h => List.mem_cons_of_mem _ (List.mem_append_right _ h)) (by decide +kernel))
set_option maxRecDepth 20000 in
theorem gX5_order_X0_enter_n260 : GoodIn wsX5_order (wsX0_enter) := ggX5_order_X0_enter
theorem dX5_order_0 : decode cX5_order 0 = .ok (.iload_n 1, 1) := by decide +kernel
theorem dX5_order_1 : decode cX5_order 1 = .ok (.iconst 1, 1) := by decide +kernel
theorem dX5_order_2 : decode cX5_order 2 = .ok (.if_icmp .lt 33, 3) := by decide +kernel
theorem dX5_order_5 : decode cX5_order 5 = .ok (.iload_n 1, 1) := by decide +kernel
theorem dX5_order_6 : decode cX5_order 6 = .ok (.sipush 200, 3) := by decide +kernel
theorem dX5_order_9 : decode cX5_order 9 = .ok (.if_icmp .gt 26, 3) := by decide +kernel
theorem dX5_order_12 : decode cX5_order 12 = .ok (.iload_n 2, 1) := by decide +kernel
theorem dX5_order_13 : decode cX5_order 13 = .ok (.iconst 1, 1) := by decide +kernel
theorem dX5_order_14 : decode cX5_order 14 = .ok (.if_icmp .lt 21, 3) := by decide +kernel
theorem dX5_order_17 : decode cX5_order 17 = .ok (.iload_n 2, 1) := by decide +kernel
theorem dX5_order_18 : decode cX5_order 18 = .ok (.sipush 999, 3) := by decide +kernel
theorem dX5_order_21 : decode cX5_order 21 = .ok (.if_icmp .gt 14, 3) := by decide +kernel
theorem dX5_order_24 : decode cX5_order 24 = .ok (.iload_n 3, 1) := by decide +kernel
theorem dX5_order_25 : decode cX5_order 25 = .ok (.iconst 1, 1) := by decide +kernel
theorem dX5_order_26 : decode cX5_order 26 = .ok (.if_icmp .lt 9, 3) := by decide +kernel
theorem dX5_order_29 : decode cX5_order 29 = .ok (.iload_n 3, 1) := by decide +kernel
theorem dX5_order_30 : decode cX5_order 30 = .ok (.bipush 99, 2) := by decide +kernel
theorem dX5_order_32 : decode cX5_order 32 = .ok (.if_icmp .le 13, 3) := by decide +kernel
theorem dX5_order_35 : decode cX5_order 35 = .ok (.new 67, 3) := by decide +kernel
theorem dX5_order_38 : decode cX5_order 38 = .ok (.dup, 1) := by decide +kernel
theorem dX5_order_39 : decode cX5_order 39 = .ok (.ldc 253, 2) := by decide +kernel
theorem dX5_order_41 : decode cX5_order 41 = .ok (.invokespecial 71, 3) := by decide +kernel
theorem dX5_order_44 : decode cX5_order 44 = .ok (.athrow, 1) := by decide +kernel
theorem dX5_order_45 : decode cX5_order 45 = .ok (.aload_n 0, 1) := by decide +kernel
theorem dX5_order_46 : decode cX5_order 46 = .ok (.getfield 58, 3) := by decide +kernel
theorem dX5_order_49 : decode cX5_order 49 = .ok (.getfield 255, 3) := by decide +kernel
theorem dX5_order_52 : decode cX5_order 52 = .ok (.bipush 8, 2) := by decide +kernel
theorem dX5_order_54 : decode cX5_order 54 = .ok (.if_icmp .lt 14, 3) := by decide +kernel
theorem dX5_order_68 : decode cX5_order 68 = .ok (.aload_n 0, 1) := by decide +kernel
theorem dX5_order_69 : decode cX5_order 69 = .ok (.getfield 58, 3) := by decide +kernel
theorem dX5_order_72 : decode cX5_order 72 = .ok (.iload_n 1, 1) := by decide +kernel
theorem dX5_order_73 : decode cX5_order 73 = .ok (.iload_n 2, 1) := by decide +kernel
theorem dX5_order_74 : decode cX5_order 74 = .ok (.iload_n 3, 1) := by decide +kernel
theorem dX5_order_75 : decode cX5_order 75 = .ok (.invokevirtual 260, 3) := by decide +kernel
theorem dX5_order_78 : decode cX5_order 78 = .ok (.aload_n 0, 1) := by decide +kernel
theorem dX5_order_79 : decode cX5_order 79 = .ok (.getfield 58, 3) := by decide +kernel
theorem dX5_order_82 : decode cX5_order 82 = .ok (.getfield 255, 3) := by decide +kernel
theorem dX5_order_85 : decode cX5_order 85 = .ok (.iconst 1, 1) := by decide +kernel
theorem dX5_order_86 : decode cX5_order 86 = .ok (.isub, 1) := by decide +kernel
theorem dX5_order_87 : decode cX5_order 87 = .ok (.ireturn, 1) := by decide +kernel
theorem dX5_readyOn_0 : decode cX5_readyOn 0 = .ok (.iload_n 1, 1) := by decide +kernel
theorem dX5_readyOn_1 : decode cX5_readyOn 1 = .ok (.ifCond .lt 14, 3) := by decide +kernel
theorem dX5_readyOn_4 : decode cX5_readyOn 4 = .ok (.iload_n 1, 1) := by decide +kernel
theorem dX5_readyOn_5 : decode cX5_readyOn 5 = .ok (.aload_n 0, 1) := by decide +kernel
theorem dX5_readyOn_6 : decode cX5_readyOn 6 = .ok (.getfield 58, 3) := by decide +kernel
theorem dX5_readyOn_9 : decode cX5_readyOn 9 = .ok (.getfield 255, 3) := by decide +kernel
theorem dX5_readyOn_12 : decode cX5_readyOn 12 = .ok (.if_icmp .lt 14, 3) := by decide +kernel
theorem dX5_readyOn_15 : decode cX5_readyOn 15 = .ok (.new 264, 3) := by decide +kernel
theorem dX5_readyOn_18 : decode cX5_readyOn 18 = .ok (.dup, 1) := by decide +kernel
theorem dX5_readyOn_19 : decode cX5_readyOn 19 = .ok (.ldc_w 266, 3) := by decide +kernel
theorem dX5_readyOn_22 : decode cX5_readyOn 22 = .ok (.invokespecial 268, 3) := by decide +kernel
theorem dX5_readyOn_25 : decode cX5_readyOn 25 = .ok (.athrow, 1) := by decide +kernel
theorem dX5_brings_0 : decode cX5_brings 0 = .ok (.iconst 0, 1) := by decide +kernel
theorem dX5_brings_1 : decode cX5_brings 1 = .ok (.istore_n 1, 1) := by decide +kernel
theorem dX5_brings_2 : decode cX5_brings 2 = .ok (.iconst 0, 1) := by decide +kernel
theorem dX5_brings_3 : decode cX5_brings 3 = .ok (.istore_n 2, 1) := by decide +kernel
theorem dX5_brings_4 : decode cX5_brings 4 = .ok (.iload_n 2, 1) := by decide +kernel
theorem dX5_brings_5 : decode cX5_brings 5 = .ok (.aload_n 0, 1) := by decide +kernel
theorem dX5_brings_6 : decode cX5_brings 6 = .ok (.getfield 58, 3) := by decide +kernel
theorem dX5_brings_9 : decode cX5_brings 9 = .ok (.getfield 255, 3) := by decide +kernel
theorem dX5_brings_12 : decode cX5_brings 12 = .ok (.if_icmp .ge 28, 3) := by decide +kernel
theorem dX5_brings_40 : decode cX5_brings 40 = .ok (.iload_n 1, 1) := by decide +kernel
theorem dX5_brings_41 : decode cX5_brings 41 = .ok (.ireturn, 1) := by decide +kernel
set_option maxRecDepth 20000 in
theorem ggX5_bringsMost_X0_mostWorth : GoodIn wsX5_bringsMost wsX0_mostWorth := goodIn_ca (goodIn_r _ [5, 6, 7, 8, 9, 10, 11, 12, 13, 14, 3, 15, 16, 17, 18, 19, 20, 21, 22, 36, 37, 38, 39, 40] (by decide +kernel) (by decide +kernel)) (goodIn_sub (fun _ h => List.mem_cons_of_mem _ (List.mem_append_right _ h)) (by decide +kernel))
set_option maxRecDepth 20000 in
theorem gX5_bringsMost_X0_mostWorth_n275 : GoodIn wsX5_bringsMost (wsX0_mostWorth) := ggX5_bringsMost_X0_mostWorth
theorem dX5_bringsMost_0 : decode cX5_bringsMost 0 = .ok (.aload_n 0, 1) := by decide +kernel
theorem dX5_bringsMost_1 : decode cX5_bringsMost 1 = .ok (.getfield 58, 3) := by decide +kernel
theorem dX5_bringsMost_4 : decode cX5_bringsMost 4 = .ok (.invokevirtual 275, 3) := by decide +kernel
theorem dX5_bringsMost_7 : decode cX5_bringsMost 7 = .ok (.ireturn, 1) := by decide +kernel
theorem dX5_checksum_0 : decode cX5_checksum 0 = .ok (.ldc2_w 279, 3) := by decide +kernel
theorem dX5_checksum_3 : decode cX5_checksum 3 = .ok (.lstore_n 1, 1) := by decide +kernel
theorem dX5_checksum_4 : decode cX5_checksum 4 = .ok (.iconst 0, 1) := by decide +kernel
theorem dX5_checksum_5 : decode cX5_checksum 5 = .ok (.istore_n 3, 1) := by decide +kernel
theorem dX5_checksum_6 : decode cX5_checksum 6 = .ok (.iload_n 3, 1) := by decide +kernel
theorem dX5_checksum_7 : decode cX5_checksum 7 = .ok (.aload_n 0, 1) := by decide +kernel
theorem dX5_checksum_8 : decode cX5_checksum 8 = .ok (.getfield 83, 3) := by decide +kernel
theorem dX5_checksum_11 : decode cX5_checksum 11 = .ok (.if_icmp .ge 43, 3) := by decide +kernel
theorem dX5_checksum_54 : decode cX5_checksum 54 = .ok (.iconst 0, 1) := by decide +kernel
theorem dX5_checksum_55 : decode cX5_checksum 55 = .ok (.istore_n 3, 1) := by decide +kernel
theorem dX5_checksum_56 : decode cX5_checksum 56 = .ok (.iload_n 3, 1) := by decide +kernel
theorem dX5_checksum_57 : decode cX5_checksum 57 = .ok (.aload_n 0, 1) := by decide +kernel
theorem dX5_checksum_58 : decode cX5_checksum 58 = .ok (.getfield 74, 3) := by decide +kernel
theorem dX5_checksum_61 : decode cX5_checksum 61 = .ok (.if_icmp .ge 67, 3) := by decide +kernel
theorem dX5_checksum_128 : decode cX5_checksum 128 = .ok (.ldc2_w 281, 3) := by decide +kernel
theorem dX5_checksum_131 : decode cX5_checksum 131 = .ok (.lload_n 1, 1) := by decide +kernel
theorem dX5_checksum_132 : decode cX5_checksum 132 = .ok (.lmul, 1) := by decide +kernel
theorem dX5_checksum_133 : decode cX5_checksum 133 = .ok (.aload_n 0, 1) := by decide +kernel
theorem dX5_checksum_134 : decode cX5_checksum 134 = .ok (.getfield 58, 3) := by decide +kernel
theorem dX5_checksum_137 : decode cX5_checksum 137 = .ok (.getfield 255, 3) := by decide +kernel
theorem dX5_checksum_140 : decode cX5_checksum 140 = .ok (.i2l, 1) := by decide +kernel
theorem dX5_checksum_141 : decode cX5_checksum 141 = .ok (.ladd, 1) := by decide +kernel
theorem dX5_checksum_142 : decode cX5_checksum 142 = .ok (.lreturn, 1) := by decide +kernel
theorem dX5_rightShare_0 : decode cX5_rightShare 0 = .ok (.aload_n 0, 1) := by decide +kernel
theorem dX5_rightShare_1 : decode cX5_rightShare 1 = .ok (.getfield 83, 3) := by decide +kernel
theorem dX5_rightShare_4 : decode cX5_rightShare 4 = .ok (.aload_n 0, 1) := by decide +kernel
theorem dX5_rightShare_5 : decode cX5_rightShare 5 = .ok (.getfield 74, 3) := by decide +kernel
theorem dX5_rightShare_8 : decode cX5_rightShare 8 = .ok (.imul, 1) := by decide +kernel
theorem dX5_rightShare_9 : decode cX5_rightShare 9 = .ok (.istore_n 1, 1) := by decide +kernel
theorem dX5_rightShare_10 : decode cX5_rightShare 10 = .ok (.iload_n 1, 1) := by decide +kernel
theorem dX5_rightShare_11 : decode cX5_rightShare 11 = .ok (.ifCond .ne 14, 3) := by decide +kernel
theorem dX5_rightShare_14 : decode cX5_rightShare 14 = .ok (.new 283, 3) := by decide +kernel
theorem dX5_rightShare_17 : decode cX5_rightShare 17 = .ok (.dup, 1) := by decide +kernel
theorem dX5_rightShare_18 : decode cX5_rightShare 18 = .ok (.ldc_w 285, 3) := by decide +kernel
theorem dX5_rightShare_21 : decode cX5_rightShare 21 = .ok (.invokespecial 287, 3) := by decide +kernel
theorem dX5_rightShare_24 : decode cX5_rightShare 24 = .ok (.athrow, 1) := by decide +kernel
theorem dX5_meanTwist_0 : decode cX5_meanTwist 0 = .ok (.aload_n 0, 1) := by decide +kernel
theorem dX5_meanTwist_1 : decode cX5_meanTwist 1 = .ok (.getfield 83, 3) := by decide +kernel
theorem dX5_meanTwist_4 : decode cX5_meanTwist 4 = .ok (.ifCond .ne 13, 3) := by decide +kernel
theorem dX5_meanTwist_7 : decode cX5_meanTwist 7 = .ok (.new 283, 3) := by decide +kernel
theorem dX5_meanTwist_10 : decode cX5_meanTwist 10 = .ok (.dup, 1) := by decide +kernel
theorem dX5_meanTwist_11 : decode cX5_meanTwist 11 = .ok (.ldc 128, 2) := by decide +kernel
theorem dX5_meanTwist_13 : decode cX5_meanTwist 13 = .ok (.invokespecial 287, 3) := by decide +kernel
theorem dX5_meanTwist_16 : decode cX5_meanTwist 16 = .ok (.athrow, 1) := by decide +kernel
set_option maxRecDepth 20000 in
theorem ggX5_isSound_X5_yarnOfColours : GoodIn wsX5_isSound wsX5_yarnOfColours := goodIn_ca (goodIn_r _ [96, 97, 98, 99, 6, 100, 1, 2, 8, 101, 68, 102, 103, 104, 105, 106, 107, 108, 14, 15, 16, 17, 18, 113, 114, 115, 116, 117, 118, 119, 120, 121, 122, 123, 124, 125, 126, 127, 128, 129, 130, 131, 132] (by decide +kernel) (by decide +kernel)) (goodIn_sub (fun _ h => List.mem_cons_of_mem _ (List.mem_append_right _ h)) (by decide +kernel))
set_option maxRecDepth 20000 in
theorem gX5_isSound_X5_yarnOfColours : GoodIn wsX5_isSound (wsV RX5 295 RX5 yX5_yarnOfColours wsX5_yarnOfColours) := goodIn_app (goodIn_of _ (by decide +kernel)) ggX5_isSound_X5_yarnOfColours
set_option maxRecDepth 20000 in
theorem ggX5_isSound_X5_yarnOfThreads : GoodIn wsX5_isSound wsX5_yarnOfThreads := goodIn_ca (goodIn_r _ [112, 1, 2, 8, 101, 68, 102, 103, 104, 105, 106, 107, 108, 14, 6, 15, 16, 17, 18, 113, 114, 115, 116, 117, 118, 119, 120, 121, 122, 123, 124, 125, 126, 127, 128, 129, 130, 131, 132] (by decide +kernel) (by decide +kernel)) (goodIn_sub (fun _ h => List.mem_cons_of_mem _ (List.mem_append_right _ h)) (by decide +kernel))
set_option maxRecDepth 20000 in
theorem gX5_isSound_X5_yarnOfThreads : GoodIn wsX5_isSound (wsV RX5 298 RX5 yX5_yarnOfThreads wsX5_yarnOfThreads) := goodIn_app (goodIn_of _ (by decide +kernel)) ggX5_isSound_X5_yarnOfThreads
theorem dX5_isSound_0 : decode cX5_isSound 0 = .ok (.iconst 0, 1) := by decide +kernel
theorem dX5_isSound_1 : decode cX5_isSound 1 = .ok (.istore_n 1, 1) := by decide +kernel
theorem dX5_isSound_2 : decode cX5_isSound 2 = .ok (.iload_n 1, 1) := by decide +kernel
theorem dX5_isSound_3 : decode cX5_isSound 3 = .ok (.aload_n 0, 1) := by decide +kernel
theorem dX5_isSound_4 : decode cX5_isSound 4 = .ok (.getfield 83, 3) := by decide +kernel
theorem dX5_isSound_7 : decode cX5_isSound 7 = .ok (.if_icmp .ge 32, 3) := by decide +kernel
theorem dX5_isSound_39 : decode cX5_isSound 39 = .ok (.aload_n 0, 1) := by decide +kernel
theorem dX5_isSound_40 : decode cX5_isSound 40 = .ok (.invokevirtual 295, 3) := by decide +kernel
theorem dX5_isSound_43 : decode cX5_isSound 43 = .ok (.aload_n 0, 1) := by decide +kernel
theorem dX5_isSound_44 : decode cX5_isSound 44 = .ok (.invokevirtual 298, 3) := by decide +kernel
theorem dX5_isSound_47 : decode cX5_isSound 47 = .ok (.if_icmp .ne 7, 3) := by decide +kernel
theorem dX5_isSound_50 : decode cX5_isSound 50 = .ok (.iconst 1, 1) := by decide +kernel
theorem dX5_isSound_51 : decode cX5_isSound 51 = .ok (.goto 4, 3) := by decide +kernel
theorem dX5_isSound_55 : decode cX5_isSound 55 = .ok (.ireturn, 1) := by decide +kernel
theorem dX5_needColour_0 : decode cX5_needColour 0 = .ok (.iload_n 0, 1) := by decide +kernel
theorem dX5_needColour_1 : decode cX5_needColour 1 = .ok (.ifCond .lt 9, 3) := by decide +kernel
theorem dX5_needColour_4 : decode cX5_needColour 4 = .ok (.iload_n 0, 1) := by decide +kernel
theorem dX5_needColour_5 : decode cX5_needColour 5 = .ok (.bipush 8, 2) := by decide +kernel
theorem dX5_needColour_7 : decode cX5_needColour 7 = .ok (.if_icmp .lt 14, 3) := by decide +kernel
theorem dX5_needColour_10 : decode cX5_needColour 10 = .ok (.new 67, 3) := by decide +kernel
theorem dX5_needColour_13 : decode cX5_needColour 13 = .ok (.dup, 1) := by decide +kernel
theorem dX5_needColour_14 : decode cX5_needColour 14 = .ok (.ldc_w 301, 3) := by decide +kernel
theorem dX5_needColour_17 : decode cX5_needColour 17 = .ok (.invokespecial 71, 3) := by decide +kernel
theorem dX5_needColour_20 : decode cX5_needColour 20 = .ok (.athrow, 1) := by decide +kernel
theorem dX5_needColour_21 : decode cX5_needColour 21 = .ok (.return_, 1) := by decide +kernel
theorem dX5_needPack_0 : decode cX5_needPack 0 = .ok (.iload_n 0, 1) := by decide +kernel
theorem dX5_needPack_1 : decode cX5_needPack 1 = .ok (.ifCond .lt 8, 3) := by decide +kernel
theorem dX5_needPack_4 : decode cX5_needPack 4 = .ok (.iload_n 0, 1) := by decide +kernel
theorem dX5_needPack_5 : decode cX5_needPack 5 = .ok (.iconst 4, 1) := by decide +kernel
theorem dX5_needPack_6 : decode cX5_needPack 6 = .ok (.if_icmp .lt 14, 3) := by decide +kernel
theorem dX5_needPack_9 : decode cX5_needPack 9 = .ok (.new 67, 3) := by decide +kernel
theorem dX5_needPack_12 : decode cX5_needPack 12 = .ok (.dup, 1) := by decide +kernel
theorem dX5_needPack_13 : decode cX5_needPack 13 = .ok (.ldc_w 303, 3) := by decide +kernel
theorem dX5_needPack_16 : decode cX5_needPack 16 = .ok (.invokespecial 71, 3) := by decide +kernel
theorem dX5_needPack_19 : decode cX5_needPack 19 = .ok (.athrow, 1) := by decide +kernel
theorem dX5_needPack_20 : decode cX5_needPack 20 = .ok (.return_, 1) := by decide +kernel
theorem dX5_needLetter_0 : decode cX5_needLetter 0 = .ok (.iload_n 0, 1) := by decide +kernel
theorem dX5_needLetter_1 : decode cX5_needLetter 1 = .ok (.bipush 97, 2) := by decide +kernel
theorem dX5_needLetter_3 : decode cX5_needLetter 3 = .ok (.if_icmp .lt 9, 3) := by decide +kernel
theorem dX5_needLetter_6 : decode cX5_needLetter 6 = .ok (.iload_n 0, 1) := by decide +kernel
theorem dX5_needLetter_7 : decode cX5_needLetter 7 = .ok (.bipush 122, 2) := by decide +kernel
theorem dX5_needLetter_9 : decode cX5_needLetter 9 = .ok (.if_icmp .le 14, 3) := by decide +kernel
theorem dX5_needLetter_12 : decode cX5_needLetter 12 = .ok (.new 67, 3) := by decide +kernel
theorem dX5_needLetter_15 : decode cX5_needLetter 15 = .ok (.dup, 1) := by decide +kernel
theorem dX5_needLetter_16 : decode cX5_needLetter 16 = .ok (.ldc_w 305, 3) := by decide +kernel
theorem dX5_needLetter_19 : decode cX5_needLetter 19 = .ok (.invokespecial 71, 3) := by decide +kernel
theorem dX5_needLetter_22 : decode cX5_needLetter 22 = .ok (.athrow, 1) := by decide +kernel
theorem dX5_needLetter_23 : decode cX5_needLetter 23 = .ok (.return_, 1) := by decide +kernel
theorem dX5_needCard_0 : decode cX5_needCard 0 = .ok (.iload_n 1, 1) := by decide +kernel
theorem dX5_needCard_1 : decode cX5_needCard 1 = .ok (.ifCond .lt 11, 3) := by decide +kernel
theorem dX5_needCard_4 : decode cX5_needCard 4 = .ok (.iload_n 1, 1) := by decide +kernel
theorem dX5_needCard_5 : decode cX5_needCard 5 = .ok (.aload_n 0, 1) := by decide +kernel
theorem dX5_needCard_6 : decode cX5_needCard 6 = .ok (.getfield 83, 3) := by decide +kernel
theorem dX5_needCard_9 : decode cX5_needCard 9 = .ok (.if_icmp .lt 14, 3) := by decide +kernel
theorem dX5_needCard_12 : decode cX5_needCard 12 = .ok (.new 264, 3) := by decide +kernel
theorem dX5_needCard_15 : decode cX5_needCard 15 = .ok (.dup, 1) := by decide +kernel
theorem dX5_needCard_16 : decode cX5_needCard 16 = .ok (.ldc_w 309, 3) := by decide +kernel
theorem dX5_needCard_19 : decode cX5_needCard 19 = .ok (.invokespecial 268, 3) := by decide +kernel
theorem dX5_needCard_22 : decode cX5_needCard 22 = .ok (.athrow, 1) := by decide +kernel
theorem dX5_needLast_0 : decode cX5_needLast 0 = .ok (.iload_n 1, 1) := by decide +kernel
theorem dX5_needLast_1 : decode cX5_needLast 1 = .ok (.aload_n 0, 1) := by decide +kernel
theorem dX5_needLast_2 : decode cX5_needLast 2 = .ok (.getfield 74, 3) := by decide +kernel
theorem dX5_needLast_5 : decode cX5_needLast 5 = .ok (.if_icmp .lt 9, 3) := by decide +kernel
theorem dX5_needLast_8 : decode cX5_needLast 8 = .ok (.iload_n 1, 1) := by decide +kernel
theorem dX5_needLast_9 : decode cX5_needLast 9 = .ok (.bipush 40, 2) := by decide +kernel
theorem dX5_needLast_11 : decode cX5_needLast 11 = .ok (.if_icmp .lt 14, 3) := by decide +kernel
theorem dX5_needLast_14 : decode cX5_needLast 14 = .ok (.new 67, 3) := by decide +kernel
theorem dX5_needLast_17 : decode cX5_needLast 17 = .ok (.dup, 1) := by decide +kernel
theorem dX5_needLast_18 : decode cX5_needLast 18 = .ok (.ldc_w 313, 3) := by decide +kernel
theorem dX5_needLast_21 : decode cX5_needLast 21 = .ok (.invokespecial 71, 3) := by decide +kernel
theorem dX5_needLast_24 : decode cX5_needLast 24 = .ok (.athrow, 1) := by decide +kernel
theorem dX5_needLast_25 : decode cX5_needLast 25 = .ok (.return_, 1) := by decide +kernel
theorem dX5_sideOf_0 : decode cX5_sideOf 0 = .ok (.iload_n 1, 1) := by decide +kernel
theorem dX5_sideOf_1 : decode cX5_sideOf 1 = .ok (.ifCond .eq 10, 3) := by decide +kernel
theorem dX5_sideOf_4 : decode cX5_sideOf 4 = .ok (.aload_n 0, 1) := by decide +kernel
theorem dX5_sideOf_5 : decode cX5_sideOf 5 = .ok (.getfield 35, 3) := by decide +kernel
theorem dX5_sideOf_8 : decode cX5_sideOf 8 = .ok (.goto 7, 3) := by decide +kernel
theorem dX5_sideOf_11 : decode cX5_sideOf 11 = .ok (.aload_n 0, 1) := by decide +kernel
theorem dX5_sideOf_12 : decode cX5_sideOf 12 = .ok (.getfield 31, 3) := by decide +kernel
theorem dX5_sideOf_15 : decode cX5_sideOf 15 = .ok (.areturn, 1) := by decide +kernel
theorem dX5_yarnOf_0 : decode cX5_yarnOf 0 = .ok (.iconst 0, 1) := by decide +kernel
theorem dX5_yarnOf_1 : decode cX5_yarnOf 1 = .ok (.istore_n 2, 1) := by decide +kernel
theorem dX5_yarnOf_2 : decode cX5_yarnOf 2 = .ok (.iconst 0, 1) := by decide +kernel
theorem dX5_yarnOf_3 : decode cX5_yarnOf 3 = .ok (.istore_n 3, 1) := by decide +kernel
theorem dX5_yarnOf_4 : decode cX5_yarnOf 4 = .ok (.iload_n 3, 1) := by decide +kernel
theorem dX5_yarnOf_5 : decode cX5_yarnOf 5 = .ok (.aload_n 0, 1) := by decide +kernel
theorem dX5_yarnOf_6 : decode cX5_yarnOf 6 = .ok (.getfield 83, 3) := by decide +kernel
theorem dX5_yarnOf_9 : decode cX5_yarnOf 9 = .ok (.if_icmp .ge 58, 3) := by decide +kernel
theorem dX5_yarnOf_67 : decode cX5_yarnOf 67 = .ok (.iload_n 2, 1) := by decide +kernel
theorem dX5_yarnOf_68 : decode cX5_yarnOf 68 = .ok (.ireturn, 1) := by decide +kernel
set_option maxRecDepth 20000 in
theorem ggX5_yarnOfColours_X5_yarnOf : GoodIn wsX5_yarnOfColours wsX5_yarnOf := goodIn_ca (goodIn_r _ [5, 6, 7, 8, 9, 10, 11, 12, 13, 14, 15, 16, 17, 18, 4, 19, 20, 21, 22, 23, 24, 25, 26, 27, 28, 29, 30, 31, 32, 33, 34, 35, 36, 37, 38, 39, 40, 41, 42] (by decide +kernel) (by decide +kernel)) (goodIn_sub (fun _ h => List.mem_cons_of_mem _ (List.mem_append_right _ h)) (by decide +kernel))
set_option maxRecDepth 20000 in
theorem gX5_yarnOfColours_X5_yarnOf : GoodIn wsX5_yarnOfColours (wsV RX5 231 RX5 yX5_yarnOf wsX5_yarnOf) := goodIn_app (goodIn_of _ (by decide +kernel)) ggX5_yarnOfColours_X5_yarnOf
theorem dX5_yarnOfColours_0 : decode cX5_yarnOfColours 0 = .ok (.iconst 0, 1) := by decide +kernel
theorem dX5_yarnOfColours_1 : decode cX5_yarnOfColours 1 = .ok (.istore_n 1, 1) := by decide +kernel
theorem dX5_yarnOfColours_2 : decode cX5_yarnOfColours 2 = .ok (.iconst 0, 1) := by decide +kernel
theorem dX5_yarnOfColours_3 : decode cX5_yarnOfColours 3 = .ok (.istore_n 2, 1) := by decide +kernel
theorem dX5_yarnOfColours_4 : decode cX5_yarnOfColours 4 = .ok (.iload_n 2, 1) := by decide +kernel
theorem dX5_yarnOfColours_5 : decode cX5_yarnOfColours 5 = .ok (.bipush 8, 2) := by decide +kernel
theorem dX5_yarnOfColours_7 : decode cX5_yarnOfColours 7 = .ok (.if_icmp .ge 17, 3) := by decide +kernel
theorem dX5_yarnOfColours_10 : decode cX5_yarnOfColours 10 = .ok (.iload_n 1, 1) := by decide +kernel
theorem dX5_yarnOfColours_11 : decode cX5_yarnOfColours 11 = .ok (.aload_n 0, 1) := by decide +kernel
theorem dX5_yarnOfColours_12 : decode cX5_yarnOfColours 12 = .ok (.iload_n 2, 1) := by decide +kernel
theorem dX5_yarnOfColours_13 : decode cX5_yarnOfColours 13 = .ok (.invokevirtual 231, 3) := by decide +kernel
theorem dX5_yarnOfColours_16 : decode cX5_yarnOfColours 16 = .ok (.iadd, 1) := by decide +kernel
theorem dX5_yarnOfColours_17 : decode cX5_yarnOfColours 17 = .ok (.istore_n 1, 1) := by decide +kernel
theorem dX5_yarnOfColours_18 : decode cX5_yarnOfColours 18 = .ok (.iinc 2 1, 3) := by decide +kernel
theorem dX5_yarnOfColours_21 : decode cX5_yarnOfColours 21 = .ok (.goto (-17), 3) := by decide +kernel
theorem dX5_yarnOfColours_24 : decode cX5_yarnOfColours 24 = .ok (.iload_n 1, 1) := by decide +kernel
theorem dX5_yarnOfColours_25 : decode cX5_yarnOfColours 25 = .ok (.ireturn, 1) := by decide +kernel
theorem dX5_yarnOfThreads_0 : decode cX5_yarnOfThreads 0 = .ok (.iconst 0, 1) := by decide +kernel
theorem dX5_yarnOfThreads_1 : decode cX5_yarnOfThreads 1 = .ok (.istore_n 1, 1) := by decide +kernel
theorem dX5_yarnOfThreads_2 : decode cX5_yarnOfThreads 2 = .ok (.iconst 0, 1) := by decide +kernel
theorem dX5_yarnOfThreads_3 : decode cX5_yarnOfThreads 3 = .ok (.istore_n 2, 1) := by decide +kernel
theorem dX5_yarnOfThreads_4 : decode cX5_yarnOfThreads 4 = .ok (.iload_n 2, 1) := by decide +kernel
theorem dX5_yarnOfThreads_5 : decode cX5_yarnOfThreads 5 = .ok (.aload_n 0, 1) := by decide +kernel
theorem dX5_yarnOfThreads_6 : decode cX5_yarnOfThreads 6 = .ok (.getfield 83, 3) := by decide +kernel
theorem dX5_yarnOfThreads_9 : decode cX5_yarnOfThreads 9 = .ok (.if_icmp .ge 39, 3) := by decide +kernel
theorem dX5_yarnOfThreads_48 : decode cX5_yarnOfThreads 48 = .ok (.iload_n 1, 1) := by decide +kernel
theorem dX5_yarnOfThreads_49 : decode cX5_yarnOfThreads 49 = .ok (.ireturn, 1) := by decide +kernel
