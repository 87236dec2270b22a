theorem dX8_canPlan_43 : decode cX8_canPlan 43 = .ok (.ireturn, 1) := by decide +kernel
set_option maxRecDepth 20000 in
theorem ggX8_reversals_X8_isNoCard : GoodIn wsX8_reversals wsX8_isNoCard := goodIn_r _ [5, 6, 7, 8, 9, 10, 11, 12, 13, 14, 4, 15, 123, 124, 125, 126, 127, 128, 129, 130, 131, 132, 133, 134] (by decide +kernel) (by decide +kernel)
set_option maxRecDepth 20000 in
theorem gX8_reversals_X8_isNoCard : GoodIn wsX8_reversals (wsV RX8 79 RX8 yX8_isNoCard wsX8_isNoCard) := goodIn_app (goodIn_of _ (by decide +kernel)) ggX8_reversals_X8_isNoCard
set_option maxRecDepth 20000 in
theorem ggX8_reversals_X8_isThrown : GoodIn wsX8_reversals wsX8_isThrown := goodIn_r _ [19, 20, 123, 124, 125, 126, 127, 128, 129, 130, 131] (by decide +kernel) (by decide +kernel)
set_option maxRecDepth 20000 in
theorem gX8_reversals_X8_isThrown : GoodIn wsX8_reversals (wsV RX8 62 RX8 yX8_isThrown wsX8_isThrown) := goodIn_app (goodIn_of _ (by decide +kernel)) ggX8_reversals_X8_isThrown
theorem dX8_reversals_0 : decode cX8_reversals 0 = .ok (.aload_n 0, 1) := by decide +kernel
theorem dX8_reversals_1 : decode cX8_reversals 1 = .ok (.aload_n 0, 1) := by decide +kernel
theorem dX8_reversals_2 : decode cX8_reversals 2 = .ok (.iload_n 1, 1) := by decide +kernel
theorem dX8_reversals_3 : decode cX8_reversals 3 = .ok (.invokevirtual 79, 3) := by decide +kernel
theorem dX8_reversals_6 : decode cX8_reversals 6 = .ok (.iconst 1, 1) := by decide +kernel
theorem dX8_reversals_7 : decode cX8_reversals 7 = .ok (.invokevirtual 62, 3) := by decide +kernel
theorem dX8_reversals_10 : decode cX8_reversals 10 = .ok (.ifCond .ne 41, 3) := by decide +kernel
theorem dX8_reversals_51 : decode cX8_reversals 51 = .ok (.iconst 0, 1) := by decide +kernel
theorem dX8_reversals_52 : decode cX8_reversals 52 = .ok (.ireturn, 1) := by decide +kernel
set_option maxRecDepth 20000 in
theorem ggX8_planAt_X8_isNoCard : GoodIn wsX8_planAt wsX8_isNoCard := goodIn_r _ [5, 6, 7, 8, 9, 10, 11, 12, 13, 14, 4, 15, 277, 278, 279, 280, 281, 282, 283, 284, 285, 286, 287, 288] (by decide +kernel) (by decide +kernel)
set_option maxRecDepth 20000 in
theorem gX8_planAt_X8_isNoCard : GoodIn wsX8_planAt (wsV RX8 79 RX8 yX8_isNoCard wsX8_isNoCard) := goodIn_app (goodIn_of _ (by decide +kernel)) ggX8_planAt_X8_isNoCard
set_option maxRecDepth 20000 in
theorem ggX8_planAt_X8_isThrown : GoodIn wsX8_planAt wsX8_isThrown := goodIn_r _ [19, 20, 277, 278, 279, 280, 281, 282, 283, 284, 285] (by decide +kernel) (by decide +kernel)
set_option maxRecDepth 20000 in
theorem gX8_planAt_X8_isThrown : GoodIn wsX8_planAt (wsV RX8 62 RX8 yX8_isThrown wsX8_isThrown) := goodIn_app (goodIn_of _ (by decide +kernel)) ggX8_planAt_X8_isThrown
theorem dX8_planAt_0 : decode cX8_planAt 0 = .ok (.aload_n 0, 1) := by decide +kernel
theorem dX8_planAt_1 : decode cX8_planAt 1 = .ok (.aload_n 0, 1) := by decide +kernel
theorem dX8_planAt_2 : decode cX8_planAt 2 = .ok (.iload_n 1, 1) := by decide +kernel
theorem dX8_planAt_3 : decode cX8_planAt 3 = .ok (.invokevirtual 79, 3) := by decide +kernel
theorem dX8_planAt_6 : decode cX8_planAt 6 = .ok (.iconst 1, 1) := by decide +kernel
theorem dX8_planAt_7 : decode cX8_planAt 7 = .ok (.invokevirtual 62, 3) := by decide +kernel
theorem dX8_planAt_10 : decode cX8_planAt 10 = .ok (.ifCond .ne 16, 3) := by decide +kernel
theorem dX8_planAt_26 : decode cX8_planAt 26 = .ok (.bipush 32, 2) := by decide +kernel
theorem dX8_planAt_28 : decode cX8_planAt 28 = .ok (.ireturn, 1) := by decide +kernel
set_option maxRecDepth 20000 in
theorem ggX8_weave_X8_isNoLast : GoodIn wsX8_weave wsX8_isNoLast := goodIn_r _ [7, 8, 9, 10, 11, 12, 13, 14, 15, 16, 6, 17, 327, 328, 329, 330, 331, 332, 333, 334, 335, 336, 337, 338] (by decide +kernel) (by decide +kernel)
set_option maxRecDepth 20000 in
theorem gX8_weave_X8_isNoLast : GoodIn wsX8_weave (wsV RX8 202 RX8 yX8_isNoLast wsX8_isNoLast) := goodIn_app (goodIn_of _ (by decide +kernel)) ggX8_weave_X8_isNoLast
set_option maxRecDepth 20000 in
theorem ggX8_weave_X8_isThrown : GoodIn wsX8_weave wsX8_isThrown := goodIn_r _ [21, 22, 327, 328, 329, 330, 331, 332, 333, 334, 335] (by decide +kernel) (by decide +kernel)
set_option maxRecDepth 20000 in
theorem gX8_weave_X8_isThrown : GoodIn wsX8_weave (wsV RX8 62 RX8 yX8_isThrown wsX8_isThrown) := goodIn_app (goodIn_of _ (by decide +kernel)) ggX8_weave_X8_isThrown
set_option maxRecDepth 20000 in
theorem ggX8_weave_Jx4a65c_isEmpty_aae02 : GoodIn wsX8_weave wsJx4a65c_isEmpty_aae02 := goodIn_r _ [26, 14, 336, 337, 338] (by decide +kernel) (by decide +kernel)
set_option maxRecDepth 20000 in
theorem gX8_weave_Jx4a65c_isEmpty_aae02 : GoodIn wsX8_weave (wsV RX8 66 RJx4a65c yJx4a65c_isEmpty_aae02 wsJx4a65c_isEmpty_aae02) := goodIn_app (goodIn_of _ (by decide +kernel)) ggX8_weave_Jx4a65c_isEmpty_aae02
theorem dX8_weave_0 : decode cX8_weave 0 = .ok (.aload_n 0, 1) := by decide +kernel
theorem dX8_weave_1 : decode cX8_weave 1 = .ok (.aload_n 0, 1) := by decide +kernel
theorem dX8_weave_2 : decode cX8_weave 2 = .ok (.iload_n 1, 1) := by decide +kernel
theorem dX8_weave_3 : decode cX8_weave 3 = .ok (.invokevirtual 202, 3) := by decide +kernel
theorem dX8_weave_6 : decode cX8_weave 6 = .ok (.iconst 1, 1) := by decide +kernel
theorem dX8_weave_7 : decode cX8_weave 7 = .ok (.invokevirtual 62, 3) := by decide +kernel
theorem dX8_weave_10 : decode cX8_weave 10 = .ok (.ifCond .ne 18, 3) := by decide +kernel
theorem dX8_weave_13 : decode cX8_weave 13 = .ok (.aload_n 0, 1) := by decide +kernel
theorem dX8_weave_14 : decode cX8_weave 14 = .ok (.aload_n 0, 1) := by decide +kernel
theorem dX8_weave_15 : decode cX8_weave 15 = .ok (.getfield 10, 3) := by decide +kernel
theorem dX8_weave_18 : decode cX8_weave 18 = .ok (.invokevirtual 66, 3) := by decide +kernel
theorem dX8_weave_21 : decode cX8_weave 21 = .ok (.iconst 2, 1) := by decide +kernel
theorem dX8_weave_22 : decode cX8_weave 22 = .ok (.invokevirtual 62, 3) := by decide +kernel
theorem dX8_weave_25 : decode cX8_weave 25 = .ok (.ifCond .eq 5, 3) := by decide +kernel
theorem dX8_weave_28 : decode cX8_weave 28 = .ok (.iconst 0, 1) := by decide +kernel
theorem dX8_weave_29 : decode cX8_weave 29 = .ok (.ireturn, 1) := by decide +kernel
set_option maxRecDepth 20000 in
theorem ggX8_faultsOn_Jx4a65c_size_8abf5 : GoodIn wsX8_faultsOn wsJx4a65c_size_8abf5 := goodIn_r _ [7, 8, 116, 117, 118] (by decide +kernel) (by decide +kernel)
set_option maxRecDepth 20000 in
theorem gX8_faultsOn_Jx4a65c_size_8abf5 : GoodIn wsX8_faultsOn (wsV RX8 50 RJx4a65c yJx4a65c_size_8abf5 wsJx4a65c_size_8abf5) := goodIn_app (goodIn_of _ (by decide +kernel)) ggX8_faultsOn_Jx4a65c_size_8abf5
theorem dX8_faultsOn_0 : decode cX8_faultsOn 0 = .ok (.iconst 0, 1) := by decide +kernel
theorem dX8_faultsOn_1 : decode cX8_faultsOn 1 = .ok (.istore_n 2, 1) := by decide +kernel
theorem dX8_faultsOn_2 : decode cX8_faultsOn 2 = .ok (.iconst 0, 1) := by decide +kernel
theorem dX8_faultsOn_3 : decode cX8_faultsOn 3 = .ok (.istore_n 3, 1) := by decide +kernel
theorem dX8_faultsOn_4 : decode cX8_faultsOn 4 = .ok (.iload_n 3, 1) := by decide +kernel
theorem dX8_faultsOn_5 : decode cX8_faultsOn 5 = .ok (.aload_n 0, 1) := by decide +kernel
theorem dX8_faultsOn_6 : decode cX8_faultsOn 6 = .ok (.getfield 16, 3) := by decide +kernel
theorem dX8_faultsOn_9 : decode cX8_faultsOn 9 = .ok (.invokevirtual 50, 3) := by decide +kernel
theorem dX8_faultsOn_12 : decode cX8_faultsOn 12 = .ok (.if_icmp .ge 41, 3) := by decide +kernel
theorem dX8_faultsOn_53 : decode cX8_faultsOn 53 = .ok (.iload_n 2, 1) := by decide +kernel
theorem dX8_faultsOn_54 : decode cX8_faultsOn 54 = .ok (.ireturn, 1) := by decide +kernel
set_option maxRecDepth 20000 in
theorem ggX8_faults_X8_faultsOn : GoodIn wsX8_faults wsX8_faultsOn := goodIn_ca (goodIn_r _ [6, 7, 8, 9, 10, 11, 12, 13, 14, 15, 16, 17, 5, 18, 19, 20, 21, 22, 23, 24, 25, 26, 27, 28, 29, 30, 31, 32, 33, 34, 35, 36, 37, 38, 39, 40, 41, 42, 43, 44, 45, 46, 47, 48, 49, 50, 51, 52, 53, 54, 55, 56, 57, 58, 59, 60, 61, 62, 63, 64, 65, 66, 67, 68, 69, 70, 71, 72, 73, 74, 75, 76, 77, 78, 79, 80, 81, 82, 83, 84, 85, 86, 87, 88, 89, 90, 91, 92, 93, 94, 95, 96, 97, 98, 99, 100, 101, 102, 103, 104, 105, 106, 107, 108, 109, 110, 111, 112, 113, 114, 115, 116, 117, 118, 119, 120, 121, 122, 123, 124, 125, 126, 127, 128, 129, 130, 131, 132, 133, 134, 135, 136, 137] (by decide +kernel) (by decide +kernel)) (goodIn_sub (fun _ h => List.mem_cons_of_mem _ (List.mem_append_right _ h)) (by decide +kernel))
set_option maxRecDepth 20000 in
theorem gX8_faults_X8_faultsOn : GoodIn wsX8_faults (wsV RX8 215 RX8 yX8_faultsOn wsX8_faultsOn) := goodIn_app (goodIn_of _ (by decide +kernel)) ggX8_faults_X8_faultsOn
theorem dX8_faults_0 : decode cX8_faults 0 = .ok (.aload_n 0, 1) := by decide +kernel
theorem dX8_faults_1 : decode cX8_faults 1 = .ok (.iconst 0, 1) := by decide +kernel
theorem dX8_faults_2 : decode cX8_faults 2 = .ok (.putfield 46, 3) := by decide +kernel
theorem dX8_faults_5 : decode cX8_faults 5 = .ok (.aload_n 0, 1) := by decide +kernel
theorem dX8_faults_6 : decode cX8_faults 6 = .ok (.iload_n 1, 1) := by decide +kernel
theorem dX8_faults_7 : decode cX8_faults 7 = .ok (.invokevirtual 215, 3) := by decide +kernel
theorem dX8_faults_10 : decode cX8_faults 10 = .ok (.ireturn, 1) := by decide +kernel
set_option maxRecDepth 20000 in
theorem ggX8_faultsOf_X8_isNoCard : GoodIn wsX8_faultsOf wsX8_isNoCard := goodIn_r _ [5, 6, 7, 8, 9, 10, 11, 12, 13, 14, 4, 15, 120, 121, 122, 123, 124, 125, 126, 127, 128, 129, 130, 131] (by decide +kernel) (by decide +kernel)
set_option maxRecDepth 20000 in
theorem gX8_faultsOf_X8_isNoCard : GoodIn wsX8_faultsOf (wsV RX8 79 RX8 yX8_isNoCard wsX8_isNoCard) := goodIn_app (goodIn_of _ (by decide +kernel)) ggX8_faultsOf_X8_isNoCard
set_option maxRecDepth 20000 in
theorem ggX8_faultsOf_X8_isThrown : GoodIn wsX8_faultsOf wsX8_isThrown := goodIn_r _ [19, 20, 120, 121, 122, 123, 124, 125, 126, 127, 128] (by decide +kernel) (by decide +kernel)
set_option maxRecDepth 20000 in
theorem gX8_faultsOf_X8_isThrown : GoodIn wsX8_faultsOf (wsV RX8 62 RX8 yX8_isThrown wsX8_isThrown) := goodIn_app (goodIn_of _ (by decide +kernel)) ggX8_faultsOf_X8_isThrown
theorem dX8_faultsOf_0 : decode cX8_faultsOf 0 = .ok (.aload_n 0, 1) := by decide +kernel
theorem dX8_faultsOf_1 : decode cX8_faultsOf 1 = .ok (.aload_n 0, 1) := by decide +kernel
theorem dX8_faultsOf_2 : decode cX8_faultsOf 2 = .ok (.iload_n 1, 1) := by decide +kernel
theorem dX8_faultsOf_3 : decode cX8_faultsOf 3 = .ok (.invokevirtual 79, 3) := by decide +kernel
theorem dX8_faultsOf_6 : decode cX8_faultsOf 6 = .ok (.iconst 1, 1) := by decide +kernel
theorem dX8_faultsOf_7 : decode cX8_faultsOf 7 = .ok (.invokevirtual 62, 3) := by decide +kernel
theorem dX8_faultsOf_10 : decode cX8_faultsOf 10 = .ok (.ifCond .eq 7, 3) := by decide +kernel
theorem dX8_faultsOf_13 : decode cX8_faultsOf 13 = .ok (.iconst 0, 1) := by decide +kernel
theorem dX8_faultsOf_14 : decode cX8_faultsOf 14 = .ok (.goto 8, 3) := by decide +kernel
theorem dX8_faultsOf_22 : decode cX8_faultsOf 22 = .ok (.ireturn, 1) := by decide +kernel
set_option maxRecDepth 20000 in
theorem ggX8_firstFault_Jx4a65c_size_8abf5 : GoodIn wsX8_firstFault wsJx4a65c_size_8abf5 := goodIn_r _ [8, 9, 117, 118, 119] (by decide +kernel) (by decide +kernel)
set_option maxRecDepth 20000 in
theorem gX8_firstFault_Jx4a65c_size_8abf5 : GoodIn wsX8_firstFault (wsV RX8 50 RJx4a65c yJx4a65c_size_8abf5 wsJx4a65c_size_8abf5) := goodIn_app (goodIn_of _ (by decide +kernel)) ggX8_firstFault_Jx4a65c_size_8abf5
theorem dX8_firstFault_0 : decode cX8_firstFault 0 = .ok (.iconst 0, 1) := by decide +kernel
theorem dX8_firstFault_1 : decode cX8_firstFault 1 = .ok (.istore_n 1, 1) := by decide +kernel
theorem dX8_firstFault_2 : decode cX8_firstFault 2 = .ok (.iload_n 1, 1) := by decide +kernel
theorem dX8_firstFault_3 : decode cX8_firstFault 3 = .ok (.aload_n 0, 1) := by decide +kernel
theorem dX8_firstFault_4 : decode cX8_firstFault 4 = .ok (.getfield 16, 3) := by decide +kernel
theorem dX8_firstFault_7 : decode cX8_firstFault 7 = .ok (.invokevirtual 50, 3) := by decide +kernel
theorem dX8_firstFault_10 : decode cX8_firstFault 10 = .ok (.if_icmp .ge 53, 3) := by decide +kernel
theorem dX8_firstFault_63 : decode cX8_firstFault 63 = .ok (.aload_n 0, 1) := by decide +kernel
theorem dX8_firstFault_64 : decode cX8_firstFault 64 = .ok (.iconst 1, 1) := by decide +kernel
theorem dX8_firstFault_65 : decode cX8_firstFault 65 = .ok (.putfield 46, 3) := by decide +kernel
theorem dX8_firstFault_68 : decode cX8_firstFault 68 = .ok (.iconst 0, 1) := by decide +kernel
theorem dX8_firstFault_69 : decode cX8_firstFault 69 = .ok (.ireturn, 1) := by decide +kernel
set_option maxRecDepth 20000 in
theorem ggX8_suspect_Jx4a65c_size_8abf5 : GoodIn wsX8_suspect wsJx4a65c_size_8abf5 := goodIn_r _ [10, 11, 129, 130, 131] (by decide +kernel) (by decide +kernel)
set_option maxRecDepth 20000 in
theorem gX8_suspect_Jx4a65c_size_8abf5 : GoodIn wsX8_suspect (wsV RX8 50 RJx4a65c yJx4a65c_size_8abf5 wsJx4a65c_size_8abf5) := goodIn_app (goodIn_of _ (by decide +kernel)) ggX8_suspect_Jx4a65c_size_8abf5
set_option maxRecDepth 20000 in
theorem ggX8_suspect_X8_isThrown : GoodIn wsX8_suspect wsX8_isThrown := goodIn_r _ [118, 119, 120, 121, 122, 123, 124, 125, 126, 127, 128] (by decide +kernel) (by decide +kernel)
set_option maxRecDepth 20000 in
theorem gX8_suspect_X8_isThrown : GoodIn wsX8_suspect (wsV RX8 62 RX8 yX8_isThrown wsX8_isThrown) := goodIn_app (goodIn_of _ (by decide +kernel)) ggX8_suspect_X8_isThrown
theorem dX8_suspect_0 : decode cX8_suspect 0 = .ok (.iconst 0, 1) := by decide +kernel
theorem dX8_suspect_1 : decode cX8_suspect 1 = .ok (.istore_n 1, 1) := by decide +kernel
theorem dX8_suspect_2 : decode cX8_suspect 2 = .ok (.iconst 0, 1) := by decide +kernel
theorem dX8_suspect_3 : decode cX8_suspect 3 = .ok (.istore_n 2, 1) := by decide +kernel
theorem dX8_suspect_4 : decode cX8_suspect 4 = .ok (.iconst 0, 1) := by decide +kernel
theorem dX8_suspect_5 : decode cX8_suspect 5 = .ok (.istore_n 3, 1) := by decide +kernel
theorem dX8_suspect_6 : decode cX8_suspect 6 = .ok (.iload_n 3, 1) := by decide +kernel
theorem dX8_suspect_7 : decode cX8_suspect 7 = .ok (.aload_n 0, 1) := by decide +kernel
theorem dX8_suspect_8 : decode cX8_suspect 8 = .ok (.getfield 10, 3) := by decide +kernel
theorem dX8_suspect_11 : decode cX8_suspect 11 = .ok (.invokevirtual 50, 3) := by decide +kernel
theorem dX8_suspect_14 : decode cX8_suspect 14 = .ok (.if_icmp .ge 34, 3) := by decide +kernel
theorem dX8_suspect_48 : decode cX8_suspect 48 = .ok (.aload_n 0, 1) := by decide +kernel
theorem dX8_suspect_49 : decode cX8_suspect 49 = .ok (.iload_n 2, 1) := by decide +kernel
theorem dX8_suspect_50 : decode cX8_suspect 50 = .ok (.ifCond .ne 7, 3) := by decide +kernel
theorem dX8_suspect_53 : decode cX8_suspect 53 = .ok (.iconst 1, 1) := by decide +kernel
theorem dX8_suspect_54 : decode cX8_suspect 54 = .ok (.goto 4, 3) := by decide +kernel
theorem dX8_suspect_58 : decode cX8_suspect 58 = .ok (.iconst 1, 1) := by decide +kernel
theorem dX8_suspect_59 : decode cX8_suspect 59 = .ok (.invokevirtual 62, 3) := by decide +kernel
theorem dX8_suspect_62 : decode cX8_suspect 62 = .ok (.ifCond .eq 7, 3) := by decide +kernel
theorem dX8_suspect_65 : decode cX8_suspect 65 = .ok (.iconst 0, 1) := by decide +kernel
theorem dX8_suspect_66 : decode cX8_suspect 66 = .ok (.goto 4, 3) := by decide +kernel
theorem dX8_suspect_70 : decode cX8_suspect 70 = .ok (.ireturn, 1) := by decide +kernel
set_option maxRecDepth 20000 in
theorem ggX8_ways_X8_isNoCard : GoodIn wsX8_ways wsX8_isNoCard := goodIn_r _ [8, 2, 9, 10, 11, 12, 13, 14, 15, 16, 7, 17, 60, 61, 62, 63, 64, 65, 66, 67, 68, 69, 70, 71] (by decide +kernel) (by decide +kernel)
set_option maxRecDepth 20000 in
theorem gX8_ways_X8_isNoCard : GoodIn wsX8_ways (wsV RX8 79 RX8 yX8_isNoCard wsX8_isNoCard) := goodIn_app (goodIn_of _ (by decide +kernel)) ggX8_ways_X8_isNoCard
set_option maxRecDepth 20000 in
theorem ggX8_ways_X8_isThrown : GoodIn wsX8_ways wsX8_isThrown := goodIn_r _ [26, 27, 60, 61, 62, 63, 64, 65, 66, 67, 68] (by decide +kernel) (by decide +kernel)
set_option maxRecDepth 20000 in
theorem gX8_ways_X8_isThrown : GoodIn wsX8_ways (wsV RX8 62 RX8 yX8_isThrown wsX8_isThrown) := goodIn_app (goodIn_of _ (by decide +kernel)) ggX8_ways_X8_isThrown
theorem dX8_ways_0 : decode cX8_ways 0 = .ok (.aload_n 0, 1) := by decide +kernel
theorem dX8_ways_1 : decode cX8_ways 1 = .ok (.aload_n 0, 1) := by decide +kernel
theorem dX8_ways_2 : decode cX8_ways 2 = .ok (.iload_n 1, 1) := by decide +kernel
theorem dX8_ways_3 : decode cX8_ways 3 = .ok (.invokevirtual 79, 3) := by decide +kernel
theorem dX8_ways_6 : decode cX8_ways 6 = .ok (.ifCond .ne 19, 3) := by decide +kernel
theorem dX8_ways_25 : decode cX8_ways 25 = .ok (.iconst 1, 1) := by decide +kernel
theorem dX8_ways_26 : decode cX8_ways 26 = .ok (.goto 4, 3) := by decide +kernel
theorem dX8_ways_30 : decode cX8_ways 30 = .ok (.iconst 1, 1) := by decide +kernel
theorem dX8_ways_31 : decode cX8_ways 31 = .ok (.invokevirtual 62, 3) := by decide +kernel
theorem dX8_ways_34 : decode cX8_ways 34 = .ok (.ifCond .ne 21, 3) := by decide +kernel
theorem dX8_ways_55 : decode cX8_ways 55 = .ok (.lconst 0, 1) := by decide +kernel
theorem dX8_ways_56 : decode cX8_ways 56 = .ok (.lreturn, 1) := by decide +kernel
set_option maxRecDepth 20000 in
theorem ggX8_yarn_X8_isNoColour : GoodIn wsX8_yarn wsX8_isNoColour := goodIn_r _ [7, 8, 9, 6, 10] (by decide +kernel) (by decide +kernel)
set_option maxRecDepth 20000 in
theorem gX8_yarn_X8_isNoColour : GoodIn wsX8_yarn (va_wsS RX8 58 yX8_isNoColour wsX8_isNoColour) := goodIn_app (goodIn_of _ (by decide +kernel)) ggX8_yarn_X8_isNoColour
set_option maxRecDepth 20000 in
theorem ggX8_yarn_X8_isThrown : GoodIn wsX8_yarn wsX8_isThrown := goodIn_r _ [14, 15, 44, 45, 46, 47, 48, 49, 50, 51, 52] (by decide +kernel) (by decide +kernel)
set_option maxRecDepth 20000 in
theorem gX8_yarn_X8_isThrown : GoodIn wsX8_yarn (wsV RX8 62 RX8 yX8_isThrown wsX8_isThrown) := goodIn_app (goodIn_of _ (by decide +kernel)) ggX8_yarn_X8_isThrown
set_option maxRecDepth 20000 in
theorem ggX8_yarn_Jx4a65c_size_8abf5 : GoodIn wsX8_yarn wsJx4a65c_size_8abf5 := goodIn_r _ [20, 21, 58, 59, 60] (by decide +kernel) (by decide +kernel)
set_option maxRecDepth 20000 in
theorem gX8_yarn_Jx4a65c_size_8abf5 : GoodIn wsX8_yarn (wsV RX8 50 RJx4a65c yJx4a65c_size_8abf5 wsJx4a65c_size_8abf5) := goodIn_app (goodIn_of _ (by decide +kernel)) ggX8_yarn_Jx4a65c_size_8abf5
theorem dX8_yarn_0 : decode cX8_yarn 0 = .ok (.aload_n 0, 1) := by decide +kernel
theorem dX8_yarn_1 : decode cX8_yarn 1 = .ok (.iload_n 1, 1) := by decide +kernel
theorem dX8_yarn_2 : decode cX8_yarn 2 = .ok (.invokestatic 58, 3) := by decide +kernel
theorem dX8_yarn_5 : decode cX8_yarn 5 = .ok (.iconst 1, 1) := by decide +kernel
theorem dX8_yarn_6 : decode cX8_yarn 6 = .ok (.invokevirtual 62, 3) := by decide +kernel
theorem dX8_yarn_9 : decode cX8_yarn 9 = .ok (.ifCond .eq 5, 3) := by decide +kernel
theorem dX8_yarn_12 : decode cX8_yarn 12 = .ok (.iconst 0, 1) := by decide +kernel
theorem dX8_yarn_13 : decode cX8_yarn 13 = .ok (.ireturn, 1) := by decide +kernel
theorem dX8_yarn_14 : decode cX8_yarn 14 = .ok (.iconst 0, 1) := by decide +kernel
theorem dX8_yarn_15 : decode cX8_yarn 15 = .ok (.istore_n 2, 1) := by decide +kernel
theorem dX8_yarn_16 : decode cX8_yarn 16 = .ok (.iconst 0, 1) := by decide +kernel
theorem dX8_yarn_17 : decode cX8_yarn 17 = .ok (.istore_n 3, 1) := by decide +kernel
theorem dX8_yarn_18 : decode cX8_yarn 18 = .ok (.iload_n 3, 1) := by decide +kernel
theorem dX8_yarn_19 : decode cX8_yarn 19 = .ok (.aload_n 0, 1) := by decide +kernel
theorem dX8_yarn_20 : decode cX8_yarn 20 = .ok (.getfield 10, 3) := by decide +kernel
theorem dX8_yarn_23 : decode cX8_yarn 23 = .ok (.invokevirtual 50, 3) := by decide +kernel
theorem dX8_yarn_26 : decode cX8_yarn 26 = .ok (.if_icmp .ge 140, 3) := by decide +kernel
theorem dX8_yarn_166 : decode cX8_yarn 166 = .ok (.iload_n 2, 1) := by decide +kernel
theorem dX8_yarn_167 : decode cX8_yarn 167 = .ok (.ireturn, 1) := by decide +kernel
set_option maxRecDepth 20000 in
theorem ggX8_kinds_Jx4a65c_size_8abf5 : GoodIn wsX8_kinds wsJx4a65c_size_8abf5 := goodIn_r _ [8, 9, 43, 44, 45] (by decide +kernel) (by decide +kernel)
set_option maxRecDepth 20000 in
theorem gX8_kinds_Jx4a65c_size_8abf5 : GoodIn wsX8_kinds (wsV RX8 50 RJx4a65c yJx4a65c_size_8abf5 wsJx4a65c_size_8abf5) := goodIn_app (goodIn_of _ (by decide +kernel)) ggX8_kinds_Jx4a65c_size_8abf5
theorem dX8_kinds_0 : decode cX8_kinds 0 = .ok (.aload_n 0, 1) := by decide +kernel
theorem dX8_kinds_1 : decode cX8_kinds 1 = .ok (.iconst 0, 1) := by decide +kernel
theorem dX8_kinds_2 : decode cX8_kinds 2 = .ok (.putfield 46, 3) := by decide +kernel
theorem dX8_kinds_5 : decode cX8_kinds 5 = .ok (.iconst 0, 1) := by decide +kernel
theorem dX8_kinds_6 : decode cX8_kinds 6 = .ok (.istore_n 1, 1) := by decide +kernel
theorem dX8_kinds_7 : decode cX8_kinds 7 = .ok (.iconst 0, 1) := by decide +kernel
theorem dX8_kinds_8 : decode cX8_kinds 8 = .ok (.istore_n 2, 1) := by decide +kernel
theorem dX8_kinds_9 : decode cX8_kinds 9 = .ok (.iload_n 2, 1) := by decide +kernel
theorem dX8_kinds_10 : decode cX8_kinds 10 = .ok (.aload_n 0, 1) := by decide +kernel
theorem dX8_kinds_11 : decode cX8_kinds 11 = .ok (.getfield 10, 3) := by decide +kernel
theorem dX8_kinds_14 : decode cX8_kinds 14 = .ok (.invokevirtual 50, 3) := by decide +kernel
theorem dX8_kinds_17 : decode cX8_kinds 17 = .ok (.if_icmp .ge 75, 3) := by decide +kernel
theorem dX8_kinds_92 : decode cX8_kinds 92 = .ok (.iload_n 1, 1) := by decide +kernel
theorem dX8_kinds_93 : decode cX8_kinds 93 = .ok (.ireturn, 1) := by decide +kernel
set_option maxRecDepth 20000 in
theorem ggX8_hand_X8_faultsOn : GoodIn wsX8_hand wsX8_faultsOn := goodIn_ca (goodIn_r _ [12, 3, 13, 14, 15, 16, 17, 18, 19, 20, 21, 22, 11, 23, 24, 25, 26, 27, 28, 29, 30, 31, 32, 33, 34, 35, 36, 37, 38, 39, 40, 41, 42, 43, 44, 45, 46, 47, 48, 49, 50, 51, 52, 53, 54, 55, 56, 57, 58, 59, 60, 61, 62, 63, 64, 65, 66, 67, 68, 69, 70, 71, 72, 73, 74, 75, 76, 77, 78, 79, 80, 81, 82, 83, 84, 85, 86, 87, 88, 89, 90, 91, 92, 93, 94, 95, 96, 97, 98, 99, 100, 101, 102, 103, 104, 105, 106, 107, 108, 109, 110, 111, 112, 113, 114, 115, 116, 132, 133, 134, 135, 136, 137, 138, 139, 140, 141, 142, 143, 144, 145, 146, 147, 148, 149, 150, 151, 152, 153, 154, 155, 156, 157] (by decide +kernel) (by decide +kernel)) (goodIn_sub (fun _ h => List.mem_cons_of_mem _ (List.mem_append_right _ h)) (by decide +kernel))
set_option maxRecDepth 20000 in
theorem gX8_hand_X8_faultsOn : GoodIn wsX8_hand (wsV RX8 215 RX8 yX8_faultsOn wsX8_faultsOn) := goodIn_app (goodIn_of _ (by decide +kernel)) ggX8_hand_X8_faultsOn
set_option maxRecDepth 20000 in
theorem ggX8_hand_Jx4a65c_size_8abf5 : GoodIn wsX8_hand wsJx4a65c_size_8abf5 := goodIn_r _ [18, 19, 141, 142, 143] (by decide +kernel) (by decide +kernel)
set_option maxRecDepth 20000 in
theorem gX8_hand_Jx4a65c_size_8abf5 : GoodIn wsX8_hand (wsV RX8 50 RJx4a65c yJx4a65c_size_8abf5 wsJx4a65c_size_8abf5) := goodIn_app (goodIn_of _ (by decide +kernel)) ggX8_hand_Jx4a65c_size_8abf5
set_option maxRecDepth 20000 in
theorem ggX8_hand_X8_isThrown : GoodIn wsX8_hand wsX8_isThrown := goodIn_r _ [130, 131, 132, 133, 134, 135, 136, 137, 138, 139, 140] (by decide +kernel) (by decide +kernel)
set_option maxRecDepth 20000 in
theorem gX8_hand_X8_isThrown : GoodIn wsX8_hand (wsV RX8 62 RX8 yX8_isThrown wsX8_isThrown) := goodIn_app (goodIn_of _ (by decide +kernel)) ggX8_hand_X8_isThrown
theorem dX8_hand_0 : decode cX8_hand 0 = .ok (.bipush 100, 2) := by decide +kernel
theorem dX8_hand_2 : decode cX8_hand 2 = .ok (.aload_n 0, 1) := by decide +kernel
theorem dX8_hand_3 : decode cX8_hand 3 = .ok (.iconst 0, 1) := by decide +kernel
theorem dX8_hand_4 : decode cX8_hand 4 = .ok (.invokevirtual 215, 3) := by decide +kernel
theorem dX8_hand_7 : decode cX8_hand 7 = .ok (.aload_n 0, 1) := by decide +kernel
theorem dX8_hand_8 : decode cX8_hand 8 = .ok (.iconst 1, 1) := by decide +kernel
theorem dX8_hand_9 : decode cX8_hand 9 = .ok (.invokevirtual 215, 3) := by decide +kernel
theorem dX8_hand_12 : decode cX8_hand 12 = .ok (.iadd, 1) := by decide +kernel
theorem dX8_hand_13 : decode cX8_hand 13 = .ok (.imul, 1) := by decide +kernel
theorem dX8_hand_14 : decode cX8_hand 14 = .ok (.istore_n 1, 1) := by decide +kernel
theorem dX8_hand_15 : decode cX8_hand 15 = .ok (.iconst (-1), 1) := by decide +kernel
theorem dX8_hand_16 : decode cX8_hand 16 = .ok (.istore_n 2, 1) := by decide +kernel
theorem dX8_hand_17 : decode cX8_hand 17 = .ok (.iconst 0, 1) := by decide +kernel
theorem dX8_hand_18 : decode cX8_hand 18 = .ok (.istore_n 3, 1) := by decide +kernel
theorem dX8_hand_19 : decode cX8_hand 19 = .ok (.iconst 0, 1) := by decide +kernel
theorem dX8_hand_20 : decode cX8_hand 20 = .ok (.istore 4, 2) := by decide +kernel
theorem dX8_hand_22 : decode cX8_hand 22 = .ok (.iload 4, 2) := by decide +kernel
theorem dX8_hand_24 : decode cX8_hand 24 = .ok (.aload_n 0, 1) := by decide +kernel
theorem dX8_hand_25 : decode cX8_hand 25 = .ok (.getfield 34, 3) := by decide +kernel
theorem dX8_hand_28 : decode cX8_hand 28 = .ok (.invokevirtual 50, 3) := by decide +kernel
theorem dX8_hand_31 : decode cX8_hand 31 = .ok (.if_icmp .ge 81, 3) := by decide +kernel
theorem dX8_hand_112 : decode cX8_hand 112 = .ok (.aload_n 0, 1) := by decide +kernel
theorem dX8_hand_113 : decode cX8_hand 113 = .ok (.iload_n 2, 1) := by decide +kernel
theorem dX8_hand_114 : decode cX8_hand 114 = .ok (.iconst (-1), 1) := by decide +kernel
theorem dX8_hand_115 : decode cX8_hand 115 = .ok (.if_icmp .eq 13, 3) := by decide +kernel
theorem dX8_hand_128 : decode cX8_hand 128 = .ok (.iconst 1, 1) := by decide +kernel
theorem dX8_hand_129 : decode cX8_hand 129 = .ok (.goto 4, 3) := by decide +kernel
theorem dX8_hand_133 : decode cX8_hand 133 = .ok (.iconst 1, 1) := by decide +kernel
theorem dX8_hand_134 : decode cX8_hand 134 = .ok (.invokevirtual 62, 3) := by decide +kernel
theorem dX8_hand_137 : decode cX8_hand 137 = .ok (.ifCond .eq 7, 3) := by decide +kernel
theorem dX8_hand_140 : decode cX8_hand 140 = .ok (.iconst 0, 1) := by decide +kernel
theorem dX8_hand_141 : decode cX8_hand 141 = .ok (.goto 4, 3) := by decide +kernel
theorem dX8_hand_145 : decode cX8_hand 145 = .ok (.ireturn, 1) := by decide +kernel
set_option maxRecDepth 20000 in
theorem ggX8_readyOn_Jx4a65c_size_8abf5 : GoodIn wsX8_readyOn wsJx4a65c_size_8abf5 := goodIn_r _ [6, 7, 52, 53, 54] (by decide +kernel) (by decide +kernel)
set_option maxRecDepth 20000 in
theorem gX8_readyOn_Jx4a65c_size_8abf5 : GoodIn wsX8_readyOn (wsV RX8 50 RJx4a65c yJx4a65c_size_8abf5 wsJx4a65c_size_8abf5) := goodIn_app (goodIn_of _ (by decide +kernel)) ggX8_readyOn_Jx4a65c_size_8abf5
set_option maxRecDepth 20000 in
theorem ggX8_readyOn_X8_isIn : GoodIn wsX8_readyOn wsX8_isIn := goodIn_r _ [11] (by decide +kernel) (by decide +kernel)
set_option maxRecDepth 20000 in
theorem gX8_readyOn_X8_isIn : GoodIn wsX8_readyOn (va_wsS RX8 54 yX8_isIn wsX8_isIn) := goodIn_app (goodIn_of _ (by decide +kernel)) ggX8_readyOn_X8_isIn
set_option maxRecDepth 20000 in
theorem ggX8_readyOn_X8_isThrown : GoodIn wsX8_readyOn wsX8_isThrown := goodIn_r _ [15, 16, 43, 44, 45, 46, 47, 48, 49, 50, 51] (by decide +kernel) (by decide +kernel)
set_option maxRecDepth 20000 in
theorem gX8_readyOn_X8_isThrown : GoodIn wsX8_readyOn (wsV RX8 62 RX8 yX8_isThrown wsX8_isThrown) := goodIn_app (goodIn_of _ (by decide +kernel)) ggX8_readyOn_X8_isThrown
theorem dX8_readyOn_0 : decode cX8_readyOn 0 = .ok (.aload_n 0, 1) := by decide +kernel
theorem dX8_readyOn_1 : decode cX8_readyOn 1 = .ok (.iload_n 1, 1) := by decide +kernel
theorem dX8_readyOn_2 : decode cX8_readyOn 2 = .ok (.iconst 0, 1) := by decide +kernel
theorem dX8_readyOn_3 : decode cX8_readyOn 3 = .ok (.aload_n 0, 1) := by decide +kernel
theorem dX8_readyOn_4 : decode cX8_readyOn 4 = .ok (.getfield 37, 3) := by decide +kernel
theorem dX8_readyOn_7 : decode cX8_readyOn 7 = .ok (.invokevirtual 50, 3) := by decide +kernel
theorem dX8_readyOn_10 : decode cX8_readyOn 10 = .ok (.iconst 1, 1) := by decide +kernel
theorem dX8_readyOn_11 : decode cX8_readyOn 11 = .ok (.isub, 1) := by decide +kernel
theorem dX8_readyOn_12 : decode cX8_readyOn 12 = .ok (.invokestatic 54, 3) := by decide +kernel
theorem dX8_readyOn_15 : decode cX8_readyOn 15 = .ok (.ifCond .ne 7, 3) := by decide +kernel
theorem dX8_readyOn_18 : decode cX8_readyOn 18 = .ok (.iconst 1, 1) := by decide +kernel
theorem dX8_readyOn_19 : decode cX8_readyOn 19 = .ok (.goto 4, 3) := by decide +kernel
theorem dX8_readyOn_23 : decode cX8_readyOn 23 = .ok (.iconst 1, 1) := by decide +kernel
theorem dX8_readyOn_24 : decode cX8_readyOn 24 = .ok (.invokevirtual 62, 3) := by decide +kernel
theorem dX8_readyOn_27 : decode cX8_readyOn 27 = .ok (.ifCond .eq 7, 3) := by decide +kernel
theorem dX8_readyOn_30 : decode cX8_readyOn 30 = .ok (.iconst 0, 1) := by decide +kernel
theorem dX8_readyOn_31 : decode cX8_readyOn 31 = .ok (.goto 8, 3) := by decide +kernel
theorem dX8_readyOn_39 : decode cX8_readyOn 39 = .ok (.ireturn, 1) := by decide +kernel
set_option maxRecDepth 20000 in
theorem ggX8_brings_Jx4a65c_size_8abf5 : GoodIn wsX8_brings wsJx4a65c_size_8abf5 := goodIn_r _ [8, 9, 52, 53, 54] (by decide +kernel) (by decide +kernel)
set_option maxRecDepth 20000 in
theorem gX8_brings_Jx4a65c_size_8abf5 : GoodIn wsX8_brings (wsV RX8 50 RJx4a65c yJx4a65c_size_8abf5 wsJx4a65c_size_8abf5) := goodIn_app (goodIn_of _ (by decide +kernel)) ggX8_brings_Jx4a65c_size_8abf5
theorem dX8_brings_0 : decode cX8_brings 0 = .ok (.aload_n 0, 1) := by decide +kernel
theorem dX8_brings_1 : decode cX8_brings 1 = .ok (.iconst 0, 1) := by decide +kernel
theorem dX8_brings_2 : decode cX8_brings 2 = .ok (.putfield 46, 3) := by decide +kernel
theorem dX8_brings_5 : decode cX8_brings 5 = .ok (.iconst 0, 1) := by decide +kernel
theorem dX8_brings_6 : decode cX8_brings 6 = .ok (.istore_n 1, 1) := by decide +kernel
theorem dX8_brings_7 : decode cX8_brings 7 = .ok (.iconst 0, 1) := by decide +kernel
theorem dX8_brings_8 : decode cX8_brings 8 = .ok (.istore_n 2, 1) := by decide +kernel
theorem dX8_brings_9 : decode cX8_brings 9 = .ok (.iload_n 2, 1) := by decide +kernel
theorem dX8_brings_10 : decode cX8_brings 10 = .ok (.aload_n 0, 1) := by decide +kernel
theorem dX8_brings_11 : decode cX8_brings 11 = .ok (.getfield 37, 3) := by decide +kernel
theorem dX8_brings_14 : decode cX8_brings 14 = .ok (.invokevirtual 50, 3) := by decide +kernel
theorem dX8_brings_17 : decode cX8_brings 17 = .ok (.if_icmp .ge 31, 3) := by decide +kernel
theorem dX8_brings_48 : decode cX8_brings 48 = .ok (.iload_n 1, 1) := by decide +kernel
theorem dX8_brings_49 : decode cX8_brings 49 = .ok (.ireturn, 1) := by decide +kernel
set_option maxRecDepth 20000 in
theorem ggX8_bringsMost_Jx4a65c_size_8abf5 : GoodIn wsX8_bringsMost wsJx4a65c_size_8abf5 := goodIn_r _ [13, 14, 49, 50, 51] (by decide +kernel) (by decide +kernel)
set_option maxRecDepth 20000 in
theorem gX8_bringsMost_Jx4a65c_size_8abf5 : GoodIn wsX8_bringsMost (wsV RX8 50 RJx4a65c yJx4a65c_size_8abf5 wsJx4a65c_size_8abf5) := goodIn_app (goodIn_of _ (by decide +kernel)) ggX8_bringsMost_Jx4a65c_size_8abf5
set_option maxRecDepth 20000 in
theorem ggX8_bringsMost_J7_fill_53178 : GoodIn wsX8_bringsMost wsJ7_fill_53178 := goodIn_r _ [18] (by decide +kernel) (by decide +kernel)
set_option maxRecDepth 20000 in
theorem gX8_bringsMost_J7_fill_53178 : GoodIn wsX8_bringsMost (va_wsS RX8 249 yJ7_fill_53178 wsJ7_fill_53178) := goodIn_app (goodIn_of _ (by decide +kernel)) ggX8_bringsMost_J7_fill_53178
theorem dX8_bringsMost_0 : decode cX8_bringsMost 0 = .ok (.aload_n 0, 1) := by decide +kernel
theorem dX8_bringsMost_1 : decode cX8_bringsMost 1 = .ok (.iconst 0, 1) := by decide +kernel
theorem dX8_bringsMost_2 : decode cX8_bringsMost 2 = .ok (.putfield 46, 3) := by decide +kernel
theorem dX8_bringsMost_5 : decode cX8_bringsMost 5 = .ok (.iconst 1, 1) := by decide +kernel
theorem dX8_bringsMost_6 : decode cX8_bringsMost 6 = .ok (.aload_n 0, 1) := by decide +kernel
theorem dX8_bringsMost_7 : decode cX8_bringsMost 7 = .ok (.getfield 37, 3) := by decide +kernel
theorem dX8_bringsMost_10 : decode cX8_bringsMost 10 = .ok (.invokevirtual 50, 3) := by decide +kernel
theorem dX8_bringsMost_13 : decode cX8_bringsMost 13 = .ok (.ishl, 1) := by decide +kernel
theorem dX8_bringsMost_14 : decode cX8_bringsMost 14 = .ok (.newarray .int, 2) := by decide +kernel
theorem dX8_bringsMost_16 : decode cX8_bringsMost 16 = .ok (.astore_n 1, 1) := by decide +kernel
theorem dX8_bringsMost_17 : decode cX8_bringsMost 17 = .ok (.aload_n 1, 1) := by decide +kernel
theorem dX8_bringsMost_18 : decode cX8_bringsMost 18 = .ok (.iconst (-1), 1) := by decide +kernel
theorem dX8_bringsMost_19 : decode cX8_bringsMost 19 = .ok (.invokestatic 249, 3) := by decide +kernel
theorem dX8_bringsMost_22 : decode cX8_bringsMost 22 = .ok (.aload_n 1, 1) := by decide +kernel
theorem dX8_bringsMost_23 : decode cX8_bringsMost 23 = .ok (.iconst 0, 1) := by decide +kernel
theorem dX8_bringsMost_24 : decode cX8_bringsMost 24 = .ok (.iconst 0, 1) := by decide +kernel
theorem dX8_bringsMost_25 : decode cX8_bringsMost 25 = .ok (.iastore, 1) := by decide +kernel
theorem dX8_bringsMost_26 : decode cX8_bringsMost 26 = .ok (.iconst 1, 1) := by decide +kernel
theorem dX8_bringsMost_27 : decode cX8_bringsMost 27 = .ok (.istore_n 2, 1) := by decide +kernel
theorem dX8_bringsMost_28 : decode cX8_bringsMost 28 = .ok (.iload_n 2, 1) := by decide +kernel
theorem dX8_bringsMost_29 : decode cX8_bringsMost 29 = .ok (.aload_n 1, 1) := by decide +kernel
theorem dX8_bringsMost_30 : decode cX8_bringsMost 30 = .ok (.arraylength, 1) := by decide +kernel
theorem dX8_bringsMost_31 : decode cX8_bringsMost 31 = .ok (.if_icmp .ge 130, 3) := by decide +kernel
theorem dX8_bringsMost_161 : decode cX8_bringsMost 161 = .ok (.aload_n 1, 1) := by decide +kernel
theorem dX8_bringsMost_162 : decode cX8_bringsMost 162 = .ok (.aload_n 1, 1) := by decide +kernel
theorem dX8_bringsMost_163 : decode cX8_bringsMost 163 = .ok (.arraylength, 1) := by decide +kernel
theorem dX8_bringsMost_164 : decode cX8_bringsMost 164 = .ok (.iconst 1, 1) := by decide +kernel
theorem dX8_bringsMost_165 : decode cX8_bringsMost 165 = .ok (.isub, 1) := by decide +kernel
theorem dX8_bringsMost_166 : decode cX8_bringsMost 166 = .ok (.iaload, 1) := by decide +kernel
theorem dX8_bringsMost_167 : decode cX8_bringsMost 167 = .ok (.ireturn, 1) := by decide +kernel
set_option maxRecDepth 20000 in
theorem ggX8_checksum_Jx4a65c_iterator_32c93 : GoodIn wsX8_checksum wsJx4a65c_iterator_32c93 := goodIn_r _ [12, 13, 14, 15, 16, 17, 18, 19, 20, 21, 22, 23, 24, 25, 26, 93, 94, 95, 96, 97, 98, 99] (by decide +kernel) (by decide +kernel)
set_option maxRecDepth 20000 in
theorem gX8_checksum_Jx4a65c_iterator_32c93 : GoodIn wsX8_checksum (wsV RX8 89 RJx4a65c yJx4a65c_iterator_32c93 wsJx4a65c_iterator_32c93) := goodIn_app (goodIn_of _ (by decide +kernel)) ggX8_checksum_Jx4a65c_iterator_32c93
set_option maxRecDepth 20000 in
theorem ggX8_checksum_Jx35411_hasNext_aae02 : GoodIn wsX8_checksum wsJx35411_hasNext_aae02 := goodIn_r _ [30, 31, 19, 93, 94, 95, 96, 97, 98, 99] (by decide +kernel) (by decide +kernel)
set_option maxRecDepth 20000 in
theorem gX8_checksum_Jx35411_hasNext_aae02_f93Jx35411 : GoodIn wsX8_checksum (va_wsF RX8 93 RJx35411 ⟨"java/util/Iterator", "hasNext", "()Z"⟩ yJx35411_hasNext_aae02 wsJx35411_hasNext_aae02) := goodIn_app (goodIn_of _ (by decide +kernel)) ggX8_checksum_Jx35411_hasNext_aae02
set_option maxRecDepth 20000 in
theorem ggX8_checksum_Jx4a65c_size_8abf5 : GoodIn wsX8_checksum wsJx4a65c_size_8abf5 := goodIn_r _ [44, 45, 97, 98, 99] (by decide +kernel) (by decide +kernel)
set_option maxRecDepth 20000 in
theorem gX8_checksum_Jx4a65c_size_8abf5 : GoodIn wsX8_checksum (wsV RX8 50 RJx4a65c yJx4a65c_size_8abf5 wsJx4a65c_size_8abf5) := goodIn_app (goodIn_of _ (by decide +kernel)) ggX8_checksum_Jx4a65c_size_8abf5
theorem dX8_checksum_0 : decode cX8_checksum 0 = .ok (.aload_n 0, 1) := by decide +kernel
theorem dX8_checksum_1 : decode cX8_checksum 1 = .ok (.iconst 0, 1) := by decide +kernel
theorem dX8_checksum_2 : decode cX8_checksum 2 = .ok (.putfield 46, 3) := by decide +kernel
theorem dX8_checksum_5 : decode cX8_checksum 5 = .ok (.ldc2_w 255, 3) := by decide +kernel
theorem dX8_checksum_8 : decode cX8_checksum 8 = .ok (.lstore_n 1, 1) := by decide +kernel
theorem dX8_checksum_9 : decode cX8_checksum 9 = .ok (.aload_n 0, 1) := by decide +kernel
theorem dX8_checksum_10 : decode cX8_checksum 10 = .ok (.getfield 10, 3) := by decide +kernel
theorem dX8_checksum_13 : decode cX8_checksum 13 = .ok (.invokevirtual 89, 3) := by decide +kernel
theorem dX8_checksum_16 : decode cX8_checksum 16 = .ok (.astore_n 3, 1) := by decide +kernel
theorem dX8_checksum_17 : decode cX8_checksum 17 = .ok (.aload_n 3, 1) := by decide +kernel
theorem dX8_checksum_18 : decode cX8_checksum 18 = .ok (.invokeinterface 93 1, 5) := by decide +kernel
theorem dX8_checksum_23 : decode cX8_checksum 23 = .ok (.ifCond .eq 43, 3) := by decide +kernel
theorem dX8_checksum_66 : decode cX8_checksum 66 = .ok (.iconst 0, 1) := by decide +kernel
theorem dX8_checksum_67 : decode cX8_checksum 67 = .ok (.istore_n 3, 1) := by decide +kernel
theorem dX8_checksum_68 : decode cX8_checksum 68 = .ok (.iload_n 3, 1) := by decide +kernel
theorem dX8_checksum_69 : decode cX8_checksum 69 = .ok (.aload_n 0, 1) := by decide +kernel
theorem dX8_checksum_70 : decode cX8_checksum 70 = .ok (.getfield 16, 3) := by decide +kernel
theorem dX8_checksum_73 : decode cX8_checksum 73 = .ok (.invokevirtual 50, 3) := by decide +kernel
theorem dX8_checksum_76 : decode cX8_checksum 76 = .ok (.if_icmp .ge 62, 3) := by decide +kernel
theorem dX8_checksum_138 : decode cX8_checksum 138 = .ok (.ldc2_w 257, 3) := by decide +kernel
theorem dX8_checksum_141 : decode cX8_checksum 141 = .ok (.lload_n 1, 1) := by decide +kernel
theorem dX8_checksum_142 : decode cX8_checksum 142 = .ok (.lmul, 1) := by decide +kernel
theorem dX8_checksum_143 : decode cX8_checksum 143 = .ok (.aload_n 0, 1) := by decide +kernel
theorem dX8_checksum_144 : decode cX8_checksum 144 = .ok (.getfield 37, 3) := by decide +kernel
theorem dX8_checksum_147 : decode cX8_checksum 147 = .ok (.invokevirtual 50, 3) := by decide +kernel
theorem dX8_checksum_150 : decode cX8_checksum 150 = .ok (.i2l, 1) := by decide +kernel
theorem dX8_checksum_151 : decode cX8_checksum 151 = .ok (.ladd, 1) := by decide +kernel
theorem dX8_checksum_152 : decode cX8_checksum 152 = .ok (.lreturn, 1) := by decide +kernel
set_option maxRecDepth 20000 in
theorem ggX8_rightShare_Jx4a65c_size_8abf5 : GoodIn wsX8_rightShare wsJx4a65c_size_8abf5 := goodIn_r _ [7, 8, 121, 122, 123] (by decide +kernel) (by decide +kernel)
set_option maxRecDepth 20000 in
theorem gX8_rightShare_Jx4a65c_size_8abf5 : GoodIn wsX8_rightShare (wsV RX8 50 RJx4a65c yJx4a65c_size_8abf5 wsJx4a65c_size_8abf5) := goodIn_app (goodIn_of _ (by decide +kernel)) ggX8_rightShare_Jx4a65c_size_8abf5
set_option maxRecDepth 20000 in
theorem ggX8_rightShare_X8_isThrown : GoodIn wsX8_rightShare wsX8_isThrown := goodIn_r _ [110, 111, 112, 113, 114, 115, 116, 117, 118, 119, 120] (by decide +kernel) (by decide +kernel)
set_option maxRecDepth 20000 in
theorem gX8_rightShare_X8_isThrown : GoodIn wsX8_rightShare (wsV RX8 62 RX8 yX8_isThrown wsX8_isThrown) := goodIn_app (goodIn_of _ (by decide +kernel)) ggX8_rightShare_X8_isThrown
theorem dX8_rightShare_0 : decode cX8_rightShare 0 = .ok (.aload_n 0, 1) := by decide +kernel
theorem dX8_rightShare_1 : decode cX8_rightShare 1 = .ok (.getfield 10, 3) := by decide +kernel
theorem dX8_rightShare_4 : decode cX8_rightShare 4 = .ok (.invokevirtual 50, 3) := by decide +kernel
theorem dX8_rightShare_7 : decode cX8_rightShare 7 = .ok (.aload_n 0, 1) := by decide +kernel
theorem dX8_rightShare_8 : decode cX8_rightShare 8 = .ok (.getfield 16, 3) := by decide +kernel
theorem dX8_rightShare_11 : decode cX8_rightShare 11 = .ok (.invokevirtual 50, 3) := by decide +kernel
theorem dX8_rightShare_14 : decode cX8_rightShare 14 = .ok (.imul, 1) := by decide +kernel
theorem dX8_rightShare_15 : decode cX8_rightShare 15 = .ok (.istore_n 1, 1) := by decide +kernel
theorem dX8_rightShare_16 : decode cX8_rightShare 16 = .ok (.iconst 0, 1) := by decide +kernel
theorem dX8_rightShare_17 : decode cX8_rightShare 17 = .ok (.istore_n 2, 1) := by decide +kernel
theorem dX8_rightShare_18 : decode cX8_rightShare 18 = .ok (.iconst 0, 1) := by decide +kernel
theorem dX8_rightShare_19 : decode cX8_rightShare 19 = .ok (.istore_n 3, 1) := by decide +kernel
theorem dX8_rightShare_20 : decode cX8_rightShare 20 = .ok (.iload_n 3, 1) := by decide +kernel
theorem dX8_rightShare_21 : decode cX8_rightShare 21 = .ok (.aload_n 0, 1) := by decide +kernel
theorem dX8_rightShare_22 : decode cX8_rightShare 22 = .ok (.getfield 16, 3) := by decide +kernel
theorem dX8_rightShare_25 : decode cX8_rightShare 25 = .ok (.invokevirtual 50, 3) := by decide +kernel
theorem dX8_rightShare_28 : decode cX8_rightShare 28 = .ok (.if_icmp .ge 58, 3) := by decide +kernel
theorem dX8_rightShare_86 : decode cX8_rightShare 86 = .ok (.aload_n 0, 1) := by decide +kernel
theorem dX8_rightShare_87 : decode cX8_rightShare 87 = .ok (.iload_n 1, 1) := by decide +kernel
theorem dX8_rightShare_88 : decode cX8_rightShare 88 = .ok (.ifCond .ne 7, 3) := by decide +kernel
theorem dX8_rightShare_91 : decode cX8_rightShare 91 = .ok (.iconst 1, 1) := by decide +kernel
theorem dX8_rightShare_92 : decode cX8_rightShare 92 = .ok (.goto 4, 3) := by decide +kernel
theorem dX8_rightShare_96 : decode cX8_rightShare 96 = .ok (.iconst 1, 1) := by decide +kernel
theorem dX8_rightShare_97 : decode cX8_rightShare 97 = .ok (.invokevirtual 62, 3) := by decide +kernel
theorem dX8_rightShare_100 : decode cX8_rightShare 100 = .ok (.ifCond .eq 7, 3) := by decide +kernel
theorem dX8_rightShare_103 : decode cX8_rightShare 103 = .ok (.fconst 0, 1) := by decide +kernel
theorem dX8_rightShare_104 : decode cX8_rightShare 104 = .ok (.goto 8, 3) := by decide +kernel
theorem dX8_rightShare_112 : decode cX8_rightShare 112 = .ok (.freturn, 1) := by decide +kernel
set_option maxRecDepth 20000 in
theorem ggX8_meanTwist_Jx4a65c_iterator_32c93 : GoodIn wsX8_meanTwist wsJx4a65c_iterator_32c93 := goodIn_r _ [7, 8, 9, 10, 11, 12, 13, 14, 15, 16, 17, 18, 19, 20, 21, 65, 66, 67, 68, 69, 70, 71] (by decide +kernel) (by decide +kernel)
set_option maxRecDepth 20000 in
theorem gX8_meanTwist_Jx4a65c_iterator_32c93 : GoodIn wsX8_meanTwist (wsV RX8 89 RJx4a65c yJx4a65c_iterator_32c93 wsJx4a65c_iterator_32c93) := goodIn_app (goodIn_of _ (by decide +kernel)) ggX8_meanTwist_Jx4a65c_iterator_32c93
set_option maxRecDepth 20000 in
theorem ggX8_meanTwist_Jx35411_hasNext_aae02 : GoodIn wsX8_meanTwist wsJx35411_hasNext_aae02 := goodIn_r _ [25, 26, 14, 65, 66, 67, 68, 69, 70, 71] (by decide +kernel) (by decide +kernel)
set_option maxRecDepth 20000 in
theorem gX8_meanTwist_Jx35411_hasNext_aae02_f93Jx35411 : GoodIn wsX8_meanTwist (va_wsF RX8 93 RJx35411 ⟨"java/util/Iterator", "hasNext", "()Z"⟩ yJx35411_hasNext_aae02 wsJx35411_hasNext_aae02) := goodIn_app (goodIn_of _ (by decide +kernel)) ggX8_meanTwist_Jx35411_hasNext_aae02
set_option maxRecDepth 20000 in
theorem ggX8_meanTwist_Jx4a65c_isEmpty_aae02 : GoodIn wsX8_meanTwist wsJx4a65c_isEmpty_aae02 := goodIn_r _ [39, 40, 69, 70, 71] (by decide +kernel) (by decide +kernel)
set_option maxRecDepth 20000 in
theorem gX8_meanTwist_Jx4a65c_isEmpty_aae02 : GoodIn wsX8_meanTwist (wsV RX8 66 RJx4a65c yJx4a65c_isEmpty_aae02 wsJx4a65c_isEmpty_aae02) := goodIn_app (goodIn_of _ (by decide +kernel)) ggX8_meanTwist_Jx4a65c_isEmpty_aae02
set_option maxRecDepth 20000 in
theorem ggX8_meanTwist_X8_isThrown : GoodIn wsX8_meanTwist wsX8_isThrown := goodIn_r _ [45, 46, 51, 52, 53, 54, 55, 56, 57, 58, 59] (by decide +kernel) (by decide +kernel)
set_option maxRecDepth 20000 in
theorem gX8_meanTwist_X8_isThrown : GoodIn wsX8_meanTwist (wsV RX8 62 RX8 yX8_isThrown wsX8_isThrown) := goodIn_app (goodIn_of _ (by decide +kernel)) ggX8_meanTwist_X8_isThrown
theorem dX8_meanTwist_0 : decode cX8_meanTwist 0 = .ok (.iconst 0, 1) := by decide +kernel
theorem dX8_meanTwist_1 : decode cX8_meanTwist 1 = .ok (.istore_n 1, 1) := by decide +kernel
theorem dX8_meanTwist_2 : decode cX8_meanTwist 2 = .ok (.aload_n 0, 1) := by decide +kernel
theorem dX8_meanTwist_3 : decode cX8_meanTwist 3 = .ok (.getfield 10, 3) := by decide +kernel
theorem dX8_meanTwist_6 : decode cX8_meanTwist 6 = .ok (.invokevirtual 89, 3) := by decide +kernel
theorem dX8_meanTwist_9 : decode cX8_meanTwist 9 = .ok (.astore_n 2, 1) := by decide +kernel
theorem dX8_meanTwist_10 : decode cX8_meanTwist 10 = .ok (.aload_n 2, 1) := by decide +kernel
theorem dX8_meanTwist_11 : decode cX8_meanTwist 11 = .ok (.invokeinterface 93 1, 5) := by decide +kernel
theorem dX8_meanTwist_16 : decode cX8_meanTwist 16 = .ok (.ifCond .eq 23, 3) := by decide +kernel
theorem dX8_meanTwist_39 : decode cX8_meanTwist 39 = .ok (.aload_n 0, 1) := by decide +kernel
theorem dX8_meanTwist_40 : decode cX8_meanTwist 40 = .ok (.aload_n 0, 1) := by decide +kernel
theorem dX8_meanTwist_41 : decode cX8_meanTwist 41 = .ok (.getfield 10, 3) := by decide +kernel
theorem dX8_meanTwist_44 : decode cX8_meanTwist 44 = .ok (.invokevirtual 66, 3) := by decide +kernel
theorem dX8_meanTwist_47 : decode cX8_meanTwist 47 = .ok (.iconst 1, 1) := by decide +kernel
theorem dX8_meanTwist_48 : decode cX8_meanTwist 48 = .ok (.invokevirtual 62, 3) := by decide +kernel
theorem dX8_meanTwist_51 : decode cX8_meanTwist 51 = .ok (.ifCond .eq 7, 3) := by decide +kernel
theorem dX8_meanTwist_54 : decode cX8_meanTwist 54 = .ok (.dconst 0, 1) := by decide +kernel
theorem dX8_meanTwist_55 : decode cX8_meanTwist 55 = .ok (.goto 14, 3) := by decide +kernel
theorem dX8_meanTwist_69 : decode cX8_meanTwist 69 = .ok (.dreturn, 1) := by decide +kernel
theorem dX8_isSound_0 : decode cX8_isSound 0 = .ok (.aload_n 0, 1) := by decide +kernel
theorem dX8_isSound_1 : decode cX8_isSound 1 = .ok (.iconst 0, 1) := by decide +kernel
theorem dX8_isSound_2 : decode cX8_isSound 2 = .ok (.putfield 46, 3) := by decide +kernel
theorem dX8_isSound_5 : decode cX8_isSound 5 = .ok (.iconst 1, 1) := by decide +kernel
theorem dX8_isSound_6 : decode cX8_isSound 6 = .ok (.ireturn, 1) := by decide +kernel
set_option maxRecDepth 20000 in
theorem ggJ0_length_8abf5_J0_coder_7d493 : GoodIn wsJ0_length_8abf5 wsJ0_coder_7d493 := goodIn_r _ [6, 7, 8, 9, 10, 11, 12] (by decide +kernel) (by decide +kernel)
set_option maxRecDepth 20000 in
theorem gJ0_length_8abf5_J0_coder_7d493 : GoodIn wsJ0_length_8abf5 (wsV RJ0 335 RJ0 yJ0_coder_7d493 wsJ0_coder_7d493) := goodIn_app (goodIn_of _ (by decide +kernel)) ggJ0_length_8abf5_J0_coder_7d493
theorem dJ0_length_8abf5_0 : decode cJ0_length_8abf5 0 = .ok (.aload_n 0, 1) := by decide +kernel
theorem dJ0_length_8abf5_1 : decode cJ0_length_8abf5 1 = .ok (.getfield 9, 3) := by decide +kernel
theorem dJ0_length_8abf5_4 : decode cJ0_length_8abf5 4 = .ok (.arraylength, 1) := by decide +kernel
theorem dJ0_length_8abf5_5 : decode cJ0_length_8abf5 5 = .ok (.aload_n 0, 1) := by decide +kernel
theorem dJ0_length_8abf5_6 : decode cJ0_length_8abf5 6 = .ok (.invokevirtual 335, 3) := by decide +kernel
theorem dJ0_length_8abf5_9 : decode cJ0_length_8abf5 9 = .ok (.ishr, 1) := by decide +kernel
theorem dJ0_length_8abf5_10 : decode cJ0_length_8abf5 10 = .ok (.ireturn, 1) := by decide +kernel
theorem dJ0_coder_7d493_0 : decode cJ0_coder_7d493 0 = .ok (.getstatic 38, 3) := by decide +kernel
theorem dJ0_coder_7d493_3 : decode cJ0_coder_7d493 3 = .ok (.ifCond .eq 10, 3) := by decide +kernel
theorem dJ0_coder_7d493_6 : decode cJ0_coder_7d493 6 = .ok (.aload_n 0, 1) := by decide +kernel
theorem dJ0_coder_7d493_7 : decode cJ0_coder_7d493 7 = .ok (.getfield 15, 3) := by decide +kernel
theorem dJ0_coder_7d493_10 : decode cJ0_coder_7d493 10 = .ok (.goto 4, 3) := by decide +kernel
theorem dJ0_coder_7d493_14 : decode cJ0_coder_7d493 14 = .ok (.ireturn, 1) := by decide +kernel
theorem dJxa1e45_init_da8c8_0 : decode cJxa1e45_init_da8c8 0 = .ok (.aload_n 0, 1) := by decide +kernel
theorem dJxa1e45_init_da8c8_1 : decode cJxa1e45_init_da8c8 1 = .ok (.invokespecial 1, 3) := by decide +kernel
theorem dJxa1e45_init_da8c8_4 : decode cJxa1e45_init_da8c8 4 = .ok (.return_, 1) := by decide +kernel
set_option maxRecDepth 20000 in
theorem ggJxc12de_init_da8c8_Jxa1e45_init_da8c8 : GoodIn wsJxc12de_init_da8c8 wsJxa1e45_init_da8c8 := goodIn_r _ [5, 6, 7, 8] (by decide +kernel) (by decide +kernel)
set_option maxRecDepth 20000 in
theorem gJxc12de_init_da8c8_Jxa1e45_init_da8c8 : GoodIn wsJxc12de_init_da8c8 (wsJxa1e45_init_da8c8) := ggJxc12de_init_da8c8_Jxa1e45_init_da8c8
theorem dJxc12de_init_da8c8_0 : decode cJxc12de_init_da8c8 0 = .ok (.aload_n 0, 1) := by decide +kernel
theorem dJxc12de_init_da8c8_1 : decode cJxc12de_init_da8c8 1 = .ok (.invokespecial 1, 3) := by decide +kernel
theorem dJxc12de_init_da8c8_4 : decode cJxc12de_init_da8c8 4 = .ok (.aload_n 0, 1) := by decide +kernel
theorem dJxc12de_init_da8c8_5 : decode cJxc12de_init_da8c8 5 = .ok (.iconst 0, 1) := by decide +kernel
theorem dJxc12de_init_da8c8_6 : decode cJxc12de_init_da8c8 6 = .ok (.putfield 7, 3) := by decide +kernel
theorem dJxc12de_init_da8c8_9 : decode cJxc12de_init_da8c8 9 = .ok (.return_, 1) := by decide +kernel
theorem dJx35411_init_45d68_0 : decode cJx35411_init_45d68 0 = .ok (.aload_n 0, 1) := by decide +kernel
theorem dJx35411_init_45d68_1 : decode cJx35411_init_45d68 1 = .ok (.aload_n 1, 1) := by decide +kernel
theorem dJx35411_init_45d68_2 : decode cJx35411_init_45d68 2 = .ok (.putfield 1, 3) := by decide +kernel
theorem dJx35411_init_45d68_5 : decode cJx35411_init_45d68 5 = .ok (.aload_n 0, 1) := by decide +kernel
theorem dJx35411_init_45d68_6 : decode cJx35411_init_45d68 6 = .ok (.invokespecial 7, 3) := by decide +kernel
theorem dJx35411_init_45d68_9 : decode cJx35411_init_45d68 9 = .ok (.aload_n 0, 1) := by decide +kernel
theorem dJx35411_init_45d68_10 : decode cJx35411_init_45d68 10 = .ok (.iconst (-1), 1) := by decide +kernel
theorem dJx35411_init_45d68_11 : decode cJx35411_init_45d68 11 = .ok (.putfield 13, 3) := by decide +kernel
theorem dJx35411_init_45d68_14 : decode cJx35411_init_45d68 14 = .ok (.aload_n 0, 1) := by decide +kernel
theorem dJx35411_init_45d68_15 : decode cJx35411_init_45d68 15 = .ok (.aload_n 0, 1) := by decide +kernel
theorem dJx35411_init_45d68_16 : decode cJx35411_init_45d68 16 = .ok (.getfield 1, 3) := by decide +kernel
theorem dJx35411_init_45d68_19 : decode cJx35411_init_45d68 19 = .ok (.getfield 17, 3) := by decide +kernel
theorem dJx35411_init_45d68_22 : decode cJx35411_init_45d68 22 = .ok (.putfield 22, 3) := by decide +kernel
theorem dJx35411_init_45d68_25 : decode cJx35411_init_45d68 25 = .ok (.return_, 1) := by decide +kernel
theorem dJx35411_hasNext_aae02_0 : decode cJx35411_hasNext_aae02 0 = .ok (.aload_n 0, 1) := by decide +kernel
theorem dJx35411_hasNext_aae02_1 : decode cJx35411_hasNext_aae02 1 = .ok (.getfield 25, 3) := by decide +kernel
theorem dJx35411_hasNext_aae02_4 : decode cJx35411_hasNext_aae02 4 = .ok (.aload_n 0, 1) := by decide +kernel
theorem dJx35411_hasNext_aae02_5 : decode cJx35411_hasNext_aae02 5 = .ok (.getfield 1, 3) := by decide +kernel
theorem dJx35411_hasNext_aae02_8 : decode cJx35411_hasNext_aae02 8 = .ok (.getfield 28, 3) := by decide +kernel
theorem dJx35411_hasNext_aae02_11 : decode cJx35411_hasNext_aae02 11 = .ok (.if_icmp .eq 7, 3) := by decide +kernel
theorem dJx35411_hasNext_aae02_18 : decode cJx35411_hasNext_aae02 18 = .ok (.iconst 0, 1) := by decide +kernel
theorem dJx35411_hasNext_aae02_19 : decode cJx35411_hasNext_aae02 19 = .ok (.ireturn, 1) := by decide +kernel
set_option maxRecDepth 20000 in
theorem ggJx4a65c_init_da8c8_Jxc12de_init_da8c8 : GoodIn wsJx4a65c_init_da8c8 wsJxc12de_init_da8c8 := goodIn_r _ [6, 7, 8, 9, 10, 11, 12, 13, 14, 15, 16, 17] (by decide +kernel) (by decide +kernel)
set_option maxRecDepth 20000 in
theorem gJx4a65c_init_da8c8_Jxc12de_init_da8c8 : GoodIn wsJx4a65c_init_da8c8 (wsJxc12de_init_da8c8) := ggJx4a65c_init_da8c8_Jxc12de_init_da8c8
theorem dJx4a65c_init_da8c8_0 : decode cJx4a65c_init_da8c8 0 = .ok (.aload_n 0, 1) := by decide +kernel
theorem dJx4a65c_init_da8c8_1 : decode cJx4a65c_init_da8c8 1 = .ok (.invokespecial 1, 3) := by decide +kernel
theorem dJx4a65c_init_da8c8_4 : decode cJx4a65c_init_da8c8 4 = .ok (.aload_n 0, 1) := by decide +kernel
theorem dJx4a65c_init_da8c8_5 : decode cJx4a65c_init_da8c8 5 = .ok (.getstatic 39, 3) := by decide +kernel
theorem dJx4a65c_init_da8c8_8 : decode cJx4a65c_init_da8c8 8 = .ok (.putfield 9, 3) := by decide +kernel
theorem dJx4a65c_init_da8c8_11 : decode cJx4a65c_init_da8c8 11 = .ok (.return_, 1) := by decide +kernel
theorem dJx4a65c_size_8abf5_0 : decode cJx4a65c_size_8abf5 0 = .ok (.aload_n 0, 1) := by decide +kernel
theorem dJx4a65c_size_8abf5_1 : decode cJx4a65c_size_8abf5 1 = .ok (.getfield 48, 3) := by decide +kernel
theorem dJx4a65c_size_8abf5_4 : decode cJx4a65c_size_8abf5 4 = .ok (.ireturn, 1) := by decide +kernel
theorem dJx4a65c_isEmpty_aae02_0 : decode cJx4a65c_isEmpty_aae02 0 = .ok (.aload_n 0, 1) := by decide +kernel
theorem dJx4a65c_isEmpty_aae02_1 : decode cJx4a65c_isEmpty_aae02 1 = .ok (.getfield 48, 3) := by decide +kernel
theorem dJx4a65c_isEmpty_aae02_4 : decode cJx4a65c_isEmpty_aae02 4 = .ok (.ifCond .ne 7, 3) := by decide +kernel
theorem dJx4a65c_isEmpty_aae02_7 : decode cJx4a65c_isEmpty_aae02 7 = .ok (.iconst 1, 1) := by decide +kernel
theorem dJx4a65c_isEmpty_aae02_8 : decode cJx4a65c_isEmpty_aae02 8 = .ok (.goto 4, 3) := by decide +kernel
theorem dJx4a65c_isEmpty_aae02_12 : decode cJx4a65c_isEmpty_aae02 12 = .ok (.ireturn, 1) := by decide +kernel
set_option maxRecDepth 20000 in
theorem ggJx4a65c_iterator_32c93_Jx35411_init_45d68 : GoodIn wsJx4a65c_iterator_32c93 wsJx35411_init_45d68 := goodIn_r _ [6, 7, 8, 9, 10, 11, 12, 13, 14, 15, 16, 17, 18, 19, 20, 21] (by decide +kernel) (by decide +kernel)
set_option maxRecDepth 20000 in
theorem gJx4a65c_iterator_32c93_Jx35411_init_45d68 : GoodIn wsJx4a65c_iterator_32c93 (wsJx35411_init_45d68) := ggJx4a65c_iterator_32c93_Jx35411_init_45d68
theorem dJx4a65c_iterator_32c93_0 : decode cJx4a65c_iterator_32c93 0 = .ok (.new 267, 3) := by decide +kernel
theorem dJx4a65c_iterator_32c93_3 : decode cJx4a65c_iterator_32c93 3 = .ok (.dup, 1) := by decide +kernel
theorem dJx4a65c_iterator_32c93_4 : decode cJx4a65c_iterator_32c93 4 = .ok (.aload_n 0, 1) := by decide +kernel
theorem dJx4a65c_iterator_32c93_5 : decode cJx4a65c_iterator_32c93 5 = .ok (.invokespecial 269, 3) := by decide +kernel
theorem dJx4a65c_iterator_32c93_8 : decode cJx4a65c_iterator_32c93 8 = .ok (.areturn, 1) := by decide +kernel
theorem dJ7_fill_53178_0 : decode cJ7_fill_53178 0 = .ok (.iconst 0, 1) := by decide +kernel
theorem dJ7_fill_53178_1 : decode cJ7_fill_53178 1 = .ok (.istore_n 2, 1) := by decide +kernel
theorem dJ7_fill_53178_2 : decode cJ7_fill_53178 2 = .ok (.aload_n 0, 1) := by decide +kernel
theorem dJ7_fill_53178_3 : decode cJ7_fill_53178 3 = .ok (.arraylength, 1) := by decide +kernel
theorem dJ7_fill_53178_4 : decode cJ7_fill_53178 4 = .ok (.istore_n 3, 1) := by decide +kernel
theorem dJ7_fill_53178_5 : decode cJ7_fill_53178 5 = .ok (.iload_n 2, 1) := by decide +kernel
theorem dJ7_fill_53178_6 : decode cJ7_fill_53178 6 = .ok (.iload_n 3, 1) := by decide +kernel
theorem dJ7_fill_53178_7 : decode cJ7_fill_53178 7 = .ok (.if_icmp .ge 13, 3) := by decide +kernel
theorem dJ7_fill_53178_10 : decode cJ7_fill_53178 10 = .ok (.aload_n 0, 1) := by decide +kernel
theorem dJ7_fill_53178_11 : decode cJ7_fill_53178 11 = .ok (.iload_n 2, 1) := by decide +kernel
theorem dJ7_fill_53178_12 : decode cJ7_fill_53178 12 = .ok (.iload_n 1, 1) := by decide +kernel
theorem dJ7_fill_53178_13 : decode cJ7_fill_53178 13 = .ok (.iastore, 1) := by decide +kernel
theorem dJ7_fill_53178_14 : decode cJ7_fill_53178 14 = .ok (.iinc 2 1, 3) := by decide +kernel
theorem dJ7_fill_53178_17 : decode cJ7_fill_53178 17 = .ok (.goto (-12), 3) := by decide +kernel
theorem dJ7_fill_53178_20 : decode cJ7_fill_53178 20 = .ok (.return_, 1) := by decide +kernel
