theorem dL_turn_5 : decode cL_turn 5 = .ok (.invokevirtual 25, 3) := by decide +kernel
theorem dL_turn_8 : decode cL_turn 8 = .ok (.i2l, 1) := by decide +kernel
theorem dL_turn_9 : decode cL_turn 9 = .ok (.lastore, 1) := by decide +kernel
theorem dL_turn_10 : decode cL_turn 10 = .ok (.goto 7, 3) := by decide +kernel
theorem dL_turn_13 : decode cL_turn 13 = .ok (.astore 4, 2) := by decide +kernel
theorem dL_turn_15 : decode cL_turn 15 = .ok (.iconst 1, 1) := by decide +kernel
theorem dL_turn_16 : decode cL_turn 16 = .ok (.ireturn, 1) := by decide +kernel
theorem dL_turn_17 : decode cL_turn 17 = .ok (.iconst 0, 1) := by decide +kernel
theorem dL_turn_18 : decode cL_turn 18 = .ok (.ireturn, 1) := by decide +kernel
set_option maxRecDepth 20000 in
theorem ggL_at_X5_at : GoodIn wsL_at wsX5_at := goodIn_ca (goodIn_r _ [6, 7, 8, 9, 10, 5, 11, 12, 13, 14, 15, 16, 17, 18, 19, 20, 21, 22, 23, 24, 25, 26, 27, 28, 29, 30, 31, 32, 33, 34] (by decide +kernel) (by decide +kernel)) (goodIn_sub (fun _ h => List.mem_cons_of_mem _ (List.mem_append_right _ h)) (by decide +kernel))
set_option maxRecDepth 20000 in
theorem gL_at_X5_at : GoodIn wsL_at (wsV RL 29 RX5 yX5_at wsX5_at) := goodIn_app (goodIn_of _ (by decide +kernel)) ggL_at_X5_at
theorem dL_at_0 : decode cL_at 0 = .ok (.aload_n 2, 1) := by decide +kernel
theorem dL_at_1 : decode cL_at 1 = .ok (.iconst 0, 1) := by decide +kernel
theorem dL_at_2 : decode cL_at 2 = .ok (.aload_n 0, 1) := by decide +kernel
theorem dL_at_3 : decode cL_at 3 = .ok (.iload_n 1, 1) := by decide +kernel
theorem dL_at_4 : decode cL_at 4 = .ok (.invokevirtual 29, 3) := by decide +kernel
theorem dL_at_12 : decode cL_at 12 = .ok (.astore_n 3, 1) := by decide +kernel
theorem dL_at_13 : decode cL_at 13 = .ok (.iconst 1, 1) := by decide +kernel
theorem dL_at_14 : decode cL_at 14 = .ok (.ireturn, 1) := by decide +kernel
set_option maxRecDepth 20000 in
theorem ggL_twist_X5_twist : GoodIn wsL_twist wsX5_twist := goodIn_ca (goodIn_r _ [6, 7, 8, 9, 10, 5, 11, 12, 13, 14, 15, 16, 17, 18, 19, 20, 21, 22, 23, 24, 25, 26, 27, 28, 29, 30, 31, 32, 33, 34] (by decide +kernel) (by decide +kernel)) (goodIn_sub (fun _ h => List.mem_cons_of_mem _ (List.mem_append_right _ h)) (by decide +kernel))
set_option maxRecDepth 20000 in
theorem gL_twist_X5_twist : GoodIn wsL_twist (wsV RL 33 RX5 yX5_twist wsX5_twist) := goodIn_app (goodIn_of _ (by decide +kernel)) ggL_twist_X5_twist
theorem dL_twist_0 : decode cL_twist 0 = .ok (.aload_n 2, 1) := by decide +kernel
theorem dL_twist_1 : decode cL_twist 1 = .ok (.iconst 0, 1) := by decide +kernel
theorem dL_twist_2 : decode cL_twist 2 = .ok (.aload_n 0, 1) := by decide +kernel
theorem dL_twist_3 : decode cL_twist 3 = .ok (.iload_n 1, 1) := by decide +kernel
theorem dL_twist_4 : decode cL_twist 4 = .ok (.invokevirtual 33, 3) := by decide +kernel
theorem dL_twist_12 : decode cL_twist 12 = .ok (.astore_n 3, 1) := by decide +kernel
theorem dL_twist_13 : decode cL_twist 13 = .ok (.iconst 1, 1) := by decide +kernel
theorem dL_twist_14 : decode cL_twist 14 = .ok (.ireturn, 1) := by decide +kernel
set_option maxRecDepth 20000 in
theorem ggL_slip_X5_slip : GoodIn wsL_slip wsX5_slip := goodIn_ca (goodIn_ca (goodIn_r _ [7, 8, 9, 10, 11, 12, 13, 6, 14, 15, 16, 17, 18, 19, 20, 21, 22, 23, 24, 25, 26, 27, 28, 29, 30, 31, 32, 33, 34, 35, 36, 37, 38, 39, 40] (by decide +kernel) (by decide +kernel)) (goodIn_sub (fun _ h => List.mem_cons_of_mem _ (List.mem_append_left _ (List.mem_append_right _ h))) (by decide +kernel))) (goodIn_sub (fun _ h => List.mem_cons_of_mem _ (List.mem_append_right _ h)) (by decide +kernel))
set_option maxRecDepth 20000 in
theorem gL_slip_X5_slip : GoodIn wsL_slip (wsV RL 36 RX5 yX5_slip wsX5_slip) := goodIn_app (goodIn_of _ (by decide +kernel)) ggL_slip_X5_slip
theorem dL_slip_0 : decode cL_slip 0 = .ok (.aload_n 3, 1) := by decide +kernel
theorem dL_slip_1 : decode cL_slip 1 = .ok (.iconst 0, 1) := by decide +kernel
theorem dL_slip_2 : decode cL_slip 2 = .ok (.aload_n 0, 1) := by decide +kernel
theorem dL_slip_3 : decode cL_slip 3 = .ok (.iload_n 1, 1) := by decide +kernel
theorem dL_slip_4 : decode cL_slip 4 = .ok (.iload_n 2, 1) := by decide +kernel
theorem dL_slip_5 : decode cL_slip 5 = .ok (.invokevirtual 36, 3) := by decide +kernel
theorem dL_slip_13 : decode cL_slip 13 = .ok (.astore 4, 2) := by decide +kernel
theorem dL_slip_15 : decode cL_slip 15 = .ok (.iconst 1, 1) := by decide +kernel
theorem dL_slip_16 : decode cL_slip 16 = .ok (.ireturn, 1) := by decide +kernel
set_option maxRecDepth 20000 in
theorem ggL_pick_X5_pick : GoodIn wsL_pick wsX5_pick := goodIn_ca (goodIn_ca (goodIn_ca (goodIn_r _ [7, 8, 9, 10, 11, 12, 13, 14, 15, 16, 6, 17, 18, 19, 20, 21, 22, 23, 24, 25, 26, 27, 28, 29, 30, 31, 32, 33, 34, 35, 36, 37, 38, 39, 40, 41, 42, 43, 44, 45, 46] (by decide +kernel) (by decide +kernel)) (goodIn_sub (fun _ h => List.mem_cons_of_mem _ (List.mem_append_left _ (List.mem_append_right _ h))) (by decide +kernel))) (goodIn_sub (fun _ h => List.mem_cons_of_mem _ (List.mem_append_right _ h)) (by decide +kernel))) (goodIn_sub (fun _ h => List.mem_cons_of_mem _ (List.mem_append_left _ (List.mem_append_left _ (List.mem_append_right _ h)))) (by decide +kernel))
set_option maxRecDepth 20000 in
theorem gL_pick_X5_pick : GoodIn wsL_pick (wsV RL 39 RX5 yX5_pick wsX5_pick) := goodIn_app (goodIn_of _ (by decide +kernel)) ggL_pick_X5_pick
theorem dL_pick_0 : decode cL_pick 0 = .ok (.aload_n 1, 1) := by decide +kernel
theorem dL_pick_1 : decode cL_pick 1 = .ok (.iconst 0, 1) := by decide +kernel
theorem dL_pick_2 : decode cL_pick 2 = .ok (.aload_n 0, 1) := by decide +kernel
theorem dL_pick_3 : decode cL_pick 3 = .ok (.invokevirtual 39, 3) := by decide +kernel
theorem dL_pick_11 : decode cL_pick 11 = .ok (.astore_n 2, 1) := by decide +kernel
theorem dL_pick_12 : decode cL_pick 12 = .ok (.iconst 1, 1) := by decide +kernel
theorem dL_pick_13 : decode cL_pick 13 = .ok (.ireturn, 1) := by decide +kernel
set_option maxRecDepth 20000 in
theorem ggL_unweave_X5_unweave : GoodIn wsL_unweave wsX5_unweave := goodIn_ca (goodIn_ca (goodIn_r _ [6, 7, 8, 9, 10, 11, 12, 13, 14, 15, 16, 17, 18, 19, 20, 21, 22, 23, 24, 25, 26, 27, 28, 29, 30, 31, 32, 33, 34, 35, 36, 37, 38, 39] (by decide +kernel) (by decide +kernel)) (goodIn_sub (fun _ h => List.mem_cons_of_mem _ (List.mem_append_right _ h)) (by decide +kernel))) (goodIn_sub (fun _ h => List.mem_cons_of_mem _ (List.mem_append_left _ (List.mem_append_right _ h))) (by decide +kernel))
set_option maxRecDepth 20000 in
theorem gL_unweave_X5_unweave : GoodIn wsL_unweave (wsV RL 43 RX5 yX5_unweave wsX5_unweave) := goodIn_app (goodIn_of _ (by decide +kernel)) ggL_unweave_X5_unweave
theorem dL_unweave_0 : decode cL_unweave 0 = .ok (.aload_n 1, 1) := by decide +kernel
theorem dL_unweave_1 : decode cL_unweave 1 = .ok (.iconst 0, 1) := by decide +kernel
theorem dL_unweave_2 : decode cL_unweave 2 = .ok (.aload_n 0, 1) := by decide +kernel
theorem dL_unweave_3 : decode cL_unweave 3 = .ok (.invokevirtual 43, 3) := by decide +kernel
theorem dL_unweave_11 : decode cL_unweave 11 = .ok (.astore_n 2, 1) := by decide +kernel
theorem dL_unweave_12 : decode cL_unweave 12 = .ok (.iconst 1, 1) := by decide +kernel
theorem dL_unweave_13 : decode cL_unweave 13 = .ok (.ireturn, 1) := by decide +kernel
set_option maxRecDepth 20000 in
theorem ggL_colour_X5_colour : GoodIn wsL_colour wsX5_colour := goodIn_ca (goodIn_ca (goodIn_r _ [6, 7, 8, 9, 10, 5, 11, 12, 13, 14, 15, 16, 17, 18, 19, 20, 21, 22, 23, 24, 25, 26, 27, 28, 29, 30, 31, 32, 33, 34, 35, 36, 37, 38, 39, 40, 41, 42, 43, 44, 45, 46, 47, 48, 49, 50, 51, 52, 53, 54] (by decide +kernel) (by decide +kernel)) (goodIn_sub (fun _ h => List.mem_cons_of_mem _ (List.mem_append_right _ h)) (by decide +kernel))) (goodIn_sub (fun _ h => List.mem_cons_of_mem _ (List.mem_append_left _ (List.mem_append_right _ h))) (by decide +kernel))
set_option maxRecDepth 20000 in
theorem gL_colour_X5_colour : GoodIn wsL_colour (wsV RL 46 RX5 yX5_colour wsX5_colour) := goodIn_app (goodIn_of _ (by decide +kernel)) ggL_colour_X5_colour
theorem dL_colour_0 : decode cL_colour 0 = .ok (.aload 4, 2) := by decide +kernel
theorem dL_colour_2 : decode cL_colour 2 = .ok (.iconst 0, 1) := by decide +kernel
theorem dL_colour_3 : decode cL_colour 3 = .ok (.aload_n 0, 1) := by decide +kernel
theorem dL_colour_4 : decode cL_colour 4 = .ok (.iload_n 1, 1) := by decide +kernel
theorem dL_colour_5 : decode cL_colour 5 = .ok (.iload_n 2, 1) := by decide +kernel
theorem dL_colour_6 : decode cL_colour 6 = .ok (.iload_n 3, 1) := by decide +kernel
theorem dL_colour_7 : decode cL_colour 7 = .ok (.invokevirtual 46, 3) := by decide +kernel
theorem dL_colour_15 : decode cL_colour 15 = .ok (.astore 5, 2) := by decide +kernel
theorem dL_colour_17 : decode cL_colour 17 = .ok (.iconst 1, 1) := by decide +kernel
theorem dL_colour_18 : decode cL_colour 18 = .ok (.ireturn, 1) := by decide +kernel
set_option maxRecDepth 20000 in
theorem ggL_isIdle_X5_isIdle : GoodIn wsL_isIdle wsX5_isIdle := goodIn_ca (goodIn_ca (goodIn_r _ [6, 7, 8, 9, 10, 5, 11, 12, 13, 14, 15, 16, 17, 18, 19, 20, 21, 22, 23, 24, 25, 26, 27, 28, 29, 30, 31, 32, 33, 34, 35, 36, 37, 38, 39, 40, 41, 42, 43, 44] (by decide +kernel) (by decide +kernel)) (goodIn_sub (fun _ h => List.mem_cons_of_mem _ (List.mem_append_right _ h)) (by decide +kernel))) (goodIn_sub (fun _ h => List.mem_cons_of_mem _ (List.mem_append_left _ (List.mem_append_right _ h))) (by decide +kernel))
set_option maxRecDepth 20000 in
theorem gL_isIdle_X5_isIdle : GoodIn wsL_isIdle (wsV RL 50 RX5 yX5_isIdle wsX5_isIdle) := goodIn_app (goodIn_of _ (by decide +kernel)) ggL_isIdle_X5_isIdle
theorem dL_isIdle_0 : decode cL_isIdle 0 = .ok (.aload_n 3, 1) := by decide +kernel
theorem dL_isIdle_1 : decode cL_isIdle 1 = .ok (.iconst 0, 1) := by decide +kernel
theorem dL_isIdle_2 : decode cL_isIdle 2 = .ok (.aload_n 0, 1) := by decide +kernel
theorem dL_isIdle_3 : decode cL_isIdle 3 = .ok (.iload_n 1, 1) := by decide +kernel
theorem dL_isIdle_4 : decode cL_isIdle 4 = .ok (.iload_n 2, 1) := by decide +kernel
theorem dL_isIdle_5 : decode cL_isIdle 5 = .ok (.invokevirtual 50, 3) := by decide +kernel
theorem dL_isIdle_20 : decode cL_isIdle 20 = .ok (.astore 4, 2) := by decide +kernel
theorem dL_isIdle_22 : decode cL_isIdle 22 = .ok (.iconst 1, 1) := by decide +kernel
theorem dL_isIdle_23 : decode cL_isIdle 23 = .ok (.ireturn, 1) := by decide +kernel
set_option maxRecDepth 20000 in
theorem ggL_longestFloat_X5_longestFloat : GoodIn wsL_longestFloat wsX5_longestFloat := goodIn_ca (goodIn_ca (goodIn_r _ [6, 7, 8, 9, 10, 11, 12, 13, 14, 15, 5, 16, 17, 18, 19, 20, 21, 22, 23, 24, 25, 26, 27, 28, 29, 30, 31, 32, 33, 34, 35, 36, 37, 38, 39, 40, 41, 42, 43, 44] (by decide +kernel) (by decide +kernel)) (goodIn_sub (fun _ h => List.mem_cons_of_mem _ (List.mem_append_right _ h)) (by decide +kernel))) (goodIn_sub (fun _ h => List.mem_cons_of_mem _ (List.mem_append_left _ (List.mem_append_right _ h))) (by decide +kernel))
set_option maxRecDepth 20000 in
theorem gL_longestFloat_X5_longestFloat : GoodIn wsL_longestFloat (wsV RL 54 RX5 yX5_longestFloat wsX5_longestFloat) := goodIn_app (goodIn_of _ (by decide +kernel)) ggL_longestFloat_X5_longestFloat
theorem dL_longestFloat_0 : decode cL_longestFloat 0 = .ok (.aload_n 2, 1) := by decide +kernel
theorem dL_longestFloat_1 : decode cL_longestFloat 1 = .ok (.iconst 0, 1) := by decide +kernel
theorem dL_longestFloat_2 : decode cL_longestFloat 2 = .ok (.aload_n 0, 1) := by decide +kernel
theorem dL_longestFloat_3 : decode cL_longestFloat 3 = .ok (.iload_n 1, 1) := by decide +kernel
theorem dL_longestFloat_4 : decode cL_longestFloat 4 = .ok (.invokevirtual 54, 3) := by decide +kernel
theorem dL_longestFloat_12 : decode cL_longestFloat 12 = .ok (.astore_n 3, 1) := by decide +kernel
theorem dL_longestFloat_13 : decode cL_longestFloat 13 = .ok (.iconst 1, 1) := by decide +kernel
theorem dL_longestFloat_14 : decode cL_longestFloat 14 = .ok (.ireturn, 1) := by decide +kernel
set_option maxRecDepth 20000 in
theorem ggL_draw_X5_draw : GoodIn wsL_draw wsX5_draw := goodIn_ca (goodIn_ca (goodIn_r _ [6, 7, 8, 9, 10, 11, 5, 12, 13, 14, 15, 16, 17, 18, 19, 20, 21, 22, 23, 24, 25] (by decide +kernel) (by decide +kernel)) (goodIn_sub (fun _ h => List.mem_cons_of_mem _ (List.mem_append_right _ h)) (by decide +kernel))) (goodIn_sub (fun _ h => List.mem_cons_of_mem _ (List.mem_append_left _ (List.mem_append_right _ h))) (by decide +kernel))
set_option maxRecDepth 20000 in
theorem gL_draw_X5_draw : GoodIn wsL_draw (wsV RL 57 RX5 yX5_draw wsX5_draw) := goodIn_app (goodIn_of _ (by decide +kernel)) ggL_draw_X5_draw
theorem dL_draw_0 : decode cL_draw 0 = .ok (.aload 4, 2) := by decide +kernel
theorem dL_draw_2 : decode cL_draw 2 = .ok (.iconst 0, 1) := by decide +kernel
theorem dL_draw_3 : decode cL_draw 3 = .ok (.aload_n 0, 1) := by decide +kernel
theorem dL_draw_4 : decode cL_draw 4 = .ok (.iload_n 1, 1) := by decide +kernel
theorem dL_draw_5 : decode cL_draw 5 = .ok (.iload_n 2, 1) := by decide +kernel
theorem dL_draw_6 : decode cL_draw 6 = .ok (.iload_n 3, 1) := by decide +kernel
theorem dL_draw_7 : decode cL_draw 7 = .ok (.invokevirtual 57, 3) := by decide +kernel
theorem dL_draw_10 : decode cL_draw 10 = .ok (.i2l, 1) := by decide +kernel
theorem dL_draw_11 : decode cL_draw 11 = .ok (.lastore, 1) := by decide +kernel
theorem dL_draw_12 : decode cL_draw 12 = .ok (.goto 7, 3) := by decide +kernel
theorem dL_draw_15 : decode cL_draw 15 = .ok (.astore 5, 2) := by decide +kernel
theorem dL_draw_17 : decode cL_draw 17 = .ok (.iconst 1, 1) := by decide +kernel
theorem dL_draw_18 : decode cL_draw 18 = .ok (.ireturn, 1) := by decide +kernel
theorem dL_draw_19 : decode cL_draw 19 = .ok (.iconst 0, 1) := by decide +kernel
theorem dL_draw_20 : decode cL_draw 20 = .ok (.ireturn, 1) := by decide +kernel
set_option maxRecDepth 20000 in
theorem ggL_type_X5_type : GoodIn wsL_type wsX5_type := goodIn_ca (goodIn_ca (goodIn_ca (goodIn_r _ [7, 8, 9, 10, 11, 12, 13, 6, 14, 15, 16, 17, 18, 19, 20, 21, 22, 23, 24, 25, 26, 27, 28, 29] (by decide +kernel) (by decide +kernel)) (goodIn_sub (fun _ h => List.mem_cons_of_mem _ (List.mem_append_left _ (List.mem_append_right _ h))) (by decide +kernel))) (goodIn_sub (fun _ h => List.mem_cons_of_mem _ (List.mem_append_left _ (List.mem_append_left _ (List.mem_append_right _ h)))) (by decide +kernel))) (goodIn_sub (fun _ h => List.mem_cons_of_mem _ (List.mem_append_right _ h)) (by decide +kernel))
set_option maxRecDepth 20000 in
theorem gL_type_X5_type : GoodIn wsL_type (wsV RL 61 RX5 yX5_type wsX5_type) := goodIn_app (goodIn_of _ (by decide +kernel)) ggL_type_X5_type
theorem dL_type_0 : decode cL_type 0 = .ok (.aload_n 2, 1) := by decide +kernel
theorem dL_type_1 : decode cL_type 1 = .ok (.iconst 0, 1) := by decide +kernel
theorem dL_type_2 : decode cL_type 2 = .ok (.aload_n 0, 1) := by decide +kernel
theorem dL_type_3 : decode cL_type 3 = .ok (.iload_n 1, 1) := by decide +kernel
theorem dL_type_4 : decode cL_type 4 = .ok (.invokevirtual 61, 3) := by decide +kernel
theorem dL_type_7 : decode cL_type 7 = .ok (.i2l, 1) := by decide +kernel
theorem dL_type_8 : decode cL_type 8 = .ok (.lastore, 1) := by decide +kernel
theorem dL_type_9 : decode cL_type 9 = .ok (.goto 9, 3) := by decide +kernel
theorem dL_type_12 : decode cL_type 12 = .ok (.astore_n 3, 1) := by decide +kernel
theorem dL_type_13 : decode cL_type 13 = .ok (.iconst 1, 1) := by decide +kernel
theorem dL_type_14 : decode cL_type 14 = .ok (.ireturn, 1) := by decide +kernel
theorem dL_type_18 : decode cL_type 18 = .ok (.iconst 0, 1) := by decide +kernel
theorem dL_type_19 : decode cL_type 19 = .ok (.ireturn, 1) := by decide +kernel
set_option maxRecDepth 20000 in
theorem ggL_motto_X5_motto : GoodIn wsL_motto wsX5_motto := goodIn_ca (goodIn_ca (goodIn_ca (goodIn_r _ [8, 9, 10, 11, 12, 13, 14, 15, 16, 7, 17, 18, 19, 20, 21, 22, 23, 24, 25, 26, 27, 28, 29, 30, 31, 32, 33, 34, 35, 36, 37, 38, 39, 40, 41, 42, 43, 44, 45, 46, 47, 48, 49, 50, 51, 52, 53, 54, 55, 56, 57, 58, 59, 60, 61, 62, 63, 64, 65] (by decide +kernel) (by decide +kernel)) (goodIn_sub (fun _ h => List.mem_cons_of_mem _ (List.mem_append_left _ (List.mem_append_left _ (List.mem_append_right _ h)))) (by decide +kernel))) (goodIn_sub (fun _ h => List.mem_cons_of_mem _ (List.mem_append_left _ (List.mem_append_right _ h))) (by decide +kernel))) (goodIn_sub (fun _ h => List.mem_cons_of_mem _ (List.mem_append_right _ h)) (by decide +kernel))
set_option maxRecDepth 20000 in
theorem gL_motto_X5_motto : GoodIn wsL_motto (wsV RL 65 RX5 yX5_motto wsX5_motto) := goodIn_app (goodIn_of _ (by decide +kernel)) ggL_motto_X5_motto
theorem dL_motto_0 : decode cL_motto 0 = .ok (.aload 4, 2) := by decide +kernel
theorem dL_motto_2 : decode cL_motto 2 = .ok (.iconst 0, 1) := by decide +kernel
theorem dL_motto_3 : decode cL_motto 3 = .ok (.aload_n 0, 1) := by decide +kernel
theorem dL_motto_4 : decode cL_motto 4 = .ok (.iload_n 1, 1) := by decide +kernel
theorem dL_motto_5 : decode cL_motto 5 = .ok (.iload_n 2, 1) := by decide +kernel
theorem dL_motto_6 : decode cL_motto 6 = .ok (.iload_n 3, 1) := by decide +kernel
theorem dL_motto_7 : decode cL_motto 7 = .ok (.invokevirtual 65, 3) := by decide +kernel
theorem dL_motto_15 : decode cL_motto 15 = .ok (.astore 5, 2) := by decide +kernel
theorem dL_motto_17 : decode cL_motto 17 = .ok (.iconst 1, 1) := by decide +kernel
theorem dL_motto_18 : decode cL_motto 18 = .ok (.ireturn, 1) := by decide +kernel
set_option maxRecDepth 20000 in
theorem ggL_setInk_X5_setInk : GoodIn wsL_setInk wsX5_setInk := goodIn_ca (goodIn_r _ [6, 7, 8, 5, 9, 10, 11, 12, 13, 14, 15, 16, 17, 18, 19, 20, 21, 22, 23, 24, 25, 26, 27, 28, 29, 30, 31, 32, 33, 34, 35, 36, 37] (by decide +kernel) (by decide +kernel)) (goodIn_sub (fun _ h => List.mem_cons_of_mem _ (List.mem_append_right _ h)) (by decide +kernel))
set_option maxRecDepth 20000 in
theorem gL_setInk_X5_setInk : GoodIn wsL_setInk (wsV RL 69 RX5 yX5_setInk wsX5_setInk) := goodIn_app (goodIn_of _ (by decide +kernel)) ggL_setInk_X5_setInk
theorem dL_setInk_0 : decode cL_setInk 0 = .ok (.aload_n 3, 1) := by decide +kernel
theorem dL_setInk_1 : decode cL_setInk 1 = .ok (.iconst 0, 1) := by decide +kernel
theorem dL_setInk_2 : decode cL_setInk 2 = .ok (.aload_n 0, 1) := by decide +kernel
theorem dL_setInk_3 : decode cL_setInk 3 = .ok (.iload_n 1, 1) := by decide +kernel
theorem dL_setInk_4 : decode cL_setInk 4 = .ok (.iload_n 2, 1) := by decide +kernel
theorem dL_setInk_5 : decode cL_setInk 5 = .ok (.invokevirtual 69, 3) := by decide +kernel
theorem dL_setInk_8 : decode cL_setInk 8 = .ok (.i2l, 1) := by decide +kernel
theorem dL_setInk_9 : decode cL_setInk 9 = .ok (.lastore, 1) := by decide +kernel
theorem dL_setInk_10 : decode cL_setInk 10 = .ok (.goto 7, 3) := by decide +kernel
theorem dL_setInk_13 : decode cL_setInk 13 = .ok (.astore 4, 2) := by decide +kernel
theorem dL_setInk_15 : decode cL_setInk 15 = .ok (.iconst 1, 1) := by decide +kernel
theorem dL_setInk_16 : decode cL_setInk 16 = .ok (.ireturn, 1) := by decide +kernel
theorem dL_setInk_17 : decode cL_setInk 17 = .ok (.iconst 0, 1) := by decide +kernel
theorem dL_setInk_18 : decode cL_setInk 18 = .ok (.ireturn, 1) := by decide +kernel
set_option maxRecDepth 20000 in
theorem ggL_setGround_X5_setGround : GoodIn wsL_setGround wsX5_setGround := goodIn_ca (goodIn_r _ [6, 7, 8, 5, 9, 10, 11, 12, 13, 14, 15, 16, 17, 18, 19, 20, 21, 22, 23, 24, 25, 26, 27, 28, 29, 30, 31, 32, 33, 34, 35, 36, 37] (by decide +kernel) (by decide +kernel)) (goodIn_sub (fun _ h => List.mem_cons_of_mem _ (List.mem_append_right _ h)) (by decide +kernel))
set_option maxRecDepth 20000 in
theorem gL_setGround_X5_setGround : GoodIn wsL_setGround (wsV RL 73 RX5 yX5_setGround wsX5_setGround) := goodIn_app (goodIn_of _ (by decide +kernel)) ggL_setGround_X5_setGround
theorem dL_setGround_0 : decode cL_setGround 0 = .ok (.aload_n 3, 1) := by decide +kernel
theorem dL_setGround_1 : decode cL_setGround 1 = .ok (.iconst 0, 1) := by decide +kernel
theorem dL_setGround_2 : decode cL_setGround 2 = .ok (.aload_n 0, 1) := by decide +kernel
theorem dL_setGround_3 : decode cL_setGround 3 = .ok (.iload_n 1, 1) := by decide +kernel
theorem dL_setGround_4 : decode cL_setGround 4 = .ok (.iload_n 2, 1) := by decide +kernel
theorem dL_setGround_5 : decode cL_setGround 5 = .ok (.invokevirtual 73, 3) := by decide +kernel
theorem dL_setGround_8 : decode cL_setGround 8 = .ok (.i2l, 1) := by decide +kernel
theorem dL_setGround_9 : decode cL_setGround 9 = .ok (.lastore, 1) := by decide +kernel
theorem dL_setGround_10 : decode cL_setGround 10 = .ok (.goto 7, 3) := by decide +kernel
theorem dL_setGround_13 : decode cL_setGround 13 = .ok (.astore 4, 2) := by decide +kernel
theorem dL_setGround_15 : decode cL_setGround 15 = .ok (.iconst 1, 1) := by decide +kernel
theorem dL_setGround_16 : decode cL_setGround 16 = .ok (.ireturn, 1) := by decide +kernel
theorem dL_setGround_17 : decode cL_setGround 17 = .ok (.iconst 0, 1) := by decide +kernel
theorem dL_setGround_18 : decode cL_setGround 18 = .ok (.ireturn, 1) := by decide +kernel
set_option maxRecDepth 20000 in
theorem ggL_wanted_X5_wanted : GoodIn wsL_wanted wsX5_wanted := goodIn_ca (goodIn_ca (goodIn_ca (goodIn_r _ [7, 8, 9, 10, 6, 11, 12, 13, 14, 15, 16, 17, 18, 19, 20, 21, 22, 23, 24, 25, 26, 27, 28, 29, 30, 31, 32, 33, 34, 35, 36, 37, 38, 39, 40, 41, 42, 43, 44, 45, 46, 47, 48, 49, 50, 51, 52, 53, 54, 55, 56, 57, 58, 59, 60, 61] (by decide +kernel) (by decide +kernel)) (goodIn_sub (fun _ h => List.mem_cons_of_mem _ (List.mem_append_left _ (List.mem_append_right _ h))) (by decide +kernel))) (goodIn_sub (fun _ h => List.mem_cons_of_mem _ (List.mem_append_right _ h)) (by decide +kernel))) (goodIn_sub (fun _ h => List.mem_cons_of_mem _ (List.mem_append_left _ (List.mem_append_left _ (List.mem_append_right _ h)))) (by decide +kernel))
set_option maxRecDepth 20000 in
theorem gL_wanted_X5_wanted : GoodIn wsL_wanted (wsV RL 76 RX5 yX5_wanted wsX5_wanted) := goodIn_app (goodIn_of _ (by decide +kernel)) ggL_wanted_X5_wanted
theorem dL_wanted_0 : decode cL_wanted 0 = .ok (.aload 4, 2) := by decide +kernel
theorem dL_wanted_2 : decode cL_wanted 2 = .ok (.iconst 0, 1) := by decide +kernel
theorem dL_wanted_3 : decode cL_wanted 3 = .ok (.aload_n 0, 1) := by decide +kernel
theorem dL_wanted_4 : decode cL_wanted 4 = .ok (.iload_n 1, 1) := by decide +kernel
theorem dL_wanted_5 : decode cL_wanted 5 = .ok (.iload_n 2, 1) := by decide +kernel
theorem dL_wanted_6 : decode cL_wanted 6 = .ok (.iload_n 3, 1) := by decide +kernel
theorem dL_wanted_7 : decode cL_wanted 7 = .ok (.invokevirtual 76, 3) := by decide +kernel
theorem dL_wanted_15 : decode cL_wanted 15 = .ok (.astore 5, 2) := by decide +kernel
theorem dL_wanted_17 : decode cL_wanted 17 = .ok (.iconst 1, 1) := by decide +kernel
theorem dL_wanted_18 : decode cL_wanted 18 = .ok (.ireturn, 1) := by decide +kernel
set_option maxRecDepth 20000 in
theorem ggL_pairs_X5_pairs : GoodIn wsL_pairs wsX5_pairs := goodIn_ca (goodIn_ca (goodIn_r _ [6, 7, 8, 9, 10, 5, 11, 12, 13, 14, 15, 16, 17, 18, 19, 20, 21, 22, 23, 24, 25, 26, 27, 28, 29, 30, 31, 32, 33, 34, 35, 36, 37, 38, 39, 40, 41, 42, 43, 44, 45, 46, 47] (by decide +kernel) (by decide +kernel)) (goodIn_sub (fun _ h => List.mem_cons_of_mem _ (List.mem_append_right _ h)) (by decide +kernel))) (goodIn_sub (fun _ h => List.mem_cons_of_mem _ (List.mem_append_left _ (List.mem_append_right _ h))) (by decide +kernel))
set_option maxRecDepth 20000 in
theorem gL_pairs_X5_pairs : GoodIn wsL_pairs (wsV RL 79 RX5 yX5_pairs wsX5_pairs) := goodIn_app (goodIn_of _ (by decide +kernel)) ggL_pairs_X5_pairs
theorem dL_pairs_0 : decode cL_pairs 0 = .ok (.aload_n 2, 1) := by decide +kernel
theorem dL_pairs_1 : decode cL_pairs 1 = .ok (.iconst 0, 1) := by decide +kernel
theorem dL_pairs_2 : decode cL_pairs 2 = .ok (.aload_n 0, 1) := by decide +kernel
theorem dL_pairs_3 : decode cL_pairs 3 = .ok (.iload_n 1, 1) := by decide +kernel
theorem dL_pairs_4 : decode cL_pairs 4 = .ok (.invokevirtual 79, 3) := by decide +kernel
theorem dL_pairs_12 : decode cL_pairs 12 = .ok (.astore_n 3, 1) := by decide +kernel
theorem dL_pairs_13 : decode cL_pairs 13 = .ok (.iconst 1, 1) := by decide +kernel
theorem dL_pairs_14 : decode cL_pairs 14 = .ok (.ireturn, 1) := by decide +kernel
set_option maxRecDepth 20000 in
theorem ggL_canPlan_X5_canPlan : GoodIn wsL_canPlan wsX5_canPlan := goodIn_ca (goodIn_ca (goodIn_ca (goodIn_r _ [7, 8, 9, 10, 11, 6, 12, 13, 14, 15, 16, 17, 18, 19, 20, 21, 22, 23, 24, 25, 26, 27, 28, 29, 30, 31, 32, 33, 34, 35, 36, 37, 38, 39, 40, 41, 42, 43, 44, 45, 46, 47, 48, 49, 50, 51, 52, 53, 54, 55, 56, 57, 58, 59, 60, 61, 62, 63, 64, 65, 66, 67, 68, 69, 70, 71, 72, 73, 74, 75, 76, 77, 78, 79, 80, 81, 82, 83, 84, 85, 86, 87, 88, 89, 90, 91, 92, 93, 94, 95, 96, 97, 98, 99, 100, 101, 102, 103, 104, 105, 106, 107, 108, 109, 110, 111, 112, 113, 114, 115, 116, 117, 118, 119, 120, 121, 122, 123] (by decide +kernel) (by decide +kernel)) (goodIn_sub (fun _ h => List.mem_cons_of_mem _ (List.mem_append_left _ (List.mem_append_right _ h))) (by decide +kernel))) (goodIn_sub (fun _ h => List.mem_cons_of_mem _ (List.mem_append_right _ h)) (by decide +kernel))) (goodIn_sub (fun _ h => List.mem_cons_of_mem _ (List.mem_append_left _ (List.mem_append_left _ (List.mem_append_right _ h)))) (by decide +kernel))
set_option maxRecDepth 20000 in
theorem gL_canPlan_X5_canPlan : GoodIn wsL_canPlan (wsV RL 82 RX5 yX5_canPlan wsX5_canPlan) := goodIn_app (goodIn_of _ (by decide +kernel)) ggL_canPlan_X5_canPlan
theorem dL_canPlan_0 : decode cL_canPlan 0 = .ok (.aload_n 3, 1) := by decide +kernel
theorem dL_canPlan_1 : decode cL_canPlan 1 = .ok (.iconst 0, 1) := by decide +kernel
theorem dL_canPlan_2 : decode cL_canPlan 2 = .ok (.aload_n 0, 1) := by decide +kernel
theorem dL_canPlan_3 : decode cL_canPlan 3 = .ok (.iload_n 1, 1) := by decide +kernel
theorem dL_canPlan_4 : decode cL_canPlan 4 = .ok (.iload_n 2, 1) := by decide +kernel
theorem dL_canPlan_5 : decode cL_canPlan 5 = .ok (.invokevirtual 82, 3) := by decide +kernel
theorem dL_canPlan_20 : decode cL_canPlan 20 = .ok (.astore 4, 2) := by decide +kernel
theorem dL_canPlan_22 : decode cL_canPlan 22 = .ok (.iconst 1, 1) := by decide +kernel
theorem dL_canPlan_23 : decode cL_canPlan 23 = .ok (.ireturn, 1) := by decide +kernel
set_option maxRecDepth 20000 in
theorem ggL_reversals_X5_reversals : GoodIn wsL_reversals wsX5_reversals := goodIn_ca (goodIn_ca (goodIn_ca (goodIn_ca (goodIn_r _ [8, 9, 10, 11, 7, 12, 13, 14, 15, 16, 17, 18, 19, 20, 21, 22, 23, 24, 25, 26, 27, 28, 29, 30, 31, 32, 33, 34, 35, 36, 37, 38, 39, 40, 41, 42, 43, 44, 45, 46, 47, 48, 49, 50, 51, 52, 53, 54, 55, 56, 57, 58, 59, 60, 61, 62, 63, 64, 65, 66, 67, 68, 69, 70, 71, 72, 73, 74, 75, 76, 77, 78, 79, 80, 81, 82, 83, 84, 85, 86, 87, 88, 89, 90, 91, 92, 93, 94, 95, 96, 97, 98, 99, 100, 101, 102, 103, 104, 105, 106, 107, 108, 109, 110, 111, 112, 113, 114, 115, 116, 117, 118, 119, 120, 121, 122, 123, 124, 125, 126, 127, 128, 129] (by decide +kernel) (by decide +kernel)) (goodIn_sub (fun _ h => List.mem_cons_of_mem _ (List.mem_append_left _ (List.mem_append_left _ (List.mem_append_right _ h)))) (by decide +kernel))) (goodIn_sub (fun _ h => List.mem_cons_of_mem _ (List.mem_append_left _ (List.mem_append_right _ h))) (by decide +kernel))) (goodIn_sub (fun _ h => List.mem_cons_of_mem _ (List.mem_append_left _ (List.mem_append_left _ (List.mem_append_left _ (List.mem_append_right _ h))))) (by decide +kernel))) (goodIn_sub (fun _ h => List.mem_cons_of_mem _ (List.mem_append_right _ h)) (by decide +kernel))
set_option maxRecDepth 20000 in
theorem gL_reversals_X5_reversals : GoodIn wsL_reversals (wsV RL 85 RX5 yX5_reversals wsX5_reversals) := goodIn_app (goodIn_of _ (by decide +kernel)) ggL_reversals_X5_reversals
theorem dL_reversals_0 : decode cL_reversals 0 = .ok (.aload_n 3, 1) := by decide +kernel
theorem dL_reversals_1 : decode cL_reversals 1 = .ok (.iconst 0, 1) := by decide +kernel
theorem dL_reversals_2 : decode cL_reversals 2 = .ok (.aload_n 0, 1) := by decide +kernel
theorem dL_reversals_3 : decode cL_reversals 3 = .ok (.iload_n 1, 1) := by decide +kernel
theorem dL_reversals_4 : decode cL_reversals 4 = .ok (.iload_n 2, 1) := by decide +kernel
theorem dL_reversals_5 : decode cL_reversals 5 = .ok (.invokevirtual 85, 3) := by decide +kernel
theorem dL_reversals_13 : decode cL_reversals 13 = .ok (.astore 4, 2) := by decide +kernel
theorem dL_reversals_15 : decode cL_reversals 15 = .ok (.iconst 1, 1) := by decide +kernel
theorem dL_reversals_16 : decode cL_reversals 16 = .ok (.ireturn, 1) := by decide +kernel
set_option maxRecDepth 20000 in
theorem ggL_planAt_X5_planAt : GoodIn wsL_planAt wsX5_planAt := goodIn_ca (goodIn_ca (goodIn_ca (goodIn_ca (goodIn_r _ [8, 9, 10, 11, 12, 13, 14, 7, 15, 16, 17, 18, 19, 20, 21, 22, 23, 24, 25, 26, 27, 28, 29, 30, 31, 32, 33, 34, 35, 36, 37, 38, 39, 40, 41, 42, 43, 44, 45, 46, 47, 48, 49, 50, 51, 52, 53, 54, 55, 56, 57, 58, 59, 60, 61, 62, 63, 64, 65, 66, 67, 68, 69, 70, 71, 72, 73, 74, 75, 76, 77, 78, 79, 80, 81, 82, 83, 84, 85, 86, 87, 88, 89, 90, 91, 92, 93, 94, 95, 96, 97, 98, 99, 100, 101, 102, 103, 104, 105, 106, 107, 108, 109, 110, 111, 112, 113, 114, 115, 116, 117, 118, 119, 120, 121, 122, 123, 124, 125, 126, 127, 128, 129, 130, 131, 132, 133] (by decide +kernel) (by decide +kernel)) (goodIn_sub (fun _ h => List.mem_cons_of_mem _ (List.mem_append_left _ (List.mem_append_left _ (List.mem_append_right _ h)))) (by decide +kernel))) (goodIn_sub (fun _ h => List.mem_cons_of_mem _ (List.mem_append_left _ (List.mem_append_right _ h))) (by decide +kernel))) (goodIn_sub (fun _ h => List.mem_cons_of_mem _ (List.mem_append_right _ h)) (by decide +kernel))) (goodIn_sub (fun _ h => List.mem_cons_of_mem _ (List.mem_append_left _ (List.mem_append_left _ (List.mem_append_left _ (List.mem_append_right _ h))))) (by decide +kernel))
set_option maxRecDepth 20000 in
theorem gL_planAt_X5_planAt : GoodIn wsL_planAt (wsV RL 90 RX5 yX5_planAt wsX5_planAt) := goodIn_app (goodIn_of _ (by decide +kernel)) ggL_planAt_X5_planAt
theorem dL_planAt_0 : decode cL_planAt 0 = .ok (.aload 4, 2) := by decide +kernel
theorem dL_planAt_2 : decode cL_planAt 2 = .ok (.iconst 0, 1) := by decide +kernel
theorem dL_planAt_3 : decode cL_planAt 3 = .ok (.aload_n 0, 1) := by decide +kernel
theorem dL_planAt_4 : decode cL_planAt 4 = .ok (.iload_n 1, 1) := by decide +kernel
theorem dL_planAt_5 : decode cL_planAt 5 = .ok (.iload_n 2, 1) := by decide +kernel
theorem dL_planAt_6 : decode cL_planAt 6 = .ok (.iload_n 3, 1) := by decide +kernel
theorem dL_planAt_7 : decode cL_planAt 7 = .ok (.invokevirtual 90, 3) := by decide +kernel
theorem dL_planAt_15 : decode cL_planAt 15 = .ok (.astore 5, 2) := by decide +kernel
theorem dL_planAt_17 : decode cL_planAt 17 = .ok (.iconst 1, 1) := by decide +kernel
theorem dL_planAt_18 : decode cL_planAt 18 = .ok (.ireturn, 1) := by decide +kernel
set_option maxRecDepth 20000 in
theorem ggL_weave_X5_weave : GoodIn wsL_weave wsX5_weave := goodIn_ca (goodIn_ca (goodIn_ca (goodIn_r _ [7, 8, 9, 10, 11, 12, 13, 14, 15, 6, 16, 17, 18, 19, 20, 21, 22, 23, 24, 25, 26, 27, 28, 29, 30, 31, 32, 33, 34, 35, 36, 37, 38, 39, 40, 41, 42, 43, 44, 45, 46, 47, 48, 49, 50, 51, 52, 53, 54, 55, 56, 57, 58, 59, 60, 61, 62, 63, 64, 65, 66, 67, 68, 69, 70, 71, 72, 73, 74, 75, 76, 77, 78, 79, 80, 81, 82, 83, 84, 85, 86, 87, 88, 89, 90, 91, 92, 93, 94, 95, 96, 97, 98, 99, 100, 101, 102, 103, 104, 105, 106, 107, 108, 109, 110, 111, 112, 113, 114, 115, 116, 117, 118, 119, 120, 121, 122, 123, 124, 125, 126, 127, 128, 129, 130, 131, 132, 133, 134, 135, 136, 137, 138] (by decide +kernel) (by decide +kernel)) (goodIn_sub (fun _ h => List.mem_cons_of_mem _ (List.mem_append_left _ (List.mem_append_right _ h))) (by decide +kernel))) (goodIn_sub (fun _ h => List.mem_cons_of_mem _ (List.mem_append_right _ h)) (by decide +kernel))) (goodIn_sub (fun _ h => List.mem_cons_of_mem _ (List.mem_append_left _ (List.mem_append_left _ (List.mem_append_right _ h)))) (by decide +kernel))
set_option maxRecDepth 20000 in
theorem gL_weave_X5_weave : GoodIn wsL_weave (wsV RL 94 RX5 yX5_weave wsX5_weave) := goodIn_app (goodIn_of _ (by decide +kernel)) ggL_weave_X5_weave
theorem dL_weave_0 : decode cL_weave 0 = .ok (.aload_n 2, 1) := by decide +kernel
theorem dL_weave_1 : decode cL_weave 1 = .ok (.iconst 0, 1) := by decide +kernel
theorem dL_weave_2 : decode cL_weave 2 = .ok (.aload_n 0, 1) := by decide +kernel
theorem dL_weave_3 : decode cL_weave 3 = .ok (.iload_n 1, 1) := by decide +kernel
theorem dL_weave_4 : decode cL_weave 4 = .ok (.invokevirtual 94, 3) := by decide +kernel
theorem dL_weave_12 : decode cL_weave 12 = .ok (.astore_n 3, 1) := by decide +kernel
theorem dL_weave_13 : decode cL_weave 13 = .ok (.iconst 1, 1) := by decide +kernel
theorem dL_weave_14 : decode cL_weave 14 = .ok (.ireturn, 1) := by decide +kernel
theorem dL_weave_15 : decode cL_weave 15 = .ok (.astore_n 3, 1) := by decide +kernel
theorem dL_weave_16 : decode cL_weave 16 = .ok (.iconst 2, 1) := by decide +kernel
theorem dL_weave_17 : decode cL_weave 17 = .ok (.ireturn, 1) := by decide +kernel
set_option maxRecDepth 20000 in
theorem ggL_faultsOf_X5_faultsOf : GoodIn wsL_faultsOf wsX5_faultsOf := goodIn_ca (goodIn_ca (goodIn_r _ [6, 7, 8, 9, 5, 10, 11, 12, 13, 14, 15, 16, 17, 18, 19, 20, 21, 22, 23, 24, 25, 26, 27, 28, 29, 30, 31, 32, 33, 34, 35, 36, 37, 38, 39, 40, 41, 42, 43, 44, 45, 46, 47, 48, 49, 50, 51, 52, 53, 54, 55, 56, 57, 58, 59, 60, 61, 62, 63, 64, 65, 66, 67, 68, 69, 70, 71, 72, 73, 74, 75, 76, 77, 78, 79, 80, 81, 82, 83, 84, 85, 86, 87] (by decide +kernel) (by decide +kernel)) (goodIn_sub (fun _ h => List.mem_cons_of_mem _ (List.mem_append_right _ h)) (by decide +kernel))) (goodIn_sub (fun _ h => List.mem_cons_of_mem _ (List.mem_append_left _ (List.mem_append_right _ h))) (by decide +kernel))
set_option maxRecDepth 20000 in
theorem gL_faultsOf_X5_faultsOf : GoodIn wsL_faultsOf (wsV RL 97 RX5 yX5_faultsOf wsX5_faultsOf) := goodIn_app (goodIn_of _ (by decide +kernel)) ggL_faultsOf_X5_faultsOf
theorem dL_faultsOf_0 : decode cL_faultsOf 0 = .ok (.aload_n 2, 1) := by decide +kernel
theorem dL_faultsOf_1 : decode cL_faultsOf 1 = .ok (.iconst 0, 1) := by decide +kernel
theorem dL_faultsOf_2 : decode cL_faultsOf 2 = .ok (.aload_n 0, 1) := by decide +kernel
theorem dL_faultsOf_3 : decode cL_faultsOf 3 = .ok (.iload_n 1, 1) := by decide +kernel
theorem dL_faultsOf_4 : decode cL_faultsOf 4 = .ok (.invokevirtual 97, 3) := by decide +kernel
theorem dL_faultsOf_12 : decode cL_faultsOf 12 = .ok (.astore_n 3, 1) := by decide +kernel
theorem dL_faultsOf_13 : decode cL_faultsOf 13 = .ok (.iconst 1, 1) := by decide +kernel
theorem dL_faultsOf_14 : decode cL_faultsOf 14 = .ok (.ireturn, 1) := by decide +kernel
set_option maxRecDepth 20000 in
theorem ggL_firstFault_X5_firstFault : GoodIn wsL_firstFault wsX5_firstFault := goodIn_ca (goodIn_ca (goodIn_r _ [6, 7, 8, 9, 10, 11, 12, 13, 5, 14, 15, 16, 17, 18, 19, 20, 21, 22, 23, 24, 25, 26, 27, 28, 29, 30, 31, 32, 33, 34, 35, 36, 37, 38, 39, 40, 41, 42, 43, 44, 45, 46, 47, 48, 49, 50, 51, 52, 53, 54, 55, 56, 57, 58, 59, 60, 61, 62, 63, 64, 65, 66, 67, 68, 69, 70, 71, 72, 73, 74, 75, 76, 77, 78, 79, 80, 81, 82, 83] (by decide +kernel) (by decide +kernel)) (goodIn_sub (fun _ h => List.mem_cons_of_mem _ (List.mem_append_right _ h)) (by decide +kernel))) (goodIn_sub (fun _ h => List.mem_cons_of_mem _ (List.mem_append_left _ (List.mem_append_right _ h))) (by decide +kernel))
set_option maxRecDepth 20000 in
theorem gL_firstFault_X5_firstFault : GoodIn wsL_firstFault (wsV RL 100 RX5 yX5_firstFault wsX5_firstFault) := goodIn_app (goodIn_of _ (by decide +kernel)) ggL_firstFault_X5_firstFault
theorem dL_firstFault_0 : decode cL_firstFault 0 = .ok (.aload_n 1, 1) := by decide +kernel
theorem dL_firstFault_1 : decode cL_firstFault 1 = .ok (.iconst 0, 1) := by decide +kernel
theorem dL_firstFault_2 : decode cL_firstFault 2 = .ok (.aload_n 0, 1) := by decide +kernel
theorem dL_firstFault_3 : decode cL_firstFault 3 = .ok (.invokevirtual 100, 3) := by decide +kernel
theorem dL_firstFault_11 : decode cL_firstFault 11 = .ok (.astore_n 2, 1) := by decide +kernel
theorem dL_firstFault_12 : decode cL_firstFault 12 = .ok (.iconst 1, 1) := by decide +kernel
theorem dL_firstFault_13 : decode cL_firstFault 13 = .ok (.ireturn, 1) := by decide +kernel
set_option maxRecDepth 20000 in
theorem ggL_suspect_X5_suspect : GoodIn wsL_suspect wsX5_suspect := goodIn_ca (goodIn_ca (goodIn_r _ [6, 7, 8, 9, 10, 11, 12, 5, 13, 14, 15, 16, 17, 18, 19, 20, 21, 22, 23, 24, 25, 26, 27, 28, 29, 30, 31, 32, 33, 34, 35, 36, 37, 38, 39, 40, 41, 42, 43, 44, 45, 46, 47, 48, 49, 50, 51, 52, 53, 54, 55, 56, 57, 58, 59, 60, 61, 62, 63, 64, 65, 66, 67, 68, 69, 70, 71, 72, 73, 74, 75, 76, 77, 78, 79, 80, 81, 82, 83] (by decide +kernel) (by decide +kernel)) (goodIn_sub (fun _ h => List.mem_cons_of_mem _ (List.mem_append_right _ h)) (by decide +kernel))) (goodIn_sub (fun _ h => List.mem_cons_of_mem _ (List.mem_append_left _ (List.mem_append_right _ h))) (by decide +kernel))
set_option maxRecDepth 20000 in
theorem gL_suspect_X5_suspect : GoodIn wsL_suspect (wsV RL 103 RX5 yX5_suspect wsX5_suspect) := goodIn_app (goodIn_of _ (by decide +kernel)) ggL_suspect_X5_suspect
theorem dL_suspect_0 : decode cL_suspect 0 = .ok (.aload_n 1, 1) := by decide +kernel
theorem dL_suspect_1 : decode cL_suspect 1 = .ok (.iconst 0, 1) := by decide +kernel
theorem dL_suspect_2 : decode cL_suspect 2 = .ok (.aload_n 0, 1) := by decide +kernel
theorem dL_suspect_3 : decode cL_suspect 3 = .ok (.invokevirtual 103, 3) := by decide +kernel
theorem dL_suspect_11 : decode cL_suspect 11 = .ok (.astore_n 2, 1) := by decide +kernel
theorem dL_suspect_12 : decode cL_suspect 12 = .ok (.iconst 1, 1) := by decide +kernel
theorem dL_suspect_13 : decode cL_suspect 13 = .ok (.ireturn, 1) := by decide +kernel
set_option maxRecDepth 20000 in
theorem ggL_ways_X5_ways : GoodIn wsL_ways wsX5_ways := goodIn_ca (goodIn_ca (goodIn_ca (goodIn_r _ [7, 8, 9, 10, 11, 12, 13, 14, 6, 15, 16, 17, 18, 19, 20, 21, 22, 23, 24, 25, 26, 27, 28, 29, 30, 31, 32, 33, 34, 35, 36, 37, 38, 39, 40, 41, 42, 43, 44, 45, 46, 47, 48, 49, 50, 51, 52, 53, 54, 55, 56, 57, 58, 59, 60, 61, 62, 63, 64, 65, 66, 67, 68, 69, 70, 71, 72, 73, 74] (by decide +kernel) (by decide +kernel)) (goodIn_sub (fun _ h => List.mem_cons_of_mem _ (List.mem_append_left _ (List.mem_append_right _ h))) (by decide +kernel))) (goodIn_sub (fun _ h => List.mem_cons_of_mem _ (List.mem_append_right _ h)) (by decide +kernel))) (goodIn_sub (fun _ h => List.mem_cons_of_mem _ (List.mem_append_left _ (List.mem_append_left _ (List.mem_append_right _ h)))) (by decide +kernel))
set_option maxRecDepth 20000 in
theorem gL_ways_X5_ways : GoodIn wsL_ways (wsV RL 106 RX5 yX5_ways wsX5_ways) := goodIn_app (goodIn_of _ (by decide +kernel)) ggL_ways_X5_ways
theorem dL_ways_0 : decode cL_ways 0 = .ok (.aload 5, 2) := by decide +kernel
theorem dL_ways_2 : decode cL_ways 2 = .ok (.iconst 0, 1) := by decide +kernel
theorem dL_ways_3 : decode cL_ways 3 = .ok (.aload_n 0, 1) := by decide +kernel
theorem dL_ways_4 : decode cL_ways 4 = .ok (.iload_n 1, 1) := by decide +kernel
theorem dL_ways_5 : decode cL_ways 5 = .ok (.iload_n 2, 1) := by decide +kernel
theorem dL_ways_6 : decode cL_ways 6 = .ok (.iload_n 3, 1) := by decide +kernel
theorem dL_ways_7 : decode cL_ways 7 = .ok (.iload 4, 2) := by decide +kernel
theorem dL_ways_9 : decode cL_ways 9 = .ok (.invokevirtual 106, 3) := by decide +kernel
theorem dL_ways_16 : decode cL_ways 16 = .ok (.astore 6, 2) := by decide +kernel
theorem dL_ways_18 : decode cL_ways 18 = .ok (.iconst 1, 1) := by decide +kernel
theorem dL_ways_19 : decode cL_ways 19 = .ok (.ireturn, 1) := by decide +kernel
set_option maxRecDepth 20000 in
theorem ggL_yarn_X5_yarn : GoodIn wsL_yarn wsX5_yarn := goodIn_ca (goodIn_ca (goodIn_r _ [6, 7, 8, 5, 9, 10, 11, 12, 13, 14, 15, 16, 17, 18, 19, 20, 21, 22, 23, 24, 25, 26, 27, 28, 29, 30, 31, 32, 33, 34, 35, 36, 37, 38, 39, 40, 41, 42, 43, 44, 45, 46, 47, 48, 49, 50, 51, 52] (by decide +kernel) (by decide +kernel)) (goodIn_sub (fun _ h => List.mem_cons_of_mem _ (List.mem_append_right _ h)) (by decide +kernel))) (goodIn_sub (fun _ h => List.mem_cons_of_mem _ (List.mem_append_left _ (List.mem_append_right _ h))) (by decide +kernel))
set_option maxRecDepth 20000 in
theorem gL_yarn_X5_yarn : GoodIn wsL_yarn (wsV RL 110 RX5 yX5_yarn wsX5_yarn) := goodIn_app (goodIn_of _ (by decide +kernel)) ggL_yarn_X5_yarn
theorem dL_yarn_0 : decode cL_yarn 0 = .ok (.aload_n 2, 1) := by decide +kernel
theorem dL_yarn_1 : decode cL_yarn 1 = .ok (.iconst 0, 1) := by decide +kernel
theorem dL_yarn_2 : decode cL_yarn 2 = .ok (.aload_n 0, 1) := by decide +kernel
theorem dL_yarn_3 : decode cL_yarn 3 = .ok (.iload_n 1, 1) := by decide +kernel
theorem dL_yarn_4 : decode cL_yarn 4 = .ok (.invokevirtual 110, 3) := by decide +kernel
theorem dL_yarn_7 : decode cL_yarn 7 = .ok (.i2l, 1) := by decide +kernel
theorem dL_yarn_8 : decode cL_yarn 8 = .ok (.lastore, 1) := by decide +kernel
theorem dL_yarn_9 : decode cL_yarn 9 = .ok (.goto 6, 3) := by decide +kernel
theorem dL_yarn_12 : decode cL_yarn 12 = .ok (.astore_n 3, 1) := by decide +kernel
theorem dL_yarn_13 : decode cL_yarn 13 = .ok (.iconst 1, 1) := by decide +kernel
theorem dL_yarn_14 : decode cL_yarn 14 = .ok (.ireturn, 1) := by decide +kernel
theorem dL_yarn_15 : decode cL_yarn 15 = .ok (.iconst 0, 1) := by decide +kernel
theorem dL_yarn_16 : decode cL_yarn 16 = .ok (.ireturn, 1) := by decide +kernel
set_option maxRecDepth 20000 in
theorem ggL_weaver_X5_weaver : GoodIn wsL_weaver wsX5_weaver := goodIn_ca (goodIn_ca (goodIn_ca (goodIn_r _ [7, 8, 9, 10, 11, 12, 13, 14, 15, 16, 17, 18, 19, 20, 21, 22, 23, 24, 25, 26] (by decide +kernel) (by decide +kernel)) (goodIn_sub (fun _ h => List.mem_cons_of_mem _ (List.mem_append_left _ (List.mem_append_right _ h))) (by decide +kernel))) (goodIn_sub (fun _ h => List.mem_cons_of_mem _ (List.mem_append_right _ h)) (by decide +kernel))) (goodIn_sub (fun _ h => List.mem_cons_of_mem _ (List.mem_append_left _ (List.mem_append_left _ (List.mem_append_right _ h)))) (by decide +kernel))
set_option maxRecDepth 20000 in
theorem gL_weaver_X5_weaver : GoodIn wsL_weaver (wsV RL 113 RX5 yX5_weaver wsX5_weaver) := goodIn_app (goodIn_of _ (by decide +kernel)) ggL_weaver_X5_weaver
theorem dL_weaver_0 : decode cL_weaver 0 = .ok (.aload_n 2, 1) := by decide +kernel
theorem dL_weaver_1 : decode cL_weaver 1 = .ok (.iconst 0, 1) := by decide +kernel
theorem dL_weaver_2 : decode cL_weaver 2 = .ok (.aload_n 0, 1) := by decide +kernel
theorem dL_weaver_3 : decode cL_weaver 3 = .ok (.iload_n 1, 1) := by decide +kernel
theorem dL_weaver_4 : decode cL_weaver 4 = .ok (.invokevirtual 113, 3) := by decide +kernel
theorem dL_weaver_7 : decode cL_weaver 7 = .ok (.i2l, 1) := by decide +kernel
theorem dL_weaver_8 : decode cL_weaver 8 = .ok (.lastore, 1) := by decide +kernel
theorem dL_weaver_9 : decode cL_weaver 9 = .ok (.goto 9, 3) := by decide +kernel
theorem dL_weaver_12 : decode cL_weaver 12 = .ok (.astore_n 3, 1) := by decide +kernel
theorem dL_weaver_13 : decode cL_weaver 13 = .ok (.iconst 1, 1) := by decide +kernel
theorem dL_weaver_14 : decode cL_weaver 14 = .ok (.ireturn, 1) := by decide +kernel
theorem dL_weaver_18 : decode cL_weaver 18 = .ok (.iconst 0, 1) := by decide +kernel
theorem dL_weaver_19 : decode cL_weaver 19 = .ok (.ireturn, 1) := by decide +kernel
set_option maxRecDepth 20000 in
theorem ggL_hand_X5_hand : GoodIn wsL_hand wsX5_hand := goodIn_ca (goodIn_ca (goodIn_r _ [6, 7, 8, 9, 10, 11, 12, 13, 14, 15, 16, 17, 18, 19, 5, 20, 21, 22, 23, 24, 25, 26, 27, 28, 29, 30, 31, 32, 33, 34, 35, 36, 37, 38, 39, 40, 41, 42, 43, 44, 45, 46, 47, 48, 49, 50, 51, 52, 53, 54, 55, 56, 57, 58, 59, 60, 61, 62, 63, 64, 65, 66, 67, 68, 69, 70, 71, 72, 73, 74, 75, 76, 77, 78, 79, 80, 81, 82, 83, 84, 85, 86, 87, 88, 89, 90, 91, 92, 93, 94] (by decide +kernel) (by decide +kernel)) (goodIn_sub (fun _ h => List.mem_cons_of_mem _ (List.mem_append_right _ h)) (by decide +kernel))) (goodIn_sub (fun _ h => List.mem_cons_of_mem _ (List.mem_append_left _ (List.mem_append_right _ h))) (by decide +kernel))
set_option maxRecDepth 20000 in
theorem gL_hand_X5_hand : GoodIn wsL_hand (wsV RL 116 RX5 yX5_hand wsX5_hand) := goodIn_app (goodIn_of _ (by decide +kernel)) ggL_hand_X5_hand
theorem dL_hand_0 : decode cL_hand 0 = .ok (.aload_n 1, 1) := by decide +kernel
theorem dL_hand_1 : decode cL_hand 1 = .ok (.iconst 0, 1) := by decide +kernel
theorem dL_hand_2 : decode cL_hand 2 = .ok (.aload_n 0, 1) := by decide +kernel
theorem dL_hand_3 : decode cL_hand 3 = .ok (.invokevirtual 116, 3) := by decide +kernel
theorem dL_hand_11 : decode cL_hand 11 = .ok (.astore_n 2, 1) := by decide +kernel
theorem dL_hand_12 : decode cL_hand 12 = .ok (.iconst 1, 1) := by decide +kernel
theorem dL_hand_13 : decode cL_hand 13 = .ok (.ireturn, 1) := by decide +kernel
set_option maxRecDepth 20000 in
theorem ggL_order_X5_order : GoodIn wsL_order wsX5_order := goodIn_ca (goodIn_ca (goodIn_ca (goodIn_r _ [7, 8, 9, 10, 11, 12, 13, 14, 15, 16, 17, 18, 19, 20, 21, 22, 23, 24, 25, 26, 27, 28, 29, 30, 31, 32, 33, 34, 35, 36, 37, 38] (by decide +kernel) (by decide +kernel)) (goodIn_sub (fun _ h => List.mem_cons_of_mem _ (List.mem_append_left _ (List.mem_append_right _ h))) (by decide +kernel))) (goodIn_sub (fun _ h => List.mem_cons_of_mem _ (List.mem_append_right _ h)) (by decide +kernel))) (goodIn_sub (fun _ h => List.mem_cons_of_mem _ (List.mem_append_left _ (List.mem_append_left _ (List.mem_append_right _ h)))) (by decide +kernel))
set_option maxRecDepth 20000 in
theorem gL_order_X5_order : GoodIn wsL_order (wsV RL 119 RX5 yX5_order wsX5_order) := goodIn_app (goodIn_of _ (by decide +kernel)) ggL_order_X5_order
theorem dL_order_0 : decode cL_order 0 = .ok (.aload 4, 2) := by decide +kernel
theorem dL_order_2 : decode cL_order 2 = .ok (.iconst 0, 1) := by decide +kernel
theorem dL_order_3 : decode cL_order 3 = .ok (.aload_n 0, 1) := by decide +kernel
theorem dL_order_4 : decode cL_order 4 = .ok (.iload_n 1, 1) := by decide +kernel
theorem dL_order_5 : decode cL_order 5 = .ok (.iload_n 2, 1) := by decide +kernel
theorem dL_order_6 : decode cL_order 6 = .ok (.iload_n 3, 1) := by decide +kernel
theorem dL_order_7 : decode cL_order 7 = .ok (.invokevirtual 119, 3) := by decide +kernel
theorem dL_order_10 : decode cL_order 10 = .ok (.i2l, 1) := by decide +kernel
theorem dL_order_11 : decode cL_order 11 = .ok (.lastore, 1) := by decide +kernel
theorem dL_order_12 : decode cL_order 12 = .ok (.goto 11, 3) := by decide +kernel
theorem dL_order_15 : decode cL_order 15 = .ok (.astore 5, 2) := by decide +kernel
theorem dL_order_17 : decode cL_order 17 = .ok (.iconst 1, 1) := by decide +kernel
theorem dL_order_18 : decode cL_order 18 = .ok (.ireturn, 1) := by decide +kernel
theorem dL_order_23 : decode cL_order 23 = .ok (.iconst 0, 1) := by decide +kernel
theorem dL_order_24 : decode cL_order 24 = .ok (.ireturn, 1) := by decide +kernel
set_option maxRecDepth 20000 in
theorem ggL_readyOn_X5_readyOn : GoodIn wsL_readyOn wsX5_readyOn := goodIn_ca (goodIn_ca (goodIn_r _ [6, 7, 8, 9, 10, 11, 12, 13, 14, 15, 16, 17, 18, 19, 20, 21, 22, 23, 24, 25, 26, 27, 28, 29, 30, 31, 32, 33, 34] (by decide +kernel) (by decide +kernel)) (goodIn_sub (fun _ h => List.mem_cons_of_mem _ (List.mem_append_right _ h)) (by decide +kernel))) (goodIn_sub (fun _ h => List.mem_cons_of_mem _ (List.mem_append_left _ (List.mem_append_right _ h))) (by decide +kernel))
set_option maxRecDepth 20000 in
theorem gL_readyOn_X5_readyOn : GoodIn wsL_readyOn (wsV RL 123 RX5 yX5_readyOn wsX5_readyOn) := goodIn_app (goodIn_of _ (by decide +kernel)) ggL_readyOn_X5_readyOn
theorem dL_readyOn_0 : decode cL_readyOn 0 = .ok (.aload_n 2, 1) := by decide +kernel
theorem dL_readyOn_1 : decode cL_readyOn 1 = .ok (.iconst 0, 1) := by decide +kernel
theorem dL_readyOn_2 : decode cL_readyOn 2 = .ok (.aload_n 0, 1) := by decide +kernel
theorem dL_readyOn_3 : decode cL_readyOn 3 = .ok (.iload_n 1, 1) := by decide +kernel
theorem dL_readyOn_4 : decode cL_readyOn 4 = .ok (.invokevirtual 123, 3) := by decide +kernel
theorem dL_readyOn_12 : decode cL_readyOn 12 = .ok (.astore_n 3, 1) := by decide +kernel
theorem dL_readyOn_13 : decode cL_readyOn 13 = .ok (.iconst 1, 1) := by decide +kernel
theorem dL_readyOn_14 : decode cL_readyOn 14 = .ok (.ireturn, 1) := by decide +kernel
set_option maxRecDepth 20000 in
theorem ggL_rightShare_X5_rightShare : GoodIn wsL_rightShare wsX5_rightShare := goodIn_ca (goodIn_ca (goodIn_r _ [6, 7, 8, 9, 10, 11, 12, 13, 5, 14, 15, 16, 17, 18, 19, 20, 21, 22, 23, 24, 25, 26, 27, 28, 29, 30, 31, 32, 33, 34, 35, 36, 37, 38, 39, 40, 41, 42, 43, 44, 45, 46, 47, 48, 49, 50, 51, 52, 53, 54, 55, 56, 57, 58, 59, 60, 61, 62, 63, 64, 65, 66, 67, 68, 69, 70, 71, 72, 73, 74, 75, 76, 77, 78, 79, 80, 81, 82, 83] (by decide +kernel) (by decide +kernel)) (goodIn_sub (fun _ h => List.mem_cons_of_mem _ (List.mem_append_right _ h)) (by decide +kernel))) (goodIn_sub (fun _ h => List.mem_cons_of_mem _ (List.mem_append_left _ (List.mem_append_right _ h))) (by decide +kernel))
set_option maxRecDepth 20000 in
theorem gL_rightShare_X5_rightShare : GoodIn wsL_rightShare (wsV RL 126 RX5 yX5_rightShare wsX5_rightShare) := goodIn_app (goodIn_of _ (by decide +kernel)) ggL_rightShare_X5_rightShare
theorem dL_rightShare_0 : decode cL_rightShare 0 = .ok (.aload_n 1, 1) := by decide +kernel
theorem dL_rightShare_1 : decode cL_rightShare 1 = .ok (.iconst 0, 1) := by decide +kernel
theorem dL_rightShare_2 : decode cL_rightShare 2 = .ok (.aload_n 0, 1) := by decide +kernel
theorem dL_rightShare_3 : decode cL_rightShare 3 = .ok (.invokevirtual 126, 3) := by decide +kernel
theorem dL_rightShare_11 : decode cL_rightShare 11 = .ok (.astore_n 2, 1) := by decide +kernel
theorem dL_rightShare_12 : decode cL_rightShare 12 = .ok (.iconst 1, 1) := by decide +kernel
theorem dL_rightShare_13 : decode cL_rightShare 13 = .ok (.ireturn, 1) := by decide +kernel
set_option maxRecDepth 20000 in
theorem ggL_meanTwist_X5_meanTwist : GoodIn wsL_meanTwist wsX5_meanTwist := goodIn_ca (goodIn_r _ [6, 7, 8, 9, 10, 11, 12, 13, 14, 15, 16, 17, 18, 19, 20, 21, 22, 23, 24, 25, 26, 27, 28, 29, 30] (by decide +kernel) (by decide +kernel)) (goodIn_sub (fun _ h => List.mem_cons_of_mem _ (List.mem_append_right _ h)) (by decide +kernel))
set_option maxRecDepth 20000 in
theorem gL_meanTwist_X5_meanTwist : GoodIn wsL_meanTwist (wsV RL 132 RX5 yX5_meanTwist wsX5_meanTwist) := goodIn_app (goodIn_of _ (by decide +kernel)) ggL_meanTwist_X5_meanTwist
theorem dL_meanTwist_0 : decode cL_meanTwist 0 = .ok (.aload_n 1, 1) := by decide +kernel
theorem dL_meanTwist_1 : decode cL_meanTwist 1 = .ok (.iconst 0, 1) := by decide +kernel
theorem dL_meanTwist_2 : decode cL_meanTwist 2 = .ok (.aload_n 0, 1) := by decide +kernel
theorem dL_meanTwist_3 : decode cL_meanTwist 3 = .ok (.invokevirtual 132, 3) := by decide +kernel
theorem dL_meanTwist_10 : decode cL_meanTwist 10 = .ok (.astore_n 2, 1) := by decide +kernel
theorem dL_meanTwist_11 : decode cL_meanTwist 11 = .ok (.iconst 1, 1) := by decide +kernel
theorem dL_meanTwist_12 : decode cL_meanTwist 12 = .ok (.ireturn, 1) := by decide +kernel
abbrev vwCl : List vw_C := [(RJ0, TJ0, 4), (RJ4, TJ4, 4), (RJ6, TJ6, 1), (RJx00060, TJx00060, 6), (RJx35411, TJx35411, 4), (RJx4a65c, TJx4a65c, 3), (RX0, TX0, 5), (RX1, TX1, 7), (RX2, TX2, 2), (RX3, TX3, 2), (RX4, TX4, 7), (RX5, TX5, 13), (RX6, TX6, 5), (RX7, TX7, 5), (RX8, TX8, 9)]
