theorem dL_add_0 : decode cL_add 0 = .ok (.aload 7, 2) := by decide +kernel
theorem dL_add_2 : decode cL_add 2 = .ok (.iconst 0, 1) := by decide +kernel
theorem dL_add_3 : decode cL_add 3 = .ok (.aload_n 0, 1) := by decide +kernel
theorem dL_add_4 : decode cL_add 4 = .ok (.iload_n 1, 1) := by decide +kernel
theorem dL_add_5 : decode cL_add 5 = .ok (.iload_n 2, 1) := by decide +kernel
theorem dL_add_6 : decode cL_add 6 = .ok (.iload_n 3, 1) := by decide +kernel
theorem dL_add_7 : decode cL_add 7 = .ok (.iload 4, 2) := by decide +kernel
theorem dL_add_9 : decode cL_add 9 = .ok (.iload 5, 2) := by decide +kernel
theorem dL_add_11 : decode cL_add 11 = .ok (.iload 6, 2) := by decide +kernel
theorem dL_add_13 : decode cL_add 13 = .ok (.invokevirtual 7, 3) := by decide +kernel
theorem dL_add_16 : decode cL_add 16 = .ok (.i2l, 1) := by decide +kernel
theorem dL_add_17 : decode cL_add 17 = .ok (.lastore, 1) := by decide +kernel
theorem dL_add_18 : decode cL_add 18 = .ok (.goto 15, 3) := by decide +kernel
theorem dL_add_21 : decode cL_add 21 = .ok (.astore 8, 2) := by decide +kernel
theorem dL_add_23 : decode cL_add 23 = .ok (.iconst 1, 1) := by decide +kernel
theorem dL_add_24 : decode cL_add 24 = .ok (.ireturn, 1) := by decide +kernel
theorem dL_add_25 : decode cL_add 25 = .ok (.astore 8, 2) := by decide +kernel
theorem dL_add_27 : decode cL_add 27 = .ok (.iconst 2, 1) := by decide +kernel
theorem dL_add_28 : decode cL_add 28 = .ok (.ireturn, 1) := by decide +kernel
theorem dL_add_29 : decode cL_add 29 = .ok (.astore 8, 2) := by decide +kernel
theorem dL_add_31 : decode cL_add 31 = .ok (.iconst 3, 1) := by decide +kernel
theorem dL_add_32 : decode cL_add 32 = .ok (.ireturn, 1) := by decide +kernel
theorem dL_add_33 : decode cL_add 33 = .ok (.iconst 0, 1) := by decide +kernel
theorem dL_add_34 : decode cL_add 34 = .ok (.ireturn, 1) := by decide +kernel
set_option maxRecDepth 20000 in
theorem ggL_move_X1_move : GoodIn wsL_move wsX1_move := goodIn_ca (goodIn_ca (goodIn_ca (goodIn_r _ [8, 9, 10, 11, 12, 13, 14, 15, 16, 17, 18, 7, 19, 20, 21, 22, 23, 24, 25, 26, 27, 28, 29, 30, 31, 32, 33, 34, 35, 36, 37, 38, 39, 40, 41, 42, 43, 44, 45, 46, 47, 48, 49, 50, 51, 52, 53, 54, 55, 56, 57, 58, 59, 60, 61, 62, 63, 64, 65, 66, 67, 68, 69, 70, 71, 72, 73, 74, 75, 76] (by decide +kernel) (by decide +kernel)) (goodIn_sub (fun _ h => List.mem_cons_of_mem _ (List.mem_append_left _ (List.mem_append_left _ (List.mem_append_right _ h)))) (by decide +kernel))) (goodIn_sub (fun _ h => List.mem_cons_of_mem _ (List.mem_append_left _ (List.mem_append_right _ h))) (by decide +kernel))) (goodIn_sub (fun _ h => List.mem_cons_of_mem _ (List.mem_append_right _ h)) (by decide +kernel))
set_option maxRecDepth 20000 in
theorem gL_move_X1_move : GoodIn wsL_move (wsV RL 19 RX1 yX1_move wsX1_move) := goodIn_app (goodIn_of _ (by decide +kernel)) ggL_move_X1_move
theorem dL_move_0 : decode cL_move 0 = .ok (.aload 6, 2) := by decide +kernel
theorem dL_move_2 : decode cL_move 2 = .ok (.iconst 0, 1) := by decide +kernel
theorem dL_move_3 : decode cL_move 3 = .ok (.aload_n 0, 1) := by decide +kernel
theorem dL_move_4 : decode cL_move 4 = .ok (.iload_n 1, 1) := by decide +kernel
theorem dL_move_5 : decode cL_move 5 = .ok (.iload_n 2, 1) := by decide +kernel
theorem dL_move_6 : decode cL_move 6 = .ok (.iload_n 3, 1) := by decide +kernel
theorem dL_move_7 : decode cL_move 7 = .ok (.iload 4, 2) := by decide +kernel
theorem dL_move_9 : decode cL_move 9 = .ok (.iload 5, 2) := by decide +kernel
theorem dL_move_11 : decode cL_move 11 = .ok (.invokevirtual 19, 3) := by decide +kernel
theorem dL_move_14 : decode cL_move 14 = .ok (.ifCond .eq 7, 3) := by decide +kernel
theorem dL_move_17 : decode cL_move 17 = .ok (.lconst 1, 1) := by decide +kernel
theorem dL_move_18 : decode cL_move 18 = .ok (.goto 4, 3) := by decide +kernel
theorem dL_move_21 : decode cL_move 21 = .ok (.lconst 0, 1) := by decide +kernel
theorem dL_move_22 : decode cL_move 22 = .ok (.lastore, 1) := by decide +kernel
theorem dL_move_23 : decode cL_move 23 = .ok (.goto 15, 3) := by decide +kernel
theorem dL_move_26 : decode cL_move 26 = .ok (.astore 7, 2) := by decide +kernel
theorem dL_move_28 : decode cL_move 28 = .ok (.iconst 1, 1) := by decide +kernel
theorem dL_move_29 : decode cL_move 29 = .ok (.ireturn, 1) := by decide +kernel
theorem dL_move_30 : decode cL_move 30 = .ok (.astore 7, 2) := by decide +kernel
theorem dL_move_32 : decode cL_move 32 = .ok (.iconst 2, 1) := by decide +kernel
theorem dL_move_33 : decode cL_move 33 = .ok (.ireturn, 1) := by decide +kernel
theorem dL_move_34 : decode cL_move 34 = .ok (.astore 7, 2) := by decide +kernel
theorem dL_move_36 : decode cL_move 36 = .ok (.iconst 3, 1) := by decide +kernel
theorem dL_move_37 : decode cL_move 37 = .ok (.ireturn, 1) := by decide +kernel
theorem dL_move_38 : decode cL_move 38 = .ok (.iconst 0, 1) := by decide +kernel
theorem dL_move_39 : decode cL_move 39 = .ok (.ireturn, 1) := by decide +kernel
set_option maxRecDepth 20000 in
theorem ggL_remove_X1_remove : GoodIn wsL_remove wsX1_remove := goodIn_ca (goodIn_ca (goodIn_ca (goodIn_r _ [8, 9, 10, 11, 12, 13, 14, 15, 16, 17, 18, 7, 19, 20, 21, 22, 23, 24, 25, 26, 27, 28, 29, 30, 31, 32, 33, 34, 35, 36, 37, 38, 39, 40, 41, 42, 43, 44, 45, 46, 47, 48, 49, 50, 51, 52, 53, 54, 55] (by decide +kernel) (by decide +kernel)) (goodIn_sub (fun _ h => List.mem_cons_of_mem _ (List.mem_append_left _ (List.mem_append_left _ (List.mem_append_right _ h)))) (by decide +kernel))) (goodIn_sub (fun _ h => List.mem_cons_of_mem _ (List.mem_append_left _ (List.mem_append_right _ h))) (by decide +kernel))) (goodIn_sub (fun _ h => List.mem_cons_of_mem _ (List.mem_append_right _ h)) (by decide +kernel))
set_option maxRecDepth 20000 in
theorem gL_remove_X1_remove : GoodIn wsL_remove (wsV RL 23 RX1 yX1_remove wsX1_remove) := goodIn_app (goodIn_of _ (by decide +kernel)) ggL_remove_X1_remove
theorem dL_remove_0 : decode cL_remove 0 = .ok (.aload 4, 2) := by decide +kernel
theorem dL_remove_2 : decode cL_remove 2 = .ok (.iconst 0, 1) := by decide +kernel
theorem dL_remove_3 : decode cL_remove 3 = .ok (.aload_n 0, 1) := by decide +kernel
theorem dL_remove_4 : decode cL_remove 4 = .ok (.iload_n 1, 1) := by decide +kernel
theorem dL_remove_5 : decode cL_remove 5 = .ok (.iload_n 2, 1) := by decide +kernel
theorem dL_remove_6 : decode cL_remove 6 = .ok (.iload_n 3, 1) := by decide +kernel
theorem dL_remove_7 : decode cL_remove 7 = .ok (.invokevirtual 23, 3) := by decide +kernel
theorem dL_remove_10 : decode cL_remove 10 = .ok (.ifCond .eq 7, 3) := by decide +kernel
theorem dL_remove_13 : decode cL_remove 13 = .ok (.lconst 1, 1) := by decide +kernel
theorem dL_remove_14 : decode cL_remove 14 = .ok (.goto 4, 3) := by decide +kernel
theorem dL_remove_17 : decode cL_remove 17 = .ok (.lconst 0, 1) := by decide +kernel
theorem dL_remove_18 : decode cL_remove 18 = .ok (.lastore, 1) := by decide +kernel
theorem dL_remove_19 : decode cL_remove 19 = .ok (.goto 15, 3) := by decide +kernel
theorem dL_remove_22 : decode cL_remove 22 = .ok (.astore 5, 2) := by decide +kernel
theorem dL_remove_24 : decode cL_remove 24 = .ok (.iconst 1, 1) := by decide +kernel
theorem dL_remove_25 : decode cL_remove 25 = .ok (.ireturn, 1) := by decide +kernel
theorem dL_remove_26 : decode cL_remove 26 = .ok (.astore 5, 2) := by decide +kernel
theorem dL_remove_28 : decode cL_remove 28 = .ok (.iconst 2, 1) := by decide +kernel
theorem dL_remove_29 : decode cL_remove 29 = .ok (.ireturn, 1) := by decide +kernel
theorem dL_remove_30 : decode cL_remove 30 = .ok (.astore 5, 2) := by decide +kernel
theorem dL_remove_32 : decode cL_remove 32 = .ok (.iconst 3, 1) := by decide +kernel
theorem dL_remove_33 : decode cL_remove 33 = .ok (.ireturn, 1) := by decide +kernel
theorem dL_remove_34 : decode cL_remove 34 = .ok (.iconst 0, 1) := by decide +kernel
theorem dL_remove_35 : decode cL_remove 35 = .ok (.ireturn, 1) := by decide +kernel
set_option maxRecDepth 20000 in
theorem ggL_clear_X1_clear : GoodIn wsL_clear wsX1_clear := goodIn_ca (goodIn_ca (goodIn_r _ [7, 8, 9, 10, 11, 12, 13, 14, 6, 15, 16, 17, 18, 19, 20, 21, 22, 23, 24, 25, 26] (by decide +kernel) (by decide +kernel)) (goodIn_sub (fun _ h => List.mem_cons_of_mem _ (List.mem_append_left _ (List.mem_append_right _ h))) (by decide +kernel))) (goodIn_sub (fun _ h => List.mem_cons_of_mem _ (List.mem_append_right _ h)) (by decide +kernel))
set_option maxRecDepth 20000 in
theorem gL_clear_X1_clear : GoodIn wsL_clear (wsV RL 27 RX1 yX1_clear wsX1_clear) := goodIn_app (goodIn_of _ (by decide +kernel)) ggL_clear_X1_clear
theorem dL_clear_0 : decode cL_clear 0 = .ok (.aload 4, 2) := by decide +kernel
theorem dL_clear_2 : decode cL_clear 2 = .ok (.iconst 0, 1) := by decide +kernel
theorem dL_clear_3 : decode cL_clear 3 = .ok (.aload_n 0, 1) := by decide +kernel
theorem dL_clear_4 : decode cL_clear 4 = .ok (.iload_n 1, 1) := by decide +kernel
theorem dL_clear_5 : decode cL_clear 5 = .ok (.iload_n 2, 1) := by decide +kernel
theorem dL_clear_6 : decode cL_clear 6 = .ok (.iload_n 3, 1) := by decide +kernel
theorem dL_clear_7 : decode cL_clear 7 = .ok (.invokevirtual 27, 3) := by decide +kernel
theorem dL_clear_10 : decode cL_clear 10 = .ok (.i2l, 1) := by decide +kernel
theorem dL_clear_11 : decode cL_clear 11 = .ok (.lastore, 1) := by decide +kernel
theorem dL_clear_12 : decode cL_clear 12 = .ok (.goto 11, 3) := by decide +kernel
theorem dL_clear_15 : decode cL_clear 15 = .ok (.astore 5, 2) := by decide +kernel
theorem dL_clear_17 : decode cL_clear 17 = .ok (.iconst 1, 1) := by decide +kernel
theorem dL_clear_18 : decode cL_clear 18 = .ok (.ireturn, 1) := by decide +kernel
theorem dL_clear_19 : decode cL_clear 19 = .ok (.astore 5, 2) := by decide +kernel
theorem dL_clear_21 : decode cL_clear 21 = .ok (.iconst 2, 1) := by decide +kernel
theorem dL_clear_22 : decode cL_clear 22 = .ok (.ireturn, 1) := by decide +kernel
theorem dL_clear_23 : decode cL_clear 23 = .ok (.iconst 0, 1) := by decide +kernel
theorem dL_clear_24 : decode cL_clear 24 = .ok (.ireturn, 1) := by decide +kernel
set_option maxRecDepth 20000 in
theorem ggL_part_X1_part : GoodIn wsL_part wsX1_part := goodIn_ca (goodIn_ca (goodIn_r _ [7, 8, 9, 10, 11, 12, 13, 14, 6, 15, 16, 17, 18, 19, 20, 21, 22, 23, 24, 25, 26] (by decide +kernel) (by decide +kernel)) (goodIn_sub (fun _ h => List.mem_cons_of_mem _ (List.mem_append_left _ (List.mem_append_right _ h))) (by decide +kernel))) (goodIn_sub (fun _ h => List.mem_cons_of_mem _ (List.mem_append_right _ h)) (by decide +kernel))
set_option maxRecDepth 20000 in
theorem gL_part_X1_part : GoodIn wsL_part (wsV RL 31 RX1 yX1_part wsX1_part) := goodIn_app (goodIn_of _ (by decide +kernel)) ggL_part_X1_part
theorem dL_part_0 : decode cL_part 0 = .ok (.aload_n 3, 1) := by decide +kernel
theorem dL_part_1 : decode cL_part 1 = .ok (.iconst 0, 1) := by decide +kernel
theorem dL_part_2 : decode cL_part 2 = .ok (.aload_n 0, 1) := by decide +kernel
theorem dL_part_3 : decode cL_part 3 = .ok (.iload_n 1, 1) := by decide +kernel
theorem dL_part_4 : decode cL_part 4 = .ok (.iload_n 2, 1) := by decide +kernel
theorem dL_part_5 : decode cL_part 5 = .ok (.invokevirtual 31, 3) := by decide +kernel
theorem dL_part_8 : decode cL_part 8 = .ok (.i2l, 1) := by decide +kernel
theorem dL_part_9 : decode cL_part 9 = .ok (.lastore, 1) := by decide +kernel
theorem dL_part_10 : decode cL_part 10 = .ok (.goto 11, 3) := by decide +kernel
theorem dL_part_13 : decode cL_part 13 = .ok (.astore 4, 2) := by decide +kernel
theorem dL_part_15 : decode cL_part 15 = .ok (.iconst 1, 1) := by decide +kernel
theorem dL_part_16 : decode cL_part 16 = .ok (.ireturn, 1) := by decide +kernel
theorem dL_part_17 : decode cL_part 17 = .ok (.astore 4, 2) := by decide +kernel
theorem dL_part_19 : decode cL_part 19 = .ok (.iconst 2, 1) := by decide +kernel
theorem dL_part_20 : decode cL_part 20 = .ok (.ireturn, 1) := by decide +kernel
theorem dL_part_21 : decode cL_part 21 = .ok (.iconst 0, 1) := by decide +kernel
theorem dL_part_22 : decode cL_part 22 = .ok (.ireturn, 1) := by decide +kernel
set_option maxRecDepth 20000 in
theorem ggL_lead_X1_lead : GoodIn wsL_lead wsX1_lead := goodIn_ca (goodIn_ca (goodIn_r _ [7, 8, 9, 10, 11, 12, 13, 14, 6, 15, 16, 17, 18, 19, 20, 21, 22, 23, 24, 25, 26] (by decide +kernel) (by decide +kernel)) (goodIn_sub (fun _ h => List.mem_cons_of_mem _ (List.mem_append_left _ (List.mem_append_right _ h))) (by decide +kernel))) (goodIn_sub (fun _ h => List.mem_cons_of_mem _ (List.mem_append_right _ h)) (by decide +kernel))
set_option maxRecDepth 20000 in
theorem gL_lead_X1_lead : GoodIn wsL_lead (wsV RL 35 RX1 yX1_lead wsX1_lead) := goodIn_app (goodIn_of _ (by decide +kernel)) ggL_lead_X1_lead
theorem dL_lead_0 : decode cL_lead 0 = .ok (.aload_n 3, 1) := by decide +kernel
theorem dL_lead_1 : decode cL_lead 1 = .ok (.iconst 0, 1) := by decide +kernel
theorem dL_lead_2 : decode cL_lead 2 = .ok (.aload_n 0, 1) := by decide +kernel
theorem dL_lead_3 : decode cL_lead 3 = .ok (.iload_n 1, 1) := by decide +kernel
theorem dL_lead_4 : decode cL_lead 4 = .ok (.iload_n 2, 1) := by decide +kernel
theorem dL_lead_5 : decode cL_lead 5 = .ok (.invokevirtual 35, 3) := by decide +kernel
theorem dL_lead_8 : decode cL_lead 8 = .ok (.i2l, 1) := by decide +kernel
theorem dL_lead_9 : decode cL_lead 9 = .ok (.lastore, 1) := by decide +kernel
theorem dL_lead_10 : decode cL_lead 10 = .ok (.goto 11, 3) := by decide +kernel
theorem dL_lead_13 : decode cL_lead 13 = .ok (.astore 4, 2) := by decide +kernel
theorem dL_lead_15 : decode cL_lead 15 = .ok (.iconst 1, 1) := by decide +kernel
theorem dL_lead_16 : decode cL_lead 16 = .ok (.ireturn, 1) := by decide +kernel
theorem dL_lead_17 : decode cL_lead 17 = .ok (.astore 4, 2) := by decide +kernel
theorem dL_lead_19 : decode cL_lead 19 = .ok (.iconst 2, 1) := by decide +kernel
theorem dL_lead_20 : decode cL_lead 20 = .ok (.ireturn, 1) := by decide +kernel
theorem dL_lead_21 : decode cL_lead 21 = .ok (.iconst 0, 1) := by decide +kernel
theorem dL_lead_22 : decode cL_lead 22 = .ok (.ireturn, 1) := by decide +kernel
set_option maxRecDepth 20000 in
theorem ggL_order_X1_order : GoodIn wsL_order wsX1_order := goodIn_ca (goodIn_ca (goodIn_r _ [7, 8, 9, 10, 11, 12, 13, 14, 15, 16, 17, 18, 6, 19, 20, 21, 22, 23, 24, 25, 26, 27, 28, 29, 30, 31, 32, 33, 34, 35, 36, 37, 38, 39, 40, 41, 42, 43, 44, 45, 46, 47, 48, 49, 50, 51, 52, 53, 54, 55, 56, 57, 58, 59, 60, 61, 62, 63, 64, 65, 66, 67, 68, 69, 70, 71, 72, 73] (by decide +kernel) (by decide +kernel)) (goodIn_sub (fun _ h => List.mem_cons_of_mem _ (List.mem_append_left _ (List.mem_append_right _ h))) (by decide +kernel))) (goodIn_sub (fun _ h => List.mem_cons_of_mem _ (List.mem_append_right _ h)) (by decide +kernel))
set_option maxRecDepth 20000 in
theorem gL_order_X1_order : GoodIn wsL_order (wsV RL 38 RX1 yX1_order wsX1_order) := goodIn_app (goodIn_of _ (by decide +kernel)) ggL_order_X1_order
theorem dL_order_0 : decode cL_order 0 = .ok (.aload_n 2, 1) := by decide +kernel
theorem dL_order_1 : decode cL_order 1 = .ok (.iconst 0, 1) := by decide +kernel
theorem dL_order_2 : decode cL_order 2 = .ok (.aload_n 0, 1) := by decide +kernel
theorem dL_order_3 : decode cL_order 3 = .ok (.iload_n 1, 1) := by decide +kernel
theorem dL_order_4 : decode cL_order 4 = .ok (.invokevirtual 38, 3) := by decide +kernel
theorem dL_order_7 : decode cL_order 7 = .ok (.i2l, 1) := by decide +kernel
theorem dL_order_8 : decode cL_order 8 = .ok (.lastore, 1) := by decide +kernel
theorem dL_order_9 : decode cL_order 9 = .ok (.goto 9, 3) := by decide +kernel
theorem dL_order_12 : decode cL_order 12 = .ok (.astore_n 3, 1) := by decide +kernel
theorem dL_order_13 : decode cL_order 13 = .ok (.iconst 1, 1) := by decide +kernel
theorem dL_order_14 : decode cL_order 14 = .ok (.ireturn, 1) := by decide +kernel
theorem dL_order_15 : decode cL_order 15 = .ok (.astore_n 3, 1) := by decide +kernel
theorem dL_order_16 : decode cL_order 16 = .ok (.iconst 2, 1) := by decide +kernel
theorem dL_order_17 : decode cL_order 17 = .ok (.ireturn, 1) := by decide +kernel
theorem dL_order_18 : decode cL_order 18 = .ok (.iconst 0, 1) := by decide +kernel
theorem dL_order_19 : decode cL_order 19 = .ok (.ireturn, 1) := by decide +kernel
set_option maxRecDepth 20000 in
theorem ggL_cancel_X1_cancel : GoodIn wsL_cancel wsX1_cancel := goodIn_ca (goodIn_ca (goodIn_r _ [7, 8, 9, 10, 11, 12, 13, 14, 15, 16, 17, 6, 18, 19, 20, 21, 22, 23, 24, 25, 26, 27, 28, 29, 30, 31, 32, 33, 34, 35, 36, 37, 38, 39, 40] (by decide +kernel) (by decide +kernel)) (goodIn_sub (fun _ h => List.mem_cons_of_mem _ (List.mem_append_left _ (List.mem_append_right _ h))) (by decide +kernel))) (goodIn_sub (fun _ h => List.mem_cons_of_mem _ (List.mem_append_right _ h)) (by decide +kernel))
set_option maxRecDepth 20000 in
theorem gL_cancel_X1_cancel : GoodIn wsL_cancel (wsV RL 42 RX1 yX1_cancel wsX1_cancel) := goodIn_app (goodIn_of _ (by decide +kernel)) ggL_cancel_X1_cancel
theorem dL_cancel_0 : decode cL_cancel 0 = .ok (.aload_n 2, 1) := by decide +kernel
theorem dL_cancel_1 : decode cL_cancel 1 = .ok (.iconst 0, 1) := by decide +kernel
theorem dL_cancel_2 : decode cL_cancel 2 = .ok (.aload_n 0, 1) := by decide +kernel
theorem dL_cancel_3 : decode cL_cancel 3 = .ok (.iload_n 1, 1) := by decide +kernel
theorem dL_cancel_4 : decode cL_cancel 4 = .ok (.invokevirtual 42, 3) := by decide +kernel
theorem dL_cancel_7 : decode cL_cancel 7 = .ok (.i2l, 1) := by decide +kernel
theorem dL_cancel_8 : decode cL_cancel 8 = .ok (.lastore, 1) := by decide +kernel
theorem dL_cancel_9 : decode cL_cancel 9 = .ok (.goto 9, 3) := by decide +kernel
theorem dL_cancel_12 : decode cL_cancel 12 = .ok (.astore_n 3, 1) := by decide +kernel
theorem dL_cancel_13 : decode cL_cancel 13 = .ok (.iconst 1, 1) := by decide +kernel
theorem dL_cancel_14 : decode cL_cancel 14 = .ok (.ireturn, 1) := by decide +kernel
theorem dL_cancel_15 : decode cL_cancel 15 = .ok (.astore_n 3, 1) := by decide +kernel
theorem dL_cancel_16 : decode cL_cancel 16 = .ok (.iconst 2, 1) := by decide +kernel
theorem dL_cancel_17 : decode cL_cancel 17 = .ok (.ireturn, 1) := by decide +kernel
theorem dL_cancel_18 : decode cL_cancel 18 = .ok (.iconst 0, 1) := by decide +kernel
theorem dL_cancel_19 : decode cL_cancel 19 = .ok (.ireturn, 1) := by decide +kernel
set_option maxRecDepth 20000 in
theorem ggL_build_X1_build : GoodIn wsL_build wsX1_build := goodIn_ca (goodIn_ca (goodIn_r _ [7, 8, 9, 10, 11, 12, 13, 14, 15, 6, 16, 17, 18, 19, 20, 21, 22, 23, 24, 25, 26, 27, 28, 29, 30, 31, 32, 33, 34, 35, 36, 37, 38, 39, 40, 41, 42, 43, 44, 45, 46, 47, 48, 49, 50, 51, 52, 53, 54, 55, 56, 57, 58, 59, 60, 61, 62, 63, 64, 65, 66, 67, 68, 69, 70, 71, 72, 73, 74, 75, 76, 77, 78, 79, 80, 81] (by decide +kernel) (by decide +kernel)) (goodIn_sub (fun _ h => List.mem_cons_of_mem _ (List.mem_append_left _ (List.mem_append_right _ h))) (by decide +kernel))) (goodIn_sub (fun _ h => List.mem_cons_of_mem _ (List.mem_append_right _ h)) (by decide +kernel))
set_option maxRecDepth 20000 in
theorem gL_build_X1_build : GoodIn wsL_build (wsV RL 45 RX1 yX1_build wsX1_build) := goodIn_app (goodIn_of _ (by decide +kernel)) ggL_build_X1_build
theorem dL_build_0 : decode cL_build 0 = .ok (.aload_n 2, 1) := by decide +kernel
theorem dL_build_1 : decode cL_build 1 = .ok (.iconst 0, 1) := by decide +kernel
theorem dL_build_2 : decode cL_build 2 = .ok (.aload_n 0, 1) := by decide +kernel
theorem dL_build_3 : decode cL_build 3 = .ok (.iload_n 1, 1) := by decide +kernel
theorem dL_build_4 : decode cL_build 4 = .ok (.invokevirtual 45, 3) := by decide +kernel
theorem dL_build_7 : decode cL_build 7 = .ok (.ifCond .eq 7, 3) := by decide +kernel
theorem dL_build_10 : decode cL_build 10 = .ok (.lconst 1, 1) := by decide +kernel
theorem dL_build_11 : decode cL_build 11 = .ok (.goto 4, 3) := by decide +kernel
theorem dL_build_14 : decode cL_build 14 = .ok (.lconst 0, 1) := by decide +kernel
theorem dL_build_15 : decode cL_build 15 = .ok (.lastore, 1) := by decide +kernel
theorem dL_build_16 : decode cL_build 16 = .ok (.goto 9, 3) := by decide +kernel
theorem dL_build_19 : decode cL_build 19 = .ok (.astore_n 3, 1) := by decide +kernel
theorem dL_build_20 : decode cL_build 20 = .ok (.iconst 1, 1) := by decide +kernel
theorem dL_build_21 : decode cL_build 21 = .ok (.ireturn, 1) := by decide +kernel
theorem dL_build_22 : decode cL_build 22 = .ok (.astore_n 3, 1) := by decide +kernel
theorem dL_build_23 : decode cL_build 23 = .ok (.iconst 2, 1) := by decide +kernel
theorem dL_build_24 : decode cL_build 24 = .ok (.ireturn, 1) := by decide +kernel
theorem dL_build_25 : decode cL_build 25 = .ok (.iconst 0, 1) := by decide +kernel
theorem dL_build_26 : decode cL_build 26 = .ok (.ireturn, 1) := by decide +kernel
set_option maxRecDepth 20000 in
theorem ggL_inspect_X1_inspect : GoodIn wsL_inspect wsX1_inspect := goodIn_ca (goodIn_ca (goodIn_r _ [7, 8, 9, 10, 11, 12, 13, 14, 6, 15, 16, 17, 18, 19, 20, 21, 22, 23, 24, 25, 26, 27, 28, 29, 30, 31, 32, 33, 34, 35, 36, 37, 38, 39, 40, 41, 42, 43, 44, 45, 46, 47, 48, 49, 50, 51, 52, 53, 54, 55, 56, 57, 58, 59, 60, 61, 62, 63, 64, 65, 66, 67, 68, 69, 70, 71, 72, 73, 74, 75, 76, 77, 78, 79, 80, 81, 82, 83, 84, 85, 86, 87, 88, 89] (by decide +kernel) (by decide +kernel)) (goodIn_sub (fun _ h => List.mem_cons_of_mem _ (List.mem_append_left _ (List.mem_append_right _ h))) (by decide +kernel))) (goodIn_sub (fun _ h => List.mem_cons_of_mem _ (List.mem_append_right _ h)) (by decide +kernel))
set_option maxRecDepth 20000 in
theorem gL_inspect_X1_inspect : GoodIn wsL_inspect (wsV RL 49 RX1 yX1_inspect wsX1_inspect) := goodIn_app (goodIn_of _ (by decide +kernel)) ggL_inspect_X1_inspect
theorem dL_inspect_0 : decode cL_inspect 0 = .ok (.aload_n 2, 1) := by decide +kernel
theorem dL_inspect_1 : decode cL_inspect 1 = .ok (.iconst 0, 1) := by decide +kernel
theorem dL_inspect_2 : decode cL_inspect 2 = .ok (.aload_n 0, 1) := by decide +kernel
theorem dL_inspect_3 : decode cL_inspect 3 = .ok (.iload_n 1, 1) := by decide +kernel
theorem dL_inspect_4 : decode cL_inspect 4 = .ok (.invokevirtual 49, 3) := by decide +kernel
theorem dL_inspect_7 : decode cL_inspect 7 = .ok (.ifCond .eq 7, 3) := by decide +kernel
theorem dL_inspect_10 : decode cL_inspect 10 = .ok (.lconst 1, 1) := by decide +kernel
theorem dL_inspect_11 : decode cL_inspect 11 = .ok (.goto 4, 3) := by decide +kernel
theorem dL_inspect_14 : decode cL_inspect 14 = .ok (.lconst 0, 1) := by decide +kernel
theorem dL_inspect_15 : decode cL_inspect 15 = .ok (.lastore, 1) := by decide +kernel
theorem dL_inspect_16 : decode cL_inspect 16 = .ok (.goto 9, 3) := by decide +kernel
theorem dL_inspect_19 : decode cL_inspect 19 = .ok (.astore_n 3, 1) := by decide +kernel
theorem dL_inspect_20 : decode cL_inspect 20 = .ok (.iconst 1, 1) := by decide +kernel
theorem dL_inspect_21 : decode cL_inspect 21 = .ok (.ireturn, 1) := by decide +kernel
theorem dL_inspect_22 : decode cL_inspect 22 = .ok (.astore_n 3, 1) := by decide +kernel
theorem dL_inspect_23 : decode cL_inspect 23 = .ok (.iconst 2, 1) := by decide +kernel
theorem dL_inspect_24 : decode cL_inspect 24 = .ok (.ireturn, 1) := by decide +kernel
theorem dL_inspect_25 : decode cL_inspect 25 = .ok (.iconst 0, 1) := by decide +kernel
theorem dL_inspect_26 : decode cL_inspect 26 = .ok (.ireturn, 1) := by decide +kernel
set_option maxRecDepth 20000 in
theorem ggL_pass_X1_pass : GoodIn wsL_pass wsX1_pass := goodIn_ca (goodIn_ca (goodIn_r _ [7, 8, 9, 10, 11, 12, 13, 14, 15, 6, 16, 17, 18, 19, 20, 21, 22, 23, 24, 25, 26, 27, 28, 29, 30, 31, 32, 33, 34, 35, 36, 37, 38, 39, 40, 41, 42, 43, 44, 45, 46] (by decide +kernel) (by decide +kernel)) (goodIn_sub (fun _ h => List.mem_cons_of_mem _ (List.mem_append_left _ (List.mem_append_right _ h))) (by decide +kernel))) (goodIn_sub (fun _ h => List.mem_cons_of_mem _ (List.mem_append_right _ h)) (by decide +kernel))
set_option maxRecDepth 20000 in
theorem gL_pass_X1_pass : GoodIn wsL_pass (wsV RL 52 RX1 yX1_pass wsX1_pass) := goodIn_app (goodIn_of _ (by decide +kernel)) ggL_pass_X1_pass
theorem dL_pass_0 : decode cL_pass 0 = .ok (.aload_n 2, 1) := by decide +kernel
theorem dL_pass_1 : decode cL_pass 1 = .ok (.iconst 0, 1) := by decide +kernel
theorem dL_pass_2 : decode cL_pass 2 = .ok (.aload_n 0, 1) := by decide +kernel
theorem dL_pass_3 : decode cL_pass 3 = .ok (.iload_n 1, 1) := by decide +kernel
theorem dL_pass_4 : decode cL_pass 4 = .ok (.invokevirtual 52, 3) := by decide +kernel
theorem dL_pass_7 : decode cL_pass 7 = .ok (.i2l, 1) := by decide +kernel
theorem dL_pass_8 : decode cL_pass 8 = .ok (.lastore, 1) := by decide +kernel
theorem dL_pass_9 : decode cL_pass 9 = .ok (.goto 9, 3) := by decide +kernel
theorem dL_pass_12 : decode cL_pass 12 = .ok (.astore_n 3, 1) := by decide +kernel
theorem dL_pass_13 : decode cL_pass 13 = .ok (.iconst 1, 1) := by decide +kernel
theorem dL_pass_14 : decode cL_pass 14 = .ok (.ireturn, 1) := by decide +kernel
theorem dL_pass_15 : decode cL_pass 15 = .ok (.astore_n 3, 1) := by decide +kernel
theorem dL_pass_16 : decode cL_pass 16 = .ok (.iconst 2, 1) := by decide +kernel
theorem dL_pass_17 : decode cL_pass 17 = .ok (.ireturn, 1) := by decide +kernel
theorem dL_pass_18 : decode cL_pass 18 = .ok (.iconst 0, 1) := by decide +kernel
theorem dL_pass_19 : decode cL_pass 19 = .ok (.ireturn, 1) := by decide +kernel
set_option maxRecDepth 20000 in
theorem ggL_elementOf_X1_elementOf : GoodIn wsL_elementOf wsX1_elementOf := goodIn_ca (goodIn_ca (goodIn_r _ [7, 8, 9, 10, 11, 12, 13, 14, 15, 16, 17, 18, 19, 20, 21, 22, 23, 6, 24, 25, 26, 27, 28, 29, 30, 31, 32, 33, 34, 35, 36, 37, 38, 39, 40, 41, 42, 43, 44, 45, 46, 47, 48, 49, 50, 51, 52, 53, 54, 55, 56, 57, 58, 59] (by decide +kernel) (by decide +kernel)) (goodIn_sub (fun _ h => List.mem_cons_of_mem _ (List.mem_append_left _ (List.mem_append_right _ h))) (by decide +kernel))) (goodIn_sub (fun _ h => List.mem_cons_of_mem _ (List.mem_append_right _ h)) (by decide +kernel))
set_option maxRecDepth 20000 in
theorem gL_elementOf_X1_elementOf : GoodIn wsL_elementOf (wsV RL 55 RX1 yX1_elementOf wsX1_elementOf) := goodIn_app (goodIn_of _ (by decide +kernel)) ggL_elementOf_X1_elementOf
theorem dL_elementOf_0 : decode cL_elementOf 0 = .ok (.aload_n 3, 1) := by decide +kernel
theorem dL_elementOf_1 : decode cL_elementOf 1 = .ok (.iconst 0, 1) := by decide +kernel
theorem dL_elementOf_2 : decode cL_elementOf 2 = .ok (.aload_n 0, 1) := by decide +kernel
theorem dL_elementOf_3 : decode cL_elementOf 3 = .ok (.iload_n 1, 1) := by decide +kernel
theorem dL_elementOf_4 : decode cL_elementOf 4 = .ok (.iload_n 2, 1) := by decide +kernel
theorem dL_elementOf_5 : decode cL_elementOf 5 = .ok (.invokevirtual 55, 3) := by decide +kernel
theorem dL_elementOf_8 : decode cL_elementOf 8 = .ok (.i2l, 1) := by decide +kernel
theorem dL_elementOf_9 : decode cL_elementOf 9 = .ok (.lastore, 1) := by decide +kernel
theorem dL_elementOf_10 : decode cL_elementOf 10 = .ok (.goto 11, 3) := by decide +kernel
theorem dL_elementOf_13 : decode cL_elementOf 13 = .ok (.astore 4, 2) := by decide +kernel
theorem dL_elementOf_15 : decode cL_elementOf 15 = .ok (.iconst 1, 1) := by decide +kernel
theorem dL_elementOf_16 : decode cL_elementOf 16 = .ok (.ireturn, 1) := by decide +kernel
theorem dL_elementOf_17 : decode cL_elementOf 17 = .ok (.astore 4, 2) := by decide +kernel
theorem dL_elementOf_19 : decode cL_elementOf 19 = .ok (.iconst 2, 1) := by decide +kernel
theorem dL_elementOf_20 : decode cL_elementOf 20 = .ok (.ireturn, 1) := by decide +kernel
theorem dL_elementOf_21 : decode cL_elementOf 21 = .ok (.iconst 0, 1) := by decide +kernel
theorem dL_elementOf_22 : decode cL_elementOf 22 = .ok (.ireturn, 1) := by decide +kernel
set_option maxRecDepth 20000 in
theorem ggL_clash_X1_clash : GoodIn wsL_clash wsX1_clash := goodIn_ca (goodIn_r _ [6, 7, 8, 9, 10, 11, 5, 12, 13, 14, 15, 16, 17, 18, 19, 20, 21, 22, 23, 24, 25, 26, 27, 28, 29, 30, 31, 32, 33, 34, 35, 36, 37, 38, 39, 40, 41, 42, 43, 44, 45, 46, 47, 48, 49, 50, 51, 52, 53, 54, 55, 56, 57, 58, 59, 60, 61, 62, 63, 64, 65, 66, 67, 68, 69, 70, 71, 72] (by decide +kernel) (by decide +kernel)) (goodIn_sub (fun _ h => List.mem_cons_of_mem _ (List.mem_append_right _ h)) (by decide +kernel))
set_option maxRecDepth 20000 in
theorem gL_clash_X1_clash : GoodIn wsL_clash (wsV RL 58 RX1 yX1_clash wsX1_clash) := goodIn_app (goodIn_of _ (by decide +kernel)) ggL_clash_X1_clash
theorem dL_clash_0 : decode cL_clash 0 = .ok (.aload_n 3, 1) := by decide +kernel
theorem dL_clash_1 : decode cL_clash 1 = .ok (.iconst 0, 1) := by decide +kernel
theorem dL_clash_2 : decode cL_clash 2 = .ok (.aload_n 0, 1) := by decide +kernel
theorem dL_clash_3 : decode cL_clash 3 = .ok (.iload_n 1, 1) := by decide +kernel
theorem dL_clash_4 : decode cL_clash 4 = .ok (.iload_n 2, 1) := by decide +kernel
theorem dL_clash_5 : decode cL_clash 5 = .ok (.invokevirtual 58, 3) := by decide +kernel
theorem dL_clash_8 : decode cL_clash 8 = .ok (.ifCond .eq 7, 3) := by decide +kernel
theorem dL_clash_11 : decode cL_clash 11 = .ok (.lconst 1, 1) := by decide +kernel
theorem dL_clash_12 : decode cL_clash 12 = .ok (.goto 4, 3) := by decide +kernel
theorem dL_clash_15 : decode cL_clash 15 = .ok (.lconst 0, 1) := by decide +kernel
theorem dL_clash_16 : decode cL_clash 16 = .ok (.lastore, 1) := by decide +kernel
theorem dL_clash_17 : decode cL_clash 17 = .ok (.goto 7, 3) := by decide +kernel
theorem dL_clash_20 : decode cL_clash 20 = .ok (.astore 4, 2) := by decide +kernel
theorem dL_clash_22 : decode cL_clash 22 = .ok (.iconst 1, 1) := by decide +kernel
theorem dL_clash_23 : decode cL_clash 23 = .ok (.ireturn, 1) := by decide +kernel
theorem dL_clash_24 : decode cL_clash 24 = .ok (.iconst 0, 1) := by decide +kernel
theorem dL_clash_25 : decode cL_clash 25 = .ok (.ireturn, 1) := by decide +kernel
set_option maxRecDepth 20000 in
theorem ggL_clashes_X1_clashes : GoodIn wsL_clashes wsX1_clashes := goodIn_ca (goodIn_r _ [6, 7, 8, 9, 10, 11, 5, 12, 13, 14, 15, 16, 17, 18, 19, 20, 21, 22, 23, 24, 25, 26, 27, 28, 29, 30, 31, 32, 33, 34, 35, 36, 37, 38, 39, 40, 41, 42, 43, 44, 45, 46, 47, 48, 49, 50, 51, 52, 53, 54, 55, 56, 57, 58, 59, 60, 61, 62, 63, 64, 65, 66, 67, 68, 69, 70, 71, 72, 73, 74, 75, 76, 77, 78, 79, 80, 81, 82, 83, 84] (by decide +kernel) (by decide +kernel)) (goodIn_sub (fun _ h => List.mem_cons_of_mem _ (List.mem_append_right _ h)) (by decide +kernel))
set_option maxRecDepth 20000 in
theorem gL_clashes_X1_clashes : GoodIn wsL_clashes (wsV RL 62 RX1 yX1_clashes wsX1_clashes) := goodIn_app (goodIn_of _ (by decide +kernel)) ggL_clashes_X1_clashes
theorem dL_clashes_0 : decode cL_clashes 0 = .ok (.aload_n 2, 1) := by decide +kernel
theorem dL_clashes_1 : decode cL_clashes 1 = .ok (.iconst 0, 1) := by decide +kernel
theorem dL_clashes_2 : decode cL_clashes 2 = .ok (.aload_n 0, 1) := by decide +kernel
theorem dL_clashes_3 : decode cL_clashes 3 = .ok (.iload_n 1, 1) := by decide +kernel
theorem dL_clashes_4 : decode cL_clashes 4 = .ok (.invokevirtual 62, 3) := by decide +kernel
theorem dL_clashes_7 : decode cL_clashes 7 = .ok (.i2l, 1) := by decide +kernel
theorem dL_clashes_8 : decode cL_clashes 8 = .ok (.lastore, 1) := by decide +kernel
theorem dL_clashes_9 : decode cL_clashes 9 = .ok (.goto 6, 3) := by decide +kernel
theorem dL_clashes_12 : decode cL_clashes 12 = .ok (.astore_n 3, 1) := by decide +kernel
theorem dL_clashes_13 : decode cL_clashes 13 = .ok (.iconst 1, 1) := by decide +kernel
theorem dL_clashes_14 : decode cL_clashes 14 = .ok (.ireturn, 1) := by decide +kernel
theorem dL_clashes_15 : decode cL_clashes 15 = .ok (.iconst 0, 1) := by decide +kernel
theorem dL_clashes_16 : decode cL_clashes 16 = .ok (.ireturn, 1) := by decide +kernel
set_option maxRecDepth 20000 in
theorem ggL_isStopped_X1_isStopped : GoodIn wsL_isStopped wsX1_isStopped := goodIn_ca (goodIn_r _ [6, 7, 8, 9, 10, 11, 12, 13, 5, 14, 15, 16, 17, 18, 19, 20, 21, 22, 23, 24, 25, 26, 27, 28, 29, 30, 31, 32, 33, 34, 35, 36, 37, 38, 39, 40, 41, 42, 43, 44, 45, 46, 47, 48, 49, 50, 51, 52, 53, 54, 55, 56, 57, 58, 59, 60, 61, 62, 63, 64, 65, 66, 67, 68, 69, 70, 71, 72, 73, 74, 75, 76, 77, 78, 79, 80] (by decide +kernel) (by decide +kernel)) (goodIn_sub (fun _ h => List.mem_cons_of_mem _ (List.mem_append_right _ h)) (by decide +kernel))
set_option maxRecDepth 20000 in
theorem gL_isStopped_X1_isStopped : GoodIn wsL_isStopped (wsV RL 65 RX1 yX1_isStopped wsX1_isStopped) := goodIn_app (goodIn_of _ (by decide +kernel)) ggL_isStopped_X1_isStopped
theorem dL_isStopped_0 : decode cL_isStopped 0 = .ok (.aload_n 3, 1) := by decide +kernel
theorem dL_isStopped_1 : decode cL_isStopped 1 = .ok (.iconst 0, 1) := by decide +kernel
theorem dL_isStopped_2 : decode cL_isStopped 2 = .ok (.aload_n 0, 1) := by decide +kernel
theorem dL_isStopped_3 : decode cL_isStopped 3 = .ok (.iload_n 1, 1) := by decide +kernel
theorem dL_isStopped_4 : decode cL_isStopped 4 = .ok (.iload_n 2, 1) := by decide +kernel
theorem dL_isStopped_5 : decode cL_isStopped 5 = .ok (.invokevirtual 65, 3) := by decide +kernel
theorem dL_isStopped_8 : decode cL_isStopped 8 = .ok (.ifCond .eq 7, 3) := by decide +kernel
theorem dL_isStopped_11 : decode cL_isStopped 11 = .ok (.lconst 1, 1) := by decide +kernel
theorem dL_isStopped_12 : decode cL_isStopped 12 = .ok (.goto 4, 3) := by decide +kernel
theorem dL_isStopped_15 : decode cL_isStopped 15 = .ok (.lconst 0, 1) := by decide +kernel
theorem dL_isStopped_16 : decode cL_isStopped 16 = .ok (.lastore, 1) := by decide +kernel
theorem dL_isStopped_17 : decode cL_isStopped 17 = .ok (.goto 7, 3) := by decide +kernel
theorem dL_isStopped_20 : decode cL_isStopped 20 = .ok (.astore 4, 2) := by decide +kernel
theorem dL_isStopped_22 : decode cL_isStopped 22 = .ok (.iconst 1, 1) := by decide +kernel
theorem dL_isStopped_23 : decode cL_isStopped 23 = .ok (.ireturn, 1) := by decide +kernel
theorem dL_isStopped_24 : decode cL_isStopped 24 = .ok (.iconst 0, 1) := by decide +kernel
theorem dL_isStopped_25 : decode cL_isStopped 25 = .ok (.ireturn, 1) := by decide +kernel
set_option maxRecDepth 20000 in
theorem ggL_parts_X1_parts : GoodIn wsL_parts wsX1_parts := goodIn_ca (goodIn_r _ [6, 7, 8, 9, 10, 5, 11, 12, 13, 14, 15, 16, 17, 18, 19, 20, 21, 22, 23, 24, 25, 26, 27, 28, 29, 30, 31, 32, 33, 34, 35, 36, 37, 38, 39, 40, 41, 42, 43, 44, 45, 46, 47, 48, 49, 50, 51, 52, 53, 54, 55, 56, 57, 58, 59, 60, 61, 62] (by decide +kernel) (by decide +kernel)) (goodIn_sub (fun _ h => List.mem_cons_of_mem _ (List.mem_append_right _ h)) (by decide +kernel))
set_option maxRecDepth 20000 in
theorem gL_parts_X1_parts : GoodIn wsL_parts (wsV RL 68 RX1 yX1_parts wsX1_parts) := goodIn_app (goodIn_of _ (by decide +kernel)) ggL_parts_X1_parts
theorem dL_parts_0 : decode cL_parts 0 = .ok (.aload_n 2, 1) := by decide +kernel
theorem dL_parts_1 : decode cL_parts 1 = .ok (.iconst 0, 1) := by decide +kernel
theorem dL_parts_2 : decode cL_parts 2 = .ok (.aload_n 0, 1) := by decide +kernel
theorem dL_parts_3 : decode cL_parts 3 = .ok (.iload_n 1, 1) := by decide +kernel
theorem dL_parts_4 : decode cL_parts 4 = .ok (.invokevirtual 68, 3) := by decide +kernel
theorem dL_parts_7 : decode cL_parts 7 = .ok (.i2l, 1) := by decide +kernel
theorem dL_parts_8 : decode cL_parts 8 = .ok (.lastore, 1) := by decide +kernel
theorem dL_parts_9 : decode cL_parts 9 = .ok (.goto 6, 3) := by decide +kernel
theorem dL_parts_12 : decode cL_parts 12 = .ok (.astore_n 3, 1) := by decide +kernel
theorem dL_parts_13 : decode cL_parts 13 = .ok (.iconst 1, 1) := by decide +kernel
theorem dL_parts_14 : decode cL_parts 14 = .ok (.ireturn, 1) := by decide +kernel
theorem dL_parts_15 : decode cL_parts 15 = .ok (.iconst 0, 1) := by decide +kernel
theorem dL_parts_16 : decode cL_parts 16 = .ok (.ireturn, 1) := by decide +kernel
set_option maxRecDepth 20000 in
theorem ggL_partsAnew_X1_partsAnew : GoodIn wsL_partsAnew wsX1_partsAnew := goodIn_ca (goodIn_r _ [6, 7, 8, 9, 10, 11, 12, 13, 5, 14, 15, 16, 17, 18, 19, 20, 21, 22, 23, 24, 25, 26, 27, 28, 29, 30, 31, 32, 33, 34, 35, 36, 37, 38, 39, 40, 41, 42, 43, 44, 45, 46, 47, 48, 49, 50, 51, 52, 53, 54, 55, 56, 57, 58, 59, 60, 61, 62, 63, 64, 65] (by decide +kernel) (by decide +kernel)) (goodIn_sub (fun _ h => List.mem_cons_of_mem _ (List.mem_append_right _ h)) (by decide +kernel))
set_option maxRecDepth 20000 in
theorem gL_partsAnew_X1_partsAnew : GoodIn wsL_partsAnew (wsV RL 71 RX1 yX1_partsAnew wsX1_partsAnew) := goodIn_app (goodIn_of _ (by decide +kernel)) ggL_partsAnew_X1_partsAnew
theorem dL_partsAnew_0 : decode cL_partsAnew 0 = .ok (.aload_n 2, 1) := by decide +kernel
theorem dL_partsAnew_1 : decode cL_partsAnew 1 = .ok (.iconst 0, 1) := by decide +kernel
theorem dL_partsAnew_2 : decode cL_partsAnew 2 = .ok (.aload_n 0, 1) := by decide +kernel
theorem dL_partsAnew_3 : decode cL_partsAnew 3 = .ok (.iload_n 1, 1) := by decide +kernel
theorem dL_partsAnew_4 : decode cL_partsAnew 4 = .ok (.invokevirtual 71, 3) := by decide +kernel
theorem dL_partsAnew_7 : decode cL_partsAnew 7 = .ok (.i2l, 1) := by decide +kernel
theorem dL_partsAnew_8 : decode cL_partsAnew 8 = .ok (.lastore, 1) := by decide +kernel
theorem dL_partsAnew_9 : decode cL_partsAnew 9 = .ok (.goto 6, 3) := by decide +kernel
theorem dL_partsAnew_12 : decode cL_partsAnew 12 = .ok (.astore_n 3, 1) := by decide +kernel
theorem dL_partsAnew_13 : decode cL_partsAnew 13 = .ok (.iconst 1, 1) := by decide +kernel
theorem dL_partsAnew_14 : decode cL_partsAnew 14 = .ok (.ireturn, 1) := by decide +kernel
theorem dL_partsAnew_15 : decode cL_partsAnew 15 = .ok (.iconst 0, 1) := by decide +kernel
theorem dL_partsAnew_16 : decode cL_partsAnew 16 = .ok (.ireturn, 1) := by decide +kernel
set_option maxRecDepth 20000 in
theorem ggL_ordered_X1_ordered : GoodIn wsL_ordered wsX1_ordered := goodIn_ca (goodIn_r _ [6, 7, 8, 9, 10, 5, 11, 12, 13, 14, 15, 16, 17, 18, 19, 20, 21, 22, 23, 24, 25, 26, 27, 28, 29, 30, 31, 32, 33, 34, 35, 36, 37, 38, 39, 40, 41, 42, 43, 44, 45, 46, 47, 48, 49, 50, 51, 52, 53, 54, 55, 56, 57, 58, 59, 60, 61, 62] (by decide +kernel) (by decide +kernel)) (goodIn_sub (fun _ h => List.mem_cons_of_mem _ (List.mem_append_right _ h)) (by decide +kernel))
set_option maxRecDepth 20000 in
theorem gL_ordered_X1_ordered : GoodIn wsL_ordered (wsV RL 74 RX1 yX1_ordered wsX1_ordered) := goodIn_app (goodIn_of _ (by decide +kernel)) ggL_ordered_X1_ordered
theorem dL_ordered_0 : decode cL_ordered 0 = .ok (.aload_n 2, 1) := by decide +kernel
theorem dL_ordered_1 : decode cL_ordered 1 = .ok (.iconst 0, 1) := by decide +kernel
theorem dL_ordered_2 : decode cL_ordered 2 = .ok (.aload_n 0, 1) := by decide +kernel
theorem dL_ordered_3 : decode cL_ordered 3 = .ok (.iload_n 1, 1) := by decide +kernel
theorem dL_ordered_4 : decode cL_ordered 4 = .ok (.invokevirtual 74, 3) := by decide +kernel
theorem dL_ordered_7 : decode cL_ordered 7 = .ok (.i2l, 1) := by decide +kernel
theorem dL_ordered_8 : decode cL_ordered 8 = .ok (.lastore, 1) := by decide +kernel
theorem dL_ordered_9 : decode cL_ordered 9 = .ok (.goto 6, 3) := by decide +kernel
theorem dL_ordered_12 : decode cL_ordered 12 = .ok (.astore_n 3, 1) := by decide +kernel
theorem dL_ordered_13 : decode cL_ordered 13 = .ok (.iconst 1, 1) := by decide +kernel
theorem dL_ordered_14 : decode cL_ordered 14 = .ok (.ireturn, 1) := by decide +kernel
theorem dL_ordered_15 : decode cL_ordered 15 = .ok (.iconst 0, 1) := by decide +kernel
theorem dL_ordered_16 : decode cL_ordered 16 = .ok (.ireturn, 1) := by decide +kernel
set_option maxRecDepth 20000 in
theorem ggL_kindsAt_X1_kindsAt : GoodIn wsL_kindsAt wsX1_kindsAt := goodIn_ca (goodIn_ca (goodIn_r _ [7, 8, 9, 10, 11, 12, 13, 14, 15, 16, 6, 17, 18, 19, 20, 21, 22, 23, 24, 25, 26, 27, 28, 29, 30, 31, 32, 33, 34, 35, 36, 37, 38, 39, 40, 41, 42, 43, 44, 45, 46, 47, 48, 49, 50, 51, 52, 53, 54, 55, 56, 57, 58, 59, 60, 61, 62, 63, 64, 65, 66, 67] (by decide +kernel) (by decide +kernel)) (goodIn_sub (fun _ h => List.mem_cons_of_mem _ (List.mem_append_left _ (List.mem_append_right _ h))) (by decide +kernel))) (goodIn_sub (fun _ h => List.mem_cons_of_mem _ (List.mem_append_right _ h)) (by decide +kernel))
set_option maxRecDepth 20000 in
theorem gL_kindsAt_X1_kindsAt : GoodIn wsL_kindsAt (wsV RL 77 RX1 yX1_kindsAt wsX1_kindsAt) := goodIn_app (goodIn_of _ (by decide +kernel)) ggL_kindsAt_X1_kindsAt
theorem dL_kindsAt_0 : decode cL_kindsAt 0 = .ok (.aload 4, 2) := by decide +kernel
theorem dL_kindsAt_2 : decode cL_kindsAt 2 = .ok (.iconst 0, 1) := by decide +kernel
theorem dL_kindsAt_3 : decode cL_kindsAt 3 = .ok (.aload_n 0, 1) := by decide +kernel
theorem dL_kindsAt_4 : decode cL_kindsAt 4 = .ok (.iload_n 1, 1) := by decide +kernel
theorem dL_kindsAt_5 : decode cL_kindsAt 5 = .ok (.iload_n 2, 1) := by decide +kernel
theorem dL_kindsAt_6 : decode cL_kindsAt 6 = .ok (.iload_n 3, 1) := by decide +kernel
theorem dL_kindsAt_7 : decode cL_kindsAt 7 = .ok (.invokevirtual 77, 3) := by decide +kernel
theorem dL_kindsAt_10 : decode cL_kindsAt 10 = .ok (.i2l, 1) := by decide +kernel
theorem dL_kindsAt_11 : decode cL_kindsAt 11 = .ok (.lastore, 1) := by decide +kernel
theorem dL_kindsAt_12 : decode cL_kindsAt 12 = .ok (.goto 11, 3) := by decide +kernel
theorem dL_kindsAt_15 : decode cL_kindsAt 15 = .ok (.astore 5, 2) := by decide +kernel
theorem dL_kindsAt_17 : decode cL_kindsAt 17 = .ok (.iconst 1, 1) := by decide +kernel
theorem dL_kindsAt_18 : decode cL_kindsAt 18 = .ok (.ireturn, 1) := by decide +kernel
theorem dL_kindsAt_19 : decode cL_kindsAt 19 = .ok (.astore 5, 2) := by decide +kernel
theorem dL_kindsAt_21 : decode cL_kindsAt 21 = .ok (.iconst 2, 1) := by decide +kernel
theorem dL_kindsAt_22 : decode cL_kindsAt 22 = .ok (.ireturn, 1) := by decide +kernel
theorem dL_kindsAt_23 : decode cL_kindsAt 23 = .ok (.iconst 0, 1) := by decide +kernel
theorem dL_kindsAt_24 : decode cL_kindsAt 24 = .ok (.ireturn, 1) := by decide +kernel
set_option maxRecDepth 20000 in
theorem ggL_isLocked_X1_isLocked : GoodIn wsL_isLocked wsX1_isLocked := goodIn_ca (goodIn_r _ [6, 7, 8, 9, 10, 11, 5, 12, 13, 14, 15, 16, 17, 18, 19, 20, 21, 22, 23] (by decide +kernel) (by decide +kernel)) (goodIn_sub (fun _ h => List.mem_cons_of_mem _ (List.mem_append_right _ h)) (by decide +kernel))
set_option maxRecDepth 20000 in
theorem gL_isLocked_X1_isLocked : GoodIn wsL_isLocked (wsV RL 80 RX1 yX1_isLocked wsX1_isLocked) := goodIn_app (goodIn_of _ (by decide +kernel)) ggL_isLocked_X1_isLocked
theorem dL_isLocked_0 : decode cL_isLocked 0 = .ok (.aload_n 2, 1) := by decide +kernel
theorem dL_isLocked_1 : decode cL_isLocked 1 = .ok (.iconst 0, 1) := by decide +kernel
theorem dL_isLocked_2 : decode cL_isLocked 2 = .ok (.aload_n 0, 1) := by decide +kernel
theorem dL_isLocked_3 : decode cL_isLocked 3 = .ok (.iload_n 1, 1) := by decide +kernel
theorem dL_isLocked_4 : decode cL_isLocked 4 = .ok (.invokevirtual 80, 3) := by decide +kernel
theorem dL_isLocked_7 : decode cL_isLocked 7 = .ok (.ifCond .eq 7, 3) := by decide +kernel
theorem dL_isLocked_10 : decode cL_isLocked 10 = .ok (.lconst 1, 1) := by decide +kernel
theorem dL_isLocked_11 : decode cL_isLocked 11 = .ok (.goto 4, 3) := by decide +kernel
theorem dL_isLocked_14 : decode cL_isLocked 14 = .ok (.lconst 0, 1) := by decide +kernel
theorem dL_isLocked_15 : decode cL_isLocked 15 = .ok (.lastore, 1) := by decide +kernel
theorem dL_isLocked_16 : decode cL_isLocked 16 = .ok (.goto 6, 3) := by decide +kernel
theorem dL_isLocked_19 : decode cL_isLocked 19 = .ok (.astore_n 3, 1) := by decide +kernel
theorem dL_isLocked_20 : decode cL_isLocked 20 = .ok (.iconst 1, 1) := by decide +kernel
theorem dL_isLocked_21 : decode cL_isLocked 21 = .ok (.ireturn, 1) := by decide +kernel
theorem dL_isLocked_22 : decode cL_isLocked 22 = .ok (.iconst 0, 1) := by decide +kernel
theorem dL_isLocked_23 : decode cL_isLocked 23 = .ok (.ireturn, 1) := by decide +kernel
set_option maxRecDepth 20000 in
theorem ggL_law_X1_init : GoodIn wsL_law wsX1_init := goodIn_r _ [9, 10, 11, 12, 13, 14, 15, 16, 17, 18, 19, 20, 21, 22, 23, 489, 490, 491, 492, 493, 494, 495, 496] (by decide +kernel) (by decide +kernel)
set_option maxRecDepth 20000 in
theorem gL_law_X1_init : GoodIn wsL_law (wsX1_init) := ggL_law_X1_init
set_option maxRecDepth 20000 in
theorem ggL_law_X2_init : GoodIn wsL_law wsX2_init := goodIn_r _ [26, 27, 11, 12, 16, 28, 29, 30, 31, 32, 33, 34, 35, 36, 37, 38, 39, 40, 20, 41, 497, 498, 499, 500, 501, 502, 503, 504, 505, 506, 507, 508, 509, 510, 511, 512, 513, 514] (by decide +kernel) (by decide +kernel)
set_option maxRecDepth 20000 in
theorem gL_law_X2_init : GoodIn wsL_law (wsX2_init) := ggL_law_X2_init
set_option maxRecDepth 20000 in
theorem ggL_law_L_add : GoodIn wsL_law wsL_add := goodIn_ca (goodIn_ca (goodIn_ca (goodIn_r _ [45, 46, 47, 48, 49, 50, 51, 2, 52, 53, 54, 55, 56, 57, 58, 21, 15, 14, 22, 13, 59, 60, 61, 62, 63, 64, 65, 66, 67, 68, 69, 70, 71, 72, 73, 74, 75, 76, 11, 12, 77, 78, 79, 80, 81, 82, 83, 84, 85, 86, 489, 490, 491, 492, 493, 494, 495, 496, 515, 516, 517, 518, 519, 520, 521, 522, 523, 524] (by decide +kernel) (by decide +kernel)) (goodIn_sub (fun _ h => List.mem_append_left _ (List.mem_append_left _ (List.mem_append_right _ h))) (by decide +kernel))) (goodIn_sub (fun _ h => List.mem_append_left _ (List.mem_append_right _ h)) (by decide +kernel))) (goodIn_sub (fun _ h => List.mem_append_right _ h) (by decide +kernel))
set_option maxRecDepth 20000 in
theorem gL_law_L_add : GoodIn wsL_law (va_wsS RL 87 yL_add wsL_add) := goodIn_app (goodIn_of _ (by decide +kernel)) ggL_law_L_add
set_option maxRecDepth 20000 in
theorem ggL_law_X2_add : GoodIn wsL_law wsX2_add := goodIn_r _ [90, 41, 91, 28, 29, 30, 31, 32, 33, 92, 93, 5, 94, 95, 96, 97, 98, 99, 100, 101, 102, 103, 104, 105, 106, 107, 108, 109, 110, 111, 112, 113, 35, 36, 497, 498, 499, 500, 501, 502, 503, 504, 505, 506, 507, 508, 509, 510, 511, 512, 513, 514] (by decide +kernel) (by decide +kernel)
set_option maxRecDepth 20000 in
theorem gL_law_X2_add : GoodIn wsL_law (wsV RL 92 RX2 yX2_add wsX2_add) := goodIn_app (goodIn_of _ (by decide +kernel)) ggL_law_X2_add
set_option maxRecDepth 20000 in
theorem ggL_law_X2_thrown : GoodIn wsL_law wsX2_thrown := goodIn_r _ [117, 108, 497, 498, 499, 500, 501, 502, 503, 504, 505, 506, 507, 508, 509, 510, 511, 512, 513, 514] (by decide +kernel) (by decide +kernel)
set_option maxRecDepth 20000 in
theorem gL_law_X2_thrown : GoodIn wsL_law (wsV RL 93 RX2 yX2_thrown wsX2_thrown) := goodIn_app (goodIn_of _ (by decide +kernel)) ggL_law_X2_thrown
set_option maxRecDepth 20000 in
theorem ggL_law_L_move : GoodIn wsL_law wsL_move := goodIn_ca (goodIn_ca (goodIn_ca (goodIn_r _ [120, 46, 47, 48, 121, 122, 123, 2, 124, 53, 54, 55, 56, 57, 58, 125, 126, 127, 128, 129, 14, 64, 65, 66, 61, 62, 63, 130, 131, 132, 133, 22, 134, 135, 136, 137, 138, 139, 60, 140, 81, 82, 83, 84, 71, 72, 141, 142, 143, 144, 145, 146, 147, 148, 149, 150, 151, 152, 153, 515, 516, 517, 518, 519, 520, 521, 522, 523, 524, 489, 490, 491, 492, 493, 494, 495, 496] (by decide +kernel) (by decide +kernel)) (goodIn_sub (fun _ h => List.mem_append_left _ (List.mem_append_left _ (List.mem_append_right _ h))) (by decide +kernel))) (goodIn_sub (fun _ h => List.mem_append_left _ (List.mem_append_right _ h)) (by decide +kernel))) (goodIn_sub (fun _ h => List.mem_append_right _ h) (by decide +kernel))
set_option maxRecDepth 20000 in
theorem gL_law_L_move : GoodIn wsL_law (va_wsS RL 97 yL_move wsL_move) := goodIn_app (goodIn_of _ (by decide +kernel)) ggL_law_L_move
set_option maxRecDepth 20000 in
theorem ggL_law_X2_move : GoodIn wsL_law wsX2_move := goodIn_r _ [157, 113, 30, 32, 31, 33, 34, 92, 93, 5, 94, 95, 96, 97, 158, 159, 160, 161, 91, 101, 102, 103, 104, 105, 106, 107, 108, 162, 163, 164, 165, 35, 36, 109, 110, 111, 112, 497, 498, 499, 500, 501, 502, 503, 504, 505, 506, 507, 508, 509, 510, 511, 512, 513, 514] (by decide +kernel) (by decide +kernel)
set_option maxRecDepth 20000 in
theorem gL_law_X2_move : GoodIn wsL_law (wsV RL 100 RX2 yX2_move wsX2_move) := goodIn_app (goodIn_of _ (by decide +kernel)) ggL_law_X2_move
set_option maxRecDepth 20000 in
theorem ggL_law_L_remove : GoodIn wsL_law wsL_remove := goodIn_ca (goodIn_ca (goodIn_ca (goodIn_r _ [168, 46, 47, 48, 169, 170, 171, 2, 172, 53, 54, 55, 56, 57, 58, 125, 126, 127, 128, 129, 14, 64, 65, 66, 61, 62, 63, 130, 131, 132, 133, 22, 150, 151, 152, 153, 144, 145, 515, 516, 517, 518, 519, 520, 521, 522, 523, 524, 489, 490, 491, 492, 493, 494, 495, 496] (by decide +kernel) (by decide +kernel)) (goodIn_sub (fun _ h => List.mem_append_left _ (List.mem_append_left _ (List.mem_append_right _ h))) (by decide +kernel))) (goodIn_sub (fun _ h => List.mem_append_left _ (List.mem_append_right _ h)) (by decide +kernel))) (goodIn_sub (fun _ h => List.mem_append_right _ h) (by decide +kernel))
set_option maxRecDepth 20000 in
theorem gL_law_L_remove : GoodIn wsL_law (va_wsS RL 101 yL_remove wsL_remove) := goodIn_app (goodIn_of _ (by decide +kernel)) ggL_law_L_remove
set_option maxRecDepth 20000 in
theorem ggL_law_X2_remove : GoodIn wsL_law wsX2_remove := goodIn_r _ [176, 113, 34, 92, 93, 5, 94, 95, 96, 97, 158, 159, 160, 161, 91, 104, 105, 106, 107, 108, 109, 110, 111, 112, 35, 36, 497, 498, 499, 500, 501, 502, 503, 504, 505, 506, 507, 508, 509, 510, 511, 512, 513, 514] (by decide +kernel) (by decide +kernel)
set_option maxRecDepth 20000 in
theorem gL_law_X2_remove : GoodIn wsL_law (wsV RL 104 RX2 yX2_remove wsX2_remove) := goodIn_app (goodIn_of _ (by decide +kernel)) ggL_law_X2_remove
set_option maxRecDepth 20000 in
theorem ggL_law_L_clear : GoodIn wsL_law wsL_clear := goodIn_ca (goodIn_ca (goodIn_r _ [179, 46, 47, 180, 181, 182, 2, 183, 53, 54, 55, 56, 17, 61, 62, 63, 64, 65, 66, 489, 490, 491, 492, 493, 494, 495, 496] (by decide +kernel) (by decide +kernel)) (goodIn_sub (fun _ h => List.mem_append_left _ (List.mem_append_left _ (List.mem_append_right _ h))) (by decide +kernel))) (goodIn_sub (fun _ h => List.mem_append_left _ (List.mem_append_right _ h)) (by decide +kernel))
set_option maxRecDepth 20000 in
theorem gL_law_L_clear : GoodIn wsL_law (va_wsS RL 105 yL_clear wsL_clear) := goodIn_app (goodIn_of _ (by decide +kernel)) ggL_law_L_clear
set_option maxRecDepth 20000 in
theorem ggL_law_X2_clear : GoodIn wsL_law wsX2_clear := goodIn_r _ [187, 38, 92, 93, 5, 94, 95, 96, 97, 104, 105, 106, 107, 108, 497, 498, 499, 500, 501, 502, 503, 504, 505, 506, 507, 508, 509, 510, 511, 512, 513, 514] (by decide +kernel) (by decide +kernel)
set_option maxRecDepth 20000 in
theorem gL_law_X2_clear : GoodIn wsL_law (wsV RL 107 RX2 yX2_clear wsX2_clear) := goodIn_app (goodIn_of _ (by decide +kernel)) ggL_law_X2_clear
set_option maxRecDepth 20000 in
theorem ggL_law_L_part : GoodIn wsL_law wsL_part := goodIn_ca (goodIn_ca (goodIn_r _ [190, 46, 47, 191, 192, 193, 2, 194, 53, 54, 55, 56, 18, 61, 62, 63, 64, 65, 66, 489, 490, 491, 492, 493, 494, 495, 496] (by decide +kernel) (by decide +kernel)) (goodIn_sub (fun _ h => List.mem_append_left _ (List.mem_append_left _ (List.mem_append_right _ h))) (by decide +kernel))) (goodIn_sub (fun _ h => List.mem_append_left _ (List.mem_append_right _ h)) (by decide +kernel))
set_option maxRecDepth 20000 in
theorem gL_law_L_part : GoodIn wsL_law (va_wsS RL 108 yL_part wsL_part) := goodIn_app (goodIn_of _ (by decide +kernel)) ggL_law_L_part
set_option maxRecDepth 20000 in
theorem ggL_law_X2_part : GoodIn wsL_law wsX2_part := goodIn_r _ [198, 39, 92, 93, 5, 94, 95, 96, 97, 104, 105, 106, 107, 108, 497, 498, 499, 500, 501, 502, 503, 504, 505, 506, 507, 508, 509, 510, 511, 512, 513, 514] (by decide +kernel) (by decide +kernel)
set_option maxRecDepth 20000 in
theorem gL_law_X2_part : GoodIn wsL_law (wsV RL 111 RX2 yX2_part wsX2_part) := goodIn_app (goodIn_of _ (by decide +kernel)) ggL_law_X2_part
set_option maxRecDepth 20000 in
theorem ggL_law_L_lead : GoodIn wsL_law wsL_lead := goodIn_ca (goodIn_ca (goodIn_r _ [201, 46, 47, 202, 203, 204, 2, 205, 53, 54, 55, 56, 19, 61, 62, 63, 64, 65, 66, 489, 490, 491, 492, 493, 494, 495, 496] (by decide +kernel) (by decide +kernel)) (goodIn_sub (fun _ h => List.mem_append_left _ (List.mem_append_left _ (List.mem_append_right _ h))) (by decide +kernel))) (goodIn_sub (fun _ h => List.mem_append_left _ (List.mem_append_right _ h)) (by decide +kernel))
set_option maxRecDepth 20000 in
theorem gL_law_L_lead : GoodIn wsL_law (va_wsS RL 112 yL_lead wsL_lead) := goodIn_app (goodIn_of _ (by decide +kernel)) ggL_law_L_lead
set_option maxRecDepth 20000 in
theorem ggL_law_X2_lead : GoodIn wsL_law wsX2_lead := goodIn_r _ [209, 40, 92, 93, 5, 94, 95, 96, 97, 104, 105, 106, 107, 108, 497, 498, 499, 500, 501, 502, 503, 504, 505, 506, 507, 508, 509, 510, 511, 512, 513, 514] (by decide +kernel) (by decide +kernel)
set_option maxRecDepth 20000 in
theorem gL_law_X2_lead : GoodIn wsL_law (wsV RL 114 RX2 yX2_lead wsX2_lead) := goodIn_app (goodIn_of _ (by decide +kernel)) ggL_law_X2_lead
set_option maxRecDepth 20000 in
theorem ggL_law_L_order : GoodIn wsL_law wsL_order := goodIn_ca (goodIn_ca (goodIn_r _ [212, 46, 48, 213, 214, 215, 2, 216, 53, 54, 57, 58, 125, 23, 217, 218, 126, 127, 128, 129, 14, 64, 65, 66, 219, 220, 221, 222, 19, 61, 62, 63, 223, 224, 225, 60, 226, 77, 78, 227, 228, 229, 230, 18, 231, 232, 233, 234, 83, 81, 235, 236, 237, 238, 84, 82, 515, 516, 517, 518, 519, 520, 521, 522, 523, 524, 489, 490, 491, 492, 493, 494, 495, 496] (by decide +kernel) (by decide +kernel)) (goodIn_sub (fun _ h => List.mem_append_left _ (List.mem_append_left _ (List.mem_append_right _ h))) (by decide +kernel))) (goodIn_sub (fun _ h => List.mem_append_right _ h) (by decide +kernel))
set_option maxRecDepth 20000 in
theorem gL_law_L_order : GoodIn wsL_law (va_wsS RL 115 yL_order wsL_order) := goodIn_app (goodIn_of _ (by decide +kernel)) ggL_law_L_order
set_option maxRecDepth 20000 in
theorem ggL_law_X2_order : GoodIn wsL_law wsX2_order := goodIn_r _ [242, 34, 37, 243, 40, 28, 158, 159, 160, 5, 161, 91, 95, 96, 97, 104, 105, 106, 107, 108, 244, 245, 246, 247, 39, 248, 249, 250, 251, 32, 30, 33, 31, 252, 253, 254, 497, 498, 499, 500, 501, 502, 503, 504, 505, 506, 507, 508, 509, 510, 511, 512, 513, 514] (by decide +kernel) (by decide +kernel)
set_option maxRecDepth 20000 in
theorem gL_law_X2_order : GoodIn wsL_law (wsV RL 118 RX2 yX2_order wsX2_order) := goodIn_app (goodIn_of _ (by decide +kernel)) ggL_law_X2_order
set_option maxRecDepth 20000 in
theorem ggL_law_L_cancel : GoodIn wsL_law wsL_cancel := goodIn_ca (goodIn_ca (goodIn_r _ [257, 46, 48, 258, 259, 260, 2, 261, 53, 54, 57, 58, 125, 218, 23, 126, 127, 128, 129, 14, 64, 65, 66, 515, 516, 517, 518, 519, 520, 521, 522, 523, 524, 489, 490, 491, 492, 493, 494, 495, 496] (by decide +kernel) (by decide +kernel)) (goodIn_sub (fun _ h => List.mem_append_left _ (List.mem_append_left _ (List.mem_append_right _ h))) (by decide +kernel))) (goodIn_sub (fun _ h => List.mem_append_right _ h) (by decide +kernel))
set_option maxRecDepth 20000 in
theorem gL_law_L_cancel : GoodIn wsL_law (va_wsS RL 119 yL_cancel wsL_cancel) := goodIn_app (goodIn_of _ (by decide +kernel)) ggL_law_L_cancel
set_option maxRecDepth 20000 in
theorem ggL_law_X2_cancel : GoodIn wsL_law wsX2_cancel := goodIn_r _ [265, 34, 37, 243, 158, 159, 160, 5, 161, 91, 95, 96, 97, 104, 105, 106, 107, 108, 497, 498, 499, 500, 501, 502, 503, 504, 505, 506, 507, 508, 509, 510, 511, 512, 513, 514] (by decide +kernel) (by decide +kernel)
set_option maxRecDepth 20000 in
theorem gL_law_X2_cancel : GoodIn wsL_law (wsV RL 121 RX2 yX2_cancel wsX2_cancel) := goodIn_app (goodIn_of _ (by decide +kernel)) ggL_law_X2_cancel
set_option maxRecDepth 20000 in
theorem ggL_law_L_build : GoodIn wsL_law wsL_build := goodIn_ca (goodIn_ca (goodIn_r _ [268, 46, 48, 269, 270, 271, 2, 272, 53, 54, 57, 58, 125, 126, 127, 128, 129, 14, 64, 65, 66, 273, 274, 275, 276, 15, 277, 278, 279, 280, 281, 217, 282, 283, 284, 60, 285, 77, 286, 287, 288, 289, 81, 83, 82, 84, 290, 291, 237, 292, 293, 294, 295, 296, 297, 298, 299, 300, 301, 302, 17, 61, 62, 63, 515, 516, 517, 518, 519, 520, 521, 522, 523, 524, 489, 490, 491, 492, 493, 494, 495, 496] (by decide +kernel) (by decide +kernel)) (goodIn_sub (fun _ h => List.mem_append_left _ (List.mem_append_left _ (List.mem_append_right _ h))) (by decide +kernel))) (goodIn_sub (fun _ h => List.mem_append_right _ h) (by decide +kernel))
set_option maxRecDepth 20000 in
theorem gL_law_L_build : GoodIn wsL_law (va_wsS RL 122 yL_build wsL_build) := goodIn_app (goodIn_of _ (by decide +kernel)) ggL_law_L_build
set_option maxRecDepth 20000 in
theorem ggL_law_X2_build : GoodIn wsL_law wsX2_build := goodIn_r _ [306, 34, 158, 159, 160, 5, 161, 91, 95, 96, 97, 104, 105, 106, 107, 108, 307, 308, 309, 310, 311, 312, 313, 314, 29, 30, 32, 31, 33, 38, 28, 315, 316, 317, 497, 498, 499, 500, 501, 502, 503, 504, 505, 506, 507, 508, 509, 510, 511, 512, 513, 514] (by decide +kernel) (by decide +kernel)
set_option maxRecDepth 20000 in
theorem gL_law_X2_build : GoodIn wsL_law (wsV RL 124 RX2 yX2_build wsX2_build) := goodIn_app (goodIn_of _ (by decide +kernel)) ggL_law_X2_build
set_option maxRecDepth 20000 in
theorem ggL_law_L_inspect : GoodIn wsL_law wsL_inspect := goodIn_ca (goodIn_ca (goodIn_r _ [320, 46, 48, 321, 322, 323, 2, 324, 53, 54, 57, 58, 21, 67, 68, 69, 64, 65, 66, 325, 326, 327, 328, 15, 281, 125, 126, 127, 128, 129, 14, 282, 283, 284, 60, 285, 77, 273, 274, 275, 276, 277, 278, 279, 280, 217, 286, 287, 288, 289, 81, 83, 82, 84, 290, 291, 237, 292, 293, 294, 295, 296, 297, 298, 299, 300, 301, 302, 17, 61, 62, 63, 489, 490, 491, 492, 493, 494, 495, 496, 515, 516, 517, 518, 519, 520, 521, 522, 523, 524] (by decide +kernel) (by decide +kernel)) (goodIn_sub (fun _ h => List.mem_append_left _ (List.mem_append_left _ (List.mem_append_right _ h))) (by decide +kernel))) (goodIn_sub (fun _ h => List.mem_append_right _ h) (by decide +kernel))
set_option maxRecDepth 20000 in
theorem gL_law_L_inspect : GoodIn wsL_law (va_wsS RL 125 yL_inspect wsL_inspect) := goodIn_app (goodIn_of _ (by decide +kernel)) ggL_law_L_inspect
set_option maxRecDepth 20000 in
theorem ggL_law_X2_inspect : GoodIn wsL_law wsX2_inspect := goodIn_r _ [332, 41, 91, 29, 34, 98, 99, 5, 100, 95, 96, 97, 104, 105, 106, 107, 108, 307, 308, 309, 310, 311, 312, 313, 314, 30, 32, 31, 33, 38, 28, 315, 316, 317, 497, 498, 499, 500, 501, 502, 503, 504, 505, 506, 507, 508, 509, 510, 511, 512, 513, 514] (by decide +kernel) (by decide +kernel)
set_option maxRecDepth 20000 in
theorem gL_law_X2_inspect : GoodIn wsL_law (wsV RL 127 RX2 yX2_inspect wsX2_inspect) := goodIn_app (goodIn_of _ (by decide +kernel)) ggL_law_X2_inspect
set_option maxRecDepth 20000 in
theorem ggL_law_L_pass : GoodIn wsL_law wsL_pass := goodIn_ca (goodIn_ca (goodIn_r _ [335, 47, 48, 336, 337, 338, 2, 339, 55, 56, 57, 58, 23, 15, 64, 65, 66, 126, 127, 128, 129, 14, 223, 224, 225, 60, 226, 77, 78, 489, 490, 491, 492, 493, 494, 495, 496, 515, 516, 517, 518, 519, 520, 521, 522, 523, 524] (by decide +kernel) (by decide +kernel)) (goodIn_sub (fun _ h => List.mem_append_left _ (List.mem_append_right _ h)) (by decide +kernel))) (goodIn_sub (fun _ h => List.mem_append_right _ h) (by decide +kernel))
set_option maxRecDepth 20000 in
theorem gL_law_L_pass : GoodIn wsL_law (va_wsS RL 128 yL_pass wsL_pass) := goodIn_app (goodIn_of _ (by decide +kernel)) ggL_law_L_pass
set_option maxRecDepth 20000 in
theorem ggL_law_X2_pass : GoodIn wsL_law wsX2_pass := goodIn_r _ [343, 243, 91, 34, 37, 95, 96, 5, 97, 104, 105, 106, 107, 108, 497, 498, 499, 500, 501, 502, 503, 504, 505, 506, 507, 508, 509, 510, 511, 512, 513, 514] (by decide +kernel) (by decide +kernel)
set_option maxRecDepth 20000 in
theorem gL_law_X2_pass : GoodIn wsL_law (wsV RL 130 RX2 yX2_pass wsX2_pass) := goodIn_app (goodIn_of _ (by decide +kernel)) ggL_law_X2_pass
set_option maxRecDepth 20000 in
theorem ggL_law_X1_day : GoodIn wsL_law wsX1_day := goodIn_r _ [347, 23, 489, 490, 491, 492, 493, 494, 495, 496] (by decide +kernel) (by decide +kernel)
set_option maxRecDepth 20000 in
theorem gL_law_X1_day : GoodIn wsL_law (wsV RL 131 RX1 yX1_day wsX1_day) := goodIn_app (goodIn_of _ (by decide +kernel)) ggL_law_X1_day
set_option maxRecDepth 20000 in
theorem ggL_law_X2_day : GoodIn wsL_law wsX2_day := goodIn_r _ [351, 108, 243, 497, 498, 499, 500, 501, 502, 503, 504, 505, 506, 507, 508, 509, 510, 511, 512, 513, 514] (by decide +kernel) (by decide +kernel)
set_option maxRecDepth 20000 in
theorem gL_law_X2_day : GoodIn wsL_law (wsV RL 134 RX2 yX2_day wsX2_day) := goodIn_app (goodIn_of _ (by decide +kernel)) ggL_law_X2_day
set_option maxRecDepth 20000 in
theorem ggL_law_X1_revision : GoodIn wsL_law wsX1_revision := goodIn_r _ [355, 22, 489, 490, 491, 492, 493, 494, 495, 496] (by decide +kernel) (by decide +kernel)
set_option maxRecDepth 20000 in
theorem gL_law_X1_revision : GoodIn wsL_law (wsV RL 135 RX1 yX1_revision wsX1_revision) := goodIn_app (goodIn_of _ (by decide +kernel)) ggL_law_X1_revision
set_option maxRecDepth 20000 in
theorem ggL_law_X2_revision : GoodIn wsL_law wsX2_revision := goodIn_r _ [359, 108, 113, 497, 498, 499, 500, 501, 502, 503, 504, 505, 506, 507, 508, 509, 510, 511, 512, 513, 514] (by decide +kernel) (by decide +kernel)
set_option maxRecDepth 20000 in
theorem gL_law_X2_revision : GoodIn wsL_law (wsV RL 138 RX2 yX2_revision wsX2_revision) := goodIn_app (goodIn_of _ (by decide +kernel)) ggL_law_X2_revision
set_option maxRecDepth 20000 in
theorem ggL_law_L_elementOf : GoodIn wsL_law wsL_elementOf := goodIn_ca (goodIn_ca (goodIn_r _ [362, 46, 47, 363, 364, 365, 2, 366, 53, 54, 55, 56, 217, 281, 367, 368, 369, 370, 125, 144, 145, 126, 127, 128, 129, 14, 64, 65, 66, 231, 232, 233, 60, 234, 83, 81, 235, 236, 237, 238, 84, 82, 515, 516, 517, 518, 519, 520, 521, 522, 523, 524, 489, 490, 491, 492, 493, 494, 495, 496] (by decide +kernel) (by decide +kernel)) (goodIn_sub (fun _ h => List.mem_append_left _ (List.mem_append_left _ (List.mem_append_right _ h))) (by decide +kernel))) (goodIn_sub (fun _ h => List.mem_append_left _ (List.mem_append_right _ h)) (by decide +kernel))
set_option maxRecDepth 20000 in
theorem gL_law_L_elementOf : GoodIn wsL_law (va_wsS RL 139 yL_elementOf wsL_elementOf) := goodIn_app (goodIn_of _ (by decide +kernel)) ggL_law_L_elementOf
set_option maxRecDepth 20000 in
theorem ggL_law_X2_elementOf : GoodIn wsL_law wsX2_elementOf := goodIn_r _ [374, 28, 29, 30, 31, 32, 33, 34, 35, 36, 158, 159, 160, 5, 161, 91, 95, 96, 97, 104, 105, 106, 107, 108, 248, 249, 250, 251, 252, 253, 254, 497, 498, 499, 500, 501, 502, 503, 504, 505, 506, 507, 508, 509, 510, 511, 512, 513, 514] (by decide +kernel) (by decide +kernel)
set_option maxRecDepth 20000 in
theorem gL_law_X2_elementOf : GoodIn wsL_law (wsV RL 141 RX2 yX2_elementOf wsX2_elementOf) := goodIn_app (goodIn_of _ (by decide +kernel)) ggL_law_X2_elementOf
set_option maxRecDepth 20000 in
theorem ggL_law_L_clash : GoodIn wsL_law wsL_clash := goodIn_ca (goodIn_r _ [377, 46, 378, 379, 380, 2, 381, 53, 54, 126, 127, 128, 129, 14, 64, 65, 66, 277, 278, 279, 280, 281, 217, 282, 283, 284, 60, 285, 77, 286, 287, 288, 289, 81, 83, 82, 84, 290, 291, 237, 292, 293, 294, 295, 296, 297, 298, 299, 300, 301, 302, 17, 61, 62, 63, 489, 490, 491, 492, 493, 494, 495, 496, 515, 516, 517, 518, 519, 520, 521, 522, 523, 524] (by decide +kernel) (by decide +kernel)) (goodIn_sub (fun _ h => List.mem_append_left _ (List.mem_append_left _ (List.mem_append_right _ h))) (by decide +kernel))
set_option maxRecDepth 20000 in
theorem gL_law_L_clash : GoodIn wsL_law (va_wsS RL 142 yL_clash wsL_clash) := goodIn_app (goodIn_of _ (by decide +kernel)) ggL_law_L_clash
set_option maxRecDepth 20000 in
theorem ggL_law_X2_clash : GoodIn wsL_law wsX2_clash := goodIn_r _ [385, 158, 159, 160, 5, 161, 91, 95, 96, 97, 104, 105, 106, 107, 108, 311, 312, 313, 314, 34, 29, 30, 32, 31, 33, 38, 28, 315, 316, 317, 497, 498, 499, 500, 501, 502, 503, 504, 505, 506, 507, 508, 509, 510, 511, 512, 513, 514] (by decide +kernel) (by decide +kernel)
set_option maxRecDepth 20000 in
theorem gL_law_X2_clash : GoodIn wsL_law (wsV RL 144 RX2 yX2_clash wsX2_clash) := goodIn_app (goodIn_of _ (by decide +kernel)) ggL_law_X2_clash
set_option maxRecDepth 20000 in
theorem ggL_law_L_clashes : GoodIn wsL_law wsL_clashes := goodIn_ca (goodIn_r _ [388, 46, 389, 390, 391, 2, 392, 53, 54, 15, 67, 68, 69, 64, 65, 66, 393, 394, 395, 396, 281, 126, 127, 128, 129, 14, 397, 398, 399, 400, 277, 278, 279, 280, 217, 282, 283, 284, 60, 285, 77, 286, 287, 288, 289, 81, 83, 82, 84, 290, 291, 237, 292, 293, 294, 295, 296, 297, 298, 299, 300, 301, 302, 17, 61, 62, 63, 489, 490, 491, 492, 493, 494, 495, 496, 515, 516, 517, 518, 519, 520, 521, 522, 523, 524] (by decide +kernel) (by decide +kernel)) (goodIn_sub (fun _ h => List.mem_append_left _ (List.mem_append_left _ (List.mem_append_right _ h))) (by decide +kernel))
set_option maxRecDepth 20000 in
theorem gL_law_L_clashes : GoodIn wsL_law (va_wsS RL 145 yL_clashes wsL_clashes) := goodIn_app (goodIn_of _ (by decide +kernel)) ggL_law_L_clashes
set_option maxRecDepth 20000 in
theorem ggL_law_X2_clashes : GoodIn wsL_law wsX2_clashes := goodIn_r _ [404, 91, 29, 98, 99, 5, 100, 95, 96, 97, 104, 105, 106, 107, 108, 311, 312, 313, 314, 34, 30, 32, 31, 33, 38, 28, 315, 316, 317, 497, 498, 499, 500, 501, 502, 503, 504, 505, 506, 507, 508, 509, 510, 511, 512, 513, 514] (by decide +kernel) (by decide +kernel)
set_option maxRecDepth 20000 in
theorem gL_law_X2_clashes : GoodIn wsL_law (wsV RL 147 RX2 yX2_clashes wsX2_clashes) := goodIn_app (goodIn_of _ (by decide +kernel)) ggL_law_X2_clashes
set_option maxRecDepth 20000 in
theorem ggL_law_L_isStopped : GoodIn wsL_law wsL_isStopped := goodIn_ca (goodIn_r _ [407, 46, 408, 409, 410, 2, 411, 53, 54, 15, 217, 281, 61, 62, 63, 64, 65, 66, 67, 68, 69, 126, 127, 128, 129, 14, 273, 274, 275, 276, 277, 278, 279, 280, 282, 283, 284, 60, 285, 77, 286, 287, 288, 289, 81, 83, 82, 84, 290, 291, 237, 292, 293, 294, 295, 296, 297, 298, 299, 300, 301, 302, 17, 489, 490, 491, 492, 493, 494, 495, 496, 515, 516, 517, 518, 519, 520, 521, 522, 523, 524] (by decide +kernel) (by decide +kernel)) (goodIn_sub (fun _ h => List.mem_append_left _ (List.mem_append_left _ (List.mem_append_right _ h))) (by decide +kernel))
set_option maxRecDepth 20000 in
theorem gL_law_L_isStopped : GoodIn wsL_law (va_wsS RL 148 yL_isStopped wsL_isStopped) := goodIn_app (goodIn_of _ (by decide +kernel)) ggL_law_L_isStopped
set_option maxRecDepth 20000 in
theorem ggL_law_X2_isStopped : GoodIn wsL_law wsX2_isStopped := goodIn_r _ [415, 91, 28, 29, 92, 93, 5, 94, 95, 96, 97, 98, 99, 100, 104, 105, 106, 107, 108, 307, 308, 309, 310, 311, 312, 313, 314, 34, 30, 32, 31, 33, 38, 315, 316, 317, 497, 498, 499, 500, 501, 502, 503, 504, 505, 506, 507, 508, 509, 510, 511, 512, 513, 514] (by decide +kernel) (by decide +kernel)
set_option maxRecDepth 20000 in
theorem gL_law_X2_isStopped : GoodIn wsL_law (wsV RL 150 RX2 yX2_isStopped wsX2_isStopped) := goodIn_app (goodIn_of _ (by decide +kernel)) ggL_law_X2_isStopped
set_option maxRecDepth 20000 in
theorem ggL_law_L_parts : GoodIn wsL_law wsL_parts := goodIn_ca (goodIn_r _ [418, 46, 419, 420, 421, 2, 422, 53, 54, 61, 62, 63, 64, 65, 66, 423, 424, 425, 426, 15, 217, 125, 126, 127, 128, 129, 14, 227, 228, 229, 230, 18, 231, 232, 233, 60, 234, 83, 81, 235, 236, 237, 238, 84, 82, 489, 490, 491, 492, 493, 494, 495, 496, 515, 516, 517, 518, 519, 520, 521, 522, 523, 524] (by decide +kernel) (by decide +kernel)) (goodIn_sub (fun _ h => List.mem_append_left _ (List.mem_append_left _ (List.mem_append_right _ h))) (by decide +kernel))
set_option maxRecDepth 20000 in
theorem gL_law_L_parts : GoodIn wsL_law (va_wsS RL 151 yL_parts wsL_parts) := goodIn_app (goodIn_of _ (by decide +kernel)) ggL_law_L_parts
set_option maxRecDepth 20000 in
theorem ggL_law_X2_parts : GoodIn wsL_law wsX2_parts := goodIn_r _ [430, 92, 93, 5, 94, 95, 96, 97, 104, 105, 106, 107, 108, 431, 432, 433, 434, 91, 28, 34, 244, 245, 246, 247, 39, 248, 249, 250, 251, 32, 30, 33, 31, 252, 253, 254, 497, 498, 499, 500, 501, 502, 503, 504, 505, 506, 507, 508, 509, 510, 511, 512, 513, 514] (by decide +kernel) (by decide +kernel)
set_option maxRecDepth 20000 in
theorem gL_law_X2_parts : GoodIn wsL_law (wsV RL 153 RX2 yX2_parts wsX2_parts) := goodIn_app (goodIn_of _ (by decide +kernel)) ggL_law_X2_parts
set_option maxRecDepth 20000 in
theorem ggL_law_L_partsAnew : GoodIn wsL_law wsL_partsAnew := goodIn_ca (goodIn_r _ [437, 46, 438, 439, 440, 2, 441, 53, 54, 15, 217, 18, 61, 62, 63, 64, 65, 66, 126, 127, 128, 129, 14, 282, 283, 284, 60, 285, 77, 442, 443, 444, 445, 446, 447, 448, 449, 81, 83, 296, 297, 237, 298, 290, 291, 292, 82, 84, 489, 490, 491, 492, 493, 494, 495, 496, 515, 516, 517, 518, 519, 520, 521, 522, 523, 524] (by decide +kernel) (by decide +kernel)) (goodIn_sub (fun _ h => List.mem_append_left _ (List.mem_append_left _ (List.mem_append_right _ h))) (by decide +kernel))
set_option maxRecDepth 20000 in
theorem gL_law_L_partsAnew : GoodIn wsL_law (va_wsS RL 154 yL_partsAnew wsL_partsAnew) := goodIn_app (goodIn_of _ (by decide +kernel)) ggL_law_L_partsAnew
set_option maxRecDepth 20000 in
theorem ggL_law_X2_partsAnew : GoodIn wsL_law wsX2_partsAnew := goodIn_r _ [453, 454, 428, 429, 5, 430, 92, 93, 94, 95, 96, 97, 104, 105, 106, 107, 108, 431, 432, 433, 434, 91, 28, 34, 244, 245, 246, 247, 39, 248, 249, 250, 251, 32, 30, 33, 31, 252, 253, 254, 497, 498, 499, 500, 501, 502, 503, 504, 505, 506, 507, 508, 509, 510, 511, 512, 513, 514] (by decide +kernel) (by decide +kernel)
set_option maxRecDepth 20000 in
theorem gL_law_X2_partsAnew : GoodIn wsL_law (wsV RL 156 RX2 yX2_partsAnew wsX2_partsAnew) := goodIn_app (goodIn_of _ (by decide +kernel)) ggL_law_X2_partsAnew
set_option maxRecDepth 20000 in
theorem ggL_law_L_ordered : GoodIn wsL_law wsL_ordered := goodIn_ca (goodIn_r _ [457, 46, 458, 459, 460, 2, 461, 53, 54, 61, 62, 63, 64, 65, 66, 423, 424, 425, 426, 15, 217, 125, 126, 127, 128, 129, 14, 227, 228, 229, 230, 18, 231, 232, 233, 60, 234, 83, 81, 235, 236, 237, 238, 84, 82, 489, 490, 491, 492, 493, 494, 495, 496, 515, 516, 517, 518, 519, 520, 521, 522, 523, 524] (by decide +kernel) (by decide +kernel)) (goodIn_sub (fun _ h => List.mem_append_left _ (List.mem_append_left _ (List.mem_append_right _ h))) (by decide +kernel))
set_option maxRecDepth 20000 in
theorem gL_law_L_ordered : GoodIn wsL_law (va_wsS RL 157 yL_ordered wsL_ordered) := goodIn_app (goodIn_of _ (by decide +kernel)) ggL_law_L_ordered
set_option maxRecDepth 20000 in
theorem ggL_law_X2_ordered : GoodIn wsL_law wsX2_ordered := goodIn_r _ [465, 92, 93, 5, 94, 95, 96, 97, 104, 105, 106, 107, 108, 431, 432, 433, 434, 91, 28, 34, 244, 245, 246, 247, 39, 248, 249, 250, 251, 32, 30, 33, 31, 252, 253, 254, 497, 498, 499, 500, 501, 502, 503, 504, 505, 506, 507, 508, 509, 510, 511, 512, 513, 514] (by decide +kernel) (by decide +kernel)
set_option maxRecDepth 20000 in
theorem gL_law_X2_ordered : GoodIn wsL_law (wsV RL 159 RX2 yX2_ordered wsX2_ordered) := goodIn_app (goodIn_of _ (by decide +kernel)) ggL_law_X2_ordered
set_option maxRecDepth 20000 in
theorem ggL_law_L_kindsAt : GoodIn wsL_law wsL_kindsAt := goodIn_ca (goodIn_ca (goodIn_r _ [468, 46, 47, 469, 470, 471, 2, 472, 53, 54, 55, 56, 15, 281, 217, 67, 68, 69, 64, 65, 66, 70, 71, 72, 126, 127, 128, 129, 14, 282, 283, 284, 60, 285, 77, 473, 447, 448, 449, 81, 83, 296, 297, 237, 298, 290, 291, 292, 82, 84, 489, 490, 491, 492, 493, 494, 495, 496, 515, 516, 517, 518, 519, 520, 521, 522, 523, 524] (by decide +kernel) (by decide +kernel)) (goodIn_sub (fun _ h => List.mem_append_left _ (List.mem_append_left _ (List.mem_append_right _ h))) (by decide +kernel))) (goodIn_sub (fun _ h => List.mem_append_left _ (List.mem_append_right _ h)) (by decide +kernel))
set_option maxRecDepth 20000 in
theorem gL_law_L_kindsAt : GoodIn wsL_law (va_wsS RL 160 yL_kindsAt wsL_kindsAt) := goodIn_app (goodIn_of _ (by decide +kernel)) ggL_law_L_kindsAt
set_option maxRecDepth 20000 in
theorem ggL_law_X2_kindsAt : GoodIn wsL_law wsX2_kindsAt := goodIn_r _ [477, 91, 34, 29, 30, 32, 31, 33, 28, 98, 99, 5, 100, 95, 96, 97, 101, 102, 103, 104, 105, 106, 107, 108, 315, 316, 317, 497, 498, 499, 500, 501, 502, 503, 504, 505, 506, 507, 508, 509, 510, 511, 512, 513, 514] (by decide +kernel) (by decide +kernel)
set_option maxRecDepth 20000 in
theorem gL_law_X2_kindsAt : GoodIn wsL_law (wsV RL 162 RX2 yX2_kindsAt wsX2_kindsAt) := goodIn_app (goodIn_of _ (by decide +kernel)) ggL_law_X2_kindsAt
set_option maxRecDepth 20000 in
theorem ggL_law_L_isLocked : GoodIn wsL_law wsL_isLocked := goodIn_ca (goodIn_r _ [480, 46, 481, 482, 483, 2, 484, 53, 54, 21, 67, 68, 69, 64, 65, 66, 489, 490, 491, 492, 493, 494, 495, 496] (by decide +kernel) (by decide +kernel)) (goodIn_sub (fun _ h => List.mem_append_left _ (List.mem_append_left _ (List.mem_append_right _ h))) (by decide +kernel))
set_option maxRecDepth 20000 in
theorem gL_law_L_isLocked : GoodIn wsL_law (va_wsS RL 163 yL_isLocked wsL_isLocked) := goodIn_app (goodIn_of _ (by decide +kernel)) ggL_law_L_isLocked
set_option maxRecDepth 20000 in
theorem ggL_law_X2_isLocked : GoodIn wsL_law wsX2_isLocked := goodIn_r _ [488, 41, 98, 99, 5, 100, 95, 96, 97, 104, 105, 106, 107, 108, 497, 498, 499, 500, 501, 502, 503, 504, 505, 506, 507, 508, 509, 510, 511, 512, 513, 514] (by decide +kernel) (by decide +kernel)
set_option maxRecDepth 20000 in
theorem gL_law_X2_isLocked : GoodIn wsL_law (wsV RL 165 RX2 yX2_isLocked wsX2_isLocked) := goodIn_app (goodIn_of _ (by decide +kernel)) ggL_law_X2_isLocked
