set_option maxRecDepth 20000 in
theorem gX1_partsInStates_X1_find : GoodIn wsX1_partsInStates (wsV RX1 74 RX1 yX1_find wsX1_find) := goodIn_app (goodIn_of _ (by decide +kernel)) ggX1_partsInStates_X1_find
set_option maxRecDepth 20000 in
theorem ggX1_partsInStates_X1_isWithin : GoodIn wsX1_partsInStates wsX1_isWithin := goodIn_r _ [12] (by decide +kernel) (by decide +kernel)
set_option maxRecDepth 20000 in
theorem gX1_partsInStates_X1_isWithin : GoodIn wsX1_partsInStates (va_wsS RX1 112 yX1_isWithin wsX1_isWithin) := goodIn_app (goodIn_of _ (by decide +kernel)) ggX1_partsInStates_X1_isWithin
set_option maxRecDepth 20000 in
theorem ggX1_partsInStates_X1_partsOf : GoodIn wsX1_partsInStates wsX1_partsOf := goodIn_r _ [16, 2, 17, 18, 19, 7, 20, 10, 11, 12, 21, 22, 23, 24, 25, 26, 27, 28, 29, 30, 31, 32, 33, 42, 43, 44, 45, 46, 47, 48, 49, 50, 51, 34, 35, 36, 37, 38, 39, 40, 41] (by decide +kernel) (by decide +kernel)
set_option maxRecDepth 20000 in
theorem gX1_partsInStates_X1_partsOf : GoodIn wsX1_partsInStates (wsV RX1 136 RX1 yX1_partsOf wsX1_partsOf) := goodIn_app (goodIn_of _ (by decide +kernel)) ggX1_partsInStates_X1_partsOf
theorem dX1_partsInStates_0 : decode cX1_partsInStates 0 = .ok (.iconst 0, 1) := by decide +kernel
theorem dX1_partsInStates_1 : decode cX1_partsInStates 1 = .ok (.istore 4, 2) := by decide +kernel
theorem dX1_partsInStates_3 : decode cX1_partsInStates 3 = .ok (.iconst 0, 1) := by decide +kernel
theorem dX1_partsInStates_4 : decode cX1_partsInStates 4 = .ok (.istore 5, 2) := by decide +kernel
theorem dX1_partsInStates_6 : decode cX1_partsInStates 6 = .ok (.iload 5, 2) := by decide +kernel
theorem dX1_partsInStates_8 : decode cX1_partsInStates 8 = .ok (.aload_n 0, 1) := by decide +kernel
theorem dX1_partsInStates_9 : decode cX1_partsInStates 9 = .ok (.getfield 15, 3) := by decide +kernel
theorem dX1_partsInStates_12 : decode cX1_partsInStates 12 = .ok (.if_icmp .ge 55, 3) := by decide +kernel
theorem dX1_partsInStates_15 : decode cX1_partsInStates 15 = .ok (.aload_n 0, 1) := by decide +kernel
theorem dX1_partsInStates_16 : decode cX1_partsInStates 16 = .ok (.iload 5, 2) := by decide +kernel
theorem dX1_partsInStates_18 : decode cX1_partsInStates 18 = .ok (.invokevirtual 74, 3) := by decide +kernel
theorem dX1_partsInStates_21 : decode cX1_partsInStates 21 = .ok (.astore 6, 2) := by decide +kernel
theorem dX1_partsInStates_23 : decode cX1_partsInStates 23 = .ok (.aload 6, 2) := by decide +kernel
theorem dX1_partsInStates_25 : decode cX1_partsInStates 25 = .ok (.ifnull 36, 3) := by decide +kernel
theorem dX1_partsInStates_28 : decode cX1_partsInStates 28 = .ok (.aload 6, 2) := by decide +kernel
theorem dX1_partsInStates_30 : decode cX1_partsInStates 30 = .ok (.getfield 122, 3) := by decide +kernel
theorem dX1_partsInStates_33 : decode cX1_partsInStates 33 = .ok (.iload_n 1, 1) := by decide +kernel
theorem dX1_partsInStates_34 : decode cX1_partsInStates 34 = .ok (.if_icmp .ne 27, 3) := by decide +kernel
theorem dX1_partsInStates_37 : decode cX1_partsInStates 37 = .ok (.aload 6, 2) := by decide +kernel
theorem dX1_partsInStates_39 : decode cX1_partsInStates 39 = .ok (.getfield 93, 3) := by decide +kernel
theorem dX1_partsInStates_42 : decode cX1_partsInStates 42 = .ok (.iload_n 2, 1) := by decide +kernel
theorem dX1_partsInStates_43 : decode cX1_partsInStates 43 = .ok (.iload_n 3, 1) := by decide +kernel
theorem dX1_partsInStates_44 : decode cX1_partsInStates 44 = .ok (.invokestatic 112, 3) := by decide +kernel
theorem dX1_partsInStates_47 : decode cX1_partsInStates 47 = .ok (.ifCond .eq 14, 3) := by decide +kernel
theorem dX1_partsInStates_50 : decode cX1_partsInStates 50 = .ok (.iload 4, 2) := by decide +kernel
theorem dX1_partsInStates_52 : decode cX1_partsInStates 52 = .ok (.aload_n 0, 1) := by decide +kernel
theorem dX1_partsInStates_53 : decode cX1_partsInStates 53 = .ok (.aload 6, 2) := by decide +kernel
theorem dX1_partsInStates_55 : decode cX1_partsInStates 55 = .ok (.invokevirtual 136, 3) := by decide +kernel
theorem dX1_partsInStates_58 : decode cX1_partsInStates 58 = .ok (.iadd, 1) := by decide +kernel
theorem dX1_partsInStates_59 : decode cX1_partsInStates 59 = .ok (.istore 4, 2) := by decide +kernel
theorem dX1_partsInStates_61 : decode cX1_partsInStates 61 = .ok (.iinc 5 1, 3) := by decide +kernel
theorem dX1_partsInStates_64 : decode cX1_partsInStates 64 = .ok (.goto (-58), 3) := by decide +kernel
theorem dX1_partsInStates_67 : decode cX1_partsInStates 67 = .ok (.iload 4, 2) := by decide +kernel
theorem dX1_partsInStates_69 : decode cX1_partsInStates 69 = .ok (.ireturn, 1) := by decide +kernel
theorem dJ9_abs_0f7a4_0 : decode cJ9_abs_0f7a4 0 = .ok (.iload_n 0, 1) := by decide +kernel
theorem dJ9_abs_0f7a4_1 : decode cJ9_abs_0f7a4 1 = .ok (.ifCond .ge 8, 3) := by decide +kernel
theorem dJ9_abs_0f7a4_4 : decode cJ9_abs_0f7a4 4 = .ok (.iload_n 0, 1) := by decide +kernel
theorem dJ9_abs_0f7a4_5 : decode cJ9_abs_0f7a4 5 = .ok (.ineg, 1) := by decide +kernel
theorem dJ9_abs_0f7a4_6 : decode cJ9_abs_0f7a4 6 = .ok (.goto 4, 3) := by decide +kernel
theorem dJ9_abs_0f7a4_9 : decode cJ9_abs_0f7a4 9 = .ok (.iload_n 0, 1) := by decide +kernel
theorem dJ9_abs_0f7a4_10 : decode cJ9_abs_0f7a4 10 = .ok (.ireturn, 1) := by decide +kernel
theorem dJ9_max_7cf53_0 : decode cJ9_max_7cf53 0 = .ok (.iload_n 0, 1) := by decide +kernel
theorem dJ9_max_7cf53_1 : decode cJ9_max_7cf53 1 = .ok (.iload_n 1, 1) := by decide +kernel
theorem dJ9_max_7cf53_2 : decode cJ9_max_7cf53 2 = .ok (.if_icmp .lt 7, 3) := by decide +kernel
theorem dJ9_max_7cf53_5 : decode cJ9_max_7cf53 5 = .ok (.iload_n 0, 1) := by decide +kernel
theorem dJ9_max_7cf53_6 : decode cJ9_max_7cf53 6 = .ok (.goto 4, 3) := by decide +kernel
theorem dJ9_max_7cf53_9 : decode cJ9_max_7cf53 9 = .ok (.iload_n 1, 1) := by decide +kernel
theorem dJ9_max_7cf53_10 : decode cJ9_max_7cf53 10 = .ok (.ireturn, 1) := by decide +kernel
theorem dJ9_min_7cf53_0 : decode cJ9_min_7cf53 0 = .ok (.iload_n 0, 1) := by decide +kernel
theorem dJ9_min_7cf53_1 : decode cJ9_min_7cf53 1 = .ok (.iload_n 1, 1) := by decide +kernel
theorem dJ9_min_7cf53_2 : decode cJ9_min_7cf53 2 = .ok (.if_icmp .gt 7, 3) := by decide +kernel
theorem dJ9_min_7cf53_5 : decode cJ9_min_7cf53 5 = .ok (.iload_n 0, 1) := by decide +kernel
theorem dJ9_min_7cf53_6 : decode cJ9_min_7cf53 6 = .ok (.goto 4, 3) := by decide +kernel
theorem dJ9_min_7cf53_9 : decode cJ9_min_7cf53 9 = .ok (.iload_n 1, 1) := by decide +kernel
theorem dJ9_min_7cf53_10 : decode cJ9_min_7cf53 10 = .ok (.ireturn, 1) := by decide +kernel
set_option maxRecDepth 20000 in
theorem ggL_add_X1_add : GoodIn wsL_add wsX1_add := goodIn_ca (goodIn_ca (goodIn_ca (goodIn_r _ [11, 12, 13, 14, 15, 16, 17, 18, 19, 20, 21, 22, 23, 24, 25, 26, 10, 27, 28, 29, 30, 31, 32, 33, 34, 35, 36, 37, 38, 39, 40, 41, 42, 43, 44, 45, 46, 47, 48, 49, 50, 51, 52, 53, 54, 55, 56, 57, 58, 59, 60, 61, 62, 63, 64, 65, 66, 67, 68, 69, 70] (by decide +kernel) (by decide +kernel)) (goodIn_sub (fun _ h => List.mem_cons_of_mem _ (List.mem_append_left _ (List.mem_append_left _ (List.mem_append_right _ h)))) (by decide +kernel))) (goodIn_sub (fun _ h => List.mem_cons_of_mem _ (List.mem_append_left _ (List.mem_append_right _ h))) (by decide +kernel))) (goodIn_sub (fun _ h => List.mem_cons_of_mem _ (List.mem_append_right _ h)) (by decide +kernel))
set_option maxRecDepth 20000 in
theorem gL_add_X1_add : GoodIn wsL_add (wsV RL 7 RX1 yX1_add wsX1_add) := goodIn_app (goodIn_of _ (by decide +kernel)) ggL_add_X1_add
theorem dL_add_0 : decode cL_add 0 = .ok (.aload_n 0, 1) := by decide +kernel
theorem dL_add_1 : decode cL_add 1 = .ok (.iload_n 1, 1) := by decide +kernel
theorem dL_add_2 : decode cL_add 2 = .ok (.iload_n 2, 1) := by decide +kernel
theorem dL_add_3 : decode cL_add 3 = .ok (.iload_n 3, 1) := by decide +kernel
theorem dL_add_4 : decode cL_add 4 = .ok (.iload 4, 2) := by decide +kernel
theorem dL_add_6 : decode cL_add 6 = .ok (.iload 5, 2) := by decide +kernel
theorem dL_add_8 : decode cL_add 8 = .ok (.iload 6, 2) := by decide +kernel
theorem dL_add_10 : decode cL_add 10 = .ok (.invokevirtual 7, 3) := by decide +kernel
theorem dL_add_13 : decode cL_add 13 = .ok (.ireturn, 1) := by decide +kernel
theorem dL_add_14 : decode cL_add 14 = .ok (.astore 7, 2) := by decide +kernel
theorem dL_add_16 : decode cL_add 16 = .ok (.ldc 15, 2) := by decide +kernel
theorem dL_add_18 : decode cL_add 18 = .ok (.ireturn, 1) := by decide +kernel
theorem dL_add_19 : decode cL_add 19 = .ok (.astore 7, 2) := by decide +kernel
theorem dL_add_21 : decode cL_add 21 = .ok (.ldc 18, 2) := by decide +kernel
theorem dL_add_23 : decode cL_add 23 = .ok (.ireturn, 1) := by decide +kernel
theorem dL_add_24 : decode cL_add 24 = .ok (.astore 7, 2) := by decide +kernel
theorem dL_add_26 : decode cL_add 26 = .ok (.ldc 21, 2) := by decide +kernel
theorem dL_add_28 : decode cL_add 28 = .ok (.ireturn, 1) := by decide +kernel
set_option maxRecDepth 20000 in
theorem ggL_move_X1_move : GoodIn wsL_move wsX1_move := goodIn_ca (goodIn_ca (goodIn_ca (goodIn_r _ [11, 12, 13, 14, 15, 16, 17, 18, 19, 20, 21, 10, 22, 23, 24, 25, 26, 27, 28, 29, 30, 31, 32, 33, 34, 35, 36, 37, 38, 39, 40, 41, 42, 43, 44, 45, 46, 47, 48, 49, 50, 51, 52, 53, 54, 55, 56, 57, 58, 59, 60, 61, 62, 63, 64, 65, 66, 67, 68, 69, 70, 71, 72, 73, 74, 75, 76, 77, 78, 79] (by decide +kernel) (by decide +kernel)) (goodIn_sub (fun _ h => List.mem_cons_of_mem _ (List.mem_append_left _ (List.mem_append_left _ (List.mem_append_right _ h)))) (by decide +kernel))) (goodIn_sub (fun _ h => List.mem_cons_of_mem _ (List.mem_append_left _ (List.mem_append_right _ h))) (by decide +kernel))) (goodIn_sub (fun _ h => List.mem_cons_of_mem _ (List.mem_append_right _ h)) (by decide +kernel))
set_option maxRecDepth 20000 in
theorem gL_move_X1_move : GoodIn wsL_move (wsV RL 22 RX1 yX1_move wsX1_move) := goodIn_app (goodIn_of _ (by decide +kernel)) ggL_move_X1_move
theorem dL_move_0 : decode cL_move 0 = .ok (.aload_n 0, 1) := by decide +kernel
theorem dL_move_1 : decode cL_move 1 = .ok (.iload_n 1, 1) := by decide +kernel
theorem dL_move_2 : decode cL_move 2 = .ok (.iload_n 2, 1) := by decide +kernel
theorem dL_move_3 : decode cL_move 3 = .ok (.iload_n 3, 1) := by decide +kernel
theorem dL_move_4 : decode cL_move 4 = .ok (.iload 4, 2) := by decide +kernel
theorem dL_move_6 : decode cL_move 6 = .ok (.iload 5, 2) := by decide +kernel
theorem dL_move_8 : decode cL_move 8 = .ok (.invokevirtual 22, 3) := by decide +kernel
theorem dL_move_11 : decode cL_move 11 = .ok (.ifCond .eq 7, 3) := by decide +kernel
theorem dL_move_14 : decode cL_move 14 = .ok (.iconst 1, 1) := by decide +kernel
theorem dL_move_15 : decode cL_move 15 = .ok (.goto 4, 3) := by decide +kernel
theorem dL_move_18 : decode cL_move 18 = .ok (.iconst 0, 1) := by decide +kernel
theorem dL_move_19 : decode cL_move 19 = .ok (.ireturn, 1) := by decide +kernel
theorem dL_move_20 : decode cL_move 20 = .ok (.astore 6, 2) := by decide +kernel
theorem dL_move_22 : decode cL_move 22 = .ok (.ldc 15, 2) := by decide +kernel
theorem dL_move_24 : decode cL_move 24 = .ok (.ireturn, 1) := by decide +kernel
theorem dL_move_25 : decode cL_move 25 = .ok (.astore 6, 2) := by decide +kernel
theorem dL_move_27 : decode cL_move 27 = .ok (.ldc 18, 2) := by decide +kernel
theorem dL_move_29 : decode cL_move 29 = .ok (.ireturn, 1) := by decide +kernel
theorem dL_move_30 : decode cL_move 30 = .ok (.astore 6, 2) := by decide +kernel
theorem dL_move_32 : decode cL_move 32 = .ok (.ldc 21, 2) := by decide +kernel
theorem dL_move_34 : decode cL_move 34 = .ok (.ireturn, 1) := by decide +kernel
set_option maxRecDepth 20000 in
theorem ggL_remove_X1_remove : GoodIn wsL_remove wsX1_remove := goodIn_ca (goodIn_ca (goodIn_ca (goodIn_r _ [11, 12, 13, 14, 15, 16, 17, 18, 19, 20, 21, 10, 22, 23, 24, 25, 26, 27, 28, 29, 30, 31, 32, 33, 34, 35, 36, 37, 38, 39, 40, 41, 42, 43, 44, 45, 46, 47, 48, 49, 50, 51, 52, 53, 54, 55, 56, 57, 58] (by decide +kernel) (by decide +kernel)) (goodIn_sub (fun _ h => List.mem_cons_of_mem _ (List.mem_append_left _ (List.mem_append_left _ (List.mem_append_right _ h)))) (by decide +kernel))) (goodIn_sub (fun _ h => List.mem_cons_of_mem _ (List.mem_append_left _ (List.mem_append_right _ h))) (by decide +kernel))) (goodIn_sub (fun _ h => List.mem_cons_of_mem _ (List.mem_append_right _ h)) (by decide +kernel))
set_option maxRecDepth 20000 in
theorem gL_remove_X1_remove : GoodIn wsL_remove (wsV RL 26 RX1 yX1_remove wsX1_remove) := goodIn_app (goodIn_of _ (by decide +kernel)) ggL_remove_X1_remove
theorem dL_remove_0 : decode cL_remove 0 = .ok (.aload_n 0, 1) := by decide +kernel
theorem dL_remove_1 : decode cL_remove 1 = .ok (.iload_n 1, 1) := by decide +kernel
theorem dL_remove_2 : decode cL_remove 2 = .ok (.iload_n 2, 1) := by decide +kernel
theorem dL_remove_3 : decode cL_remove 3 = .ok (.iload_n 3, 1) := by decide +kernel
theorem dL_remove_4 : decode cL_remove 4 = .ok (.invokevirtual 26, 3) := by decide +kernel
theorem dL_remove_7 : decode cL_remove 7 = .ok (.ifCond .eq 7, 3) := by decide +kernel
theorem dL_remove_10 : decode cL_remove 10 = .ok (.iconst 1, 1) := by decide +kernel
theorem dL_remove_11 : decode cL_remove 11 = .ok (.goto 4, 3) := by decide +kernel
theorem dL_remove_14 : decode cL_remove 14 = .ok (.iconst 0, 1) := by decide +kernel
theorem dL_remove_15 : decode cL_remove 15 = .ok (.ireturn, 1) := by decide +kernel
theorem dL_remove_16 : decode cL_remove 16 = .ok (.astore 4, 2) := by decide +kernel
theorem dL_remove_18 : decode cL_remove 18 = .ok (.ldc 15, 2) := by decide +kernel
theorem dL_remove_20 : decode cL_remove 20 = .ok (.ireturn, 1) := by decide +kernel
theorem dL_remove_21 : decode cL_remove 21 = .ok (.astore 4, 2) := by decide +kernel
theorem dL_remove_23 : decode cL_remove 23 = .ok (.ldc 18, 2) := by decide +kernel
theorem dL_remove_25 : decode cL_remove 25 = .ok (.ireturn, 1) := by decide +kernel
theorem dL_remove_26 : decode cL_remove 26 = .ok (.astore 4, 2) := by decide +kernel
theorem dL_remove_28 : decode cL_remove 28 = .ok (.ldc 21, 2) := by decide +kernel
theorem dL_remove_30 : decode cL_remove 30 = .ok (.ireturn, 1) := by decide +kernel
set_option maxRecDepth 20000 in
theorem ggL_clear_X1_clear : GoodIn wsL_clear wsX1_clear := goodIn_ca (goodIn_ca (goodIn_r _ [9, 10, 11, 12, 13, 14, 15, 16, 8, 17, 18, 19, 20, 21, 22, 23, 24, 25, 26, 27, 28] (by decide +kernel) (by decide +kernel)) (goodIn_sub (fun _ h => List.mem_cons_of_mem _ (List.mem_append_left _ (List.mem_append_right _ h))) (by decide +kernel))) (goodIn_sub (fun _ h => List.mem_cons_of_mem _ (List.mem_append_right _ h)) (by decide +kernel))
set_option maxRecDepth 20000 in
theorem gL_clear_X1_clear : GoodIn wsL_clear (wsV RL 30 RX1 yX1_clear wsX1_clear) := goodIn_app (goodIn_of _ (by decide +kernel)) ggL_clear_X1_clear
theorem dL_clear_0 : decode cL_clear 0 = .ok (.aload_n 0, 1) := by decide +kernel
theorem dL_clear_1 : decode cL_clear 1 = .ok (.iload_n 1, 1) := by decide +kernel
theorem dL_clear_2 : decode cL_clear 2 = .ok (.iload_n 2, 1) := by decide +kernel
theorem dL_clear_3 : decode cL_clear 3 = .ok (.iload_n 3, 1) := by decide +kernel
theorem dL_clear_4 : decode cL_clear 4 = .ok (.invokevirtual 30, 3) := by decide +kernel
theorem dL_clear_7 : decode cL_clear 7 = .ok (.ireturn, 1) := by decide +kernel
theorem dL_clear_8 : decode cL_clear 8 = .ok (.astore 4, 2) := by decide +kernel
theorem dL_clear_10 : decode cL_clear 10 = .ok (.ldc 15, 2) := by decide +kernel
theorem dL_clear_12 : decode cL_clear 12 = .ok (.ireturn, 1) := by decide +kernel
theorem dL_clear_13 : decode cL_clear 13 = .ok (.astore 4, 2) := by decide +kernel
theorem dL_clear_15 : decode cL_clear 15 = .ok (.ldc 18, 2) := by decide +kernel
theorem dL_clear_17 : decode cL_clear 17 = .ok (.ireturn, 1) := by decide +kernel
set_option maxRecDepth 20000 in
theorem ggL_part_X1_part : GoodIn wsL_part wsX1_part := goodIn_ca (goodIn_ca (goodIn_r _ [9, 10, 11, 12, 13, 14, 15, 16, 8, 17, 18, 19, 20, 21, 22, 23, 24, 25, 26, 27, 28] (by decide +kernel) (by decide +kernel)) (goodIn_sub (fun _ h => List.mem_cons_of_mem _ (List.mem_append_left _ (List.mem_append_right _ h))) (by decide +kernel))) (goodIn_sub (fun _ h => List.mem_cons_of_mem _ (List.mem_append_right _ h)) (by decide +kernel))
set_option maxRecDepth 20000 in
theorem gL_part_X1_part : GoodIn wsL_part (wsV RL 34 RX1 yX1_part wsX1_part) := goodIn_app (goodIn_of _ (by decide +kernel)) ggL_part_X1_part
theorem dL_part_0 : decode cL_part 0 = .ok (.aload_n 0, 1) := by decide +kernel
theorem dL_part_1 : decode cL_part 1 = .ok (.iload_n 1, 1) := by decide +kernel
theorem dL_part_2 : decode cL_part 2 = .ok (.iload_n 2, 1) := by decide +kernel
theorem dL_part_3 : decode cL_part 3 = .ok (.invokevirtual 34, 3) := by decide +kernel
theorem dL_part_6 : decode cL_part 6 = .ok (.ireturn, 1) := by decide +kernel
theorem dL_part_7 : decode cL_part 7 = .ok (.astore_n 3, 1) := by decide +kernel
theorem dL_part_8 : decode cL_part 8 = .ok (.ldc 15, 2) := by decide +kernel
theorem dL_part_10 : decode cL_part 10 = .ok (.ireturn, 1) := by decide +kernel
theorem dL_part_11 : decode cL_part 11 = .ok (.astore_n 3, 1) := by decide +kernel
theorem dL_part_12 : decode cL_part 12 = .ok (.ldc 18, 2) := by decide +kernel
theorem dL_part_14 : decode cL_part 14 = .ok (.ireturn, 1) := by decide +kernel
set_option maxRecDepth 20000 in
theorem ggL_lead_X1_lead : GoodIn wsL_lead wsX1_lead := goodIn_ca (goodIn_ca (goodIn_r _ [9, 10, 11, 12, 13, 14, 15, 16, 8, 17, 18, 19, 20, 21, 22, 23, 24, 25, 26, 27, 28] (by decide +kernel) (by decide +kernel)) (goodIn_sub (fun _ h => List.mem_cons_of_mem _ (List.mem_append_left _ (List.mem_append_right _ h))) (by decide +kernel))) (goodIn_sub (fun _ h => List.mem_cons_of_mem _ (List.mem_append_right _ h)) (by decide +kernel))
set_option maxRecDepth 20000 in
theorem gL_lead_X1_lead : GoodIn wsL_lead (wsV RL 38 RX1 yX1_lead wsX1_lead) := goodIn_app (goodIn_of _ (by decide +kernel)) ggL_lead_X1_lead
theorem dL_lead_0 : decode cL_lead 0 = .ok (.aload_n 0, 1) := by decide +kernel
theorem dL_lead_1 : decode cL_lead 1 = .ok (.iload_n 1, 1) := by decide +kernel
theorem dL_lead_2 : decode cL_lead 2 = .ok (.iload_n 2, 1) := by decide +kernel
theorem dL_lead_3 : decode cL_lead 3 = .ok (.invokevirtual 38, 3) := by decide +kernel
theorem dL_lead_6 : decode cL_lead 6 = .ok (.ireturn, 1) := by decide +kernel
theorem dL_lead_7 : decode cL_lead 7 = .ok (.astore_n 3, 1) := by decide +kernel
theorem dL_lead_8 : decode cL_lead 8 = .ok (.ldc 15, 2) := by decide +kernel
theorem dL_lead_10 : decode cL_lead 10 = .ok (.ireturn, 1) := by decide +kernel
theorem dL_lead_11 : decode cL_lead 11 = .ok (.astore_n 3, 1) := by decide +kernel
theorem dL_lead_12 : decode cL_lead 12 = .ok (.ldc 18, 2) := by decide +kernel
theorem dL_lead_14 : decode cL_lead 14 = .ok (.ireturn, 1) := by decide +kernel
set_option maxRecDepth 20000 in
theorem ggL_order_X1_order : GoodIn wsL_order wsX1_order := goodIn_ca (goodIn_ca (goodIn_r _ [9, 10, 11, 12, 13, 14, 15, 16, 17, 18, 19, 20, 8, 21, 22, 23, 24, 25, 26, 27, 28, 29, 30, 31, 32, 33, 34, 35, 36, 37, 38, 39, 40, 41, 42, 43, 44, 45, 46, 47, 48, 49, 50, 51, 52, 53, 54, 55, 56, 57, 58, 59, 60, 61, 62, 63, 64, 65, 66, 67, 68, 69, 70, 71, 72, 73, 74, 75] (by decide +kernel) (by decide +kernel)) (goodIn_sub (fun _ h => List.mem_cons_of_mem _ (List.mem_append_left _ (List.mem_append_right _ h))) (by decide +kernel))) (goodIn_sub (fun _ h => List.mem_cons_of_mem _ (List.mem_append_right _ h)) (by decide +kernel))
set_option maxRecDepth 20000 in
theorem gL_order_X1_order : GoodIn wsL_order (wsV RL 41 RX1 yX1_order wsX1_order) := goodIn_app (goodIn_of _ (by decide +kernel)) ggL_order_X1_order
theorem dL_order_0 : decode cL_order 0 = .ok (.aload_n 0, 1) := by decide +kernel
theorem dL_order_1 : decode cL_order 1 = .ok (.iload_n 1, 1) := by decide +kernel
theorem dL_order_2 : decode cL_order 2 = .ok (.invokevirtual 41, 3) := by decide +kernel
theorem dL_order_5 : decode cL_order 5 = .ok (.ireturn, 1) := by decide +kernel
theorem dL_order_6 : decode cL_order 6 = .ok (.astore_n 2, 1) := by decide +kernel
theorem dL_order_7 : decode cL_order 7 = .ok (.ldc 15, 2) := by decide +kernel
theorem dL_order_9 : decode cL_order 9 = .ok (.ireturn, 1) := by decide +kernel
theorem dL_order_10 : decode cL_order 10 = .ok (.astore_n 2, 1) := by decide +kernel
theorem dL_order_11 : decode cL_order 11 = .ok (.ldc 21, 2) := by decide +kernel
theorem dL_order_13 : decode cL_order 13 = .ok (.ireturn, 1) := by decide +kernel
set_option maxRecDepth 20000 in
theorem ggL_cancel_X1_cancel : GoodIn wsL_cancel wsX1_cancel := goodIn_ca (goodIn_ca (goodIn_r _ [9, 10, 11, 12, 13, 14, 15, 16, 17, 18, 19, 8, 20, 21, 22, 23, 24, 25, 26, 27, 28, 29, 30, 31, 32, 33, 34, 35, 36, 37, 38, 39, 40, 41, 42] (by decide +kernel) (by decide +kernel)) (goodIn_sub (fun _ h => List.mem_cons_of_mem _ (List.mem_append_left _ (List.mem_append_right _ h))) (by decide +kernel))) (goodIn_sub (fun _ h => List.mem_cons_of_mem _ (List.mem_append_right _ h)) (by decide +kernel))
set_option maxRecDepth 20000 in
theorem gL_cancel_X1_cancel : GoodIn wsL_cancel (wsV RL 45 RX1 yX1_cancel wsX1_cancel) := goodIn_app (goodIn_of _ (by decide +kernel)) ggL_cancel_X1_cancel
theorem dL_cancel_0 : decode cL_cancel 0 = .ok (.aload_n 0, 1) := by decide +kernel
theorem dL_cancel_1 : decode cL_cancel 1 = .ok (.iload_n 1, 1) := by decide +kernel
theorem dL_cancel_2 : decode cL_cancel 2 = .ok (.invokevirtual 45, 3) := by decide +kernel
theorem dL_cancel_5 : decode cL_cancel 5 = .ok (.ireturn, 1) := by decide +kernel
theorem dL_cancel_6 : decode cL_cancel 6 = .ok (.astore_n 2, 1) := by decide +kernel
theorem dL_cancel_7 : decode cL_cancel 7 = .ok (.ldc 15, 2) := by decide +kernel
theorem dL_cancel_9 : decode cL_cancel 9 = .ok (.ireturn, 1) := by decide +kernel
theorem dL_cancel_10 : decode cL_cancel 10 = .ok (.astore_n 2, 1) := by decide +kernel
theorem dL_cancel_11 : decode cL_cancel 11 = .ok (.ldc 21, 2) := by decide +kernel
theorem dL_cancel_13 : decode cL_cancel 13 = .ok (.ireturn, 1) := by decide +kernel
set_option maxRecDepth 20000 in
theorem ggL_build_X1_build : GoodIn wsL_build wsX1_build := goodIn_ca (goodIn_ca (goodIn_r _ [9, 10, 11, 12, 13, 14, 15, 16, 17, 8, 18, 19, 20, 21, 22, 23, 24, 25, 26, 27, 28, 29, 30, 31, 32, 33, 34, 35, 36, 37, 38, 39, 40, 41, 42, 43, 44, 45, 46, 47, 48, 49, 50, 51, 52, 53, 54, 55, 56, 57, 58, 59, 60, 61, 62, 63, 64, 65, 66, 67, 68, 69, 70, 71, 72, 73, 74, 75, 76, 77, 78, 79, 80, 81, 82, 83] (by decide +kernel) (by decide +kernel)) (goodIn_sub (fun _ h => List.mem_cons_of_mem _ (List.mem_append_left _ (List.mem_append_right _ h))) (by decide +kernel))) (goodIn_sub (fun _ h => List.mem_cons_of_mem _ (List.mem_append_right _ h)) (by decide +kernel))
set_option maxRecDepth 20000 in
theorem gL_build_X1_build : GoodIn wsL_build (wsV RL 48 RX1 yX1_build wsX1_build) := goodIn_app (goodIn_of _ (by decide +kernel)) ggL_build_X1_build
theorem dL_build_0 : decode cL_build 0 = .ok (.aload_n 0, 1) := by decide +kernel
theorem dL_build_1 : decode cL_build 1 = .ok (.iload_n 1, 1) := by decide +kernel
theorem dL_build_2 : decode cL_build 2 = .ok (.invokevirtual 48, 3) := by decide +kernel
theorem dL_build_5 : decode cL_build 5 = .ok (.ifCond .eq 7, 3) := by decide +kernel
theorem dL_build_8 : decode cL_build 8 = .ok (.iconst 1, 1) := by decide +kernel
theorem dL_build_9 : decode cL_build 9 = .ok (.goto 4, 3) := by decide +kernel
theorem dL_build_12 : decode cL_build 12 = .ok (.iconst 0, 1) := by decide +kernel
theorem dL_build_13 : decode cL_build 13 = .ok (.ireturn, 1) := by decide +kernel
theorem dL_build_14 : decode cL_build 14 = .ok (.astore_n 2, 1) := by decide +kernel
theorem dL_build_15 : decode cL_build 15 = .ok (.ldc 15, 2) := by decide +kernel
theorem dL_build_17 : decode cL_build 17 = .ok (.ireturn, 1) := by decide +kernel
theorem dL_build_18 : decode cL_build 18 = .ok (.astore_n 2, 1) := by decide +kernel
theorem dL_build_19 : decode cL_build 19 = .ok (.ldc 21, 2) := by decide +kernel
theorem dL_build_21 : decode cL_build 21 = .ok (.ireturn, 1) := by decide +kernel
set_option maxRecDepth 20000 in
theorem ggL_inspect_X1_inspect : GoodIn wsL_inspect wsX1_inspect := goodIn_ca (goodIn_ca (goodIn_r _ [9, 10, 11, 12, 13, 14, 15, 16, 8, 17, 18, 19, 20, 21, 22, 23, 24, 25, 26, 27, 28, 29, 30, 31, 32, 33, 34, 35, 36, 37, 38, 39, 40, 41, 42, 43, 44, 45, 46, 47, 48, 49, 50, 51, 52, 53, 54, 55, 56, 57, 58, 59, 60, 61, 62, 63, 64, 65, 66, 67, 68, 69, 70, 71, 72, 73, 74, 75, 76, 77, 78, 79, 80, 81, 82, 83, 84, 85, 86, 87, 88, 89, 90, 91] (by decide +kernel) (by decide +kernel)) (goodIn_sub (fun _ h => List.mem_cons_of_mem _ (List.mem_append_left _ (List.mem_append_right _ h))) (by decide +kernel))) (goodIn_sub (fun _ h => List.mem_cons_of_mem _ (List.mem_append_right _ h)) (by decide +kernel))
set_option maxRecDepth 20000 in
theorem gL_inspect_X1_inspect : GoodIn wsL_inspect (wsV RL 52 RX1 yX1_inspect wsX1_inspect) := goodIn_app (goodIn_of _ (by decide +kernel)) ggL_inspect_X1_inspect
theorem dL_inspect_0 : decode cL_inspect 0 = .ok (.aload_n 0, 1) := by decide +kernel
theorem dL_inspect_1 : decode cL_inspect 1 = .ok (.iload_n 1, 1) := by decide +kernel
theorem dL_inspect_2 : decode cL_inspect 2 = .ok (.invokevirtual 52, 3) := by decide +kernel
theorem dL_inspect_5 : decode cL_inspect 5 = .ok (.ifCond .eq 7, 3) := by decide +kernel
theorem dL_inspect_8 : decode cL_inspect 8 = .ok (.iconst 1, 1) := by decide +kernel
theorem dL_inspect_9 : decode cL_inspect 9 = .ok (.goto 4, 3) := by decide +kernel
theorem dL_inspect_12 : decode cL_inspect 12 = .ok (.iconst 0, 1) := by decide +kernel
theorem dL_inspect_13 : decode cL_inspect 13 = .ok (.ireturn, 1) := by decide +kernel
theorem dL_inspect_14 : decode cL_inspect 14 = .ok (.astore_n 2, 1) := by decide +kernel
theorem dL_inspect_15 : decode cL_inspect 15 = .ok (.ldc 15, 2) := by decide +kernel
theorem dL_inspect_17 : decode cL_inspect 17 = .ok (.ireturn, 1) := by decide +kernel
theorem dL_inspect_18 : decode cL_inspect 18 = .ok (.astore_n 2, 1) := by decide +kernel
theorem dL_inspect_19 : decode cL_inspect 19 = .ok (.ldc 21, 2) := by decide +kernel
theorem dL_inspect_21 : decode cL_inspect 21 = .ok (.ireturn, 1) := by decide +kernel
set_option maxRecDepth 20000 in
theorem ggL_pass_X1_pass : GoodIn wsL_pass wsX1_pass := goodIn_ca (goodIn_ca (goodIn_r _ [9, 10, 11, 12, 13, 14, 15, 16, 17, 8, 18, 19, 20, 21, 22, 23, 24, 25, 26, 27, 28, 29, 30, 31, 32, 33, 34, 35, 36, 37, 38, 39, 40, 41, 42, 43, 44, 45, 46, 47, 48] (by decide +kernel) (by decide +kernel)) (goodIn_sub (fun _ h => List.mem_cons_of_mem _ (List.mem_append_left _ (List.mem_append_right _ h))) (by decide +kernel))) (goodIn_sub (fun _ h => List.mem_cons_of_mem _ (List.mem_append_right _ h)) (by decide +kernel))
set_option maxRecDepth 20000 in
theorem gL_pass_X1_pass : GoodIn wsL_pass (wsV RL 55 RX1 yX1_pass wsX1_pass) := goodIn_app (goodIn_of _ (by decide +kernel)) ggL_pass_X1_pass
theorem dL_pass_0 : decode cL_pass 0 = .ok (.aload_n 0, 1) := by decide +kernel
theorem dL_pass_1 : decode cL_pass 1 = .ok (.iload_n 1, 1) := by decide +kernel
theorem dL_pass_2 : decode cL_pass 2 = .ok (.invokevirtual 55, 3) := by decide +kernel
theorem dL_pass_5 : decode cL_pass 5 = .ok (.ireturn, 1) := by decide +kernel
theorem dL_pass_6 : decode cL_pass 6 = .ok (.astore_n 2, 1) := by decide +kernel
theorem dL_pass_7 : decode cL_pass 7 = .ok (.ldc 18, 2) := by decide +kernel
theorem dL_pass_9 : decode cL_pass 9 = .ok (.ireturn, 1) := by decide +kernel
theorem dL_pass_10 : decode cL_pass 10 = .ok (.astore_n 2, 1) := by decide +kernel
theorem dL_pass_11 : decode cL_pass 11 = .ok (.ldc 21, 2) := by decide +kernel
theorem dL_pass_13 : decode cL_pass 13 = .ok (.ireturn, 1) := by decide +kernel
set_option maxRecDepth 20000 in
theorem ggL_elementOf_X1_elementOf : GoodIn wsL_elementOf wsX1_elementOf := goodIn_ca (goodIn_ca (goodIn_r _ [9, 10, 11, 12, 13, 14, 15, 16, 17, 18, 19, 20, 21, 22, 23, 24, 25, 8, 26, 27, 28, 29, 30, 31, 32, 33, 34, 35, 36, 37, 38, 39, 40, 41, 42, 43, 44, 45, 46, 47, 48, 49, 50, 51, 52, 53, 54, 55, 56, 57, 58, 59, 60, 61] (by decide +kernel) (by decide +kernel)) (goodIn_sub (fun _ h => List.mem_cons_of_mem _ (List.mem_append_left _ (List.mem_append_right _ h))) (by decide +kernel))) (goodIn_sub (fun _ h => List.mem_cons_of_mem _ (List.mem_append_right _ h)) (by decide +kernel))
set_option maxRecDepth 20000 in
theorem gL_elementOf_X1_elementOf : GoodIn wsL_elementOf (wsV RL 58 RX1 yX1_elementOf wsX1_elementOf) := goodIn_app (goodIn_of _ (by decide +kernel)) ggL_elementOf_X1_elementOf
theorem dL_elementOf_0 : decode cL_elementOf 0 = .ok (.aload_n 0, 1) := by decide +kernel
theorem dL_elementOf_1 : decode cL_elementOf 1 = .ok (.iload_n 1, 1) := by decide +kernel
theorem dL_elementOf_2 : decode cL_elementOf 2 = .ok (.iload_n 2, 1) := by decide +kernel
theorem dL_elementOf_3 : decode cL_elementOf 3 = .ok (.invokevirtual 58, 3) := by decide +kernel
theorem dL_elementOf_6 : decode cL_elementOf 6 = .ok (.ireturn, 1) := by decide +kernel
theorem dL_elementOf_7 : decode cL_elementOf 7 = .ok (.astore_n 3, 1) := by decide +kernel
theorem dL_elementOf_8 : decode cL_elementOf 8 = .ok (.ldc 15, 2) := by decide +kernel
theorem dL_elementOf_10 : decode cL_elementOf 10 = .ok (.ireturn, 1) := by decide +kernel
theorem dL_elementOf_11 : decode cL_elementOf 11 = .ok (.astore_n 3, 1) := by decide +kernel
theorem dL_elementOf_12 : decode cL_elementOf 12 = .ok (.ldc 18, 2) := by decide +kernel
theorem dL_elementOf_14 : decode cL_elementOf 14 = .ok (.ireturn, 1) := by decide +kernel
set_option maxRecDepth 20000 in
theorem ggL_clash_X1_clash : GoodIn wsL_clash wsX1_clash := goodIn_ca (goodIn_r _ [7, 8, 9, 10, 11, 12, 6, 13, 14, 15, 16, 17, 18, 19, 20, 21, 22, 23, 24, 25, 26, 27, 28, 29, 30, 31, 32, 33, 34, 35, 36, 37, 38, 39, 40, 41, 42, 43, 44, 45, 46, 47, 48, 49, 50, 51, 52, 53, 54, 55, 56, 57, 58, 59, 60, 61, 62, 63, 64, 65, 66, 67, 68, 69, 70, 71, 72, 73] (by decide +kernel) (by decide +kernel)) (goodIn_sub (fun _ h => List.mem_cons_of_mem _ (List.mem_append_right _ h)) (by decide +kernel))
set_option maxRecDepth 20000 in
theorem gL_clash_X1_clash : GoodIn wsL_clash (wsV RL 61 RX1 yX1_clash wsX1_clash) := goodIn_app (goodIn_of _ (by decide +kernel)) ggL_clash_X1_clash
theorem dL_clash_0 : decode cL_clash 0 = .ok (.aload_n 0, 1) := by decide +kernel
theorem dL_clash_1 : decode cL_clash 1 = .ok (.iload_n 1, 1) := by decide +kernel
theorem dL_clash_2 : decode cL_clash 2 = .ok (.iload_n 2, 1) := by decide +kernel
theorem dL_clash_3 : decode cL_clash 3 = .ok (.invokevirtual 61, 3) := by decide +kernel
theorem dL_clash_6 : decode cL_clash 6 = .ok (.ifCond .eq 7, 3) := by decide +kernel
theorem dL_clash_9 : decode cL_clash 9 = .ok (.iconst 1, 1) := by decide +kernel
theorem dL_clash_10 : decode cL_clash 10 = .ok (.goto 4, 3) := by decide +kernel
theorem dL_clash_13 : decode cL_clash 13 = .ok (.iconst 0, 1) := by decide +kernel
theorem dL_clash_14 : decode cL_clash 14 = .ok (.ireturn, 1) := by decide +kernel
theorem dL_clash_15 : decode cL_clash 15 = .ok (.astore_n 3, 1) := by decide +kernel
theorem dL_clash_16 : decode cL_clash 16 = .ok (.ldc 15, 2) := by decide +kernel
theorem dL_clash_18 : decode cL_clash 18 = .ok (.ireturn, 1) := by decide +kernel
set_option maxRecDepth 20000 in
theorem ggL_clashes_X1_clashes : GoodIn wsL_clashes wsX1_clashes := goodIn_ca (goodIn_r _ [7, 8, 9, 10, 11, 12, 6, 13, 14, 15, 16, 17, 18, 19, 20, 21, 22, 23, 24, 25, 26, 27, 28, 29, 30, 31, 32, 33, 34, 35, 36, 37, 38, 39, 40, 41, 42, 43, 44, 45, 46, 47, 48, 49, 50, 51, 52, 53, 54, 55, 56, 57, 58, 59, 60, 61, 62, 63, 64, 65, 66, 67, 68, 69, 70, 71, 72, 73, 74, 75, 76, 77, 78, 79, 80, 81, 82, 83, 84, 85] (by decide +kernel) (by decide +kernel)) (goodIn_sub (fun _ h => List.mem_cons_of_mem _ (List.mem_append_right _ h)) (by decide +kernel))
set_option maxRecDepth 20000 in
theorem gL_clashes_X1_clashes : GoodIn wsL_clashes (wsV RL 65 RX1 yX1_clashes wsX1_clashes) := goodIn_app (goodIn_of _ (by decide +kernel)) ggL_clashes_X1_clashes
theorem dL_clashes_0 : decode cL_clashes 0 = .ok (.aload_n 0, 1) := by decide +kernel
theorem dL_clashes_1 : decode cL_clashes 1 = .ok (.iload_n 1, 1) := by decide +kernel
theorem dL_clashes_2 : decode cL_clashes 2 = .ok (.invokevirtual 65, 3) := by decide +kernel
theorem dL_clashes_5 : decode cL_clashes 5 = .ok (.ireturn, 1) := by decide +kernel
theorem dL_clashes_6 : decode cL_clashes 6 = .ok (.astore_n 2, 1) := by decide +kernel
theorem dL_clashes_7 : decode cL_clashes 7 = .ok (.ldc 15, 2) := by decide +kernel
theorem dL_clashes_9 : decode cL_clashes 9 = .ok (.ireturn, 1) := by decide +kernel
set_option maxRecDepth 20000 in
theorem ggL_isStopped_X1_isStopped : GoodIn wsL_isStopped wsX1_isStopped := goodIn_ca (goodIn_r _ [7, 8, 9, 10, 11, 12, 13, 14, 6, 15, 16, 17, 18, 19, 20, 21, 22, 23, 24, 25, 26, 27, 28, 29, 30, 31, 32, 33, 34, 35, 36, 37, 38, 39, 40, 41, 42, 43, 44, 45, 46, 47, 48, 49, 50, 51, 52, 53, 54, 55, 56, 57, 58, 59, 60, 61, 62, 63, 64, 65, 66, 67, 68, 69, 70, 71, 72, 73, 74, 75, 76, 77, 78, 79, 80, 81] (by decide +kernel) (by decide +kernel)) (goodIn_sub (fun _ h => List.mem_cons_of_mem _ (List.mem_append_right _ h)) (by decide +kernel))
set_option maxRecDepth 20000 in
theorem gL_isStopped_X1_isStopped : GoodIn wsL_isStopped (wsV RL 68 RX1 yX1_isStopped wsX1_isStopped) := goodIn_app (goodIn_of _ (by decide +kernel)) ggL_isStopped_X1_isStopped
theorem dL_isStopped_0 : decode cL_isStopped 0 = .ok (.aload_n 0, 1) := by decide +kernel
theorem dL_isStopped_1 : decode cL_isStopped 1 = .ok (.iload_n 1, 1) := by decide +kernel
theorem dL_isStopped_2 : decode cL_isStopped 2 = .ok (.iload_n 2, 1) := by decide +kernel
theorem dL_isStopped_3 : decode cL_isStopped 3 = .ok (.invokevirtual 68, 3) := by decide +kernel
theorem dL_isStopped_6 : decode cL_isStopped 6 = .ok (.ifCond .eq 7, 3) := by decide +kernel
theorem dL_isStopped_9 : decode cL_isStopped 9 = .ok (.iconst 1, 1) := by decide +kernel
theorem dL_isStopped_10 : decode cL_isStopped 10 = .ok (.goto 4, 3) := by decide +kernel
theorem dL_isStopped_13 : decode cL_isStopped 13 = .ok (.iconst 0, 1) := by decide +kernel
theorem dL_isStopped_14 : decode cL_isStopped 14 = .ok (.ireturn, 1) := by decide +kernel
theorem dL_isStopped_15 : decode cL_isStopped 15 = .ok (.astore_n 3, 1) := by decide +kernel
theorem dL_isStopped_16 : decode cL_isStopped 16 = .ok (.ldc 15, 2) := by decide +kernel
theorem dL_isStopped_18 : decode cL_isStopped 18 = .ok (.ireturn, 1) := by decide +kernel
set_option maxRecDepth 20000 in
theorem ggL_parts_X1_parts : GoodIn wsL_parts wsX1_parts := goodIn_ca (goodIn_r _ [7, 8, 9, 10, 11, 6, 12, 13, 14, 15, 16, 17, 18, 19, 20, 21, 22, 23, 24, 25, 26, 27, 28, 29, 30, 31, 32, 33, 34, 35, 36, 37, 38, 39, 40, 41, 42, 43, 44, 45, 46, 47, 48, 49, 50, 51, 52, 53, 54, 55, 56, 57, 58, 59, 60, 61, 62, 63] (by decide +kernel) (by decide +kernel)) (goodIn_sub (fun _ h => List.mem_cons_of_mem _ (List.mem_append_right _ h)) (by decide +kernel))
set_option maxRecDepth 20000 in
theorem gL_parts_X1_parts : GoodIn wsL_parts (wsV RL 71 RX1 yX1_parts wsX1_parts) := goodIn_app (goodIn_of _ (by decide +kernel)) ggL_parts_X1_parts
theorem dL_parts_0 : decode cL_parts 0 = .ok (.aload_n 0, 1) := by decide +kernel
theorem dL_parts_1 : decode cL_parts 1 = .ok (.iload_n 1, 1) := by decide +kernel
theorem dL_parts_2 : decode cL_parts 2 = .ok (.invokevirtual 71, 3) := by decide +kernel
theorem dL_parts_5 : decode cL_parts 5 = .ok (.ireturn, 1) := by decide +kernel
theorem dL_parts_6 : decode cL_parts 6 = .ok (.astore_n 2, 1) := by decide +kernel
theorem dL_parts_7 : decode cL_parts 7 = .ok (.ldc 15, 2) := by decide +kernel
theorem dL_parts_9 : decode cL_parts 9 = .ok (.ireturn, 1) := by decide +kernel
set_option maxRecDepth 20000 in
theorem ggL_anew_X1_partsAnew : GoodIn wsL_anew wsX1_partsAnew := goodIn_ca (goodIn_r _ [7, 8, 9, 10, 11, 12, 13, 14, 6, 15, 16, 17, 18, 19, 20, 21, 22, 23, 24, 25, 26, 27, 28, 29, 30, 31, 32, 33, 34, 35, 36, 37, 38, 39, 40, 41, 42, 43, 44, 45, 46, 47, 48, 49, 50, 51, 52, 53, 54, 55, 56, 57, 58, 59, 60, 61, 62, 63, 64, 65, 66] (by decide +kernel) (by decide +kernel)) (goodIn_sub (fun _ h => List.mem_cons_of_mem _ (List.mem_append_right _ h)) (by decide +kernel))
set_option maxRecDepth 20000 in
theorem gL_anew_X1_partsAnew : GoodIn wsL_anew (wsV RL 74 RX1 yX1_partsAnew wsX1_partsAnew) := goodIn_app (goodIn_of _ (by decide +kernel)) ggL_anew_X1_partsAnew
theorem dL_anew_0 : decode cL_anew 0 = .ok (.aload_n 0, 1) := by decide +kernel
theorem dL_anew_1 : decode cL_anew 1 = .ok (.iload_n 1, 1) := by decide +kernel
theorem dL_anew_2 : decode cL_anew 2 = .ok (.invokevirtual 74, 3) := by decide +kernel
theorem dL_anew_5 : decode cL_anew 5 = .ok (.ireturn, 1) := by decide +kernel
theorem dL_anew_6 : decode cL_anew 6 = .ok (.astore_n 2, 1) := by decide +kernel
theorem dL_anew_7 : decode cL_anew 7 = .ok (.ldc 15, 2) := by decide +kernel
theorem dL_anew_9 : decode cL_anew 9 = .ok (.ireturn, 1) := by decide +kernel
set_option maxRecDepth 20000 in
theorem ggL_ordered_X1_ordered : GoodIn wsL_ordered wsX1_ordered := goodIn_ca (goodIn_r _ [7, 8, 9, 10, 11, 6, 12, 13, 14, 15, 16, 17, 18, 19, 20, 21, 22, 23, 24, 25, 26, 27, 28, 29, 30, 31, 32, 33, 34, 35, 36, 37, 38, 39, 40, 41, 42, 43, 44, 45, 46, 47, 48, 49, 50, 51, 52, 53, 54, 55, 56, 57, 58, 59, 60, 61, 62, 63] (by decide +kernel) (by decide +kernel)) (goodIn_sub (fun _ h => List.mem_cons_of_mem _ (List.mem_append_right _ h)) (by decide +kernel))
set_option maxRecDepth 20000 in
theorem gL_ordered_X1_ordered : GoodIn wsL_ordered (wsV RL 77 RX1 yX1_ordered wsX1_ordered) := goodIn_app (goodIn_of _ (by decide +kernel)) ggL_ordered_X1_ordered
theorem dL_ordered_0 : decode cL_ordered 0 = .ok (.aload_n 0, 1) := by decide +kernel
theorem dL_ordered_1 : decode cL_ordered 1 = .ok (.iload_n 1, 1) := by decide +kernel
theorem dL_ordered_2 : decode cL_ordered 2 = .ok (.invokevirtual 77, 3) := by decide +kernel
theorem dL_ordered_5 : decode cL_ordered 5 = .ok (.ireturn, 1) := by decide +kernel
theorem dL_ordered_6 : decode cL_ordered 6 = .ok (.astore_n 2, 1) := by decide +kernel
theorem dL_ordered_7 : decode cL_ordered 7 = .ok (.ldc 15, 2) := by decide +kernel
theorem dL_ordered_9 : decode cL_ordered 9 = .ok (.ireturn, 1) := by decide +kernel
set_option maxRecDepth 20000 in
theorem ggL_kindsAt_X1_kindsAt : GoodIn wsL_kindsAt wsX1_kindsAt := goodIn_ca (goodIn_ca (goodIn_r _ [9, 10, 11, 12, 13, 14, 15, 16, 17, 18, 8, 19, 20, 21, 22, 23, 24, 25, 26, 27, 28, 29, 30, 31, 32, 33, 34, 35, 36, 37, 38, 39, 40, 41, 42, 43, 44, 45, 46, 47, 48, 49, 50, 51, 52, 53, 54, 55, 56, 57, 58, 59, 60, 61, 62, 63, 64, 65, 66, 67, 68, 69] (by decide +kernel) (by decide +kernel)) (goodIn_sub (fun _ h => List.mem_cons_of_mem _ (List.mem_append_left _ (List.mem_append_right _ h))) (by decide +kernel))) (goodIn_sub (fun _ h => List.mem_cons_of_mem _ (List.mem_append_right _ h)) (by decide +kernel))
set_option maxRecDepth 20000 in
theorem gL_kindsAt_X1_kindsAt : GoodIn wsL_kindsAt (wsV RL 80 RX1 yX1_kindsAt wsX1_kindsAt) := goodIn_app (goodIn_of _ (by decide +kernel)) ggL_kindsAt_X1_kindsAt
theorem dL_kindsAt_0 : decode cL_kindsAt 0 = .ok (.aload_n 0, 1) := by decide +kernel
theorem dL_kindsAt_1 : decode cL_kindsAt 1 = .ok (.iload_n 1, 1) := by decide +kernel
theorem dL_kindsAt_2 : decode cL_kindsAt 2 = .ok (.iload_n 2, 1) := by decide +kernel
theorem dL_kindsAt_3 : decode cL_kindsAt 3 = .ok (.iload_n 3, 1) := by decide +kernel
theorem dL_kindsAt_4 : decode cL_kindsAt 4 = .ok (.invokevirtual 80, 3) := by decide +kernel
theorem dL_kindsAt_7 : decode cL_kindsAt 7 = .ok (.ireturn, 1) := by decide +kernel
theorem dL_kindsAt_8 : decode cL_kindsAt 8 = .ok (.astore 4, 2) := by decide +kernel
theorem dL_kindsAt_10 : decode cL_kindsAt 10 = .ok (.ldc 15, 2) := by decide +kernel
theorem dL_kindsAt_12 : decode cL_kindsAt 12 = .ok (.ireturn, 1) := by decide +kernel
theorem dL_kindsAt_13 : decode cL_kindsAt 13 = .ok (.astore 4, 2) := by decide +kernel
theorem dL_kindsAt_15 : decode cL_kindsAt 15 = .ok (.ldc 18, 2) := by decide +kernel
theorem dL_kindsAt_17 : decode cL_kindsAt 17 = .ok (.ireturn, 1) := by decide +kernel
set_option maxRecDepth 20000 in
theorem ggL_isLocked_X1_isLocked : GoodIn wsL_isLocked wsX1_isLocked := goodIn_ca (goodIn_r _ [7, 8, 9, 10, 11, 12, 6, 13, 14, 15, 16, 17, 18, 19, 20, 21, 22, 23, 24] (by decide +kernel) (by decide +kernel)) (goodIn_sub (fun _ h => List.mem_cons_of_mem _ (List.mem_append_right _ h)) (by decide +kernel))
set_option maxRecDepth 20000 in
theorem gL_isLocked_X1_isLocked : GoodIn wsL_isLocked (wsV RL 83 RX1 yX1_isLocked wsX1_isLocked) := goodIn_app (goodIn_of _ (by decide +kernel)) ggL_isLocked_X1_isLocked
theorem dL_isLocked_0 : decode cL_isLocked 0 = .ok (.aload_n 0, 1) := by decide +kernel
theorem dL_isLocked_1 : decode cL_isLocked 1 = .ok (.iload_n 1, 1) := by decide +kernel
theorem dL_isLocked_2 : decode cL_isLocked 2 = .ok (.invokevirtual 83, 3) := by decide +kernel
theorem dL_isLocked_5 : decode cL_isLocked 5 = .ok (.ifCond .eq 7, 3) := by decide +kernel
theorem dL_isLocked_8 : decode cL_isLocked 8 = .ok (.iconst 1, 1) := by decide +kernel
theorem dL_isLocked_9 : decode cL_isLocked 9 = .ok (.goto 4, 3) := by decide +kernel
theorem dL_isLocked_12 : decode cL_isLocked 12 = .ok (.iconst 0, 1) := by decide +kernel
theorem dL_isLocked_13 : decode cL_isLocked 13 = .ok (.ireturn, 1) := by decide +kernel
theorem dL_isLocked_14 : decode cL_isLocked 14 = .ok (.astore_n 2, 1) := by decide +kernel
theorem dL_isLocked_15 : decode cL_isLocked 15 = .ok (.ldc 15, 2) := by decide +kernel
theorem dL_isLocked_17 : decode cL_isLocked 17 = .ok (.ireturn, 1) := by decide +kernel
theorem dL_drawn_0 : decode cL_drawn 0 = .ok (.iload_n 1, 1) := by decide +kernel
theorem dL_drawn_1 : decode cL_drawn 1 = .ok (.aload_n 0, 1) := by decide +kernel
theorem dL_drawn_2 : decode cL_drawn 2 = .ok (.arraylength, 1) := by decide +kernel
theorem dL_drawn_3 : decode cL_drawn 3 = .ok (.if_icmp .ge 9, 3) := by decide +kernel
theorem dL_drawn_6 : decode cL_drawn 6 = .ok (.aload_n 0, 1) := by decide +kernel
theorem dL_drawn_7 : decode cL_drawn 7 = .ok (.iload_n 1, 1) := by decide +kernel
theorem dL_drawn_8 : decode cL_drawn 8 = .ok (.iaload, 1) := by decide +kernel
theorem dL_drawn_9 : decode cL_drawn 9 = .ok (.goto 13, 3) := by decide +kernel
theorem dL_drawn_12 : decode cL_drawn 12 = .ok (.ldc 86, 2) := by decide +kernel
theorem dL_drawn_14 : decode cL_drawn 14 = .ok (.iload_n 1, 1) := by decide +kernel
theorem dL_drawn_15 : decode cL_drawn 15 = .ok (.iconst 3, 1) := by decide +kernel
theorem dL_drawn_16 : decode cL_drawn 16 = .ok (.iadd, 1) := by decide +kernel
theorem dL_drawn_17 : decode cL_drawn 17 = .ok (.imul, 1) := by decide +kernel
theorem dL_drawn_18 : decode cL_drawn 18 = .ok (.sipush 14851, 3) := by decide +kernel
theorem dL_drawn_21 : decode cL_drawn 21 = .ok (.iadd, 1) := by decide +kernel
theorem dL_drawn_22 : decode cL_drawn 22 = .ok (.ldc 87, 2) := by decide +kernel
theorem dL_drawn_24 : decode cL_drawn 24 = .ok (.iand, 1) := by decide +kernel
theorem dL_drawn_25 : decode cL_drawn 25 = .ok (.ireturn, 1) := by decide +kernel
set_option maxRecDepth 20000 in
theorem ggL_refuses_X1_revision : GoodIn wsL_refuses wsX1_revision := goodIn_r _ [8, 9, 308, 309, 310, 311, 312, 313, 314, 315] (by decide +kernel) (by decide +kernel)
set_option maxRecDepth 20000 in
theorem gL_refuses_X1_revision : GoodIn wsL_refuses (wsV RL 88 RX1 yX1_revision wsX1_revision) := goodIn_app (goodIn_of _ (by decide +kernel)) ggL_refuses_X1_revision
set_option maxRecDepth 20000 in
theorem ggL_refuses_L_add : GoodIn wsL_refuses wsL_add := goodIn_ca (goodIn_ca (goodIn_ca (goodIn_r _ [13, 14, 15, 16, 1, 2, 3, 17, 18, 19, 7, 20, 21, 22, 23, 24, 25, 26, 27, 28, 29, 9, 30, 31, 32, 33, 34, 35, 36, 37, 38, 39, 40, 41, 42, 43, 44, 45, 46, 47, 48, 49, 50, 51, 52, 53, 54, 55, 56, 57, 58, 59, 60, 308, 309, 310, 311, 312, 313, 314, 315, 316, 317, 318, 319, 320, 321, 322, 323, 324, 325] (by decide +kernel) (by decide +kernel)) (goodIn_sub (fun _ h => List.mem_cons_of_mem _ (List.mem_append_left _ (List.mem_append_left _ (List.mem_append_right _ h)))) (by decide +kernel))) (goodIn_sub (fun _ h => List.mem_cons_of_mem _ (List.mem_append_left _ (List.mem_append_right _ h))) (by decide +kernel))) (goodIn_sub (fun _ h => List.mem_cons_of_mem _ (List.mem_append_right _ h)) (by decide +kernel))
set_option maxRecDepth 20000 in
theorem gL_refuses_L_add : GoodIn wsL_refuses (va_wsS RL 92 yL_add wsL_add) := goodIn_app (goodIn_of _ (by decide +kernel)) ggL_refuses_L_add
set_option maxRecDepth 20000 in
theorem ggL_refuses_L_move : GoodIn wsL_refuses wsL_move := goodIn_ca (goodIn_ca (goodIn_ca (goodIn_r _ [63, 14, 15, 16, 1, 2, 3, 64, 65, 66, 7, 67, 21, 22, 23, 24, 25, 26, 68, 69, 70, 71, 72, 29, 36, 37, 38, 33, 34, 35, 73, 74, 75, 76, 9, 77, 78, 79, 80, 81, 82, 32, 83, 55, 56, 57, 58, 43, 44, 84, 85, 86, 87, 88, 89, 90, 91, 92, 93, 94, 95, 96, 316, 317, 318, 319, 320, 321, 322, 323, 324, 325, 308, 309, 310, 311, 312, 313, 314, 315] (by decide +kernel) (by decide +kernel)) (goodIn_sub (fun _ h => List.mem_cons_of_mem _ (List.mem_append_left _ (List.mem_append_left _ (List.mem_append_right _ h)))) (by decide +kernel))) (goodIn_sub (fun _ h => List.mem_cons_of_mem _ (List.mem_append_left _ (List.mem_append_right _ h))) (by decide +kernel))) (goodIn_sub (fun _ h => List.mem_cons_of_mem _ (List.mem_append_right _ h)) (by decide +kernel))
set_option maxRecDepth 20000 in
theorem gL_refuses_L_move : GoodIn wsL_refuses (va_wsS RL 97 yL_move wsL_move) := goodIn_app (goodIn_of _ (by decide +kernel)) ggL_refuses_L_move
set_option maxRecDepth 20000 in
theorem ggL_refuses_L_remove : GoodIn wsL_refuses wsL_remove := goodIn_ca (goodIn_ca (goodIn_ca (goodIn_r _ [99, 14, 15, 16, 1, 2, 3, 100, 101, 102, 7, 103, 21, 22, 23, 24, 25, 26, 68, 69, 70, 71, 72, 29, 36, 37, 38, 33, 34, 35, 73, 74, 75, 76, 9, 93, 94, 95, 96, 87, 88, 316, 317, 318, 319, 320, 321, 322, 323, 324, 325, 308, 309, 310, 311, 312, 313, 314, 315] (by decide +kernel) (by decide +kernel)) (goodIn_sub (fun _ h => List.mem_cons_of_mem _ (List.mem_append_left _ (List.mem_append_left _ (List.mem_append_right _ h)))) (by decide +kernel))) (goodIn_sub (fun _ h => List.mem_cons_of_mem _ (List.mem_append_left _ (List.mem_append_right _ h))) (by decide +kernel))) (goodIn_sub (fun _ h => List.mem_cons_of_mem _ (List.mem_append_right _ h)) (by decide +kernel))
set_option maxRecDepth 20000 in
theorem gL_refuses_L_remove : GoodIn wsL_refuses (va_wsS RL 100 yL_remove wsL_remove) := goodIn_app (goodIn_of _ (by decide +kernel)) ggL_refuses_L_remove
set_option maxRecDepth 20000 in
theorem ggL_refuses_L_clear : GoodIn wsL_refuses wsL_clear := goodIn_ca (goodIn_ca (goodIn_r _ [106, 14, 15, 1, 2, 107, 108, 109, 7, 110, 21, 22, 23, 24, 111, 33, 34, 35, 36, 37, 38, 308, 309, 310, 311, 312, 313, 314, 315] (by decide +kernel) (by decide +kernel)) (goodIn_sub (fun _ h => List.mem_cons_of_mem _ (List.mem_append_left _ (List.mem_append_left _ (List.mem_append_right _ h)))) (by decide +kernel))) (goodIn_sub (fun _ h => List.mem_cons_of_mem _ (List.mem_append_left _ (List.mem_append_right _ h))) (by decide +kernel))
set_option maxRecDepth 20000 in
theorem gL_refuses_L_clear : GoodIn wsL_refuses (va_wsS RL 103 yL_clear wsL_clear) := goodIn_app (goodIn_of _ (by decide +kernel)) ggL_refuses_L_clear
set_option maxRecDepth 20000 in
theorem ggL_refuses_L_part : GoodIn wsL_refuses wsL_part := goodIn_ca (goodIn_ca (goodIn_r _ [114, 14, 15, 1, 2, 115, 116, 117, 7, 118, 21, 22, 23, 24, 119, 33, 34, 35, 36, 37, 38, 308, 309, 310, 311, 312, 313, 314, 315] (by decide +kernel) (by decide +kernel)) (goodIn_sub (fun _ h => List.mem_cons_of_mem _ (List.mem_append_left _ (List.mem_append_left _ (List.mem_append_right _ h)))) (by decide +kernel))) (goodIn_sub (fun _ h => List.mem_cons_of_mem _ (List.mem_append_left _ (List.mem_append_right _ h))) (by decide +kernel))
set_option maxRecDepth 20000 in
theorem gL_refuses_L_part : GoodIn wsL_refuses (va_wsS RL 105 yL_part wsL_part) := goodIn_app (goodIn_of _ (by decide +kernel)) ggL_refuses_L_part
set_option maxRecDepth 20000 in
theorem ggL_refuses_L_lead : GoodIn wsL_refuses wsL_lead := goodIn_ca (goodIn_ca (goodIn_r _ [122, 14, 15, 1, 2, 123, 124, 125, 7, 126, 21, 22, 23, 24, 127, 33, 34, 35, 36, 37, 38, 308, 309, 310, 311, 312, 313, 314, 315] (by decide +kernel) (by decide +kernel)) (goodIn_sub (fun _ h => List.mem_cons_of_mem _ (List.mem_append_left _ (List.mem_append_left _ (List.mem_append_right _ h)))) (by decide +kernel))) (goodIn_sub (fun _ h => List.mem_cons_of_mem _ (List.mem_append_left _ (List.mem_append_right _ h))) (by decide +kernel))
set_option maxRecDepth 20000 in
theorem gL_refuses_L_lead : GoodIn wsL_refuses (va_wsS RL 108 yL_lead wsL_lead) := goodIn_app (goodIn_of _ (by decide +kernel)) ggL_refuses_L_lead
set_option maxRecDepth 20000 in
theorem ggL_refuses_L_order : GoodIn wsL_refuses wsL_order := goodIn_ca (goodIn_ca (goodIn_r _ [130, 14, 16, 1, 3, 131, 132, 133, 7, 134, 21, 22, 25, 26, 68, 135, 136, 137, 69, 70, 71, 72, 29, 36, 37, 38, 138, 139, 140, 141, 127, 33, 34, 35, 142, 143, 144, 32, 145, 51, 52, 146, 147, 148, 149, 119, 150, 151, 152, 153, 57, 55, 154, 155, 156, 157, 58, 56, 316, 317, 318, 319, 320, 321, 322, 323, 324, 325, 308, 309, 310, 311, 312, 313, 314, 315] (by decide +kernel) (by decide +kernel)) (goodIn_sub (fun _ h => List.mem_cons_of_mem _ (List.mem_append_left _ (List.mem_append_left _ (List.mem_append_right _ h)))) (by decide +kernel))) (goodIn_sub (fun _ h => List.mem_cons_of_mem _ (List.mem_append_right _ h)) (by decide +kernel))
set_option maxRecDepth 20000 in
theorem gL_refuses_L_order : GoodIn wsL_refuses (va_wsS RL 110 yL_order wsL_order) := goodIn_app (goodIn_of _ (by decide +kernel)) ggL_refuses_L_order
set_option maxRecDepth 20000 in
theorem ggL_refuses_L_cancel : GoodIn wsL_refuses wsL_cancel := goodIn_ca (goodIn_ca (goodIn_r _ [160, 14, 16, 1, 3, 161, 162, 163, 7, 164, 21, 22, 25, 26, 68, 137, 135, 69, 70, 71, 72, 29, 36, 37, 38, 316, 317, 318, 319, 320, 321, 322, 323, 324, 325, 308, 309, 310, 311, 312, 313, 314, 315] (by decide +kernel) (by decide +kernel)) (goodIn_sub (fun _ h => List.mem_cons_of_mem _ (List.mem_append_left _ (List.mem_append_left _ (List.mem_append_right _ h)))) (by decide +kernel))) (goodIn_sub (fun _ h => List.mem_cons_of_mem _ (List.mem_append_right _ h)) (by decide +kernel))
set_option maxRecDepth 20000 in
theorem gL_refuses_L_cancel : GoodIn wsL_refuses (va_wsS RL 113 yL_cancel wsL_cancel) := goodIn_app (goodIn_of _ (by decide +kernel)) ggL_refuses_L_cancel
set_option maxRecDepth 20000 in
theorem ggL_refuses_L_build : GoodIn wsL_refuses wsL_build := goodIn_ca (goodIn_ca (goodIn_r _ [167, 14, 16, 1, 3, 168, 169, 170, 7, 171, 21, 22, 25, 26, 68, 69, 70, 71, 72, 29, 36, 37, 38, 172, 173, 174, 175, 28, 176, 177, 178, 179, 180, 136, 181, 182, 183, 32, 184, 51, 185, 186, 187, 188, 55, 57, 56, 58, 189, 190, 156, 191, 192, 193, 194, 195, 196, 197, 198, 199, 200, 201, 111, 33, 34, 35, 316, 317, 318, 319, 320, 321, 322, 323, 324, 325, 308, 309, 310, 311, 312, 313, 314, 315] (by decide +kernel) (by decide +kernel)) (goodIn_sub (fun _ h => List.mem_cons_of_mem _ (List.mem_append_left _ (List.mem_append_left _ (List.mem_append_right _ h)))) (by decide +kernel))) (goodIn_sub (fun _ h => List.mem_cons_of_mem _ (List.mem_append_right _ h)) (by decide +kernel))
set_option maxRecDepth 20000 in
theorem gL_refuses_L_build : GoodIn wsL_refuses (va_wsS RL 115 yL_build wsL_build) := goodIn_app (goodIn_of _ (by decide +kernel)) ggL_refuses_L_build
set_option maxRecDepth 20000 in
theorem ggL_refuses_L_inspect : GoodIn wsL_refuses wsL_inspect := goodIn_ca (goodIn_ca (goodIn_r _ [204, 14, 16, 1, 3, 205, 206, 207, 7, 208, 21, 22, 25, 26, 27, 39, 40, 41, 36, 37, 38, 209, 210, 211, 212, 28, 180, 68, 69, 70, 71, 72, 29, 181, 182, 183, 32, 184, 51, 172, 173, 174, 175, 176, 177, 178, 179, 136, 185, 186, 187, 188, 55, 57, 56, 58, 189, 190, 156, 191, 192, 193, 194, 195, 196, 197, 198, 199, 200, 201, 111, 33, 34, 35, 308, 309, 310, 311, 312, 313, 314, 315, 316, 317, 318, 319, 320, 321, 322, 323, 324, 325] (by decide +kernel) (by decide +kernel)) (goodIn_sub (fun _ h => List.mem_cons_of_mem _ (List.mem_append_left _ (List.mem_append_left _ (List.mem_append_right _ h)))) (by decide +kernel))) (goodIn_sub (fun _ h => List.mem_cons_of_mem _ (List.mem_append_right _ h)) (by decide +kernel))
set_option maxRecDepth 20000 in
theorem gL_refuses_L_inspect : GoodIn wsL_refuses (va_wsS RL 117 yL_inspect wsL_inspect) := goodIn_app (goodIn_of _ (by decide +kernel)) ggL_refuses_L_inspect
set_option maxRecDepth 20000 in
theorem ggL_refuses_L_pass : GoodIn wsL_refuses wsL_pass := goodIn_ca (goodIn_ca (goodIn_r _ [215, 15, 16, 2, 3, 216, 217, 218, 7, 219, 23, 24, 25, 26, 135, 28, 36, 37, 38, 69, 70, 71, 72, 29, 142, 143, 144, 32, 145, 51, 52, 308, 309, 310, 311, 312, 313, 314, 315, 316, 317, 318, 319, 320, 321, 322, 323, 324, 325] (by decide +kernel) (by decide +kernel)) (goodIn_sub (fun _ h => List.mem_cons_of_mem _ (List.mem_append_left _ (List.mem_append_right _ h))) (by decide +kernel))) (goodIn_sub (fun _ h => List.mem_cons_of_mem _ (List.mem_append_right _ h)) (by decide +kernel))
set_option maxRecDepth 20000 in
theorem gL_refuses_L_pass : GoodIn wsL_refuses (va_wsS RL 119 yL_pass wsL_pass) := goodIn_app (goodIn_of _ (by decide +kernel)) ggL_refuses_L_pass
set_option maxRecDepth 20000 in
theorem ggL_refuses_L_elementOf : GoodIn wsL_refuses wsL_elementOf := goodIn_ca (goodIn_ca (goodIn_r _ [222, 14, 15, 1, 2, 223, 224, 225, 7, 226, 21, 22, 23, 24, 136, 180, 227, 228, 229, 230, 68, 87, 88, 69, 70, 71, 72, 29, 36, 37, 38, 150, 151, 152, 32, 153, 57, 55, 154, 155, 156, 157, 58, 56, 316, 317, 318, 319, 320, 321, 322, 323, 324, 325, 308, 309, 310, 311, 312, 313, 314, 315] (by decide +kernel) (by decide +kernel)) (goodIn_sub (fun _ h => List.mem_cons_of_mem _ (List.mem_append_left _ (List.mem_append_left _ (List.mem_append_right _ h)))) (by decide +kernel))) (goodIn_sub (fun _ h => List.mem_cons_of_mem _ (List.mem_append_left _ (List.mem_append_right _ h))) (by decide +kernel))
set_option maxRecDepth 20000 in
theorem gL_refuses_L_elementOf : GoodIn wsL_refuses (va_wsS RL 121 yL_elementOf wsL_elementOf) := goodIn_app (goodIn_of _ (by decide +kernel)) ggL_refuses_L_elementOf
set_option maxRecDepth 20000 in
theorem ggL_refuses_L_clash : GoodIn wsL_refuses wsL_clash := goodIn_ca (goodIn_r _ [233, 14, 1, 234, 235, 236, 7, 237, 21, 22, 69, 70, 71, 72, 29, 36, 37, 38, 176, 177, 178, 179, 180, 136, 181, 182, 183, 32, 184, 51, 185, 186, 187, 188, 55, 57, 56, 58, 189, 190, 156, 191, 192, 193, 194, 195, 196, 197, 198, 199, 200, 201, 111, 33, 34, 35, 308, 309, 310, 311, 312, 313, 314, 315, 316, 317, 318, 319, 320, 321, 322, 323, 324, 325] (by decide +kernel) (by decide +kernel)) (goodIn_sub (fun _ h => List.mem_cons_of_mem _ (List.mem_append_left _ (List.mem_append_left _ (List.mem_append_right _ h)))) (by decide +kernel))
set_option maxRecDepth 20000 in
theorem gL_refuses_L_clash : GoodIn wsL_refuses (va_wsS RL 123 yL_clash wsL_clash) := goodIn_app (goodIn_of _ (by decide +kernel)) ggL_refuses_L_clash
set_option maxRecDepth 20000 in
theorem ggL_refuses_L_clashes : GoodIn wsL_refuses wsL_clashes := goodIn_ca (goodIn_r _ [240, 14, 1, 241, 242, 243, 7, 244, 21, 22, 28, 39, 40, 41, 36, 37, 38, 245, 246, 247, 248, 180, 69, 70, 71, 72, 29, 249, 250, 251, 252, 176, 177, 178, 179, 136, 181, 182, 183, 32, 184, 51, 185, 186, 187, 188, 55, 57, 56, 58, 189, 190, 156, 191, 192, 193, 194, 195, 196, 197, 198, 199, 200, 201, 111, 33, 34, 35, 308, 309, 310, 311, 312, 313, 314, 315, 316, 317, 318, 319, 320, 321, 322, 323, 324, 325] (by decide +kernel) (by decide +kernel)) (goodIn_sub (fun _ h => List.mem_cons_of_mem _ (List.mem_append_left _ (List.mem_append_left _ (List.mem_append_right _ h)))) (by decide +kernel))
set_option maxRecDepth 20000 in
theorem gL_refuses_L_clashes : GoodIn wsL_refuses (va_wsS RL 125 yL_clashes wsL_clashes) := goodIn_app (goodIn_of _ (by decide +kernel)) ggL_refuses_L_clashes
set_option maxRecDepth 20000 in
theorem ggL_refuses_L_isStopped : GoodIn wsL_refuses wsL_isStopped := goodIn_ca (goodIn_r _ [255, 14, 1, 256, 257, 258, 7, 259, 21, 22, 28, 136, 180, 33, 34, 35, 36, 37, 38, 39, 40, 41, 69, 70, 71, 72, 29, 172, 173, 174, 175, 176, 177, 178, 179, 181, 182, 183, 32, 184, 51, 185, 186, 187, 188, 55, 57, 56, 58, 189, 190, 156, 191, 192, 193, 194, 195, 196, 197, 198, 199, 200, 201, 111, 308, 309, 310, 311, 312, 313, 314, 315, 316, 317, 318, 319, 320, 321, 322, 323, 324, 325] (by decide +kernel) (by decide +kernel)) (goodIn_sub (fun _ h => List.mem_cons_of_mem _ (List.mem_append_left _ (List.mem_append_left _ (List.mem_append_right _ h)))) (by decide +kernel))
set_option maxRecDepth 20000 in
theorem gL_refuses_L_isStopped : GoodIn wsL_refuses (va_wsS RL 127 yL_isStopped wsL_isStopped) := goodIn_app (goodIn_of _ (by decide +kernel)) ggL_refuses_L_isStopped
set_option maxRecDepth 20000 in
theorem ggL_refuses_L_parts : GoodIn wsL_refuses wsL_parts := goodIn_ca (goodIn_r _ [262, 14, 1, 263, 264, 265, 7, 266, 21, 22, 33, 34, 35, 36, 37, 38, 267, 268, 269, 270, 28, 136, 68, 69, 70, 71, 72, 29, 146, 147, 148, 149, 119, 150, 151, 152, 32, 153, 57, 55, 154, 155, 156, 157, 58, 56, 308, 309, 310, 311, 312, 313, 314, 315, 316, 317, 318, 319, 320, 321, 322, 323, 324, 325] (by decide +kernel) (by decide +kernel)) (goodIn_sub (fun _ h => List.mem_cons_of_mem _ (List.mem_append_left _ (List.mem_append_left _ (List.mem_append_right _ h)))) (by decide +kernel))
set_option maxRecDepth 20000 in
theorem gL_refuses_L_parts : GoodIn wsL_refuses (va_wsS RL 129 yL_parts wsL_parts) := goodIn_app (goodIn_of _ (by decide +kernel)) ggL_refuses_L_parts
set_option maxRecDepth 20000 in
theorem ggL_refuses_L_anew : GoodIn wsL_refuses wsL_anew := goodIn_ca (goodIn_r _ [273, 14, 1, 274, 275, 276, 7, 277, 21, 22, 28, 136, 119, 33, 34, 35, 36, 37, 38, 69, 70, 71, 72, 29, 181, 182, 183, 32, 184, 51, 278, 279, 280, 281, 282, 283, 284, 285, 55, 57, 195, 196, 156, 197, 189, 190, 191, 56, 58, 308, 309, 310, 311, 312, 313, 314, 315, 316, 317, 318, 319, 320, 321, 322, 323, 324, 325] (by decide +kernel) (by decide +kernel)) (goodIn_sub (fun _ h => List.mem_cons_of_mem _ (List.mem_append_left _ (List.mem_append_left _ (List.mem_append_right _ h)))) (by decide +kernel))
set_option maxRecDepth 20000 in
theorem gL_refuses_L_anew : GoodIn wsL_refuses (va_wsS RL 131 yL_anew wsL_anew) := goodIn_app (goodIn_of _ (by decide +kernel)) ggL_refuses_L_anew
set_option maxRecDepth 20000 in
theorem ggL_refuses_L_ordered : GoodIn wsL_refuses wsL_ordered := goodIn_ca (goodIn_r _ [288, 14, 1, 289, 290, 291, 7, 292, 21, 22, 33, 34, 35, 36, 37, 38, 267, 268, 269, 270, 28, 136, 68, 69, 70, 71, 72, 29, 146, 147, 148, 149, 119, 150, 151, 152, 32, 153, 57, 55, 154, 155, 156, 157, 58, 56, 308, 309, 310, 311, 312, 313, 314, 315, 316, 317, 318, 319, 320, 321, 322, 323, 324, 325] (by decide +kernel) (by decide +kernel)) (goodIn_sub (fun _ h => List.mem_cons_of_mem _ (List.mem_append_left _ (List.mem_append_left _ (List.mem_append_right _ h)))) (by decide +kernel))
set_option maxRecDepth 20000 in
theorem gL_refuses_L_ordered : GoodIn wsL_refuses (va_wsS RL 134 yL_ordered wsL_ordered) := goodIn_app (goodIn_of _ (by decide +kernel)) ggL_refuses_L_ordered
set_option maxRecDepth 20000 in
theorem ggL_refuses_L_kindsAt : GoodIn wsL_refuses wsL_kindsAt := goodIn_ca (goodIn_ca (goodIn_r _ [295, 14, 15, 1, 2, 296, 297, 298, 7, 299, 21, 22, 23, 24, 28, 180, 136, 39, 40, 41, 36, 37, 38, 42, 43, 44, 69, 70, 71, 72, 29, 181, 182, 183, 32, 184, 51, 300, 283, 284, 285, 55, 57, 195, 196, 156, 197, 189, 190, 191, 56, 58, 308, 309, 310, 311, 312, 313, 314, 315, 316, 317, 318, 319, 320, 321, 322, 323, 324, 325] (by decide +kernel) (by decide +kernel)) (goodIn_sub (fun _ h => List.mem_cons_of_mem _ (List.mem_append_left _ (List.mem_append_left _ (List.mem_append_right _ h)))) (by decide +kernel))) (goodIn_sub (fun _ h => List.mem_cons_of_mem _ (List.mem_append_left _ (List.mem_append_right _ h))) (by decide +kernel))
set_option maxRecDepth 20000 in
theorem gL_refuses_L_kindsAt : GoodIn wsL_refuses (va_wsS RL 136 yL_kindsAt wsL_kindsAt) := goodIn_app (goodIn_of _ (by decide +kernel)) ggL_refuses_L_kindsAt
set_option maxRecDepth 20000 in
theorem ggL_refuses_L_isLocked : GoodIn wsL_refuses wsL_isLocked := goodIn_ca (goodIn_r _ [303, 14, 1, 304, 305, 306, 7, 307, 21, 22, 27, 39, 40, 41, 36, 37, 38, 308, 309, 310, 311, 312, 313, 314, 315] (by decide +kernel) (by decide +kernel)) (goodIn_sub (fun _ h => List.mem_cons_of_mem _ (List.mem_append_left _ (List.mem_append_left _ (List.mem_append_right _ h)))) (by decide +kernel))
set_option maxRecDepth 20000 in
theorem gL_refuses_L_isLocked : GoodIn wsL_refuses (va_wsS RL 138 yL_isLocked wsL_isLocked) := goodIn_app (goodIn_of _ (by decide +kernel)) ggL_refuses_L_isLocked
theorem dL_refuses_0 : decode cL_refuses 0 = .ok (.iload_n 2, 1) := by decide +kernel
theorem dL_refuses_1 : decode cL_refuses 1 = .ok (.iconst 2, 1) := by decide +kernel
theorem dL_refuses_2 : decode cL_refuses 2 = .ok (.irem, 1) := by decide +kernel
theorem dL_refuses_3 : decode cL_refuses 3 = .ok (.ifCond .ne 7, 3) := by decide +kernel
theorem dL_refuses_6 : decode cL_refuses 6 = .ok (.iconst 1, 1) := by decide +kernel
theorem dL_refuses_7 : decode cL_refuses 7 = .ok (.goto 4, 3) := by decide +kernel
theorem dL_refuses_10 : decode cL_refuses 10 = .ok (.iconst 0, 1) := by decide +kernel
theorem dL_refuses_11 : decode cL_refuses 11 = .ok (.istore_n 3, 1) := by decide +kernel
theorem dL_refuses_12 : decode cL_refuses 12 = .ok (.iload_n 3, 1) := by decide +kernel
theorem dL_refuses_13 : decode cL_refuses 13 = .ok (.ifCond .eq 9, 3) := by decide +kernel
theorem dL_refuses_16 : decode cL_refuses 16 = .ok (.iconst (-1), 1) := by decide +kernel
theorem dL_refuses_17 : decode cL_refuses 17 = .ok (.iload_n 2, 1) := by decide +kernel
theorem dL_refuses_18 : decode cL_refuses 18 = .ok (.isub, 1) := by decide +kernel
theorem dL_refuses_19 : decode cL_refuses 19 = .ok (.goto 6, 3) := by decide +kernel
theorem dL_refuses_22 : decode cL_refuses 22 = .ok (.iconst 3, 1) := by decide +kernel
theorem dL_refuses_23 : decode cL_refuses 23 = .ok (.iload_n 2, 1) := by decide +kernel
theorem dL_refuses_24 : decode cL_refuses 24 = .ok (.iadd, 1) := by decide +kernel
theorem dL_refuses_25 : decode cL_refuses 25 = .ok (.istore 4, 2) := by decide +kernel
theorem dL_refuses_27 : decode cL_refuses 27 = .ok (.iload_n 3, 1) := by decide +kernel
theorem dL_refuses_28 : decode cL_refuses 28 = .ok (.ifCond .eq 9, 3) := by decide +kernel
theorem dL_refuses_31 : decode cL_refuses 31 = .ok (.iconst (-1), 1) := by decide +kernel
theorem dL_refuses_32 : decode cL_refuses 32 = .ok (.iload_n 2, 1) := by decide +kernel
theorem dL_refuses_33 : decode cL_refuses 33 = .ok (.isub, 1) := by decide +kernel
theorem dL_refuses_34 : decode cL_refuses 34 = .ok (.goto 6, 3) := by decide +kernel
theorem dL_refuses_37 : decode cL_refuses 37 = .ok (.iconst 4, 1) := by decide +kernel
theorem dL_refuses_38 : decode cL_refuses 38 = .ok (.iload_n 2, 1) := by decide +kernel
theorem dL_refuses_39 : decode cL_refuses 39 = .ok (.iadd, 1) := by decide +kernel
theorem dL_refuses_40 : decode cL_refuses 40 = .ok (.istore 5, 2) := by decide +kernel
theorem dL_refuses_42 : decode cL_refuses 42 = .ok (.iload_n 3, 1) := by decide +kernel
theorem dL_refuses_43 : decode cL_refuses 43 = .ok (.ifCond .eq 9, 3) := by decide +kernel
theorem dL_refuses_46 : decode cL_refuses 46 = .ok (.iconst (-1), 1) := by decide +kernel
theorem dL_refuses_47 : decode cL_refuses 47 = .ok (.iload_n 2, 1) := by decide +kernel
theorem dL_refuses_48 : decode cL_refuses 48 = .ok (.isub, 1) := by decide +kernel
theorem dL_refuses_49 : decode cL_refuses 49 = .ok (.goto 6, 3) := by decide +kernel
theorem dL_refuses_52 : decode cL_refuses 52 = .ok (.iload_n 1, 1) := by decide +kernel
theorem dL_refuses_53 : decode cL_refuses 53 = .ok (.iload_n 2, 1) := by decide +kernel
theorem dL_refuses_54 : decode cL_refuses 54 = .ok (.iadd, 1) := by decide +kernel
theorem dL_refuses_55 : decode cL_refuses 55 = .ok (.istore 6, 2) := by decide +kernel
theorem dL_refuses_57 : decode cL_refuses 57 = .ok (.iload_n 3, 1) := by decide +kernel
theorem dL_refuses_58 : decode cL_refuses 58 = .ok (.ifCond .eq 9, 3) := by decide +kernel
theorem dL_refuses_61 : decode cL_refuses 61 = .ok (.iconst (-1), 1) := by decide +kernel
theorem dL_refuses_62 : decode cL_refuses 62 = .ok (.iload_n 2, 1) := by decide +kernel
theorem dL_refuses_63 : decode cL_refuses 63 = .ok (.isub, 1) := by decide +kernel
theorem dL_refuses_64 : decode cL_refuses 64 = .ok (.goto 7, 3) := by decide +kernel
theorem dL_refuses_67 : decode cL_refuses 67 = .ok (.bipush 12, 2) := by decide +kernel
theorem dL_refuses_69 : decode cL_refuses 69 = .ok (.iload_n 2, 1) := by decide +kernel
theorem dL_refuses_70 : decode cL_refuses 70 = .ok (.iadd, 1) := by decide +kernel
theorem dL_refuses_71 : decode cL_refuses 71 = .ok (.istore 7, 2) := by decide +kernel
theorem dL_refuses_73 : decode cL_refuses 73 = .ok (.iload_n 3, 1) := by decide +kernel
theorem dL_refuses_74 : decode cL_refuses 74 = .ok (.ifCond .eq 9, 3) := by decide +kernel
theorem dL_refuses_77 : decode cL_refuses 77 = .ok (.iconst (-1), 1) := by decide +kernel
theorem dL_refuses_78 : decode cL_refuses 78 = .ok (.iload_n 2, 1) := by decide +kernel
theorem dL_refuses_79 : decode cL_refuses 79 = .ok (.isub, 1) := by decide +kernel
theorem dL_refuses_80 : decode cL_refuses 80 = .ok (.goto 11, 3) := by decide +kernel
theorem dL_refuses_83 : decode cL_refuses 83 = .ok (.aload_n 0, 1) := by decide +kernel
theorem dL_refuses_84 : decode cL_refuses 84 = .ok (.invokevirtual 88, 3) := by decide +kernel
theorem dL_refuses_87 : decode cL_refuses 87 = .ok (.iconst 1, 1) := by decide +kernel
theorem dL_refuses_88 : decode cL_refuses 88 = .ok (.iadd, 1) := by decide +kernel
theorem dL_refuses_89 : decode cL_refuses 89 = .ok (.iload_n 2, 1) := by decide +kernel
theorem dL_refuses_90 : decode cL_refuses 90 = .ok (.iadd, 1) := by decide +kernel
theorem dL_refuses_91 : decode cL_refuses 91 = .ok (.istore 8, 2) := by decide +kernel
theorem dL_refuses_93 : decode cL_refuses 93 = .ok (.aload_n 0, 1) := by decide +kernel
theorem dL_refuses_94 : decode cL_refuses 94 = .ok (.iload 4, 2) := by decide +kernel
theorem dL_refuses_96 : decode cL_refuses 96 = .ok (.iconst 0, 1) := by decide +kernel
theorem dL_refuses_97 : decode cL_refuses 97 = .ok (.iconst 0, 1) := by decide +kernel
theorem dL_refuses_98 : decode cL_refuses 98 = .ok (.iconst 0, 1) := by decide +kernel
theorem dL_refuses_99 : decode cL_refuses 99 = .ok (.iconst 0, 1) := by decide +kernel
theorem dL_refuses_100 : decode cL_refuses 100 = .ok (.iconst 0, 1) := by decide +kernel
theorem dL_refuses_101 : decode cL_refuses 101 = .ok (.invokestatic 92, 3) := by decide +kernel
theorem dL_refuses_104 : decode cL_refuses 104 = .ok (.ldc 15, 2) := by decide +kernel
theorem dL_refuses_106 : decode cL_refuses 106 = .ok (.if_icmp .ne 503, 3) := by decide +kernel
theorem dL_refuses_109 : decode cL_refuses 109 = .ok (.aload_n 0, 1) := by decide +kernel
theorem dL_refuses_110 : decode cL_refuses 110 = .ok (.iconst 0, 1) := by decide +kernel
theorem dL_refuses_111 : decode cL_refuses 111 = .ok (.iload 5, 2) := by decide +kernel
theorem dL_refuses_113 : decode cL_refuses 113 = .ok (.iconst 0, 1) := by decide +kernel
theorem dL_refuses_114 : decode cL_refuses 114 = .ok (.iconst 0, 1) := by decide +kernel
theorem dL_refuses_115 : decode cL_refuses 115 = .ok (.iconst 0, 1) := by decide +kernel
theorem dL_refuses_116 : decode cL_refuses 116 = .ok (.iconst 0, 1) := by decide +kernel
theorem dL_refuses_117 : decode cL_refuses 117 = .ok (.invokestatic 92, 3) := by decide +kernel
theorem dL_refuses_120 : decode cL_refuses 120 = .ok (.ldc 15, 2) := by decide +kernel
theorem dL_refuses_122 : decode cL_refuses 122 = .ok (.if_icmp .ne 487, 3) := by decide +kernel
theorem dL_refuses_125 : decode cL_refuses 125 = .ok (.aload_n 0, 1) := by decide +kernel
theorem dL_refuses_126 : decode cL_refuses 126 = .ok (.iload_n 2, 1) := by decide +kernel
theorem dL_refuses_127 : decode cL_refuses 127 = .ok (.iconst 3, 1) := by decide +kernel
theorem dL_refuses_128 : decode cL_refuses 128 = .ok (.irem, 1) := by decide +kernel
theorem dL_refuses_129 : decode cL_refuses 129 = .ok (.iload_n 2, 1) := by decide +kernel
theorem dL_refuses_130 : decode cL_refuses 130 = .ok (.iconst 4, 1) := by decide +kernel
theorem dL_refuses_131 : decode cL_refuses 131 = .ok (.irem, 1) := by decide +kernel
theorem dL_refuses_132 : decode cL_refuses 132 = .ok (.iload 7, 2) := by decide +kernel
theorem dL_refuses_134 : decode cL_refuses 134 = .ok (.iconst 0, 1) := by decide +kernel
theorem dL_refuses_135 : decode cL_refuses 135 = .ok (.iload 7, 2) := by decide +kernel
theorem dL_refuses_137 : decode cL_refuses 137 = .ok (.iconst 0, 1) := by decide +kernel
theorem dL_refuses_138 : decode cL_refuses 138 = .ok (.invokestatic 92, 3) := by decide +kernel
theorem dL_refuses_141 : decode cL_refuses 141 = .ok (.ldc 18, 2) := by decide +kernel
theorem dL_refuses_143 : decode cL_refuses 143 = .ok (.if_icmp .ne 466, 3) := by decide +kernel
theorem dL_refuses_146 : decode cL_refuses 146 = .ok (.aload_n 0, 1) := by decide +kernel
theorem dL_refuses_147 : decode cL_refuses 147 = .ok (.iload_n 2, 1) := by decide +kernel
theorem dL_refuses_148 : decode cL_refuses 148 = .ok (.iconst 3, 1) := by decide +kernel
theorem dL_refuses_149 : decode cL_refuses 149 = .ok (.irem, 1) := by decide +kernel
theorem dL_refuses_150 : decode cL_refuses 150 = .ok (.iload_n 2, 1) := by decide +kernel
theorem dL_refuses_151 : decode cL_refuses 151 = .ok (.iconst 4, 1) := by decide +kernel
theorem dL_refuses_152 : decode cL_refuses 152 = .ok (.irem, 1) := by decide +kernel
theorem dL_refuses_153 : decode cL_refuses 153 = .ok (.iconst 0, 1) := by decide +kernel
theorem dL_refuses_154 : decode cL_refuses 154 = .ok (.iload 7, 2) := by decide +kernel
theorem dL_refuses_156 : decode cL_refuses 156 = .ok (.iconst 0, 1) := by decide +kernel
theorem dL_refuses_157 : decode cL_refuses 157 = .ok (.iconst 0, 1) := by decide +kernel
theorem dL_refuses_158 : decode cL_refuses 158 = .ok (.invokestatic 92, 3) := by decide +kernel
theorem dL_refuses_161 : decode cL_refuses 161 = .ok (.ldc 18, 2) := by decide +kernel
theorem dL_refuses_163 : decode cL_refuses 163 = .ok (.if_icmp .ne 446, 3) := by decide +kernel
theorem dL_refuses_166 : decode cL_refuses 166 = .ok (.aload_n 0, 1) := by decide +kernel
theorem dL_refuses_167 : decode cL_refuses 167 = .ok (.iload_n 2, 1) := by decide +kernel
theorem dL_refuses_168 : decode cL_refuses 168 = .ok (.iconst 3, 1) := by decide +kernel
theorem dL_refuses_169 : decode cL_refuses 169 = .ok (.irem, 1) := by decide +kernel
theorem dL_refuses_170 : decode cL_refuses 170 = .ok (.iload_n 2, 1) := by decide +kernel
theorem dL_refuses_171 : decode cL_refuses 171 = .ok (.iconst 4, 1) := by decide +kernel
theorem dL_refuses_172 : decode cL_refuses 172 = .ok (.irem, 1) := by decide +kernel
theorem dL_refuses_173 : decode cL_refuses 173 = .ok (.iconst 0, 1) := by decide +kernel
theorem dL_refuses_174 : decode cL_refuses 174 = .ok (.iconst 0, 1) := by decide +kernel
theorem dL_refuses_175 : decode cL_refuses 175 = .ok (.iload 7, 2) := by decide +kernel
theorem dL_refuses_177 : decode cL_refuses 177 = .ok (.iconst 0, 1) := by decide +kernel
theorem dL_refuses_178 : decode cL_refuses 178 = .ok (.invokestatic 92, 3) := by decide +kernel
theorem dL_refuses_181 : decode cL_refuses 181 = .ok (.ldc 18, 2) := by decide +kernel
theorem dL_refuses_183 : decode cL_refuses 183 = .ok (.if_icmp .ne 426, 3) := by decide +kernel
theorem dL_refuses_186 : decode cL_refuses 186 = .ok (.aload_n 0, 1) := by decide +kernel
theorem dL_refuses_187 : decode cL_refuses 187 = .ok (.iload_n 2, 1) := by decide +kernel
theorem dL_refuses_188 : decode cL_refuses 188 = .ok (.iconst 3, 1) := by decide +kernel
theorem dL_refuses_189 : decode cL_refuses 189 = .ok (.irem, 1) := by decide +kernel
theorem dL_refuses_190 : decode cL_refuses 190 = .ok (.iload_n 2, 1) := by decide +kernel
theorem dL_refuses_191 : decode cL_refuses 191 = .ok (.iconst 4, 1) := by decide +kernel
theorem dL_refuses_192 : decode cL_refuses 192 = .ok (.irem, 1) := by decide +kernel
theorem dL_refuses_193 : decode cL_refuses 193 = .ok (.iconst 0, 1) := by decide +kernel
theorem dL_refuses_194 : decode cL_refuses 194 = .ok (.iconst 0, 1) := by decide +kernel
theorem dL_refuses_195 : decode cL_refuses 195 = .ok (.iconst 0, 1) := by decide +kernel
theorem dL_refuses_196 : decode cL_refuses 196 = .ok (.iload 7, 2) := by decide +kernel
theorem dL_refuses_198 : decode cL_refuses 198 = .ok (.invokestatic 92, 3) := by decide +kernel
theorem dL_refuses_201 : decode cL_refuses 201 = .ok (.ldc 18, 2) := by decide +kernel
theorem dL_refuses_203 : decode cL_refuses 203 = .ok (.if_icmp .ne 406, 3) := by decide +kernel
theorem dL_refuses_206 : decode cL_refuses 206 = .ok (.aload_n 0, 1) := by decide +kernel
theorem dL_refuses_207 : decode cL_refuses 207 = .ok (.iload_n 2, 1) := by decide +kernel
theorem dL_refuses_208 : decode cL_refuses 208 = .ok (.iconst 3, 1) := by decide +kernel
theorem dL_refuses_209 : decode cL_refuses 209 = .ok (.irem, 1) := by decide +kernel
theorem dL_refuses_210 : decode cL_refuses 210 = .ok (.iload_n 2, 1) := by decide +kernel
theorem dL_refuses_211 : decode cL_refuses 211 = .ok (.iconst 4, 1) := by decide +kernel
theorem dL_refuses_212 : decode cL_refuses 212 = .ok (.irem, 1) := by decide +kernel
theorem dL_refuses_213 : decode cL_refuses 213 = .ok (.iload_n 2, 1) := by decide +kernel
theorem dL_refuses_214 : decode cL_refuses 214 = .ok (.bipush 11, 2) := by decide +kernel
theorem dL_refuses_216 : decode cL_refuses 216 = .ok (.irem, 1) := by decide +kernel
theorem dL_refuses_217 : decode cL_refuses 217 = .ok (.iconst 3, 1) := by decide +kernel
theorem dL_refuses_218 : decode cL_refuses 218 = .ok (.iload_n 2, 1) := by decide +kernel
theorem dL_refuses_219 : decode cL_refuses 219 = .ok (.bipush 11, 2) := by decide +kernel
theorem dL_refuses_221 : decode cL_refuses 221 = .ok (.irem, 1) := by decide +kernel
theorem dL_refuses_222 : decode cL_refuses 222 = .ok (.iconst 1, 1) := by decide +kernel
theorem dL_refuses_223 : decode cL_refuses 223 = .ok (.iadd, 1) := by decide +kernel
theorem dL_refuses_224 : decode cL_refuses 224 = .ok (.iconst 4, 1) := by decide +kernel
theorem dL_refuses_225 : decode cL_refuses 225 = .ok (.invokestatic 92, 3) := by decide +kernel
theorem dL_refuses_228 : decode cL_refuses 228 = .ok (.ldc 18, 2) := by decide +kernel
theorem dL_refuses_230 : decode cL_refuses 230 = .ok (.if_icmp .ne 379, 3) := by decide +kernel
theorem dL_refuses_233 : decode cL_refuses 233 = .ok (.aload_n 0, 1) := by decide +kernel
theorem dL_refuses_234 : decode cL_refuses 234 = .ok (.iload_n 2, 1) := by decide +kernel
theorem dL_refuses_235 : decode cL_refuses 235 = .ok (.iconst 3, 1) := by decide +kernel
theorem dL_refuses_236 : decode cL_refuses 236 = .ok (.irem, 1) := by decide +kernel
theorem dL_refuses_237 : decode cL_refuses 237 = .ok (.iconst 0, 1) := by decide +kernel
theorem dL_refuses_238 : decode cL_refuses 238 = .ok (.iload 6, 2) := by decide +kernel
theorem dL_refuses_240 : decode cL_refuses 240 = .ok (.iconst 0, 1) := by decide +kernel
theorem dL_refuses_241 : decode cL_refuses 241 = .ok (.iconst 0, 1) := by decide +kernel
theorem dL_refuses_242 : decode cL_refuses 242 = .ok (.invokestatic 97, 3) := by decide +kernel
theorem dL_refuses_245 : decode cL_refuses 245 = .ok (.ldc 15, 2) := by decide +kernel
theorem dL_refuses_247 : decode cL_refuses 247 = .ok (.if_icmp .ne 362, 3) := by decide +kernel
theorem dL_refuses_250 : decode cL_refuses 250 = .ok (.aload_n 0, 1) := by decide +kernel
theorem dL_refuses_251 : decode cL_refuses 251 = .ok (.iload_n 2, 1) := by decide +kernel
theorem dL_refuses_252 : decode cL_refuses 252 = .ok (.iconst 3, 1) := by decide +kernel
theorem dL_refuses_253 : decode cL_refuses 253 = .ok (.irem, 1) := by decide +kernel
theorem dL_refuses_254 : decode cL_refuses 254 = .ok (.iconst 0, 1) := by decide +kernel
theorem dL_refuses_255 : decode cL_refuses 255 = .ok (.iload 6, 2) := by decide +kernel
theorem dL_refuses_257 : decode cL_refuses 257 = .ok (.invokestatic 100, 3) := by decide +kernel
theorem dL_refuses_260 : decode cL_refuses 260 = .ok (.ldc 15, 2) := by decide +kernel
theorem dL_refuses_262 : decode cL_refuses 262 = .ok (.if_icmp .ne 347, 3) := by decide +kernel
theorem dL_refuses_265 : decode cL_refuses 265 = .ok (.aload_n 0, 1) := by decide +kernel
theorem dL_refuses_266 : decode cL_refuses 266 = .ok (.iload 4, 2) := by decide +kernel
theorem dL_refuses_268 : decode cL_refuses 268 = .ok (.iconst 0, 1) := by decide +kernel
theorem dL_refuses_269 : decode cL_refuses 269 = .ok (.iconst 0, 1) := by decide +kernel
theorem dL_refuses_270 : decode cL_refuses 270 = .ok (.invokestatic 103, 3) := by decide +kernel
theorem dL_refuses_273 : decode cL_refuses 273 = .ok (.ldc 15, 2) := by decide +kernel
theorem dL_refuses_275 : decode cL_refuses 275 = .ok (.if_icmp .ne 334, 3) := by decide +kernel
theorem dL_refuses_278 : decode cL_refuses 278 = .ok (.aload_n 0, 1) := by decide +kernel
theorem dL_refuses_279 : decode cL_refuses 279 = .ok (.iconst 0, 1) := by decide +kernel
theorem dL_refuses_280 : decode cL_refuses 280 = .ok (.iload 4, 2) := by decide +kernel
theorem dL_refuses_282 : decode cL_refuses 282 = .ok (.iconst 0, 1) := by decide +kernel
theorem dL_refuses_283 : decode cL_refuses 283 = .ok (.invokestatic 103, 3) := by decide +kernel
theorem dL_refuses_286 : decode cL_refuses 286 = .ok (.ldc 15, 2) := by decide +kernel
theorem dL_refuses_288 : decode cL_refuses 288 = .ok (.if_icmp .ne 321, 3) := by decide +kernel
theorem dL_refuses_291 : decode cL_refuses 291 = .ok (.aload_n 0, 1) := by decide +kernel
theorem dL_refuses_292 : decode cL_refuses 292 = .ok (.iload_n 2, 1) := by decide +kernel
theorem dL_refuses_293 : decode cL_refuses 293 = .ok (.iconst 3, 1) := by decide +kernel
theorem dL_refuses_294 : decode cL_refuses 294 = .ok (.irem, 1) := by decide +kernel
theorem dL_refuses_295 : decode cL_refuses 295 = .ok (.iconst 0, 1) := by decide +kernel
theorem dL_refuses_296 : decode cL_refuses 296 = .ok (.iload_n 3, 1) := by decide +kernel
theorem dL_refuses_297 : decode cL_refuses 297 = .ok (.ifCond .eq 9, 3) := by decide +kernel
theorem dL_refuses_300 : decode cL_refuses 300 = .ok (.iconst (-1), 1) := by decide +kernel
theorem dL_refuses_301 : decode cL_refuses 301 = .ok (.iload_n 2, 1) := by decide +kernel
theorem dL_refuses_302 : decode cL_refuses 302 = .ok (.isub, 1) := by decide +kernel
theorem dL_refuses_303 : decode cL_refuses 303 = .ok (.goto 6, 3) := by decide +kernel
theorem dL_refuses_306 : decode cL_refuses 306 = .ok (.iconst 4, 1) := by decide +kernel
theorem dL_refuses_307 : decode cL_refuses 307 = .ok (.iload_n 2, 1) := by decide +kernel
theorem dL_refuses_308 : decode cL_refuses 308 = .ok (.iadd, 1) := by decide +kernel
theorem dL_refuses_309 : decode cL_refuses 309 = .ok (.invokestatic 103, 3) := by decide +kernel
theorem dL_refuses_312 : decode cL_refuses 312 = .ok (.ldc 18, 2) := by decide +kernel
theorem dL_refuses_314 : decode cL_refuses 314 = .ok (.if_icmp .ne 295, 3) := by decide +kernel
theorem dL_refuses_317 : decode cL_refuses 317 = .ok (.aload_n 0, 1) := by decide +kernel
theorem dL_refuses_318 : decode cL_refuses 318 = .ok (.iload 4, 2) := by decide +kernel
theorem dL_refuses_320 : decode cL_refuses 320 = .ok (.iconst 1, 1) := by decide +kernel
theorem dL_refuses_321 : decode cL_refuses 321 = .ok (.invokestatic 105, 3) := by decide +kernel
theorem dL_refuses_324 : decode cL_refuses 324 = .ok (.ldc 15, 2) := by decide +kernel
theorem dL_refuses_326 : decode cL_refuses 326 = .ok (.if_icmp .ne 283, 3) := by decide +kernel
theorem dL_refuses_329 : decode cL_refuses 329 = .ok (.aload_n 0, 1) := by decide +kernel
theorem dL_refuses_330 : decode cL_refuses 330 = .ok (.iload_n 2, 1) := by decide +kernel
theorem dL_refuses_331 : decode cL_refuses 331 = .ok (.iconst 3, 1) := by decide +kernel
theorem dL_refuses_332 : decode cL_refuses 332 = .ok (.irem, 1) := by decide +kernel
theorem dL_refuses_333 : decode cL_refuses 333 = .ok (.iload_n 3, 1) := by decide +kernel
theorem dL_refuses_334 : decode cL_refuses 334 = .ok (.ifCond .eq 8, 3) := by decide +kernel
theorem dL_refuses_337 : decode cL_refuses 337 = .ok (.iload_n 2, 1) := by decide +kernel
theorem dL_refuses_338 : decode cL_refuses 338 = .ok (.ineg, 1) := by decide +kernel
theorem dL_refuses_339 : decode cL_refuses 339 = .ok (.goto 7, 3) := by decide +kernel
theorem dL_refuses_342 : decode cL_refuses 342 = .ok (.bipush 13, 2) := by decide +kernel
theorem dL_refuses_344 : decode cL_refuses 344 = .ok (.iload_n 2, 1) := by decide +kernel
theorem dL_refuses_345 : decode cL_refuses 345 = .ok (.iadd, 1) := by decide +kernel
theorem dL_refuses_346 : decode cL_refuses 346 = .ok (.invokestatic 105, 3) := by decide +kernel
theorem dL_refuses_349 : decode cL_refuses 349 = .ok (.ldc 18, 2) := by decide +kernel
theorem dL_refuses_351 : decode cL_refuses 351 = .ok (.if_icmp .ne 258, 3) := by decide +kernel
theorem dL_refuses_354 : decode cL_refuses 354 = .ok (.aload_n 0, 1) := by decide +kernel
theorem dL_refuses_355 : decode cL_refuses 355 = .ok (.iload 4, 2) := by decide +kernel
theorem dL_refuses_357 : decode cL_refuses 357 = .ok (.iconst 1, 1) := by decide +kernel
theorem dL_refuses_358 : decode cL_refuses 358 = .ok (.invokestatic 108, 3) := by decide +kernel
theorem dL_refuses_361 : decode cL_refuses 361 = .ok (.ldc 15, 2) := by decide +kernel
theorem dL_refuses_363 : decode cL_refuses 363 = .ok (.if_icmp .ne 246, 3) := by decide +kernel
theorem dL_refuses_366 : decode cL_refuses 366 = .ok (.aload_n 0, 1) := by decide +kernel
theorem dL_refuses_367 : decode cL_refuses 367 = .ok (.iload_n 2, 1) := by decide +kernel
theorem dL_refuses_368 : decode cL_refuses 368 = .ok (.iconst 3, 1) := by decide +kernel
theorem dL_refuses_369 : decode cL_refuses 369 = .ok (.irem, 1) := by decide +kernel
theorem dL_refuses_370 : decode cL_refuses 370 = .ok (.iload_n 3, 1) := by decide +kernel
theorem dL_refuses_371 : decode cL_refuses 371 = .ok (.ifCond .eq 9, 3) := by decide +kernel
theorem dL_refuses_374 : decode cL_refuses 374 = .ok (.iconst (-1), 1) := by decide +kernel
theorem dL_refuses_375 : decode cL_refuses 375 = .ok (.iload_n 2, 1) := by decide +kernel
theorem dL_refuses_376 : decode cL_refuses 376 = .ok (.isub, 1) := by decide +kernel
theorem dL_refuses_377 : decode cL_refuses 377 = .ok (.goto 7, 3) := by decide +kernel
theorem dL_refuses_380 : decode cL_refuses 380 = .ok (.bipush 101, 2) := by decide +kernel
theorem dL_refuses_382 : decode cL_refuses 382 = .ok (.iload_n 2, 1) := by decide +kernel
theorem dL_refuses_383 : decode cL_refuses 383 = .ok (.iadd, 1) := by decide +kernel
theorem dL_refuses_384 : decode cL_refuses 384 = .ok (.invokestatic 108, 3) := by decide +kernel
theorem dL_refuses_387 : decode cL_refuses 387 = .ok (.ldc 18, 2) := by decide +kernel
theorem dL_refuses_389 : decode cL_refuses 389 = .ok (.if_icmp .ne 220, 3) := by decide +kernel
theorem dL_refuses_392 : decode cL_refuses 392 = .ok (.aload_n 0, 1) := by decide +kernel
theorem dL_refuses_393 : decode cL_refuses 393 = .ok (.iload 6, 2) := by decide +kernel
theorem dL_refuses_395 : decode cL_refuses 395 = .ok (.invokestatic 110, 3) := by decide +kernel
theorem dL_refuses_398 : decode cL_refuses 398 = .ok (.ldc 15, 2) := by decide +kernel
theorem dL_refuses_400 : decode cL_refuses 400 = .ok (.if_icmp .ne 209, 3) := by decide +kernel
theorem dL_refuses_403 : decode cL_refuses 403 = .ok (.aload_n 0, 1) := by decide +kernel
theorem dL_refuses_404 : decode cL_refuses 404 = .ok (.iload 6, 2) := by decide +kernel
theorem dL_refuses_406 : decode cL_refuses 406 = .ok (.invokestatic 113, 3) := by decide +kernel
theorem dL_refuses_409 : decode cL_refuses 409 = .ok (.ldc 15, 2) := by decide +kernel
theorem dL_refuses_411 : decode cL_refuses 411 = .ok (.if_icmp .ne 198, 3) := by decide +kernel
theorem dL_refuses_414 : decode cL_refuses 414 = .ok (.aload_n 0, 1) := by decide +kernel
theorem dL_refuses_415 : decode cL_refuses 415 = .ok (.iload 6, 2) := by decide +kernel
theorem dL_refuses_417 : decode cL_refuses 417 = .ok (.invokestatic 115, 3) := by decide +kernel
theorem dL_refuses_420 : decode cL_refuses 420 = .ok (.ldc 15, 2) := by decide +kernel
theorem dL_refuses_422 : decode cL_refuses 422 = .ok (.if_icmp .ne 187, 3) := by decide +kernel
theorem dL_refuses_425 : decode cL_refuses 425 = .ok (.aload_n 0, 1) := by decide +kernel
theorem dL_refuses_426 : decode cL_refuses 426 = .ok (.iload 5, 2) := by decide +kernel
theorem dL_refuses_428 : decode cL_refuses 428 = .ok (.invokestatic 117, 3) := by decide +kernel
theorem dL_refuses_431 : decode cL_refuses 431 = .ok (.ldc 15, 2) := by decide +kernel
theorem dL_refuses_433 : decode cL_refuses 433 = .ok (.if_icmp .ne 176, 3) := by decide +kernel
theorem dL_refuses_436 : decode cL_refuses 436 = .ok (.aload_n 0, 1) := by decide +kernel
theorem dL_refuses_437 : decode cL_refuses 437 = .ok (.iload_n 3, 1) := by decide +kernel
theorem dL_refuses_438 : decode cL_refuses 438 = .ok (.ifCond .eq 8, 3) := by decide +kernel
theorem dL_refuses_441 : decode cL_refuses 441 = .ok (.iload_n 2, 1) := by decide +kernel
theorem dL_refuses_442 : decode cL_refuses 442 = .ok (.ineg, 1) := by decide +kernel
theorem dL_refuses_443 : decode cL_refuses 443 = .ok (.goto 7, 3) := by decide +kernel
theorem dL_refuses_446 : decode cL_refuses 446 = .ok (.bipush 101, 2) := by decide +kernel
theorem dL_refuses_448 : decode cL_refuses 448 = .ok (.iload_n 2, 1) := by decide +kernel
theorem dL_refuses_449 : decode cL_refuses 449 = .ok (.iadd, 1) := by decide +kernel
theorem dL_refuses_450 : decode cL_refuses 450 = .ok (.invokestatic 119, 3) := by decide +kernel
theorem dL_refuses_453 : decode cL_refuses 453 = .ok (.ldc 18, 2) := by decide +kernel
theorem dL_refuses_455 : decode cL_refuses 455 = .ok (.if_icmp .ne 154, 3) := by decide +kernel
theorem dL_refuses_458 : decode cL_refuses 458 = .ok (.aload_n 0, 1) := by decide +kernel
theorem dL_refuses_459 : decode cL_refuses 459 = .ok (.iload 6, 2) := by decide +kernel
theorem dL_refuses_461 : decode cL_refuses 461 = .ok (.iconst 0, 1) := by decide +kernel
theorem dL_refuses_462 : decode cL_refuses 462 = .ok (.invokestatic 121, 3) := by decide +kernel
theorem dL_refuses_465 : decode cL_refuses 465 = .ok (.ldc 15, 2) := by decide +kernel
theorem dL_refuses_467 : decode cL_refuses 467 = .ok (.if_icmp .ne 142, 3) := by decide +kernel
theorem dL_refuses_470 : decode cL_refuses 470 = .ok (.aload_n 0, 1) := by decide +kernel
theorem dL_refuses_471 : decode cL_refuses 471 = .ok (.iload 6, 2) := by decide +kernel
theorem dL_refuses_473 : decode cL_refuses 473 = .ok (.iload 6, 2) := by decide +kernel
theorem dL_refuses_475 : decode cL_refuses 475 = .ok (.invokestatic 123, 3) := by decide +kernel
theorem dL_refuses_478 : decode cL_refuses 478 = .ok (.ldc 15, 2) := by decide +kernel
theorem dL_refuses_480 : decode cL_refuses 480 = .ok (.if_icmp .ne 129, 3) := by decide +kernel
theorem dL_refuses_483 : decode cL_refuses 483 = .ok (.aload_n 0, 1) := by decide +kernel
theorem dL_refuses_484 : decode cL_refuses 484 = .ok (.iload 5, 2) := by decide +kernel
theorem dL_refuses_486 : decode cL_refuses 486 = .ok (.invokestatic 125, 3) := by decide +kernel
theorem dL_refuses_489 : decode cL_refuses 489 = .ok (.ldc 15, 2) := by decide +kernel
theorem dL_refuses_491 : decode cL_refuses 491 = .ok (.if_icmp .ne 118, 3) := by decide +kernel
theorem dL_refuses_494 : decode cL_refuses 494 = .ok (.aload_n 0, 1) := by decide +kernel
theorem dL_refuses_495 : decode cL_refuses 495 = .ok (.iload 4, 2) := by decide +kernel
theorem dL_refuses_497 : decode cL_refuses 497 = .ok (.iconst 0, 1) := by decide +kernel
theorem dL_refuses_498 : decode cL_refuses 498 = .ok (.invokestatic 127, 3) := by decide +kernel
theorem dL_refuses_501 : decode cL_refuses 501 = .ok (.ldc 15, 2) := by decide +kernel
theorem dL_refuses_503 : decode cL_refuses 503 = .ok (.if_icmp .ne 106, 3) := by decide +kernel
theorem dL_refuses_506 : decode cL_refuses 506 = .ok (.aload_n 0, 1) := by decide +kernel
theorem dL_refuses_507 : decode cL_refuses 507 = .ok (.iconst 0, 1) := by decide +kernel
theorem dL_refuses_508 : decode cL_refuses 508 = .ok (.iload 5, 2) := by decide +kernel
theorem dL_refuses_510 : decode cL_refuses 510 = .ok (.invokestatic 127, 3) := by decide +kernel
theorem dL_refuses_513 : decode cL_refuses 513 = .ok (.ldc 15, 2) := by decide +kernel
theorem dL_refuses_515 : decode cL_refuses 515 = .ok (.if_icmp .ne 94, 3) := by decide +kernel
theorem dL_refuses_518 : decode cL_refuses 518 = .ok (.aload_n 0, 1) := by decide +kernel
theorem dL_refuses_519 : decode cL_refuses 519 = .ok (.iload 4, 2) := by decide +kernel
theorem dL_refuses_521 : decode cL_refuses 521 = .ok (.invokestatic 129, 3) := by decide +kernel
theorem dL_refuses_524 : decode cL_refuses 524 = .ok (.ldc 15, 2) := by decide +kernel
theorem dL_refuses_526 : decode cL_refuses 526 = .ok (.if_icmp .ne 83, 3) := by decide +kernel
theorem dL_refuses_529 : decode cL_refuses 529 = .ok (.aload_n 0, 1) := by decide +kernel
theorem dL_refuses_530 : decode cL_refuses 530 = .ok (.iload 4, 2) := by decide +kernel
theorem dL_refuses_532 : decode cL_refuses 532 = .ok (.invokestatic 131, 3) := by decide +kernel
theorem dL_refuses_535 : decode cL_refuses 535 = .ok (.ldc 15, 2) := by decide +kernel
theorem dL_refuses_537 : decode cL_refuses 537 = .ok (.if_icmp .ne 72, 3) := by decide +kernel
theorem dL_refuses_540 : decode cL_refuses 540 = .ok (.aload_n 0, 1) := by decide +kernel
theorem dL_refuses_541 : decode cL_refuses 541 = .ok (.iload 4, 2) := by decide +kernel
theorem dL_refuses_543 : decode cL_refuses 543 = .ok (.invokestatic 134, 3) := by decide +kernel
theorem dL_refuses_546 : decode cL_refuses 546 = .ok (.ldc 15, 2) := by decide +kernel
theorem dL_refuses_548 : decode cL_refuses 548 = .ok (.if_icmp .ne 61, 3) := by decide +kernel
theorem dL_refuses_551 : decode cL_refuses 551 = .ok (.aload_n 0, 1) := by decide +kernel
theorem dL_refuses_552 : decode cL_refuses 552 = .ok (.iload 5, 2) := by decide +kernel
theorem dL_refuses_554 : decode cL_refuses 554 = .ok (.iconst 0, 1) := by decide +kernel
theorem dL_refuses_555 : decode cL_refuses 555 = .ok (.iconst 0, 1) := by decide +kernel
theorem dL_refuses_556 : decode cL_refuses 556 = .ok (.invokestatic 136, 3) := by decide +kernel
theorem dL_refuses_559 : decode cL_refuses 559 = .ok (.ldc 15, 2) := by decide +kernel
theorem dL_refuses_561 : decode cL_refuses 561 = .ok (.if_icmp .ne 48, 3) := by decide +kernel
theorem dL_refuses_564 : decode cL_refuses 564 = .ok (.aload_n 0, 1) := by decide +kernel
theorem dL_refuses_565 : decode cL_refuses 565 = .ok (.iload_n 2, 1) := by decide +kernel
theorem dL_refuses_566 : decode cL_refuses 566 = .ok (.iconst 4, 1) := by decide +kernel
