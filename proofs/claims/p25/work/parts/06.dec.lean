set_option maxRecDepth 20000 in
theorem gX1_inspect_X1_isFinished : GoodIn wsX1_inspect (wsV RX1 149 RX1 yX1_isFinished wsX1_isFinished) := goodIn_app (goodIn_of _ (by decide +kernel)) ggX1_inspect_X1_isFinished
theorem dX1_inspect_0 : decode cX1_inspect 0 = .ok (.iload_n 1, 1) := by decide +kernel
theorem dX1_inspect_1 : decode cX1_inspect 1 = .ok (.invokestatic 43, 3) := by decide +kernel
theorem dX1_inspect_4 : decode cX1_inspect 4 = .ok (.ifCond .ne 13, 3) := by decide +kernel
theorem dX1_inspect_7 : decode cX1_inspect 7 = .ok (.new 46, 3) := by decide +kernel
theorem dX1_inspect_10 : decode cX1_inspect 10 = .ok (.dup, 1) := by decide +kernel
theorem dX1_inspect_11 : decode cX1_inspect 11 = .ok (.ldc 147, 2) := by decide +kernel
theorem dX1_inspect_13 : decode cX1_inspect 13 = .ok (.invokespecial 50, 3) := by decide +kernel
theorem dX1_inspect_16 : decode cX1_inspect 16 = .ok (.athrow, 1) := by decide +kernel
theorem dX1_inspect_17 : decode cX1_inspect 17 = .ok (.aload_n 0, 1) := by decide +kernel
theorem dX1_inspect_18 : decode cX1_inspect 18 = .ok (.getfield 29, 3) := by decide +kernel
theorem dX1_inspect_21 : decode cX1_inspect 21 = .ok (.iload_n 1, 1) := by decide +kernel
theorem dX1_inspect_22 : decode cX1_inspect 22 = .ok (.baload, 1) := by decide +kernel
theorem dX1_inspect_23 : decode cX1_inspect 23 = .ok (.ifCond .eq 13, 3) := by decide +kernel
theorem dX1_inspect_26 : decode cX1_inspect 26 = .ok (.new 64, 3) := by decide +kernel
theorem dX1_inspect_29 : decode cX1_inspect 29 = .ok (.dup, 1) := by decide +kernel
theorem dX1_inspect_30 : decode cX1_inspect 30 = .ok (.ldc 66, 2) := by decide +kernel
theorem dX1_inspect_32 : decode cX1_inspect 32 = .ok (.invokespecial 68, 3) := by decide +kernel
theorem dX1_inspect_35 : decode cX1_inspect 35 = .ok (.athrow, 1) := by decide +kernel
theorem dX1_inspect_36 : decode cX1_inspect 36 = .ok (.aload_n 0, 1) := by decide +kernel
theorem dX1_inspect_37 : decode cX1_inspect 37 = .ok (.getfield 29, 3) := by decide +kernel
theorem dX1_inspect_40 : decode cX1_inspect 40 = .ok (.iload_n 1, 1) := by decide +kernel
theorem dX1_inspect_41 : decode cX1_inspect 41 = .ok (.aload_n 0, 1) := by decide +kernel
theorem dX1_inspect_42 : decode cX1_inspect 42 = .ok (.iload_n 1, 1) := by decide +kernel
theorem dX1_inspect_43 : decode cX1_inspect 43 = .ok (.invokevirtual 149, 3) := by decide +kernel
theorem dX1_inspect_46 : decode cX1_inspect 46 = .ok (.bastore, 1) := by decide +kernel
theorem dX1_inspect_47 : decode cX1_inspect 47 = .ok (.aload_n 0, 1) := by decide +kernel
theorem dX1_inspect_48 : decode cX1_inspect 48 = .ok (.getfield 29, 3) := by decide +kernel
theorem dX1_inspect_51 : decode cX1_inspect 51 = .ok (.iload_n 1, 1) := by decide +kernel
theorem dX1_inspect_52 : decode cX1_inspect 52 = .ok (.baload, 1) := by decide +kernel
theorem dX1_inspect_53 : decode cX1_inspect 53 = .ok (.ireturn, 1) := by decide +kernel
set_option maxRecDepth 20000 in
theorem ggX1_pass_X1_isWithin : GoodIn wsX1_pass wsX1_isWithin := goodIn_r _ [10] (by decide +kernel) (by decide +kernel)
set_option maxRecDepth 20000 in
theorem gX1_pass_X1_isWithin : GoodIn wsX1_pass (va_wsS RX1 112 yX1_isWithin wsX1_isWithin) := goodIn_app (goodIn_of _ (by decide +kernel)) ggX1_pass_X1_isWithin
set_option maxRecDepth 20000 in
theorem ggX1_pass_X1_find : GoodIn wsX1_pass wsX1_find := goodIn_r _ [14, 15, 7, 8, 9, 10, 23, 24, 25, 26, 27, 28, 29, 30] (by decide +kernel) (by decide +kernel)
set_option maxRecDepth 20000 in
theorem gX1_pass_X1_find : GoodIn wsX1_pass (wsV RX1 74 RX1 yX1_find wsX1_find) := goodIn_app (goodIn_of _ (by decide +kernel)) ggX1_pass_X1_find
set_option maxRecDepth 20000 in
theorem ggX1_pass_X0_deliverIfDue : GoodIn wsX1_pass wsX0_deliverIfDue := goodIn_r _ [20, 21, 22, 31, 32, 33, 34, 35, 36, 37, 38, 39, 40] (by decide +kernel) (by decide +kernel)
set_option maxRecDepth 20000 in
theorem gX1_pass_X0_deliverIfDue : GoodIn wsX1_pass (wsV RX1 132 RX0 yX0_deliverIfDue wsX0_deliverIfDue) := goodIn_app (goodIn_of _ (by decide +kernel)) ggX1_pass_X0_deliverIfDue
theorem dX1_pass_0 : decode cX1_pass 0 = .ok (.iload_n 1, 1) := by decide +kernel
theorem dX1_pass_1 : decode cX1_pass 1 = .ok (.iconst 1, 1) := by decide +kernel
theorem dX1_pass_2 : decode cX1_pass 2 = .ok (.bipush 100, 2) := by decide +kernel
theorem dX1_pass_4 : decode cX1_pass 4 = .ok (.invokestatic 112, 3) := by decide +kernel
theorem dX1_pass_7 : decode cX1_pass 7 = .ok (.ifCond .ne 13, 3) := by decide +kernel
theorem dX1_pass_10 : decode cX1_pass 10 = .ok (.new 57, 3) := by decide +kernel
theorem dX1_pass_13 : decode cX1_pass 13 = .ok (.dup, 1) := by decide +kernel
theorem dX1_pass_14 : decode cX1_pass 14 = .ok (.ldc 118, 2) := by decide +kernel
theorem dX1_pass_16 : decode cX1_pass 16 = .ok (.invokespecial 61, 3) := by decide +kernel
theorem dX1_pass_19 : decode cX1_pass 19 = .ok (.athrow, 1) := by decide +kernel
theorem dX1_pass_20 : decode cX1_pass 20 = .ok (.aload_n 0, 1) := by decide +kernel
theorem dX1_pass_21 : decode cX1_pass 21 = .ok (.getfield 36, 3) := by decide +kernel
theorem dX1_pass_24 : decode cX1_pass 24 = .ok (.iload_n 1, 1) := by decide +kernel
theorem dX1_pass_25 : decode cX1_pass 25 = .ok (.iadd, 1) := by decide +kernel
theorem dX1_pass_26 : decode cX1_pass 26 = .ok (.sipush 500, 3) := by decide +kernel
theorem dX1_pass_29 : decode cX1_pass 29 = .ok (.if_icmp .le 13, 3) := by decide +kernel
theorem dX1_pass_32 : decode cX1_pass 32 = .ok (.new 64, 3) := by decide +kernel
theorem dX1_pass_35 : decode cX1_pass 35 = .ok (.dup, 1) := by decide +kernel
theorem dX1_pass_36 : decode cX1_pass 36 = .ok (.ldc 152, 2) := by decide +kernel
theorem dX1_pass_38 : decode cX1_pass 38 = .ok (.invokespecial 68, 3) := by decide +kernel
theorem dX1_pass_41 : decode cX1_pass 41 = .ok (.athrow, 1) := by decide +kernel
theorem dX1_pass_42 : decode cX1_pass 42 = .ok (.aload_n 0, 1) := by decide +kernel
theorem dX1_pass_43 : decode cX1_pass 43 = .ok (.dup, 1) := by decide +kernel
theorem dX1_pass_44 : decode cX1_pass 44 = .ok (.getfield 36, 3) := by decide +kernel
theorem dX1_pass_47 : decode cX1_pass 47 = .ok (.iload_n 1, 1) := by decide +kernel
theorem dX1_pass_48 : decode cX1_pass 48 = .ok (.iadd, 1) := by decide +kernel
theorem dX1_pass_49 : decode cX1_pass 49 = .ok (.putfield 36, 3) := by decide +kernel
theorem dX1_pass_52 : decode cX1_pass 52 = .ok (.iconst 0, 1) := by decide +kernel
theorem dX1_pass_53 : decode cX1_pass 53 = .ok (.istore_n 2, 1) := by decide +kernel
theorem dX1_pass_54 : decode cX1_pass 54 = .ok (.iload_n 2, 1) := by decide +kernel
theorem dX1_pass_55 : decode cX1_pass 55 = .ok (.aload_n 0, 1) := by decide +kernel
theorem dX1_pass_56 : decode cX1_pass 56 = .ok (.getfield 15, 3) := by decide +kernel
theorem dX1_pass_59 : decode cX1_pass 59 = .ok (.if_icmp .ge 27, 3) := by decide +kernel
theorem dX1_pass_62 : decode cX1_pass 62 = .ok (.aload_n 0, 1) := by decide +kernel
theorem dX1_pass_63 : decode cX1_pass 63 = .ok (.iload_n 2, 1) := by decide +kernel
theorem dX1_pass_64 : decode cX1_pass 64 = .ok (.invokevirtual 74, 3) := by decide +kernel
theorem dX1_pass_67 : decode cX1_pass 67 = .ok (.astore_n 3, 1) := by decide +kernel
theorem dX1_pass_68 : decode cX1_pass 68 = .ok (.aload_n 3, 1) := by decide +kernel
theorem dX1_pass_69 : decode cX1_pass 69 = .ok (.ifnull 11, 3) := by decide +kernel
theorem dX1_pass_72 : decode cX1_pass 72 = .ok (.aload_n 3, 1) := by decide +kernel
theorem dX1_pass_73 : decode cX1_pass 73 = .ok (.aload_n 0, 1) := by decide +kernel
theorem dX1_pass_74 : decode cX1_pass 74 = .ok (.getfield 36, 3) := by decide +kernel
theorem dX1_pass_77 : decode cX1_pass 77 = .ok (.invokevirtual 132, 3) := by decide +kernel
theorem dX1_pass_80 : decode cX1_pass 80 = .ok (.iinc 2 1, 3) := by decide +kernel
theorem dX1_pass_83 : decode cX1_pass 83 = .ok (.goto (-29), 3) := by decide +kernel
theorem dX1_pass_86 : decode cX1_pass 86 = .ok (.aload_n 0, 1) := by decide +kernel
theorem dX1_pass_87 : decode cX1_pass 87 = .ok (.getfield 36, 3) := by decide +kernel
theorem dX1_pass_90 : decode cX1_pass 90 = .ok (.ireturn, 1) := by decide +kernel
theorem dX1_day_0 : decode cX1_day 0 = .ok (.aload_n 0, 1) := by decide +kernel
theorem dX1_day_1 : decode cX1_day 1 = .ok (.getfield 36, 3) := by decide +kernel
theorem dX1_day_4 : decode cX1_day 4 = .ok (.ireturn, 1) := by decide +kernel
theorem dX1_revision_0 : decode cX1_revision 0 = .ok (.aload_n 0, 1) := by decide +kernel
theorem dX1_revision_1 : decode cX1_revision 1 = .ok (.getfield 33, 3) := by decide +kernel
theorem dX1_revision_4 : decode cX1_revision 4 = .ok (.ireturn, 1) := by decide +kernel
set_option maxRecDepth 20000 in
theorem ggX1_elementOf_X1_find : GoodIn wsX1_elementOf wsX1_find := goodIn_r _ [18, 19, 20, 21, 17, 22, 46, 47, 48, 49, 50, 51, 52, 53] (by decide +kernel) (by decide +kernel)
set_option maxRecDepth 20000 in
theorem gX1_elementOf_X1_find : GoodIn wsX1_elementOf (wsV RX1 74 RX1 yX1_find wsX1_find) := goodIn_app (goodIn_of _ (by decide +kernel)) ggX1_elementOf_X1_find
set_option maxRecDepth 20000 in
theorem ggX1_elementOf_X0_cells : GoodIn wsX1_elementOf wsX0_cells := goodIn_r _ [27, 28, 29, 30, 31, 32, 33, 34, 35, 36, 37, 38, 39, 40, 41, 42, 43, 44, 45] (by decide +kernel) (by decide +kernel)
set_option maxRecDepth 20000 in
theorem gX1_elementOf_X0_cells : GoodIn wsX1_elementOf (wsV RX1 175 RX0 yX0_cells wsX0_cells) := goodIn_app (goodIn_of _ (by decide +kernel)) ggX1_elementOf_X0_cells
theorem dX1_elementOf_0 : decode cX1_elementOf 0 = .ok (.aload_n 0, 1) := by decide +kernel
theorem dX1_elementOf_1 : decode cX1_elementOf 1 = .ok (.iload_n 1, 1) := by decide +kernel
theorem dX1_elementOf_2 : decode cX1_elementOf 2 = .ok (.invokevirtual 74, 3) := by decide +kernel
theorem dX1_elementOf_5 : decode cX1_elementOf 5 = .ok (.astore_n 3, 1) := by decide +kernel
theorem dX1_elementOf_6 : decode cX1_elementOf 6 = .ok (.aload_n 3, 1) := by decide +kernel
theorem dX1_elementOf_7 : decode cX1_elementOf 7 = .ok (.ifnonnull 13, 3) := by decide +kernel
theorem dX1_elementOf_10 : decode cX1_elementOf 10 = .ok (.new 46, 3) := by decide +kernel
theorem dX1_elementOf_13 : decode cX1_elementOf 13 = .ok (.dup, 1) := by decide +kernel
theorem dX1_elementOf_14 : decode cX1_elementOf 14 = .ok (.ldc 120, 2) := by decide +kernel
theorem dX1_elementOf_16 : decode cX1_elementOf 16 = .ok (.invokespecial 50, 3) := by decide +kernel
theorem dX1_elementOf_19 : decode cX1_elementOf 19 = .ok (.athrow, 1) := by decide +kernel
theorem dX1_elementOf_20 : decode cX1_elementOf 20 = .ok (.iload_n 2, 1) := by decide +kernel
theorem dX1_elementOf_21 : decode cX1_elementOf 21 = .ok (.tableswitch 105 0 9 #[55, 60, 65, 70, 75, 80, 85, 90, 95, 100], 55) := by decide +kernel
theorem dX1_elementOf_76 : decode cX1_elementOf 76 = .ok (.aload_n 3, 1) := by decide +kernel
theorem dX1_elementOf_77 : decode cX1_elementOf 77 = .ok (.getfield 122, 3) := by decide +kernel
theorem dX1_elementOf_80 : decode cX1_elementOf 80 = .ok (.ireturn, 1) := by decide +kernel
theorem dX1_elementOf_81 : decode cX1_elementOf 81 = .ok (.aload_n 3, 1) := by decide +kernel
theorem dX1_elementOf_82 : decode cX1_elementOf 82 = .ok (.getfield 154, 3) := by decide +kernel
theorem dX1_elementOf_85 : decode cX1_elementOf 85 = .ok (.ireturn, 1) := by decide +kernel
theorem dX1_elementOf_86 : decode cX1_elementOf 86 = .ok (.aload_n 3, 1) := by decide +kernel
theorem dX1_elementOf_87 : decode cX1_elementOf 87 = .ok (.getfield 157, 3) := by decide +kernel
theorem dX1_elementOf_90 : decode cX1_elementOf 90 = .ok (.ireturn, 1) := by decide +kernel
theorem dX1_elementOf_91 : decode cX1_elementOf 91 = .ok (.aload_n 3, 1) := by decide +kernel
theorem dX1_elementOf_92 : decode cX1_elementOf 92 = .ok (.getfield 160, 3) := by decide +kernel
theorem dX1_elementOf_95 : decode cX1_elementOf 95 = .ok (.ireturn, 1) := by decide +kernel
theorem dX1_elementOf_96 : decode cX1_elementOf 96 = .ok (.aload_n 3, 1) := by decide +kernel
theorem dX1_elementOf_97 : decode cX1_elementOf 97 = .ok (.getfield 163, 3) := by decide +kernel
theorem dX1_elementOf_100 : decode cX1_elementOf 100 = .ok (.ireturn, 1) := by decide +kernel
theorem dX1_elementOf_101 : decode cX1_elementOf 101 = .ok (.aload_n 3, 1) := by decide +kernel
theorem dX1_elementOf_102 : decode cX1_elementOf 102 = .ok (.getfield 166, 3) := by decide +kernel
theorem dX1_elementOf_105 : decode cX1_elementOf 105 = .ok (.ireturn, 1) := by decide +kernel
theorem dX1_elementOf_106 : decode cX1_elementOf 106 = .ok (.aload_n 3, 1) := by decide +kernel
theorem dX1_elementOf_107 : decode cX1_elementOf 107 = .ok (.getfield 93, 3) := by decide +kernel
theorem dX1_elementOf_110 : decode cX1_elementOf 110 = .ok (.ireturn, 1) := by decide +kernel
theorem dX1_elementOf_111 : decode cX1_elementOf 111 = .ok (.aload_n 3, 1) := by decide +kernel
theorem dX1_elementOf_112 : decode cX1_elementOf 112 = .ok (.getfield 169, 3) := by decide +kernel
theorem dX1_elementOf_115 : decode cX1_elementOf 115 = .ok (.ireturn, 1) := by decide +kernel
theorem dX1_elementOf_116 : decode cX1_elementOf 116 = .ok (.aload_n 3, 1) := by decide +kernel
theorem dX1_elementOf_117 : decode cX1_elementOf 117 = .ok (.getfield 172, 3) := by decide +kernel
theorem dX1_elementOf_120 : decode cX1_elementOf 120 = .ok (.ireturn, 1) := by decide +kernel
theorem dX1_elementOf_121 : decode cX1_elementOf 121 = .ok (.aload_n 3, 1) := by decide +kernel
theorem dX1_elementOf_122 : decode cX1_elementOf 122 = .ok (.invokevirtual 175, 3) := by decide +kernel
theorem dX1_elementOf_125 : decode cX1_elementOf 125 = .ok (.ireturn, 1) := by decide +kernel
theorem dX1_elementOf_126 : decode cX1_elementOf 126 = .ok (.new 57, 3) := by decide +kernel
theorem dX1_elementOf_129 : decode cX1_elementOf 129 = .ok (.dup, 1) := by decide +kernel
theorem dX1_elementOf_130 : decode cX1_elementOf 130 = .ok (.ldc 179, 2) := by decide +kernel
theorem dX1_elementOf_132 : decode cX1_elementOf 132 = .ok (.invokespecial 61, 3) := by decide +kernel
theorem dX1_elementOf_135 : decode cX1_elementOf 135 = .ok (.athrow, 1) := by decide +kernel
set_option maxRecDepth 20000 in
theorem ggX1_clash_X1_find : GoodIn wsX1_clash wsX1_find := goodIn_r _ [7, 8, 9, 10, 6, 11, 50, 51, 52, 53, 54, 55, 56, 57] (by decide +kernel) (by decide +kernel)
set_option maxRecDepth 20000 in
theorem gX1_clash_X1_find : GoodIn wsX1_clash (wsV RX1 74 RX1 yX1_find wsX1_find) := goodIn_app (goodIn_of _ (by decide +kernel)) ggX1_clash_X1_find
set_option maxRecDepth 20000 in
theorem ggX1_clash_X1_isClashingPair : GoodIn wsX1_clash wsX1_isClashingPair := goodIn_r _ [15, 16, 17, 3, 4, 5, 6, 7, 8, 9, 10, 11, 18, 19, 20, 21, 22, 23, 24, 25, 26, 27, 28, 29, 30, 31, 32, 33, 34, 35, 36, 37, 38, 39, 40, 41, 42, 43, 44, 45, 46, 47, 48, 49, 58, 59, 60, 61, 62, 63, 64, 65, 66, 67, 50, 51, 52, 53, 54, 55, 56, 57] (by decide +kernel) (by decide +kernel)
set_option maxRecDepth 20000 in
theorem gX1_clash_X1_isClashingPair : GoodIn wsX1_clash (wsV RX1 181 RX1 yX1_isClashingPair wsX1_isClashingPair) := goodIn_app (goodIn_of _ (by decide +kernel)) ggX1_clash_X1_isClashingPair
theorem dX1_clash_0 : decode cX1_clash 0 = .ok (.aload_n 0, 1) := by decide +kernel
theorem dX1_clash_1 : decode cX1_clash 1 = .ok (.iload_n 1, 1) := by decide +kernel
theorem dX1_clash_2 : decode cX1_clash 2 = .ok (.invokevirtual 74, 3) := by decide +kernel
theorem dX1_clash_5 : decode cX1_clash 5 = .ok (.ifnull 11, 3) := by decide +kernel
theorem dX1_clash_8 : decode cX1_clash 8 = .ok (.aload_n 0, 1) := by decide +kernel
theorem dX1_clash_9 : decode cX1_clash 9 = .ok (.iload_n 2, 1) := by decide +kernel
theorem dX1_clash_10 : decode cX1_clash 10 = .ok (.invokevirtual 74, 3) := by decide +kernel
theorem dX1_clash_13 : decode cX1_clash 13 = .ok (.ifnonnull 13, 3) := by decide +kernel
theorem dX1_clash_16 : decode cX1_clash 16 = .ok (.new 46, 3) := by decide +kernel
theorem dX1_clash_19 : decode cX1_clash 19 = .ok (.dup, 1) := by decide +kernel
theorem dX1_clash_20 : decode cX1_clash 20 = .ok (.ldc 120, 2) := by decide +kernel
theorem dX1_clash_22 : decode cX1_clash 22 = .ok (.invokespecial 50, 3) := by decide +kernel
theorem dX1_clash_25 : decode cX1_clash 25 = .ok (.athrow, 1) := by decide +kernel
theorem dX1_clash_26 : decode cX1_clash 26 = .ok (.aload_n 0, 1) := by decide +kernel
theorem dX1_clash_27 : decode cX1_clash 27 = .ok (.iload_n 1, 1) := by decide +kernel
theorem dX1_clash_28 : decode cX1_clash 28 = .ok (.iload_n 2, 1) := by decide +kernel
theorem dX1_clash_29 : decode cX1_clash 29 = .ok (.invokevirtual 181, 3) := by decide +kernel
theorem dX1_clash_32 : decode cX1_clash 32 = .ok (.ireturn, 1) := by decide +kernel
set_option maxRecDepth 20000 in
theorem ggX1_clashes_X1_isStorey : GoodIn wsX1_clashes wsX1_isStorey := goodIn_r _ [7, 8, 9, 6, 10] (by decide +kernel) (by decide +kernel)
set_option maxRecDepth 20000 in
theorem gX1_clashes_X1_isStorey : GoodIn wsX1_clashes (va_wsS RX1 43 yX1_isStorey wsX1_isStorey) := goodIn_app (goodIn_of _ (by decide +kernel)) ggX1_clashes_X1_isStorey
set_option maxRecDepth 20000 in
theorem ggX1_clashes_X1_isOnStorey : GoodIn wsX1_clashes wsX1_isOnStorey := goodIn_r _ [14, 15, 16, 17, 18, 6, 19, 20, 8, 9, 10, 70, 71, 72, 73, 74, 75, 76, 77, 78, 79, 62, 63, 64, 65, 66, 67, 68, 69] (by decide +kernel) (by decide +kernel)
set_option maxRecDepth 20000 in
theorem gX1_clashes_X1_isOnStorey : GoodIn wsX1_clashes (wsV RX1 184 RX1 yX1_isOnStorey wsX1_isOnStorey) := goodIn_app (goodIn_of _ (by decide +kernel)) ggX1_clashes_X1_isOnStorey
set_option maxRecDepth 20000 in
theorem ggX1_clashes_X1_clashesWithEarlier : GoodIn wsX1_clashes wsX1_clashesWithEarlier := goodIn_r _ [24, 25, 26, 27, 6, 28, 15, 29, 16, 17, 18, 19, 20, 8, 9, 10, 30, 31, 32, 33, 34, 35, 36, 37, 38, 39, 40, 41, 42, 43, 44, 45, 46, 47, 48, 49, 50, 51, 52, 53, 54, 55, 56, 57, 58, 59, 60, 61, 70, 71, 72, 73, 74, 75, 76, 77, 78, 79, 62, 63, 64, 65, 66, 67, 68, 69] (by decide +kernel) (by decide +kernel)
set_option maxRecDepth 20000 in
theorem gX1_clashes_X1_clashesWithEarlier : GoodIn wsX1_clashes (wsV RX1 187 RX1 yX1_clashesWithEarlier wsX1_clashesWithEarlier) := goodIn_app (goodIn_of _ (by decide +kernel)) ggX1_clashes_X1_clashesWithEarlier
theorem dX1_clashes_0 : decode cX1_clashes 0 = .ok (.iload_n 1, 1) := by decide +kernel
theorem dX1_clashes_1 : decode cX1_clashes 1 = .ok (.invokestatic 43, 3) := by decide +kernel
theorem dX1_clashes_4 : decode cX1_clashes 4 = .ok (.ifCond .ne 13, 3) := by decide +kernel
theorem dX1_clashes_7 : decode cX1_clashes 7 = .ok (.new 46, 3) := by decide +kernel
theorem dX1_clashes_10 : decode cX1_clashes 10 = .ok (.dup, 1) := by decide +kernel
theorem dX1_clashes_11 : decode cX1_clashes 11 = .ok (.ldc 147, 2) := by decide +kernel
theorem dX1_clashes_13 : decode cX1_clashes 13 = .ok (.invokespecial 50, 3) := by decide +kernel
theorem dX1_clashes_16 : decode cX1_clashes 16 = .ok (.athrow, 1) := by decide +kernel
theorem dX1_clashes_17 : decode cX1_clashes 17 = .ok (.iconst 0, 1) := by decide +kernel
theorem dX1_clashes_18 : decode cX1_clashes 18 = .ok (.istore_n 2, 1) := by decide +kernel
theorem dX1_clashes_19 : decode cX1_clashes 19 = .ok (.iconst 0, 1) := by decide +kernel
theorem dX1_clashes_20 : decode cX1_clashes 20 = .ok (.istore_n 3, 1) := by decide +kernel
theorem dX1_clashes_21 : decode cX1_clashes 21 = .ok (.iload_n 3, 1) := by decide +kernel
theorem dX1_clashes_22 : decode cX1_clashes 22 = .ok (.aload_n 0, 1) := by decide +kernel
theorem dX1_clashes_23 : decode cX1_clashes 23 = .ok (.getfield 15, 3) := by decide +kernel
theorem dX1_clashes_26 : decode cX1_clashes 26 = .ok (.if_icmp .ge 26, 3) := by decide +kernel
theorem dX1_clashes_29 : decode cX1_clashes 29 = .ok (.aload_n 0, 1) := by decide +kernel
theorem dX1_clashes_30 : decode cX1_clashes 30 = .ok (.iload_n 3, 1) := by decide +kernel
theorem dX1_clashes_31 : decode cX1_clashes 31 = .ok (.iload_n 1, 1) := by decide +kernel
theorem dX1_clashes_32 : decode cX1_clashes 32 = .ok (.invokevirtual 184, 3) := by decide +kernel
theorem dX1_clashes_35 : decode cX1_clashes 35 = .ok (.ifCond .eq 11, 3) := by decide +kernel
theorem dX1_clashes_38 : decode cX1_clashes 38 = .ok (.iload_n 2, 1) := by decide +kernel
theorem dX1_clashes_39 : decode cX1_clashes 39 = .ok (.aload_n 0, 1) := by decide +kernel
theorem dX1_clashes_40 : decode cX1_clashes 40 = .ok (.iload_n 3, 1) := by decide +kernel
theorem dX1_clashes_41 : decode cX1_clashes 41 = .ok (.invokevirtual 187, 3) := by decide +kernel
theorem dX1_clashes_44 : decode cX1_clashes 44 = .ok (.iadd, 1) := by decide +kernel
theorem dX1_clashes_45 : decode cX1_clashes 45 = .ok (.istore_n 2, 1) := by decide +kernel
theorem dX1_clashes_46 : decode cX1_clashes 46 = .ok (.iinc 3 1, 3) := by decide +kernel
theorem dX1_clashes_49 : decode cX1_clashes 49 = .ok (.goto (-28), 3) := by decide +kernel
theorem dX1_clashes_52 : decode cX1_clashes 52 = .ok (.iload_n 2, 1) := by decide +kernel
theorem dX1_clashes_53 : decode cX1_clashes 53 = .ok (.ireturn, 1) := by decide +kernel
set_option maxRecDepth 20000 in
theorem ggX1_isStopped_X1_isKind : GoodIn wsX1_isStopped wsX1_isKind := goodIn_r _ [9, 10, 11, 8, 12] (by decide +kernel) (by decide +kernel)
set_option maxRecDepth 20000 in
theorem gX1_isStopped_X1_isKind : GoodIn wsX1_isStopped (va_wsS RX1 39 yX1_isKind wsX1_isKind) := goodIn_app (goodIn_of _ (by decide +kernel)) ggX1_isStopped_X1_isKind
set_option maxRecDepth 20000 in
theorem ggX1_isStopped_X1_isStorey : GoodIn wsX1_isStopped wsX1_isStorey := goodIn_r _ [15, 10, 11, 8, 12] (by decide +kernel) (by decide +kernel)
set_option maxRecDepth 20000 in
theorem gX1_isStopped_X1_isStorey : GoodIn wsX1_isStopped (va_wsS RX1 43 yX1_isStorey wsX1_isStorey) := goodIn_app (goodIn_of _ (by decide +kernel)) ggX1_isStopped_X1_isStorey
set_option maxRecDepth 20000 in
theorem ggX1_isStopped_X1_find : GoodIn wsX1_isStopped wsX1_find := goodIn_r _ [19, 20, 10, 11, 8, 12, 58, 59, 60, 61, 62, 63, 64, 65] (by decide +kernel) (by decide +kernel)
set_option maxRecDepth 20000 in
theorem gX1_isStopped_X1_find : GoodIn wsX1_isStopped (wsV RX1 74 RX1 yX1_find wsX1_find) := goodIn_app (goodIn_of _ (by decide +kernel)) ggX1_isStopped_X1_find
set_option maxRecDepth 20000 in
theorem ggX1_isStopped_X1_clashesWithAny : GoodIn wsX1_isStopped wsX1_clashesWithAny := goodIn_r _ [24, 3, 25, 26, 27, 8, 28, 5, 4, 16, 17, 18, 19, 20, 10, 11, 12, 29, 30, 31, 32, 33, 34, 35, 36, 37, 38, 39, 40, 41, 42, 43, 44, 45, 46, 47, 48, 49, 50, 51, 52, 53, 54, 55, 56, 57, 6, 7, 9, 58, 59, 60, 61, 62, 63, 64, 65, 66, 67, 68, 69, 70, 71, 72, 73, 74, 75] (by decide +kernel) (by decide +kernel)
set_option maxRecDepth 20000 in
theorem gX1_isStopped_X1_clashesWithAny : GoodIn wsX1_isStopped (wsV RX1 144 RX1 yX1_clashesWithAny wsX1_clashesWithAny) := goodIn_app (goodIn_of _ (by decide +kernel)) ggX1_isStopped_X1_clashesWithAny
theorem dX1_isStopped_0 : decode cX1_isStopped 0 = .ok (.iload_n 1, 1) := by decide +kernel
theorem dX1_isStopped_1 : decode cX1_isStopped 1 = .ok (.invokestatic 39, 3) := by decide +kernel
theorem dX1_isStopped_4 : decode cX1_isStopped 4 = .ok (.ifCond .eq 10, 3) := by decide +kernel
theorem dX1_isStopped_7 : decode cX1_isStopped 7 = .ok (.iload_n 2, 1) := by decide +kernel
theorem dX1_isStopped_8 : decode cX1_isStopped 8 = .ok (.invokestatic 43, 3) := by decide +kernel
theorem dX1_isStopped_11 : decode cX1_isStopped 11 = .ok (.ifCond .ne 13, 3) := by decide +kernel
theorem dX1_isStopped_14 : decode cX1_isStopped 14 = .ok (.new 46, 3) := by decide +kernel
theorem dX1_isStopped_17 : decode cX1_isStopped 17 = .ok (.dup, 1) := by decide +kernel
theorem dX1_isStopped_18 : decode cX1_isStopped 18 = .ok (.ldc 48, 2) := by decide +kernel
theorem dX1_isStopped_20 : decode cX1_isStopped 20 = .ok (.invokespecial 50, 3) := by decide +kernel
theorem dX1_isStopped_23 : decode cX1_isStopped 23 = .ok (.athrow, 1) := by decide +kernel
theorem dX1_isStopped_24 : decode cX1_isStopped 24 = .ok (.iconst 0, 1) := by decide +kernel
theorem dX1_isStopped_25 : decode cX1_isStopped 25 = .ok (.istore_n 3, 1) := by decide +kernel
theorem dX1_isStopped_26 : decode cX1_isStopped 26 = .ok (.iload_n 3, 1) := by decide +kernel
theorem dX1_isStopped_27 : decode cX1_isStopped 27 = .ok (.aload_n 0, 1) := by decide +kernel
theorem dX1_isStopped_28 : decode cX1_isStopped 28 = .ok (.getfield 15, 3) := by decide +kernel
theorem dX1_isStopped_31 : decode cX1_isStopped 31 = .ok (.if_icmp .ge 49, 3) := by decide +kernel
theorem dX1_isStopped_34 : decode cX1_isStopped 34 = .ok (.aload_n 0, 1) := by decide +kernel
theorem dX1_isStopped_35 : decode cX1_isStopped 35 = .ok (.iload_n 3, 1) := by decide +kernel
theorem dX1_isStopped_36 : decode cX1_isStopped 36 = .ok (.invokevirtual 74, 3) := by decide +kernel
theorem dX1_isStopped_39 : decode cX1_isStopped 39 = .ok (.astore 4, 2) := by decide +kernel
theorem dX1_isStopped_41 : decode cX1_isStopped 41 = .ok (.aload 4, 2) := by decide +kernel
theorem dX1_isStopped_43 : decode cX1_isStopped 43 = .ok (.ifnull 31, 3) := by decide +kernel
theorem dX1_isStopped_46 : decode cX1_isStopped 46 = .ok (.aload 4, 2) := by decide +kernel
theorem dX1_isStopped_48 : decode cX1_isStopped 48 = .ok (.getfield 122, 3) := by decide +kernel
theorem dX1_isStopped_51 : decode cX1_isStopped 51 = .ok (.iload_n 1, 1) := by decide +kernel
theorem dX1_isStopped_52 : decode cX1_isStopped 52 = .ok (.if_icmp .ne 22, 3) := by decide +kernel
theorem dX1_isStopped_55 : decode cX1_isStopped 55 = .ok (.aload 4, 2) := by decide +kernel
theorem dX1_isStopped_57 : decode cX1_isStopped 57 = .ok (.getfield 154, 3) := by decide +kernel
theorem dX1_isStopped_60 : decode cX1_isStopped 60 = .ok (.iload_n 2, 1) := by decide +kernel
theorem dX1_isStopped_61 : decode cX1_isStopped 61 = .ok (.if_icmp .ne 13, 3) := by decide +kernel
theorem dX1_isStopped_64 : decode cX1_isStopped 64 = .ok (.aload_n 0, 1) := by decide +kernel
theorem dX1_isStopped_65 : decode cX1_isStopped 65 = .ok (.iload_n 3, 1) := by decide +kernel
theorem dX1_isStopped_66 : decode cX1_isStopped 66 = .ok (.invokevirtual 144, 3) := by decide +kernel
theorem dX1_isStopped_69 : decode cX1_isStopped 69 = .ok (.ifCond .eq 5, 3) := by decide +kernel
theorem dX1_isStopped_72 : decode cX1_isStopped 72 = .ok (.iconst 1, 1) := by decide +kernel
theorem dX1_isStopped_73 : decode cX1_isStopped 73 = .ok (.ireturn, 1) := by decide +kernel
theorem dX1_isStopped_74 : decode cX1_isStopped 74 = .ok (.iinc 3 1, 3) := by decide +kernel
theorem dX1_isStopped_77 : decode cX1_isStopped 77 = .ok (.goto (-51), 3) := by decide +kernel
theorem dX1_isStopped_80 : decode cX1_isStopped 80 = .ok (.iconst 0, 1) := by decide +kernel
theorem dX1_isStopped_81 : decode cX1_isStopped 81 = .ok (.ireturn, 1) := by decide +kernel
set_option maxRecDepth 20000 in
theorem ggX1_parts_X1_isKind : GoodIn wsX1_parts wsX1_isKind := goodIn_r _ [6, 7, 8, 5, 9] (by decide +kernel) (by decide +kernel)
set_option maxRecDepth 20000 in
theorem gX1_parts_X1_isKind : GoodIn wsX1_parts (va_wsS RX1 39 yX1_isKind wsX1_isKind) := goodIn_app (goodIn_of _ (by decide +kernel)) ggX1_parts_X1_isKind
set_option maxRecDepth 20000 in
theorem ggX1_parts_X1_partsInStates : GoodIn wsX1_parts wsX1_partsInStates := goodIn_r _ [13, 14, 15, 16, 17, 18, 19, 5, 20, 21, 7, 8, 9, 22, 23, 24, 25, 26, 3, 4, 6, 27, 28, 29, 30, 31, 32, 33, 34, 35, 36, 37, 38, 39, 40, 41, 42, 43, 44, 45, 46, 47, 48, 49, 50, 51, 52, 53, 54, 55, 56, 57] (by decide +kernel) (by decide +kernel)
set_option maxRecDepth 20000 in
theorem gX1_parts_X1_partsInStates : GoodIn wsX1_parts (wsV RX1 190 RX1 yX1_partsInStates wsX1_partsInStates) := goodIn_app (goodIn_of _ (by decide +kernel)) ggX1_parts_X1_partsInStates
theorem dX1_parts_0 : decode cX1_parts 0 = .ok (.iload_n 1, 1) := by decide +kernel
theorem dX1_parts_1 : decode cX1_parts 1 = .ok (.invokestatic 39, 3) := by decide +kernel
theorem dX1_parts_4 : decode cX1_parts 4 = .ok (.ifCond .ne 13, 3) := by decide +kernel
theorem dX1_parts_7 : decode cX1_parts 7 = .ok (.new 46, 3) := by decide +kernel
theorem dX1_parts_10 : decode cX1_parts 10 = .ok (.dup, 1) := by decide +kernel
theorem dX1_parts_11 : decode cX1_parts 11 = .ok (.ldc 110, 2) := by decide +kernel
theorem dX1_parts_13 : decode cX1_parts 13 = .ok (.invokespecial 50, 3) := by decide +kernel
theorem dX1_parts_16 : decode cX1_parts 16 = .ok (.athrow, 1) := by decide +kernel
theorem dX1_parts_17 : decode cX1_parts 17 = .ok (.aload_n 0, 1) := by decide +kernel
theorem dX1_parts_18 : decode cX1_parts 18 = .ok (.iload_n 1, 1) := by decide +kernel
theorem dX1_parts_19 : decode cX1_parts 19 = .ok (.iconst 0, 1) := by decide +kernel
theorem dX1_parts_20 : decode cX1_parts 20 = .ok (.iconst 3, 1) := by decide +kernel
theorem dX1_parts_21 : decode cX1_parts 21 = .ok (.invokevirtual 190, 3) := by decide +kernel
theorem dX1_parts_24 : decode cX1_parts 24 = .ok (.ireturn, 1) := by decide +kernel
set_option maxRecDepth 20000 in
theorem ggX1_partsAnew_X1_isKind : GoodIn wsX1_partsAnew wsX1_isKind := goodIn_r _ [9, 10, 11, 8, 12] (by decide +kernel) (by decide +kernel)
set_option maxRecDepth 20000 in
theorem gX1_partsAnew_X1_isKind : GoodIn wsX1_partsAnew (va_wsS RX1 39 yX1_isKind wsX1_isKind) := goodIn_app (goodIn_of _ (by decide +kernel)) ggX1_partsAnew_X1_isKind
set_option maxRecDepth 20000 in
theorem ggX1_partsAnew_X1_find : GoodIn wsX1_partsAnew wsX1_find := goodIn_r _ [16, 17, 10, 11, 8, 12, 43, 44, 45, 46, 47, 48, 49, 50] (by decide +kernel) (by decide +kernel)
set_option maxRecDepth 20000 in
theorem gX1_partsAnew_X1_find : GoodIn wsX1_partsAnew (wsV RX1 74 RX1 yX1_find wsX1_find) := goodIn_app (goodIn_of _ (by decide +kernel)) ggX1_partsAnew_X1_find
set_option maxRecDepth 20000 in
theorem ggX1_partsAnew_X0_isThere : GoodIn wsX1_partsAnew wsX0_isThere := goodIn_r _ [22, 23, 51, 52, 53, 54, 55, 56, 57, 58, 59, 60] (by decide +kernel) (by decide +kernel)
set_option maxRecDepth 20000 in
theorem gX1_partsAnew_X0_isThere : GoodIn wsX1_partsAnew (wsV RX1 194 RX0 yX0_isThere wsX0_isThere) := goodIn_app (goodIn_of _ (by decide +kernel)) ggX1_partsAnew_X0_isThere
set_option maxRecDepth 20000 in
theorem ggX1_partsAnew_X0_partsCellByCell : GoodIn wsX1_partsAnew wsX0_partsCellByCell := goodIn_r _ [27, 28, 29, 30, 21, 31, 32, 33, 34, 35, 36, 37, 38, 39, 40, 41, 42, 11, 8, 12, 51, 52, 53, 54, 55, 56, 57, 58, 59, 60] (by decide +kernel) (by decide +kernel)
set_option maxRecDepth 20000 in
theorem gX1_partsAnew_X0_partsCellByCell : GoodIn wsX1_partsAnew (wsV RX1 198 RX0 yX0_partsCellByCell wsX0_partsCellByCell) := goodIn_app (goodIn_of _ (by decide +kernel)) ggX1_partsAnew_X0_partsCellByCell
theorem dX1_partsAnew_0 : decode cX1_partsAnew 0 = .ok (.iload_n 1, 1) := by decide +kernel
theorem dX1_partsAnew_1 : decode cX1_partsAnew 1 = .ok (.invokestatic 39, 3) := by decide +kernel
theorem dX1_partsAnew_4 : decode cX1_partsAnew 4 = .ok (.ifCond .ne 13, 3) := by decide +kernel
theorem dX1_partsAnew_7 : decode cX1_partsAnew 7 = .ok (.new 46, 3) := by decide +kernel
theorem dX1_partsAnew_10 : decode cX1_partsAnew 10 = .ok (.dup, 1) := by decide +kernel
theorem dX1_partsAnew_11 : decode cX1_partsAnew 11 = .ok (.ldc 110, 2) := by decide +kernel
theorem dX1_partsAnew_13 : decode cX1_partsAnew 13 = .ok (.invokespecial 50, 3) := by decide +kernel
theorem dX1_partsAnew_16 : decode cX1_partsAnew 16 = .ok (.athrow, 1) := by decide +kernel
theorem dX1_partsAnew_17 : decode cX1_partsAnew 17 = .ok (.iconst 0, 1) := by decide +kernel
theorem dX1_partsAnew_18 : decode cX1_partsAnew 18 = .ok (.istore_n 2, 1) := by decide +kernel
theorem dX1_partsAnew_19 : decode cX1_partsAnew 19 = .ok (.iconst 0, 1) := by decide +kernel
theorem dX1_partsAnew_20 : decode cX1_partsAnew 20 = .ok (.istore_n 3, 1) := by decide +kernel
theorem dX1_partsAnew_21 : decode cX1_partsAnew 21 = .ok (.iload_n 3, 1) := by decide +kernel
theorem dX1_partsAnew_22 : decode cX1_partsAnew 22 = .ok (.aload_n 0, 1) := by decide +kernel
theorem dX1_partsAnew_23 : decode cX1_partsAnew 23 = .ok (.getfield 15, 3) := by decide +kernel
theorem dX1_partsAnew_26 : decode cX1_partsAnew 26 = .ok (.if_icmp .ge 52, 3) := by decide +kernel
theorem dX1_partsAnew_29 : decode cX1_partsAnew 29 = .ok (.aload_n 0, 1) := by decide +kernel
theorem dX1_partsAnew_30 : decode cX1_partsAnew 30 = .ok (.iload_n 3, 1) := by decide +kernel
theorem dX1_partsAnew_31 : decode cX1_partsAnew 31 = .ok (.invokevirtual 74, 3) := by decide +kernel
theorem dX1_partsAnew_34 : decode cX1_partsAnew 34 = .ok (.astore 4, 2) := by decide +kernel
theorem dX1_partsAnew_36 : decode cX1_partsAnew 36 = .ok (.aload 4, 2) := by decide +kernel
theorem dX1_partsAnew_38 : decode cX1_partsAnew 38 = .ok (.ifnull 34, 3) := by decide +kernel
theorem dX1_partsAnew_41 : decode cX1_partsAnew 41 = .ok (.aload 4, 2) := by decide +kernel
theorem dX1_partsAnew_43 : decode cX1_partsAnew 43 = .ok (.getfield 122, 3) := by decide +kernel
theorem dX1_partsAnew_46 : decode cX1_partsAnew 46 = .ok (.iload_n 1, 1) := by decide +kernel
theorem dX1_partsAnew_47 : decode cX1_partsAnew 47 = .ok (.if_icmp .ne 25, 3) := by decide +kernel
theorem dX1_partsAnew_50 : decode cX1_partsAnew 50 = .ok (.aload 4, 2) := by decide +kernel
theorem dX1_partsAnew_52 : decode cX1_partsAnew 52 = .ok (.invokevirtual 194, 3) := by decide +kernel
theorem dX1_partsAnew_55 : decode cX1_partsAnew 55 = .ok (.ifCond .eq 17, 3) := by decide +kernel
theorem dX1_partsAnew_58 : decode cX1_partsAnew 58 = .ok (.iload_n 2, 1) := by decide +kernel
theorem dX1_partsAnew_59 : decode cX1_partsAnew 59 = .ok (.aload 4, 2) := by decide +kernel
theorem dX1_partsAnew_61 : decode cX1_partsAnew 61 = .ok (.aload_n 0, 1) := by decide +kernel
theorem dX1_partsAnew_62 : decode cX1_partsAnew 62 = .ok (.getfield 23, 3) := by decide +kernel
theorem dX1_partsAnew_65 : decode cX1_partsAnew 65 = .ok (.iload_n 1, 1) := by decide +kernel
theorem dX1_partsAnew_66 : decode cX1_partsAnew 66 = .ok (.iaload, 1) := by decide +kernel
theorem dX1_partsAnew_67 : decode cX1_partsAnew 67 = .ok (.invokevirtual 198, 3) := by decide +kernel
theorem dX1_partsAnew_70 : decode cX1_partsAnew 70 = .ok (.iadd, 1) := by decide +kernel
theorem dX1_partsAnew_71 : decode cX1_partsAnew 71 = .ok (.istore_n 2, 1) := by decide +kernel
theorem dX1_partsAnew_72 : decode cX1_partsAnew 72 = .ok (.iinc 3 1, 3) := by decide +kernel
theorem dX1_partsAnew_75 : decode cX1_partsAnew 75 = .ok (.goto (-54), 3) := by decide +kernel
theorem dX1_partsAnew_78 : decode cX1_partsAnew 78 = .ok (.iload_n 2, 1) := by decide +kernel
theorem dX1_partsAnew_79 : decode cX1_partsAnew 79 = .ok (.ireturn, 1) := by decide +kernel
set_option maxRecDepth 20000 in
theorem ggX1_ordered_X1_isKind : GoodIn wsX1_ordered wsX1_isKind := goodIn_r _ [6, 7, 8, 5, 9] (by decide +kernel) (by decide +kernel)
set_option maxRecDepth 20000 in
theorem gX1_ordered_X1_isKind : GoodIn wsX1_ordered (va_wsS RX1 39 yX1_isKind wsX1_isKind) := goodIn_app (goodIn_of _ (by decide +kernel)) ggX1_ordered_X1_isKind
set_option maxRecDepth 20000 in
theorem ggX1_ordered_X1_partsInStates : GoodIn wsX1_ordered wsX1_partsInStates := goodIn_r _ [13, 14, 15, 16, 17, 18, 19, 5, 20, 21, 7, 8, 9, 22, 23, 24, 25, 26, 3, 4, 6, 27, 28, 29, 30, 31, 32, 33, 34, 35, 36, 37, 38, 39, 40, 41, 42, 43, 44, 45, 46, 47, 48, 49, 50, 51, 52, 53, 54, 55, 56, 57] (by decide +kernel) (by decide +kernel)
set_option maxRecDepth 20000 in
theorem gX1_ordered_X1_partsInStates : GoodIn wsX1_ordered (wsV RX1 190 RX1 yX1_partsInStates wsX1_partsInStates) := goodIn_app (goodIn_of _ (by decide +kernel)) ggX1_ordered_X1_partsInStates
theorem dX1_ordered_0 : decode cX1_ordered 0 = .ok (.iload_n 1, 1) := by decide +kernel
theorem dX1_ordered_1 : decode cX1_ordered 1 = .ok (.invokestatic 39, 3) := by decide +kernel
theorem dX1_ordered_4 : decode cX1_ordered 4 = .ok (.ifCond .ne 13, 3) := by decide +kernel
theorem dX1_ordered_7 : decode cX1_ordered 7 = .ok (.new 46, 3) := by decide +kernel
theorem dX1_ordered_10 : decode cX1_ordered 10 = .ok (.dup, 1) := by decide +kernel
theorem dX1_ordered_11 : decode cX1_ordered 11 = .ok (.ldc 110, 2) := by decide +kernel
theorem dX1_ordered_13 : decode cX1_ordered 13 = .ok (.invokespecial 50, 3) := by decide +kernel
theorem dX1_ordered_16 : decode cX1_ordered 16 = .ok (.athrow, 1) := by decide +kernel
theorem dX1_ordered_17 : decode cX1_ordered 17 = .ok (.aload_n 0, 1) := by decide +kernel
theorem dX1_ordered_18 : decode cX1_ordered 18 = .ok (.iload_n 1, 1) := by decide +kernel
theorem dX1_ordered_19 : decode cX1_ordered 19 = .ok (.iconst 1, 1) := by decide +kernel
theorem dX1_ordered_20 : decode cX1_ordered 20 = .ok (.iconst 3, 1) := by decide +kernel
theorem dX1_ordered_21 : decode cX1_ordered 21 = .ok (.invokevirtual 190, 3) := by decide +kernel
theorem dX1_ordered_24 : decode cX1_ordered 24 = .ok (.ireturn, 1) := by decide +kernel
set_option maxRecDepth 20000 in
theorem ggX1_kindsAt_X1_isStorey : GoodIn wsX1_kindsAt wsX1_isStorey := goodIn_r _ [11, 12, 13, 10, 14] (by decide +kernel) (by decide +kernel)
set_option maxRecDepth 20000 in
theorem gX1_kindsAt_X1_isStorey : GoodIn wsX1_kindsAt (va_wsS RX1 43 yX1_isStorey wsX1_isStorey) := goodIn_app (goodIn_of _ (by decide +kernel)) ggX1_kindsAt_X1_isStorey
set_option maxRecDepth 20000 in
theorem ggX1_kindsAt_X1_isCell : GoodIn wsX1_kindsAt wsX1_isCell := goodIn_r _ [17, 12, 13, 10, 14] (by decide +kernel) (by decide +kernel)
set_option maxRecDepth 20000 in
theorem gX1_kindsAt_X1_isCell : GoodIn wsX1_kindsAt (va_wsS RX1 53 yX1_isCell wsX1_isCell) := goodIn_app (goodIn_of _ (by decide +kernel)) ggX1_kindsAt_X1_isCell
set_option maxRecDepth 20000 in
theorem ggX1_kindsAt_X1_find : GoodIn wsX1_kindsAt wsX1_find := goodIn_r _ [21, 22, 12, 13, 10, 14, 44, 45, 46, 47, 48, 49, 50, 51] (by decide +kernel) (by decide +kernel)
set_option maxRecDepth 20000 in
theorem gX1_kindsAt_X1_find : GoodIn wsX1_kindsAt (wsV RX1 74 RX1 yX1_find wsX1_find) := goodIn_app (goodIn_of _ (by decide +kernel)) ggX1_kindsAt_X1_find
set_option maxRecDepth 20000 in
theorem ggX1_kindsAt_X0_isThere : GoodIn wsX1_kindsAt wsX0_isThere := goodIn_r _ [27, 28, 52, 53, 54, 55, 56, 57, 58, 59, 60, 61] (by decide +kernel) (by decide +kernel)
set_option maxRecDepth 20000 in
theorem gX1_kindsAt_X0_isThere : GoodIn wsX1_kindsAt (wsV RX1 194 RX0 yX0_isThere wsX0_isThere) := goodIn_app (goodIn_of _ (by decide +kernel)) ggX1_kindsAt_X0_isThere
set_option maxRecDepth 20000 in
theorem ggX1_kindsAt_X0_covers : GoodIn wsX1_kindsAt wsX0_covers := goodIn_r _ [32, 33, 34, 35, 36, 37, 38, 39, 40, 41, 42, 43, 13, 10, 14, 52, 53, 54, 55, 56, 57, 58, 59, 60, 61] (by decide +kernel) (by decide +kernel)
set_option maxRecDepth 20000 in
theorem gX1_kindsAt_X0_covers : GoodIn wsX1_kindsAt (wsV RX1 203 RX0 yX0_covers wsX0_covers) := goodIn_app (goodIn_of _ (by decide +kernel)) ggX1_kindsAt_X0_covers
theorem dX1_kindsAt_0 : decode cX1_kindsAt 0 = .ok (.iload_n 1, 1) := by decide +kernel
theorem dX1_kindsAt_1 : decode cX1_kindsAt 1 = .ok (.invokestatic 43, 3) := by decide +kernel
theorem dX1_kindsAt_4 : decode cX1_kindsAt 4 = .ok (.ifCond .ne 13, 3) := by decide +kernel
theorem dX1_kindsAt_7 : decode cX1_kindsAt 7 = .ok (.new 46, 3) := by decide +kernel
theorem dX1_kindsAt_10 : decode cX1_kindsAt 10 = .ok (.dup, 1) := by decide +kernel
theorem dX1_kindsAt_11 : decode cX1_kindsAt 11 = .ok (.ldc 147, 2) := by decide +kernel
theorem dX1_kindsAt_13 : decode cX1_kindsAt 13 = .ok (.invokespecial 50, 3) := by decide +kernel
theorem dX1_kindsAt_16 : decode cX1_kindsAt 16 = .ok (.athrow, 1) := by decide +kernel
theorem dX1_kindsAt_17 : decode cX1_kindsAt 17 = .ok (.iload_n 2, 1) := by decide +kernel
theorem dX1_kindsAt_18 : decode cX1_kindsAt 18 = .ok (.iload_n 3, 1) := by decide +kernel
theorem dX1_kindsAt_19 : decode cX1_kindsAt 19 = .ok (.invokestatic 53, 3) := by decide +kernel
theorem dX1_kindsAt_22 : decode cX1_kindsAt 22 = .ok (.ifCond .ne 13, 3) := by decide +kernel
theorem dX1_kindsAt_25 : decode cX1_kindsAt 25 = .ok (.new 57, 3) := by decide +kernel
theorem dX1_kindsAt_28 : decode cX1_kindsAt 28 = .ok (.dup, 1) := by decide +kernel
theorem dX1_kindsAt_29 : decode cX1_kindsAt 29 = .ok (.ldc 201, 2) := by decide +kernel
theorem dX1_kindsAt_31 : decode cX1_kindsAt 31 = .ok (.invokespecial 61, 3) := by decide +kernel
theorem dX1_kindsAt_34 : decode cX1_kindsAt 34 = .ok (.athrow, 1) := by decide +kernel
theorem dX1_kindsAt_35 : decode cX1_kindsAt 35 = .ok (.iconst 0, 1) := by decide +kernel
theorem dX1_kindsAt_36 : decode cX1_kindsAt 36 = .ok (.istore 4, 2) := by decide +kernel
theorem dX1_kindsAt_38 : decode cX1_kindsAt 38 = .ok (.iconst 0, 1) := by decide +kernel
theorem dX1_kindsAt_39 : decode cX1_kindsAt 39 = .ok (.istore 5, 2) := by decide +kernel
theorem dX1_kindsAt_41 : decode cX1_kindsAt 41 = .ok (.iload 5, 2) := by decide +kernel
theorem dX1_kindsAt_43 : decode cX1_kindsAt 43 = .ok (.aload_n 0, 1) := by decide +kernel
theorem dX1_kindsAt_44 : decode cX1_kindsAt 44 = .ok (.getfield 15, 3) := by decide +kernel
theorem dX1_kindsAt_47 : decode cX1_kindsAt 47 = .ok (.if_icmp .ge 61, 3) := by decide +kernel
theorem dX1_kindsAt_50 : decode cX1_kindsAt 50 = .ok (.aload_n 0, 1) := by decide +kernel
theorem dX1_kindsAt_51 : decode cX1_kindsAt 51 = .ok (.iload 5, 2) := by decide +kernel
theorem dX1_kindsAt_53 : decode cX1_kindsAt 53 = .ok (.invokevirtual 74, 3) := by decide +kernel
theorem dX1_kindsAt_56 : decode cX1_kindsAt 56 = .ok (.astore 6, 2) := by decide +kernel
theorem dX1_kindsAt_58 : decode cX1_kindsAt 58 = .ok (.aload 6, 2) := by decide +kernel
theorem dX1_kindsAt_60 : decode cX1_kindsAt 60 = .ok (.ifnull 42, 3) := by decide +kernel
theorem dX1_kindsAt_63 : decode cX1_kindsAt 63 = .ok (.aload 6, 2) := by decide +kernel
theorem dX1_kindsAt_65 : decode cX1_kindsAt 65 = .ok (.getfield 154, 3) := by decide +kernel
theorem dX1_kindsAt_68 : decode cX1_kindsAt 68 = .ok (.iload_n 1, 1) := by decide +kernel
theorem dX1_kindsAt_69 : decode cX1_kindsAt 69 = .ok (.if_icmp .ne 33, 3) := by decide +kernel
theorem dX1_kindsAt_72 : decode cX1_kindsAt 72 = .ok (.aload 6, 2) := by decide +kernel
theorem dX1_kindsAt_74 : decode cX1_kindsAt 74 = .ok (.invokevirtual 194, 3) := by decide +kernel
theorem dX1_kindsAt_77 : decode cX1_kindsAt 77 = .ok (.ifCond .eq 25, 3) := by decide +kernel
theorem dX1_kindsAt_80 : decode cX1_kindsAt 80 = .ok (.aload 6, 2) := by decide +kernel
theorem dX1_kindsAt_82 : decode cX1_kindsAt 82 = .ok (.iload_n 2, 1) := by decide +kernel
theorem dX1_kindsAt_83 : decode cX1_kindsAt 83 = .ok (.iload_n 3, 1) := by decide +kernel
theorem dX1_kindsAt_84 : decode cX1_kindsAt 84 = .ok (.invokevirtual 203, 3) := by decide +kernel
theorem dX1_kindsAt_87 : decode cX1_kindsAt 87 = .ok (.ifCond .eq 15, 3) := by decide +kernel
theorem dX1_kindsAt_90 : decode cX1_kindsAt 90 = .ok (.iload 4, 2) := by decide +kernel
theorem dX1_kindsAt_92 : decode cX1_kindsAt 92 = .ok (.iconst 1, 1) := by decide +kernel
theorem dX1_kindsAt_93 : decode cX1_kindsAt 93 = .ok (.aload 6, 2) := by decide +kernel
theorem dX1_kindsAt_95 : decode cX1_kindsAt 95 = .ok (.getfield 122, 3) := by decide +kernel
theorem dX1_kindsAt_98 : decode cX1_kindsAt 98 = .ok (.ishl, 1) := by decide +kernel
theorem dX1_kindsAt_99 : decode cX1_kindsAt 99 = .ok (.ior, 1) := by decide +kernel
theorem dX1_kindsAt_100 : decode cX1_kindsAt 100 = .ok (.istore 4, 2) := by decide +kernel
theorem dX1_kindsAt_102 : decode cX1_kindsAt 102 = .ok (.iinc 5 1, 3) := by decide +kernel
theorem dX1_kindsAt_105 : decode cX1_kindsAt 105 = .ok (.goto (-64), 3) := by decide +kernel
theorem dX1_kindsAt_108 : decode cX1_kindsAt 108 = .ok (.iload 4, 2) := by decide +kernel
theorem dX1_kindsAt_110 : decode cX1_kindsAt 110 = .ok (.ireturn, 1) := by decide +kernel
set_option maxRecDepth 20000 in
theorem ggX1_isLocked_X1_isStorey : GoodIn wsX1_isLocked wsX1_isStorey := goodIn_r _ [7, 8, 9, 6, 10] (by decide +kernel) (by decide +kernel)
set_option maxRecDepth 20000 in
theorem gX1_isLocked_X1_isStorey : GoodIn wsX1_isLocked (va_wsS RX1 43 yX1_isStorey wsX1_isStorey) := goodIn_app (goodIn_of _ (by decide +kernel)) ggX1_isLocked_X1_isStorey
theorem dX1_isLocked_0 : decode cX1_isLocked 0 = .ok (.iload_n 1, 1) := by decide +kernel
theorem dX1_isLocked_1 : decode cX1_isLocked 1 = .ok (.invokestatic 43, 3) := by decide +kernel
theorem dX1_isLocked_4 : decode cX1_isLocked 4 = .ok (.ifCond .ne 13, 3) := by decide +kernel
theorem dX1_isLocked_7 : decode cX1_isLocked 7 = .ok (.new 46, 3) := by decide +kernel
theorem dX1_isLocked_10 : decode cX1_isLocked 10 = .ok (.dup, 1) := by decide +kernel
theorem dX1_isLocked_11 : decode cX1_isLocked 11 = .ok (.ldc 147, 2) := by decide +kernel
theorem dX1_isLocked_13 : decode cX1_isLocked 13 = .ok (.invokespecial 50, 3) := by decide +kernel
theorem dX1_isLocked_16 : decode cX1_isLocked 16 = .ok (.athrow, 1) := by decide +kernel
theorem dX1_isLocked_17 : decode cX1_isLocked 17 = .ok (.aload_n 0, 1) := by decide +kernel
theorem dX1_isLocked_18 : decode cX1_isLocked 18 = .ok (.getfield 29, 3) := by decide +kernel
theorem dX1_isLocked_21 : decode cX1_isLocked 21 = .ok (.iload_n 1, 1) := by decide +kernel
theorem dX1_isLocked_22 : decode cX1_isLocked 22 = .ok (.baload, 1) := by decide +kernel
theorem dX1_isLocked_23 : decode cX1_isLocked 23 = .ok (.ireturn, 1) := by decide +kernel
theorem dX1_isWithin_0 : decode cX1_isWithin 0 = .ok (.iload_n 0, 1) := by decide +kernel
theorem dX1_isWithin_1 : decode cX1_isWithin 1 = .ok (.iload_n 1, 1) := by decide +kernel
theorem dX1_isWithin_2 : decode cX1_isWithin 2 = .ok (.if_icmp .lt 12, 3) := by decide +kernel
theorem dX1_isWithin_5 : decode cX1_isWithin 5 = .ok (.iload_n 0, 1) := by decide +kernel
theorem dX1_isWithin_6 : decode cX1_isWithin 6 = .ok (.iload_n 2, 1) := by decide +kernel
theorem dX1_isWithin_7 : decode cX1_isWithin 7 = .ok (.if_icmp .gt 7, 3) := by decide +kernel
theorem dX1_isWithin_10 : decode cX1_isWithin 10 = .ok (.iconst 1, 1) := by decide +kernel
theorem dX1_isWithin_11 : decode cX1_isWithin 11 = .ok (.goto 4, 3) := by decide +kernel
theorem dX1_isWithin_14 : decode cX1_isWithin 14 = .ok (.iconst 0, 1) := by decide +kernel
theorem dX1_isWithin_15 : decode cX1_isWithin 15 = .ok (.ireturn, 1) := by decide +kernel
set_option maxRecDepth 20000 in
theorem ggX1_isKind_X1_isWithin : GoodIn wsX1_isKind wsX1_isWithin := goodIn_r _ [4] (by decide +kernel) (by decide +kernel)
set_option maxRecDepth 20000 in
theorem gX1_isKind_X1_isWithin : GoodIn wsX1_isKind (va_wsS RX1 112 yX1_isWithin wsX1_isWithin) := goodIn_app (goodIn_of _ (by decide +kernel)) ggX1_isKind_X1_isWithin
theorem dX1_isKind_0 : decode cX1_isKind 0 = .ok (.iload_n 0, 1) := by decide +kernel
theorem dX1_isKind_1 : decode cX1_isKind 1 = .ok (.iconst 0, 1) := by decide +kernel
theorem dX1_isKind_2 : decode cX1_isKind 2 = .ok (.iconst 2, 1) := by decide +kernel
theorem dX1_isKind_3 : decode cX1_isKind 3 = .ok (.invokestatic 112, 3) := by decide +kernel
theorem dX1_isKind_6 : decode cX1_isKind 6 = .ok (.ireturn, 1) := by decide +kernel
set_option maxRecDepth 20000 in
theorem ggX1_isStorey_X1_isWithin : GoodIn wsX1_isStorey wsX1_isWithin := goodIn_r _ [4] (by decide +kernel) (by decide +kernel)
set_option maxRecDepth 20000 in
theorem gX1_isStorey_X1_isWithin : GoodIn wsX1_isStorey (va_wsS RX1 112 yX1_isWithin wsX1_isWithin) := goodIn_app (goodIn_of _ (by decide +kernel)) ggX1_isStorey_X1_isWithin
theorem dX1_isStorey_0 : decode cX1_isStorey 0 = .ok (.iload_n 0, 1) := by decide +kernel
theorem dX1_isStorey_1 : decode cX1_isStorey 1 = .ok (.iconst 0, 1) := by decide +kernel
theorem dX1_isStorey_2 : decode cX1_isStorey 2 = .ok (.iconst 3, 1) := by decide +kernel
theorem dX1_isStorey_3 : decode cX1_isStorey 3 = .ok (.invokestatic 112, 3) := by decide +kernel
theorem dX1_isStorey_6 : decode cX1_isStorey 6 = .ok (.ireturn, 1) := by decide +kernel
set_option maxRecDepth 20000 in
theorem ggX1_isCell_X1_isWithin : GoodIn wsX1_isCell wsX1_isWithin := goodIn_r _ [4] (by decide +kernel) (by decide +kernel)
set_option maxRecDepth 20000 in
theorem gX1_isCell_X1_isWithin : GoodIn wsX1_isCell (va_wsS RX1 112 yX1_isWithin wsX1_isWithin) := goodIn_app (goodIn_of _ (by decide +kernel)) ggX1_isCell_X1_isWithin
theorem dX1_isCell_0 : decode cX1_isCell 0 = .ok (.iload_n 0, 1) := by decide +kernel
theorem dX1_isCell_1 : decode cX1_isCell 1 = .ok (.iconst 0, 1) := by decide +kernel
theorem dX1_isCell_2 : decode cX1_isCell 2 = .ok (.bipush 11, 2) := by decide +kernel
theorem dX1_isCell_4 : decode cX1_isCell 4 = .ok (.invokestatic 112, 3) := by decide +kernel
theorem dX1_isCell_7 : decode cX1_isCell 7 = .ok (.ifCond .eq 17, 3) := by decide +kernel
theorem dX1_isCell_10 : decode cX1_isCell 10 = .ok (.iload_n 1, 1) := by decide +kernel
theorem dX1_isCell_11 : decode cX1_isCell 11 = .ok (.iconst 0, 1) := by decide +kernel
theorem dX1_isCell_12 : decode cX1_isCell 12 = .ok (.bipush 11, 2) := by decide +kernel
theorem dX1_isCell_14 : decode cX1_isCell 14 = .ok (.invokestatic 112, 3) := by decide +kernel
theorem dX1_isCell_17 : decode cX1_isCell 17 = .ok (.ifCond .eq 7, 3) := by decide +kernel
theorem dX1_isCell_20 : decode cX1_isCell 20 = .ok (.iconst 1, 1) := by decide +kernel
theorem dX1_isCell_21 : decode cX1_isCell 21 = .ok (.goto 4, 3) := by decide +kernel
theorem dX1_isCell_24 : decode cX1_isCell 24 = .ok (.iconst 0, 1) := by decide +kernel
theorem dX1_isCell_25 : decode cX1_isCell 25 = .ok (.ireturn, 1) := by decide +kernel
set_option maxRecDepth 20000 in
theorem ggX1_isStep_X1_isWithin : GoodIn wsX1_isStep wsX1_isWithin := goodIn_r _ [4] (by decide +kernel) (by decide +kernel)
set_option maxRecDepth 20000 in
theorem gX1_isStep_X1_isWithin : GoodIn wsX1_isStep (va_wsS RX1 112 yX1_isWithin wsX1_isWithin) := goodIn_app (goodIn_of _ (by decide +kernel)) ggX1_isStep_X1_isWithin
theorem dX1_isStep_0 : decode cX1_isStep 0 = .ok (.iload_n 0, 1) := by decide +kernel
theorem dX1_isStep_1 : decode cX1_isStep 1 = .ok (.bipush (-11), 2) := by decide +kernel
theorem dX1_isStep_3 : decode cX1_isStep 3 = .ok (.bipush 11, 2) := by decide +kernel
theorem dX1_isStep_5 : decode cX1_isStep 5 = .ok (.invokestatic 112, 3) := by decide +kernel
theorem dX1_isStep_8 : decode cX1_isStep 8 = .ok (.ireturn, 1) := by decide +kernel
set_option maxRecDepth 20000 in
theorem ggX1_isBase_X1_isWithin : GoodIn wsX1_isBase wsX1_isWithin := goodIn_r _ [5] (by decide +kernel) (by decide +kernel)
set_option maxRecDepth 20000 in
theorem gX1_isBase_X1_isWithin : GoodIn wsX1_isBase (va_wsS RX1 112 yX1_isWithin wsX1_isWithin) := goodIn_app (goodIn_of _ (by decide +kernel)) ggX1_isBase_X1_isWithin
theorem dX1_isBase_0 : decode cX1_isBase 0 = .ok (.iload_n 1, 1) := by decide +kernel
theorem dX1_isBase_1 : decode cX1_isBase 1 = .ok (.iconst 0, 1) := by decide +kernel
theorem dX1_isBase_2 : decode cX1_isBase 2 = .ok (.aload_n 0, 1) := by decide +kernel
theorem dX1_isBase_3 : decode cX1_isBase 3 = .ok (.getfield 33, 3) := by decide +kernel
theorem dX1_isBase_6 : decode cX1_isBase 6 = .ok (.invokestatic 112, 3) := by decide +kernel
theorem dX1_isBase_9 : decode cX1_isBase 9 = .ok (.ireturn, 1) := by decide +kernel
set_option maxRecDepth 20000 in
theorem ggX1_find_X1_isWithin : GoodIn wsX1_find wsX1_isWithin := goodIn_r _ [5] (by decide +kernel) (by decide +kernel)
set_option maxRecDepth 20000 in
theorem gX1_find_X1_isWithin : GoodIn wsX1_find (va_wsS RX1 112 yX1_isWithin wsX1_isWithin) := goodIn_app (goodIn_of _ (by decide +kernel)) ggX1_find_X1_isWithin
theorem dX1_find_0 : decode cX1_find 0 = .ok (.iload_n 1, 1) := by decide +kernel
theorem dX1_find_1 : decode cX1_find 1 = .ok (.iconst 0, 1) := by decide +kernel
theorem dX1_find_2 : decode cX1_find 2 = .ok (.aload_n 0, 1) := by decide +kernel
theorem dX1_find_3 : decode cX1_find 3 = .ok (.getfield 11, 3) := by decide +kernel
theorem dX1_find_6 : decode cX1_find 6 = .ok (.arraylength, 1) := by decide +kernel
theorem dX1_find_7 : decode cX1_find 7 = .ok (.iconst 1, 1) := by decide +kernel
theorem dX1_find_8 : decode cX1_find 8 = .ok (.isub, 1) := by decide +kernel
theorem dX1_find_9 : decode cX1_find 9 = .ok (.invokestatic 112, 3) := by decide +kernel
theorem dX1_find_12 : decode cX1_find 12 = .ok (.ifCond .eq 12, 3) := by decide +kernel
theorem dX1_find_15 : decode cX1_find 15 = .ok (.aload_n 0, 1) := by decide +kernel
theorem dX1_find_16 : decode cX1_find 16 = .ok (.getfield 11, 3) := by decide +kernel
theorem dX1_find_19 : decode cX1_find 19 = .ok (.iload_n 1, 1) := by decide +kernel
theorem dX1_find_20 : decode cX1_find 20 = .ok (.aaload, 1) := by decide +kernel
theorem dX1_find_21 : decode cX1_find 21 = .ok (.goto 4, 3) := by decide +kernel
theorem dX1_find_24 : decode cX1_find 24 = .ok (.aconst_null, 1) := by decide +kernel
theorem dX1_find_25 : decode cX1_find 25 = .ok (.areturn, 1) := by decide +kernel
set_option maxRecDepth 20000 in
theorem ggX1_isOnStorey_X1_find : GoodIn wsX1_isOnStorey wsX1_find := goodIn_r _ [6, 7, 8, 9, 5, 10, 21, 22, 23, 24, 25, 26, 27, 28] (by decide +kernel) (by decide +kernel)
set_option maxRecDepth 20000 in
theorem gX1_isOnStorey_X1_find : GoodIn wsX1_isOnStorey (wsV RX1 74 RX1 yX1_find wsX1_find) := goodIn_app (goodIn_of _ (by decide +kernel)) ggX1_isOnStorey_X1_find
theorem dX1_isOnStorey_0 : decode cX1_isOnStorey 0 = .ok (.aload_n 0, 1) := by decide +kernel
theorem dX1_isOnStorey_1 : decode cX1_isOnStorey 1 = .ok (.iload_n 1, 1) := by decide +kernel
theorem dX1_isOnStorey_2 : decode cX1_isOnStorey 2 = .ok (.invokevirtual 74, 3) := by decide +kernel
theorem dX1_isOnStorey_5 : decode cX1_isOnStorey 5 = .ok (.astore_n 3, 1) := by decide +kernel
theorem dX1_isOnStorey_6 : decode cX1_isOnStorey 6 = .ok (.aload_n 3, 1) := by decide +kernel
theorem dX1_isOnStorey_7 : decode cX1_isOnStorey 7 = .ok (.ifnull 15, 3) := by decide +kernel
theorem dX1_isOnStorey_10 : decode cX1_isOnStorey 10 = .ok (.aload_n 3, 1) := by decide +kernel
theorem dX1_isOnStorey_11 : decode cX1_isOnStorey 11 = .ok (.getfield 154, 3) := by decide +kernel
theorem dX1_isOnStorey_14 : decode cX1_isOnStorey 14 = .ok (.iload_n 2, 1) := by decide +kernel
theorem dX1_isOnStorey_15 : decode cX1_isOnStorey 15 = .ok (.if_icmp .ne 7, 3) := by decide +kernel
theorem dX1_isOnStorey_18 : decode cX1_isOnStorey 18 = .ok (.iconst 1, 1) := by decide +kernel
theorem dX1_isOnStorey_19 : decode cX1_isOnStorey 19 = .ok (.goto 4, 3) := by decide +kernel
theorem dX1_isOnStorey_22 : decode cX1_isOnStorey 22 = .ok (.iconst 0, 1) := by decide +kernel
theorem dX1_isOnStorey_23 : decode cX1_isOnStorey 23 = .ok (.ireturn, 1) := by decide +kernel
theorem dX1_losesAgainstLastChange_0 : decode cX1_losesAgainstLastChange 0 = .ok (.aload_n 0, 1) := by decide +kernel
theorem dX1_losesAgainstLastChange_1 : decode cX1_losesAgainstLastChange 1 = .ok (.getfield 169, 3) := by decide +kernel
theorem dX1_losesAgainstLastChange_4 : decode cX1_losesAgainstLastChange 4 = .ok (.iload_n 2, 1) := by decide +kernel
theorem dX1_losesAgainstLastChange_5 : decode cX1_losesAgainstLastChange 5 = .ok (.if_icmp .le 15, 3) := by decide +kernel
theorem dX1_losesAgainstLastChange_8 : decode cX1_losesAgainstLastChange 8 = .ok (.iload_n 1, 1) := by decide +kernel
theorem dX1_losesAgainstLastChange_9 : decode cX1_losesAgainstLastChange 9 = .ok (.aload_n 0, 1) := by decide +kernel
theorem dX1_losesAgainstLastChange_10 : decode cX1_losesAgainstLastChange 10 = .ok (.getfield 172, 3) := by decide +kernel
theorem dX1_losesAgainstLastChange_13 : decode cX1_losesAgainstLastChange 13 = .ok (.if_icmp .le 7, 3) := by decide +kernel
theorem dX1_losesAgainstLastChange_16 : decode cX1_losesAgainstLastChange 16 = .ok (.iconst 1, 1) := by decide +kernel
theorem dX1_losesAgainstLastChange_17 : decode cX1_losesAgainstLastChange 17 = .ok (.goto 4, 3) := by decide +kernel
theorem dX1_losesAgainstLastChange_20 : decode cX1_losesAgainstLastChange 20 = .ok (.iconst 0, 1) := by decide +kernel
theorem dX1_losesAgainstLastChange_21 : decode cX1_losesAgainstLastChange 21 = .ok (.ireturn, 1) := by decide +kernel
theorem dX1_noteChange_0 : decode cX1_noteChange 0 = .ok (.aload_n 0, 1) := by decide +kernel
theorem dX1_noteChange_1 : decode cX1_noteChange 1 = .ok (.dup, 1) := by decide +kernel
theorem dX1_noteChange_2 : decode cX1_noteChange 2 = .ok (.getfield 33, 3) := by decide +kernel
theorem dX1_noteChange_5 : decode cX1_noteChange 5 = .ok (.iconst 1, 1) := by decide +kernel
theorem dX1_noteChange_6 : decode cX1_noteChange 6 = .ok (.iadd, 1) := by decide +kernel
theorem dX1_noteChange_7 : decode cX1_noteChange 7 = .ok (.putfield 33, 3) := by decide +kernel
theorem dX1_noteChange_10 : decode cX1_noteChange 10 = .ok (.aload_n 1, 1) := by decide +kernel
theorem dX1_noteChange_11 : decode cX1_noteChange 11 = .ok (.aload_n 0, 1) := by decide +kernel
theorem dX1_noteChange_12 : decode cX1_noteChange 12 = .ok (.getfield 33, 3) := by decide +kernel
theorem dX1_noteChange_15 : decode cX1_noteChange 15 = .ok (.putfield 169, 3) := by decide +kernel
theorem dX1_noteChange_18 : decode cX1_noteChange 18 = .ok (.aload_n 1, 1) := by decide +kernel
theorem dX1_noteChange_19 : decode cX1_noteChange 19 = .ok (.iload_n 2, 1) := by decide +kernel
theorem dX1_noteChange_20 : decode cX1_noteChange 20 = .ok (.putfield 172, 3) := by decide +kernel
theorem dX1_noteChange_23 : decode cX1_noteChange 23 = .ok (.return_, 1) := by decide +kernel
set_option maxRecDepth 20000 in
theorem ggX1_isClashingPair_X1_find : GoodIn wsX1_isClashingPair wsX1_find := goodIn_r _ [7, 8, 9, 10, 6, 11, 54, 55, 56, 57, 58, 59, 60, 61] (by decide +kernel) (by decide +kernel)
set_option maxRecDepth 20000 in
theorem gX1_isClashingPair_X1_find : GoodIn wsX1_isClashingPair (wsV RX1 74 RX1 yX1_find wsX1_find) := goodIn_app (goodIn_of _ (by decide +kernel)) ggX1_isClashingPair_X1_find
set_option maxRecDepth 20000 in
theorem ggX1_isClashingPair_X0_isThere : GoodIn wsX1_isClashingPair wsX0_isThere := goodIn_r _ [16, 17, 44, 45, 46, 47, 48, 49, 50, 51, 52, 53] (by decide +kernel) (by decide +kernel)
set_option maxRecDepth 20000 in
theorem gX1_isClashingPair_X0_isThere : GoodIn wsX1_isClashingPair (wsV RX1 194 RX0 yX0_isThere wsX0_isThere) := goodIn_app (goodIn_of _ (by decide +kernel)) ggX1_isClashingPair_X0_isThere
set_option maxRecDepth 20000 in
theorem ggX1_isClashingPair_X0_distanceTo : GoodIn wsX1_isClashingPair wsX0_distanceTo := goodIn_r _ [21, 22, 23, 24, 25, 26, 27, 28, 29, 30, 31, 15, 32, 33, 34, 35, 44, 45, 46, 47, 48, 49, 50, 51, 52, 53] (by decide +kernel) (by decide +kernel)
set_option maxRecDepth 20000 in
theorem gX1_isClashingPair_X0_distanceTo : GoodIn wsX1_isClashingPair (wsV RX1 206 RX0 yX0_distanceTo wsX0_distanceTo) := goodIn_app (goodIn_of _ (by decide +kernel)) ggX1_isClashingPair_X0_distanceTo
set_option maxRecDepth 20000 in
theorem ggX1_isClashingPair_X1_clearanceOf : GoodIn wsX1_isClashingPair wsX1_clearanceOf := goodIn_r _ [39, 40, 41, 42, 6, 43, 9, 10, 11, 54, 55, 56, 57, 58, 59, 60, 61] (by decide +kernel) (by decide +kernel)
set_option maxRecDepth 20000 in
theorem gX1_isClashingPair_X1_clearanceOf : GoodIn wsX1_isClashingPair (wsV RX1 209 RX1 yX1_clearanceOf wsX1_clearanceOf) := goodIn_app (goodIn_of _ (by decide +kernel)) ggX1_isClashingPair_X1_clearanceOf
theorem dX1_isClashingPair_0 : decode cX1_isClashingPair 0 = .ok (.aload_n 0, 1) := by decide +kernel
theorem dX1_isClashingPair_1 : decode cX1_isClashingPair 1 = .ok (.iload_n 1, 1) := by decide +kernel
theorem dX1_isClashingPair_2 : decode cX1_isClashingPair 2 = .ok (.invokevirtual 74, 3) := by decide +kernel
theorem dX1_isClashingPair_5 : decode cX1_isClashingPair 5 = .ok (.astore_n 3, 1) := by decide +kernel
theorem dX1_isClashingPair_6 : decode cX1_isClashingPair 6 = .ok (.aload_n 0, 1) := by decide +kernel
theorem dX1_isClashingPair_7 : decode cX1_isClashingPair 7 = .ok (.iload_n 2, 1) := by decide +kernel
theorem dX1_isClashingPair_8 : decode cX1_isClashingPair 8 = .ok (.invokevirtual 74, 3) := by decide +kernel
theorem dX1_isClashingPair_11 : decode cX1_isClashingPair 11 = .ok (.astore 4, 2) := by decide +kernel
theorem dX1_isClashingPair_13 : decode cX1_isClashingPair 13 = .ok (.aload_n 3, 1) := by decide +kernel
theorem dX1_isClashingPair_14 : decode cX1_isClashingPair 14 = .ok (.ifnull 13, 3) := by decide +kernel
theorem dX1_isClashingPair_17 : decode cX1_isClashingPair 17 = .ok (.aload 4, 2) := by decide +kernel
theorem dX1_isClashingPair_19 : decode cX1_isClashingPair 19 = .ok (.ifnull 8, 3) := by decide +kernel
theorem dX1_isClashingPair_22 : decode cX1_isClashingPair 22 = .ok (.iload_n 1, 1) := by decide +kernel
theorem dX1_isClashingPair_23 : decode cX1_isClashingPair 23 = .ok (.iload_n 2, 1) := by decide +kernel
theorem dX1_isClashingPair_24 : decode cX1_isClashingPair 24 = .ok (.if_icmp .ne 5, 3) := by decide +kernel
theorem dX1_isClashingPair_27 : decode cX1_isClashingPair 27 = .ok (.iconst 0, 1) := by decide +kernel
theorem dX1_isClashingPair_28 : decode cX1_isClashingPair 28 = .ok (.ireturn, 1) := by decide +kernel
theorem dX1_isClashingPair_29 : decode cX1_isClashingPair 29 = .ok (.aload_n 3, 1) := by decide +kernel
theorem dX1_isClashingPair_30 : decode cX1_isClashingPair 30 = .ok (.getfield 154, 3) := by decide +kernel
theorem dX1_isClashingPair_33 : decode cX1_isClashingPair 33 = .ok (.aload 4, 2) := by decide +kernel
theorem dX1_isClashingPair_35 : decode cX1_isClashingPair 35 = .ok (.getfield 154, 3) := by decide +kernel
theorem dX1_isClashingPair_38 : decode cX1_isClashingPair 38 = .ok (.if_icmp .ne 44, 3) := by decide +kernel
theorem dX1_isClashingPair_41 : decode cX1_isClashingPair 41 = .ok (.aload_n 3, 1) := by decide +kernel
theorem dX1_isClashingPair_42 : decode cX1_isClashingPair 42 = .ok (.invokevirtual 194, 3) := by decide +kernel
theorem dX1_isClashingPair_45 : decode cX1_isClashingPair 45 = .ok (.ifCond .eq 37, 3) := by decide +kernel
theorem dX1_isClashingPair_48 : decode cX1_isClashingPair 48 = .ok (.aload 4, 2) := by decide +kernel
theorem dX1_isClashingPair_50 : decode cX1_isClashingPair 50 = .ok (.invokevirtual 194, 3) := by decide +kernel
theorem dX1_isClashingPair_53 : decode cX1_isClashingPair 53 = .ok (.ifCond .eq 29, 3) := by decide +kernel
theorem dX1_isClashingPair_56 : decode cX1_isClashingPair 56 = .ok (.aload_n 3, 1) := by decide +kernel
theorem dX1_isClashingPair_57 : decode cX1_isClashingPair 57 = .ok (.aload 4, 2) := by decide +kernel
theorem dX1_isClashingPair_59 : decode cX1_isClashingPair 59 = .ok (.invokevirtual 206, 3) := by decide +kernel
theorem dX1_isClashingPair_62 : decode cX1_isClashingPair 62 = .ok (.aload_n 0, 1) := by decide +kernel
theorem dX1_isClashingPair_63 : decode cX1_isClashingPair 63 = .ok (.aload_n 3, 1) := by decide +kernel
theorem dX1_isClashingPair_64 : decode cX1_isClashingPair 64 = .ok (.getfield 122, 3) := by decide +kernel
theorem dX1_isClashingPair_67 : decode cX1_isClashingPair 67 = .ok (.aload 4, 2) := by decide +kernel
theorem dX1_isClashingPair_69 : decode cX1_isClashingPair 69 = .ok (.getfield 122, 3) := by decide +kernel
theorem dX1_isClashingPair_72 : decode cX1_isClashingPair 72 = .ok (.invokevirtual 209, 3) := by decide +kernel
theorem dX1_isClashingPair_75 : decode cX1_isClashingPair 75 = .ok (.if_icmp .ge 7, 3) := by decide +kernel
theorem dX1_isClashingPair_78 : decode cX1_isClashingPair 78 = .ok (.iconst 1, 1) := by decide +kernel
theorem dX1_isClashingPair_79 : decode cX1_isClashingPair 79 = .ok (.goto 4, 3) := by decide +kernel
theorem dX1_isClashingPair_82 : decode cX1_isClashingPair 82 = .ok (.iconst 0, 1) := by decide +kernel
theorem dX1_isClashingPair_83 : decode cX1_isClashingPair 83 = .ok (.ireturn, 1) := by decide +kernel
set_option maxRecDepth 20000 in
theorem ggX1_clearanceOf_X1_isKind : GoodIn wsX1_clearanceOf wsX1_isKind := goodIn_r _ [5, 6, 7, 4, 8] (by decide +kernel) (by decide +kernel)
set_option maxRecDepth 20000 in
theorem gX1_clearanceOf_X1_isKind : GoodIn wsX1_clearanceOf (va_wsS RX1 39 yX1_isKind wsX1_isKind) := goodIn_app (goodIn_of _ (by decide +kernel)) ggX1_clearanceOf_X1_isKind
theorem dX1_clearanceOf_0 : decode cX1_clearanceOf 0 = .ok (.iload_n 1, 1) := by decide +kernel
theorem dX1_clearanceOf_1 : decode cX1_clearanceOf 1 = .ok (.invokestatic 39, 3) := by decide +kernel
theorem dX1_clearanceOf_4 : decode cX1_clearanceOf 4 = .ok (.ifCond .eq 23, 3) := by decide +kernel
theorem dX1_clearanceOf_7 : decode cX1_clearanceOf 7 = .ok (.iload_n 2, 1) := by decide +kernel
theorem dX1_clearanceOf_8 : decode cX1_clearanceOf 8 = .ok (.invokestatic 39, 3) := by decide +kernel
theorem dX1_clearanceOf_11 : decode cX1_clearanceOf 11 = .ok (.ifCond .eq 16, 3) := by decide +kernel
theorem dX1_clearanceOf_14 : decode cX1_clearanceOf 14 = .ok (.aload_n 0, 1) := by decide +kernel
theorem dX1_clearanceOf_15 : decode cX1_clearanceOf 15 = .ok (.getfield 19, 3) := by decide +kernel
theorem dX1_clearanceOf_18 : decode cX1_clearanceOf 18 = .ok (.iload_n 1, 1) := by decide +kernel
theorem dX1_clearanceOf_19 : decode cX1_clearanceOf 19 = .ok (.iconst 3, 1) := by decide +kernel
theorem dX1_clearanceOf_20 : decode cX1_clearanceOf 20 = .ok (.imul, 1) := by decide +kernel
theorem dX1_clearanceOf_21 : decode cX1_clearanceOf 21 = .ok (.iload_n 2, 1) := by decide +kernel
theorem dX1_clearanceOf_22 : decode cX1_clearanceOf 22 = .ok (.iadd, 1) := by decide +kernel
theorem dX1_clearanceOf_23 : decode cX1_clearanceOf 23 = .ok (.iaload, 1) := by decide +kernel
theorem dX1_clearanceOf_24 : decode cX1_clearanceOf 24 = .ok (.goto 4, 3) := by decide +kernel
theorem dX1_clearanceOf_27 : decode cX1_clearanceOf 27 = .ok (.iconst 0, 1) := by decide +kernel
theorem dX1_clearanceOf_28 : decode cX1_clearanceOf 28 = .ok (.ireturn, 1) := by decide +kernel
set_option maxRecDepth 20000 in
theorem ggX1_clashesWithAny_X1_isClashingPair : GoodIn wsX1_clashesWithAny wsX1_isClashingPair := goodIn_r _ [6, 7, 8, 9, 10, 11, 5, 12, 13, 14, 15, 16, 17, 18, 19, 20, 21, 22, 23, 24, 25, 26, 27, 28, 29, 30, 31, 32, 33, 34, 35, 36, 37, 38, 39, 40, 41, 42, 43, 44, 45, 46, 47, 48, 57, 58, 59, 60, 61, 62, 63, 64, 65, 66, 49, 50, 51, 52, 53, 54, 55, 56] (by decide +kernel) (by decide +kernel)
set_option maxRecDepth 20000 in
theorem gX1_clashesWithAny_X1_isClashingPair : GoodIn wsX1_clashesWithAny (wsV RX1 181 RX1 yX1_isClashingPair wsX1_isClashingPair) := goodIn_app (goodIn_of _ (by decide +kernel)) ggX1_clashesWithAny_X1_isClashingPair
theorem dX1_clashesWithAny_0 : decode cX1_clashesWithAny 0 = .ok (.iconst 0, 1) := by decide +kernel
theorem dX1_clashesWithAny_1 : decode cX1_clashesWithAny 1 = .ok (.istore_n 2, 1) := by decide +kernel
theorem dX1_clashesWithAny_2 : decode cX1_clashesWithAny 2 = .ok (.iload_n 2, 1) := by decide +kernel
theorem dX1_clashesWithAny_3 : decode cX1_clashesWithAny 3 = .ok (.aload_n 0, 1) := by decide +kernel
theorem dX1_clashesWithAny_4 : decode cX1_clashesWithAny 4 = .ok (.getfield 15, 3) := by decide +kernel
theorem dX1_clashesWithAny_7 : decode cX1_clashesWithAny 7 = .ok (.if_icmp .ge 20, 3) := by decide +kernel
theorem dX1_clashesWithAny_10 : decode cX1_clashesWithAny 10 = .ok (.aload_n 0, 1) := by decide +kernel
theorem dX1_clashesWithAny_11 : decode cX1_clashesWithAny 11 = .ok (.iload_n 1, 1) := by decide +kernel
theorem dX1_clashesWithAny_12 : decode cX1_clashesWithAny 12 = .ok (.iload_n 2, 1) := by decide +kernel
theorem dX1_clashesWithAny_13 : decode cX1_clashesWithAny 13 = .ok (.invokevirtual 181, 3) := by decide +kernel
theorem dX1_clashesWithAny_16 : decode cX1_clashesWithAny 16 = .ok (.ifCond .eq 5, 3) := by decide +kernel
theorem dX1_clashesWithAny_19 : decode cX1_clashesWithAny 19 = .ok (.iconst 1, 1) := by decide +kernel
theorem dX1_clashesWithAny_20 : decode cX1_clashesWithAny 20 = .ok (.ireturn, 1) := by decide +kernel
theorem dX1_clashesWithAny_21 : decode cX1_clashesWithAny 21 = .ok (.iinc 2 1, 3) := by decide +kernel
theorem dX1_clashesWithAny_24 : decode cX1_clashesWithAny 24 = .ok (.goto (-22), 3) := by decide +kernel
theorem dX1_clashesWithAny_27 : decode cX1_clashesWithAny 27 = .ok (.iconst 0, 1) := by decide +kernel
theorem dX1_clashesWithAny_28 : decode cX1_clashesWithAny 28 = .ok (.ireturn, 1) := by decide +kernel
set_option maxRecDepth 20000 in
theorem ggX1_clashesWithEarlier_X1_isClashingPair : GoodIn wsX1_clashesWithEarlier wsX1_isClashingPair := goodIn_r _ [5, 6, 7, 8, 9, 10, 4, 11, 12, 13, 14, 15, 16, 17, 18, 19, 20, 21, 22, 23, 24, 25, 26, 27, 28, 29, 30, 31, 32, 33, 34, 35, 36, 37, 38, 39, 40, 41, 42, 43, 44, 45, 46, 47, 48, 49, 50, 51, 52, 53, 54, 55, 56, 57, 58, 59, 60, 61, 62, 63, 64, 65] (by decide +kernel) (by decide +kernel)
set_option maxRecDepth 20000 in
theorem gX1_clashesWithEarlier_X1_isClashingPair : GoodIn wsX1_clashesWithEarlier (wsV RX1 181 RX1 yX1_isClashingPair wsX1_isClashingPair) := goodIn_app (goodIn_of _ (by decide +kernel)) ggX1_clashesWithEarlier_X1_isClashingPair
theorem dX1_clashesWithEarlier_0 : decode cX1_clashesWithEarlier 0 = .ok (.iconst 0, 1) := by decide +kernel
theorem dX1_clashesWithEarlier_1 : decode cX1_clashesWithEarlier 1 = .ok (.istore_n 2, 1) := by decide +kernel
theorem dX1_clashesWithEarlier_2 : decode cX1_clashesWithEarlier 2 = .ok (.iconst 0, 1) := by decide +kernel
theorem dX1_clashesWithEarlier_3 : decode cX1_clashesWithEarlier 3 = .ok (.istore_n 3, 1) := by decide +kernel
theorem dX1_clashesWithEarlier_4 : decode cX1_clashesWithEarlier 4 = .ok (.iload_n 3, 1) := by decide +kernel
theorem dX1_clashesWithEarlier_5 : decode cX1_clashesWithEarlier 5 = .ok (.iload_n 1, 1) := by decide +kernel
theorem dX1_clashesWithEarlier_6 : decode cX1_clashesWithEarlier 6 = .ok (.if_icmp .ge 21, 3) := by decide +kernel
theorem dX1_clashesWithEarlier_9 : decode cX1_clashesWithEarlier 9 = .ok (.aload_n 0, 1) := by decide +kernel
theorem dX1_clashesWithEarlier_10 : decode cX1_clashesWithEarlier 10 = .ok (.iload_n 1, 1) := by decide +kernel
theorem dX1_clashesWithEarlier_11 : decode cX1_clashesWithEarlier 11 = .ok (.iload_n 3, 1) := by decide +kernel
theorem dX1_clashesWithEarlier_12 : decode cX1_clashesWithEarlier 12 = .ok (.invokevirtual 181, 3) := by decide +kernel
theorem dX1_clashesWithEarlier_15 : decode cX1_clashesWithEarlier 15 = .ok (.ifCond .eq 6, 3) := by decide +kernel
theorem dX1_clashesWithEarlier_18 : decode cX1_clashesWithEarlier 18 = .ok (.iinc 2 1, 3) := by decide +kernel
theorem dX1_clashesWithEarlier_21 : decode cX1_clashesWithEarlier 21 = .ok (.iinc 3 1, 3) := by decide +kernel
theorem dX1_clashesWithEarlier_24 : decode cX1_clashesWithEarlier 24 = .ok (.goto (-20), 3) := by decide +kernel
theorem dX1_clashesWithEarlier_27 : decode cX1_clashesWithEarlier 27 = .ok (.iload_n 2, 1) := by decide +kernel
theorem dX1_clashesWithEarlier_28 : decode cX1_clashesWithEarlier 28 = .ok (.ireturn, 1) := by decide +kernel
set_option maxRecDepth 20000 in
theorem ggX1_isFinished_X1_find : GoodIn wsX1_isFinished wsX1_find := goodIn_r _ [8, 9, 10, 11, 7, 12, 54, 55, 56, 57, 58, 59, 60, 61] (by decide +kernel) (by decide +kernel)
set_option maxRecDepth 20000 in
theorem gX1_isFinished_X1_find : GoodIn wsX1_isFinished (wsV RX1 74 RX1 yX1_find wsX1_find) := goodIn_app (goodIn_of _ (by decide +kernel)) ggX1_isFinished_X1_find
set_option maxRecDepth 20000 in
theorem ggX1_isFinished_X0_isThere : GoodIn wsX1_isFinished wsX0_isThere := goodIn_r _ [17, 18, 62, 63, 64, 65, 66, 67, 68, 69, 70, 71] (by decide +kernel) (by decide +kernel)
set_option maxRecDepth 20000 in
theorem gX1_isFinished_X0_isThere : GoodIn wsX1_isFinished (wsV RX1 194 RX0 yX0_isThere wsX0_isThere) := goodIn_app (goodIn_of _ (by decide +kernel)) ggX1_isFinished_X0_isThere
set_option maxRecDepth 20000 in
theorem ggX1_isFinished_X1_clashesWithAny : GoodIn wsX1_isFinished wsX1_clashesWithAny := goodIn_r _ [22, 1, 23, 24, 25, 7, 26, 2, 27, 4, 5, 6, 8, 9, 10, 11, 12, 13, 14, 15, 16, 17, 18, 28, 29, 30, 31, 32, 33, 34, 35, 36, 37, 38, 39, 40, 41, 42, 43, 44, 45, 46, 47, 48, 49, 50, 51, 52, 53, 54, 55, 56, 57, 58, 59, 60, 61, 62, 63, 64, 65, 66, 67, 68, 69, 70, 71] (by decide +kernel) (by decide +kernel)
set_option maxRecDepth 20000 in
theorem gX1_isFinished_X1_clashesWithAny : GoodIn wsX1_isFinished (wsV RX1 144 RX1 yX1_clashesWithAny wsX1_clashesWithAny) := goodIn_app (goodIn_of _ (by decide +kernel)) ggX1_isFinished_X1_clashesWithAny
theorem dX1_isFinished_0 : decode cX1_isFinished 0 = .ok (.iconst 0, 1) := by decide +kernel
theorem dX1_isFinished_1 : decode cX1_isFinished 1 = .ok (.istore_n 2, 1) := by decide +kernel
theorem dX1_isFinished_2 : decode cX1_isFinished 2 = .ok (.iconst 0, 1) := by decide +kernel
theorem dX1_isFinished_3 : decode cX1_isFinished 3 = .ok (.istore_n 3, 1) := by decide +kernel
theorem dX1_isFinished_4 : decode cX1_isFinished 4 = .ok (.iload_n 3, 1) := by decide +kernel
theorem dX1_isFinished_5 : decode cX1_isFinished 5 = .ok (.aload_n 0, 1) := by decide +kernel
theorem dX1_isFinished_6 : decode cX1_isFinished 6 = .ok (.getfield 15, 3) := by decide +kernel
theorem dX1_isFinished_9 : decode cX1_isFinished 9 = .ok (.if_icmp .ge 59, 3) := by decide +kernel
theorem dX1_isFinished_12 : decode cX1_isFinished 12 = .ok (.aload_n 0, 1) := by decide +kernel
theorem dX1_isFinished_13 : decode cX1_isFinished 13 = .ok (.iload_n 3, 1) := by decide +kernel
theorem dX1_isFinished_14 : decode cX1_isFinished 14 = .ok (.invokevirtual 74, 3) := by decide +kernel
theorem dX1_isFinished_17 : decode cX1_isFinished 17 = .ok (.astore 4, 2) := by decide +kernel
theorem dX1_isFinished_19 : decode cX1_isFinished 19 = .ok (.aload 4, 2) := by decide +kernel
theorem dX1_isFinished_21 : decode cX1_isFinished 21 = .ok (.ifnull 41, 3) := by decide +kernel
theorem dX1_isFinished_24 : decode cX1_isFinished 24 = .ok (.aload 4, 2) := by decide +kernel
theorem dX1_isFinished_26 : decode cX1_isFinished 26 = .ok (.getfield 154, 3) := by decide +kernel
theorem dX1_isFinished_29 : decode cX1_isFinished 29 = .ok (.iload_n 1, 1) := by decide +kernel
theorem dX1_isFinished_30 : decode cX1_isFinished 30 = .ok (.if_icmp .ne 32, 3) := by decide +kernel
theorem dX1_isFinished_33 : decode cX1_isFinished 33 = .ok (.aload 4, 2) := by decide +kernel
theorem dX1_isFinished_35 : decode cX1_isFinished 35 = .ok (.invokevirtual 194, 3) := by decide +kernel
theorem dX1_isFinished_38 : decode cX1_isFinished 38 = .ok (.ifCond .eq 24, 3) := by decide +kernel
theorem dX1_isFinished_41 : decode cX1_isFinished 41 = .ok (.iconst 1, 1) := by decide +kernel
theorem dX1_isFinished_42 : decode cX1_isFinished 42 = .ok (.istore_n 2, 1) := by decide +kernel
theorem dX1_isFinished_43 : decode cX1_isFinished 43 = .ok (.aload 4, 2) := by decide +kernel
theorem dX1_isFinished_45 : decode cX1_isFinished 45 = .ok (.getfield 93, 3) := by decide +kernel
theorem dX1_isFinished_48 : decode cX1_isFinished 48 = .ok (.iconst 3, 1) := by decide +kernel
theorem dX1_isFinished_49 : decode cX1_isFinished 49 = .ok (.if_icmp .ne 11, 3) := by decide +kernel
theorem dX1_isFinished_52 : decode cX1_isFinished 52 = .ok (.aload_n 0, 1) := by decide +kernel
theorem dX1_isFinished_53 : decode cX1_isFinished 53 = .ok (.iload_n 3, 1) := by decide +kernel
theorem dX1_isFinished_54 : decode cX1_isFinished 54 = .ok (.invokevirtual 144, 3) := by decide +kernel
theorem dX1_isFinished_57 : decode cX1_isFinished 57 = .ok (.ifCond .eq 5, 3) := by decide +kernel
theorem dX1_isFinished_60 : decode cX1_isFinished 60 = .ok (.iconst 0, 1) := by decide +kernel
theorem dX1_isFinished_61 : decode cX1_isFinished 61 = .ok (.ireturn, 1) := by decide +kernel
theorem dX1_isFinished_62 : decode cX1_isFinished 62 = .ok (.iinc 3 1, 3) := by decide +kernel
theorem dX1_isFinished_65 : decode cX1_isFinished 65 = .ok (.goto (-61), 3) := by decide +kernel
theorem dX1_isFinished_68 : decode cX1_isFinished 68 = .ok (.iload_n 2, 1) := by decide +kernel
theorem dX1_isFinished_69 : decode cX1_isFinished 69 = .ok (.ireturn, 1) := by decide +kernel
set_option maxRecDepth 20000 in
theorem ggX1_leadDaysOf_X1_isKind : GoodIn wsX1_leadDaysOf wsX1_isKind := goodIn_r _ [5, 6, 7, 4, 8] (by decide +kernel) (by decide +kernel)
set_option maxRecDepth 20000 in
theorem gX1_leadDaysOf_X1_isKind : GoodIn wsX1_leadDaysOf (va_wsS RX1 39 yX1_isKind wsX1_isKind) := goodIn_app (goodIn_of _ (by decide +kernel)) ggX1_leadDaysOf_X1_isKind
theorem dX1_leadDaysOf_0 : decode cX1_leadDaysOf 0 = .ok (.iload_n 1, 1) := by decide +kernel
theorem dX1_leadDaysOf_1 : decode cX1_leadDaysOf 1 = .ok (.invokestatic 39, 3) := by decide +kernel
theorem dX1_leadDaysOf_4 : decode cX1_leadDaysOf 4 = .ok (.ifCond .eq 12, 3) := by decide +kernel
theorem dX1_leadDaysOf_7 : decode cX1_leadDaysOf 7 = .ok (.aload_n 0, 1) := by decide +kernel
theorem dX1_leadDaysOf_8 : decode cX1_leadDaysOf 8 = .ok (.getfield 26, 3) := by decide +kernel
theorem dX1_leadDaysOf_11 : decode cX1_leadDaysOf 11 = .ok (.iload_n 1, 1) := by decide +kernel
theorem dX1_leadDaysOf_12 : decode cX1_leadDaysOf 12 = .ok (.iaload, 1) := by decide +kernel
theorem dX1_leadDaysOf_13 : decode cX1_leadDaysOf 13 = .ok (.goto 4, 3) := by decide +kernel
theorem dX1_leadDaysOf_16 : decode cX1_leadDaysOf 16 = .ok (.iconst 0, 1) := by decide +kernel
theorem dX1_leadDaysOf_17 : decode cX1_leadDaysOf 17 = .ok (.ireturn, 1) := by decide +kernel
set_option maxRecDepth 20000 in
theorem ggX1_partsOf_X1_isKind : GoodIn wsX1_partsOf wsX1_isKind := goodIn_r _ [6, 7, 8, 5, 9] (by decide +kernel) (by decide +kernel)
set_option maxRecDepth 20000 in
theorem gX1_partsOf_X1_isKind : GoodIn wsX1_partsOf (va_wsS RX1 39 yX1_isKind wsX1_isKind) := goodIn_app (goodIn_of _ (by decide +kernel)) ggX1_partsOf_X1_isKind
set_option maxRecDepth 20000 in
theorem ggX1_partsOf_X0_cells : GoodIn wsX1_partsOf wsX0_cells := goodIn_r _ [14, 15, 16, 17, 18, 19, 20, 21, 22, 23, 24, 25, 26, 27, 28, 29, 30, 31, 32] (by decide +kernel) (by decide +kernel)
set_option maxRecDepth 20000 in
theorem gX1_partsOf_X0_cells : GoodIn wsX1_partsOf (wsV RX1 175 RX0 yX0_cells wsX0_cells) := goodIn_app (goodIn_of _ (by decide +kernel)) ggX1_partsOf_X0_cells
theorem dX1_partsOf_0 : decode cX1_partsOf 0 = .ok (.aload_n 1, 1) := by decide +kernel
theorem dX1_partsOf_1 : decode cX1_partsOf 1 = .ok (.getfield 122, 3) := by decide +kernel
theorem dX1_partsOf_4 : decode cX1_partsOf 4 = .ok (.invokestatic 39, 3) := by decide +kernel
theorem dX1_partsOf_7 : decode cX1_partsOf 7 = .ok (.ifCond .eq 15, 3) := by decide +kernel
theorem dX1_partsOf_10 : decode cX1_partsOf 10 = .ok (.aload_n 0, 1) := by decide +kernel
theorem dX1_partsOf_11 : decode cX1_partsOf 11 = .ok (.getfield 23, 3) := by decide +kernel
theorem dX1_partsOf_14 : decode cX1_partsOf 14 = .ok (.aload_n 1, 1) := by decide +kernel
theorem dX1_partsOf_15 : decode cX1_partsOf 15 = .ok (.getfield 122, 3) := by decide +kernel
theorem dX1_partsOf_18 : decode cX1_partsOf 18 = .ok (.iaload, 1) := by decide +kernel
theorem dX1_partsOf_19 : decode cX1_partsOf 19 = .ok (.goto 4, 3) := by decide +kernel
theorem dX1_partsOf_22 : decode cX1_partsOf 22 = .ok (.iconst 0, 1) := by decide +kernel
theorem dX1_partsOf_23 : decode cX1_partsOf 23 = .ok (.istore_n 2, 1) := by decide +kernel
theorem dX1_partsOf_24 : decode cX1_partsOf 24 = .ok (.iload_n 2, 1) := by decide +kernel
theorem dX1_partsOf_25 : decode cX1_partsOf 25 = .ok (.ifCond .le 16, 3) := by decide +kernel
theorem dX1_partsOf_28 : decode cX1_partsOf 28 = .ok (.aload_n 1, 1) := by decide +kernel
theorem dX1_partsOf_29 : decode cX1_partsOf 29 = .ok (.invokevirtual 175, 3) := by decide +kernel
theorem dX1_partsOf_32 : decode cX1_partsOf 32 = .ok (.iload_n 2, 1) := by decide +kernel
theorem dX1_partsOf_33 : decode cX1_partsOf 33 = .ok (.iadd, 1) := by decide +kernel
theorem dX1_partsOf_34 : decode cX1_partsOf 34 = .ok (.iconst 1, 1) := by decide +kernel
theorem dX1_partsOf_35 : decode cX1_partsOf 35 = .ok (.isub, 1) := by decide +kernel
theorem dX1_partsOf_36 : decode cX1_partsOf 36 = .ok (.iload_n 2, 1) := by decide +kernel
theorem dX1_partsOf_37 : decode cX1_partsOf 37 = .ok (.idiv, 1) := by decide +kernel
theorem dX1_partsOf_38 : decode cX1_partsOf 38 = .ok (.goto 4, 3) := by decide +kernel
theorem dX1_partsOf_41 : decode cX1_partsOf 41 = .ok (.iconst 0, 1) := by decide +kernel
theorem dX1_partsOf_42 : decode cX1_partsOf 42 = .ok (.ireturn, 1) := by decide +kernel
set_option maxRecDepth 20000 in
theorem ggX1_partsInStates_X1_find : GoodIn wsX1_partsInStates wsX1_find := goodIn_r _ [8, 9, 10, 11, 7, 12, 34, 35, 36, 37, 38, 39, 40, 41] (by decide +kernel) (by decide +kernel)
