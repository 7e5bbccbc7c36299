theorem dX2_init_0 : decode cX2_init 0 = .ok (.aload_n 0, 1) := by decide +kernel
theorem dX2_init_1 : decode cX2_init 1 = .ok (.invokespecial 1, 3) := by decide +kernel
theorem dX2_init_4 : decode cX2_init 4 = .ok (.aload_n 0, 1) := by decide +kernel
theorem dX2_init_5 : decode cX2_init 5 = .ok (.bipush 40, 2) := by decide +kernel
theorem dX2_init_7 : decode cX2_init 7 = .ok (.newarray .int, 2) := by decide +kernel
theorem dX2_init_9 : decode cX2_init 9 = .ok (.putfield 7, 3) := by decide +kernel
theorem dX2_init_12 : decode cX2_init 12 = .ok (.aload_n 0, 1) := by decide +kernel
theorem dX2_init_13 : decode cX2_init 13 = .ok (.bipush 40, 2) := by decide +kernel
theorem dX2_init_15 : decode cX2_init 15 = .ok (.newarray .int, 2) := by decide +kernel
theorem dX2_init_17 : decode cX2_init 17 = .ok (.putfield 13, 3) := by decide +kernel
theorem dX2_init_20 : decode cX2_init 20 = .ok (.aload_n 0, 1) := by decide +kernel
theorem dX2_init_21 : decode cX2_init 21 = .ok (.bipush 40, 2) := by decide +kernel
theorem dX2_init_23 : decode cX2_init 23 = .ok (.newarray .int, 2) := by decide +kernel
theorem dX2_init_25 : decode cX2_init 25 = .ok (.putfield 16, 3) := by decide +kernel
theorem dX2_init_28 : decode cX2_init 28 = .ok (.aload_n 0, 1) := by decide +kernel
theorem dX2_init_29 : decode cX2_init 29 = .ok (.bipush 40, 2) := by decide +kernel
theorem dX2_init_31 : decode cX2_init 31 = .ok (.newarray .int, 2) := by decide +kernel
theorem dX2_init_33 : decode cX2_init 33 = .ok (.putfield 19, 3) := by decide +kernel
theorem dX2_init_36 : decode cX2_init 36 = .ok (.aload_n 0, 1) := by decide +kernel
theorem dX2_init_37 : decode cX2_init 37 = .ok (.bipush 40, 2) := by decide +kernel
theorem dX2_init_39 : decode cX2_init 39 = .ok (.newarray .int, 2) := by decide +kernel
theorem dX2_init_41 : decode cX2_init 41 = .ok (.putfield 22, 3) := by decide +kernel
theorem dX2_init_44 : decode cX2_init 44 = .ok (.aload_n 0, 1) := by decide +kernel
theorem dX2_init_45 : decode cX2_init 45 = .ok (.bipush 40, 2) := by decide +kernel
theorem dX2_init_47 : decode cX2_init 47 = .ok (.newarray .int, 2) := by decide +kernel
theorem dX2_init_49 : decode cX2_init 49 = .ok (.putfield 25, 3) := by decide +kernel
theorem dX2_init_52 : decode cX2_init 52 = .ok (.aload_n 0, 1) := by decide +kernel
theorem dX2_init_53 : decode cX2_init 53 = .ok (.bipush 40, 2) := by decide +kernel
theorem dX2_init_55 : decode cX2_init 55 = .ok (.newarray .int, 2) := by decide +kernel
theorem dX2_init_57 : decode cX2_init 57 = .ok (.putfield 28, 3) := by decide +kernel
theorem dX2_init_60 : decode cX2_init 60 = .ok (.aload_n 0, 1) := by decide +kernel
theorem dX2_init_61 : decode cX2_init 61 = .ok (.bipush 40, 2) := by decide +kernel
theorem dX2_init_63 : decode cX2_init 63 = .ok (.newarray .int, 2) := by decide +kernel
theorem dX2_init_65 : decode cX2_init 65 = .ok (.putfield 31, 3) := by decide +kernel
theorem dX2_init_68 : decode cX2_init 68 = .ok (.aload_n 0, 1) := by decide +kernel
theorem dX2_init_69 : decode cX2_init 69 = .ok (.bipush 40, 2) := by decide +kernel
theorem dX2_init_71 : decode cX2_init 71 = .ok (.newarray .int, 2) := by decide +kernel
theorem dX2_init_73 : decode cX2_init 73 = .ok (.putfield 34, 3) := by decide +kernel
theorem dX2_init_76 : decode cX2_init 76 = .ok (.aload_n 0, 1) := by decide +kernel
theorem dX2_init_77 : decode cX2_init 77 = .ok (.bipush 40, 2) := by decide +kernel
theorem dX2_init_79 : decode cX2_init 79 = .ok (.newarray .int, 2) := by decide +kernel
theorem dX2_init_81 : decode cX2_init 81 = .ok (.putfield 37, 3) := by decide +kernel
theorem dX2_init_84 : decode cX2_init 84 = .ok (.aload_n 0, 1) := by decide +kernel
theorem dX2_init_85 : decode cX2_init 85 = .ok (.bipush 9, 2) := by decide +kernel
theorem dX2_init_87 : decode cX2_init 87 = .ok (.newarray .int, 2) := by decide +kernel
theorem dX2_init_89 : decode cX2_init 89 = .ok (.putfield 40, 3) := by decide +kernel
theorem dX2_init_92 : decode cX2_init 92 = .ok (.aload_n 0, 1) := by decide +kernel
theorem dX2_init_93 : decode cX2_init 93 = .ok (.iconst 3, 1) := by decide +kernel
theorem dX2_init_94 : decode cX2_init 94 = .ok (.newarray .int, 2) := by decide +kernel
theorem dX2_init_96 : decode cX2_init 96 = .ok (.putfield 43, 3) := by decide +kernel
theorem dX2_init_99 : decode cX2_init 99 = .ok (.aload_n 0, 1) := by decide +kernel
theorem dX2_init_100 : decode cX2_init 100 = .ok (.iconst 3, 1) := by decide +kernel
theorem dX2_init_101 : decode cX2_init 101 = .ok (.newarray .int, 2) := by decide +kernel
theorem dX2_init_103 : decode cX2_init 103 = .ok (.putfield 46, 3) := by decide +kernel
theorem dX2_init_106 : decode cX2_init 106 = .ok (.aload_n 0, 1) := by decide +kernel
theorem dX2_init_107 : decode cX2_init 107 = .ok (.iconst 4, 1) := by decide +kernel
theorem dX2_init_108 : decode cX2_init 108 = .ok (.newarray .boolean, 2) := by decide +kernel
theorem dX2_init_110 : decode cX2_init 110 = .ok (.putfield 49, 3) := by decide +kernel
theorem dX2_init_113 : decode cX2_init 113 = .ok (.iconst 0, 1) := by decide +kernel
theorem dX2_init_114 : decode cX2_init 114 = .ok (.istore_n 1, 1) := by decide +kernel
theorem dX2_init_115 : decode cX2_init 115 = .ok (.iload_n 1, 1) := by decide +kernel
theorem dX2_init_116 : decode cX2_init 116 = .ok (.iconst 3, 1) := by decide +kernel
theorem dX2_init_117 : decode cX2_init 117 = .ok (.if_icmp .ge 23, 3) := by decide +kernel
theorem dX2_init_120 : decode cX2_init 120 = .ok (.aload_n 0, 1) := by decide +kernel
theorem dX2_init_121 : decode cX2_init 121 = .ok (.getfield 43, 3) := by decide +kernel
theorem dX2_init_124 : decode cX2_init 124 = .ok (.iload_n 1, 1) := by decide +kernel
theorem dX2_init_125 : decode cX2_init 125 = .ok (.iconst 3, 1) := by decide +kernel
theorem dX2_init_126 : decode cX2_init 126 = .ok (.iastore, 1) := by decide +kernel
theorem dX2_init_127 : decode cX2_init 127 = .ok (.aload_n 0, 1) := by decide +kernel
theorem dX2_init_128 : decode cX2_init 128 = .ok (.getfield 46, 3) := by decide +kernel
theorem dX2_init_131 : decode cX2_init 131 = .ok (.iload_n 1, 1) := by decide +kernel
theorem dX2_init_132 : decode cX2_init 132 = .ok (.iconst 5, 1) := by decide +kernel
theorem dX2_init_133 : decode cX2_init 133 = .ok (.iastore, 1) := by decide +kernel
theorem dX2_init_134 : decode cX2_init 134 = .ok (.iinc 1 1, 3) := by decide +kernel
theorem dX2_init_137 : decode cX2_init 137 = .ok (.goto (-22), 3) := by decide +kernel
theorem dX2_init_140 : decode cX2_init 140 = .ok (.return_, 1) := by decide +kernel
theorem dX2_thrown_0 : decode cX2_thrown 0 = .ok (.aload_n 0, 1) := by decide +kernel
theorem dX2_thrown_1 : decode cX2_thrown 1 = .ok (.getfield 53, 3) := by decide +kernel
theorem dX2_thrown_4 : decode cX2_thrown 4 = .ok (.ireturn, 1) := by decide +kernel
theorem dX2_in_0 : decode cX2_in 0 = .ok (.iload_n 0, 1) := by decide +kernel
theorem dX2_in_1 : decode cX2_in 1 = .ok (.iload_n 1, 1) := by decide +kernel
theorem dX2_in_2 : decode cX2_in 2 = .ok (.if_icmp .lt 12, 3) := by decide +kernel
theorem dX2_in_5 : decode cX2_in 5 = .ok (.iload_n 0, 1) := by decide +kernel
theorem dX2_in_6 : decode cX2_in 6 = .ok (.iload_n 2, 1) := by decide +kernel
theorem dX2_in_7 : decode cX2_in 7 = .ok (.if_icmp .gt 7, 3) := by decide +kernel
theorem dX2_in_10 : decode cX2_in 10 = .ok (.iconst 1, 1) := by decide +kernel
theorem dX2_in_11 : decode cX2_in 11 = .ok (.goto 4, 3) := by decide +kernel
theorem dX2_in_14 : decode cX2_in 14 = .ok (.iconst 0, 1) := by decide +kernel
theorem dX2_in_15 : decode cX2_in 15 = .ok (.ireturn, 1) := by decide +kernel
theorem dX2_refused_0 : decode cX2_refused 0 = .ok (.aload_n 0, 1) := by decide +kernel
theorem dX2_refused_1 : decode cX2_refused 1 = .ok (.iload_n 1, 1) := by decide +kernel
theorem dX2_refused_2 : decode cX2_refused 2 = .ok (.putfield 53, 3) := by decide +kernel
theorem dX2_refused_5 : decode cX2_refused 5 = .ok (.iload_n 1, 1) := by decide +kernel
theorem dX2_refused_6 : decode cX2_refused 6 = .ok (.ifCond .eq 7, 3) := by decide +kernel
theorem dX2_refused_9 : decode cX2_refused 9 = .ok (.iconst 1, 1) := by decide +kernel
theorem dX2_refused_10 : decode cX2_refused 10 = .ok (.goto 4, 3) := by decide +kernel
theorem dX2_refused_13 : decode cX2_refused 13 = .ok (.iconst 0, 1) := by decide +kernel
theorem dX2_refused_14 : decode cX2_refused 14 = .ok (.ireturn, 1) := by decide +kernel
set_option maxRecDepth 20000 in
theorem ggX2_isTrade_X2_in : GoodIn wsX2_isTrade wsX2_in := goodIn_r _ [4] (by decide +kernel) (by decide +kernel)
set_option maxRecDepth 20000 in
theorem gX2_isTrade_X2_in : GoodIn wsX2_isTrade (va_wsS RX2 57 yX2_in wsX2_in) := goodIn_app (goodIn_of _ (by decide +kernel)) ggX2_isTrade_X2_in
theorem dX2_isTrade_0 : decode cX2_isTrade 0 = .ok (.iload_n 0, 1) := by decide +kernel
theorem dX2_isTrade_1 : decode cX2_isTrade 1 = .ok (.iconst 0, 1) := by decide +kernel
theorem dX2_isTrade_2 : decode cX2_isTrade 2 = .ok (.iconst 2, 1) := by decide +kernel
theorem dX2_isTrade_3 : decode cX2_isTrade 3 = .ok (.invokestatic 57, 3) := by decide +kernel
theorem dX2_isTrade_6 : decode cX2_isTrade 6 = .ok (.ireturn, 1) := by decide +kernel
set_option maxRecDepth 20000 in
theorem ggX2_isStorey_X2_in : GoodIn wsX2_isStorey wsX2_in := goodIn_r _ [4] (by decide +kernel) (by decide +kernel)
set_option maxRecDepth 20000 in
theorem gX2_isStorey_X2_in : GoodIn wsX2_isStorey (va_wsS RX2 57 yX2_in wsX2_in) := goodIn_app (goodIn_of _ (by decide +kernel)) ggX2_isStorey_X2_in
theorem dX2_isStorey_0 : decode cX2_isStorey 0 = .ok (.iload_n 0, 1) := by decide +kernel
theorem dX2_isStorey_1 : decode cX2_isStorey 1 = .ok (.iconst 0, 1) := by decide +kernel
theorem dX2_isStorey_2 : decode cX2_isStorey 2 = .ok (.iconst 3, 1) := by decide +kernel
theorem dX2_isStorey_3 : decode cX2_isStorey 3 = .ok (.invokestatic 57, 3) := by decide +kernel
theorem dX2_isStorey_6 : decode cX2_isStorey 6 = .ok (.ireturn, 1) := by decide +kernel
set_option maxRecDepth 20000 in
theorem ggX2_isElement_X2_in : GoodIn wsX2_isElement wsX2_in := goodIn_r _ [5] (by decide +kernel) (by decide +kernel)
set_option maxRecDepth 20000 in
theorem gX2_isElement_X2_in : GoodIn wsX2_isElement (va_wsS RX2 57 yX2_in wsX2_in) := goodIn_app (goodIn_of _ (by decide +kernel)) ggX2_isElement_X2_in
theorem dX2_isElement_0 : decode cX2_isElement 0 = .ok (.iload_n 1, 1) := by decide +kernel
theorem dX2_isElement_1 : decode cX2_isElement 1 = .ok (.iconst 0, 1) := by decide +kernel
theorem dX2_isElement_2 : decode cX2_isElement 2 = .ok (.aload_n 0, 1) := by decide +kernel
theorem dX2_isElement_3 : decode cX2_isElement 3 = .ok (.getfield 61, 3) := by decide +kernel
theorem dX2_isElement_6 : decode cX2_isElement 6 = .ok (.iconst 1, 1) := by decide +kernel
theorem dX2_isElement_7 : decode cX2_isElement 7 = .ok (.isub, 1) := by decide +kernel
theorem dX2_isElement_8 : decode cX2_isElement 8 = .ok (.invokestatic 57, 3) := by decide +kernel
theorem dX2_isElement_11 : decode cX2_isElement 11 = .ok (.ireturn, 1) := by decide +kernel
set_option maxRecDepth 20000 in
theorem ggX2_isSide_X2_in : GoodIn wsX2_isSide wsX2_in := goodIn_r _ [4] (by decide +kernel) (by decide +kernel)
set_option maxRecDepth 20000 in
theorem gX2_isSide_X2_in : GoodIn wsX2_isSide (va_wsS RX2 57 yX2_in wsX2_in) := goodIn_app (goodIn_of _ (by decide +kernel)) ggX2_isSide_X2_in
theorem dX2_isSide_0 : decode cX2_isSide 0 = .ok (.iload_n 0, 1) := by decide +kernel
theorem dX2_isSide_1 : decode cX2_isSide 1 = .ok (.iconst 0, 1) := by decide +kernel
theorem dX2_isSide_2 : decode cX2_isSide 2 = .ok (.bipush 11, 2) := by decide +kernel
theorem dX2_isSide_4 : decode cX2_isSide 4 = .ok (.invokestatic 57, 3) := by decide +kernel
theorem dX2_isSide_7 : decode cX2_isSide 7 = .ok (.ireturn, 1) := by decide +kernel
theorem dX2_size_0 : decode cX2_size 0 = .ok (.iload_n 0, 1) := by decide +kernel
theorem dX2_size_1 : decode cX2_size 1 = .ok (.ifCond .ge 8, 3) := by decide +kernel
theorem dX2_size_4 : decode cX2_size 4 = .ok (.iload_n 0, 1) := by decide +kernel
theorem dX2_size_5 : decode cX2_size 5 = .ok (.ineg, 1) := by decide +kernel
theorem dX2_size_6 : decode cX2_size 6 = .ok (.goto 4, 3) := by decide +kernel
theorem dX2_size_9 : decode cX2_size 9 = .ok (.iload_n 0, 1) := by decide +kernel
theorem dX2_size_10 : decode cX2_size 10 = .ok (.ireturn, 1) := by decide +kernel
theorem dX2_change_0 : decode cX2_change 0 = .ok (.aload_n 0, 1) := by decide +kernel
theorem dX2_change_1 : decode cX2_change 1 = .ok (.dup, 1) := by decide +kernel
theorem dX2_change_2 : decode cX2_change 2 = .ok (.getfield 64, 3) := by decide +kernel
theorem dX2_change_5 : decode cX2_change 5 = .ok (.iconst 1, 1) := by decide +kernel
theorem dX2_change_6 : decode cX2_change 6 = .ok (.iadd, 1) := by decide +kernel
theorem dX2_change_7 : decode cX2_change 7 = .ok (.putfield 64, 3) := by decide +kernel
theorem dX2_change_10 : decode cX2_change 10 = .ok (.aload_n 0, 1) := by decide +kernel
theorem dX2_change_11 : decode cX2_change 11 = .ok (.getfield 31, 3) := by decide +kernel
theorem dX2_change_14 : decode cX2_change 14 = .ok (.iload_n 1, 1) := by decide +kernel
theorem dX2_change_15 : decode cX2_change 15 = .ok (.aload_n 0, 1) := by decide +kernel
theorem dX2_change_16 : decode cX2_change 16 = .ok (.getfield 64, 3) := by decide +kernel
theorem dX2_change_19 : decode cX2_change 19 = .ok (.iastore, 1) := by decide +kernel
theorem dX2_change_20 : decode cX2_change 20 = .ok (.aload_n 0, 1) := by decide +kernel
theorem dX2_change_21 : decode cX2_change 21 = .ok (.getfield 34, 3) := by decide +kernel
theorem dX2_change_24 : decode cX2_change 24 = .ok (.iload_n 1, 1) := by decide +kernel
theorem dX2_change_25 : decode cX2_change 25 = .ok (.iload_n 2, 1) := by decide +kernel
theorem dX2_change_26 : decode cX2_change 26 = .ok (.iastore, 1) := by decide +kernel
theorem dX2_change_27 : decode cX2_change 27 = .ok (.return_, 1) := by decide +kernel
set_option maxRecDepth 20000 in
theorem ggX2_add_X2_isTrade : GoodIn wsX2_add wsX2_isTrade := goodIn_r _ [12, 13, 14, 11, 15] (by decide +kernel) (by decide +kernel)
set_option maxRecDepth 20000 in
theorem gX2_add_X2_isTrade : GoodIn wsX2_add (va_wsS RX2 67 yX2_isTrade wsX2_isTrade) := goodIn_app (goodIn_of _ (by decide +kernel)) ggX2_add_X2_isTrade
set_option maxRecDepth 20000 in
theorem ggX2_add_X2_isStorey : GoodIn wsX2_add wsX2_isStorey := goodIn_r _ [18, 13, 14, 11, 15] (by decide +kernel) (by decide +kernel)
set_option maxRecDepth 20000 in
theorem gX2_add_X2_isStorey : GoodIn wsX2_add (va_wsS RX2 71 yX2_isStorey wsX2_isStorey) := goodIn_app (goodIn_of _ (by decide +kernel)) ggX2_add_X2_isStorey
set_option maxRecDepth 20000 in
theorem ggX2_add_X2_isSide : GoodIn wsX2_add wsX2_isSide := goodIn_r _ [21, 13, 14, 11, 15] (by decide +kernel) (by decide +kernel)
set_option maxRecDepth 20000 in
theorem gX2_add_X2_isSide : GoodIn wsX2_add (va_wsS RX2 74 yX2_isSide wsX2_isSide) := goodIn_app (goodIn_of _ (by decide +kernel)) ggX2_add_X2_isSide
set_option maxRecDepth 20000 in
theorem ggX2_add_X2_refused : GoodIn wsX2_add wsX2_refused := goodIn_r _ [25, 26, 34, 35, 36, 37, 38, 39, 40, 41, 42, 43, 44, 45, 46, 47, 48, 49, 50, 51] (by decide +kernel) (by decide +kernel)
set_option maxRecDepth 20000 in
theorem gX2_add_X2_refused : GoodIn wsX2_add (wsV RX2 77 RX2 yX2_refused wsX2_refused) := goodIn_app (goodIn_of _ (by decide +kernel)) ggX2_add_X2_refused
set_option maxRecDepth 20000 in
theorem ggX2_add_X2_change : GoodIn wsX2_add wsX2_change := goodIn_r _ [30, 31, 32, 33, 34, 35, 36, 37, 38, 39, 40, 41, 42, 43, 44, 45, 46, 47, 48, 49, 50, 51] (by decide +kernel) (by decide +kernel)
set_option maxRecDepth 20000 in
theorem gX2_add_X2_change : GoodIn wsX2_add (wsV RX2 80 RX2 yX2_change wsX2_change) := goodIn_app (goodIn_of _ (by decide +kernel)) ggX2_add_X2_change
theorem dX2_add_0 : decode cX2_add 0 = .ok (.iload_n 1, 1) := by decide +kernel
theorem dX2_add_1 : decode cX2_add 1 = .ok (.invokestatic 67, 3) := by decide +kernel
theorem dX2_add_4 : decode cX2_add 4 = .ok (.ifCond .eq 14, 3) := by decide +kernel
theorem dX2_add_7 : decode cX2_add 7 = .ok (.iload_n 2, 1) := by decide +kernel
theorem dX2_add_8 : decode cX2_add 8 = .ok (.invokestatic 71, 3) := by decide +kernel
theorem dX2_add_11 : decode cX2_add 11 = .ok (.ifCond .eq 7, 3) := by decide +kernel
theorem dX2_add_14 : decode cX2_add 14 = .ok (.iconst 1, 1) := by decide +kernel
theorem dX2_add_15 : decode cX2_add 15 = .ok (.goto 4, 3) := by decide +kernel
theorem dX2_add_18 : decode cX2_add 18 = .ok (.iconst 0, 1) := by decide +kernel
theorem dX2_add_19 : decode cX2_add 19 = .ok (.istore 7, 2) := by decide +kernel
theorem dX2_add_21 : decode cX2_add 21 = .ok (.iload_n 3, 1) := by decide +kernel
theorem dX2_add_22 : decode cX2_add 22 = .ok (.invokestatic 74, 3) := by decide +kernel
theorem dX2_add_25 : decode cX2_add 25 = .ok (.ifCond .eq 44, 3) := by decide +kernel
theorem dX2_add_28 : decode cX2_add 28 = .ok (.iload 4, 2) := by decide +kernel
theorem dX2_add_30 : decode cX2_add 30 = .ok (.invokestatic 74, 3) := by decide +kernel
theorem dX2_add_33 : decode cX2_add 33 = .ok (.ifCond .eq 36, 3) := by decide +kernel
theorem dX2_add_36 : decode cX2_add 36 = .ok (.iload 5, 2) := by decide +kernel
theorem dX2_add_38 : decode cX2_add 38 = .ok (.invokestatic 74, 3) := by decide +kernel
theorem dX2_add_41 : decode cX2_add 41 = .ok (.ifCond .eq 28, 3) := by decide +kernel
theorem dX2_add_44 : decode cX2_add 44 = .ok (.iload 6, 2) := by decide +kernel
theorem dX2_add_46 : decode cX2_add 46 = .ok (.invokestatic 74, 3) := by decide +kernel
theorem dX2_add_49 : decode cX2_add 49 = .ok (.ifCond .eq 20, 3) := by decide +kernel
theorem dX2_add_52 : decode cX2_add 52 = .ok (.iload_n 3, 1) := by decide +kernel
theorem dX2_add_53 : decode cX2_add 53 = .ok (.iload 5, 2) := by decide +kernel
theorem dX2_add_55 : decode cX2_add 55 = .ok (.if_icmp .eq 10, 3) := by decide +kernel
theorem dX2_add_58 : decode cX2_add 58 = .ok (.iload 4, 2) := by decide +kernel
theorem dX2_add_60 : decode cX2_add 60 = .ok (.iload 6, 2) := by decide +kernel
theorem dX2_add_62 : decode cX2_add 62 = .ok (.if_icmp .ne 7, 3) := by decide +kernel
theorem dX2_add_65 : decode cX2_add 65 = .ok (.iconst 1, 1) := by decide +kernel
theorem dX2_add_66 : decode cX2_add 66 = .ok (.goto 4, 3) := by decide +kernel
theorem dX2_add_69 : decode cX2_add 69 = .ok (.iconst 0, 1) := by decide +kernel
theorem dX2_add_70 : decode cX2_add 70 = .ok (.istore 8, 2) := by decide +kernel
theorem dX2_add_72 : decode cX2_add 72 = .ok (.aload_n 0, 1) := by decide +kernel
theorem dX2_add_73 : decode cX2_add 73 = .ok (.iload 7, 2) := by decide +kernel
theorem dX2_add_75 : decode cX2_add 75 = .ok (.ifCond .ne 7, 3) := by decide +kernel
theorem dX2_add_78 : decode cX2_add 78 = .ok (.iconst 1, 1) := by decide +kernel
theorem dX2_add_79 : decode cX2_add 79 = .ok (.goto 35, 3) := by decide +kernel
theorem dX2_add_82 : decode cX2_add 82 = .ok (.iload 8, 2) := by decide +kernel
theorem dX2_add_84 : decode cX2_add 84 = .ok (.ifCond .ne 7, 3) := by decide +kernel
theorem dX2_add_87 : decode cX2_add 87 = .ok (.iconst 2, 1) := by decide +kernel
theorem dX2_add_88 : decode cX2_add 88 = .ok (.goto 26, 3) := by decide +kernel
theorem dX2_add_91 : decode cX2_add 91 = .ok (.aload_n 0, 1) := by decide +kernel
theorem dX2_add_92 : decode cX2_add 92 = .ok (.getfield 49, 3) := by decide +kernel
theorem dX2_add_95 : decode cX2_add 95 = .ok (.iload_n 2, 1) := by decide +kernel
theorem dX2_add_96 : decode cX2_add 96 = .ok (.baload, 1) := by decide +kernel
theorem dX2_add_97 : decode cX2_add 97 = .ok (.ifCond .ne 12, 3) := by decide +kernel
theorem dX2_add_100 : decode cX2_add 100 = .ok (.aload_n 0, 1) := by decide +kernel
theorem dX2_add_101 : decode cX2_add 101 = .ok (.getfield 61, 3) := by decide +kernel
theorem dX2_add_104 : decode cX2_add 104 = .ok (.bipush 40, 2) := by decide +kernel
theorem dX2_add_106 : decode cX2_add 106 = .ok (.if_icmp .ne 7, 3) := by decide +kernel
theorem dX2_add_109 : decode cX2_add 109 = .ok (.iconst 3, 1) := by decide +kernel
theorem dX2_add_110 : decode cX2_add 110 = .ok (.goto 4, 3) := by decide +kernel
theorem dX2_add_113 : decode cX2_add 113 = .ok (.iconst 0, 1) := by decide +kernel
theorem dX2_add_114 : decode cX2_add 114 = .ok (.invokevirtual 77, 3) := by decide +kernel
theorem dX2_add_117 : decode cX2_add 117 = .ok (.ifCond .eq 5, 3) := by decide +kernel
theorem dX2_add_120 : decode cX2_add 120 = .ok (.iconst 0, 1) := by decide +kernel
theorem dX2_add_121 : decode cX2_add 121 = .ok (.ireturn, 1) := by decide +kernel
theorem dX2_add_122 : decode cX2_add 122 = .ok (.aload_n 0, 1) := by decide +kernel
theorem dX2_add_123 : decode cX2_add 123 = .ok (.getfield 7, 3) := by decide +kernel
theorem dX2_add_126 : decode cX2_add 126 = .ok (.aload_n 0, 1) := by decide +kernel
theorem dX2_add_127 : decode cX2_add 127 = .ok (.getfield 61, 3) := by decide +kernel
theorem dX2_add_130 : decode cX2_add 130 = .ok (.iload_n 1, 1) := by decide +kernel
theorem dX2_add_131 : decode cX2_add 131 = .ok (.iastore, 1) := by decide +kernel
theorem dX2_add_132 : decode cX2_add 132 = .ok (.aload_n 0, 1) := by decide +kernel
theorem dX2_add_133 : decode cX2_add 133 = .ok (.getfield 13, 3) := by decide +kernel
theorem dX2_add_136 : decode cX2_add 136 = .ok (.aload_n 0, 1) := by decide +kernel
theorem dX2_add_137 : decode cX2_add 137 = .ok (.getfield 61, 3) := by decide +kernel
theorem dX2_add_140 : decode cX2_add 140 = .ok (.iload_n 2, 1) := by decide +kernel
theorem dX2_add_141 : decode cX2_add 141 = .ok (.iastore, 1) := by decide +kernel
theorem dX2_add_142 : decode cX2_add 142 = .ok (.aload_n 0, 1) := by decide +kernel
theorem dX2_add_143 : decode cX2_add 143 = .ok (.getfield 16, 3) := by decide +kernel
theorem dX2_add_146 : decode cX2_add 146 = .ok (.aload_n 0, 1) := by decide +kernel
theorem dX2_add_147 : decode cX2_add 147 = .ok (.getfield 61, 3) := by decide +kernel
theorem dX2_add_150 : decode cX2_add 150 = .ok (.iload_n 3, 1) := by decide +kernel
theorem dX2_add_151 : decode cX2_add 151 = .ok (.iastore, 1) := by decide +kernel
theorem dX2_add_152 : decode cX2_add 152 = .ok (.aload_n 0, 1) := by decide +kernel
theorem dX2_add_153 : decode cX2_add 153 = .ok (.getfield 19, 3) := by decide +kernel
theorem dX2_add_156 : decode cX2_add 156 = .ok (.aload_n 0, 1) := by decide +kernel
theorem dX2_add_157 : decode cX2_add 157 = .ok (.getfield 61, 3) := by decide +kernel
theorem dX2_add_160 : decode cX2_add 160 = .ok (.iload 4, 2) := by decide +kernel
theorem dX2_add_162 : decode cX2_add 162 = .ok (.iastore, 1) := by decide +kernel
theorem dX2_add_163 : decode cX2_add 163 = .ok (.aload_n 0, 1) := by decide +kernel
theorem dX2_add_164 : decode cX2_add 164 = .ok (.getfield 22, 3) := by decide +kernel
theorem dX2_add_167 : decode cX2_add 167 = .ok (.aload_n 0, 1) := by decide +kernel
theorem dX2_add_168 : decode cX2_add 168 = .ok (.getfield 61, 3) := by decide +kernel
theorem dX2_add_171 : decode cX2_add 171 = .ok (.iload 5, 2) := by decide +kernel
theorem dX2_add_173 : decode cX2_add 173 = .ok (.iastore, 1) := by decide +kernel
theorem dX2_add_174 : decode cX2_add 174 = .ok (.aload_n 0, 1) := by decide +kernel
theorem dX2_add_175 : decode cX2_add 175 = .ok (.getfield 25, 3) := by decide +kernel
theorem dX2_add_178 : decode cX2_add 178 = .ok (.aload_n 0, 1) := by decide +kernel
theorem dX2_add_179 : decode cX2_add 179 = .ok (.getfield 61, 3) := by decide +kernel
theorem dX2_add_182 : decode cX2_add 182 = .ok (.iload 6, 2) := by decide +kernel
theorem dX2_add_184 : decode cX2_add 184 = .ok (.iastore, 1) := by decide +kernel
theorem dX2_add_185 : decode cX2_add 185 = .ok (.aload_n 0, 1) := by decide +kernel
theorem dX2_add_186 : decode cX2_add 186 = .ok (.dup, 1) := by decide +kernel
theorem dX2_add_187 : decode cX2_add 187 = .ok (.getfield 61, 3) := by decide +kernel
theorem dX2_add_190 : decode cX2_add 190 = .ok (.iconst 1, 1) := by decide +kernel
theorem dX2_add_191 : decode cX2_add 191 = .ok (.iadd, 1) := by decide +kernel
theorem dX2_add_192 : decode cX2_add 192 = .ok (.putfield 61, 3) := by decide +kernel
theorem dX2_add_195 : decode cX2_add 195 = .ok (.aload_n 0, 1) := by decide +kernel
theorem dX2_add_196 : decode cX2_add 196 = .ok (.aload_n 0, 1) := by decide +kernel
theorem dX2_add_197 : decode cX2_add 197 = .ok (.getfield 61, 3) := by decide +kernel
theorem dX2_add_200 : decode cX2_add 200 = .ok (.iconst 1, 1) := by decide +kernel
theorem dX2_add_201 : decode cX2_add 201 = .ok (.isub, 1) := by decide +kernel
theorem dX2_add_202 : decode cX2_add 202 = .ok (.iload_n 1, 1) := by decide +kernel
theorem dX2_add_203 : decode cX2_add 203 = .ok (.invokevirtual 80, 3) := by decide +kernel
theorem dX2_add_206 : decode cX2_add 206 = .ok (.aload_n 0, 1) := by decide +kernel
theorem dX2_add_207 : decode cX2_add 207 = .ok (.getfield 61, 3) := by decide +kernel
theorem dX2_add_210 : decode cX2_add 210 = .ok (.iconst 1, 1) := by decide +kernel
theorem dX2_add_211 : decode cX2_add 211 = .ok (.isub, 1) := by decide +kernel
theorem dX2_add_212 : decode cX2_add 212 = .ok (.ireturn, 1) := by decide +kernel
theorem dX2_isTaken_0 : decode cX2_isTaken 0 = .ok (.aload_n 0, 1) := by decide +kernel
theorem dX2_isTaken_1 : decode cX2_isTaken 1 = .ok (.getfield 31, 3) := by decide +kernel
theorem dX2_isTaken_4 : decode cX2_isTaken 4 = .ok (.iload_n 3, 1) := by decide +kernel
theorem dX2_isTaken_5 : decode cX2_isTaken 5 = .ok (.iaload, 1) := by decide +kernel
theorem dX2_isTaken_6 : decode cX2_isTaken 6 = .ok (.iload_n 2, 1) := by decide +kernel
theorem dX2_isTaken_7 : decode cX2_isTaken 7 = .ok (.if_icmp .le 23, 3) := by decide +kernel
theorem dX2_isTaken_10 : decode cX2_isTaken 10 = .ok (.aload_n 0, 1) := by decide +kernel
theorem dX2_isTaken_11 : decode cX2_isTaken 11 = .ok (.getfield 34, 3) := by decide +kernel
theorem dX2_isTaken_14 : decode cX2_isTaken 14 = .ok (.iload_n 3, 1) := by decide +kernel
theorem dX2_isTaken_15 : decode cX2_isTaken 15 = .ok (.iaload, 1) := by decide +kernel
theorem dX2_isTaken_16 : decode cX2_isTaken 16 = .ok (.iload_n 1, 1) := by decide +kernel
theorem dX2_isTaken_17 : decode cX2_isTaken 17 = .ok (.if_icmp .eq 13, 3) := by decide +kernel
theorem dX2_isTaken_20 : decode cX2_isTaken 20 = .ok (.iload_n 1, 1) := by decide +kernel
theorem dX2_isTaken_21 : decode cX2_isTaken 21 = .ok (.aload_n 0, 1) := by decide +kernel
theorem dX2_isTaken_22 : decode cX2_isTaken 22 = .ok (.getfield 34, 3) := by decide +kernel
theorem dX2_isTaken_25 : decode cX2_isTaken 25 = .ok (.iload_n 3, 1) := by decide +kernel
theorem dX2_isTaken_26 : decode cX2_isTaken 26 = .ok (.iaload, 1) := by decide +kernel
theorem dX2_isTaken_27 : decode cX2_isTaken 27 = .ok (.if_icmp .ge 7, 3) := by decide +kernel
theorem dX2_isTaken_30 : decode cX2_isTaken 30 = .ok (.iconst 1, 1) := by decide +kernel
theorem dX2_isTaken_31 : decode cX2_isTaken 31 = .ok (.goto 4, 3) := by decide +kernel
theorem dX2_isTaken_34 : decode cX2_isTaken 34 = .ok (.iconst 0, 1) := by decide +kernel
theorem dX2_isTaken_35 : decode cX2_isTaken 35 = .ok (.ireturn, 1) := by decide +kernel
set_option maxRecDepth 20000 in
theorem ggX2_move_X2_isTrade : GoodIn wsX2_move wsX2_isTrade := goodIn_r _ [10, 11, 12, 9, 13] (by decide +kernel) (by decide +kernel)
set_option maxRecDepth 20000 in
theorem gX2_move_X2_isTrade : GoodIn wsX2_move (va_wsS RX2 67 yX2_isTrade wsX2_isTrade) := goodIn_app (goodIn_of _ (by decide +kernel)) ggX2_move_X2_isTrade
set_option maxRecDepth 20000 in
theorem ggX2_move_X2_isElement : GoodIn wsX2_move wsX2_isElement := goodIn_r _ [17, 18, 11, 12, 9, 13, 37, 38, 39, 40, 41, 42, 43, 44, 45, 46, 47, 48, 49, 50, 51, 52, 53, 54] (by decide +kernel) (by decide +kernel)
set_option maxRecDepth 20000 in
theorem gX2_move_X2_isElement : GoodIn wsX2_move (wsV RX2 84 RX2 yX2_isElement wsX2_isElement) := goodIn_app (goodIn_of _ (by decide +kernel)) ggX2_move_X2_isElement
set_option maxRecDepth 20000 in
theorem ggX2_move_X2_in : GoodIn wsX2_move wsX2_in := goodIn_r _ [13] (by decide +kernel) (by decide +kernel)
set_option maxRecDepth 20000 in
theorem gX2_move_X2_in : GoodIn wsX2_move (va_wsS RX2 57 yX2_in wsX2_in) := goodIn_app (goodIn_of _ (by decide +kernel)) ggX2_move_X2_in
set_option maxRecDepth 20000 in
theorem ggX2_move_X2_isSide : GoodIn wsX2_move wsX2_isSide := goodIn_r _ [21, 11, 12, 9, 13] (by decide +kernel) (by decide +kernel)
set_option maxRecDepth 20000 in
theorem gX2_move_X2_isSide : GoodIn wsX2_move (va_wsS RX2 74 yX2_isSide wsX2_isSide) := goodIn_app (goodIn_of _ (by decide +kernel)) ggX2_move_X2_isSide
set_option maxRecDepth 20000 in
theorem ggX2_move_X2_refused : GoodIn wsX2_move wsX2_refused := goodIn_r _ [25, 26, 37, 38, 39, 40, 41, 42, 43, 44, 45, 46, 47, 48, 49, 50, 51, 52, 53, 54] (by decide +kernel) (by decide +kernel)
set_option maxRecDepth 20000 in
theorem gX2_move_X2_refused : GoodIn wsX2_move (wsV RX2 77 RX2 yX2_refused wsX2_refused) := goodIn_app (goodIn_of _ (by decide +kernel)) ggX2_move_X2_refused
set_option maxRecDepth 20000 in
theorem ggX2_move_X2_isTaken : GoodIn wsX2_move wsX2_isTaken := goodIn_r _ [30, 31, 32, 37, 38, 39, 40, 41, 42, 43, 44, 45, 46, 47, 48, 49, 50, 51, 52, 53, 54] (by decide +kernel) (by decide +kernel)
set_option maxRecDepth 20000 in
theorem gX2_move_X2_isTaken : GoodIn wsX2_move (wsV RX2 87 RX2 yX2_isTaken wsX2_isTaken) := goodIn_app (goodIn_of _ (by decide +kernel)) ggX2_move_X2_isTaken
set_option maxRecDepth 20000 in
theorem ggX2_move_X2_change : GoodIn wsX2_move wsX2_change := goodIn_r _ [36, 1, 31, 32, 37, 38, 39, 40, 41, 42, 43, 44, 45, 46, 47, 48, 49, 50, 51, 52, 53, 54] (by decide +kernel) (by decide +kernel)
set_option maxRecDepth 20000 in
theorem gX2_move_X2_change : GoodIn wsX2_move (wsV RX2 80 RX2 yX2_change wsX2_change) := goodIn_app (goodIn_of _ (by decide +kernel)) ggX2_move_X2_change
theorem dX2_move_0 : decode cX2_move 0 = .ok (.iload_n 1, 1) := by decide +kernel
theorem dX2_move_1 : decode cX2_move 1 = .ok (.invokestatic 67, 3) := by decide +kernel
theorem dX2_move_4 : decode cX2_move 4 = .ok (.ifCond .eq 15, 3) := by decide +kernel
theorem dX2_move_7 : decode cX2_move 7 = .ok (.aload_n 0, 1) := by decide +kernel
theorem dX2_move_8 : decode cX2_move 8 = .ok (.iload_n 3, 1) := by decide +kernel
theorem dX2_move_9 : decode cX2_move 9 = .ok (.invokevirtual 84, 3) := by decide +kernel
theorem dX2_move_12 : decode cX2_move 12 = .ok (.ifCond .eq 7, 3) := by decide +kernel
theorem dX2_move_15 : decode cX2_move 15 = .ok (.iconst 1, 1) := by decide +kernel
theorem dX2_move_16 : decode cX2_move 16 = .ok (.goto 4, 3) := by decide +kernel
theorem dX2_move_19 : decode cX2_move 19 = .ok (.iconst 0, 1) := by decide +kernel
theorem dX2_move_20 : decode cX2_move 20 = .ok (.istore 6, 2) := by decide +kernel
theorem dX2_move_22 : decode cX2_move 22 = .ok (.iload 6, 2) := by decide +kernel
theorem dX2_move_24 : decode cX2_move 24 = .ok (.ifCond .eq 43, 3) := by decide +kernel
theorem dX2_move_27 : decode cX2_move 27 = .ok (.iload_n 2, 1) := by decide +kernel
theorem dX2_move_28 : decode cX2_move 28 = .ok (.iconst 0, 1) := by decide +kernel
theorem dX2_move_29 : decode cX2_move 29 = .ok (.aload_n 0, 1) := by decide +kernel
theorem dX2_move_30 : decode cX2_move 30 = .ok (.getfield 64, 3) := by decide +kernel
theorem dX2_move_33 : decode cX2_move 33 = .ok (.invokestatic 57, 3) := by decide +kernel
theorem dX2_move_36 : decode cX2_move 36 = .ok (.ifCond .eq 31, 3) := by decide +kernel
theorem dX2_move_39 : decode cX2_move 39 = .ok (.iload 4, 2) := by decide +kernel
theorem dX2_move_41 : decode cX2_move 41 = .ok (.bipush (-11), 2) := by decide +kernel
theorem dX2_move_43 : decode cX2_move 43 = .ok (.bipush 11, 2) := by decide +kernel
theorem dX2_move_45 : decode cX2_move 45 = .ok (.invokestatic 57, 3) := by decide +kernel
theorem dX2_move_48 : decode cX2_move 48 = .ok (.ifCond .eq 19, 3) := by decide +kernel
theorem dX2_move_51 : decode cX2_move 51 = .ok (.iload 5, 2) := by decide +kernel
theorem dX2_move_53 : decode cX2_move 53 = .ok (.bipush (-11), 2) := by decide +kernel
theorem dX2_move_55 : decode cX2_move 55 = .ok (.bipush 11, 2) := by decide +kernel
theorem dX2_move_57 : decode cX2_move 57 = .ok (.invokestatic 57, 3) := by decide +kernel
theorem dX2_move_60 : decode cX2_move 60 = .ok (.ifCond .eq 7, 3) := by decide +kernel
theorem dX2_move_63 : decode cX2_move 63 = .ok (.iconst 1, 1) := by decide +kernel
theorem dX2_move_64 : decode cX2_move 64 = .ok (.goto 4, 3) := by decide +kernel
theorem dX2_move_67 : decode cX2_move 67 = .ok (.iconst 0, 1) := by decide +kernel
theorem dX2_move_68 : decode cX2_move 68 = .ok (.istore 7, 2) := by decide +kernel
theorem dX2_move_70 : decode cX2_move 70 = .ok (.iload 7, 2) := by decide +kernel
theorem dX2_move_72 : decode cX2_move 72 = .ok (.ifCond .eq 67, 3) := by decide +kernel
theorem dX2_move_75 : decode cX2_move 75 = .ok (.aload_n 0, 1) := by decide +kernel
theorem dX2_move_76 : decode cX2_move 76 = .ok (.getfield 16, 3) := by decide +kernel
theorem dX2_move_79 : decode cX2_move 79 = .ok (.iload_n 3, 1) := by decide +kernel
theorem dX2_move_80 : decode cX2_move 80 = .ok (.iaload, 1) := by decide +kernel
theorem dX2_move_81 : decode cX2_move 81 = .ok (.iload 4, 2) := by decide +kernel
theorem dX2_move_83 : decode cX2_move 83 = .ok (.iadd, 1) := by decide +kernel
theorem dX2_move_84 : decode cX2_move 84 = .ok (.invokestatic 74, 3) := by decide +kernel
theorem dX2_move_87 : decode cX2_move 87 = .ok (.ifCond .eq 52, 3) := by decide +kernel
theorem dX2_move_90 : decode cX2_move 90 = .ok (.aload_n 0, 1) := by decide +kernel
theorem dX2_move_91 : decode cX2_move 91 = .ok (.getfield 22, 3) := by decide +kernel
theorem dX2_move_94 : decode cX2_move 94 = .ok (.iload_n 3, 1) := by decide +kernel
theorem dX2_move_95 : decode cX2_move 95 = .ok (.iaload, 1) := by decide +kernel
theorem dX2_move_96 : decode cX2_move 96 = .ok (.iload 4, 2) := by decide +kernel
theorem dX2_move_98 : decode cX2_move 98 = .ok (.iadd, 1) := by decide +kernel
theorem dX2_move_99 : decode cX2_move 99 = .ok (.invokestatic 74, 3) := by decide +kernel
theorem dX2_move_102 : decode cX2_move 102 = .ok (.ifCond .eq 37, 3) := by decide +kernel
theorem dX2_move_105 : decode cX2_move 105 = .ok (.aload_n 0, 1) := by decide +kernel
theorem dX2_move_106 : decode cX2_move 106 = .ok (.getfield 19, 3) := by decide +kernel
theorem dX2_move_109 : decode cX2_move 109 = .ok (.iload_n 3, 1) := by decide +kernel
theorem dX2_move_110 : decode cX2_move 110 = .ok (.iaload, 1) := by decide +kernel
theorem dX2_move_111 : decode cX2_move 111 = .ok (.iload 5, 2) := by decide +kernel
theorem dX2_move_113 : decode cX2_move 113 = .ok (.iadd, 1) := by decide +kernel
theorem dX2_move_114 : decode cX2_move 114 = .ok (.invokestatic 74, 3) := by decide +kernel
theorem dX2_move_117 : decode cX2_move 117 = .ok (.ifCond .eq 22, 3) := by decide +kernel
theorem dX2_move_120 : decode cX2_move 120 = .ok (.aload_n 0, 1) := by decide +kernel
theorem dX2_move_121 : decode cX2_move 121 = .ok (.getfield 25, 3) := by decide +kernel
theorem dX2_move_124 : decode cX2_move 124 = .ok (.iload_n 3, 1) := by decide +kernel
theorem dX2_move_125 : decode cX2_move 125 = .ok (.iaload, 1) := by decide +kernel
theorem dX2_move_126 : decode cX2_move 126 = .ok (.iload 5, 2) := by decide +kernel
theorem dX2_move_128 : decode cX2_move 128 = .ok (.iadd, 1) := by decide +kernel
theorem dX2_move_129 : decode cX2_move 129 = .ok (.invokestatic 74, 3) := by decide +kernel
theorem dX2_move_132 : decode cX2_move 132 = .ok (.ifCond .eq 7, 3) := by decide +kernel
theorem dX2_move_135 : decode cX2_move 135 = .ok (.iconst 1, 1) := by decide +kernel
theorem dX2_move_136 : decode cX2_move 136 = .ok (.goto 4, 3) := by decide +kernel
theorem dX2_move_139 : decode cX2_move 139 = .ok (.iconst 0, 1) := by decide +kernel
theorem dX2_move_140 : decode cX2_move 140 = .ok (.istore 7, 2) := by decide +kernel
theorem dX2_move_142 : decode cX2_move 142 = .ok (.aload_n 0, 1) := by decide +kernel
theorem dX2_move_143 : decode cX2_move 143 = .ok (.iload 6, 2) := by decide +kernel
theorem dX2_move_145 : decode cX2_move 145 = .ok (.ifCond .ne 7, 3) := by decide +kernel
theorem dX2_move_148 : decode cX2_move 148 = .ok (.iconst 1, 1) := by decide +kernel
theorem dX2_move_149 : decode cX2_move 149 = .ok (.goto 26, 3) := by decide +kernel
theorem dX2_move_152 : decode cX2_move 152 = .ok (.iload 7, 2) := by decide +kernel
theorem dX2_move_154 : decode cX2_move 154 = .ok (.ifCond .ne 7, 3) := by decide +kernel
theorem dX2_move_157 : decode cX2_move 157 = .ok (.iconst 2, 1) := by decide +kernel
theorem dX2_move_158 : decode cX2_move 158 = .ok (.goto 17, 3) := by decide +kernel
theorem dX2_move_161 : decode cX2_move 161 = .ok (.aload_n 0, 1) := by decide +kernel
theorem dX2_move_162 : decode cX2_move 162 = .ok (.getfield 28, 3) := by decide +kernel
theorem dX2_move_165 : decode cX2_move 165 = .ok (.iload_n 3, 1) := by decide +kernel
theorem dX2_move_166 : decode cX2_move 166 = .ok (.iaload, 1) := by decide +kernel
theorem dX2_move_167 : decode cX2_move 167 = .ok (.ifCond .eq 7, 3) := by decide +kernel
theorem dX2_move_170 : decode cX2_move 170 = .ok (.iconst 3, 1) := by decide +kernel
theorem dX2_move_171 : decode cX2_move 171 = .ok (.goto 4, 3) := by decide +kernel
theorem dX2_move_174 : decode cX2_move 174 = .ok (.iconst 0, 1) := by decide +kernel
theorem dX2_move_175 : decode cX2_move 175 = .ok (.invokevirtual 77, 3) := by decide +kernel
theorem dX2_move_178 : decode cX2_move 178 = .ok (.ifCond .ne 13, 3) := by decide +kernel
theorem dX2_move_181 : decode cX2_move 181 = .ok (.aload_n 0, 1) := by decide +kernel
theorem dX2_move_182 : decode cX2_move 182 = .ok (.iload_n 1, 1) := by decide +kernel
theorem dX2_move_183 : decode cX2_move 183 = .ok (.iload_n 2, 1) := by decide +kernel
theorem dX2_move_184 : decode cX2_move 184 = .ok (.iload_n 3, 1) := by decide +kernel
theorem dX2_move_185 : decode cX2_move 185 = .ok (.invokevirtual 87, 3) := by decide +kernel
theorem dX2_move_188 : decode cX2_move 188 = .ok (.ifCond .ne 5, 3) := by decide +kernel
theorem dX2_move_191 : decode cX2_move 191 = .ok (.iconst 0, 1) := by decide +kernel
theorem dX2_move_192 : decode cX2_move 192 = .ok (.ireturn, 1) := by decide +kernel
theorem dX2_move_193 : decode cX2_move 193 = .ok (.aload_n 0, 1) := by decide +kernel
theorem dX2_move_194 : decode cX2_move 194 = .ok (.getfield 16, 3) := by decide +kernel
theorem dX2_move_197 : decode cX2_move 197 = .ok (.iload_n 3, 1) := by decide +kernel
theorem dX2_move_198 : decode cX2_move 198 = .ok (.dup2, 1) := by decide +kernel
theorem dX2_move_199 : decode cX2_move 199 = .ok (.iaload, 1) := by decide +kernel
theorem dX2_move_200 : decode cX2_move 200 = .ok (.iload 4, 2) := by decide +kernel
theorem dX2_move_202 : decode cX2_move 202 = .ok (.iadd, 1) := by decide +kernel
theorem dX2_move_203 : decode cX2_move 203 = .ok (.iastore, 1) := by decide +kernel
theorem dX2_move_204 : decode cX2_move 204 = .ok (.aload_n 0, 1) := by decide +kernel
theorem dX2_move_205 : decode cX2_move 205 = .ok (.getfield 22, 3) := by decide +kernel
theorem dX2_move_208 : decode cX2_move 208 = .ok (.iload_n 3, 1) := by decide +kernel
theorem dX2_move_209 : decode cX2_move 209 = .ok (.dup2, 1) := by decide +kernel
theorem dX2_move_210 : decode cX2_move 210 = .ok (.iaload, 1) := by decide +kernel
theorem dX2_move_211 : decode cX2_move 211 = .ok (.iload 4, 2) := by decide +kernel
theorem dX2_move_213 : decode cX2_move 213 = .ok (.iadd, 1) := by decide +kernel
theorem dX2_move_214 : decode cX2_move 214 = .ok (.iastore, 1) := by decide +kernel
theorem dX2_move_215 : decode cX2_move 215 = .ok (.aload_n 0, 1) := by decide +kernel
theorem dX2_move_216 : decode cX2_move 216 = .ok (.getfield 19, 3) := by decide +kernel
theorem dX2_move_219 : decode cX2_move 219 = .ok (.iload_n 3, 1) := by decide +kernel
theorem dX2_move_220 : decode cX2_move 220 = .ok (.dup2, 1) := by decide +kernel
theorem dX2_move_221 : decode cX2_move 221 = .ok (.iaload, 1) := by decide +kernel
theorem dX2_move_222 : decode cX2_move 222 = .ok (.iload 5, 2) := by decide +kernel
theorem dX2_move_224 : decode cX2_move 224 = .ok (.iadd, 1) := by decide +kernel
theorem dX2_move_225 : decode cX2_move 225 = .ok (.iastore, 1) := by decide +kernel
theorem dX2_move_226 : decode cX2_move 226 = .ok (.aload_n 0, 1) := by decide +kernel
theorem dX2_move_227 : decode cX2_move 227 = .ok (.getfield 25, 3) := by decide +kernel
theorem dX2_move_230 : decode cX2_move 230 = .ok (.iload_n 3, 1) := by decide +kernel
theorem dX2_move_231 : decode cX2_move 231 = .ok (.dup2, 1) := by decide +kernel
theorem dX2_move_232 : decode cX2_move 232 = .ok (.iaload, 1) := by decide +kernel
theorem dX2_move_233 : decode cX2_move 233 = .ok (.iload 5, 2) := by decide +kernel
theorem dX2_move_235 : decode cX2_move 235 = .ok (.iadd, 1) := by decide +kernel
theorem dX2_move_236 : decode cX2_move 236 = .ok (.iastore, 1) := by decide +kernel
theorem dX2_move_237 : decode cX2_move 237 = .ok (.aload_n 0, 1) := by decide +kernel
theorem dX2_move_238 : decode cX2_move 238 = .ok (.iload_n 3, 1) := by decide +kernel
theorem dX2_move_239 : decode cX2_move 239 = .ok (.iload_n 1, 1) := by decide +kernel
theorem dX2_move_240 : decode cX2_move 240 = .ok (.invokevirtual 80, 3) := by decide +kernel
theorem dX2_move_243 : decode cX2_move 243 = .ok (.iconst 1, 1) := by decide +kernel
theorem dX2_move_244 : decode cX2_move 244 = .ok (.ireturn, 1) := by decide +kernel
set_option maxRecDepth 20000 in
theorem ggX2_remove_X2_isTrade : GoodIn wsX2_remove wsX2_isTrade := goodIn_r _ [6, 7, 8, 5, 9] (by decide +kernel) (by decide +kernel)
set_option maxRecDepth 20000 in
theorem gX2_remove_X2_isTrade : GoodIn wsX2_remove (va_wsS RX2 67 yX2_isTrade wsX2_isTrade) := goodIn_app (goodIn_of _ (by decide +kernel)) ggX2_remove_X2_isTrade
set_option maxRecDepth 20000 in
theorem ggX2_remove_X2_isElement : GoodIn wsX2_remove wsX2_isElement := goodIn_r _ [13, 14, 7, 8, 5, 9, 26, 27, 28, 29, 30, 31, 32, 33, 34, 35, 36, 37, 38, 39, 40, 41, 42, 43] (by decide +kernel) (by decide +kernel)
set_option maxRecDepth 20000 in
theorem gX2_remove_X2_isElement : GoodIn wsX2_remove (wsV RX2 84 RX2 yX2_isElement wsX2_isElement) := goodIn_app (goodIn_of _ (by decide +kernel)) ggX2_remove_X2_isElement
set_option maxRecDepth 20000 in
theorem ggX2_remove_X2_in : GoodIn wsX2_remove wsX2_in := goodIn_r _ [9] (by decide +kernel) (by decide +kernel)
set_option maxRecDepth 20000 in
theorem gX2_remove_X2_in : GoodIn wsX2_remove (va_wsS RX2 57 yX2_in wsX2_in) := goodIn_app (goodIn_of _ (by decide +kernel)) ggX2_remove_X2_in
set_option maxRecDepth 20000 in
theorem ggX2_remove_X2_refused : GoodIn wsX2_remove wsX2_refused := goodIn_r _ [18, 19, 26, 27, 28, 29, 30, 31, 32, 33, 34, 35, 36, 37, 38, 39, 40, 41, 42, 43] (by decide +kernel) (by decide +kernel)
set_option maxRecDepth 20000 in
theorem gX2_remove_X2_refused : GoodIn wsX2_remove (wsV RX2 77 RX2 yX2_refused wsX2_refused) := goodIn_app (goodIn_of _ (by decide +kernel)) ggX2_remove_X2_refused
set_option maxRecDepth 20000 in
theorem ggX2_remove_X2_change : GoodIn wsX2_remove wsX2_change := goodIn_r _ [23, 1, 24, 25, 26, 27, 28, 29, 30, 31, 32, 33, 34, 35, 36, 37, 38, 39, 40, 41, 42, 43] (by decide +kernel) (by decide +kernel)
set_option maxRecDepth 20000 in
theorem gX2_remove_X2_change : GoodIn wsX2_remove (wsV RX2 80 RX2 yX2_change wsX2_change) := goodIn_app (goodIn_of _ (by decide +kernel)) ggX2_remove_X2_change
theorem dX2_remove_0 : decode cX2_remove 0 = .ok (.iload_n 1, 1) := by decide +kernel
theorem dX2_remove_1 : decode cX2_remove 1 = .ok (.invokestatic 67, 3) := by decide +kernel
theorem dX2_remove_4 : decode cX2_remove 4 = .ok (.ifCond .eq 15, 3) := by decide +kernel
theorem dX2_remove_7 : decode cX2_remove 7 = .ok (.aload_n 0, 1) := by decide +kernel
theorem dX2_remove_8 : decode cX2_remove 8 = .ok (.iload_n 3, 1) := by decide +kernel
theorem dX2_remove_9 : decode cX2_remove 9 = .ok (.invokevirtual 84, 3) := by decide +kernel
theorem dX2_remove_12 : decode cX2_remove 12 = .ok (.ifCond .eq 7, 3) := by decide +kernel
theorem dX2_remove_15 : decode cX2_remove 15 = .ok (.iconst 1, 1) := by decide +kernel
theorem dX2_remove_16 : decode cX2_remove 16 = .ok (.goto 4, 3) := by decide +kernel
theorem dX2_remove_19 : decode cX2_remove 19 = .ok (.iconst 0, 1) := by decide +kernel
theorem dX2_remove_20 : decode cX2_remove 20 = .ok (.istore 4, 2) := by decide +kernel
theorem dX2_remove_22 : decode cX2_remove 22 = .ok (.aload_n 0, 1) := by decide +kernel
theorem dX2_remove_23 : decode cX2_remove 23 = .ok (.iload 4, 2) := by decide +kernel
theorem dX2_remove_25 : decode cX2_remove 25 = .ok (.ifCond .ne 7, 3) := by decide +kernel
theorem dX2_remove_28 : decode cX2_remove 28 = .ok (.iconst 1, 1) := by decide +kernel
theorem dX2_remove_29 : decode cX2_remove 29 = .ok (.goto 33, 3) := by decide +kernel
theorem dX2_remove_32 : decode cX2_remove 32 = .ok (.iload_n 2, 1) := by decide +kernel
theorem dX2_remove_33 : decode cX2_remove 33 = .ok (.iconst 0, 1) := by decide +kernel
theorem dX2_remove_34 : decode cX2_remove 34 = .ok (.aload_n 0, 1) := by decide +kernel
theorem dX2_remove_35 : decode cX2_remove 35 = .ok (.getfield 64, 3) := by decide +kernel
theorem dX2_remove_38 : decode cX2_remove 38 = .ok (.invokestatic 57, 3) := by decide +kernel
theorem dX2_remove_41 : decode cX2_remove 41 = .ok (.ifCond .ne 7, 3) := by decide +kernel
theorem dX2_remove_44 : decode cX2_remove 44 = .ok (.iconst 2, 1) := by decide +kernel
theorem dX2_remove_45 : decode cX2_remove 45 = .ok (.goto 17, 3) := by decide +kernel
theorem dX2_remove_48 : decode cX2_remove 48 = .ok (.aload_n 0, 1) := by decide +kernel
theorem dX2_remove_49 : decode cX2_remove 49 = .ok (.getfield 28, 3) := by decide +kernel
theorem dX2_remove_52 : decode cX2_remove 52 = .ok (.iload_n 3, 1) := by decide +kernel
theorem dX2_remove_53 : decode cX2_remove 53 = .ok (.iaload, 1) := by decide +kernel
theorem dX2_remove_54 : decode cX2_remove 54 = .ok (.ifCond .eq 7, 3) := by decide +kernel
theorem dX2_remove_57 : decode cX2_remove 57 = .ok (.iconst 3, 1) := by decide +kernel
theorem dX2_remove_58 : decode cX2_remove 58 = .ok (.goto 4, 3) := by decide +kernel
theorem dX2_remove_61 : decode cX2_remove 61 = .ok (.iconst 0, 1) := by decide +kernel
theorem dX2_remove_62 : decode cX2_remove 62 = .ok (.invokevirtual 77, 3) := by decide +kernel
theorem dX2_remove_65 : decode cX2_remove 65 = .ok (.ifCond .eq 5, 3) := by decide +kernel
theorem dX2_remove_68 : decode cX2_remove 68 = .ok (.iconst 0, 1) := by decide +kernel
theorem dX2_remove_69 : decode cX2_remove 69 = .ok (.ireturn, 1) := by decide +kernel
theorem dX2_remove_70 : decode cX2_remove 70 = .ok (.aload_n 0, 1) := by decide +kernel
theorem dX2_remove_71 : decode cX2_remove 71 = .ok (.getfield 28, 3) := by decide +kernel
theorem dX2_remove_74 : decode cX2_remove 74 = .ok (.iload_n 3, 1) := by decide +kernel
theorem dX2_remove_75 : decode cX2_remove 75 = .ok (.iconst 4, 1) := by decide +kernel
theorem dX2_remove_76 : decode cX2_remove 76 = .ok (.iastore, 1) := by decide +kernel
theorem dX2_remove_77 : decode cX2_remove 77 = .ok (.aload_n 0, 1) := by decide +kernel
theorem dX2_remove_78 : decode cX2_remove 78 = .ok (.iload_n 3, 1) := by decide +kernel
theorem dX2_remove_79 : decode cX2_remove 79 = .ok (.iload_n 1, 1) := by decide +kernel
theorem dX2_remove_80 : decode cX2_remove 80 = .ok (.invokevirtual 80, 3) := by decide +kernel
theorem dX2_remove_83 : decode cX2_remove 83 = .ok (.iconst 1, 1) := by decide +kernel
theorem dX2_remove_84 : decode cX2_remove 84 = .ok (.ireturn, 1) := by decide +kernel
set_option maxRecDepth 20000 in
theorem ggX2_clear_X2_isTrade : GoodIn wsX2_clear wsX2_isTrade := goodIn_r _ [5, 6, 7, 4, 8] (by decide +kernel) (by decide +kernel)
set_option maxRecDepth 20000 in
theorem gX2_clear_X2_isTrade : GoodIn wsX2_clear (va_wsS RX2 67 yX2_isTrade wsX2_isTrade) := goodIn_app (goodIn_of _ (by decide +kernel)) ggX2_clear_X2_isTrade
set_option maxRecDepth 20000 in
theorem ggX2_clear_X2_in : GoodIn wsX2_clear wsX2_in := goodIn_r _ [8] (by decide +kernel) (by decide +kernel)
set_option maxRecDepth 20000 in
theorem gX2_clear_X2_in : GoodIn wsX2_clear (va_wsS RX2 57 yX2_in wsX2_in) := goodIn_app (goodIn_of _ (by decide +kernel)) ggX2_clear_X2_in
set_option maxRecDepth 20000 in
theorem ggX2_clear_X2_refused : GoodIn wsX2_clear wsX2_refused := goodIn_r _ [12, 13, 14, 15, 16, 17, 18, 19, 20, 21, 22, 23, 24, 25, 26, 27, 28, 29, 30, 31] (by decide +kernel) (by decide +kernel)
set_option maxRecDepth 20000 in
theorem gX2_clear_X2_refused : GoodIn wsX2_clear (wsV RX2 77 RX2 yX2_refused wsX2_refused) := goodIn_app (goodIn_of _ (by decide +kernel)) ggX2_clear_X2_refused
theorem dX2_clear_0 : decode cX2_clear 0 = .ok (.iload_n 1, 1) := by decide +kernel
theorem dX2_clear_1 : decode cX2_clear 1 = .ok (.invokestatic 67, 3) := by decide +kernel
theorem dX2_clear_4 : decode cX2_clear 4 = .ok (.ifCond .eq 14, 3) := by decide +kernel
theorem dX2_clear_7 : decode cX2_clear 7 = .ok (.iload_n 2, 1) := by decide +kernel
theorem dX2_clear_8 : decode cX2_clear 8 = .ok (.invokestatic 67, 3) := by decide +kernel
theorem dX2_clear_11 : decode cX2_clear 11 = .ok (.ifCond .eq 7, 3) := by decide +kernel
theorem dX2_clear_14 : decode cX2_clear 14 = .ok (.iconst 1, 1) := by decide +kernel
theorem dX2_clear_15 : decode cX2_clear 15 = .ok (.goto 4, 3) := by decide +kernel
theorem dX2_clear_18 : decode cX2_clear 18 = .ok (.iconst 0, 1) := by decide +kernel
theorem dX2_clear_19 : decode cX2_clear 19 = .ok (.istore 4, 2) := by decide +kernel
theorem dX2_clear_21 : decode cX2_clear 21 = .ok (.aload_n 0, 1) := by decide +kernel
theorem dX2_clear_22 : decode cX2_clear 22 = .ok (.iload 4, 2) := by decide +kernel
theorem dX2_clear_24 : decode cX2_clear 24 = .ok (.ifCond .ne 7, 3) := by decide +kernel
theorem dX2_clear_27 : decode cX2_clear 27 = .ok (.iconst 1, 1) := by decide +kernel
theorem dX2_clear_28 : decode cX2_clear 28 = .ok (.goto 17, 3) := by decide +kernel
theorem dX2_clear_31 : decode cX2_clear 31 = .ok (.iload_n 3, 1) := by decide +kernel
theorem dX2_clear_32 : decode cX2_clear 32 = .ok (.iconst 0, 1) := by decide +kernel
theorem dX2_clear_33 : decode cX2_clear 33 = .ok (.iconst 3, 1) := by decide +kernel
theorem dX2_clear_34 : decode cX2_clear 34 = .ok (.invokestatic 57, 3) := by decide +kernel
theorem dX2_clear_37 : decode cX2_clear 37 = .ok (.ifCond .ne 7, 3) := by decide +kernel
theorem dX2_clear_40 : decode cX2_clear 40 = .ok (.iconst 2, 1) := by decide +kernel
theorem dX2_clear_41 : decode cX2_clear 41 = .ok (.goto 4, 3) := by decide +kernel
theorem dX2_clear_44 : decode cX2_clear 44 = .ok (.iconst 0, 1) := by decide +kernel
theorem dX2_clear_45 : decode cX2_clear 45 = .ok (.invokevirtual 77, 3) := by decide +kernel
theorem dX2_clear_48 : decode cX2_clear 48 = .ok (.ifCond .eq 5, 3) := by decide +kernel
theorem dX2_clear_51 : decode cX2_clear 51 = .ok (.iconst 0, 1) := by decide +kernel
theorem dX2_clear_52 : decode cX2_clear 52 = .ok (.ireturn, 1) := by decide +kernel
theorem dX2_clear_53 : decode cX2_clear 53 = .ok (.aload_n 0, 1) := by decide +kernel
theorem dX2_clear_54 : decode cX2_clear 54 = .ok (.getfield 40, 3) := by decide +kernel
theorem dX2_clear_57 : decode cX2_clear 57 = .ok (.iconst 3, 1) := by decide +kernel
theorem dX2_clear_58 : decode cX2_clear 58 = .ok (.iload_n 1, 1) := by decide +kernel
theorem dX2_clear_59 : decode cX2_clear 59 = .ok (.imul, 1) := by decide +kernel
theorem dX2_clear_60 : decode cX2_clear 60 = .ok (.iload_n 2, 1) := by decide +kernel
theorem dX2_clear_61 : decode cX2_clear 61 = .ok (.iadd, 1) := by decide +kernel
theorem dX2_clear_62 : decode cX2_clear 62 = .ok (.iaload, 1) := by decide +kernel
theorem dX2_clear_63 : decode cX2_clear 63 = .ok (.istore 5, 2) := by decide +kernel
theorem dX2_clear_65 : decode cX2_clear 65 = .ok (.aload_n 0, 1) := by decide +kernel
theorem dX2_clear_66 : decode cX2_clear 66 = .ok (.getfield 40, 3) := by decide +kernel
theorem dX2_clear_69 : decode cX2_clear 69 = .ok (.iconst 3, 1) := by decide +kernel
theorem dX2_clear_70 : decode cX2_clear 70 = .ok (.iload_n 1, 1) := by decide +kernel
theorem dX2_clear_71 : decode cX2_clear 71 = .ok (.imul, 1) := by decide +kernel
theorem dX2_clear_72 : decode cX2_clear 72 = .ok (.iload_n 2, 1) := by decide +kernel
theorem dX2_clear_73 : decode cX2_clear 73 = .ok (.iadd, 1) := by decide +kernel
theorem dX2_clear_74 : decode cX2_clear 74 = .ok (.iload_n 3, 1) := by decide +kernel
theorem dX2_clear_75 : decode cX2_clear 75 = .ok (.iastore, 1) := by decide +kernel
theorem dX2_clear_76 : decode cX2_clear 76 = .ok (.aload_n 0, 1) := by decide +kernel
theorem dX2_clear_77 : decode cX2_clear 77 = .ok (.getfield 40, 3) := by decide +kernel
theorem dX2_clear_80 : decode cX2_clear 80 = .ok (.iconst 3, 1) := by decide +kernel
theorem dX2_clear_81 : decode cX2_clear 81 = .ok (.iload_n 2, 1) := by decide +kernel
theorem dX2_clear_82 : decode cX2_clear 82 = .ok (.imul, 1) := by decide +kernel
theorem dX2_clear_83 : decode cX2_clear 83 = .ok (.iload_n 1, 1) := by decide +kernel
theorem dX2_clear_84 : decode cX2_clear 84 = .ok (.iadd, 1) := by decide +kernel
theorem dX2_clear_85 : decode cX2_clear 85 = .ok (.iload_n 3, 1) := by decide +kernel
theorem dX2_clear_86 : decode cX2_clear 86 = .ok (.iastore, 1) := by decide +kernel
theorem dX2_clear_87 : decode cX2_clear 87 = .ok (.iload 5, 2) := by decide +kernel
theorem dX2_clear_89 : decode cX2_clear 89 = .ok (.ireturn, 1) := by decide +kernel
set_option maxRecDepth 20000 in
theorem ggX2_part_X2_isTrade : GoodIn wsX2_part wsX2_isTrade := goodIn_r _ [5, 6, 7, 4, 8] (by decide +kernel) (by decide +kernel)
set_option maxRecDepth 20000 in
theorem gX2_part_X2_isTrade : GoodIn wsX2_part (va_wsS RX2 67 yX2_isTrade wsX2_isTrade) := goodIn_app (goodIn_of _ (by decide +kernel)) ggX2_part_X2_isTrade
set_option maxRecDepth 20000 in
theorem ggX2_part_X2_in : GoodIn wsX2_part wsX2_in := goodIn_r _ [8] (by decide +kernel) (by decide +kernel)
set_option maxRecDepth 20000 in
theorem gX2_part_X2_in : GoodIn wsX2_part (va_wsS RX2 57 yX2_in wsX2_in) := goodIn_app (goodIn_of _ (by decide +kernel)) ggX2_part_X2_in
set_option maxRecDepth 20000 in
theorem ggX2_part_X2_refused : GoodIn wsX2_part wsX2_refused := goodIn_r _ [12, 13, 14, 15, 16, 17, 18, 19, 20, 21, 22, 23, 24, 25, 26, 27, 28, 29, 30, 31] (by decide +kernel) (by decide +kernel)
set_option maxRecDepth 20000 in
theorem gX2_part_X2_refused : GoodIn wsX2_part (wsV RX2 77 RX2 yX2_refused wsX2_refused) := goodIn_app (goodIn_of _ (by decide +kernel)) ggX2_part_X2_refused
theorem dX2_part_0 : decode cX2_part 0 = .ok (.aload_n 0, 1) := by decide +kernel
theorem dX2_part_1 : decode cX2_part 1 = .ok (.iload_n 1, 1) := by decide +kernel
theorem dX2_part_2 : decode cX2_part 2 = .ok (.invokestatic 67, 3) := by decide +kernel
theorem dX2_part_5 : decode cX2_part 5 = .ok (.ifCond .ne 7, 3) := by decide +kernel
theorem dX2_part_8 : decode cX2_part 8 = .ok (.iconst 1, 1) := by decide +kernel
theorem dX2_part_9 : decode cX2_part 9 = .ok (.goto 18, 3) := by decide +kernel
theorem dX2_part_12 : decode cX2_part 12 = .ok (.iload_n 2, 1) := by decide +kernel
theorem dX2_part_13 : decode cX2_part 13 = .ok (.iconst 1, 1) := by decide +kernel
theorem dX2_part_14 : decode cX2_part 14 = .ok (.bipush 12, 2) := by decide +kernel
theorem dX2_part_16 : decode cX2_part 16 = .ok (.invokestatic 57, 3) := by decide +kernel
theorem dX2_part_19 : decode cX2_part 19 = .ok (.ifCond .ne 7, 3) := by decide +kernel
theorem dX2_part_22 : decode cX2_part 22 = .ok (.iconst 2, 1) := by decide +kernel
theorem dX2_part_23 : decode cX2_part 23 = .ok (.goto 4, 3) := by decide +kernel
theorem dX2_part_26 : decode cX2_part 26 = .ok (.iconst 0, 1) := by decide +kernel
theorem dX2_part_27 : decode cX2_part 27 = .ok (.invokevirtual 77, 3) := by decide +kernel
theorem dX2_part_30 : decode cX2_part 30 = .ok (.ifCond .eq 5, 3) := by decide +kernel
theorem dX2_part_33 : decode cX2_part 33 = .ok (.iconst 0, 1) := by decide +kernel
theorem dX2_part_34 : decode cX2_part 34 = .ok (.ireturn, 1) := by decide +kernel
theorem dX2_part_35 : decode cX2_part 35 = .ok (.aload_n 0, 1) := by decide +kernel
theorem dX2_part_36 : decode cX2_part 36 = .ok (.getfield 43, 3) := by decide +kernel
theorem dX2_part_39 : decode cX2_part 39 = .ok (.iload_n 1, 1) := by decide +kernel
theorem dX2_part_40 : decode cX2_part 40 = .ok (.iaload, 1) := by decide +kernel
theorem dX2_part_41 : decode cX2_part 41 = .ok (.istore_n 3, 1) := by decide +kernel
theorem dX2_part_42 : decode cX2_part 42 = .ok (.aload_n 0, 1) := by decide +kernel
theorem dX2_part_43 : decode cX2_part 43 = .ok (.getfield 43, 3) := by decide +kernel
theorem dX2_part_46 : decode cX2_part 46 = .ok (.iload_n 1, 1) := by decide +kernel
theorem dX2_part_47 : decode cX2_part 47 = .ok (.iload_n 2, 1) := by decide +kernel
theorem dX2_part_48 : decode cX2_part 48 = .ok (.iastore, 1) := by decide +kernel
theorem dX2_part_49 : decode cX2_part 49 = .ok (.iload_n 3, 1) := by decide +kernel
theorem dX2_part_50 : decode cX2_part 50 = .ok (.ireturn, 1) := by decide +kernel
set_option maxRecDepth 20000 in
theorem ggX2_lead_X2_isTrade : GoodIn wsX2_lead wsX2_isTrade := goodIn_r _ [5, 6, 7, 4, 8] (by decide +kernel) (by decide +kernel)
set_option maxRecDepth 20000 in
theorem gX2_lead_X2_isTrade : GoodIn wsX2_lead (va_wsS RX2 67 yX2_isTrade wsX2_isTrade) := goodIn_app (goodIn_of _ (by decide +kernel)) ggX2_lead_X2_isTrade
set_option maxRecDepth 20000 in
theorem ggX2_lead_X2_in : GoodIn wsX2_lead wsX2_in := goodIn_r _ [8] (by decide +kernel) (by decide +kernel)
set_option maxRecDepth 20000 in
theorem gX2_lead_X2_in : GoodIn wsX2_lead (va_wsS RX2 57 yX2_in wsX2_in) := goodIn_app (goodIn_of _ (by decide +kernel)) ggX2_lead_X2_in
set_option maxRecDepth 20000 in
theorem ggX2_lead_X2_refused : GoodIn wsX2_lead wsX2_refused := goodIn_r _ [12, 13, 14, 15, 16, 17, 18, 19, 20, 21, 22, 23, 24, 25, 26, 27, 28, 29, 30, 31] (by decide +kernel) (by decide +kernel)
set_option maxRecDepth 20000 in
theorem gX2_lead_X2_refused : GoodIn wsX2_lead (wsV RX2 77 RX2 yX2_refused wsX2_refused) := goodIn_app (goodIn_of _ (by decide +kernel)) ggX2_lead_X2_refused
theorem dX2_lead_0 : decode cX2_lead 0 = .ok (.aload_n 0, 1) := by decide +kernel
theorem dX2_lead_1 : decode cX2_lead 1 = .ok (.iload_n 1, 1) := by decide +kernel
theorem dX2_lead_2 : decode cX2_lead 2 = .ok (.invokestatic 67, 3) := by decide +kernel
theorem dX2_lead_5 : decode cX2_lead 5 = .ok (.ifCond .ne 7, 3) := by decide +kernel
theorem dX2_lead_8 : decode cX2_lead 8 = .ok (.iconst 1, 1) := by decide +kernel
theorem dX2_lead_9 : decode cX2_lead 9 = .ok (.goto 18, 3) := by decide +kernel
theorem dX2_lead_12 : decode cX2_lead 12 = .ok (.iload_n 2, 1) := by decide +kernel
theorem dX2_lead_13 : decode cX2_lead 13 = .ok (.iconst 0, 1) := by decide +kernel
theorem dX2_lead_14 : decode cX2_lead 14 = .ok (.bipush 100, 2) := by decide +kernel
theorem dX2_lead_16 : decode cX2_lead 16 = .ok (.invokestatic 57, 3) := by decide +kernel
theorem dX2_lead_19 : decode cX2_lead 19 = .ok (.ifCond .ne 7, 3) := by decide +kernel
theorem dX2_lead_22 : decode cX2_lead 22 = .ok (.iconst 2, 1) := by decide +kernel
theorem dX2_lead_23 : decode cX2_lead 23 = .ok (.goto 4, 3) := by decide +kernel
theorem dX2_lead_26 : decode cX2_lead 26 = .ok (.iconst 0, 1) := by decide +kernel
theorem dX2_lead_27 : decode cX2_lead 27 = .ok (.invokevirtual 77, 3) := by decide +kernel
theorem dX2_lead_30 : decode cX2_lead 30 = .ok (.ifCond .eq 5, 3) := by decide +kernel
theorem dX2_lead_33 : decode cX2_lead 33 = .ok (.iconst 0, 1) := by decide +kernel
theorem dX2_lead_34 : decode cX2_lead 34 = .ok (.ireturn, 1) := by decide +kernel
theorem dX2_lead_35 : decode cX2_lead 35 = .ok (.aload_n 0, 1) := by decide +kernel
theorem dX2_lead_36 : decode cX2_lead 36 = .ok (.getfield 46, 3) := by decide +kernel
theorem dX2_lead_39 : decode cX2_lead 39 = .ok (.iload_n 1, 1) := by decide +kernel
theorem dX2_lead_40 : decode cX2_lead 40 = .ok (.iaload, 1) := by decide +kernel
theorem dX2_lead_41 : decode cX2_lead 41 = .ok (.istore_n 3, 1) := by decide +kernel
theorem dX2_lead_42 : decode cX2_lead 42 = .ok (.aload_n 0, 1) := by decide +kernel
theorem dX2_lead_43 : decode cX2_lead 43 = .ok (.getfield 46, 3) := by decide +kernel
theorem dX2_lead_46 : decode cX2_lead 46 = .ok (.iload_n 1, 1) := by decide +kernel
theorem dX2_lead_47 : decode cX2_lead 47 = .ok (.iload_n 2, 1) := by decide +kernel
theorem dX2_lead_48 : decode cX2_lead 48 = .ok (.iastore, 1) := by decide +kernel
theorem dX2_lead_49 : decode cX2_lead 49 = .ok (.iload_n 3, 1) := by decide +kernel
theorem dX2_lead_50 : decode cX2_lead 50 = .ok (.ireturn, 1) := by decide +kernel
set_option maxRecDepth 20000 in
theorem ggX2_cellsOf_X2_size : GoodIn wsX2_cellsOf wsX2_size := goodIn_r _ [8] (by decide +kernel) (by decide +kernel)
set_option maxRecDepth 20000 in
theorem gX2_cellsOf_X2_size : GoodIn wsX2_cellsOf (va_wsS RX2 90 yX2_size wsX2_size) := goodIn_app (goodIn_of _ (by decide +kernel)) ggX2_cellsOf_X2_size
theorem dX2_cellsOf_0 : decode cX2_cellsOf 0 = .ok (.iconst 1, 1) := by decide +kernel
theorem dX2_cellsOf_1 : decode cX2_cellsOf 1 = .ok (.aload_n 0, 1) := by decide +kernel
theorem dX2_cellsOf_2 : decode cX2_cellsOf 2 = .ok (.getfield 22, 3) := by decide +kernel
theorem dX2_cellsOf_5 : decode cX2_cellsOf 5 = .ok (.iload_n 1, 1) := by decide +kernel
theorem dX2_cellsOf_6 : decode cX2_cellsOf 6 = .ok (.iaload, 1) := by decide +kernel
theorem dX2_cellsOf_7 : decode cX2_cellsOf 7 = .ok (.aload_n 0, 1) := by decide +kernel
theorem dX2_cellsOf_8 : decode cX2_cellsOf 8 = .ok (.getfield 16, 3) := by decide +kernel
theorem dX2_cellsOf_11 : decode cX2_cellsOf 11 = .ok (.iload_n 1, 1) := by decide +kernel
theorem dX2_cellsOf_12 : decode cX2_cellsOf 12 = .ok (.iaload, 1) := by decide +kernel
theorem dX2_cellsOf_13 : decode cX2_cellsOf 13 = .ok (.isub, 1) := by decide +kernel
theorem dX2_cellsOf_14 : decode cX2_cellsOf 14 = .ok (.invokestatic 90, 3) := by decide +kernel
theorem dX2_cellsOf_17 : decode cX2_cellsOf 17 = .ok (.iadd, 1) := by decide +kernel
theorem dX2_cellsOf_18 : decode cX2_cellsOf 18 = .ok (.aload_n 0, 1) := by decide +kernel
theorem dX2_cellsOf_19 : decode cX2_cellsOf 19 = .ok (.getfield 25, 3) := by decide +kernel
theorem dX2_cellsOf_22 : decode cX2_cellsOf 22 = .ok (.iload_n 1, 1) := by decide +kernel
theorem dX2_cellsOf_23 : decode cX2_cellsOf 23 = .ok (.iaload, 1) := by decide +kernel
theorem dX2_cellsOf_24 : decode cX2_cellsOf 24 = .ok (.aload_n 0, 1) := by decide +kernel
theorem dX2_cellsOf_25 : decode cX2_cellsOf 25 = .ok (.getfield 19, 3) := by decide +kernel
theorem dX2_cellsOf_28 : decode cX2_cellsOf 28 = .ok (.iload_n 1, 1) := by decide +kernel
theorem dX2_cellsOf_29 : decode cX2_cellsOf 29 = .ok (.iaload, 1) := by decide +kernel
theorem dX2_cellsOf_30 : decode cX2_cellsOf 30 = .ok (.isub, 1) := by decide +kernel
theorem dX2_cellsOf_31 : decode cX2_cellsOf 31 = .ok (.invokestatic 90, 3) := by decide +kernel
theorem dX2_cellsOf_34 : decode cX2_cellsOf 34 = .ok (.iadd, 1) := by decide +kernel
theorem dX2_cellsOf_35 : decode cX2_cellsOf 35 = .ok (.ireturn, 1) := by decide +kernel
set_option maxRecDepth 20000 in
theorem ggX2_partsOf_X2_cellsOf : GoodIn wsX2_partsOf wsX2_cellsOf := goodIn_r _ [7, 8, 9, 10, 11, 12, 13, 6, 14, 15, 16, 17, 18, 19, 20, 21, 22, 23, 24, 25, 26, 27, 28, 29, 30, 31, 32] (by decide +kernel) (by decide +kernel)
set_option maxRecDepth 20000 in
theorem gX2_partsOf_X2_cellsOf : GoodIn wsX2_partsOf (wsV RX2 94 RX2 yX2_cellsOf wsX2_cellsOf) := goodIn_app (goodIn_of _ (by decide +kernel)) ggX2_partsOf_X2_cellsOf
theorem dX2_partsOf_0 : decode cX2_partsOf 0 = .ok (.aload_n 0, 1) := by decide +kernel
theorem dX2_partsOf_1 : decode cX2_partsOf 1 = .ok (.iload_n 1, 1) := by decide +kernel
theorem dX2_partsOf_2 : decode cX2_partsOf 2 = .ok (.invokevirtual 94, 3) := by decide +kernel
theorem dX2_partsOf_5 : decode cX2_partsOf 5 = .ok (.aload_n 0, 1) := by decide +kernel
theorem dX2_partsOf_6 : decode cX2_partsOf 6 = .ok (.getfield 43, 3) := by decide +kernel
theorem dX2_partsOf_9 : decode cX2_partsOf 9 = .ok (.aload_n 0, 1) := by decide +kernel
theorem dX2_partsOf_10 : decode cX2_partsOf 10 = .ok (.getfield 7, 3) := by decide +kernel
theorem dX2_partsOf_13 : decode cX2_partsOf 13 = .ok (.iload_n 1, 1) := by decide +kernel
theorem dX2_partsOf_14 : decode cX2_partsOf 14 = .ok (.iaload, 1) := by decide +kernel
theorem dX2_partsOf_15 : decode cX2_partsOf 15 = .ok (.iaload, 1) := by decide +kernel
theorem dX2_partsOf_16 : decode cX2_partsOf 16 = .ok (.iadd, 1) := by decide +kernel
theorem dX2_partsOf_17 : decode cX2_partsOf 17 = .ok (.iconst 1, 1) := by decide +kernel
theorem dX2_partsOf_18 : decode cX2_partsOf 18 = .ok (.isub, 1) := by decide +kernel
theorem dX2_partsOf_19 : decode cX2_partsOf 19 = .ok (.aload_n 0, 1) := by decide +kernel
theorem dX2_partsOf_20 : decode cX2_partsOf 20 = .ok (.getfield 43, 3) := by decide +kernel
theorem dX2_partsOf_23 : decode cX2_partsOf 23 = .ok (.aload_n 0, 1) := by decide +kernel
theorem dX2_partsOf_24 : decode cX2_partsOf 24 = .ok (.getfield 7, 3) := by decide +kernel
theorem dX2_partsOf_27 : decode cX2_partsOf 27 = .ok (.iload_n 1, 1) := by decide +kernel
theorem dX2_partsOf_28 : decode cX2_partsOf 28 = .ok (.iaload, 1) := by decide +kernel
theorem dX2_partsOf_29 : decode cX2_partsOf 29 = .ok (.iaload, 1) := by decide +kernel
theorem dX2_partsOf_30 : decode cX2_partsOf 30 = .ok (.idiv, 1) := by decide +kernel
theorem dX2_partsOf_31 : decode cX2_partsOf 31 = .ok (.ireturn, 1) := by decide +kernel
set_option maxRecDepth 20000 in
theorem ggX2_order_X2_isElement : GoodIn wsX2_order wsX2_isElement := goodIn_r _ [10, 11, 12, 13, 9, 14, 36, 37, 38, 39, 40, 41, 42, 43, 44, 45, 46, 47, 48, 49, 50, 51, 52, 53] (by decide +kernel) (by decide +kernel)
set_option maxRecDepth 20000 in
theorem gX2_order_X2_isElement : GoodIn wsX2_order (wsV RX2 84 RX2 yX2_isElement wsX2_isElement) := goodIn_app (goodIn_of _ (by decide +kernel)) ggX2_order_X2_isElement
set_option maxRecDepth 20000 in
theorem ggX2_order_X2_refused : GoodIn wsX2_order wsX2_refused := goodIn_r _ [18, 19, 36, 37, 38, 39, 40, 41, 42, 43, 44, 45, 46, 47, 48, 49, 50, 51, 52, 53] (by decide +kernel) (by decide +kernel)
set_option maxRecDepth 20000 in
theorem gX2_order_X2_refused : GoodIn wsX2_order (wsV RX2 77 RX2 yX2_refused wsX2_refused) := goodIn_app (goodIn_of _ (by decide +kernel)) ggX2_order_X2_refused
set_option maxRecDepth 20000 in
theorem ggX2_order_X2_partsOf : GoodIn wsX2_order wsX2_partsOf := goodIn_r _ [23, 24, 5, 25, 26, 27, 9, 28, 29, 30, 31, 32, 33, 34, 35, 36, 37, 38, 39, 40, 41, 42, 43, 44, 45, 46, 47, 48, 49, 50, 51, 52, 53] (by decide +kernel) (by decide +kernel)
set_option maxRecDepth 20000 in
theorem gX2_order_X2_partsOf : GoodIn wsX2_order (wsV RX2 100 RX2 yX2_partsOf wsX2_partsOf) := goodIn_app (goodIn_of _ (by decide +kernel)) ggX2_order_X2_partsOf
theorem dX2_order_0 : decode cX2_order 0 = .ok (.aload_n 0, 1) := by decide +kernel
theorem dX2_order_1 : decode cX2_order 1 = .ok (.iload_n 1, 1) := by decide +kernel
theorem dX2_order_2 : decode cX2_order 2 = .ok (.invokevirtual 84, 3) := by decide +kernel
theorem dX2_order_5 : decode cX2_order 5 = .ok (.istore_n 2, 1) := by decide +kernel
theorem dX2_order_6 : decode cX2_order 6 = .ok (.aload_n 0, 1) := by decide +kernel
theorem dX2_order_7 : decode cX2_order 7 = .ok (.iload_n 2, 1) := by decide +kernel
theorem dX2_order_8 : decode cX2_order 8 = .ok (.ifCond .ne 7, 3) := by decide +kernel
theorem dX2_order_11 : decode cX2_order 11 = .ok (.iconst 1, 1) := by decide +kernel
theorem dX2_order_12 : decode cX2_order 12 = .ok (.goto 17, 3) := by decide +kernel
theorem dX2_order_15 : decode cX2_order 15 = .ok (.aload_n 0, 1) := by decide +kernel
theorem dX2_order_16 : decode cX2_order 16 = .ok (.getfield 28, 3) := by decide +kernel
theorem dX2_order_19 : decode cX2_order 19 = .ok (.iload_n 1, 1) := by decide +kernel
theorem dX2_order_20 : decode cX2_order 20 = .ok (.iaload, 1) := by decide +kernel
theorem dX2_order_21 : decode cX2_order 21 = .ok (.ifCond .eq 7, 3) := by decide +kernel
theorem dX2_order_24 : decode cX2_order 24 = .ok (.iconst 2, 1) := by decide +kernel
theorem dX2_order_25 : decode cX2_order 25 = .ok (.goto 4, 3) := by decide +kernel
theorem dX2_order_28 : decode cX2_order 28 = .ok (.iconst 0, 1) := by decide +kernel
theorem dX2_order_29 : decode cX2_order 29 = .ok (.invokevirtual 77, 3) := by decide +kernel
theorem dX2_order_32 : decode cX2_order 32 = .ok (.ifCond .eq 5, 3) := by decide +kernel
theorem dX2_order_35 : decode cX2_order 35 = .ok (.iconst 0, 1) := by decide +kernel
theorem dX2_order_36 : decode cX2_order 36 = .ok (.ireturn, 1) := by decide +kernel
theorem dX2_order_37 : decode cX2_order 37 = .ok (.aload_n 0, 1) := by decide +kernel
theorem dX2_order_38 : decode cX2_order 38 = .ok (.getfield 37, 3) := by decide +kernel
theorem dX2_order_41 : decode cX2_order 41 = .ok (.iload_n 1, 1) := by decide +kernel
theorem dX2_order_42 : decode cX2_order 42 = .ok (.aload_n 0, 1) := by decide +kernel
theorem dX2_order_43 : decode cX2_order 43 = .ok (.getfield 97, 3) := by decide +kernel
theorem dX2_order_46 : decode cX2_order 46 = .ok (.aload_n 0, 1) := by decide +kernel
theorem dX2_order_47 : decode cX2_order 47 = .ok (.getfield 46, 3) := by decide +kernel
theorem dX2_order_50 : decode cX2_order 50 = .ok (.aload_n 0, 1) := by decide +kernel
theorem dX2_order_51 : decode cX2_order 51 = .ok (.getfield 7, 3) := by decide +kernel
theorem dX2_order_54 : decode cX2_order 54 = .ok (.iload_n 1, 1) := by decide +kernel
theorem dX2_order_55 : decode cX2_order 55 = .ok (.iaload, 1) := by decide +kernel
theorem dX2_order_56 : decode cX2_order 56 = .ok (.iaload, 1) := by decide +kernel
theorem dX2_order_57 : decode cX2_order 57 = .ok (.iadd, 1) := by decide +kernel
theorem dX2_order_58 : decode cX2_order 58 = .ok (.iastore, 1) := by decide +kernel
theorem dX2_order_59 : decode cX2_order 59 = .ok (.aload_n 0, 1) := by decide +kernel
theorem dX2_order_60 : decode cX2_order 60 = .ok (.getfield 28, 3) := by decide +kernel
theorem dX2_order_63 : decode cX2_order 63 = .ok (.iload_n 1, 1) := by decide +kernel
theorem dX2_order_64 : decode cX2_order 64 = .ok (.aload_n 0, 1) := by decide +kernel
theorem dX2_order_65 : decode cX2_order 65 = .ok (.getfield 37, 3) := by decide +kernel
theorem dX2_order_68 : decode cX2_order 68 = .ok (.iload_n 1, 1) := by decide +kernel
theorem dX2_order_69 : decode cX2_order 69 = .ok (.iaload, 1) := by decide +kernel
theorem dX2_order_70 : decode cX2_order 70 = .ok (.aload_n 0, 1) := by decide +kernel
theorem dX2_order_71 : decode cX2_order 71 = .ok (.getfield 97, 3) := by decide +kernel
theorem dX2_order_74 : decode cX2_order 74 = .ok (.if_icmp .ne 7, 3) := by decide +kernel
theorem dX2_order_77 : decode cX2_order 77 = .ok (.iconst 2, 1) := by decide +kernel
theorem dX2_order_78 : decode cX2_order 78 = .ok (.goto 4, 3) := by decide +kernel
theorem dX2_order_81 : decode cX2_order 81 = .ok (.iconst 1, 1) := by decide +kernel
theorem dX2_order_82 : decode cX2_order 82 = .ok (.iastore, 1) := by decide +kernel
theorem dX2_order_83 : decode cX2_order 83 = .ok (.aload_n 0, 1) := by decide +kernel
theorem dX2_order_84 : decode cX2_order 84 = .ok (.iload_n 1, 1) := by decide +kernel
theorem dX2_order_85 : decode cX2_order 85 = .ok (.invokevirtual 100, 3) := by decide +kernel
theorem dX2_order_88 : decode cX2_order 88 = .ok (.ireturn, 1) := by decide +kernel
set_option maxRecDepth 20000 in
theorem ggX2_cancel_X2_isElement : GoodIn wsX2_cancel wsX2_isElement := goodIn_r _ [8, 9, 10, 11, 7, 12, 18, 19, 20, 21, 22, 23, 24, 25, 26, 27, 28, 29, 30, 31, 32, 33, 34, 35] (by decide +kernel) (by decide +kernel)
set_option maxRecDepth 20000 in
theorem gX2_cancel_X2_isElement : GoodIn wsX2_cancel (wsV RX2 84 RX2 yX2_isElement wsX2_isElement) := goodIn_app (goodIn_of _ (by decide +kernel)) ggX2_cancel_X2_isElement
set_option maxRecDepth 20000 in
theorem ggX2_cancel_X2_refused : GoodIn wsX2_cancel wsX2_refused := goodIn_r _ [16, 17, 18, 19, 20, 21, 22, 23, 24, 25, 26, 27, 28, 29, 30, 31, 32, 33, 34, 35] (by decide +kernel) (by decide +kernel)
set_option maxRecDepth 20000 in
theorem gX2_cancel_X2_refused : GoodIn wsX2_cancel (wsV RX2 77 RX2 yX2_refused wsX2_refused) := goodIn_app (goodIn_of _ (by decide +kernel)) ggX2_cancel_X2_refused
theorem dX2_cancel_0 : decode cX2_cancel 0 = .ok (.aload_n 0, 1) := by decide +kernel
theorem dX2_cancel_1 : decode cX2_cancel 1 = .ok (.iload_n 1, 1) := by decide +kernel
theorem dX2_cancel_2 : decode cX2_cancel 2 = .ok (.invokevirtual 84, 3) := by decide +kernel
theorem dX2_cancel_5 : decode cX2_cancel 5 = .ok (.istore_n 2, 1) := by decide +kernel
theorem dX2_cancel_6 : decode cX2_cancel 6 = .ok (.aload_n 0, 1) := by decide +kernel
theorem dX2_cancel_7 : decode cX2_cancel 7 = .ok (.iload_n 2, 1) := by decide +kernel
theorem dX2_cancel_8 : decode cX2_cancel 8 = .ok (.ifCond .ne 7, 3) := by decide +kernel
theorem dX2_cancel_11 : decode cX2_cancel 11 = .ok (.iconst 1, 1) := by decide +kernel
theorem dX2_cancel_12 : decode cX2_cancel 12 = .ok (.goto 18, 3) := by decide +kernel
theorem dX2_cancel_15 : decode cX2_cancel 15 = .ok (.aload_n 0, 1) := by decide +kernel
theorem dX2_cancel_16 : decode cX2_cancel 16 = .ok (.getfield 28, 3) := by decide +kernel
theorem dX2_cancel_19 : decode cX2_cancel 19 = .ok (.iload_n 1, 1) := by decide +kernel
theorem dX2_cancel_20 : decode cX2_cancel 20 = .ok (.iaload, 1) := by decide +kernel
theorem dX2_cancel_21 : decode cX2_cancel 21 = .ok (.iconst 1, 1) := by decide +kernel
theorem dX2_cancel_22 : decode cX2_cancel 22 = .ok (.if_icmp .eq 7, 3) := by decide +kernel
theorem dX2_cancel_25 : decode cX2_cancel 25 = .ok (.iconst 2, 1) := by decide +kernel
theorem dX2_cancel_26 : decode cX2_cancel 26 = .ok (.goto 4, 3) := by decide +kernel
theorem dX2_cancel_29 : decode cX2_cancel 29 = .ok (.iconst 0, 1) := by decide +kernel
theorem dX2_cancel_30 : decode cX2_cancel 30 = .ok (.invokevirtual 77, 3) := by decide +kernel
theorem dX2_cancel_33 : decode cX2_cancel 33 = .ok (.ifCond .eq 5, 3) := by decide +kernel
theorem dX2_cancel_36 : decode cX2_cancel 36 = .ok (.iconst 0, 1) := by decide +kernel
theorem dX2_cancel_37 : decode cX2_cancel 37 = .ok (.ireturn, 1) := by decide +kernel
theorem dX2_cancel_38 : decode cX2_cancel 38 = .ok (.aload_n 0, 1) := by decide +kernel
theorem dX2_cancel_39 : decode cX2_cancel 39 = .ok (.getfield 28, 3) := by decide +kernel
theorem dX2_cancel_42 : decode cX2_cancel 42 = .ok (.iload_n 1, 1) := by decide +kernel
theorem dX2_cancel_43 : decode cX2_cancel 43 = .ok (.iconst 0, 1) := by decide +kernel
theorem dX2_cancel_44 : decode cX2_cancel 44 = .ok (.iastore, 1) := by decide +kernel
theorem dX2_cancel_45 : decode cX2_cancel 45 = .ok (.aload_n 0, 1) := by decide +kernel
theorem dX2_cancel_46 : decode cX2_cancel 46 = .ok (.getfield 37, 3) := by decide +kernel
theorem dX2_cancel_49 : decode cX2_cancel 49 = .ok (.iload_n 1, 1) := by decide +kernel
theorem dX2_cancel_50 : decode cX2_cancel 50 = .ok (.iaload, 1) := by decide +kernel
theorem dX2_cancel_51 : decode cX2_cancel 51 = .ok (.aload_n 0, 1) := by decide +kernel
theorem dX2_cancel_52 : decode cX2_cancel 52 = .ok (.getfield 97, 3) := by decide +kernel
theorem dX2_cancel_55 : decode cX2_cancel 55 = .ok (.isub, 1) := by decide +kernel
theorem dX2_cancel_56 : decode cX2_cancel 56 = .ok (.ireturn, 1) := by decide +kernel
theorem dX2_gap_0 : decode cX2_gap 0 = .ok (.iload_n 0, 1) := by decide +kernel
theorem dX2_gap_1 : decode cX2_gap 1 = .ok (.iload_n 1, 1) := by decide +kernel
theorem dX2_gap_2 : decode cX2_gap 2 = .ok (.if_icmp .ge 7, 3) := by decide +kernel
theorem dX2_gap_5 : decode cX2_gap 5 = .ok (.iload_n 0, 1) := by decide +kernel
theorem dX2_gap_6 : decode cX2_gap 6 = .ok (.goto 4, 3) := by decide +kernel
theorem dX2_gap_9 : decode cX2_gap 9 = .ok (.iload_n 1, 1) := by decide +kernel
theorem dX2_gap_10 : decode cX2_gap 10 = .ok (.istore 4, 2) := by decide +kernel
theorem dX2_gap_12 : decode cX2_gap 12 = .ok (.iload_n 0, 1) := by decide +kernel
theorem dX2_gap_13 : decode cX2_gap 13 = .ok (.iload_n 1, 1) := by decide +kernel
theorem dX2_gap_14 : decode cX2_gap 14 = .ok (.if_icmp .ge 7, 3) := by decide +kernel
theorem dX2_gap_17 : decode cX2_gap 17 = .ok (.iload_n 1, 1) := by decide +kernel
theorem dX2_gap_18 : decode cX2_gap 18 = .ok (.goto 4, 3) := by decide +kernel
theorem dX2_gap_21 : decode cX2_gap 21 = .ok (.iload_n 0, 1) := by decide +kernel
theorem dX2_gap_22 : decode cX2_gap 22 = .ok (.istore 5, 2) := by decide +kernel
theorem dX2_gap_24 : decode cX2_gap 24 = .ok (.iload_n 2, 1) := by decide +kernel
theorem dX2_gap_25 : decode cX2_gap 25 = .ok (.iload_n 3, 1) := by decide +kernel
theorem dX2_gap_26 : decode cX2_gap 26 = .ok (.if_icmp .ge 7, 3) := by decide +kernel
theorem dX2_gap_29 : decode cX2_gap 29 = .ok (.iload_n 2, 1) := by decide +kernel
theorem dX2_gap_30 : decode cX2_gap 30 = .ok (.goto 4, 3) := by decide +kernel
theorem dX2_gap_33 : decode cX2_gap 33 = .ok (.iload_n 3, 1) := by decide +kernel
theorem dX2_gap_34 : decode cX2_gap 34 = .ok (.istore 6, 2) := by decide +kernel
theorem dX2_gap_36 : decode cX2_gap 36 = .ok (.iload_n 2, 1) := by decide +kernel
theorem dX2_gap_37 : decode cX2_gap 37 = .ok (.iload_n 3, 1) := by decide +kernel
theorem dX2_gap_38 : decode cX2_gap 38 = .ok (.if_icmp .ge 7, 3) := by decide +kernel
theorem dX2_gap_41 : decode cX2_gap 41 = .ok (.iload_n 3, 1) := by decide +kernel
theorem dX2_gap_42 : decode cX2_gap 42 = .ok (.goto 4, 3) := by decide +kernel
theorem dX2_gap_45 : decode cX2_gap 45 = .ok (.iload_n 2, 1) := by decide +kernel
theorem dX2_gap_46 : decode cX2_gap 46 = .ok (.istore 7, 2) := by decide +kernel
theorem dX2_gap_48 : decode cX2_gap 48 = .ok (.iload 6, 2) := by decide +kernel
theorem dX2_gap_50 : decode cX2_gap 50 = .ok (.iload 5, 2) := by decide +kernel
theorem dX2_gap_52 : decode cX2_gap 52 = .ok (.if_icmp .le 11, 3) := by decide +kernel
theorem dX2_gap_55 : decode cX2_gap 55 = .ok (.iload 6, 2) := by decide +kernel
theorem dX2_gap_57 : decode cX2_gap 57 = .ok (.iload 5, 2) := by decide +kernel
theorem dX2_gap_59 : decode cX2_gap 59 = .ok (.isub, 1) := by decide +kernel
theorem dX2_gap_60 : decode cX2_gap 60 = .ok (.goto 19, 3) := by decide +kernel
theorem dX2_gap_63 : decode cX2_gap 63 = .ok (.iload 4, 2) := by decide +kernel
theorem dX2_gap_65 : decode cX2_gap 65 = .ok (.iload 7, 2) := by decide +kernel
theorem dX2_gap_67 : decode cX2_gap 67 = .ok (.if_icmp .le 11, 3) := by decide +kernel
theorem dX2_gap_70 : decode cX2_gap 70 = .ok (.iload 4, 2) := by decide +kernel
theorem dX2_gap_72 : decode cX2_gap 72 = .ok (.iload 7, 2) := by decide +kernel
theorem dX2_gap_74 : decode cX2_gap 74 = .ok (.isub, 1) := by decide +kernel
theorem dX2_gap_75 : decode cX2_gap 75 = .ok (.goto 4, 3) := by decide +kernel
theorem dX2_gap_78 : decode cX2_gap 78 = .ok (.iconst 0, 1) := by decide +kernel
theorem dX2_gap_79 : decode cX2_gap 79 = .ok (.ireturn, 1) := by decide +kernel
set_option maxRecDepth 20000 in
theorem ggX2_doClash_X2_gap : GoodIn wsX2_doClash wsX2_gap := goodIn_r _ [12] (by decide +kernel) (by decide +kernel)
set_option maxRecDepth 20000 in
theorem gX2_doClash_X2_gap : GoodIn wsX2_doClash (va_wsS RX2 103 yX2_gap wsX2_gap) := goodIn_app (goodIn_of _ (by decide +kernel)) ggX2_doClash_X2_gap
theorem dX2_doClash_0 : decode cX2_doClash 0 = .ok (.iload_n 1, 1) := by decide +kernel
theorem dX2_doClash_1 : decode cX2_doClash 1 = .ok (.iload_n 2, 1) := by decide +kernel
theorem dX2_doClash_2 : decode cX2_doClash 2 = .ok (.if_icmp .eq 38, 3) := by decide +kernel
theorem dX2_doClash_5 : decode cX2_doClash 5 = .ok (.aload_n 0, 1) := by decide +kernel
theorem dX2_doClash_6 : decode cX2_doClash 6 = .ok (.getfield 28, 3) := by decide +kernel
theorem dX2_doClash_9 : decode cX2_doClash 9 = .ok (.iload_n 1, 1) := by decide +kernel
theorem dX2_doClash_10 : decode cX2_doClash 10 = .ok (.iaload, 1) := by decide +kernel
theorem dX2_doClash_11 : decode cX2_doClash 11 = .ok (.iconst 4, 1) := by decide +kernel
theorem dX2_doClash_12 : decode cX2_doClash 12 = .ok (.if_icmp .eq 28, 3) := by decide +kernel
theorem dX2_doClash_15 : decode cX2_doClash 15 = .ok (.aload_n 0, 1) := by decide +kernel
theorem dX2_doClash_16 : decode cX2_doClash 16 = .ok (.getfield 28, 3) := by decide +kernel
theorem dX2_doClash_19 : decode cX2_doClash 19 = .ok (.iload_n 2, 1) := by decide +kernel
theorem dX2_doClash_20 : decode cX2_doClash 20 = .ok (.iaload, 1) := by decide +kernel
theorem dX2_doClash_21 : decode cX2_doClash 21 = .ok (.iconst 4, 1) := by decide +kernel
theorem dX2_doClash_22 : decode cX2_doClash 22 = .ok (.if_icmp .eq 18, 3) := by decide +kernel
theorem dX2_doClash_25 : decode cX2_doClash 25 = .ok (.aload_n 0, 1) := by decide +kernel
theorem dX2_doClash_26 : decode cX2_doClash 26 = .ok (.getfield 13, 3) := by decide +kernel
theorem dX2_doClash_29 : decode cX2_doClash 29 = .ok (.iload_n 1, 1) := by decide +kernel
theorem dX2_doClash_30 : decode cX2_doClash 30 = .ok (.iaload, 1) := by decide +kernel
theorem dX2_doClash_31 : decode cX2_doClash 31 = .ok (.aload_n 0, 1) := by decide +kernel
theorem dX2_doClash_32 : decode cX2_doClash 32 = .ok (.getfield 13, 3) := by decide +kernel
theorem dX2_doClash_35 : decode cX2_doClash 35 = .ok (.iload_n 2, 1) := by decide +kernel
theorem dX2_doClash_36 : decode cX2_doClash 36 = .ok (.iaload, 1) := by decide +kernel
theorem dX2_doClash_37 : decode cX2_doClash 37 = .ok (.if_icmp .eq 5, 3) := by decide +kernel
theorem dX2_doClash_40 : decode cX2_doClash 40 = .ok (.iconst 0, 1) := by decide +kernel
theorem dX2_doClash_41 : decode cX2_doClash 41 = .ok (.ireturn, 1) := by decide +kernel
theorem dX2_doClash_42 : decode cX2_doClash 42 = .ok (.aload_n 0, 1) := by decide +kernel
theorem dX2_doClash_43 : decode cX2_doClash 43 = .ok (.getfield 16, 3) := by decide +kernel
theorem dX2_doClash_46 : decode cX2_doClash 46 = .ok (.iload_n 1, 1) := by decide +kernel
theorem dX2_doClash_47 : decode cX2_doClash 47 = .ok (.iaload, 1) := by decide +kernel
theorem dX2_doClash_48 : decode cX2_doClash 48 = .ok (.aload_n 0, 1) := by decide +kernel
theorem dX2_doClash_49 : decode cX2_doClash 49 = .ok (.getfield 22, 3) := by decide +kernel
theorem dX2_doClash_52 : decode cX2_doClash 52 = .ok (.iload_n 1, 1) := by decide +kernel
theorem dX2_doClash_53 : decode cX2_doClash 53 = .ok (.iaload, 1) := by decide +kernel
theorem dX2_doClash_54 : decode cX2_doClash 54 = .ok (.aload_n 0, 1) := by decide +kernel
theorem dX2_doClash_55 : decode cX2_doClash 55 = .ok (.getfield 16, 3) := by decide +kernel
theorem dX2_doClash_58 : decode cX2_doClash 58 = .ok (.iload_n 2, 1) := by decide +kernel
theorem dX2_doClash_59 : decode cX2_doClash 59 = .ok (.iaload, 1) := by decide +kernel
theorem dX2_doClash_60 : decode cX2_doClash 60 = .ok (.aload_n 0, 1) := by decide +kernel
theorem dX2_doClash_61 : decode cX2_doClash 61 = .ok (.getfield 22, 3) := by decide +kernel
theorem dX2_doClash_64 : decode cX2_doClash 64 = .ok (.iload_n 2, 1) := by decide +kernel
theorem dX2_doClash_65 : decode cX2_doClash 65 = .ok (.iaload, 1) := by decide +kernel
theorem dX2_doClash_66 : decode cX2_doClash 66 = .ok (.invokestatic 103, 3) := by decide +kernel
theorem dX2_doClash_69 : decode cX2_doClash 69 = .ok (.istore_n 3, 1) := by decide +kernel
theorem dX2_doClash_70 : decode cX2_doClash 70 = .ok (.aload_n 0, 1) := by decide +kernel
theorem dX2_doClash_71 : decode cX2_doClash 71 = .ok (.getfield 19, 3) := by decide +kernel
theorem dX2_doClash_74 : decode cX2_doClash 74 = .ok (.iload_n 1, 1) := by decide +kernel
theorem dX2_doClash_75 : decode cX2_doClash 75 = .ok (.iaload, 1) := by decide +kernel
theorem dX2_doClash_76 : decode cX2_doClash 76 = .ok (.aload_n 0, 1) := by decide +kernel
theorem dX2_doClash_77 : decode cX2_doClash 77 = .ok (.getfield 25, 3) := by decide +kernel
theorem dX2_doClash_80 : decode cX2_doClash 80 = .ok (.iload_n 1, 1) := by decide +kernel
theorem dX2_doClash_81 : decode cX2_doClash 81 = .ok (.iaload, 1) := by decide +kernel
theorem dX2_doClash_82 : decode cX2_doClash 82 = .ok (.aload_n 0, 1) := by decide +kernel
theorem dX2_doClash_83 : decode cX2_doClash 83 = .ok (.getfield 19, 3) := by decide +kernel
theorem dX2_doClash_86 : decode cX2_doClash 86 = .ok (.iload_n 2, 1) := by decide +kernel
theorem dX2_doClash_87 : decode cX2_doClash 87 = .ok (.iaload, 1) := by decide +kernel
theorem dX2_doClash_88 : decode cX2_doClash 88 = .ok (.aload_n 0, 1) := by decide +kernel
theorem dX2_doClash_89 : decode cX2_doClash 89 = .ok (.getfield 25, 3) := by decide +kernel
theorem dX2_doClash_92 : decode cX2_doClash 92 = .ok (.iload_n 2, 1) := by decide +kernel
theorem dX2_doClash_93 : decode cX2_doClash 93 = .ok (.iaload, 1) := by decide +kernel
theorem dX2_doClash_94 : decode cX2_doClash 94 = .ok (.invokestatic 103, 3) := by decide +kernel
theorem dX2_doClash_97 : decode cX2_doClash 97 = .ok (.istore 4, 2) := by decide +kernel
theorem dX2_doClash_99 : decode cX2_doClash 99 = .ok (.iload_n 3, 1) := by decide +kernel
theorem dX2_doClash_100 : decode cX2_doClash 100 = .ok (.iload 4, 2) := by decide +kernel
theorem dX2_doClash_102 : decode cX2_doClash 102 = .ok (.if_icmp .le 7, 3) := by decide +kernel
theorem dX2_doClash_105 : decode cX2_doClash 105 = .ok (.iload_n 3, 1) := by decide +kernel
theorem dX2_doClash_106 : decode cX2_doClash 106 = .ok (.goto 5, 3) := by decide +kernel
theorem dX2_doClash_109 : decode cX2_doClash 109 = .ok (.iload 4, 2) := by decide +kernel
theorem dX2_doClash_111 : decode cX2_doClash 111 = .ok (.aload_n 0, 1) := by decide +kernel
theorem dX2_doClash_112 : decode cX2_doClash 112 = .ok (.getfield 40, 3) := by decide +kernel
theorem dX2_doClash_115 : decode cX2_doClash 115 = .ok (.iconst 3, 1) := by decide +kernel
theorem dX2_doClash_116 : decode cX2_doClash 116 = .ok (.aload_n 0, 1) := by decide +kernel
theorem dX2_doClash_117 : decode cX2_doClash 117 = .ok (.getfield 7, 3) := by decide +kernel
theorem dX2_doClash_120 : decode cX2_doClash 120 = .ok (.iload_n 1, 1) := by decide +kernel
theorem dX2_doClash_121 : decode cX2_doClash 121 = .ok (.iaload, 1) := by decide +kernel
theorem dX2_doClash_122 : decode cX2_doClash 122 = .ok (.imul, 1) := by decide +kernel
theorem dX2_doClash_123 : decode cX2_doClash 123 = .ok (.aload_n 0, 1) := by decide +kernel
theorem dX2_doClash_124 : decode cX2_doClash 124 = .ok (.getfield 7, 3) := by decide +kernel
theorem dX2_doClash_127 : decode cX2_doClash 127 = .ok (.iload_n 2, 1) := by decide +kernel
theorem dX2_doClash_128 : decode cX2_doClash 128 = .ok (.iaload, 1) := by decide +kernel
theorem dX2_doClash_129 : decode cX2_doClash 129 = .ok (.iadd, 1) := by decide +kernel
theorem dX2_doClash_130 : decode cX2_doClash 130 = .ok (.iaload, 1) := by decide +kernel
theorem dX2_doClash_131 : decode cX2_doClash 131 = .ok (.if_icmp .ge 7, 3) := by decide +kernel
theorem dX2_doClash_134 : decode cX2_doClash 134 = .ok (.iconst 1, 1) := by decide +kernel
theorem dX2_doClash_135 : decode cX2_doClash 135 = .ok (.goto 4, 3) := by decide +kernel
theorem dX2_doClash_138 : decode cX2_doClash 138 = .ok (.iconst 0, 1) := by decide +kernel
theorem dX2_doClash_139 : decode cX2_doClash 139 = .ok (.ireturn, 1) := by decide +kernel
set_option maxRecDepth 20000 in
theorem ggX2_hasClash_X2_doClash : GoodIn wsX2_hasClash wsX2_doClash := goodIn_r _ [6, 7, 8, 9, 10, 11, 12, 13, 14, 15, 16, 5, 17, 18, 19, 20, 21, 22, 23, 24, 25, 26, 27, 28, 29, 30, 31, 32, 33, 34, 35] (by decide +kernel) (by decide +kernel)
set_option maxRecDepth 20000 in
theorem gX2_hasClash_X2_doClash : GoodIn wsX2_hasClash (wsV RX2 107 RX2 yX2_doClash wsX2_doClash) := goodIn_app (goodIn_of _ (by decide +kernel)) ggX2_hasClash_X2_doClash
theorem dX2_hasClash_0 : decode cX2_hasClash 0 = .ok (.iconst 0, 1) := by decide +kernel
theorem dX2_hasClash_1 : decode cX2_hasClash 1 = .ok (.istore_n 2, 1) := by decide +kernel
theorem dX2_hasClash_2 : decode cX2_hasClash 2 = .ok (.iconst 0, 1) := by decide +kernel
theorem dX2_hasClash_3 : decode cX2_hasClash 3 = .ok (.istore_n 3, 1) := by decide +kernel
theorem dX2_hasClash_4 : decode cX2_hasClash 4 = .ok (.iload_n 3, 1) := by decide +kernel
theorem dX2_hasClash_5 : decode cX2_hasClash 5 = .ok (.aload_n 0, 1) := by decide +kernel
theorem dX2_hasClash_6 : decode cX2_hasClash 6 = .ok (.getfield 61, 3) := by decide +kernel
theorem dX2_hasClash_9 : decode cX2_hasClash 9 = .ok (.if_icmp .ge 28, 3) := by decide +kernel
theorem dX2_hasClash_12 : decode cX2_hasClash 12 = .ok (.iload_n 2, 1) := by decide +kernel
theorem dX2_hasClash_13 : decode cX2_hasClash 13 = .ok (.ifCond .ne 12, 3) := by decide +kernel
theorem dX2_hasClash_16 : decode cX2_hasClash 16 = .ok (.aload_n 0, 1) := by decide +kernel
theorem dX2_hasClash_17 : decode cX2_hasClash 17 = .ok (.iload_n 1, 1) := by decide +kernel
theorem dX2_hasClash_18 : decode cX2_hasClash 18 = .ok (.iload_n 3, 1) := by decide +kernel
theorem dX2_hasClash_19 : decode cX2_hasClash 19 = .ok (.invokevirtual 107, 3) := by decide +kernel
theorem dX2_hasClash_22 : decode cX2_hasClash 22 = .ok (.ifCond .eq 7, 3) := by decide +kernel
theorem dX2_hasClash_25 : decode cX2_hasClash 25 = .ok (.iconst 1, 1) := by decide +kernel
theorem dX2_hasClash_26 : decode cX2_hasClash 26 = .ok (.goto 4, 3) := by decide +kernel
theorem dX2_hasClash_29 : decode cX2_hasClash 29 = .ok (.iconst 0, 1) := by decide +kernel
theorem dX2_hasClash_30 : decode cX2_hasClash 30 = .ok (.istore_n 2, 1) := by decide +kernel
theorem dX2_hasClash_31 : decode cX2_hasClash 31 = .ok (.iinc 3 1, 3) := by decide +kernel
theorem dX2_hasClash_34 : decode cX2_hasClash 34 = .ok (.goto (-30), 3) := by decide +kernel
theorem dX2_hasClash_37 : decode cX2_hasClash 37 = .ok (.iload_n 2, 1) := by decide +kernel
theorem dX2_hasClash_38 : decode cX2_hasClash 38 = .ok (.ireturn, 1) := by decide +kernel
set_option maxRecDepth 20000 in
theorem ggX2_build_X2_isElement : GoodIn wsX2_build wsX2_isElement := goodIn_r _ [6, 7, 8, 9, 5, 10, 34, 35, 36, 37, 38, 39, 40, 41, 42, 43, 44, 45, 46, 47, 48, 49, 50, 51] (by decide +kernel) (by decide +kernel)
set_option maxRecDepth 20000 in
theorem gX2_build_X2_isElement : GoodIn wsX2_build (wsV RX2 84 RX2 yX2_isElement wsX2_isElement) := goodIn_app (goodIn_of _ (by decide +kernel)) ggX2_build_X2_isElement
set_option maxRecDepth 20000 in
theorem ggX2_build_X2_refused : GoodIn wsX2_build wsX2_refused := goodIn_r _ [14, 15, 34, 35, 36, 37, 38, 39, 40, 41, 42, 43, 44, 45, 46, 47, 48, 49, 50, 51] (by decide +kernel) (by decide +kernel)
set_option maxRecDepth 20000 in
theorem gX2_build_X2_refused : GoodIn wsX2_build (wsV RX2 77 RX2 yX2_refused wsX2_refused) := goodIn_app (goodIn_of _ (by decide +kernel)) ggX2_build_X2_refused
set_option maxRecDepth 20000 in
theorem ggX2_build_X2_hasClash : GoodIn wsX2_build wsX2_hasClash := goodIn_r _ [19, 7, 20, 21, 22, 5, 23, 1, 24, 25, 26, 27, 28, 29, 30, 31, 32, 33, 34, 35, 36, 37, 38, 39, 40, 41, 42, 43, 44, 45, 46, 47, 48, 49, 50, 51] (by decide +kernel) (by decide +kernel)
set_option maxRecDepth 20000 in
theorem gX2_build_X2_hasClash : GoodIn wsX2_build (wsV RX2 111 RX2 yX2_hasClash wsX2_hasClash) := goodIn_app (goodIn_of _ (by decide +kernel)) ggX2_build_X2_hasClash
theorem dX2_build_0 : decode cX2_build 0 = .ok (.aload_n 0, 1) := by decide +kernel
theorem dX2_build_1 : decode cX2_build 1 = .ok (.iload_n 1, 1) := by decide +kernel
theorem dX2_build_2 : decode cX2_build 2 = .ok (.invokevirtual 84, 3) := by decide +kernel
theorem dX2_build_5 : decode cX2_build 5 = .ok (.istore_n 2, 1) := by decide +kernel
theorem dX2_build_6 : decode cX2_build 6 = .ok (.aload_n 0, 1) := by decide +kernel
theorem dX2_build_7 : decode cX2_build 7 = .ok (.iload_n 2, 1) := by decide +kernel
theorem dX2_build_8 : decode cX2_build 8 = .ok (.ifCond .ne 7, 3) := by decide +kernel
theorem dX2_build_11 : decode cX2_build 11 = .ok (.iconst 1, 1) := by decide +kernel
theorem dX2_build_12 : decode cX2_build 12 = .ok (.goto 18, 3) := by decide +kernel
theorem dX2_build_15 : decode cX2_build 15 = .ok (.aload_n 0, 1) := by decide +kernel
theorem dX2_build_16 : decode cX2_build 16 = .ok (.getfield 28, 3) := by decide +kernel
theorem dX2_build_19 : decode cX2_build 19 = .ok (.iload_n 1, 1) := by decide +kernel
theorem dX2_build_20 : decode cX2_build 20 = .ok (.iaload, 1) := by decide +kernel
theorem dX2_build_21 : decode cX2_build 21 = .ok (.iconst 2, 1) := by decide +kernel
theorem dX2_build_22 : decode cX2_build 22 = .ok (.if_icmp .eq 7, 3) := by decide +kernel
theorem dX2_build_25 : decode cX2_build 25 = .ok (.iconst 2, 1) := by decide +kernel
theorem dX2_build_26 : decode cX2_build 26 = .ok (.goto 4, 3) := by decide +kernel
theorem dX2_build_29 : decode cX2_build 29 = .ok (.iconst 0, 1) := by decide +kernel
theorem dX2_build_30 : decode cX2_build 30 = .ok (.invokevirtual 77, 3) := by decide +kernel
theorem dX2_build_33 : decode cX2_build 33 = .ok (.ifCond .ne 11, 3) := by decide +kernel
theorem dX2_build_36 : decode cX2_build 36 = .ok (.aload_n 0, 1) := by decide +kernel
theorem dX2_build_37 : decode cX2_build 37 = .ok (.iload_n 1, 1) := by decide +kernel
theorem dX2_build_38 : decode cX2_build 38 = .ok (.invokevirtual 111, 3) := by decide +kernel
theorem dX2_build_41 : decode cX2_build 41 = .ok (.ifCond .eq 5, 3) := by decide +kernel
theorem dX2_build_44 : decode cX2_build 44 = .ok (.iconst 0, 1) := by decide +kernel
theorem dX2_build_45 : decode cX2_build 45 = .ok (.ireturn, 1) := by decide +kernel
theorem dX2_build_46 : decode cX2_build 46 = .ok (.aload_n 0, 1) := by decide +kernel
theorem dX2_build_47 : decode cX2_build 47 = .ok (.getfield 28, 3) := by decide +kernel
theorem dX2_build_50 : decode cX2_build 50 = .ok (.iload_n 1, 1) := by decide +kernel
theorem dX2_build_51 : decode cX2_build 51 = .ok (.iconst 3, 1) := by decide +kernel
theorem dX2_build_52 : decode cX2_build 52 = .ok (.iastore, 1) := by decide +kernel
theorem dX2_build_53 : decode cX2_build 53 = .ok (.iconst 1, 1) := by decide +kernel
theorem dX2_build_54 : decode cX2_build 54 = .ok (.ireturn, 1) := by decide +kernel
set_option maxRecDepth 20000 in
theorem ggX2_inspect_X2_isStorey : GoodIn wsX2_inspect wsX2_isStorey := goodIn_r _ [8, 9, 10, 7, 11] (by decide +kernel) (by decide +kernel)
set_option maxRecDepth 20000 in
theorem gX2_inspect_X2_isStorey : GoodIn wsX2_inspect (va_wsS RX2 71 yX2_isStorey wsX2_isStorey) := goodIn_app (goodIn_of _ (by decide +kernel)) ggX2_inspect_X2_isStorey
set_option maxRecDepth 20000 in
theorem ggX2_inspect_X2_refused : GoodIn wsX2_inspect wsX2_refused := goodIn_r _ [15, 16, 34, 35, 36, 37, 38, 39, 40, 41, 42, 43, 44, 45, 46, 47, 48, 49, 50, 51] (by decide +kernel) (by decide +kernel)
set_option maxRecDepth 20000 in
theorem gX2_inspect_X2_refused : GoodIn wsX2_inspect (wsV RX2 77 RX2 yX2_refused wsX2_refused) := goodIn_app (goodIn_of _ (by decide +kernel)) ggX2_inspect_X2_refused
set_option maxRecDepth 20000 in
theorem ggX2_inspect_X2_hasClash : GoodIn wsX2_inspect wsX2_hasClash := goodIn_r _ [20, 2, 21, 22, 23, 7, 24, 4, 3, 25, 26, 27, 28, 29, 30, 31, 32, 33, 34, 35, 36, 37, 38, 39, 40, 41, 42, 43, 44, 45, 46, 47, 48, 49, 50, 51] (by decide +kernel) (by decide +kernel)
set_option maxRecDepth 20000 in
theorem gX2_inspect_X2_hasClash : GoodIn wsX2_inspect (wsV RX2 111 RX2 yX2_hasClash wsX2_hasClash) := goodIn_app (goodIn_of _ (by decide +kernel)) ggX2_inspect_X2_hasClash
theorem dX2_inspect_0 : decode cX2_inspect 0 = .ok (.iload_n 1, 1) := by decide +kernel
theorem dX2_inspect_1 : decode cX2_inspect 1 = .ok (.invokestatic 71, 3) := by decide +kernel
theorem dX2_inspect_4 : decode cX2_inspect 4 = .ok (.istore_n 2, 1) := by decide +kernel
theorem dX2_inspect_5 : decode cX2_inspect 5 = .ok (.aload_n 0, 1) := by decide +kernel
theorem dX2_inspect_6 : decode cX2_inspect 6 = .ok (.iload_n 2, 1) := by decide +kernel
theorem dX2_inspect_7 : decode cX2_inspect 7 = .ok (.ifCond .ne 7, 3) := by decide +kernel
theorem dX2_inspect_10 : decode cX2_inspect 10 = .ok (.iconst 1, 1) := by decide +kernel
theorem dX2_inspect_11 : decode cX2_inspect 11 = .ok (.goto 17, 3) := by decide +kernel
theorem dX2_inspect_14 : decode cX2_inspect 14 = .ok (.aload_n 0, 1) := by decide +kernel
theorem dX2_inspect_15 : decode cX2_inspect 15 = .ok (.getfield 49, 3) := by decide +kernel
theorem dX2_inspect_18 : decode cX2_inspect 18 = .ok (.iload_n 1, 1) := by decide +kernel
theorem dX2_inspect_19 : decode cX2_inspect 19 = .ok (.baload, 1) := by decide +kernel
theorem dX2_inspect_20 : decode cX2_inspect 20 = .ok (.ifCond .eq 7, 3) := by decide +kernel
theorem dX2_inspect_23 : decode cX2_inspect 23 = .ok (.iconst 2, 1) := by decide +kernel
theorem dX2_inspect_24 : decode cX2_inspect 24 = .ok (.goto 4, 3) := by decide +kernel
theorem dX2_inspect_27 : decode cX2_inspect 27 = .ok (.iconst 0, 1) := by decide +kernel
theorem dX2_inspect_28 : decode cX2_inspect 28 = .ok (.invokevirtual 77, 3) := by decide +kernel
theorem dX2_inspect_31 : decode cX2_inspect 31 = .ok (.ifCond .eq 5, 3) := by decide +kernel
theorem dX2_inspect_34 : decode cX2_inspect 34 = .ok (.iconst 0, 1) := by decide +kernel
theorem dX2_inspect_35 : decode cX2_inspect 35 = .ok (.ireturn, 1) := by decide +kernel
theorem dX2_inspect_36 : decode cX2_inspect 36 = .ok (.iconst 1, 1) := by decide +kernel
theorem dX2_inspect_37 : decode cX2_inspect 37 = .ok (.istore_n 3, 1) := by decide +kernel
theorem dX2_inspect_38 : decode cX2_inspect 38 = .ok (.iconst 0, 1) := by decide +kernel
theorem dX2_inspect_39 : decode cX2_inspect 39 = .ok (.istore 4, 2) := by decide +kernel
theorem dX2_inspect_41 : decode cX2_inspect 41 = .ok (.iconst 0, 1) := by decide +kernel
theorem dX2_inspect_42 : decode cX2_inspect 42 = .ok (.istore 5, 2) := by decide +kernel
theorem dX2_inspect_44 : decode cX2_inspect 44 = .ok (.iload 5, 2) := by decide +kernel
theorem dX2_inspect_46 : decode cX2_inspect 46 = .ok (.aload_n 0, 1) := by decide +kernel
theorem dX2_inspect_47 : decode cX2_inspect 47 = .ok (.getfield 61, 3) := by decide +kernel
theorem dX2_inspect_50 : decode cX2_inspect 50 = .ok (.if_icmp .ge 64, 3) := by decide +kernel
theorem dX2_inspect_53 : decode cX2_inspect 53 = .ok (.aload_n 0, 1) := by decide +kernel
theorem dX2_inspect_54 : decode cX2_inspect 54 = .ok (.getfield 13, 3) := by decide +kernel
theorem dX2_inspect_57 : decode cX2_inspect 57 = .ok (.iload 5, 2) := by decide +kernel
theorem dX2_inspect_59 : decode cX2_inspect 59 = .ok (.iaload, 1) := by decide +kernel
theorem dX2_inspect_60 : decode cX2_inspect 60 = .ok (.iload_n 1, 1) := by decide +kernel
theorem dX2_inspect_61 : decode cX2_inspect 61 = .ok (.if_icmp .ne 47, 3) := by decide +kernel
theorem dX2_inspect_64 : decode cX2_inspect 64 = .ok (.aload_n 0, 1) := by decide +kernel
theorem dX2_inspect_65 : decode cX2_inspect 65 = .ok (.getfield 28, 3) := by decide +kernel
theorem dX2_inspect_68 : decode cX2_inspect 68 = .ok (.iload 5, 2) := by decide +kernel
theorem dX2_inspect_70 : decode cX2_inspect 70 = .ok (.iaload, 1) := by decide +kernel
theorem dX2_inspect_71 : decode cX2_inspect 71 = .ok (.iconst 4, 1) := by decide +kernel
theorem dX2_inspect_72 : decode cX2_inspect 72 = .ok (.if_icmp .eq 36, 3) := by decide +kernel
theorem dX2_inspect_75 : decode cX2_inspect 75 = .ok (.iload_n 3, 1) := by decide +kernel
theorem dX2_inspect_76 : decode cX2_inspect 76 = .ok (.ifCond .eq 27, 3) := by decide +kernel
theorem dX2_inspect_79 : decode cX2_inspect 79 = .ok (.aload_n 0, 1) := by decide +kernel
theorem dX2_inspect_80 : decode cX2_inspect 80 = .ok (.getfield 28, 3) := by decide +kernel
theorem dX2_inspect_83 : decode cX2_inspect 83 = .ok (.iload 5, 2) := by decide +kernel
theorem dX2_inspect_85 : decode cX2_inspect 85 = .ok (.iaload, 1) := by decide +kernel
theorem dX2_inspect_86 : decode cX2_inspect 86 = .ok (.iconst 3, 1) := by decide +kernel
theorem dX2_inspect_87 : decode cX2_inspect 87 = .ok (.if_icmp .ne 16, 3) := by decide +kernel
theorem dX2_inspect_90 : decode cX2_inspect 90 = .ok (.aload_n 0, 1) := by decide +kernel
theorem dX2_inspect_91 : decode cX2_inspect 91 = .ok (.iload 5, 2) := by decide +kernel
theorem dX2_inspect_93 : decode cX2_inspect 93 = .ok (.invokevirtual 111, 3) := by decide +kernel
theorem dX2_inspect_96 : decode cX2_inspect 96 = .ok (.ifCond .ne 7, 3) := by decide +kernel
theorem dX2_inspect_99 : decode cX2_inspect 99 = .ok (.iconst 1, 1) := by decide +kernel
theorem dX2_inspect_100 : decode cX2_inspect 100 = .ok (.goto 4, 3) := by decide +kernel
theorem dX2_inspect_103 : decode cX2_inspect 103 = .ok (.iconst 0, 1) := by decide +kernel
theorem dX2_inspect_104 : decode cX2_inspect 104 = .ok (.istore_n 3, 1) := by decide +kernel
theorem dX2_inspect_105 : decode cX2_inspect 105 = .ok (.iinc 4 1, 3) := by decide +kernel
theorem dX2_inspect_108 : decode cX2_inspect 108 = .ok (.iinc 5 1, 3) := by decide +kernel
theorem dX2_inspect_111 : decode cX2_inspect 111 = .ok (.goto (-67), 3) := by decide +kernel
theorem dX2_inspect_114 : decode cX2_inspect 114 = .ok (.aload_n 0, 1) := by decide +kernel
theorem dX2_inspect_115 : decode cX2_inspect 115 = .ok (.getfield 49, 3) := by decide +kernel
theorem dX2_inspect_118 : decode cX2_inspect 118 = .ok (.iload_n 1, 1) := by decide +kernel
theorem dX2_inspect_119 : decode cX2_inspect 119 = .ok (.iload_n 3, 1) := by decide +kernel
theorem dX2_inspect_120 : decode cX2_inspect 120 = .ok (.ifCond .eq 12, 3) := by decide +kernel
theorem dX2_inspect_123 : decode cX2_inspect 123 = .ok (.iload 4, 2) := by decide +kernel
theorem dX2_inspect_125 : decode cX2_inspect 125 = .ok (.ifCond .le 7, 3) := by decide +kernel
theorem dX2_inspect_128 : decode cX2_inspect 128 = .ok (.iconst 1, 1) := by decide +kernel
theorem dX2_inspect_129 : decode cX2_inspect 129 = .ok (.goto 4, 3) := by decide +kernel
theorem dX2_inspect_132 : decode cX2_inspect 132 = .ok (.iconst 0, 1) := by decide +kernel
theorem dX2_inspect_133 : decode cX2_inspect 133 = .ok (.bastore, 1) := by decide +kernel
theorem dX2_inspect_134 : decode cX2_inspect 134 = .ok (.aload_n 0, 1) := by decide +kernel
theorem dX2_inspect_135 : decode cX2_inspect 135 = .ok (.getfield 49, 3) := by decide +kernel
theorem dX2_inspect_138 : decode cX2_inspect 138 = .ok (.iload_n 1, 1) := by decide +kernel
theorem dX2_inspect_139 : decode cX2_inspect 139 = .ok (.baload, 1) := by decide +kernel
theorem dX2_inspect_140 : decode cX2_inspect 140 = .ok (.ireturn, 1) := by decide +kernel
set_option maxRecDepth 20000 in
theorem ggX2_pass_X2_in : GoodIn wsX2_pass wsX2_in := goodIn_r _ [8] (by decide +kernel) (by decide +kernel)
set_option maxRecDepth 20000 in
theorem gX2_pass_X2_in : GoodIn wsX2_pass (va_wsS RX2 57 yX2_in wsX2_in) := goodIn_app (goodIn_of _ (by decide +kernel)) ggX2_pass_X2_in
set_option maxRecDepth 20000 in
theorem ggX2_pass_X2_refused : GoodIn wsX2_pass wsX2_refused := goodIn_r _ [12, 13, 14, 15, 16, 17, 18, 19, 20, 21, 22, 23, 24, 25, 26, 27, 28, 29, 30, 31] (by decide +kernel) (by decide +kernel)
set_option maxRecDepth 20000 in
theorem gX2_pass_X2_refused : GoodIn wsX2_pass (wsV RX2 77 RX2 yX2_refused wsX2_refused) := goodIn_app (goodIn_of _ (by decide +kernel)) ggX2_pass_X2_refused
theorem dX2_pass_0 : decode cX2_pass 0 = .ok (.aload_n 0, 1) := by decide +kernel
theorem dX2_pass_1 : decode cX2_pass 1 = .ok (.iload_n 1, 1) := by decide +kernel
theorem dX2_pass_2 : decode cX2_pass 2 = .ok (.iconst 1, 1) := by decide +kernel
theorem dX2_pass_3 : decode cX2_pass 3 = .ok (.bipush 100, 2) := by decide +kernel
theorem dX2_pass_5 : decode cX2_pass 5 = .ok (.invokestatic 57, 3) := by decide +kernel
theorem dX2_pass_8 : decode cX2_pass 8 = .ok (.ifCond .ne 7, 3) := by decide +kernel
theorem dX2_pass_11 : decode cX2_pass 11 = .ok (.iconst 1, 1) := by decide +kernel
theorem dX2_pass_12 : decode cX2_pass 12 = .ok (.goto 20, 3) := by decide +kernel
theorem dX2_pass_15 : decode cX2_pass 15 = .ok (.aload_n 0, 1) := by decide +kernel
theorem dX2_pass_16 : decode cX2_pass 16 = .ok (.getfield 97, 3) := by decide +kernel
theorem dX2_pass_19 : decode cX2_pass 19 = .ok (.iload_n 1, 1) := by decide +kernel
theorem dX2_pass_20 : decode cX2_pass 20 = .ok (.iadd, 1) := by decide +kernel
theorem dX2_pass_21 : decode cX2_pass 21 = .ok (.sipush 500, 3) := by decide +kernel
theorem dX2_pass_24 : decode cX2_pass 24 = .ok (.if_icmp .le 7, 3) := by decide +kernel
theorem dX2_pass_27 : decode cX2_pass 27 = .ok (.iconst 2, 1) := by decide +kernel
theorem dX2_pass_28 : decode cX2_pass 28 = .ok (.goto 4, 3) := by decide +kernel
theorem dX2_pass_31 : decode cX2_pass 31 = .ok (.iconst 0, 1) := by decide +kernel
theorem dX2_pass_32 : decode cX2_pass 32 = .ok (.invokevirtual 77, 3) := by decide +kernel
theorem dX2_pass_35 : decode cX2_pass 35 = .ok (.ifCond .eq 5, 3) := by decide +kernel
theorem dX2_pass_38 : decode cX2_pass 38 = .ok (.iconst 0, 1) := by decide +kernel
theorem dX2_pass_39 : decode cX2_pass 39 = .ok (.ireturn, 1) := by decide +kernel
theorem dX2_pass_40 : decode cX2_pass 40 = .ok (.aload_n 0, 1) := by decide +kernel
theorem dX2_pass_41 : decode cX2_pass 41 = .ok (.dup, 1) := by decide +kernel
theorem dX2_pass_42 : decode cX2_pass 42 = .ok (.getfield 97, 3) := by decide +kernel
theorem dX2_pass_45 : decode cX2_pass 45 = .ok (.iload_n 1, 1) := by decide +kernel
theorem dX2_pass_46 : decode cX2_pass 46 = .ok (.iadd, 1) := by decide +kernel
theorem dX2_pass_47 : decode cX2_pass 47 = .ok (.putfield 97, 3) := by decide +kernel
theorem dX2_pass_50 : decode cX2_pass 50 = .ok (.iconst 0, 1) := by decide +kernel
theorem dX2_pass_51 : decode cX2_pass 51 = .ok (.istore_n 2, 1) := by decide +kernel
theorem dX2_pass_52 : decode cX2_pass 52 = .ok (.iload_n 2, 1) := by decide +kernel
theorem dX2_pass_53 : decode cX2_pass 53 = .ok (.aload_n 0, 1) := by decide +kernel
theorem dX2_pass_54 : decode cX2_pass 54 = .ok (.getfield 61, 3) := by decide +kernel
theorem dX2_pass_57 : decode cX2_pass 57 = .ok (.if_icmp .ge 48, 3) := by decide +kernel
theorem dX2_pass_60 : decode cX2_pass 60 = .ok (.aload_n 0, 1) := by decide +kernel
theorem dX2_pass_61 : decode cX2_pass 61 = .ok (.getfield 28, 3) := by decide +kernel
theorem dX2_pass_64 : decode cX2_pass 64 = .ok (.iload_n 2, 1) := by decide +kernel
theorem dX2_pass_65 : decode cX2_pass 65 = .ok (.aload_n 0, 1) := by decide +kernel
theorem dX2_pass_66 : decode cX2_pass 66 = .ok (.getfield 28, 3) := by decide +kernel
theorem dX2_pass_69 : decode cX2_pass 69 = .ok (.iload_n 2, 1) := by decide +kernel
theorem dX2_pass_70 : decode cX2_pass 70 = .ok (.iaload, 1) := by decide +kernel
theorem dX2_pass_71 : decode cX2_pass 71 = .ok (.iconst 1, 1) := by decide +kernel
theorem dX2_pass_72 : decode cX2_pass 72 = .ok (.if_icmp .ne 20, 3) := by decide +kernel
theorem dX2_pass_75 : decode cX2_pass 75 = .ok (.aload_n 0, 1) := by decide +kernel
theorem dX2_pass_76 : decode cX2_pass 76 = .ok (.getfield 37, 3) := by decide +kernel
theorem dX2_pass_79 : decode cX2_pass 79 = .ok (.iload_n 2, 1) := by decide +kernel
theorem dX2_pass_80 : decode cX2_pass 80 = .ok (.iaload, 1) := by decide +kernel
theorem dX2_pass_81 : decode cX2_pass 81 = .ok (.aload_n 0, 1) := by decide +kernel
theorem dX2_pass_82 : decode cX2_pass 82 = .ok (.getfield 97, 3) := by decide +kernel
theorem dX2_pass_85 : decode cX2_pass 85 = .ok (.if_icmp .gt 7, 3) := by decide +kernel
theorem dX2_pass_88 : decode cX2_pass 88 = .ok (.iconst 2, 1) := by decide +kernel
theorem dX2_pass_89 : decode cX2_pass 89 = .ok (.goto 9, 3) := by decide +kernel
theorem dX2_pass_92 : decode cX2_pass 92 = .ok (.aload_n 0, 1) := by decide +kernel
theorem dX2_pass_93 : decode cX2_pass 93 = .ok (.getfield 28, 3) := by decide +kernel
theorem dX2_pass_96 : decode cX2_pass 96 = .ok (.iload_n 2, 1) := by decide +kernel
theorem dX2_pass_97 : decode cX2_pass 97 = .ok (.iaload, 1) := by decide +kernel
theorem dX2_pass_98 : decode cX2_pass 98 = .ok (.iastore, 1) := by decide +kernel
theorem dX2_pass_99 : decode cX2_pass 99 = .ok (.iinc 2 1, 3) := by decide +kernel
theorem dX2_pass_102 : decode cX2_pass 102 = .ok (.goto (-50), 3) := by decide +kernel
theorem dX2_pass_105 : decode cX2_pass 105 = .ok (.aload_n 0, 1) := by decide +kernel
theorem dX2_pass_106 : decode cX2_pass 106 = .ok (.getfield 97, 3) := by decide +kernel
theorem dX2_pass_109 : decode cX2_pass 109 = .ok (.ireturn, 1) := by decide +kernel
theorem dX2_day_0 : decode cX2_day 0 = .ok (.aload_n 0, 1) := by decide +kernel
theorem dX2_day_1 : decode cX2_day 1 = .ok (.iconst 0, 1) := by decide +kernel
theorem dX2_day_2 : decode cX2_day 2 = .ok (.putfield 53, 3) := by decide +kernel
theorem dX2_day_5 : decode cX2_day 5 = .ok (.aload_n 0, 1) := by decide +kernel
theorem dX2_day_6 : decode cX2_day 6 = .ok (.getfield 97, 3) := by decide +kernel
theorem dX2_day_9 : decode cX2_day 9 = .ok (.ireturn, 1) := by decide +kernel
theorem dX2_revision_0 : decode cX2_revision 0 = .ok (.aload_n 0, 1) := by decide +kernel
theorem dX2_revision_1 : decode cX2_revision 1 = .ok (.iconst 0, 1) := by decide +kernel
theorem dX2_revision_2 : decode cX2_revision 2 = .ok (.putfield 53, 3) := by decide +kernel
theorem dX2_revision_5 : decode cX2_revision 5 = .ok (.aload_n 0, 1) := by decide +kernel
theorem dX2_revision_6 : decode cX2_revision 6 = .ok (.getfield 64, 3) := by decide +kernel
theorem dX2_revision_9 : decode cX2_revision 9 = .ok (.ireturn, 1) := by decide +kernel
set_option maxRecDepth 20000 in
theorem ggX2_elementOf_X2_isElement : GoodIn wsX2_elementOf wsX2_isElement := goodIn_r _ [14, 15, 16, 17, 13, 18, 31, 32, 33, 34, 35, 36, 37, 38, 39, 40, 41, 42, 43, 44, 45, 46, 47, 48] (by decide +kernel) (by decide +kernel)
set_option maxRecDepth 20000 in
theorem gX2_elementOf_X2_isElement : GoodIn wsX2_elementOf (wsV RX2 84 RX2 yX2_isElement wsX2_isElement) := goodIn_app (goodIn_of _ (by decide +kernel)) ggX2_elementOf_X2_isElement
set_option maxRecDepth 20000 in
theorem ggX2_elementOf_X2_in : GoodIn wsX2_elementOf wsX2_in := goodIn_r _ [18] (by decide +kernel) (by decide +kernel)
set_option maxRecDepth 20000 in
theorem gX2_elementOf_X2_in : GoodIn wsX2_elementOf (va_wsS RX2 57 yX2_in wsX2_in) := goodIn_app (goodIn_of _ (by decide +kernel)) ggX2_elementOf_X2_in
set_option maxRecDepth 20000 in
theorem ggX2_elementOf_X2_refused : GoodIn wsX2_elementOf wsX2_refused := goodIn_r _ [22, 23, 31, 32, 33, 34, 35, 36, 37, 38, 39, 40, 41, 42, 43, 44, 45, 46, 47, 48] (by decide +kernel) (by decide +kernel)
set_option maxRecDepth 20000 in
theorem gX2_elementOf_X2_refused : GoodIn wsX2_elementOf (wsV RX2 77 RX2 yX2_refused wsX2_refused) := goodIn_app (goodIn_of _ (by decide +kernel)) ggX2_elementOf_X2_refused
set_option maxRecDepth 20000 in
theorem ggX2_elementOf_X2_cellsOf : GoodIn wsX2_elementOf wsX2_cellsOf := goodIn_r _ [27, 5, 3, 6, 4, 28, 29, 13, 30, 31, 32, 33, 34, 35, 36, 37, 38, 39, 40, 41, 42, 43, 44, 45, 46, 47, 48] (by decide +kernel) (by decide +kernel)
set_option maxRecDepth 20000 in
theorem gX2_elementOf_X2_cellsOf : GoodIn wsX2_elementOf (wsV RX2 94 RX2 yX2_cellsOf wsX2_cellsOf) := goodIn_app (goodIn_of _ (by decide +kernel)) ggX2_elementOf_X2_cellsOf
theorem dX2_elementOf_0 : decode cX2_elementOf 0 = .ok (.aload_n 0, 1) := by decide +kernel
theorem dX2_elementOf_1 : decode cX2_elementOf 1 = .ok (.aload_n 0, 1) := by decide +kernel
theorem dX2_elementOf_2 : decode cX2_elementOf 2 = .ok (.iload_n 1, 1) := by decide +kernel
theorem dX2_elementOf_3 : decode cX2_elementOf 3 = .ok (.invokevirtual 84, 3) := by decide +kernel
theorem dX2_elementOf_6 : decode cX2_elementOf 6 = .ok (.ifCond .ne 7, 3) := by decide +kernel
theorem dX2_elementOf_9 : decode cX2_elementOf 9 = .ok (.iconst 1, 1) := by decide +kernel
theorem dX2_elementOf_10 : decode cX2_elementOf 10 = .ok (.goto 18, 3) := by decide +kernel
theorem dX2_elementOf_13 : decode cX2_elementOf 13 = .ok (.iload_n 2, 1) := by decide +kernel
theorem dX2_elementOf_14 : decode cX2_elementOf 14 = .ok (.iconst 0, 1) := by decide +kernel
theorem dX2_elementOf_15 : decode cX2_elementOf 15 = .ok (.bipush 9, 2) := by decide +kernel
theorem dX2_elementOf_17 : decode cX2_elementOf 17 = .ok (.invokestatic 57, 3) := by decide +kernel
theorem dX2_elementOf_20 : decode cX2_elementOf 20 = .ok (.ifCond .ne 7, 3) := by decide +kernel
theorem dX2_elementOf_23 : decode cX2_elementOf 23 = .ok (.iconst 2, 1) := by decide +kernel
theorem dX2_elementOf_24 : decode cX2_elementOf 24 = .ok (.goto 4, 3) := by decide +kernel
theorem dX2_elementOf_27 : decode cX2_elementOf 27 = .ok (.iconst 0, 1) := by decide +kernel
theorem dX2_elementOf_28 : decode cX2_elementOf 28 = .ok (.invokevirtual 77, 3) := by decide +kernel
theorem dX2_elementOf_31 : decode cX2_elementOf 31 = .ok (.ifCond .eq 5, 3) := by decide +kernel
theorem dX2_elementOf_34 : decode cX2_elementOf 34 = .ok (.iconst 0, 1) := by decide +kernel
theorem dX2_elementOf_35 : decode cX2_elementOf 35 = .ok (.ireturn, 1) := by decide +kernel
theorem dX2_elementOf_36 : decode cX2_elementOf 36 = .ok (.iload_n 2, 1) := by decide +kernel
theorem dX2_elementOf_37 : decode cX2_elementOf 37 = .ok (.tableswitch 114 0 8 #[51, 58, 65, 72, 79, 86, 93, 100, 107], 51) := by decide +kernel
theorem dX2_elementOf_88 : decode cX2_elementOf 88 = .ok (.aload_n 0, 1) := by decide +kernel
theorem dX2_elementOf_89 : decode cX2_elementOf 89 = .ok (.getfield 7, 3) := by decide +kernel
theorem dX2_elementOf_92 : decode cX2_elementOf 92 = .ok (.iload_n 1, 1) := by decide +kernel
theorem dX2_elementOf_93 : decode cX2_elementOf 93 = .ok (.iaload, 1) := by decide +kernel
theorem dX2_elementOf_94 : decode cX2_elementOf 94 = .ok (.ireturn, 1) := by decide +kernel
theorem dX2_elementOf_95 : decode cX2_elementOf 95 = .ok (.aload_n 0, 1) := by decide +kernel
theorem dX2_elementOf_96 : decode cX2_elementOf 96 = .ok (.getfield 13, 3) := by decide +kernel
theorem dX2_elementOf_99 : decode cX2_elementOf 99 = .ok (.iload_n 1, 1) := by decide +kernel
theorem dX2_elementOf_100 : decode cX2_elementOf 100 = .ok (.iaload, 1) := by decide +kernel
theorem dX2_elementOf_101 : decode cX2_elementOf 101 = .ok (.ireturn, 1) := by decide +kernel
theorem dX2_elementOf_102 : decode cX2_elementOf 102 = .ok (.aload_n 0, 1) := by decide +kernel
theorem dX2_elementOf_103 : decode cX2_elementOf 103 = .ok (.getfield 16, 3) := by decide +kernel
theorem dX2_elementOf_106 : decode cX2_elementOf 106 = .ok (.iload_n 1, 1) := by decide +kernel
theorem dX2_elementOf_107 : decode cX2_elementOf 107 = .ok (.iaload, 1) := by decide +kernel
theorem dX2_elementOf_108 : decode cX2_elementOf 108 = .ok (.ireturn, 1) := by decide +kernel
theorem dX2_elementOf_109 : decode cX2_elementOf 109 = .ok (.aload_n 0, 1) := by decide +kernel
theorem dX2_elementOf_110 : decode cX2_elementOf 110 = .ok (.getfield 19, 3) := by decide +kernel
theorem dX2_elementOf_113 : decode cX2_elementOf 113 = .ok (.iload_n 1, 1) := by decide +kernel
theorem dX2_elementOf_114 : decode cX2_elementOf 114 = .ok (.iaload, 1) := by decide +kernel
theorem dX2_elementOf_115 : decode cX2_elementOf 115 = .ok (.ireturn, 1) := by decide +kernel
theorem dX2_elementOf_116 : decode cX2_elementOf 116 = .ok (.aload_n 0, 1) := by decide +kernel
theorem dX2_elementOf_117 : decode cX2_elementOf 117 = .ok (.getfield 22, 3) := by decide +kernel
theorem dX2_elementOf_120 : decode cX2_elementOf 120 = .ok (.iload_n 1, 1) := by decide +kernel
theorem dX2_elementOf_121 : decode cX2_elementOf 121 = .ok (.iaload, 1) := by decide +kernel
theorem dX2_elementOf_122 : decode cX2_elementOf 122 = .ok (.ireturn, 1) := by decide +kernel
theorem dX2_elementOf_123 : decode cX2_elementOf 123 = .ok (.aload_n 0, 1) := by decide +kernel
theorem dX2_elementOf_124 : decode cX2_elementOf 124 = .ok (.getfield 25, 3) := by decide +kernel
theorem dX2_elementOf_127 : decode cX2_elementOf 127 = .ok (.iload_n 1, 1) := by decide +kernel
theorem dX2_elementOf_128 : decode cX2_elementOf 128 = .ok (.iaload, 1) := by decide +kernel
theorem dX2_elementOf_129 : decode cX2_elementOf 129 = .ok (.ireturn, 1) := by decide +kernel
theorem dX2_elementOf_130 : decode cX2_elementOf 130 = .ok (.aload_n 0, 1) := by decide +kernel
theorem dX2_elementOf_131 : decode cX2_elementOf 131 = .ok (.getfield 28, 3) := by decide +kernel
theorem dX2_elementOf_134 : decode cX2_elementOf 134 = .ok (.iload_n 1, 1) := by decide +kernel
theorem dX2_elementOf_135 : decode cX2_elementOf 135 = .ok (.iaload, 1) := by decide +kernel
theorem dX2_elementOf_136 : decode cX2_elementOf 136 = .ok (.ireturn, 1) := by decide +kernel
theorem dX2_elementOf_137 : decode cX2_elementOf 137 = .ok (.aload_n 0, 1) := by decide +kernel
theorem dX2_elementOf_138 : decode cX2_elementOf 138 = .ok (.getfield 31, 3) := by decide +kernel
theorem dX2_elementOf_141 : decode cX2_elementOf 141 = .ok (.iload_n 1, 1) := by decide +kernel
theorem dX2_elementOf_142 : decode cX2_elementOf 142 = .ok (.iaload, 1) := by decide +kernel
theorem dX2_elementOf_143 : decode cX2_elementOf 143 = .ok (.ireturn, 1) := by decide +kernel
theorem dX2_elementOf_144 : decode cX2_elementOf 144 = .ok (.aload_n 0, 1) := by decide +kernel
theorem dX2_elementOf_145 : decode cX2_elementOf 145 = .ok (.getfield 34, 3) := by decide +kernel
theorem dX2_elementOf_148 : decode cX2_elementOf 148 = .ok (.iload_n 1, 1) := by decide +kernel
theorem dX2_elementOf_149 : decode cX2_elementOf 149 = .ok (.iaload, 1) := by decide +kernel
theorem dX2_elementOf_150 : decode cX2_elementOf 150 = .ok (.ireturn, 1) := by decide +kernel
theorem dX2_elementOf_151 : decode cX2_elementOf 151 = .ok (.aload_n 0, 1) := by decide +kernel
theorem dX2_elementOf_152 : decode cX2_elementOf 152 = .ok (.iload_n 1, 1) := by decide +kernel
theorem dX2_elementOf_153 : decode cX2_elementOf 153 = .ok (.invokevirtual 94, 3) := by decide +kernel
theorem dX2_elementOf_156 : decode cX2_elementOf 156 = .ok (.ireturn, 1) := by decide +kernel
set_option maxRecDepth 20000 in
theorem ggX2_clash_X2_isElement : GoodIn wsX2_clash wsX2_isElement := goodIn_r _ [5, 6, 7, 8, 4, 9, 30, 31, 32, 33, 34, 35, 36, 37, 38, 39, 40, 41, 42, 43, 44, 45, 46, 47] (by decide +kernel) (by decide +kernel)
set_option maxRecDepth 20000 in
theorem gX2_clash_X2_isElement : GoodIn wsX2_clash (wsV RX2 84 RX2 yX2_isElement wsX2_isElement) := goodIn_app (goodIn_of _ (by decide +kernel)) ggX2_clash_X2_isElement
set_option maxRecDepth 20000 in
theorem ggX2_clash_X2_refused : GoodIn wsX2_clash wsX2_refused := goodIn_r _ [13, 14, 30, 31, 32, 33, 34, 35, 36, 37, 38, 39, 40, 41, 42, 43, 44, 45, 46, 47] (by decide +kernel) (by decide +kernel)
set_option maxRecDepth 20000 in
theorem gX2_clash_X2_refused : GoodIn wsX2_clash (wsV RX2 77 RX2 yX2_refused wsX2_refused) := goodIn_app (goodIn_of _ (by decide +kernel)) ggX2_clash_X2_refused
set_option maxRecDepth 20000 in
theorem ggX2_clash_X2_doClash : GoodIn wsX2_clash wsX2_doClash := goodIn_r _ [18, 19, 20, 21, 22, 23, 24, 25, 26, 27, 28, 4, 29, 30, 31, 32, 33, 34, 35, 36, 37, 38, 39, 40, 41, 42, 43, 44, 45, 46, 47] (by decide +kernel) (by decide +kernel)
set_option maxRecDepth 20000 in
theorem gX2_clash_X2_doClash : GoodIn wsX2_clash (wsV RX2 107 RX2 yX2_doClash wsX2_doClash) := goodIn_app (goodIn_of _ (by decide +kernel)) ggX2_clash_X2_doClash
theorem dX2_clash_0 : decode cX2_clash 0 = .ok (.aload_n 0, 1) := by decide +kernel
theorem dX2_clash_1 : decode cX2_clash 1 = .ok (.aload_n 0, 1) := by decide +kernel
theorem dX2_clash_2 : decode cX2_clash 2 = .ok (.iload_n 1, 1) := by decide +kernel
theorem dX2_clash_3 : decode cX2_clash 3 = .ok (.invokevirtual 84, 3) := by decide +kernel
theorem dX2_clash_6 : decode cX2_clash 6 = .ok (.ifCond .eq 15, 3) := by decide +kernel
theorem dX2_clash_9 : decode cX2_clash 9 = .ok (.aload_n 0, 1) := by decide +kernel
theorem dX2_clash_10 : decode cX2_clash 10 = .ok (.iload_n 2, 1) := by decide +kernel
theorem dX2_clash_11 : decode cX2_clash 11 = .ok (.invokevirtual 84, 3) := by decide +kernel
theorem dX2_clash_14 : decode cX2_clash 14 = .ok (.ifCond .eq 7, 3) := by decide +kernel
theorem dX2_clash_17 : decode cX2_clash 17 = .ok (.iconst 0, 1) := by decide +kernel
theorem dX2_clash_18 : decode cX2_clash 18 = .ok (.goto 4, 3) := by decide +kernel
theorem dX2_clash_21 : decode cX2_clash 21 = .ok (.iconst 1, 1) := by decide +kernel
theorem dX2_clash_22 : decode cX2_clash 22 = .ok (.invokevirtual 77, 3) := by decide +kernel
theorem dX2_clash_25 : decode cX2_clash 25 = .ok (.ifCond .ne 16, 3) := by decide +kernel
theorem dX2_clash_28 : decode cX2_clash 28 = .ok (.aload_n 0, 1) := by decide +kernel
theorem dX2_clash_29 : decode cX2_clash 29 = .ok (.iload_n 1, 1) := by decide +kernel
theorem dX2_clash_30 : decode cX2_clash 30 = .ok (.iload_n 2, 1) := by decide +kernel
theorem dX2_clash_31 : decode cX2_clash 31 = .ok (.invokevirtual 107, 3) := by decide +kernel
theorem dX2_clash_34 : decode cX2_clash 34 = .ok (.ifCond .eq 7, 3) := by decide +kernel
theorem dX2_clash_37 : decode cX2_clash 37 = .ok (.iconst 1, 1) := by decide +kernel
theorem dX2_clash_38 : decode cX2_clash 38 = .ok (.goto 4, 3) := by decide +kernel
theorem dX2_clash_41 : decode cX2_clash 41 = .ok (.iconst 0, 1) := by decide +kernel
theorem dX2_clash_42 : decode cX2_clash 42 = .ok (.ireturn, 1) := by decide +kernel
set_option maxRecDepth 20000 in
theorem ggX2_clashes_X2_isStorey : GoodIn wsX2_clashes wsX2_isStorey := goodIn_r _ [6, 7, 8, 5, 9] (by decide +kernel) (by decide +kernel)
set_option maxRecDepth 20000 in
theorem gX2_clashes_X2_isStorey : GoodIn wsX2_clashes (va_wsS RX2 71 yX2_isStorey wsX2_isStorey) := goodIn_app (goodIn_of _ (by decide +kernel)) ggX2_clashes_X2_isStorey
set_option maxRecDepth 20000 in
theorem ggX2_clashes_X2_refused : GoodIn wsX2_clashes wsX2_refused := goodIn_r _ [13, 14, 29, 30, 31, 32, 33, 34, 35, 36, 37, 38, 39, 40, 41, 42, 43, 44, 45, 46] (by decide +kernel) (by decide +kernel)
set_option maxRecDepth 20000 in
theorem gX2_clashes_X2_refused : GoodIn wsX2_clashes (wsV RX2 77 RX2 yX2_refused wsX2_refused) := goodIn_app (goodIn_of _ (by decide +kernel)) ggX2_clashes_X2_refused
set_option maxRecDepth 20000 in
theorem ggX2_clashes_X2_doClash : GoodIn wsX2_clashes wsX2_doClash := goodIn_r _ [18, 19, 2, 20, 21, 22, 23, 24, 25, 26, 27, 5, 28, 29, 30, 31, 32, 33, 34, 35, 36, 37, 38, 39, 40, 41, 42, 43, 44, 45, 46] (by decide +kernel) (by decide +kernel)
set_option maxRecDepth 20000 in
theorem gX2_clashes_X2_doClash : GoodIn wsX2_clashes (wsV RX2 107 RX2 yX2_doClash wsX2_doClash) := goodIn_app (goodIn_of _ (by decide +kernel)) ggX2_clashes_X2_doClash
theorem dX2_clashes_0 : decode cX2_clashes 0 = .ok (.aload_n 0, 1) := by decide +kernel
theorem dX2_clashes_1 : decode cX2_clashes 1 = .ok (.iload_n 1, 1) := by decide +kernel
theorem dX2_clashes_2 : decode cX2_clashes 2 = .ok (.invokestatic 71, 3) := by decide +kernel
theorem dX2_clashes_5 : decode cX2_clashes 5 = .ok (.ifCond .eq 7, 3) := by decide +kernel
theorem dX2_clashes_8 : decode cX2_clashes 8 = .ok (.iconst 0, 1) := by decide +kernel
theorem dX2_clashes_9 : decode cX2_clashes 9 = .ok (.goto 4, 3) := by decide +kernel
theorem dX2_clashes_12 : decode cX2_clashes 12 = .ok (.iconst 1, 1) := by decide +kernel
theorem dX2_clashes_13 : decode cX2_clashes 13 = .ok (.invokevirtual 77, 3) := by decide +kernel
theorem dX2_clashes_16 : decode cX2_clashes 16 = .ok (.ifCond .eq 5, 3) := by decide +kernel
theorem dX2_clashes_19 : decode cX2_clashes 19 = .ok (.iconst 0, 1) := by decide +kernel
theorem dX2_clashes_20 : decode cX2_clashes 20 = .ok (.ireturn, 1) := by decide +kernel
theorem dX2_clashes_21 : decode cX2_clashes 21 = .ok (.iconst 0, 1) := by decide +kernel
theorem dX2_clashes_22 : decode cX2_clashes 22 = .ok (.istore_n 2, 1) := by decide +kernel
theorem dX2_clashes_23 : decode cX2_clashes 23 = .ok (.iconst 0, 1) := by decide +kernel
theorem dX2_clashes_24 : decode cX2_clashes 24 = .ok (.istore_n 3, 1) := by decide +kernel
theorem dX2_clashes_25 : decode cX2_clashes 25 = .ok (.iload_n 3, 1) := by decide +kernel
theorem dX2_clashes_26 : decode cX2_clashes 26 = .ok (.aload_n 0, 1) := by decide +kernel
theorem dX2_clashes_27 : decode cX2_clashes 27 = .ok (.getfield 61, 3) := by decide +kernel
theorem dX2_clashes_30 : decode cX2_clashes 30 = .ok (.if_icmp .ge 52, 3) := by decide +kernel
theorem dX2_clashes_33 : decode cX2_clashes 33 = .ok (.iconst 0, 1) := by decide +kernel
theorem dX2_clashes_34 : decode cX2_clashes 34 = .ok (.istore 4, 2) := by decide +kernel
theorem dX2_clashes_36 : decode cX2_clashes 36 = .ok (.iload 4, 2) := by decide +kernel
theorem dX2_clashes_38 : decode cX2_clashes 38 = .ok (.iload_n 3, 1) := by decide +kernel
theorem dX2_clashes_39 : decode cX2_clashes 39 = .ok (.if_icmp .ge 37, 3) := by decide +kernel
theorem dX2_clashes_42 : decode cX2_clashes 42 = .ok (.iload_n 2, 1) := by decide +kernel
theorem dX2_clashes_43 : decode cX2_clashes 43 = .ok (.aload_n 0, 1) := by decide +kernel
theorem dX2_clashes_44 : decode cX2_clashes 44 = .ok (.getfield 13, 3) := by decide +kernel
theorem dX2_clashes_47 : decode cX2_clashes 47 = .ok (.iload_n 3, 1) := by decide +kernel
theorem dX2_clashes_48 : decode cX2_clashes 48 = .ok (.iaload, 1) := by decide +kernel
theorem dX2_clashes_49 : decode cX2_clashes 49 = .ok (.iload_n 1, 1) := by decide +kernel
theorem dX2_clashes_50 : decode cX2_clashes 50 = .ok (.if_icmp .ne 17, 3) := by decide +kernel
theorem dX2_clashes_53 : decode cX2_clashes 53 = .ok (.aload_n 0, 1) := by decide +kernel
theorem dX2_clashes_54 : decode cX2_clashes 54 = .ok (.iload_n 3, 1) := by decide +kernel
theorem dX2_clashes_55 : decode cX2_clashes 55 = .ok (.iload 4, 2) := by decide +kernel
theorem dX2_clashes_57 : decode cX2_clashes 57 = .ok (.invokevirtual 107, 3) := by decide +kernel
theorem dX2_clashes_60 : decode cX2_clashes 60 = .ok (.ifCond .eq 7, 3) := by decide +kernel
theorem dX2_clashes_63 : decode cX2_clashes 63 = .ok (.iconst 1, 1) := by decide +kernel
theorem dX2_clashes_64 : decode cX2_clashes 64 = .ok (.goto 4, 3) := by decide +kernel
theorem dX2_clashes_67 : decode cX2_clashes 67 = .ok (.iconst 0, 1) := by decide +kernel
theorem dX2_clashes_68 : decode cX2_clashes 68 = .ok (.iadd, 1) := by decide +kernel
theorem dX2_clashes_69 : decode cX2_clashes 69 = .ok (.istore_n 2, 1) := by decide +kernel
theorem dX2_clashes_70 : decode cX2_clashes 70 = .ok (.iinc 4 1, 3) := by decide +kernel
theorem dX2_clashes_73 : decode cX2_clashes 73 = .ok (.goto (-37), 3) := by decide +kernel
theorem dX2_clashes_76 : decode cX2_clashes 76 = .ok (.iinc 3 1, 3) := by decide +kernel
theorem dX2_clashes_79 : decode cX2_clashes 79 = .ok (.goto (-54), 3) := by decide +kernel
theorem dX2_clashes_82 : decode cX2_clashes 82 = .ok (.iload_n 2, 1) := by decide +kernel
theorem dX2_clashes_83 : decode cX2_clashes 83 = .ok (.ireturn, 1) := by decide +kernel
set_option maxRecDepth 20000 in
theorem ggX2_isStopped_X2_isTrade : GoodIn wsX2_isStopped wsX2_isTrade := goodIn_r _ [7, 8, 9, 6, 10] (by decide +kernel) (by decide +kernel)
set_option maxRecDepth 20000 in
theorem gX2_isStopped_X2_isTrade : GoodIn wsX2_isStopped (va_wsS RX2 67 yX2_isTrade wsX2_isTrade) := goodIn_app (goodIn_of _ (by decide +kernel)) ggX2_isStopped_X2_isTrade
set_option maxRecDepth 20000 in
theorem ggX2_isStopped_X2_isStorey : GoodIn wsX2_isStopped wsX2_isStorey := goodIn_r _ [13, 8, 9, 6, 10] (by decide +kernel) (by decide +kernel)
set_option maxRecDepth 20000 in
theorem gX2_isStopped_X2_isStorey : GoodIn wsX2_isStopped (va_wsS RX2 71 yX2_isStorey wsX2_isStorey) := goodIn_app (goodIn_of _ (by decide +kernel)) ggX2_isStopped_X2_isStorey
set_option maxRecDepth 20000 in
theorem ggX2_isStopped_X2_refused : GoodIn wsX2_isStopped wsX2_refused := goodIn_r _ [17, 18, 36, 37, 38, 39, 40, 41, 42, 43, 44, 45, 46, 47, 48, 49, 50, 51, 52, 53] (by decide +kernel) (by decide +kernel)
set_option maxRecDepth 20000 in
theorem gX2_isStopped_X2_refused : GoodIn wsX2_isStopped (wsV RX2 77 RX2 yX2_refused wsX2_refused) := goodIn_app (goodIn_of _ (by decide +kernel)) ggX2_isStopped_X2_refused
set_option maxRecDepth 20000 in
theorem ggX2_isStopped_X2_hasClash : GoodIn wsX2_isStopped wsX2_hasClash := goodIn_r _ [22, 1, 23, 24, 25, 6, 26, 27, 3, 28, 29, 30, 31, 32, 2, 33, 34, 35, 36, 37, 38, 39, 40, 41, 42, 43, 44, 45, 46, 47, 48, 49, 50, 51, 52, 53] (by decide +kernel) (by decide +kernel)
set_option maxRecDepth 20000 in
theorem gX2_isStopped_X2_hasClash : GoodIn wsX2_isStopped (wsV RX2 111 RX2 yX2_hasClash wsX2_hasClash) := goodIn_app (goodIn_of _ (by decide +kernel)) ggX2_isStopped_X2_hasClash
theorem dX2_isStopped_0 : decode cX2_isStopped 0 = .ok (.aload_n 0, 1) := by decide +kernel
theorem dX2_isStopped_1 : decode cX2_isStopped 1 = .ok (.iload_n 1, 1) := by decide +kernel
theorem dX2_isStopped_2 : decode cX2_isStopped 2 = .ok (.invokestatic 67, 3) := by decide +kernel
theorem dX2_isStopped_5 : decode cX2_isStopped 5 = .ok (.ifCond .eq 14, 3) := by decide +kernel
theorem dX2_isStopped_8 : decode cX2_isStopped 8 = .ok (.iload_n 2, 1) := by decide +kernel
theorem dX2_isStopped_9 : decode cX2_isStopped 9 = .ok (.invokestatic 71, 3) := by decide +kernel
theorem dX2_isStopped_12 : decode cX2_isStopped 12 = .ok (.ifCond .eq 7, 3) := by decide +kernel
theorem dX2_isStopped_15 : decode cX2_isStopped 15 = .ok (.iconst 0, 1) := by decide +kernel
theorem dX2_isStopped_16 : decode cX2_isStopped 16 = .ok (.goto 4, 3) := by decide +kernel
theorem dX2_isStopped_19 : decode cX2_isStopped 19 = .ok (.iconst 1, 1) := by decide +kernel
theorem dX2_isStopped_20 : decode cX2_isStopped 20 = .ok (.invokevirtual 77, 3) := by decide +kernel
theorem dX2_isStopped_23 : decode cX2_isStopped 23 = .ok (.ifCond .eq 5, 3) := by decide +kernel
theorem dX2_isStopped_26 : decode cX2_isStopped 26 = .ok (.iconst 0, 1) := by decide +kernel
theorem dX2_isStopped_27 : decode cX2_isStopped 27 = .ok (.ireturn, 1) := by decide +kernel
theorem dX2_isStopped_28 : decode cX2_isStopped 28 = .ok (.iconst 0, 1) := by decide +kernel
theorem dX2_isStopped_29 : decode cX2_isStopped 29 = .ok (.istore_n 3, 1) := by decide +kernel
theorem dX2_isStopped_30 : decode cX2_isStopped 30 = .ok (.iconst 0, 1) := by decide +kernel
theorem dX2_isStopped_31 : decode cX2_isStopped 31 = .ok (.istore 4, 2) := by decide +kernel
theorem dX2_isStopped_33 : decode cX2_isStopped 33 = .ok (.iload 4, 2) := by decide +kernel
theorem dX2_isStopped_35 : decode cX2_isStopped 35 = .ok (.aload_n 0, 1) := by decide +kernel
theorem dX2_isStopped_36 : decode cX2_isStopped 36 = .ok (.getfield 61, 3) := by decide +kernel
theorem dX2_isStopped_39 : decode cX2_isStopped 39 = .ok (.if_icmp .ge 50, 3) := by decide +kernel
theorem dX2_isStopped_42 : decode cX2_isStopped 42 = .ok (.iload_n 3, 1) := by decide +kernel
theorem dX2_isStopped_43 : decode cX2_isStopped 43 = .ok (.ifCond .ne 34, 3) := by decide +kernel
theorem dX2_isStopped_46 : decode cX2_isStopped 46 = .ok (.aload_n 0, 1) := by decide +kernel
theorem dX2_isStopped_47 : decode cX2_isStopped 47 = .ok (.getfield 7, 3) := by decide +kernel
theorem dX2_isStopped_50 : decode cX2_isStopped 50 = .ok (.iload 4, 2) := by decide +kernel
theorem dX2_isStopped_52 : decode cX2_isStopped 52 = .ok (.iaload, 1) := by decide +kernel
theorem dX2_isStopped_53 : decode cX2_isStopped 53 = .ok (.iload_n 1, 1) := by decide +kernel
theorem dX2_isStopped_54 : decode cX2_isStopped 54 = .ok (.if_icmp .ne 27, 3) := by decide +kernel
theorem dX2_isStopped_57 : decode cX2_isStopped 57 = .ok (.aload_n 0, 1) := by decide +kernel
theorem dX2_isStopped_58 : decode cX2_isStopped 58 = .ok (.getfield 13, 3) := by decide +kernel
theorem dX2_isStopped_61 : decode cX2_isStopped 61 = .ok (.iload 4, 2) := by decide +kernel
theorem dX2_isStopped_63 : decode cX2_isStopped 63 = .ok (.iaload, 1) := by decide +kernel
theorem dX2_isStopped_64 : decode cX2_isStopped 64 = .ok (.iload_n 2, 1) := by decide +kernel
theorem dX2_isStopped_65 : decode cX2_isStopped 65 = .ok (.if_icmp .ne 16, 3) := by decide +kernel
theorem dX2_isStopped_68 : decode cX2_isStopped 68 = .ok (.aload_n 0, 1) := by decide +kernel
theorem dX2_isStopped_69 : decode cX2_isStopped 69 = .ok (.iload 4, 2) := by decide +kernel
theorem dX2_isStopped_71 : decode cX2_isStopped 71 = .ok (.invokevirtual 111, 3) := by decide +kernel
theorem dX2_isStopped_74 : decode cX2_isStopped 74 = .ok (.ifCond .eq 7, 3) := by decide +kernel
theorem dX2_isStopped_77 : decode cX2_isStopped 77 = .ok (.iconst 1, 1) := by decide +kernel
theorem dX2_isStopped_78 : decode cX2_isStopped 78 = .ok (.goto 4, 3) := by decide +kernel
theorem dX2_isStopped_81 : decode cX2_isStopped 81 = .ok (.iconst 0, 1) := by decide +kernel
theorem dX2_isStopped_82 : decode cX2_isStopped 82 = .ok (.istore_n 3, 1) := by decide +kernel
theorem dX2_isStopped_83 : decode cX2_isStopped 83 = .ok (.iinc 4 1, 3) := by decide +kernel
theorem dX2_isStopped_86 : decode cX2_isStopped 86 = .ok (.goto (-53), 3) := by decide +kernel
theorem dX2_isStopped_89 : decode cX2_isStopped 89 = .ok (.iload_n 3, 1) := by decide +kernel
theorem dX2_isStopped_90 : decode cX2_isStopped 90 = .ok (.ireturn, 1) := by decide +kernel
set_option maxRecDepth 20000 in
theorem ggX2_partsFrom_X2_in : GoodIn wsX2_partsFrom wsX2_in := goodIn_r _ [7] (by decide +kernel) (by decide +kernel)
set_option maxRecDepth 20000 in
theorem gX2_partsFrom_X2_in : GoodIn wsX2_partsFrom (va_wsS RX2 57 yX2_in wsX2_in) := goodIn_app (goodIn_of _ (by decide +kernel)) ggX2_partsFrom_X2_in
set_option maxRecDepth 20000 in
theorem ggX2_partsFrom_X2_partsOf : GoodIn wsX2_partsFrom wsX2_partsOf := goodIn_r _ [11, 12, 2, 13, 14, 15, 6, 16, 17, 18, 19, 20, 21, 22, 23, 24, 25, 26, 27, 28, 29, 30, 31, 32, 33, 34, 35, 36, 37, 38, 39, 40, 41] (by decide +kernel) (by decide +kernel)
set_option maxRecDepth 20000 in
theorem gX2_partsFrom_X2_partsOf : GoodIn wsX2_partsFrom (wsV RX2 100 RX2 yX2_partsOf wsX2_partsOf) := goodIn_app (goodIn_of _ (by decide +kernel)) ggX2_partsFrom_X2_partsOf
theorem dX2_partsFrom_0 : decode cX2_partsFrom 0 = .ok (.iconst 0, 1) := by decide +kernel
theorem dX2_partsFrom_1 : decode cX2_partsFrom 1 = .ok (.istore_n 3, 1) := by decide +kernel
theorem dX2_partsFrom_2 : decode cX2_partsFrom 2 = .ok (.iconst 0, 1) := by decide +kernel
theorem dX2_partsFrom_3 : decode cX2_partsFrom 3 = .ok (.istore 4, 2) := by decide +kernel
theorem dX2_partsFrom_5 : decode cX2_partsFrom 5 = .ok (.iload 4, 2) := by decide +kernel
theorem dX2_partsFrom_7 : decode cX2_partsFrom 7 = .ok (.aload_n 0, 1) := by decide +kernel
theorem dX2_partsFrom_8 : decode cX2_partsFrom 8 = .ok (.getfield 61, 3) := by decide +kernel
theorem dX2_partsFrom_11 : decode cX2_partsFrom 11 = .ok (.if_icmp .ge 48, 3) := by decide +kernel
theorem dX2_partsFrom_14 : decode cX2_partsFrom 14 = .ok (.iload_n 3, 1) := by decide +kernel
theorem dX2_partsFrom_15 : decode cX2_partsFrom 15 = .ok (.aload_n 0, 1) := by decide +kernel
theorem dX2_partsFrom_16 : decode cX2_partsFrom 16 = .ok (.getfield 7, 3) := by decide +kernel
theorem dX2_partsFrom_19 : decode cX2_partsFrom 19 = .ok (.iload 4, 2) := by decide +kernel
theorem dX2_partsFrom_21 : decode cX2_partsFrom 21 = .ok (.iaload, 1) := by decide +kernel
theorem dX2_partsFrom_22 : decode cX2_partsFrom 22 = .ok (.iload_n 1, 1) := by decide +kernel
theorem dX2_partsFrom_23 : decode cX2_partsFrom 23 = .ok (.if_icmp .ne 27, 3) := by decide +kernel
theorem dX2_partsFrom_26 : decode cX2_partsFrom 26 = .ok (.aload_n 0, 1) := by decide +kernel
theorem dX2_partsFrom_27 : decode cX2_partsFrom 27 = .ok (.getfield 28, 3) := by decide +kernel
theorem dX2_partsFrom_30 : decode cX2_partsFrom 30 = .ok (.iload 4, 2) := by decide +kernel
theorem dX2_partsFrom_32 : decode cX2_partsFrom 32 = .ok (.iaload, 1) := by decide +kernel
theorem dX2_partsFrom_33 : decode cX2_partsFrom 33 = .ok (.iload_n 2, 1) := by decide +kernel
theorem dX2_partsFrom_34 : decode cX2_partsFrom 34 = .ok (.iconst 3, 1) := by decide +kernel
theorem dX2_partsFrom_35 : decode cX2_partsFrom 35 = .ok (.invokestatic 57, 3) := by decide +kernel
theorem dX2_partsFrom_38 : decode cX2_partsFrom 38 = .ok (.ifCond .eq 12, 3) := by decide +kernel
theorem dX2_partsFrom_41 : decode cX2_partsFrom 41 = .ok (.aload_n 0, 1) := by decide +kernel
theorem dX2_partsFrom_42 : decode cX2_partsFrom 42 = .ok (.iload 4, 2) := by decide +kernel
theorem dX2_partsFrom_44 : decode cX2_partsFrom 44 = .ok (.invokevirtual 100, 3) := by decide +kernel
theorem dX2_partsFrom_47 : decode cX2_partsFrom 47 = .ok (.goto 4, 3) := by decide +kernel
theorem dX2_partsFrom_50 : decode cX2_partsFrom 50 = .ok (.iconst 0, 1) := by decide +kernel
theorem dX2_partsFrom_51 : decode cX2_partsFrom 51 = .ok (.iadd, 1) := by decide +kernel
theorem dX2_partsFrom_52 : decode cX2_partsFrom 52 = .ok (.istore_n 3, 1) := by decide +kernel
theorem dX2_partsFrom_53 : decode cX2_partsFrom 53 = .ok (.iinc 4 1, 3) := by decide +kernel
theorem dX2_partsFrom_56 : decode cX2_partsFrom 56 = .ok (.goto (-51), 3) := by decide +kernel
theorem dX2_partsFrom_59 : decode cX2_partsFrom 59 = .ok (.iload_n 3, 1) := by decide +kernel
theorem dX2_partsFrom_60 : decode cX2_partsFrom 60 = .ok (.ireturn, 1) := by decide +kernel
set_option maxRecDepth 20000 in
theorem ggX2_parts_X2_isTrade : GoodIn wsX2_parts wsX2_isTrade := goodIn_r _ [4, 5, 6, 3, 7] (by decide +kernel) (by decide +kernel)
set_option maxRecDepth 20000 in
theorem gX2_parts_X2_isTrade : GoodIn wsX2_parts (va_wsS RX2 67 yX2_isTrade wsX2_isTrade) := goodIn_app (goodIn_of _ (by decide +kernel)) ggX2_parts_X2_isTrade
set_option maxRecDepth 20000 in
theorem ggX2_parts_X2_refused : GoodIn wsX2_parts wsX2_refused := goodIn_r _ [11, 12, 36, 37, 38, 39, 40, 41, 42, 43, 44, 45, 46, 47, 48, 49, 50, 51, 52, 53] (by decide +kernel) (by decide +kernel)
set_option maxRecDepth 20000 in
theorem gX2_parts_X2_refused : GoodIn wsX2_parts (wsV RX2 77 RX2 yX2_refused wsX2_refused) := goodIn_app (goodIn_of _ (by decide +kernel)) ggX2_parts_X2_refused
set_option maxRecDepth 20000 in
theorem ggX2_parts_X2_partsFrom : GoodIn wsX2_parts wsX2_partsFrom := goodIn_r _ [16, 17, 18, 19, 5, 6, 3, 7, 20, 21, 22, 23, 24, 25, 26, 27, 28, 29, 30, 31, 32, 33, 34, 35, 36, 37, 38, 39, 40, 41, 42, 43, 44, 45, 46, 47, 48, 49, 50, 51, 52, 53] (by decide +kernel) (by decide +kernel)
set_option maxRecDepth 20000 in
theorem gX2_parts_X2_partsFrom : GoodIn wsX2_parts (wsV RX2 114 RX2 yX2_partsFrom wsX2_partsFrom) := goodIn_app (goodIn_of _ (by decide +kernel)) ggX2_parts_X2_partsFrom
theorem dX2_parts_0 : decode cX2_parts 0 = .ok (.aload_n 0, 1) := by decide +kernel
theorem dX2_parts_1 : decode cX2_parts 1 = .ok (.iload_n 1, 1) := by decide +kernel
theorem dX2_parts_2 : decode cX2_parts 2 = .ok (.invokestatic 67, 3) := by decide +kernel
theorem dX2_parts_5 : decode cX2_parts 5 = .ok (.ifCond .eq 7, 3) := by decide +kernel
theorem dX2_parts_8 : decode cX2_parts 8 = .ok (.iconst 0, 1) := by decide +kernel
theorem dX2_parts_9 : decode cX2_parts 9 = .ok (.goto 4, 3) := by decide +kernel
theorem dX2_parts_12 : decode cX2_parts 12 = .ok (.iconst 1, 1) := by decide +kernel
theorem dX2_parts_13 : decode cX2_parts 13 = .ok (.invokevirtual 77, 3) := by decide +kernel
theorem dX2_parts_16 : decode cX2_parts 16 = .ok (.ifCond .eq 7, 3) := by decide +kernel
theorem dX2_parts_19 : decode cX2_parts 19 = .ok (.iconst 0, 1) := by decide +kernel
theorem dX2_parts_20 : decode cX2_parts 20 = .ok (.goto 9, 3) := by decide +kernel
theorem dX2_parts_23 : decode cX2_parts 23 = .ok (.aload_n 0, 1) := by decide +kernel
theorem dX2_parts_24 : decode cX2_parts 24 = .ok (.iload_n 1, 1) := by decide +kernel
theorem dX2_parts_25 : decode cX2_parts 25 = .ok (.iconst 0, 1) := by decide +kernel
theorem dX2_parts_26 : decode cX2_parts 26 = .ok (.invokevirtual 114, 3) := by decide +kernel
theorem dX2_parts_29 : decode cX2_parts 29 = .ok (.ireturn, 1) := by decide +kernel
set_option maxRecDepth 20000 in
theorem ggX2_partsAnew_X2_parts : GoodIn wsX2_partsAnew wsX2_parts := goodIn_r _ [5, 6, 7, 4, 8, 9, 10, 11, 12, 13, 14, 15, 16, 17, 18, 19, 20, 21, 22, 23, 24, 25, 26, 27, 28, 29, 30, 31, 32, 33, 34, 35, 36, 37, 38, 39, 40, 41, 42, 43, 44, 45, 46, 47, 48, 49, 50, 51, 52, 53, 54, 55, 56, 57] (by decide +kernel) (by decide +kernel)
set_option maxRecDepth 20000 in
theorem gX2_partsAnew_X2_parts : GoodIn wsX2_partsAnew (wsV RX2 118 RX2 yX2_parts wsX2_parts) := goodIn_app (goodIn_of _ (by decide +kernel)) ggX2_partsAnew_X2_parts
theorem dX2_partsAnew_0 : decode cX2_partsAnew 0 = .ok (.aload_n 0, 1) := by decide +kernel
theorem dX2_partsAnew_1 : decode cX2_partsAnew 1 = .ok (.iload_n 1, 1) := by decide +kernel
theorem dX2_partsAnew_2 : decode cX2_partsAnew 2 = .ok (.invokevirtual 118, 3) := by decide +kernel
theorem dX2_partsAnew_5 : decode cX2_partsAnew 5 = .ok (.ireturn, 1) := by decide +kernel
set_option maxRecDepth 20000 in
theorem ggX2_ordered_X2_isTrade : GoodIn wsX2_ordered wsX2_isTrade := goodIn_r _ [4, 5, 6, 3, 7] (by decide +kernel) (by decide +kernel)
set_option maxRecDepth 20000 in
theorem gX2_ordered_X2_isTrade : GoodIn wsX2_ordered (va_wsS RX2 67 yX2_isTrade wsX2_isTrade) := goodIn_app (goodIn_of _ (by decide +kernel)) ggX2_ordered_X2_isTrade
set_option maxRecDepth 20000 in
theorem ggX2_ordered_X2_refused : GoodIn wsX2_ordered wsX2_refused := goodIn_r _ [11, 12, 36, 37, 38, 39, 40, 41, 42, 43, 44, 45, 46, 47, 48, 49, 50, 51, 52, 53] (by decide +kernel) (by decide +kernel)
set_option maxRecDepth 20000 in
theorem gX2_ordered_X2_refused : GoodIn wsX2_ordered (wsV RX2 77 RX2 yX2_refused wsX2_refused) := goodIn_app (goodIn_of _ (by decide +kernel)) ggX2_ordered_X2_refused
set_option maxRecDepth 20000 in
theorem ggX2_ordered_X2_partsFrom : GoodIn wsX2_ordered wsX2_partsFrom := goodIn_r _ [16, 17, 18, 19, 5, 6, 3, 7, 20, 21, 22, 23, 24, 25, 26, 27, 28, 29, 30, 31, 32, 33, 34, 35, 36, 37, 38, 39, 40, 41, 42, 43, 44, 45, 46, 47, 48, 49, 50, 51, 52, 53] (by decide +kernel) (by decide +kernel)
set_option maxRecDepth 20000 in
theorem gX2_ordered_X2_partsFrom : GoodIn wsX2_ordered (wsV RX2 114 RX2 yX2_partsFrom wsX2_partsFrom) := goodIn_app (goodIn_of _ (by decide +kernel)) ggX2_ordered_X2_partsFrom
theorem dX2_ordered_0 : decode cX2_ordered 0 = .ok (.aload_n 0, 1) := by decide +kernel
theorem dX2_ordered_1 : decode cX2_ordered 1 = .ok (.iload_n 1, 1) := by decide +kernel
theorem dX2_ordered_2 : decode cX2_ordered 2 = .ok (.invokestatic 67, 3) := by decide +kernel
theorem dX2_ordered_5 : decode cX2_ordered 5 = .ok (.ifCond .eq 7, 3) := by decide +kernel
theorem dX2_ordered_8 : decode cX2_ordered 8 = .ok (.iconst 0, 1) := by decide +kernel
theorem dX2_ordered_9 : decode cX2_ordered 9 = .ok (.goto 4, 3) := by decide +kernel
theorem dX2_ordered_12 : decode cX2_ordered 12 = .ok (.iconst 1, 1) := by decide +kernel
theorem dX2_ordered_13 : decode cX2_ordered 13 = .ok (.invokevirtual 77, 3) := by decide +kernel
theorem dX2_ordered_16 : decode cX2_ordered 16 = .ok (.ifCond .eq 7, 3) := by decide +kernel
theorem dX2_ordered_19 : decode cX2_ordered 19 = .ok (.iconst 0, 1) := by decide +kernel
theorem dX2_ordered_20 : decode cX2_ordered 20 = .ok (.goto 9, 3) := by decide +kernel
theorem dX2_ordered_23 : decode cX2_ordered 23 = .ok (.aload_n 0, 1) := by decide +kernel
theorem dX2_ordered_24 : decode cX2_ordered 24 = .ok (.iload_n 1, 1) := by decide +kernel
theorem dX2_ordered_25 : decode cX2_ordered 25 = .ok (.iconst 1, 1) := by decide +kernel
theorem dX2_ordered_26 : decode cX2_ordered 26 = .ok (.invokevirtual 114, 3) := by decide +kernel
theorem dX2_ordered_29 : decode cX2_ordered 29 = .ok (.ireturn, 1) := by decide +kernel
set_option maxRecDepth 20000 in
theorem ggX2_kindsAt_X2_isStorey : GoodIn wsX2_kindsAt wsX2_isStorey := goodIn_r _ [12, 13, 14, 11, 15] (by decide +kernel) (by decide +kernel)
set_option maxRecDepth 20000 in
theorem gX2_kindsAt_X2_isStorey : GoodIn wsX2_kindsAt (va_wsS RX2 71 yX2_isStorey wsX2_isStorey) := goodIn_app (goodIn_of _ (by decide +kernel)) ggX2_kindsAt_X2_isStorey
set_option maxRecDepth 20000 in
theorem ggX2_kindsAt_X2_isSide : GoodIn wsX2_kindsAt wsX2_isSide := goodIn_r _ [18, 13, 14, 11, 15] (by decide +kernel) (by decide +kernel)
set_option maxRecDepth 20000 in
theorem gX2_kindsAt_X2_isSide : GoodIn wsX2_kindsAt (va_wsS RX2 74 yX2_isSide wsX2_isSide) := goodIn_app (goodIn_of _ (by decide +kernel)) ggX2_kindsAt_X2_isSide
set_option maxRecDepth 20000 in
theorem ggX2_kindsAt_X2_refused : GoodIn wsX2_kindsAt wsX2_refused := goodIn_r _ [22, 23, 27, 28, 29, 30, 31, 32, 33, 34, 35, 36, 37, 38, 39, 40, 41, 42, 43, 44] (by decide +kernel) (by decide +kernel)
set_option maxRecDepth 20000 in
theorem gX2_kindsAt_X2_refused : GoodIn wsX2_kindsAt (wsV RX2 77 RX2 yX2_refused wsX2_refused) := goodIn_app (goodIn_of _ (by decide +kernel)) ggX2_kindsAt_X2_refused
set_option maxRecDepth 20000 in
theorem ggX2_kindsAt_X2_gap : GoodIn wsX2_kindsAt wsX2_gap := goodIn_r _ [26] (by decide +kernel) (by decide +kernel)
set_option maxRecDepth 20000 in
theorem gX2_kindsAt_X2_gap : GoodIn wsX2_kindsAt (va_wsS RX2 103 yX2_gap wsX2_gap) := goodIn_app (goodIn_of _ (by decide +kernel)) ggX2_kindsAt_X2_gap
theorem dX2_kindsAt_0 : decode cX2_kindsAt 0 = .ok (.aload_n 0, 1) := by decide +kernel
theorem dX2_kindsAt_1 : decode cX2_kindsAt 1 = .ok (.iload_n 1, 1) := by decide +kernel
theorem dX2_kindsAt_2 : decode cX2_kindsAt 2 = .ok (.invokestatic 71, 3) := by decide +kernel
theorem dX2_kindsAt_5 : decode cX2_kindsAt 5 = .ok (.ifCond .ne 7, 3) := by decide +kernel
theorem dX2_kindsAt_8 : decode cX2_kindsAt 8 = .ok (.iconst 1, 1) := by decide +kernel
theorem dX2_kindsAt_9 : decode cX2_kindsAt 9 = .ok (.goto 22, 3) := by decide +kernel
theorem dX2_kindsAt_12 : decode cX2_kindsAt 12 = .ok (.iload_n 2, 1) := by decide +kernel
theorem dX2_kindsAt_13 : decode cX2_kindsAt 13 = .ok (.invokestatic 74, 3) := by decide +kernel
theorem dX2_kindsAt_16 : decode cX2_kindsAt 16 = .ok (.ifCond .eq 10, 3) := by decide +kernel
theorem dX2_kindsAt_19 : decode cX2_kindsAt 19 = .ok (.iload_n 3, 1) := by decide +kernel
theorem dX2_kindsAt_20 : decode cX2_kindsAt 20 = .ok (.invokestatic 74, 3) := by decide +kernel
theorem dX2_kindsAt_23 : decode cX2_kindsAt 23 = .ok (.ifCond .ne 7, 3) := by decide +kernel
theorem dX2_kindsAt_26 : decode cX2_kindsAt 26 = .ok (.iconst 2, 1) := by decide +kernel
theorem dX2_kindsAt_27 : decode cX2_kindsAt 27 = .ok (.goto 4, 3) := by decide +kernel
theorem dX2_kindsAt_30 : decode cX2_kindsAt 30 = .ok (.iconst 0, 1) := by decide +kernel
theorem dX2_kindsAt_31 : decode cX2_kindsAt 31 = .ok (.invokevirtual 77, 3) := by decide +kernel
theorem dX2_kindsAt_34 : decode cX2_kindsAt 34 = .ok (.ifCond .eq 5, 3) := by decide +kernel
theorem dX2_kindsAt_37 : decode cX2_kindsAt 37 = .ok (.iconst 0, 1) := by decide +kernel
theorem dX2_kindsAt_38 : decode cX2_kindsAt 38 = .ok (.ireturn, 1) := by decide +kernel
theorem dX2_kindsAt_39 : decode cX2_kindsAt 39 = .ok (.iconst 0, 1) := by decide +kernel
theorem dX2_kindsAt_40 : decode cX2_kindsAt 40 = .ok (.istore 4, 2) := by decide +kernel
theorem dX2_kindsAt_42 : decode cX2_kindsAt 42 = .ok (.iconst 0, 1) := by decide +kernel
theorem dX2_kindsAt_43 : decode cX2_kindsAt 43 = .ok (.istore 5, 2) := by decide +kernel
theorem dX2_kindsAt_45 : decode cX2_kindsAt 45 = .ok (.iload 5, 2) := by decide +kernel
theorem dX2_kindsAt_47 : decode cX2_kindsAt 47 = .ok (.aload_n 0, 1) := by decide +kernel
theorem dX2_kindsAt_48 : decode cX2_kindsAt 48 = .ok (.getfield 61, 3) := by decide +kernel
theorem dX2_kindsAt_51 : decode cX2_kindsAt 51 = .ok (.if_icmp .ge 105, 3) := by decide +kernel
theorem dX2_kindsAt_54 : decode cX2_kindsAt 54 = .ok (.aload_n 0, 1) := by decide +kernel
theorem dX2_kindsAt_55 : decode cX2_kindsAt 55 = .ok (.getfield 28, 3) := by decide +kernel
theorem dX2_kindsAt_58 : decode cX2_kindsAt 58 = .ok (.iload 5, 2) := by decide +kernel
theorem dX2_kindsAt_60 : decode cX2_kindsAt 60 = .ok (.iaload, 1) := by decide +kernel
theorem dX2_kindsAt_61 : decode cX2_kindsAt 61 = .ok (.iconst 4, 1) := by decide +kernel
theorem dX2_kindsAt_62 : decode cX2_kindsAt 62 = .ok (.if_icmp .eq 62, 3) := by decide +kernel
theorem dX2_kindsAt_65 : decode cX2_kindsAt 65 = .ok (.aload_n 0, 1) := by decide +kernel
theorem dX2_kindsAt_66 : decode cX2_kindsAt 66 = .ok (.getfield 13, 3) := by decide +kernel
theorem dX2_kindsAt_69 : decode cX2_kindsAt 69 = .ok (.iload 5, 2) := by decide +kernel
theorem dX2_kindsAt_71 : decode cX2_kindsAt 71 = .ok (.iaload, 1) := by decide +kernel
theorem dX2_kindsAt_72 : decode cX2_kindsAt 72 = .ok (.iload_n 1, 1) := by decide +kernel
theorem dX2_kindsAt_73 : decode cX2_kindsAt 73 = .ok (.if_icmp .ne 51, 3) := by decide +kernel
theorem dX2_kindsAt_76 : decode cX2_kindsAt 76 = .ok (.aload_n 0, 1) := by decide +kernel
theorem dX2_kindsAt_77 : decode cX2_kindsAt 77 = .ok (.getfield 16, 3) := by decide +kernel
theorem dX2_kindsAt_80 : decode cX2_kindsAt 80 = .ok (.iload 5, 2) := by decide +kernel
theorem dX2_kindsAt_82 : decode cX2_kindsAt 82 = .ok (.iaload, 1) := by decide +kernel
theorem dX2_kindsAt_83 : decode cX2_kindsAt 83 = .ok (.aload_n 0, 1) := by decide +kernel
theorem dX2_kindsAt_84 : decode cX2_kindsAt 84 = .ok (.getfield 22, 3) := by decide +kernel
theorem dX2_kindsAt_87 : decode cX2_kindsAt 87 = .ok (.iload 5, 2) := by decide +kernel
theorem dX2_kindsAt_89 : decode cX2_kindsAt 89 = .ok (.iaload, 1) := by decide +kernel
theorem dX2_kindsAt_90 : decode cX2_kindsAt 90 = .ok (.iload_n 2, 1) := by decide +kernel
theorem dX2_kindsAt_91 : decode cX2_kindsAt 91 = .ok (.iload_n 2, 1) := by decide +kernel
theorem dX2_kindsAt_92 : decode cX2_kindsAt 92 = .ok (.invokestatic 103, 3) := by decide +kernel
theorem dX2_kindsAt_95 : decode cX2_kindsAt 95 = .ok (.ifCond .ne 29, 3) := by decide +kernel
theorem dX2_kindsAt_98 : decode cX2_kindsAt 98 = .ok (.aload_n 0, 1) := by decide +kernel
theorem dX2_kindsAt_99 : decode cX2_kindsAt 99 = .ok (.getfield 19, 3) := by decide +kernel
theorem dX2_kindsAt_102 : decode cX2_kindsAt 102 = .ok (.iload 5, 2) := by decide +kernel
theorem dX2_kindsAt_104 : decode cX2_kindsAt 104 = .ok (.iaload, 1) := by decide +kernel
theorem dX2_kindsAt_105 : decode cX2_kindsAt 105 = .ok (.aload_n 0, 1) := by decide +kernel
theorem dX2_kindsAt_106 : decode cX2_kindsAt 106 = .ok (.getfield 25, 3) := by decide +kernel
theorem dX2_kindsAt_109 : decode cX2_kindsAt 109 = .ok (.iload 5, 2) := by decide +kernel
theorem dX2_kindsAt_111 : decode cX2_kindsAt 111 = .ok (.iaload, 1) := by decide +kernel
theorem dX2_kindsAt_112 : decode cX2_kindsAt 112 = .ok (.iload_n 3, 1) := by decide +kernel
theorem dX2_kindsAt_113 : decode cX2_kindsAt 113 = .ok (.iload_n 3, 1) := by decide +kernel
theorem dX2_kindsAt_114 : decode cX2_kindsAt 114 = .ok (.invokestatic 103, 3) := by decide +kernel
theorem dX2_kindsAt_117 : decode cX2_kindsAt 117 = .ok (.ifCond .ne 7, 3) := by decide +kernel
theorem dX2_kindsAt_120 : decode cX2_kindsAt 120 = .ok (.iconst 1, 1) := by decide +kernel
theorem dX2_kindsAt_121 : decode cX2_kindsAt 121 = .ok (.goto 4, 3) := by decide +kernel
theorem dX2_kindsAt_124 : decode cX2_kindsAt 124 = .ok (.iconst 0, 1) := by decide +kernel
theorem dX2_kindsAt_125 : decode cX2_kindsAt 125 = .ok (.istore 6, 2) := by decide +kernel
theorem dX2_kindsAt_127 : decode cX2_kindsAt 127 = .ok (.iload 4, 2) := by decide +kernel
theorem dX2_kindsAt_129 : decode cX2_kindsAt 129 = .ok (.iload 6, 2) := by decide +kernel
theorem dX2_kindsAt_131 : decode cX2_kindsAt 131 = .ok (.ifCond .eq 15, 3) := by decide +kernel
theorem dX2_kindsAt_134 : decode cX2_kindsAt 134 = .ok (.iconst 1, 1) := by decide +kernel
theorem dX2_kindsAt_135 : decode cX2_kindsAt 135 = .ok (.aload_n 0, 1) := by decide +kernel
theorem dX2_kindsAt_136 : decode cX2_kindsAt 136 = .ok (.getfield 7, 3) := by decide +kernel
theorem dX2_kindsAt_139 : decode cX2_kindsAt 139 = .ok (.iload 5, 2) := by decide +kernel
theorem dX2_kindsAt_141 : decode cX2_kindsAt 141 = .ok (.iaload, 1) := by decide +kernel
theorem dX2_kindsAt_142 : decode cX2_kindsAt 142 = .ok (.ishl, 1) := by decide +kernel
theorem dX2_kindsAt_143 : decode cX2_kindsAt 143 = .ok (.goto 4, 3) := by decide +kernel
theorem dX2_kindsAt_146 : decode cX2_kindsAt 146 = .ok (.iconst 0, 1) := by decide +kernel
theorem dX2_kindsAt_147 : decode cX2_kindsAt 147 = .ok (.ior, 1) := by decide +kernel
theorem dX2_kindsAt_148 : decode cX2_kindsAt 148 = .ok (.istore 4, 2) := by decide +kernel
theorem dX2_kindsAt_150 : decode cX2_kindsAt 150 = .ok (.iinc 5 1, 3) := by decide +kernel
theorem dX2_kindsAt_153 : decode cX2_kindsAt 153 = .ok (.goto (-108), 3) := by decide +kernel
theorem dX2_kindsAt_156 : decode cX2_kindsAt 156 = .ok (.iload 4, 2) := by decide +kernel
theorem dX2_kindsAt_158 : decode cX2_kindsAt 158 = .ok (.ireturn, 1) := by decide +kernel
set_option maxRecDepth 20000 in
theorem ggX2_isLocked_X2_isStorey : GoodIn wsX2_isLocked wsX2_isStorey := goodIn_r _ [5, 6, 7, 4, 8] (by decide +kernel) (by decide +kernel)
set_option maxRecDepth 20000 in
theorem gX2_isLocked_X2_isStorey : GoodIn wsX2_isLocked (va_wsS RX2 71 yX2_isStorey wsX2_isStorey) := goodIn_app (goodIn_of _ (by decide +kernel)) ggX2_isLocked_X2_isStorey
set_option maxRecDepth 20000 in
theorem ggX2_isLocked_X2_refused : GoodIn wsX2_isLocked wsX2_refused := goodIn_r _ [12, 13, 14, 15, 16, 17, 18, 19, 20, 21, 22, 23, 24, 25, 26, 27, 28, 29, 30, 31] (by decide +kernel) (by decide +kernel)
set_option maxRecDepth 20000 in
theorem gX2_isLocked_X2_refused : GoodIn wsX2_isLocked (wsV RX2 77 RX2 yX2_refused wsX2_refused) := goodIn_app (goodIn_of _ (by decide +kernel)) ggX2_isLocked_X2_refused
theorem dX2_isLocked_0 : decode cX2_isLocked 0 = .ok (.aload_n 0, 1) := by decide +kernel
theorem dX2_isLocked_1 : decode cX2_isLocked 1 = .ok (.iload_n 1, 1) := by decide +kernel
theorem dX2_isLocked_2 : decode cX2_isLocked 2 = .ok (.invokestatic 71, 3) := by decide +kernel
theorem dX2_isLocked_5 : decode cX2_isLocked 5 = .ok (.ifCond .eq 7, 3) := by decide +kernel
theorem dX2_isLocked_8 : decode cX2_isLocked 8 = .ok (.iconst 0, 1) := by decide +kernel
theorem dX2_isLocked_9 : decode cX2_isLocked 9 = .ok (.goto 4, 3) := by decide +kernel
theorem dX2_isLocked_12 : decode cX2_isLocked 12 = .ok (.iconst 1, 1) := by decide +kernel
theorem dX2_isLocked_13 : decode cX2_isLocked 13 = .ok (.invokevirtual 77, 3) := by decide +kernel
theorem dX2_isLocked_16 : decode cX2_isLocked 16 = .ok (.ifCond .ne 16, 3) := by decide +kernel
theorem dX2_isLocked_19 : decode cX2_isLocked 19 = .ok (.aload_n 0, 1) := by decide +kernel
theorem dX2_isLocked_20 : decode cX2_isLocked 20 = .ok (.getfield 49, 3) := by decide +kernel
theorem dX2_isLocked_23 : decode cX2_isLocked 23 = .ok (.iload_n 1, 1) := by decide +kernel
theorem dX2_isLocked_24 : decode cX2_isLocked 24 = .ok (.baload, 1) := by decide +kernel
theorem dX2_isLocked_25 : decode cX2_isLocked 25 = .ok (.ifCond .eq 7, 3) := by decide +kernel
theorem dX2_isLocked_28 : decode cX2_isLocked 28 = .ok (.iconst 1, 1) := by decide +kernel
theorem dX2_isLocked_29 : decode cX2_isLocked 29 = .ok (.goto 4, 3) := by decide +kernel
theorem dX2_isLocked_32 : decode cX2_isLocked 32 = .ok (.iconst 0, 1) := by decide +kernel
theorem dX2_isLocked_33 : decode cX2_isLocked 33 = .ok (.ireturn, 1) := by decide +kernel
theorem dJ9_abs_0f7a4_0 : decode cJ9_abs_0f7a4 0 = .ok (.iload_n 0, 1) := by decide +kernel
theorem dJ9_abs_0f7a4_1 : decode cJ9_abs_0f7a4 1 = .ok (.ifCond .ge 8, 3) := by decide +kernel
theorem dJ9_abs_0f7a4_4 : decode cJ9_abs_0f7a4 4 = .ok (.iload_n 0, 1) := by decide +kernel
theorem dJ9_abs_0f7a4_5 : decode cJ9_abs_0f7a4 5 = .ok (.ineg, 1) := by decide +kernel
theorem dJ9_abs_0f7a4_6 : decode cJ9_abs_0f7a4 6 = .ok (.goto 4, 3) := by decide +kernel
theorem dJ9_abs_0f7a4_9 : decode cJ9_abs_0f7a4 9 = .ok (.iload_n 0, 1) := by decide +kernel
theorem dJ9_abs_0f7a4_10 : decode cJ9_abs_0f7a4 10 = .ok (.ireturn, 1) := by decide +kernel
theorem dJ9_max_7cf53_0 : decode cJ9_max_7cf53 0 = .ok (.iload_n 0, 1) := by decide +kernel
theorem dJ9_max_7cf53_1 : decode cJ9_max_7cf53 1 = .ok (.iload_n 1, 1) := by decide +kernel
theorem dJ9_max_7cf53_2 : decode cJ9_max_7cf53 2 = .ok (.if_icmp .lt 7, 3) := by decide +kernel
theorem dJ9_max_7cf53_5 : decode cJ9_max_7cf53 5 = .ok (.iload_n 0, 1) := by decide +kernel
theorem dJ9_max_7cf53_6 : decode cJ9_max_7cf53 6 = .ok (.goto 4, 3) := by decide +kernel
theorem dJ9_max_7cf53_9 : decode cJ9_max_7cf53 9 = .ok (.iload_n 1, 1) := by decide +kernel
theorem dJ9_max_7cf53_10 : decode cJ9_max_7cf53 10 = .ok (.ireturn, 1) := by decide +kernel
theorem dJ9_min_7cf53_0 : decode cJ9_min_7cf53 0 = .ok (.iload_n 0, 1) := by decide +kernel
theorem dJ9_min_7cf53_1 : decode cJ9_min_7cf53 1 = .ok (.iload_n 1, 1) := by decide +kernel
theorem dJ9_min_7cf53_2 : decode cJ9_min_7cf53 2 = .ok (.if_icmp .gt 7, 3) := by decide +kernel
theorem dJ9_min_7cf53_5 : decode cJ9_min_7cf53 5 = .ok (.iload_n 0, 1) := by decide +kernel
theorem dJ9_min_7cf53_6 : decode cJ9_min_7cf53 6 = .ok (.goto 4, 3) := by decide +kernel
theorem dJ9_min_7cf53_9 : decode cJ9_min_7cf53 9 = .ok (.iload_n 1, 1) := by decide +kernel
theorem dJ9_min_7cf53_10 : decode cJ9_min_7cf53 10 = .ok (.ireturn, 1) := by decide +kernel
set_option maxRecDepth 20000 in
theorem ggL_add_X1_add : GoodIn wsL_add wsX1_add := goodIn_ca (goodIn_ca (goodIn_ca (goodIn_r _ [8, 9, 10, 11, 12, 13, 14, 15, 16, 17, 18, 19, 20, 21, 22, 23, 7, 24, 25, 26, 27, 28, 29, 30, 31, 32, 33, 34, 35, 36, 37, 38, 39, 40, 41, 42, 43, 44, 45, 46, 47, 48, 49, 50, 51, 52, 53, 54, 55, 56, 57, 58, 59, 60, 61, 62, 63, 64, 65, 66, 67] (by decide +kernel) (by decide +kernel)) (goodIn_sub (fun _ h => List.mem_cons_of_mem _ (List.mem_append_left _ (List.mem_append_left _ (List.mem_append_right _ h)))) (by decide +kernel))) (goodIn_sub (fun _ h => List.mem_cons_of_mem _ (List.mem_append_left _ (List.mem_append_right _ h))) (by decide +kernel))) (goodIn_sub (fun _ h => List.mem_cons_of_mem _ (List.mem_append_right _ h)) (by decide +kernel))
set_option maxRecDepth 20000 in
theorem gL_add_X1_add : GoodIn wsL_add (wsV RL 7 RX1 yX1_add wsX1_add) := goodIn_app (goodIn_of _ (by decide +kernel)) ggL_add_X1_add
