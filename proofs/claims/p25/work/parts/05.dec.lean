theorem dX0_init_0 : decode cX0_init 0 = .ok (.aload_n 0, 1) := by decide +kernel
theorem dX0_init_1 : decode cX0_init 1 = .ok (.invokespecial 3, 3) := by decide +kernel
theorem dX0_init_4 : decode cX0_init 4 = .ok (.aload_n 0, 1) := by decide +kernel
theorem dX0_init_5 : decode cX0_init 5 = .ok (.iconst 0, 1) := by decide +kernel
theorem dX0_init_6 : decode cX0_init 6 = .ok (.putfield 9, 3) := by decide +kernel
theorem dX0_init_9 : decode cX0_init 9 = .ok (.aload_n 0, 1) := by decide +kernel
theorem dX0_init_10 : decode cX0_init 10 = .ok (.iconst 0, 1) := by decide +kernel
theorem dX0_init_11 : decode cX0_init 11 = .ok (.putfield 15, 3) := by decide +kernel
theorem dX0_init_14 : decode cX0_init 14 = .ok (.aload_n 0, 1) := by decide +kernel
theorem dX0_init_15 : decode cX0_init 15 = .ok (.iload_n 1, 1) := by decide +kernel
theorem dX0_init_16 : decode cX0_init 16 = .ok (.putfield 18, 3) := by decide +kernel
theorem dX0_init_19 : decode cX0_init 19 = .ok (.aload_n 0, 1) := by decide +kernel
theorem dX0_init_20 : decode cX0_init 20 = .ok (.iload_n 2, 1) := by decide +kernel
theorem dX0_init_21 : decode cX0_init 21 = .ok (.putfield 21, 3) := by decide +kernel
theorem dX0_init_24 : decode cX0_init 24 = .ok (.aload_n 0, 1) := by decide +kernel
theorem dX0_init_25 : decode cX0_init 25 = .ok (.iload_n 3, 1) := by decide +kernel
theorem dX0_init_26 : decode cX0_init 26 = .ok (.putfield 24, 3) := by decide +kernel
theorem dX0_init_29 : decode cX0_init 29 = .ok (.aload_n 0, 1) := by decide +kernel
theorem dX0_init_30 : decode cX0_init 30 = .ok (.iload 4, 2) := by decide +kernel
theorem dX0_init_32 : decode cX0_init 32 = .ok (.putfield 27, 3) := by decide +kernel
theorem dX0_init_35 : decode cX0_init 35 = .ok (.aload_n 0, 1) := by decide +kernel
theorem dX0_init_36 : decode cX0_init 36 = .ok (.iload 5, 2) := by decide +kernel
theorem dX0_init_38 : decode cX0_init 38 = .ok (.putfield 30, 3) := by decide +kernel
theorem dX0_init_41 : decode cX0_init 41 = .ok (.aload_n 0, 1) := by decide +kernel
theorem dX0_init_42 : decode cX0_init 42 = .ok (.iload 6, 2) := by decide +kernel
theorem dX0_init_44 : decode cX0_init 44 = .ok (.putfield 33, 3) := by decide +kernel
theorem dX0_init_47 : decode cX0_init 47 = .ok (.aload_n 0, 1) := by decide +kernel
theorem dX0_init_48 : decode cX0_init 48 = .ok (.iload 7, 2) := by decide +kernel
theorem dX0_init_50 : decode cX0_init 50 = .ok (.putfield 36, 3) := by decide +kernel
theorem dX0_init_53 : decode cX0_init 53 = .ok (.aload_n 0, 1) := by decide +kernel
theorem dX0_init_54 : decode cX0_init 54 = .ok (.iload_n 1, 1) := by decide +kernel
theorem dX0_init_55 : decode cX0_init 55 = .ok (.putfield 39, 3) := by decide +kernel
theorem dX0_init_58 : decode cX0_init 58 = .ok (.return_, 1) := by decide +kernel
theorem dX0_isThere_0 : decode cX0_isThere 0 = .ok (.aload_n 0, 1) := by decide +kernel
theorem dX0_isThere_1 : decode cX0_isThere 1 = .ok (.getfield 9, 3) := by decide +kernel
theorem dX0_isThere_4 : decode cX0_isThere 4 = .ok (.iconst 4, 1) := by decide +kernel
theorem dX0_isThere_5 : decode cX0_isThere 5 = .ok (.if_icmp .eq 7, 3) := by decide +kernel
theorem dX0_isThere_8 : decode cX0_isThere 8 = .ok (.iconst 1, 1) := by decide +kernel
theorem dX0_isThere_9 : decode cX0_isThere 9 = .ok (.goto 4, 3) := by decide +kernel
theorem dX0_isThere_12 : decode cX0_isThere 12 = .ok (.iconst 0, 1) := by decide +kernel
theorem dX0_isThere_13 : decode cX0_isThere 13 = .ok (.ireturn, 1) := by decide +kernel
theorem dX0_cells_0 : decode cX0_cells 0 = .ok (.aload_n 0, 1) := by decide +kernel
theorem dX0_cells_1 : decode cX0_cells 1 = .ok (.getfield 30, 3) := by decide +kernel
theorem dX0_cells_4 : decode cX0_cells 4 = .ok (.aload_n 0, 1) := by decide +kernel
theorem dX0_cells_5 : decode cX0_cells 5 = .ok (.getfield 24, 3) := by decide +kernel
theorem dX0_cells_8 : decode cX0_cells 8 = .ok (.isub, 1) := by decide +kernel
theorem dX0_cells_9 : decode cX0_cells 9 = .ok (.invokestatic 42, 3) := by decide +kernel
theorem dX0_cells_12 : decode cX0_cells 12 = .ok (.aload_n 0, 1) := by decide +kernel
theorem dX0_cells_13 : decode cX0_cells 13 = .ok (.getfield 33, 3) := by decide +kernel
theorem dX0_cells_16 : decode cX0_cells 16 = .ok (.aload_n 0, 1) := by decide +kernel
theorem dX0_cells_17 : decode cX0_cells 17 = .ok (.getfield 27, 3) := by decide +kernel
theorem dX0_cells_20 : decode cX0_cells 20 = .ok (.isub, 1) := by decide +kernel
theorem dX0_cells_21 : decode cX0_cells 21 = .ok (.invokestatic 42, 3) := by decide +kernel
theorem dX0_cells_24 : decode cX0_cells 24 = .ok (.iadd, 1) := by decide +kernel
theorem dX0_cells_25 : decode cX0_cells 25 = .ok (.iconst 1, 1) := by decide +kernel
theorem dX0_cells_26 : decode cX0_cells 26 = .ok (.iadd, 1) := by decide +kernel
theorem dX0_cells_27 : decode cX0_cells 27 = .ok (.ireturn, 1) := by decide +kernel
set_option maxRecDepth 20000 in
theorem ggX0_covers_X1_isWithin : GoodIn wsX0_covers wsX1_isWithin := goodIn_r _ [14] (by decide +kernel) (by decide +kernel)
set_option maxRecDepth 20000 in
theorem gX0_covers_X1_isWithin_n55 : GoodIn wsX0_covers (wsX1_isWithin) := ggX0_covers_X1_isWithin
theorem dX0_covers_0 : decode cX0_covers 0 = .ok (.iload_n 1, 1) := by decide +kernel
theorem dX0_covers_1 : decode cX0_covers 1 = .ok (.aload_n 0, 1) := by decide +kernel
theorem dX0_covers_2 : decode cX0_covers 2 = .ok (.getfield 24, 3) := by decide +kernel
theorem dX0_covers_5 : decode cX0_covers 5 = .ok (.aload_n 0, 1) := by decide +kernel
theorem dX0_covers_6 : decode cX0_covers 6 = .ok (.getfield 30, 3) := by decide +kernel
theorem dX0_covers_9 : decode cX0_covers 9 = .ok (.invokestatic 48, 3) := by decide +kernel
theorem dX0_covers_12 : decode cX0_covers 12 = .ok (.aload_n 0, 1) := by decide +kernel
theorem dX0_covers_13 : decode cX0_covers 13 = .ok (.getfield 24, 3) := by decide +kernel
theorem dX0_covers_16 : decode cX0_covers 16 = .ok (.aload_n 0, 1) := by decide +kernel
theorem dX0_covers_17 : decode cX0_covers 17 = .ok (.getfield 30, 3) := by decide +kernel
theorem dX0_covers_20 : decode cX0_covers 20 = .ok (.invokestatic 52, 3) := by decide +kernel
theorem dX0_covers_23 : decode cX0_covers 23 = .ok (.invokestatic 55, 3) := by decide +kernel
theorem dX0_covers_26 : decode cX0_covers 26 = .ok (.ifCond .eq 36, 3) := by decide +kernel
theorem dX0_covers_29 : decode cX0_covers 29 = .ok (.iload_n 2, 1) := by decide +kernel
theorem dX0_covers_30 : decode cX0_covers 30 = .ok (.aload_n 0, 1) := by decide +kernel
theorem dX0_covers_31 : decode cX0_covers 31 = .ok (.getfield 27, 3) := by decide +kernel
theorem dX0_covers_34 : decode cX0_covers 34 = .ok (.aload_n 0, 1) := by decide +kernel
theorem dX0_covers_35 : decode cX0_covers 35 = .ok (.getfield 33, 3) := by decide +kernel
theorem dX0_covers_38 : decode cX0_covers 38 = .ok (.invokestatic 48, 3) := by decide +kernel
theorem dX0_covers_41 : decode cX0_covers 41 = .ok (.aload_n 0, 1) := by decide +kernel
theorem dX0_covers_42 : decode cX0_covers 42 = .ok (.getfield 27, 3) := by decide +kernel
theorem dX0_covers_45 : decode cX0_covers 45 = .ok (.aload_n 0, 1) := by decide +kernel
theorem dX0_covers_46 : decode cX0_covers 46 = .ok (.getfield 33, 3) := by decide +kernel
theorem dX0_covers_49 : decode cX0_covers 49 = .ok (.invokestatic 52, 3) := by decide +kernel
theorem dX0_covers_52 : decode cX0_covers 52 = .ok (.invokestatic 55, 3) := by decide +kernel
theorem dX0_covers_55 : decode cX0_covers 55 = .ok (.ifCond .eq 7, 3) := by decide +kernel
theorem dX0_covers_58 : decode cX0_covers 58 = .ok (.iconst 1, 1) := by decide +kernel
theorem dX0_covers_59 : decode cX0_covers 59 = .ok (.goto 4, 3) := by decide +kernel
theorem dX0_covers_62 : decode cX0_covers 62 = .ok (.iconst 0, 1) := by decide +kernel
theorem dX0_covers_63 : decode cX0_covers 63 = .ok (.ireturn, 1) := by decide +kernel
set_option maxRecDepth 20000 in
theorem ggX0_staysInside_X1_isCell : GoodIn wsX0_staysInside wsX1_isCell := goodIn_r _ [7, 8, 9, 6, 10] (by decide +kernel) (by decide +kernel)
set_option maxRecDepth 20000 in
theorem gX0_staysInside_X1_isCell_n59 : GoodIn wsX0_staysInside (wsX1_isCell) := ggX0_staysInside_X1_isCell
theorem dX0_staysInside_0 : decode cX0_staysInside 0 = .ok (.aload_n 0, 1) := by decide +kernel
theorem dX0_staysInside_1 : decode cX0_staysInside 1 = .ok (.getfield 24, 3) := by decide +kernel
theorem dX0_staysInside_4 : decode cX0_staysInside 4 = .ok (.iload_n 1, 1) := by decide +kernel
theorem dX0_staysInside_5 : decode cX0_staysInside 5 = .ok (.iadd, 1) := by decide +kernel
theorem dX0_staysInside_6 : decode cX0_staysInside 6 = .ok (.aload_n 0, 1) := by decide +kernel
theorem dX0_staysInside_7 : decode cX0_staysInside 7 = .ok (.getfield 27, 3) := by decide +kernel
theorem dX0_staysInside_10 : decode cX0_staysInside 10 = .ok (.iload_n 2, 1) := by decide +kernel
theorem dX0_staysInside_11 : decode cX0_staysInside 11 = .ok (.iadd, 1) := by decide +kernel
theorem dX0_staysInside_12 : decode cX0_staysInside 12 = .ok (.invokestatic 59, 3) := by decide +kernel
theorem dX0_staysInside_15 : decode cX0_staysInside 15 = .ok (.ifCond .eq 25, 3) := by decide +kernel
theorem dX0_staysInside_18 : decode cX0_staysInside 18 = .ok (.aload_n 0, 1) := by decide +kernel
theorem dX0_staysInside_19 : decode cX0_staysInside 19 = .ok (.getfield 30, 3) := by decide +kernel
theorem dX0_staysInside_22 : decode cX0_staysInside 22 = .ok (.iload_n 1, 1) := by decide +kernel
theorem dX0_staysInside_23 : decode cX0_staysInside 23 = .ok (.iadd, 1) := by decide +kernel
theorem dX0_staysInside_24 : decode cX0_staysInside 24 = .ok (.aload_n 0, 1) := by decide +kernel
theorem dX0_staysInside_25 : decode cX0_staysInside 25 = .ok (.getfield 33, 3) := by decide +kernel
theorem dX0_staysInside_28 : decode cX0_staysInside 28 = .ok (.iload_n 2, 1) := by decide +kernel
theorem dX0_staysInside_29 : decode cX0_staysInside 29 = .ok (.iadd, 1) := by decide +kernel
theorem dX0_staysInside_30 : decode cX0_staysInside 30 = .ok (.invokestatic 59, 3) := by decide +kernel
theorem dX0_staysInside_33 : decode cX0_staysInside 33 = .ok (.ifCond .eq 7, 3) := by decide +kernel
theorem dX0_staysInside_36 : decode cX0_staysInside 36 = .ok (.iconst 1, 1) := by decide +kernel
theorem dX0_staysInside_37 : decode cX0_staysInside 37 = .ok (.goto 4, 3) := by decide +kernel
theorem dX0_staysInside_40 : decode cX0_staysInside 40 = .ok (.iconst 0, 1) := by decide +kernel
theorem dX0_staysInside_41 : decode cX0_staysInside 41 = .ok (.ireturn, 1) := by decide +kernel
theorem dX0_shift_0 : decode cX0_shift 0 = .ok (.aload_n 0, 1) := by decide +kernel
theorem dX0_shift_1 : decode cX0_shift 1 = .ok (.dup, 1) := by decide +kernel
theorem dX0_shift_2 : decode cX0_shift 2 = .ok (.getfield 24, 3) := by decide +kernel
theorem dX0_shift_5 : decode cX0_shift 5 = .ok (.iload_n 1, 1) := by decide +kernel
theorem dX0_shift_6 : decode cX0_shift 6 = .ok (.iadd, 1) := by decide +kernel
theorem dX0_shift_7 : decode cX0_shift 7 = .ok (.putfield 24, 3) := by decide +kernel
theorem dX0_shift_10 : decode cX0_shift 10 = .ok (.aload_n 0, 1) := by decide +kernel
theorem dX0_shift_11 : decode cX0_shift 11 = .ok (.dup, 1) := by decide +kernel
theorem dX0_shift_12 : decode cX0_shift 12 = .ok (.getfield 27, 3) := by decide +kernel
theorem dX0_shift_15 : decode cX0_shift 15 = .ok (.iload_n 2, 1) := by decide +kernel
theorem dX0_shift_16 : decode cX0_shift 16 = .ok (.iadd, 1) := by decide +kernel
theorem dX0_shift_17 : decode cX0_shift 17 = .ok (.putfield 27, 3) := by decide +kernel
theorem dX0_shift_20 : decode cX0_shift 20 = .ok (.aload_n 0, 1) := by decide +kernel
theorem dX0_shift_21 : decode cX0_shift 21 = .ok (.dup, 1) := by decide +kernel
theorem dX0_shift_22 : decode cX0_shift 22 = .ok (.getfield 30, 3) := by decide +kernel
theorem dX0_shift_25 : decode cX0_shift 25 = .ok (.iload_n 1, 1) := by decide +kernel
theorem dX0_shift_26 : decode cX0_shift 26 = .ok (.iadd, 1) := by decide +kernel
theorem dX0_shift_27 : decode cX0_shift 27 = .ok (.putfield 30, 3) := by decide +kernel
theorem dX0_shift_30 : decode cX0_shift 30 = .ok (.aload_n 0, 1) := by decide +kernel
theorem dX0_shift_31 : decode cX0_shift 31 = .ok (.dup, 1) := by decide +kernel
theorem dX0_shift_32 : decode cX0_shift 32 = .ok (.getfield 33, 3) := by decide +kernel
theorem dX0_shift_35 : decode cX0_shift 35 = .ok (.iload_n 2, 1) := by decide +kernel
theorem dX0_shift_36 : decode cX0_shift 36 = .ok (.iadd, 1) := by decide +kernel
theorem dX0_shift_37 : decode cX0_shift 37 = .ok (.putfield 33, 3) := by decide +kernel
theorem dX0_shift_40 : decode cX0_shift 40 = .ok (.return_, 1) := by decide +kernel
theorem dX0_deliverIfDue_0 : decode cX0_deliverIfDue 0 = .ok (.aload_n 0, 1) := by decide +kernel
theorem dX0_deliverIfDue_1 : decode cX0_deliverIfDue 1 = .ok (.getfield 9, 3) := by decide +kernel
theorem dX0_deliverIfDue_4 : decode cX0_deliverIfDue 4 = .ok (.iconst 1, 1) := by decide +kernel
theorem dX0_deliverIfDue_5 : decode cX0_deliverIfDue 5 = .ok (.if_icmp .ne 16, 3) := by decide +kernel
theorem dX0_deliverIfDue_8 : decode cX0_deliverIfDue 8 = .ok (.iload_n 1, 1) := by decide +kernel
theorem dX0_deliverIfDue_9 : decode cX0_deliverIfDue 9 = .ok (.aload_n 0, 1) := by decide +kernel
theorem dX0_deliverIfDue_10 : decode cX0_deliverIfDue 10 = .ok (.getfield 15, 3) := by decide +kernel
theorem dX0_deliverIfDue_13 : decode cX0_deliverIfDue 13 = .ok (.if_icmp .lt 8, 3) := by decide +kernel
theorem dX0_deliverIfDue_16 : decode cX0_deliverIfDue 16 = .ok (.aload_n 0, 1) := by decide +kernel
theorem dX0_deliverIfDue_17 : decode cX0_deliverIfDue 17 = .ok (.iconst 2, 1) := by decide +kernel
theorem dX0_deliverIfDue_18 : decode cX0_deliverIfDue 18 = .ok (.putfield 9, 3) := by decide +kernel
theorem dX0_deliverIfDue_21 : decode cX0_deliverIfDue 21 = .ok (.return_, 1) := by decide +kernel
set_option maxRecDepth 20000 in
theorem ggX0_distanceTo_X0_gap : GoodIn wsX0_distanceTo wsX0_gap := goodIn_r _ [12, 13, 14, 7, 15, 5, 6, 8] (by decide +kernel) (by decide +kernel)
set_option maxRecDepth 20000 in
theorem gX0_distanceTo_X0_gap : GoodIn wsX0_distanceTo (va_wsS RX0 63 yX0_gap wsX0_gap) := goodIn_app (goodIn_of _ (by decide +kernel)) ggX0_distanceTo_X0_gap
theorem dX0_distanceTo_0 : decode cX0_distanceTo 0 = .ok (.aload_n 0, 1) := by decide +kernel
theorem dX0_distanceTo_1 : decode cX0_distanceTo 1 = .ok (.getfield 24, 3) := by decide +kernel
theorem dX0_distanceTo_4 : decode cX0_distanceTo 4 = .ok (.aload_n 0, 1) := by decide +kernel
theorem dX0_distanceTo_5 : decode cX0_distanceTo 5 = .ok (.getfield 30, 3) := by decide +kernel
theorem dX0_distanceTo_8 : decode cX0_distanceTo 8 = .ok (.aload_n 1, 1) := by decide +kernel
theorem dX0_distanceTo_9 : decode cX0_distanceTo 9 = .ok (.getfield 24, 3) := by decide +kernel
theorem dX0_distanceTo_12 : decode cX0_distanceTo 12 = .ok (.aload_n 1, 1) := by decide +kernel
theorem dX0_distanceTo_13 : decode cX0_distanceTo 13 = .ok (.getfield 30, 3) := by decide +kernel
theorem dX0_distanceTo_16 : decode cX0_distanceTo 16 = .ok (.invokestatic 63, 3) := by decide +kernel
theorem dX0_distanceTo_19 : decode cX0_distanceTo 19 = .ok (.istore_n 2, 1) := by decide +kernel
theorem dX0_distanceTo_20 : decode cX0_distanceTo 20 = .ok (.aload_n 0, 1) := by decide +kernel
theorem dX0_distanceTo_21 : decode cX0_distanceTo 21 = .ok (.getfield 27, 3) := by decide +kernel
theorem dX0_distanceTo_24 : decode cX0_distanceTo 24 = .ok (.aload_n 0, 1) := by decide +kernel
theorem dX0_distanceTo_25 : decode cX0_distanceTo 25 = .ok (.getfield 33, 3) := by decide +kernel
theorem dX0_distanceTo_28 : decode cX0_distanceTo 28 = .ok (.aload_n 1, 1) := by decide +kernel
theorem dX0_distanceTo_29 : decode cX0_distanceTo 29 = .ok (.getfield 27, 3) := by decide +kernel
theorem dX0_distanceTo_32 : decode cX0_distanceTo 32 = .ok (.aload_n 1, 1) := by decide +kernel
theorem dX0_distanceTo_33 : decode cX0_distanceTo 33 = .ok (.getfield 33, 3) := by decide +kernel
theorem dX0_distanceTo_36 : decode cX0_distanceTo 36 = .ok (.invokestatic 63, 3) := by decide +kernel
theorem dX0_distanceTo_39 : decode cX0_distanceTo 39 = .ok (.istore_n 3, 1) := by decide +kernel
theorem dX0_distanceTo_40 : decode cX0_distanceTo 40 = .ok (.iload_n 2, 1) := by decide +kernel
theorem dX0_distanceTo_41 : decode cX0_distanceTo 41 = .ok (.iload_n 3, 1) := by decide +kernel
theorem dX0_distanceTo_42 : decode cX0_distanceTo 42 = .ok (.invokestatic 52, 3) := by decide +kernel
theorem dX0_distanceTo_45 : decode cX0_distanceTo 45 = .ok (.ireturn, 1) := by decide +kernel
theorem dX0_gap_0 : decode cX0_gap 0 = .ok (.iload_n 2, 1) := by decide +kernel
theorem dX0_gap_1 : decode cX0_gap 1 = .ok (.iload_n 3, 1) := by decide +kernel
theorem dX0_gap_2 : decode cX0_gap 2 = .ok (.invokestatic 48, 3) := by decide +kernel
theorem dX0_gap_5 : decode cX0_gap 5 = .ok (.iload_n 0, 1) := by decide +kernel
theorem dX0_gap_6 : decode cX0_gap 6 = .ok (.iload_n 1, 1) := by decide +kernel
theorem dX0_gap_7 : decode cX0_gap 7 = .ok (.invokestatic 52, 3) := by decide +kernel
theorem dX0_gap_10 : decode cX0_gap 10 = .ok (.isub, 1) := by decide +kernel
theorem dX0_gap_11 : decode cX0_gap 11 = .ok (.istore 4, 2) := by decide +kernel
theorem dX0_gap_13 : decode cX0_gap 13 = .ok (.iload_n 0, 1) := by decide +kernel
theorem dX0_gap_14 : decode cX0_gap 14 = .ok (.iload_n 1, 1) := by decide +kernel
theorem dX0_gap_15 : decode cX0_gap 15 = .ok (.invokestatic 48, 3) := by decide +kernel
theorem dX0_gap_18 : decode cX0_gap 18 = .ok (.iload_n 2, 1) := by decide +kernel
theorem dX0_gap_19 : decode cX0_gap 19 = .ok (.iload_n 3, 1) := by decide +kernel
theorem dX0_gap_20 : decode cX0_gap 20 = .ok (.invokestatic 52, 3) := by decide +kernel
theorem dX0_gap_23 : decode cX0_gap 23 = .ok (.isub, 1) := by decide +kernel
theorem dX0_gap_24 : decode cX0_gap 24 = .ok (.istore 5, 2) := by decide +kernel
theorem dX0_gap_26 : decode cX0_gap 26 = .ok (.iconst 0, 1) := by decide +kernel
theorem dX0_gap_27 : decode cX0_gap 27 = .ok (.iload 4, 2) := by decide +kernel
theorem dX0_gap_29 : decode cX0_gap 29 = .ok (.iload 5, 2) := by decide +kernel
theorem dX0_gap_31 : decode cX0_gap 31 = .ok (.invokestatic 52, 3) := by decide +kernel
theorem dX0_gap_34 : decode cX0_gap 34 = .ok (.invokestatic 52, 3) := by decide +kernel
theorem dX0_gap_37 : decode cX0_gap 37 = .ok (.ireturn, 1) := by decide +kernel
set_option maxRecDepth 20000 in
theorem ggX0_partsCellByCell_X0_covers : GoodIn wsX0_partsCellByCell wsX0_covers := goodIn_r _ [5, 6, 7, 8, 9, 10, 11, 12, 13, 14, 15, 16, 17, 18, 19, 20, 21, 22, 23, 24, 25, 26, 27, 28, 29] (by decide +kernel) (by decide +kernel)
set_option maxRecDepth 20000 in
theorem gX0_partsCellByCell_X0_covers : GoodIn wsX0_partsCellByCell (wsV RX0 67 RX0 yX0_covers wsX0_covers) := goodIn_app (goodIn_of _ (by decide +kernel)) ggX0_partsCellByCell_X0_covers
theorem dX0_partsCellByCell_0 : decode cX0_partsCellByCell 0 = .ok (.iconst 0, 1) := by decide +kernel
theorem dX0_partsCellByCell_1 : decode cX0_partsCellByCell 1 = .ok (.istore_n 2, 1) := by decide +kernel
theorem dX0_partsCellByCell_2 : decode cX0_partsCellByCell 2 = .ok (.iconst 0, 1) := by decide +kernel
theorem dX0_partsCellByCell_3 : decode cX0_partsCellByCell 3 = .ok (.istore_n 3, 1) := by decide +kernel
theorem dX0_partsCellByCell_4 : decode cX0_partsCellByCell 4 = .ok (.iconst 0, 1) := by decide +kernel
theorem dX0_partsCellByCell_5 : decode cX0_partsCellByCell 5 = .ok (.istore 4, 2) := by decide +kernel
theorem dX0_partsCellByCell_7 : decode cX0_partsCellByCell 7 = .ok (.iload 4, 2) := by decide +kernel
theorem dX0_partsCellByCell_9 : decode cX0_partsCellByCell 9 = .ok (.bipush 12, 2) := by decide +kernel
theorem dX0_partsCellByCell_11 : decode cX0_partsCellByCell 11 = .ok (.if_icmp .ge 48, 3) := by decide +kernel
theorem dX0_partsCellByCell_14 : decode cX0_partsCellByCell 14 = .ok (.iconst 0, 1) := by decide +kernel
theorem dX0_partsCellByCell_15 : decode cX0_partsCellByCell 15 = .ok (.istore 5, 2) := by decide +kernel
theorem dX0_partsCellByCell_17 : decode cX0_partsCellByCell 17 = .ok (.iload 5, 2) := by decide +kernel
theorem dX0_partsCellByCell_19 : decode cX0_partsCellByCell 19 = .ok (.bipush 12, 2) := by decide +kernel
theorem dX0_partsCellByCell_21 : decode cX0_partsCellByCell 21 = .ok (.if_icmp .ge 32, 3) := by decide +kernel
theorem dX0_partsCellByCell_24 : decode cX0_partsCellByCell 24 = .ok (.aload_n 0, 1) := by decide +kernel
theorem dX0_partsCellByCell_25 : decode cX0_partsCellByCell 25 = .ok (.iload 5, 2) := by decide +kernel
theorem dX0_partsCellByCell_27 : decode cX0_partsCellByCell 27 = .ok (.iload 4, 2) := by decide +kernel
theorem dX0_partsCellByCell_29 : decode cX0_partsCellByCell 29 = .ok (.invokevirtual 67, 3) := by decide +kernel
theorem dX0_partsCellByCell_32 : decode cX0_partsCellByCell 32 = .ok (.ifCond .eq 15, 3) := by decide +kernel
theorem dX0_partsCellByCell_35 : decode cX0_partsCellByCell 35 = .ok (.iload_n 3, 1) := by decide +kernel
theorem dX0_partsCellByCell_36 : decode cX0_partsCellByCell 36 = .ok (.ifCond .gt 8, 3) := by decide +kernel
theorem dX0_partsCellByCell_39 : decode cX0_partsCellByCell 39 = .ok (.iinc 2 1, 3) := by decide +kernel
theorem dX0_partsCellByCell_42 : decode cX0_partsCellByCell 42 = .ok (.iload_n 1, 1) := by decide +kernel
theorem dX0_partsCellByCell_43 : decode cX0_partsCellByCell 43 = .ok (.istore_n 3, 1) := by decide +kernel
theorem dX0_partsCellByCell_44 : decode cX0_partsCellByCell 44 = .ok (.iinc 3 (-1), 3) := by decide +kernel
theorem dX0_partsCellByCell_47 : decode cX0_partsCellByCell 47 = .ok (.iinc 5 1, 3) := by decide +kernel
theorem dX0_partsCellByCell_50 : decode cX0_partsCellByCell 50 = .ok (.goto (-33), 3) := by decide +kernel
theorem dX0_partsCellByCell_53 : decode cX0_partsCellByCell 53 = .ok (.iinc 4 1, 3) := by decide +kernel
theorem dX0_partsCellByCell_56 : decode cX0_partsCellByCell 56 = .ok (.goto (-49), 3) := by decide +kernel
theorem dX0_partsCellByCell_59 : decode cX0_partsCellByCell 59 = .ok (.iload_n 2, 1) := by decide +kernel
theorem dX0_partsCellByCell_60 : decode cX0_partsCellByCell 60 = .ok (.ireturn, 1) := by decide +kernel
theorem dX1_init_0 : decode cX1_init 0 = .ok (.aload_n 0, 1) := by decide +kernel
theorem dX1_init_1 : decode cX1_init 1 = .ok (.invokespecial 1, 3) := by decide +kernel
theorem dX1_init_4 : decode cX1_init 4 = .ok (.aload_n 0, 1) := by decide +kernel
theorem dX1_init_5 : decode cX1_init 5 = .ok (.bipush 40, 2) := by decide +kernel
theorem dX1_init_7 : decode cX1_init 7 = .ok (.anewarray 9, 3) := by decide +kernel
theorem dX1_init_10 : decode cX1_init 10 = .ok (.putfield 11, 3) := by decide +kernel
theorem dX1_init_13 : decode cX1_init 13 = .ok (.aload_n 0, 1) := by decide +kernel
theorem dX1_init_14 : decode cX1_init 14 = .ok (.iconst 0, 1) := by decide +kernel
theorem dX1_init_15 : decode cX1_init 15 = .ok (.putfield 15, 3) := by decide +kernel
theorem dX1_init_18 : decode cX1_init 18 = .ok (.aload_n 0, 1) := by decide +kernel
theorem dX1_init_19 : decode cX1_init 19 = .ok (.bipush 9, 2) := by decide +kernel
theorem dX1_init_21 : decode cX1_init 21 = .ok (.newarray .int, 2) := by decide +kernel
theorem dX1_init_23 : decode cX1_init 23 = .ok (.putfield 19, 3) := by decide +kernel
theorem dX1_init_26 : decode cX1_init 26 = .ok (.aload_n 0, 1) := by decide +kernel
theorem dX1_init_27 : decode cX1_init 27 = .ok (.iconst 3, 1) := by decide +kernel
theorem dX1_init_28 : decode cX1_init 28 = .ok (.newarray .int, 2) := by decide +kernel
theorem dX1_init_30 : decode cX1_init 30 = .ok (.dup, 1) := by decide +kernel
theorem dX1_init_31 : decode cX1_init 31 = .ok (.iconst 0, 1) := by decide +kernel
theorem dX1_init_32 : decode cX1_init 32 = .ok (.iconst 3, 1) := by decide +kernel
theorem dX1_init_33 : decode cX1_init 33 = .ok (.iastore, 1) := by decide +kernel
theorem dX1_init_34 : decode cX1_init 34 = .ok (.dup, 1) := by decide +kernel
theorem dX1_init_35 : decode cX1_init 35 = .ok (.iconst 1, 1) := by decide +kernel
theorem dX1_init_36 : decode cX1_init 36 = .ok (.iconst 3, 1) := by decide +kernel
theorem dX1_init_37 : decode cX1_init 37 = .ok (.iastore, 1) := by decide +kernel
theorem dX1_init_38 : decode cX1_init 38 = .ok (.dup, 1) := by decide +kernel
theorem dX1_init_39 : decode cX1_init 39 = .ok (.iconst 2, 1) := by decide +kernel
theorem dX1_init_40 : decode cX1_init 40 = .ok (.iconst 3, 1) := by decide +kernel
theorem dX1_init_41 : decode cX1_init 41 = .ok (.iastore, 1) := by decide +kernel
theorem dX1_init_42 : decode cX1_init 42 = .ok (.putfield 23, 3) := by decide +kernel
theorem dX1_init_45 : decode cX1_init 45 = .ok (.aload_n 0, 1) := by decide +kernel
theorem dX1_init_46 : decode cX1_init 46 = .ok (.iconst 3, 1) := by decide +kernel
theorem dX1_init_47 : decode cX1_init 47 = .ok (.newarray .int, 2) := by decide +kernel
theorem dX1_init_49 : decode cX1_init 49 = .ok (.dup, 1) := by decide +kernel
theorem dX1_init_50 : decode cX1_init 50 = .ok (.iconst 0, 1) := by decide +kernel
theorem dX1_init_51 : decode cX1_init 51 = .ok (.iconst 5, 1) := by decide +kernel
theorem dX1_init_52 : decode cX1_init 52 = .ok (.iastore, 1) := by decide +kernel
theorem dX1_init_53 : decode cX1_init 53 = .ok (.dup, 1) := by decide +kernel
theorem dX1_init_54 : decode cX1_init 54 = .ok (.iconst 1, 1) := by decide +kernel
theorem dX1_init_55 : decode cX1_init 55 = .ok (.iconst 5, 1) := by decide +kernel
theorem dX1_init_56 : decode cX1_init 56 = .ok (.iastore, 1) := by decide +kernel
theorem dX1_init_57 : decode cX1_init 57 = .ok (.dup, 1) := by decide +kernel
theorem dX1_init_58 : decode cX1_init 58 = .ok (.iconst 2, 1) := by decide +kernel
theorem dX1_init_59 : decode cX1_init 59 = .ok (.iconst 5, 1) := by decide +kernel
theorem dX1_init_60 : decode cX1_init 60 = .ok (.iastore, 1) := by decide +kernel
theorem dX1_init_61 : decode cX1_init 61 = .ok (.putfield 26, 3) := by decide +kernel
theorem dX1_init_64 : decode cX1_init 64 = .ok (.aload_n 0, 1) := by decide +kernel
theorem dX1_init_65 : decode cX1_init 65 = .ok (.iconst 4, 1) := by decide +kernel
theorem dX1_init_66 : decode cX1_init 66 = .ok (.newarray .boolean, 2) := by decide +kernel
theorem dX1_init_68 : decode cX1_init 68 = .ok (.putfield 29, 3) := by decide +kernel
theorem dX1_init_71 : decode cX1_init 71 = .ok (.aload_n 0, 1) := by decide +kernel
theorem dX1_init_72 : decode cX1_init 72 = .ok (.iconst 0, 1) := by decide +kernel
theorem dX1_init_73 : decode cX1_init 73 = .ok (.putfield 33, 3) := by decide +kernel
theorem dX1_init_76 : decode cX1_init 76 = .ok (.aload_n 0, 1) := by decide +kernel
theorem dX1_init_77 : decode cX1_init 77 = .ok (.iconst 0, 1) := by decide +kernel
theorem dX1_init_78 : decode cX1_init 78 = .ok (.putfield 36, 3) := by decide +kernel
theorem dX1_init_81 : decode cX1_init 81 = .ok (.return_, 1) := by decide +kernel
set_option maxRecDepth 20000 in
theorem ggX1_add_X1_isKind : GoodIn wsX1_add wsX1_isKind := goodIn_r _ [17, 18, 19, 16, 20] (by decide +kernel) (by decide +kernel)
set_option maxRecDepth 20000 in
theorem gX1_add_X1_isKind : GoodIn wsX1_add (va_wsS RX1 39 yX1_isKind wsX1_isKind) := goodIn_app (goodIn_of _ (by decide +kernel)) ggX1_add_X1_isKind
set_option maxRecDepth 20000 in
theorem ggX1_add_X1_isStorey : GoodIn wsX1_add wsX1_isStorey := goodIn_r _ [23, 18, 19, 16, 20] (by decide +kernel) (by decide +kernel)
set_option maxRecDepth 20000 in
theorem gX1_add_X1_isStorey : GoodIn wsX1_add (va_wsS RX1 43 yX1_isStorey wsX1_isStorey) := goodIn_app (goodIn_of _ (by decide +kernel)) ggX1_add_X1_isStorey
set_option maxRecDepth 20000 in
theorem ggX1_add_X1_isCell : GoodIn wsX1_add wsX1_isCell := goodIn_r _ [26, 18, 19, 16, 20] (by decide +kernel) (by decide +kernel)
set_option maxRecDepth 20000 in
theorem gX1_add_X1_isCell : GoodIn wsX1_add (va_wsS RX1 53 yX1_isCell wsX1_isCell) := goodIn_app (goodIn_of _ (by decide +kernel)) ggX1_add_X1_isCell
set_option maxRecDepth 20000 in
theorem ggX1_add_X0_init : GoodIn wsX1_add wsX0_init := goodIn_r _ [29, 30, 31, 32, 33, 34, 35, 36, 37, 38, 39, 40, 41, 42, 51, 52, 53, 54, 55, 56, 57, 58, 59, 60] (by decide +kernel) (by decide +kernel)
set_option maxRecDepth 20000 in
theorem gX1_add_X0_init : GoodIn wsX1_add (wsX0_init) := ggX1_add_X0_init
theorem dX1_add_0 : decode cX1_add 0 = .ok (.iload_n 1, 1) := by decide +kernel
theorem dX1_add_1 : decode cX1_add 1 = .ok (.invokestatic 39, 3) := by decide +kernel
theorem dX1_add_4 : decode cX1_add 4 = .ok (.ifCond .eq 10, 3) := by decide +kernel
theorem dX1_add_7 : decode cX1_add 7 = .ok (.iload_n 2, 1) := by decide +kernel
theorem dX1_add_8 : decode cX1_add 8 = .ok (.invokestatic 43, 3) := by decide +kernel
theorem dX1_add_11 : decode cX1_add 11 = .ok (.ifCond .ne 13, 3) := by decide +kernel
theorem dX1_add_14 : decode cX1_add 14 = .ok (.new 46, 3) := by decide +kernel
theorem dX1_add_17 : decode cX1_add 17 = .ok (.dup, 1) := by decide +kernel
theorem dX1_add_18 : decode cX1_add 18 = .ok (.ldc 48, 2) := by decide +kernel
theorem dX1_add_20 : decode cX1_add 20 = .ok (.invokespecial 50, 3) := by decide +kernel
theorem dX1_add_23 : decode cX1_add 23 = .ok (.athrow, 1) := by decide +kernel
theorem dX1_add_24 : decode cX1_add 24 = .ok (.iload_n 3, 1) := by decide +kernel
theorem dX1_add_25 : decode cX1_add 25 = .ok (.iload 4, 2) := by decide +kernel
theorem dX1_add_27 : decode cX1_add 27 = .ok (.invokestatic 53, 3) := by decide +kernel
theorem dX1_add_30 : decode cX1_add 30 = .ok (.ifCond .eq 13, 3) := by decide +kernel
theorem dX1_add_33 : decode cX1_add 33 = .ok (.iload 5, 2) := by decide +kernel
theorem dX1_add_35 : decode cX1_add 35 = .ok (.iload 6, 2) := by decide +kernel
theorem dX1_add_37 : decode cX1_add 37 = .ok (.invokestatic 53, 3) := by decide +kernel
theorem dX1_add_40 : decode cX1_add 40 = .ok (.ifCond .ne 13, 3) := by decide +kernel
theorem dX1_add_43 : decode cX1_add 43 = .ok (.new 57, 3) := by decide +kernel
theorem dX1_add_46 : decode cX1_add 46 = .ok (.dup, 1) := by decide +kernel
theorem dX1_add_47 : decode cX1_add 47 = .ok (.ldc 59, 2) := by decide +kernel
theorem dX1_add_49 : decode cX1_add 49 = .ok (.invokespecial 61, 3) := by decide +kernel
theorem dX1_add_52 : decode cX1_add 52 = .ok (.athrow, 1) := by decide +kernel
theorem dX1_add_53 : decode cX1_add 53 = .ok (.iload_n 3, 1) := by decide +kernel
theorem dX1_add_54 : decode cX1_add 54 = .ok (.iload 5, 2) := by decide +kernel
theorem dX1_add_56 : decode cX1_add 56 = .ok (.if_icmp .eq 20, 3) := by decide +kernel
theorem dX1_add_59 : decode cX1_add 59 = .ok (.iload 4, 2) := by decide +kernel
theorem dX1_add_61 : decode cX1_add 61 = .ok (.iload 6, 2) := by decide +kernel
theorem dX1_add_63 : decode cX1_add 63 = .ok (.if_icmp .eq 13, 3) := by decide +kernel
theorem dX1_add_66 : decode cX1_add 66 = .ok (.new 57, 3) := by decide +kernel
theorem dX1_add_69 : decode cX1_add 69 = .ok (.dup, 1) := by decide +kernel
theorem dX1_add_70 : decode cX1_add 70 = .ok (.ldc 62, 2) := by decide +kernel
theorem dX1_add_72 : decode cX1_add 72 = .ok (.invokespecial 61, 3) := by decide +kernel
theorem dX1_add_75 : decode cX1_add 75 = .ok (.athrow, 1) := by decide +kernel
theorem dX1_add_76 : decode cX1_add 76 = .ok (.aload_n 0, 1) := by decide +kernel
theorem dX1_add_77 : decode cX1_add 77 = .ok (.getfield 29, 3) := by decide +kernel
theorem dX1_add_80 : decode cX1_add 80 = .ok (.iload_n 2, 1) := by decide +kernel
theorem dX1_add_81 : decode cX1_add 81 = .ok (.baload, 1) := by decide +kernel
theorem dX1_add_82 : decode cX1_add 82 = .ok (.ifCond .eq 13, 3) := by decide +kernel
theorem dX1_add_85 : decode cX1_add 85 = .ok (.new 64, 3) := by decide +kernel
theorem dX1_add_88 : decode cX1_add 88 = .ok (.dup, 1) := by decide +kernel
theorem dX1_add_89 : decode cX1_add 89 = .ok (.ldc 66, 2) := by decide +kernel
theorem dX1_add_91 : decode cX1_add 91 = .ok (.invokespecial 68, 3) := by decide +kernel
theorem dX1_add_94 : decode cX1_add 94 = .ok (.athrow, 1) := by decide +kernel
theorem dX1_add_95 : decode cX1_add 95 = .ok (.aload_n 0, 1) := by decide +kernel
theorem dX1_add_96 : decode cX1_add 96 = .ok (.getfield 15, 3) := by decide +kernel
theorem dX1_add_99 : decode cX1_add 99 = .ok (.istore 7, 2) := by decide +kernel
theorem dX1_add_101 : decode cX1_add 101 = .ok (.iload 7, 2) := by decide +kernel
theorem dX1_add_103 : decode cX1_add 103 = .ok (.ifCond .lt 13, 3) := by decide +kernel
theorem dX1_add_106 : decode cX1_add 106 = .ok (.iload 7, 2) := by decide +kernel
theorem dX1_add_108 : decode cX1_add 108 = .ok (.aload_n 0, 1) := by decide +kernel
theorem dX1_add_109 : decode cX1_add 109 = .ok (.getfield 11, 3) := by decide +kernel
theorem dX1_add_112 : decode cX1_add 112 = .ok (.arraylength, 1) := by decide +kernel
theorem dX1_add_113 : decode cX1_add 113 = .ok (.if_icmp .lt 13, 3) := by decide +kernel
theorem dX1_add_116 : decode cX1_add 116 = .ok (.new 64, 3) := by decide +kernel
theorem dX1_add_119 : decode cX1_add 119 = .ok (.dup, 1) := by decide +kernel
theorem dX1_add_120 : decode cX1_add 120 = .ok (.ldc 69, 2) := by decide +kernel
theorem dX1_add_122 : decode cX1_add 122 = .ok (.invokespecial 68, 3) := by decide +kernel
theorem dX1_add_125 : decode cX1_add 125 = .ok (.athrow, 1) := by decide +kernel
theorem dX1_add_126 : decode cX1_add 126 = .ok (.aload_n 0, 1) := by decide +kernel
theorem dX1_add_127 : decode cX1_add 127 = .ok (.dup, 1) := by decide +kernel
theorem dX1_add_128 : decode cX1_add 128 = .ok (.getfield 33, 3) := by decide +kernel
theorem dX1_add_131 : decode cX1_add 131 = .ok (.iconst 1, 1) := by decide +kernel
theorem dX1_add_132 : decode cX1_add 132 = .ok (.iadd, 1) := by decide +kernel
theorem dX1_add_133 : decode cX1_add 133 = .ok (.putfield 33, 3) := by decide +kernel
theorem dX1_add_136 : decode cX1_add 136 = .ok (.aload_n 0, 1) := by decide +kernel
theorem dX1_add_137 : decode cX1_add 137 = .ok (.getfield 11, 3) := by decide +kernel
theorem dX1_add_140 : decode cX1_add 140 = .ok (.iload 7, 2) := by decide +kernel
theorem dX1_add_142 : decode cX1_add 142 = .ok (.new 9, 3) := by decide +kernel
theorem dX1_add_145 : decode cX1_add 145 = .ok (.dup, 1) := by decide +kernel
theorem dX1_add_146 : decode cX1_add 146 = .ok (.iload_n 1, 1) := by decide +kernel
theorem dX1_add_147 : decode cX1_add 147 = .ok (.iload_n 2, 1) := by decide +kernel
theorem dX1_add_148 : decode cX1_add 148 = .ok (.iload_n 3, 1) := by decide +kernel
theorem dX1_add_149 : decode cX1_add 149 = .ok (.iload 4, 2) := by decide +kernel
theorem dX1_add_151 : decode cX1_add 151 = .ok (.iload 5, 2) := by decide +kernel
theorem dX1_add_153 : decode cX1_add 153 = .ok (.iload 6, 2) := by decide +kernel
theorem dX1_add_155 : decode cX1_add 155 = .ok (.aload_n 0, 1) := by decide +kernel
theorem dX1_add_156 : decode cX1_add 156 = .ok (.getfield 33, 3) := by decide +kernel
theorem dX1_add_159 : decode cX1_add 159 = .ok (.invokespecial 71, 3) := by decide +kernel
theorem dX1_add_162 : decode cX1_add 162 = .ok (.aastore, 1) := by decide +kernel
theorem dX1_add_163 : decode cX1_add 163 = .ok (.aload_n 0, 1) := by decide +kernel
theorem dX1_add_164 : decode cX1_add 164 = .ok (.dup, 1) := by decide +kernel
theorem dX1_add_165 : decode cX1_add 165 = .ok (.getfield 15, 3) := by decide +kernel
theorem dX1_add_168 : decode cX1_add 168 = .ok (.iconst 1, 1) := by decide +kernel
theorem dX1_add_169 : decode cX1_add 169 = .ok (.iadd, 1) := by decide +kernel
theorem dX1_add_170 : decode cX1_add 170 = .ok (.putfield 15, 3) := by decide +kernel
theorem dX1_add_173 : decode cX1_add 173 = .ok (.iload 7, 2) := by decide +kernel
theorem dX1_add_175 : decode cX1_add 175 = .ok (.ireturn, 1) := by decide +kernel
set_option maxRecDepth 20000 in
theorem ggX1_move_X1_find : GoodIn wsX1_move wsX1_find := goodIn_r _ [12, 13, 14, 15, 11, 16, 62, 63, 64, 65, 66, 67, 68, 69] (by decide +kernel) (by decide +kernel)
set_option maxRecDepth 20000 in
theorem gX1_move_X1_find : GoodIn wsX1_move (wsV RX1 74 RX1 yX1_find wsX1_find) := goodIn_app (goodIn_of _ (by decide +kernel)) ggX1_move_X1_find
set_option maxRecDepth 20000 in
theorem ggX1_move_X1_isKind : GoodIn wsX1_move wsX1_isKind := goodIn_r _ [19, 14, 15, 11, 16] (by decide +kernel) (by decide +kernel)
set_option maxRecDepth 20000 in
theorem gX1_move_X1_isKind : GoodIn wsX1_move (va_wsS RX1 39 yX1_isKind wsX1_isKind) := goodIn_app (goodIn_of _ (by decide +kernel)) ggX1_move_X1_isKind
set_option maxRecDepth 20000 in
theorem ggX1_move_X1_isBase : GoodIn wsX1_move wsX1_isBase := goodIn_r _ [23, 24, 14, 15, 11, 16, 62, 63, 64, 65, 66, 67, 68, 69] (by decide +kernel) (by decide +kernel)
set_option maxRecDepth 20000 in
theorem gX1_move_X1_isBase : GoodIn wsX1_move (wsV RX1 80 RX1 yX1_isBase wsX1_isBase) := goodIn_app (goodIn_of _ (by decide +kernel)) ggX1_move_X1_isBase
set_option maxRecDepth 20000 in
theorem ggX1_move_X1_isStep : GoodIn wsX1_move wsX1_isStep := goodIn_r _ [27, 14, 15, 11, 16] (by decide +kernel) (by decide +kernel)
set_option maxRecDepth 20000 in
theorem gX1_move_X1_isStep : GoodIn wsX1_move (va_wsS RX1 85 yX1_isStep wsX1_isStep) := goodIn_app (goodIn_of _ (by decide +kernel)) ggX1_move_X1_isStep
set_option maxRecDepth 20000 in
theorem ggX1_move_X0_staysInside : GoodIn wsX1_move wsX0_staysInside := goodIn_r _ [32, 33, 34, 35, 36, 37, 11, 38, 14, 15, 16, 52, 53, 54, 55, 56, 57, 58, 59, 60, 61] (by decide +kernel) (by decide +kernel)
set_option maxRecDepth 20000 in
theorem gX1_move_X0_staysInside : GoodIn wsX1_move (wsV RX1 88 RX0 yX0_staysInside wsX0_staysInside) := goodIn_app (goodIn_of _ (by decide +kernel)) ggX1_move_X0_staysInside
set_option maxRecDepth 20000 in
theorem ggX1_move_X1_losesAgainstLastChange : GoodIn wsX1_move wsX1_losesAgainstLastChange := goodIn_r _ [41, 42, 43, 52, 53, 54, 55, 56, 57, 58, 59, 60, 61] (by decide +kernel) (by decide +kernel)
set_option maxRecDepth 20000 in
theorem gX1_move_X1_losesAgainstLastChange : GoodIn wsX1_move (va_wsS RX1 98 yX1_losesAgainstLastChange wsX1_losesAgainstLastChange) := goodIn_app (goodIn_of _ (by decide +kernel)) ggX1_move_X1_losesAgainstLastChange
set_option maxRecDepth 20000 in
theorem ggX1_move_X0_shift : GoodIn wsX1_move wsX0_shift := goodIn_r _ [47, 33, 34, 35, 36, 52, 53, 54, 55, 56, 57, 58, 59, 60, 61] (by decide +kernel) (by decide +kernel)
set_option maxRecDepth 20000 in
theorem gX1_move_X0_shift : GoodIn wsX1_move (wsV RX1 102 RX0 yX0_shift wsX0_shift) := goodIn_app (goodIn_of _ (by decide +kernel)) ggX1_move_X0_shift
set_option maxRecDepth 20000 in
theorem ggX1_move_X1_noteChange : GoodIn wsX1_move wsX1_noteChange := goodIn_r _ [51, 24, 42, 43, 62, 63, 64, 65, 66, 67, 68, 69, 52, 53, 54, 55, 56, 57, 58, 59, 60, 61] (by decide +kernel) (by decide +kernel)
set_option maxRecDepth 20000 in
theorem gX1_move_X1_noteChange : GoodIn wsX1_move (wsV RX1 106 RX1 yX1_noteChange wsX1_noteChange) := goodIn_app (goodIn_of _ (by decide +kernel)) ggX1_move_X1_noteChange
theorem dX1_move_0 : decode cX1_move 0 = .ok (.aload_n 0, 1) := by decide +kernel
theorem dX1_move_1 : decode cX1_move 1 = .ok (.iload_n 3, 1) := by decide +kernel
theorem dX1_move_2 : decode cX1_move 2 = .ok (.invokevirtual 74, 3) := by decide +kernel
theorem dX1_move_5 : decode cX1_move 5 = .ok (.astore 6, 2) := by decide +kernel
theorem dX1_move_7 : decode cX1_move 7 = .ok (.iload_n 1, 1) := by decide +kernel
theorem dX1_move_8 : decode cX1_move 8 = .ok (.invokestatic 39, 3) := by decide +kernel
theorem dX1_move_11 : decode cX1_move 11 = .ok (.ifCond .eq 8, 3) := by decide +kernel
theorem dX1_move_14 : decode cX1_move 14 = .ok (.aload 6, 2) := by decide +kernel
theorem dX1_move_16 : decode cX1_move 16 = .ok (.ifnonnull 13, 3) := by decide +kernel
theorem dX1_move_19 : decode cX1_move 19 = .ok (.new 46, 3) := by decide +kernel
theorem dX1_move_22 : decode cX1_move 22 = .ok (.dup, 1) := by decide +kernel
theorem dX1_move_23 : decode cX1_move 23 = .ok (.ldc 78, 2) := by decide +kernel
theorem dX1_move_25 : decode cX1_move 25 = .ok (.invokespecial 50, 3) := by decide +kernel
theorem dX1_move_28 : decode cX1_move 28 = .ok (.athrow, 1) := by decide +kernel
theorem dX1_move_29 : decode cX1_move 29 = .ok (.aload_n 0, 1) := by decide +kernel
theorem dX1_move_30 : decode cX1_move 30 = .ok (.iload_n 2, 1) := by decide +kernel
theorem dX1_move_31 : decode cX1_move 31 = .ok (.invokevirtual 80, 3) := by decide +kernel
theorem dX1_move_34 : decode cX1_move 34 = .ok (.ifCond .ne 13, 3) := by decide +kernel
theorem dX1_move_37 : decode cX1_move 37 = .ok (.new 57, 3) := by decide +kernel
theorem dX1_move_40 : decode cX1_move 40 = .ok (.dup, 1) := by decide +kernel
theorem dX1_move_41 : decode cX1_move 41 = .ok (.ldc 83, 2) := by decide +kernel
theorem dX1_move_43 : decode cX1_move 43 = .ok (.invokespecial 61, 3) := by decide +kernel
theorem dX1_move_46 : decode cX1_move 46 = .ok (.athrow, 1) := by decide +kernel
theorem dX1_move_47 : decode cX1_move 47 = .ok (.iload 4, 2) := by decide +kernel
theorem dX1_move_49 : decode cX1_move 49 = .ok (.invokestatic 85, 3) := by decide +kernel
theorem dX1_move_52 : decode cX1_move 52 = .ok (.ifCond .eq 23, 3) := by decide +kernel
theorem dX1_move_55 : decode cX1_move 55 = .ok (.iload 5, 2) := by decide +kernel
theorem dX1_move_57 : decode cX1_move 57 = .ok (.invokestatic 85, 3) := by decide +kernel
theorem dX1_move_60 : decode cX1_move 60 = .ok (.ifCond .eq 15, 3) := by decide +kernel
theorem dX1_move_63 : decode cX1_move 63 = .ok (.aload 6, 2) := by decide +kernel
theorem dX1_move_65 : decode cX1_move 65 = .ok (.iload 4, 2) := by decide +kernel
theorem dX1_move_67 : decode cX1_move 67 = .ok (.iload 5, 2) := by decide +kernel
theorem dX1_move_69 : decode cX1_move 69 = .ok (.invokevirtual 88, 3) := by decide +kernel
theorem dX1_move_72 : decode cX1_move 72 = .ok (.ifCond .ne 13, 3) := by decide +kernel
theorem dX1_move_75 : decode cX1_move 75 = .ok (.new 57, 3) := by decide +kernel
theorem dX1_move_78 : decode cX1_move 78 = .ok (.dup, 1) := by decide +kernel
theorem dX1_move_79 : decode cX1_move 79 = .ok (.ldc 91, 2) := by decide +kernel
theorem dX1_move_81 : decode cX1_move 81 = .ok (.invokespecial 61, 3) := by decide +kernel
theorem dX1_move_84 : decode cX1_move 84 = .ok (.athrow, 1) := by decide +kernel
theorem dX1_move_85 : decode cX1_move 85 = .ok (.aload 6, 2) := by decide +kernel
theorem dX1_move_87 : decode cX1_move 87 = .ok (.getfield 93, 3) := by decide +kernel
theorem dX1_move_90 : decode cX1_move 90 = .ok (.ifCond .eq 13, 3) := by decide +kernel
theorem dX1_move_93 : decode cX1_move 93 = .ok (.new 64, 3) := by decide +kernel
theorem dX1_move_96 : decode cX1_move 96 = .ok (.dup, 1) := by decide +kernel
theorem dX1_move_97 : decode cX1_move 97 = .ok (.ldc 96, 2) := by decide +kernel
theorem dX1_move_99 : decode cX1_move 99 = .ok (.invokespecial 68, 3) := by decide +kernel
theorem dX1_move_102 : decode cX1_move 102 = .ok (.athrow, 1) := by decide +kernel
theorem dX1_move_103 : decode cX1_move 103 = .ok (.aload 6, 2) := by decide +kernel
theorem dX1_move_105 : decode cX1_move 105 = .ok (.iload_n 1, 1) := by decide +kernel
theorem dX1_move_106 : decode cX1_move 106 = .ok (.iload_n 2, 1) := by decide +kernel
theorem dX1_move_107 : decode cX1_move 107 = .ok (.invokestatic 98, 3) := by decide +kernel
theorem dX1_move_110 : decode cX1_move 110 = .ok (.ifCond .eq 5, 3) := by decide +kernel
theorem dX1_move_113 : decode cX1_move 113 = .ok (.iconst 0, 1) := by decide +kernel
theorem dX1_move_114 : decode cX1_move 114 = .ok (.ireturn, 1) := by decide +kernel
theorem dX1_move_115 : decode cX1_move 115 = .ok (.aload 6, 2) := by decide +kernel
theorem dX1_move_117 : decode cX1_move 117 = .ok (.iload 4, 2) := by decide +kernel
theorem dX1_move_119 : decode cX1_move 119 = .ok (.iload 5, 2) := by decide +kernel
theorem dX1_move_121 : decode cX1_move 121 = .ok (.invokevirtual 102, 3) := by decide +kernel
theorem dX1_move_124 : decode cX1_move 124 = .ok (.aload_n 0, 1) := by decide +kernel
theorem dX1_move_125 : decode cX1_move 125 = .ok (.aload 6, 2) := by decide +kernel
theorem dX1_move_127 : decode cX1_move 127 = .ok (.iload_n 1, 1) := by decide +kernel
theorem dX1_move_128 : decode cX1_move 128 = .ok (.invokevirtual 106, 3) := by decide +kernel
theorem dX1_move_131 : decode cX1_move 131 = .ok (.iconst 1, 1) := by decide +kernel
theorem dX1_move_132 : decode cX1_move 132 = .ok (.ireturn, 1) := by decide +kernel
set_option maxRecDepth 20000 in
theorem ggX1_remove_X1_find : GoodIn wsX1_remove wsX1_find := goodIn_r _ [12, 13, 14, 15, 11, 16, 41, 42, 43, 44, 45, 46, 47, 48] (by decide +kernel) (by decide +kernel)
set_option maxRecDepth 20000 in
theorem gX1_remove_X1_find : GoodIn wsX1_remove (wsV RX1 74 RX1 yX1_find wsX1_find) := goodIn_app (goodIn_of _ (by decide +kernel)) ggX1_remove_X1_find
set_option maxRecDepth 20000 in
theorem ggX1_remove_X1_isKind : GoodIn wsX1_remove wsX1_isKind := goodIn_r _ [19, 14, 15, 11, 16] (by decide +kernel) (by decide +kernel)
set_option maxRecDepth 20000 in
theorem gX1_remove_X1_isKind : GoodIn wsX1_remove (va_wsS RX1 39 yX1_isKind wsX1_isKind) := goodIn_app (goodIn_of _ (by decide +kernel)) ggX1_remove_X1_isKind
set_option maxRecDepth 20000 in
theorem ggX1_remove_X1_isBase : GoodIn wsX1_remove wsX1_isBase := goodIn_r _ [23, 24, 14, 15, 11, 16, 41, 42, 43, 44, 45, 46, 47, 48] (by decide +kernel) (by decide +kernel)
set_option maxRecDepth 20000 in
theorem gX1_remove_X1_isBase : GoodIn wsX1_remove (wsV RX1 80 RX1 yX1_isBase wsX1_isBase) := goodIn_app (goodIn_of _ (by decide +kernel)) ggX1_remove_X1_isBase
set_option maxRecDepth 20000 in
theorem ggX1_remove_X1_noteChange : GoodIn wsX1_remove wsX1_noteChange := goodIn_r _ [28, 24, 29, 30, 41, 42, 43, 44, 45, 46, 47, 48, 31, 32, 33, 34, 35, 36, 37, 38, 39, 40] (by decide +kernel) (by decide +kernel)
set_option maxRecDepth 20000 in
theorem gX1_remove_X1_noteChange : GoodIn wsX1_remove (wsV RX1 106 RX1 yX1_noteChange wsX1_noteChange) := goodIn_app (goodIn_of _ (by decide +kernel)) ggX1_remove_X1_noteChange
theorem dX1_remove_0 : decode cX1_remove 0 = .ok (.aload_n 0, 1) := by decide +kernel
theorem dX1_remove_1 : decode cX1_remove 1 = .ok (.iload_n 3, 1) := by decide +kernel
theorem dX1_remove_2 : decode cX1_remove 2 = .ok (.invokevirtual 74, 3) := by decide +kernel
theorem dX1_remove_5 : decode cX1_remove 5 = .ok (.astore 4, 2) := by decide +kernel
theorem dX1_remove_7 : decode cX1_remove 7 = .ok (.iload_n 1, 1) := by decide +kernel
theorem dX1_remove_8 : decode cX1_remove 8 = .ok (.invokestatic 39, 3) := by decide +kernel
theorem dX1_remove_11 : decode cX1_remove 11 = .ok (.ifCond .eq 8, 3) := by decide +kernel
theorem dX1_remove_14 : decode cX1_remove 14 = .ok (.aload 4, 2) := by decide +kernel
theorem dX1_remove_16 : decode cX1_remove 16 = .ok (.ifnonnull 13, 3) := by decide +kernel
theorem dX1_remove_19 : decode cX1_remove 19 = .ok (.new 46, 3) := by decide +kernel
theorem dX1_remove_22 : decode cX1_remove 22 = .ok (.dup, 1) := by decide +kernel
theorem dX1_remove_23 : decode cX1_remove 23 = .ok (.ldc 78, 2) := by decide +kernel
theorem dX1_remove_25 : decode cX1_remove 25 = .ok (.invokespecial 50, 3) := by decide +kernel
theorem dX1_remove_28 : decode cX1_remove 28 = .ok (.athrow, 1) := by decide +kernel
theorem dX1_remove_29 : decode cX1_remove 29 = .ok (.aload_n 0, 1) := by decide +kernel
theorem dX1_remove_30 : decode cX1_remove 30 = .ok (.iload_n 2, 1) := by decide +kernel
theorem dX1_remove_31 : decode cX1_remove 31 = .ok (.invokevirtual 80, 3) := by decide +kernel
theorem dX1_remove_34 : decode cX1_remove 34 = .ok (.ifCond .ne 13, 3) := by decide +kernel
theorem dX1_remove_37 : decode cX1_remove 37 = .ok (.new 57, 3) := by decide +kernel
theorem dX1_remove_40 : decode cX1_remove 40 = .ok (.dup, 1) := by decide +kernel
theorem dX1_remove_41 : decode cX1_remove 41 = .ok (.ldc 83, 2) := by decide +kernel
theorem dX1_remove_43 : decode cX1_remove 43 = .ok (.invokespecial 61, 3) := by decide +kernel
theorem dX1_remove_46 : decode cX1_remove 46 = .ok (.athrow, 1) := by decide +kernel
theorem dX1_remove_47 : decode cX1_remove 47 = .ok (.aload 4, 2) := by decide +kernel
theorem dX1_remove_49 : decode cX1_remove 49 = .ok (.getfield 93, 3) := by decide +kernel
theorem dX1_remove_52 : decode cX1_remove 52 = .ok (.ifCond .eq 13, 3) := by decide +kernel
theorem dX1_remove_55 : decode cX1_remove 55 = .ok (.new 64, 3) := by decide +kernel
theorem dX1_remove_58 : decode cX1_remove 58 = .ok (.dup, 1) := by decide +kernel
theorem dX1_remove_59 : decode cX1_remove 59 = .ok (.ldc 96, 2) := by decide +kernel
theorem dX1_remove_61 : decode cX1_remove 61 = .ok (.invokespecial 68, 3) := by decide +kernel
theorem dX1_remove_64 : decode cX1_remove 64 = .ok (.athrow, 1) := by decide +kernel
theorem dX1_remove_65 : decode cX1_remove 65 = .ok (.aload 4, 2) := by decide +kernel
theorem dX1_remove_67 : decode cX1_remove 67 = .ok (.iconst 4, 1) := by decide +kernel
theorem dX1_remove_68 : decode cX1_remove 68 = .ok (.putfield 93, 3) := by decide +kernel
theorem dX1_remove_71 : decode cX1_remove 71 = .ok (.aload_n 0, 1) := by decide +kernel
theorem dX1_remove_72 : decode cX1_remove 72 = .ok (.aload 4, 2) := by decide +kernel
theorem dX1_remove_74 : decode cX1_remove 74 = .ok (.iload_n 1, 1) := by decide +kernel
theorem dX1_remove_75 : decode cX1_remove 75 = .ok (.invokevirtual 106, 3) := by decide +kernel
theorem dX1_remove_78 : decode cX1_remove 78 = .ok (.iconst 1, 1) := by decide +kernel
theorem dX1_remove_79 : decode cX1_remove 79 = .ok (.ireturn, 1) := by decide +kernel
set_option maxRecDepth 20000 in
theorem ggX1_clear_X1_isKind : GoodIn wsX1_clear wsX1_isKind := goodIn_r _ [9, 10, 11, 8, 12] (by decide +kernel) (by decide +kernel)
set_option maxRecDepth 20000 in
theorem gX1_clear_X1_isKind : GoodIn wsX1_clear (va_wsS RX1 39 yX1_isKind wsX1_isKind) := goodIn_app (goodIn_of _ (by decide +kernel)) ggX1_clear_X1_isKind
set_option maxRecDepth 20000 in
theorem ggX1_clear_X1_isWithin : GoodIn wsX1_clear wsX1_isWithin := goodIn_r _ [12] (by decide +kernel) (by decide +kernel)
set_option maxRecDepth 20000 in
theorem gX1_clear_X1_isWithin : GoodIn wsX1_clear (va_wsS RX1 112 yX1_isWithin wsX1_isWithin) := goodIn_app (goodIn_of _ (by decide +kernel)) ggX1_clear_X1_isWithin
theorem dX1_clear_0 : decode cX1_clear 0 = .ok (.iload_n 1, 1) := by decide +kernel
theorem dX1_clear_1 : decode cX1_clear 1 = .ok (.invokestatic 39, 3) := by decide +kernel
theorem dX1_clear_4 : decode cX1_clear 4 = .ok (.ifCond .eq 10, 3) := by decide +kernel
theorem dX1_clear_7 : decode cX1_clear 7 = .ok (.iload_n 2, 1) := by decide +kernel
theorem dX1_clear_8 : decode cX1_clear 8 = .ok (.invokestatic 39, 3) := by decide +kernel
theorem dX1_clear_11 : decode cX1_clear 11 = .ok (.ifCond .ne 13, 3) := by decide +kernel
theorem dX1_clear_14 : decode cX1_clear 14 = .ok (.new 46, 3) := by decide +kernel
theorem dX1_clear_17 : decode cX1_clear 17 = .ok (.dup, 1) := by decide +kernel
theorem dX1_clear_18 : decode cX1_clear 18 = .ok (.ldc 110, 2) := by decide +kernel
theorem dX1_clear_20 : decode cX1_clear 20 = .ok (.invokespecial 50, 3) := by decide +kernel
theorem dX1_clear_23 : decode cX1_clear 23 = .ok (.athrow, 1) := by decide +kernel
theorem dX1_clear_24 : decode cX1_clear 24 = .ok (.iload_n 3, 1) := by decide +kernel
theorem dX1_clear_25 : decode cX1_clear 25 = .ok (.iconst 0, 1) := by decide +kernel
theorem dX1_clear_26 : decode cX1_clear 26 = .ok (.iconst 3, 1) := by decide +kernel
theorem dX1_clear_27 : decode cX1_clear 27 = .ok (.invokestatic 112, 3) := by decide +kernel
theorem dX1_clear_30 : decode cX1_clear 30 = .ok (.ifCond .ne 13, 3) := by decide +kernel
theorem dX1_clear_33 : decode cX1_clear 33 = .ok (.new 57, 3) := by decide +kernel
theorem dX1_clear_36 : decode cX1_clear 36 = .ok (.dup, 1) := by decide +kernel
theorem dX1_clear_37 : decode cX1_clear 37 = .ok (.ldc 116, 2) := by decide +kernel
theorem dX1_clear_39 : decode cX1_clear 39 = .ok (.invokespecial 61, 3) := by decide +kernel
theorem dX1_clear_42 : decode cX1_clear 42 = .ok (.athrow, 1) := by decide +kernel
theorem dX1_clear_43 : decode cX1_clear 43 = .ok (.aload_n 0, 1) := by decide +kernel
theorem dX1_clear_44 : decode cX1_clear 44 = .ok (.getfield 19, 3) := by decide +kernel
theorem dX1_clear_47 : decode cX1_clear 47 = .ok (.iload_n 1, 1) := by decide +kernel
theorem dX1_clear_48 : decode cX1_clear 48 = .ok (.iconst 3, 1) := by decide +kernel
theorem dX1_clear_49 : decode cX1_clear 49 = .ok (.imul, 1) := by decide +kernel
theorem dX1_clear_50 : decode cX1_clear 50 = .ok (.iload_n 2, 1) := by decide +kernel
theorem dX1_clear_51 : decode cX1_clear 51 = .ok (.iadd, 1) := by decide +kernel
theorem dX1_clear_52 : decode cX1_clear 52 = .ok (.iaload, 1) := by decide +kernel
theorem dX1_clear_53 : decode cX1_clear 53 = .ok (.istore 4, 2) := by decide +kernel
theorem dX1_clear_55 : decode cX1_clear 55 = .ok (.aload_n 0, 1) := by decide +kernel
theorem dX1_clear_56 : decode cX1_clear 56 = .ok (.getfield 19, 3) := by decide +kernel
theorem dX1_clear_59 : decode cX1_clear 59 = .ok (.iload_n 1, 1) := by decide +kernel
theorem dX1_clear_60 : decode cX1_clear 60 = .ok (.iconst 3, 1) := by decide +kernel
theorem dX1_clear_61 : decode cX1_clear 61 = .ok (.imul, 1) := by decide +kernel
theorem dX1_clear_62 : decode cX1_clear 62 = .ok (.iload_n 2, 1) := by decide +kernel
theorem dX1_clear_63 : decode cX1_clear 63 = .ok (.iadd, 1) := by decide +kernel
theorem dX1_clear_64 : decode cX1_clear 64 = .ok (.iload_n 3, 1) := by decide +kernel
theorem dX1_clear_65 : decode cX1_clear 65 = .ok (.iastore, 1) := by decide +kernel
theorem dX1_clear_66 : decode cX1_clear 66 = .ok (.aload_n 0, 1) := by decide +kernel
theorem dX1_clear_67 : decode cX1_clear 67 = .ok (.getfield 19, 3) := by decide +kernel
theorem dX1_clear_70 : decode cX1_clear 70 = .ok (.iload_n 2, 1) := by decide +kernel
theorem dX1_clear_71 : decode cX1_clear 71 = .ok (.iconst 3, 1) := by decide +kernel
theorem dX1_clear_72 : decode cX1_clear 72 = .ok (.imul, 1) := by decide +kernel
theorem dX1_clear_73 : decode cX1_clear 73 = .ok (.iload_n 1, 1) := by decide +kernel
theorem dX1_clear_74 : decode cX1_clear 74 = .ok (.iadd, 1) := by decide +kernel
theorem dX1_clear_75 : decode cX1_clear 75 = .ok (.iload_n 3, 1) := by decide +kernel
theorem dX1_clear_76 : decode cX1_clear 76 = .ok (.iastore, 1) := by decide +kernel
theorem dX1_clear_77 : decode cX1_clear 77 = .ok (.iload 4, 2) := by decide +kernel
theorem dX1_clear_79 : decode cX1_clear 79 = .ok (.ireturn, 1) := by decide +kernel
set_option maxRecDepth 20000 in
theorem ggX1_part_X1_isKind : GoodIn wsX1_part wsX1_isKind := goodIn_r _ [9, 10, 11, 8, 12] (by decide +kernel) (by decide +kernel)
set_option maxRecDepth 20000 in
theorem gX1_part_X1_isKind : GoodIn wsX1_part (va_wsS RX1 39 yX1_isKind wsX1_isKind) := goodIn_app (goodIn_of _ (by decide +kernel)) ggX1_part_X1_isKind
set_option maxRecDepth 20000 in
theorem ggX1_part_X1_isWithin : GoodIn wsX1_part wsX1_isWithin := goodIn_r _ [12] (by decide +kernel) (by decide +kernel)
set_option maxRecDepth 20000 in
theorem gX1_part_X1_isWithin : GoodIn wsX1_part (va_wsS RX1 112 yX1_isWithin wsX1_isWithin) := goodIn_app (goodIn_of _ (by decide +kernel)) ggX1_part_X1_isWithin
theorem dX1_part_0 : decode cX1_part 0 = .ok (.iload_n 1, 1) := by decide +kernel
theorem dX1_part_1 : decode cX1_part 1 = .ok (.invokestatic 39, 3) := by decide +kernel
theorem dX1_part_4 : decode cX1_part 4 = .ok (.ifCond .ne 13, 3) := by decide +kernel
theorem dX1_part_7 : decode cX1_part 7 = .ok (.new 46, 3) := by decide +kernel
theorem dX1_part_10 : decode cX1_part 10 = .ok (.dup, 1) := by decide +kernel
theorem dX1_part_11 : decode cX1_part 11 = .ok (.ldc 110, 2) := by decide +kernel
theorem dX1_part_13 : decode cX1_part 13 = .ok (.invokespecial 50, 3) := by decide +kernel
theorem dX1_part_16 : decode cX1_part 16 = .ok (.athrow, 1) := by decide +kernel
theorem dX1_part_17 : decode cX1_part 17 = .ok (.iload_n 2, 1) := by decide +kernel
theorem dX1_part_18 : decode cX1_part 18 = .ok (.iconst 1, 1) := by decide +kernel
theorem dX1_part_19 : decode cX1_part 19 = .ok (.bipush 12, 2) := by decide +kernel
theorem dX1_part_21 : decode cX1_part 21 = .ok (.invokestatic 112, 3) := by decide +kernel
theorem dX1_part_24 : decode cX1_part 24 = .ok (.ifCond .ne 13, 3) := by decide +kernel
theorem dX1_part_27 : decode cX1_part 27 = .ok (.new 57, 3) := by decide +kernel
theorem dX1_part_30 : decode cX1_part 30 = .ok (.dup, 1) := by decide +kernel
theorem dX1_part_31 : decode cX1_part 31 = .ok (.ldc 116, 2) := by decide +kernel
theorem dX1_part_33 : decode cX1_part 33 = .ok (.invokespecial 61, 3) := by decide +kernel
theorem dX1_part_36 : decode cX1_part 36 = .ok (.athrow, 1) := by decide +kernel
theorem dX1_part_37 : decode cX1_part 37 = .ok (.aload_n 0, 1) := by decide +kernel
theorem dX1_part_38 : decode cX1_part 38 = .ok (.getfield 23, 3) := by decide +kernel
theorem dX1_part_41 : decode cX1_part 41 = .ok (.iload_n 1, 1) := by decide +kernel
theorem dX1_part_42 : decode cX1_part 42 = .ok (.iaload, 1) := by decide +kernel
theorem dX1_part_43 : decode cX1_part 43 = .ok (.istore_n 3, 1) := by decide +kernel
theorem dX1_part_44 : decode cX1_part 44 = .ok (.aload_n 0, 1) := by decide +kernel
theorem dX1_part_45 : decode cX1_part 45 = .ok (.getfield 23, 3) := by decide +kernel
theorem dX1_part_48 : decode cX1_part 48 = .ok (.iload_n 1, 1) := by decide +kernel
theorem dX1_part_49 : decode cX1_part 49 = .ok (.iload_n 2, 1) := by decide +kernel
theorem dX1_part_50 : decode cX1_part 50 = .ok (.iastore, 1) := by decide +kernel
theorem dX1_part_51 : decode cX1_part 51 = .ok (.iload_n 3, 1) := by decide +kernel
theorem dX1_part_52 : decode cX1_part 52 = .ok (.ireturn, 1) := by decide +kernel
set_option maxRecDepth 20000 in
theorem ggX1_lead_X1_isKind : GoodIn wsX1_lead wsX1_isKind := goodIn_r _ [9, 10, 11, 8, 12] (by decide +kernel) (by decide +kernel)
set_option maxRecDepth 20000 in
theorem gX1_lead_X1_isKind : GoodIn wsX1_lead (va_wsS RX1 39 yX1_isKind wsX1_isKind) := goodIn_app (goodIn_of _ (by decide +kernel)) ggX1_lead_X1_isKind
set_option maxRecDepth 20000 in
theorem ggX1_lead_X1_isWithin : GoodIn wsX1_lead wsX1_isWithin := goodIn_r _ [12] (by decide +kernel) (by decide +kernel)
set_option maxRecDepth 20000 in
theorem gX1_lead_X1_isWithin : GoodIn wsX1_lead (va_wsS RX1 112 yX1_isWithin wsX1_isWithin) := goodIn_app (goodIn_of _ (by decide +kernel)) ggX1_lead_X1_isWithin
theorem dX1_lead_0 : decode cX1_lead 0 = .ok (.iload_n 1, 1) := by decide +kernel
theorem dX1_lead_1 : decode cX1_lead 1 = .ok (.invokestatic 39, 3) := by decide +kernel
theorem dX1_lead_4 : decode cX1_lead 4 = .ok (.ifCond .ne 13, 3) := by decide +kernel
theorem dX1_lead_7 : decode cX1_lead 7 = .ok (.new 46, 3) := by decide +kernel
theorem dX1_lead_10 : decode cX1_lead 10 = .ok (.dup, 1) := by decide +kernel
theorem dX1_lead_11 : decode cX1_lead 11 = .ok (.ldc 110, 2) := by decide +kernel
theorem dX1_lead_13 : decode cX1_lead 13 = .ok (.invokespecial 50, 3) := by decide +kernel
theorem dX1_lead_16 : decode cX1_lead 16 = .ok (.athrow, 1) := by decide +kernel
theorem dX1_lead_17 : decode cX1_lead 17 = .ok (.iload_n 2, 1) := by decide +kernel
theorem dX1_lead_18 : decode cX1_lead 18 = .ok (.iconst 0, 1) := by decide +kernel
theorem dX1_lead_19 : decode cX1_lead 19 = .ok (.bipush 100, 2) := by decide +kernel
theorem dX1_lead_21 : decode cX1_lead 21 = .ok (.invokestatic 112, 3) := by decide +kernel
theorem dX1_lead_24 : decode cX1_lead 24 = .ok (.ifCond .ne 13, 3) := by decide +kernel
theorem dX1_lead_27 : decode cX1_lead 27 = .ok (.new 57, 3) := by decide +kernel
theorem dX1_lead_30 : decode cX1_lead 30 = .ok (.dup, 1) := by decide +kernel
theorem dX1_lead_31 : decode cX1_lead 31 = .ok (.ldc 118, 2) := by decide +kernel
theorem dX1_lead_33 : decode cX1_lead 33 = .ok (.invokespecial 61, 3) := by decide +kernel
theorem dX1_lead_36 : decode cX1_lead 36 = .ok (.athrow, 1) := by decide +kernel
theorem dX1_lead_37 : decode cX1_lead 37 = .ok (.aload_n 0, 1) := by decide +kernel
theorem dX1_lead_38 : decode cX1_lead 38 = .ok (.getfield 26, 3) := by decide +kernel
theorem dX1_lead_41 : decode cX1_lead 41 = .ok (.iload_n 1, 1) := by decide +kernel
theorem dX1_lead_42 : decode cX1_lead 42 = .ok (.iaload, 1) := by decide +kernel
theorem dX1_lead_43 : decode cX1_lead 43 = .ok (.istore_n 3, 1) := by decide +kernel
theorem dX1_lead_44 : decode cX1_lead 44 = .ok (.aload_n 0, 1) := by decide +kernel
theorem dX1_lead_45 : decode cX1_lead 45 = .ok (.getfield 26, 3) := by decide +kernel
theorem dX1_lead_48 : decode cX1_lead 48 = .ok (.iload_n 1, 1) := by decide +kernel
theorem dX1_lead_49 : decode cX1_lead 49 = .ok (.iload_n 2, 1) := by decide +kernel
theorem dX1_lead_50 : decode cX1_lead 50 = .ok (.iastore, 1) := by decide +kernel
theorem dX1_lead_51 : decode cX1_lead 51 = .ok (.iload_n 3, 1) := by decide +kernel
theorem dX1_lead_52 : decode cX1_lead 52 = .ok (.ireturn, 1) := by decide +kernel
set_option maxRecDepth 20000 in
theorem ggX1_order_X1_find : GoodIn wsX1_order wsX1_find := goodIn_r _ [13, 14, 15, 16, 12, 17, 60, 61, 62, 63, 64, 65, 66, 67] (by decide +kernel) (by decide +kernel)
set_option maxRecDepth 20000 in
theorem gX1_order_X1_find : GoodIn wsX1_order (wsV RX1 74 RX1 yX1_find wsX1_find) := goodIn_app (goodIn_of _ (by decide +kernel)) ggX1_order_X1_find
set_option maxRecDepth 20000 in
theorem ggX1_order_X1_leadDaysOf : GoodIn wsX1_order wsX1_leadDaysOf := goodIn_r _ [21, 22, 23, 24, 12, 25, 15, 16, 17, 60, 61, 62, 63, 64, 65, 66, 67] (by decide +kernel) (by decide +kernel)
set_option maxRecDepth 20000 in
theorem gX1_order_X1_leadDaysOf : GoodIn wsX1_order (wsV RX1 125 RX1 yX1_leadDaysOf wsX1_leadDaysOf) := goodIn_app (goodIn_of _ (by decide +kernel)) ggX1_order_X1_leadDaysOf
set_option maxRecDepth 20000 in
theorem ggX1_order_X0_deliverIfDue : GoodIn wsX1_order wsX0_deliverIfDue := goodIn_r _ [30, 31, 32, 50, 51, 52, 53, 54, 55, 56, 57, 58, 59] (by decide +kernel) (by decide +kernel)
set_option maxRecDepth 20000 in
theorem gX1_order_X0_deliverIfDue : GoodIn wsX1_order (wsV RX1 132 RX0 yX0_deliverIfDue wsX0_deliverIfDue) := goodIn_app (goodIn_of _ (by decide +kernel)) ggX1_order_X0_deliverIfDue
set_option maxRecDepth 20000 in
theorem ggX1_order_X1_partsOf : GoodIn wsX1_order wsX1_partsOf := goodIn_r _ [36, 7, 37, 23, 24, 12, 25, 15, 16, 17, 38, 39, 40, 29, 41, 42, 43, 44, 45, 46, 47, 48, 49, 50, 51, 52, 53, 54, 55, 56, 57, 58, 59, 60, 61, 62, 63, 64, 65, 66, 67] (by decide +kernel) (by decide +kernel)
set_option maxRecDepth 20000 in
theorem gX1_order_X1_partsOf : GoodIn wsX1_order (wsV RX1 136 RX1 yX1_partsOf wsX1_partsOf) := goodIn_app (goodIn_of _ (by decide +kernel)) ggX1_order_X1_partsOf
theorem dX1_order_0 : decode cX1_order 0 = .ok (.aload_n 0, 1) := by decide +kernel
theorem dX1_order_1 : decode cX1_order 1 = .ok (.iload_n 1, 1) := by decide +kernel
theorem dX1_order_2 : decode cX1_order 2 = .ok (.invokevirtual 74, 3) := by decide +kernel
theorem dX1_order_5 : decode cX1_order 5 = .ok (.astore_n 2, 1) := by decide +kernel
theorem dX1_order_6 : decode cX1_order 6 = .ok (.aload_n 2, 1) := by decide +kernel
theorem dX1_order_7 : decode cX1_order 7 = .ok (.ifnonnull 13, 3) := by decide +kernel
theorem dX1_order_10 : decode cX1_order 10 = .ok (.new 46, 3) := by decide +kernel
theorem dX1_order_13 : decode cX1_order 13 = .ok (.dup, 1) := by decide +kernel
theorem dX1_order_14 : decode cX1_order 14 = .ok (.ldc 120, 2) := by decide +kernel
theorem dX1_order_16 : decode cX1_order 16 = .ok (.invokespecial 50, 3) := by decide +kernel
theorem dX1_order_19 : decode cX1_order 19 = .ok (.athrow, 1) := by decide +kernel
theorem dX1_order_20 : decode cX1_order 20 = .ok (.aload_n 2, 1) := by decide +kernel
theorem dX1_order_21 : decode cX1_order 21 = .ok (.getfield 93, 3) := by decide +kernel
theorem dX1_order_24 : decode cX1_order 24 = .ok (.ifCond .eq 13, 3) := by decide +kernel
theorem dX1_order_27 : decode cX1_order 27 = .ok (.new 64, 3) := by decide +kernel
theorem dX1_order_30 : decode cX1_order 30 = .ok (.dup, 1) := by decide +kernel
theorem dX1_order_31 : decode cX1_order 31 = .ok (.ldc 96, 2) := by decide +kernel
theorem dX1_order_33 : decode cX1_order 33 = .ok (.invokespecial 68, 3) := by decide +kernel
theorem dX1_order_36 : decode cX1_order 36 = .ok (.athrow, 1) := by decide +kernel
theorem dX1_order_37 : decode cX1_order 37 = .ok (.aload_n 2, 1) := by decide +kernel
theorem dX1_order_38 : decode cX1_order 38 = .ok (.iconst 1, 1) := by decide +kernel
theorem dX1_order_39 : decode cX1_order 39 = .ok (.putfield 93, 3) := by decide +kernel
theorem dX1_order_42 : decode cX1_order 42 = .ok (.aload_n 2, 1) := by decide +kernel
theorem dX1_order_43 : decode cX1_order 43 = .ok (.aload_n 0, 1) := by decide +kernel
theorem dX1_order_44 : decode cX1_order 44 = .ok (.getfield 36, 3) := by decide +kernel
theorem dX1_order_47 : decode cX1_order 47 = .ok (.aload_n 0, 1) := by decide +kernel
theorem dX1_order_48 : decode cX1_order 48 = .ok (.aload_n 2, 1) := by decide +kernel
theorem dX1_order_49 : decode cX1_order 49 = .ok (.getfield 122, 3) := by decide +kernel
theorem dX1_order_52 : decode cX1_order 52 = .ok (.invokevirtual 125, 3) := by decide +kernel
theorem dX1_order_55 : decode cX1_order 55 = .ok (.iadd, 1) := by decide +kernel
theorem dX1_order_56 : decode cX1_order 56 = .ok (.putfield 129, 3) := by decide +kernel
theorem dX1_order_59 : decode cX1_order 59 = .ok (.aload_n 2, 1) := by decide +kernel
theorem dX1_order_60 : decode cX1_order 60 = .ok (.aload_n 0, 1) := by decide +kernel
theorem dX1_order_61 : decode cX1_order 61 = .ok (.getfield 36, 3) := by decide +kernel
theorem dX1_order_64 : decode cX1_order 64 = .ok (.invokevirtual 132, 3) := by decide +kernel
theorem dX1_order_67 : decode cX1_order 67 = .ok (.aload_n 0, 1) := by decide +kernel
theorem dX1_order_68 : decode cX1_order 68 = .ok (.aload_n 2, 1) := by decide +kernel
theorem dX1_order_69 : decode cX1_order 69 = .ok (.invokevirtual 136, 3) := by decide +kernel
theorem dX1_order_72 : decode cX1_order 72 = .ok (.ireturn, 1) := by decide +kernel
set_option maxRecDepth 20000 in
theorem ggX1_cancel_X1_find : GoodIn wsX1_cancel wsX1_find := goodIn_r _ [12, 13, 14, 15, 11, 16, 27, 28, 29, 30, 31, 32, 33, 34] (by decide +kernel) (by decide +kernel)
set_option maxRecDepth 20000 in
theorem gX1_cancel_X1_find : GoodIn wsX1_cancel (wsV RX1 74 RX1 yX1_find wsX1_find) := goodIn_app (goodIn_of _ (by decide +kernel)) ggX1_cancel_X1_find
theorem dX1_cancel_0 : decode cX1_cancel 0 = .ok (.aload_n 0, 1) := by decide +kernel
theorem dX1_cancel_1 : decode cX1_cancel 1 = .ok (.iload_n 1, 1) := by decide +kernel
theorem dX1_cancel_2 : decode cX1_cancel 2 = .ok (.invokevirtual 74, 3) := by decide +kernel
theorem dX1_cancel_5 : decode cX1_cancel 5 = .ok (.astore_n 2, 1) := by decide +kernel
theorem dX1_cancel_6 : decode cX1_cancel 6 = .ok (.aload_n 2, 1) := by decide +kernel
theorem dX1_cancel_7 : decode cX1_cancel 7 = .ok (.ifnonnull 13, 3) := by decide +kernel
theorem dX1_cancel_10 : decode cX1_cancel 10 = .ok (.new 46, 3) := by decide +kernel
theorem dX1_cancel_13 : decode cX1_cancel 13 = .ok (.dup, 1) := by decide +kernel
theorem dX1_cancel_14 : decode cX1_cancel 14 = .ok (.ldc 120, 2) := by decide +kernel
theorem dX1_cancel_16 : decode cX1_cancel 16 = .ok (.invokespecial 50, 3) := by decide +kernel
theorem dX1_cancel_19 : decode cX1_cancel 19 = .ok (.athrow, 1) := by decide +kernel
theorem dX1_cancel_20 : decode cX1_cancel 20 = .ok (.aload_n 2, 1) := by decide +kernel
theorem dX1_cancel_21 : decode cX1_cancel 21 = .ok (.getfield 93, 3) := by decide +kernel
theorem dX1_cancel_24 : decode cX1_cancel 24 = .ok (.iconst 1, 1) := by decide +kernel
theorem dX1_cancel_25 : decode cX1_cancel 25 = .ok (.if_icmp .eq 13, 3) := by decide +kernel
theorem dX1_cancel_28 : decode cX1_cancel 28 = .ok (.new 64, 3) := by decide +kernel
theorem dX1_cancel_31 : decode cX1_cancel 31 = .ok (.dup, 1) := by decide +kernel
theorem dX1_cancel_32 : decode cX1_cancel 32 = .ok (.ldc 140, 2) := by decide +kernel
theorem dX1_cancel_34 : decode cX1_cancel 34 = .ok (.invokespecial 68, 3) := by decide +kernel
theorem dX1_cancel_37 : decode cX1_cancel 37 = .ok (.athrow, 1) := by decide +kernel
theorem dX1_cancel_38 : decode cX1_cancel 38 = .ok (.aload_n 2, 1) := by decide +kernel
theorem dX1_cancel_39 : decode cX1_cancel 39 = .ok (.iconst 0, 1) := by decide +kernel
theorem dX1_cancel_40 : decode cX1_cancel 40 = .ok (.putfield 93, 3) := by decide +kernel
theorem dX1_cancel_43 : decode cX1_cancel 43 = .ok (.aload_n 2, 1) := by decide +kernel
theorem dX1_cancel_44 : decode cX1_cancel 44 = .ok (.getfield 129, 3) := by decide +kernel
theorem dX1_cancel_47 : decode cX1_cancel 47 = .ok (.aload_n 0, 1) := by decide +kernel
theorem dX1_cancel_48 : decode cX1_cancel 48 = .ok (.getfield 36, 3) := by decide +kernel
theorem dX1_cancel_51 : decode cX1_cancel 51 = .ok (.isub, 1) := by decide +kernel
theorem dX1_cancel_52 : decode cX1_cancel 52 = .ok (.ireturn, 1) := by decide +kernel
set_option maxRecDepth 20000 in
theorem ggX1_build_X1_find : GoodIn wsX1_build wsX1_find := goodIn_r _ [10, 11, 12, 13, 9, 14, 68, 69, 70, 71, 72, 73, 74, 75] (by decide +kernel) (by decide +kernel)
set_option maxRecDepth 20000 in
theorem gX1_build_X1_find : GoodIn wsX1_build (wsV RX1 74 RX1 yX1_find wsX1_find) := goodIn_app (goodIn_of _ (by decide +kernel)) ggX1_build_X1_find
set_option maxRecDepth 20000 in
theorem ggX1_build_X1_clashesWithAny : GoodIn wsX1_build wsX1_clashesWithAny := goodIn_r _ [18, 19, 20, 21, 22, 9, 23, 24, 25, 6, 7, 8, 10, 11, 12, 13, 14, 26, 27, 28, 29, 30, 31, 32, 33, 34, 35, 36, 37, 38, 39, 40, 41, 42, 43, 44, 45, 46, 47, 48, 49, 50, 51, 52, 53, 54, 55, 56, 57, 68, 69, 70, 71, 72, 73, 74, 75, 58, 59, 60, 61, 62, 63, 64, 65, 66, 67] (by decide +kernel) (by decide +kernel)
set_option maxRecDepth 20000 in
theorem gX1_build_X1_clashesWithAny : GoodIn wsX1_build (wsV RX1 144 RX1 yX1_clashesWithAny wsX1_clashesWithAny) := goodIn_app (goodIn_of _ (by decide +kernel)) ggX1_build_X1_clashesWithAny
theorem dX1_build_0 : decode cX1_build 0 = .ok (.aload_n 0, 1) := by decide +kernel
theorem dX1_build_1 : decode cX1_build 1 = .ok (.iload_n 1, 1) := by decide +kernel
theorem dX1_build_2 : decode cX1_build 2 = .ok (.invokevirtual 74, 3) := by decide +kernel
theorem dX1_build_5 : decode cX1_build 5 = .ok (.astore_n 2, 1) := by decide +kernel
theorem dX1_build_6 : decode cX1_build 6 = .ok (.aload_n 2, 1) := by decide +kernel
theorem dX1_build_7 : decode cX1_build 7 = .ok (.ifnonnull 13, 3) := by decide +kernel
theorem dX1_build_10 : decode cX1_build 10 = .ok (.new 46, 3) := by decide +kernel
theorem dX1_build_13 : decode cX1_build 13 = .ok (.dup, 1) := by decide +kernel
theorem dX1_build_14 : decode cX1_build 14 = .ok (.ldc 120, 2) := by decide +kernel
theorem dX1_build_16 : decode cX1_build 16 = .ok (.invokespecial 50, 3) := by decide +kernel
theorem dX1_build_19 : decode cX1_build 19 = .ok (.athrow, 1) := by decide +kernel
theorem dX1_build_20 : decode cX1_build 20 = .ok (.aload_n 2, 1) := by decide +kernel
theorem dX1_build_21 : decode cX1_build 21 = .ok (.getfield 93, 3) := by decide +kernel
theorem dX1_build_24 : decode cX1_build 24 = .ok (.iconst 2, 1) := by decide +kernel
theorem dX1_build_25 : decode cX1_build 25 = .ok (.if_icmp .eq 13, 3) := by decide +kernel
theorem dX1_build_28 : decode cX1_build 28 = .ok (.new 64, 3) := by decide +kernel
theorem dX1_build_31 : decode cX1_build 31 = .ok (.dup, 1) := by decide +kernel
theorem dX1_build_32 : decode cX1_build 32 = .ok (.ldc 142, 2) := by decide +kernel
theorem dX1_build_34 : decode cX1_build 34 = .ok (.invokespecial 68, 3) := by decide +kernel
theorem dX1_build_37 : decode cX1_build 37 = .ok (.athrow, 1) := by decide +kernel
theorem dX1_build_38 : decode cX1_build 38 = .ok (.aload_n 0, 1) := by decide +kernel
theorem dX1_build_39 : decode cX1_build 39 = .ok (.iload_n 1, 1) := by decide +kernel
theorem dX1_build_40 : decode cX1_build 40 = .ok (.invokevirtual 144, 3) := by decide +kernel
theorem dX1_build_43 : decode cX1_build 43 = .ok (.ifCond .eq 5, 3) := by decide +kernel
theorem dX1_build_46 : decode cX1_build 46 = .ok (.iconst 0, 1) := by decide +kernel
theorem dX1_build_47 : decode cX1_build 47 = .ok (.ireturn, 1) := by decide +kernel
theorem dX1_build_48 : decode cX1_build 48 = .ok (.aload_n 2, 1) := by decide +kernel
theorem dX1_build_49 : decode cX1_build 49 = .ok (.iconst 3, 1) := by decide +kernel
theorem dX1_build_50 : decode cX1_build 50 = .ok (.putfield 93, 3) := by decide +kernel
theorem dX1_build_53 : decode cX1_build 53 = .ok (.iconst 1, 1) := by decide +kernel
theorem dX1_build_54 : decode cX1_build 54 = .ok (.ireturn, 1) := by decide +kernel
set_option maxRecDepth 20000 in
theorem ggX1_inspect_X1_isStorey : GoodIn wsX1_inspect wsX1_isStorey := goodIn_r _ [9, 10, 11, 8, 12] (by decide +kernel) (by decide +kernel)
set_option maxRecDepth 20000 in
theorem gX1_inspect_X1_isStorey : GoodIn wsX1_inspect (va_wsS RX1 43 yX1_isStorey wsX1_isStorey) := goodIn_app (goodIn_of _ (by decide +kernel)) ggX1_inspect_X1_isStorey
set_option maxRecDepth 20000 in
theorem ggX1_inspect_X1_isFinished : GoodIn wsX1_inspect wsX1_isFinished := goodIn_r _ [16, 17, 18, 19, 20, 21, 22, 8, 23, 24, 10, 11, 12, 25, 26, 27, 28, 29, 30, 31, 32, 33, 34, 35, 36, 37, 38, 39, 40, 41, 42, 43, 44, 45, 46, 47, 48, 49, 50, 51, 52, 53, 54, 55, 56, 57, 58, 59, 60, 61, 62, 63, 64, 65, 66, 67, 68, 69, 70, 71, 72, 73, 74, 75, 76, 77, 78, 79, 80, 81, 82, 83] (by decide +kernel) (by decide +kernel)
