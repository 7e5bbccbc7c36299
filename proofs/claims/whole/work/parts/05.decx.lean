theorem dX0_init_0 : decode cX0_init 0 = .ok (.aload_n 0, 1) := by decide +kernel
theorem dX0_init_1 : decode cX0_init 1 = .ok (.invokespecial 3, 3) := by decide +kernel
theorem dX0_init_4 : decode cX0_init 4 = .ok (.aload_n 0, 1) := by decide +kernel
theorem dX0_init_5 : decode cX0_init 5 = .ok (.iconst 0, 1) := by decide +kernel
theorem dX0_init_6 : decode cX0_init 6 = .ok (.putfield 9, 3) := by decide +kernel
theorem dX0_init_9 : decode cX0_init 9 = .ok (.aload_n 0, 1) := by decide +kernel
theorem dX0_init_10 : decode cX0_init 10 = .ok (.iconst 0, 1) := by decide +kernel
theorem dX0_init_11 : decode cX0_init 11 = .ok (.putfield 15, 3) := by decide +kernel
theorem dX0_init_14 : decode cX0_init 14 = .ok (.aload_n 0, 1) := by decide +kernel
theorem dX0_init_15 : decode cX0_init 15 = .ok (.iload_n 1, 1) := by decide +kernel
theorem dX0_init_16 : decode cX0_init 16 = .ok (.putfield 18, 3) := by decide +kernel
theorem dX0_init_19 : decode cX0_init 19 = .ok (.aload_n 0, 1) := by decide +kernel
theorem dX0_init_20 : decode cX0_init 20 = .ok (.iload_n 2, 1) := by decide +kernel
theorem dX0_init_21 : decode cX0_init 21 = .ok (.putfield 21, 3) := by decide +kernel
theorem dX0_init_24 : decode cX0_init 24 = .ok (.aload_n 0, 1) := by decide +kernel
theorem dX0_init_25 : decode cX0_init 25 = .ok (.iload_n 3, 1) := by decide +kernel
theorem dX0_init_26 : decode cX0_init 26 = .ok (.putfield 24, 3) := by decide +kernel
theorem dX0_init_29 : decode cX0_init 29 = .ok (.aload_n 0, 1) := by decide +kernel
theorem dX0_init_30 : decode cX0_init 30 = .ok (.iload 4, 2) := by decide +kernel
theorem dX0_init_32 : decode cX0_init 32 = .ok (.putfield 27, 3) := by decide +kernel
theorem dX0_init_35 : decode cX0_init 35 = .ok (.aload_n 0, 1) := by decide +kernel
theorem dX0_init_36 : decode cX0_init 36 = .ok (.iload 5, 2) := by decide +kernel
theorem dX0_init_38 : decode cX0_init 38 = .ok (.putfield 30, 3) := by decide +kernel
theorem dX0_init_41 : decode cX0_init 41 = .ok (.aload_n 0, 1) := by decide +kernel
theorem dX0_init_42 : decode cX0_init 42 = .ok (.iload 6, 2) := by decide +kernel
theorem dX0_init_44 : decode cX0_init 44 = .ok (.putfield 33, 3) := by decide +kernel
theorem dX0_init_47 : decode cX0_init 47 = .ok (.aload_n 0, 1) := by decide +kernel
theorem dX0_init_48 : decode cX0_init 48 = .ok (.iload 7, 2) := by decide +kernel
theorem dX0_init_50 : decode cX0_init 50 = .ok (.putfield 36, 3) := by decide +kernel
theorem dX0_init_53 : decode cX0_init 53 = .ok (.aload_n 0, 1) := by decide +kernel
theorem dX0_init_54 : decode cX0_init 54 = .ok (.iload_n 1, 1) := by decide +kernel
theorem dX0_init_55 : decode cX0_init 55 = .ok (.putfield 39, 3) := by decide +kernel
theorem dX0_init_58 : decode cX0_init 58 = .ok (.return_, 1) := by decide +kernel
theorem dX0_isThere_0 : decode cX0_isThere 0 = .ok (.aload_n 0, 1) := by decide +kernel
theorem dX0_isThere_1 : decode cX0_isThere 1 = .ok (.getfield 9, 3) := by decide +kernel
theorem dX0_isThere_4 : decode cX0_isThere 4 = .ok (.iconst 4, 1) := by decide +kernel
theorem dX0_isThere_5 : decode cX0_isThere 5 = .ok (.if_icmp .eq 7, 3) := by decide +kernel
theorem dX0_isThere_8 : decode cX0_isThere 8 = .ok (.iconst 1, 1) := by decide +kernel
theorem dX0_isThere_9 : decode cX0_isThere 9 = .ok (.goto 4, 3) := by decide +kernel
theorem dX0_isThere_12 : decode cX0_isThere 12 = .ok (.iconst 0, 1) := by decide +kernel
theorem dX0_isThere_13 : decode cX0_isThere 13 = .ok (.ireturn, 1) := by decide +kernel
theorem dX0_cells_0 : decode cX0_cells 0 = .ok (.aload_n 0, 1) := by decide +kernel
theorem dX0_cells_1 : decode cX0_cells 1 = .ok (.getfield 30, 3) := by decide +kernel
theorem dX0_cells_4 : decode cX0_cells 4 = .ok (.aload_n 0, 1) := by decide +kernel
theorem dX0_cells_5 : decode cX0_cells 5 = .ok (.getfield 24, 3) := by decide +kernel
theorem dX0_cells_8 : decode cX0_cells 8 = .ok (.isub, 1) := by decide +kernel
theorem dX0_cells_9 : decode cX0_cells 9 = .ok (.invokestatic 42, 3) := by decide +kernel
theorem dX0_cells_12 : decode cX0_cells 12 = .ok (.aload_n 0, 1) := by decide +kernel
theorem dX0_cells_13 : decode cX0_cells 13 = .ok (.getfield 33, 3) := by decide +kernel
theorem dX0_cells_16 : decode cX0_cells 16 = .ok (.aload_n 0, 1) := by decide +kernel
theorem dX0_cells_17 : decode cX0_cells 17 = .ok (.getfield 27, 3) := by decide +kernel
theorem dX0_cells_20 : decode cX0_cells 20 = .ok (.isub, 1) := by decide +kernel
theorem dX0_cells_21 : decode cX0_cells 21 = .ok (.invokestatic 42, 3) := by decide +kernel
theorem dX0_cells_24 : decode cX0_cells 24 = .ok (.iadd, 1) := by decide +kernel
theorem dX0_cells_25 : decode cX0_cells 25 = .ok (.iconst 1, 1) := by decide +kernel
theorem dX0_cells_26 : decode cX0_cells 26 = .ok (.iadd, 1) := by decide +kernel
theorem dX0_cells_27 : decode cX0_cells 27 = .ok (.ireturn, 1) := by decide +kernel
set_option maxRecDepth 20000 in
theorem ggX0_covers_X1_isWithin : GoodIn wsX0_covers wsX1_isWithin := goodIn_r _ [14] (by decide +kernel) (by decide +kernel)
set_option maxRecDepth 20000 in
theorem gX0_covers_X1_isWithin_n55 : GoodIn wsX0_covers (wsX1_isWithin) := ggX0_covers_X1_isWithin
theorem dX0_covers_0 : decode cX0_covers 0 = .ok (.iload_n 1, 1) := by decide +kernel
theorem dX0_covers_1 : decode cX0_covers 1 = .ok (.aload_n 0, 1) := by decide +kernel
theorem dX0_covers_2 : decode cX0_covers 2 = .ok (.getfield 24, 3) := by decide +kernel
theorem dX0_covers_5 : decode cX0_covers 5 = .ok (.aload_n 0, 1) := by decide +kernel
theorem dX0_covers_6 : decode cX0_covers 6 = .ok (.getfield 30, 3) := by decide +kernel
theorem dX0_covers_9 : decode cX0_covers 9 = .ok (.invokestatic 48, 3) := by decide +kernel
theorem dX0_covers_12 : decode cX0_covers 12 = .ok (.aload_n 0, 1) := by decide +kernel
theorem dX0_covers_13 : decode cX0_covers 13 = .ok (.getfield 24, 3) := by decide +kernel
theorem dX0_covers_16 : decode cX0_covers 16 = .ok (.aload_n 0, 1) := by decide +kernel
theorem dX0_covers_17 : decode cX0_covers 17 = .ok (.getfield 30, 3) := by decide +kernel
theorem dX0_covers_20 : decode cX0_covers 20 = .ok (.invokestatic 52, 3) := by decide +kernel
theorem dX0_covers_23 : decode cX0_covers 23 = .ok (.invokestatic 55, 3) := by decide +kernel
theorem dX0_covers_26 : decode cX0_covers 26 = .ok (.ifCond .eq 36, 3) := by decide +kernel
theorem dX0_covers_29 : decode cX0_covers 29 = .ok (.iload_n 2, 1) := by decide +kernel
theorem dX0_covers_30 : decode cX0_covers 30 = .ok (.aload_n 0, 1) := by decide +kernel
theorem dX0_covers_31 : decode cX0_covers 31 = .ok (.getfield 27, 3) := by decide +kernel
theorem dX0_covers_34 : decode cX0_covers 34 = .ok (.aload_n 0, 1) := by decide +kernel
theorem dX0_covers_35 : decode cX0_covers 35 = .ok (.getfield 33, 3) := by decide +kernel
theorem dX0_covers_38 : decode cX0_covers 38 = .ok (.invokestatic 48, 3) := by decide +kernel
theorem dX0_covers_41 : decode cX0_covers 41 = .ok (.aload_n 0, 1) := by decide +kernel
theorem dX0_covers_42 : decode cX0_covers 42 = .ok (.getfield 27, 3) := by decide +kernel
theorem dX0_covers_45 : decode cX0_covers 45 = .ok (.aload_n 0, 1) := by decide +kernel
theorem dX0_covers_46 : decode cX0_covers 46 = .ok (.getfield 33, 3) := by decide +kernel
theorem dX0_covers_49 : decode cX0_covers 49 = .ok (.invokestatic 52, 3) := by decide +kernel
theorem dX0_covers_52 : decode cX0_covers 52 = .ok (.invokestatic 55, 3) := by decide +kernel
theorem dX0_covers_55 : decode cX0_covers 55 = .ok (.ifCond .eq 7, 3) := by decide +kernel
theorem dX0_covers_58 : decode cX0_covers 58 = .ok (.iconst 1, 1) := by decide +kernel
theorem dX0_covers_59 : decode cX0_covers 59 = .ok (.goto 4, 3) := by decide +kernel
theorem dX0_covers_62 : decode cX0_covers 62 = .ok (.iconst 0, 1) := by decide +kernel
theorem dX0_covers_63 : decode cX0_covers 63 = .ok (.ireturn, 1) := by decide +kernel
set_option maxRecDepth 20000 in
theorem ggX0_staysInside_X1_isCell : GoodIn wsX0_staysInside wsX1_isCell := goodIn_r _ [7, 8, 9, 6, 10] (by decide +kernel) (by decide +kernel)
set_option maxRecDepth 20000 in
theorem gX0_staysInside_X1_isCell_n59 : GoodIn wsX0_staysInside (wsX1_isCell) := ggX0_staysInside_X1_isCell
theorem dX0_staysInside_0 : decode cX0_staysInside 0 = .ok (.aload_n 0, 1) := by decide +kernel
theorem dX0_staysInside_1 : decode cX0_staysInside 1 = .ok (.getfield 24, 3) := by decide +kernel
theorem dX0_staysInside_4 : decode cX0_staysInside 4 = .ok (.iload_n 1, 1) := by decide +kernel
theorem dX0_staysInside_5 : decode cX0_staysInside 5 = .ok (.iadd, 1) := by decide +kernel
theorem dX0_staysInside_6 : decode cX0_staysInside 6 = .ok (.aload_n 0, 1) := by decide +kernel
theorem dX0_staysInside_7 : decode cX0_staysInside 7 = .ok (.getfield 27, 3) := by decide +kernel
theorem dX0_staysInside_10 : decode cX0_staysInside 10 = .ok (.iload_n 2, 1) := by decide +kernel
theorem dX0_staysInside_11 : decode cX0_staysInside 11 = .ok (.iadd, 1) := by decide +kernel
theorem dX0_staysInside_12 : decode cX0_staysInside 12 = .ok (.invokestatic 59, 3) := by decide +kernel
theorem dX0_staysInside_15 : decode cX0_staysInside 15 = .ok (.ifCond .eq 25, 3) := by decide +kernel
theorem dX0_staysInside_18 : decode cX0_staysInside 18 = .ok (.aload_n 0, 1) := by decide +kernel
theorem dX0_staysInside_19 : decode cX0_staysInside 19 = .ok (.getfield 30, 3) := by decide +kernel
theorem dX0_staysInside_22 : decode cX0_staysInside 22 = .ok (.iload_n 1, 1) := by decide +kernel
theorem dX0_staysInside_23 : decode cX0_staysInside 23 = .ok (.iadd, 1) := by decide +kernel
theorem dX0_staysInside_24 : decode cX0_staysInside 24 = .ok (.aload_n 0, 1) := by decide +kernel
theorem dX0_staysInside_25 : decode cX0_staysInside 25 = .ok (.getfield 33, 3) := by decide +kernel
theorem dX0_staysInside_28 : decode cX0_staysInside 28 = .ok (.iload_n 2, 1) := by decide +kernel
theorem dX0_staysInside_29 : decode cX0_staysInside 29 = .ok (.iadd, 1) := by decide +kernel
theorem dX0_staysInside_30 : decode cX0_staysInside 30 = .ok (.invokestatic 59, 3) := by decide +kernel
theorem dX0_staysInside_33 : decode cX0_staysInside 33 = .ok (.ifCond .eq 7, 3) := by decide +kernel
theorem dX0_staysInside_36 : decode cX0_staysInside 36 = .ok (.iconst 1, 1) := by decide +kernel
theorem dX0_staysInside_37 : decode cX0_staysInside 37 = .ok (.goto 4, 3) := by decide +kernel
theorem dX0_staysInside_40 : decode cX0_staysInside 40 = .ok (.iconst 0, 1) := by decide +kernel
theorem dX0_staysInside_41 : decode cX0_staysInside 41 = .ok (.ireturn, 1) := by decide +kernel
theorem dX0_shift_0 : decode cX0_shift 0 = .ok (.aload_n 0, 1) := by decide +kernel
theorem dX0_shift_1 : decode cX0_shift 1 = .ok (.dup, 1) := by decide +kernel
theorem dX0_shift_2 : decode cX0_shift 2 = .ok (.getfield 24, 3) := by decide +kernel
theorem dX0_shift_5 : decode cX0_shift 5 = .ok (.iload_n 1, 1) := by decide +kernel
theorem dX0_shift_6 : decode cX0_shift 6 = .ok (.iadd, 1) := by decide +kernel
theorem dX0_shift_7 : decode cX0_shift 7 = .ok (.putfield 24, 3) := by decide +kernel
theorem dX0_shift_10 : decode cX0_shift 10 = .ok (.aload_n 0, 1) := by decide +kernel
theorem dX0_shift_11 : decode cX0_shift 11 = .ok (.dup, 1) := by decide +kernel
theorem dX0_shift_12 : decode cX0_shift 12 = .ok (.getfield 27, 3) := by decide +kernel
theorem dX0_shift_15 : decode cX0_shift 15 = .ok (.iload_n 2, 1) := by decide +kernel
theorem dX0_shift_16 : decode cX0_shift 16 = .ok (.iadd, 1) := by decide +kernel
theorem dX0_shift_17 : decode cX0_shift 17 = .ok (.putfield 27, 3) := by decide +kernel
theorem dX0_shift_20 : decode cX0_shift 20 = .ok (.aload_n 0, 1) := by decide +kernel
theorem dX0_shift_21 : decode cX0_shift 21 = .ok (.dup, 1) := by decide +kernel
theorem dX0_shift_22 : decode cX0_shift 22 = .ok (.getfield 30, 3) := by decide +kernel
theorem dX0_shift_25 : decode cX0_shift 25 = .ok (.iload_n 1, 1) := by decide +kernel
theorem dX0_shift_26 : decode cX0_shift 26 = .ok (.iadd, 1) := by decide +kernel
theorem dX0_shift_27 : decode cX0_shift 27 = .ok (.putfield 30, 3) := by decide +kernel
theorem dX0_shift_30 : decode cX0_shift 30 = .ok (.aload_n 0, 1) := by decide +kernel
theorem dX0_shift_31 : decode cX0_shift 31 = .ok (.dup, 1) := by decide +kernel
theorem dX0_shift_32 : decode cX0_shift 32 = .ok (.getfield 33, 3) := by decide +kernel
theorem dX0_shift_35 : decode cX0_shift 35 = .ok (.iload_n 2, 1) := by decide +kernel
theorem dX0_shift_36 : decode cX0_shift 36 = .ok (.iadd, 1) := by decide +kernel
theorem dX0_shift_37 : decode cX0_shift 37 = .ok (.putfield 33, 3) := by decide +kernel
theorem dX0_shift_40 : decode cX0_shift 40 = .ok (.return_, 1) := by decide +kernel
theorem dX0_deliverIfDue_0 : decode cX0_deliverIfDue 0 = .ok (.aload_n 0, 1) := by decide +kernel
theorem dX0_deliverIfDue_1 : decode cX0_deliverIfDue 1 = .ok (.getfield 9, 3) := by decide +kernel
theorem dX0_deliverIfDue_4 : decode cX0_deliverIfDue 4 = .ok (.iconst 1, 1) := by decide +kernel
theorem dX0_deliverIfDue_5 : decode cX0_deliverIfDue 5 = .ok (.if_icmp .ne 16, 3) := by decide +kernel
theorem dX0_deliverIfDue_8 : decode cX0_deliverIfDue 8 = .ok (.iload_n 1, 1) := by decide +kernel
theorem dX0_deliverIfDue_9 : decode cX0_deliverIfDue 9 = .ok (.aload_n 0, 1) := by decide +kernel
theorem dX0_deliverIfDue_10 : decode cX0_deliverIfDue 10 = .ok (.getfield 15, 3) := by decide +kernel
theorem dX0_deliverIfDue_13 : decode cX0_deliverIfDue 13 = .ok (.if_icmp .lt 8, 3) := by decide +kernel
theorem dX0_deliverIfDue_16 : decode cX0_deliverIfDue 16 = .ok (.aload_n 0, 1) := by decide +kernel
theorem dX0_deliverIfDue_17 : decode cX0_deliverIfDue 17 = .ok (.iconst 2, 1) := by decide +kernel
theorem dX0_deliverIfDue_18 : decode cX0_deliverIfDue 18 = .ok (.putfield 9, 3) := by decide +kernel
theorem dX0_deliverIfDue_21 : decode cX0_deliverIfDue 21 = .ok (.return_, 1) := by decide +kernel
set_option maxRecDepth 20000 in
theorem ggX0_distanceTo_X0_gap : GoodIn wsX0_distanceTo wsX0_gap := goodIn_r _ [12, 13, 14, 7, 15, 5, 6, 8] (by decide +kernel) (by decide +kernel)
set_option maxRecDepth 20000 in
theorem gX0_distanceTo_X0_gap : GoodIn wsX0_distanceTo (va_wsS RX0 63 yX0_gap wsX0_gap) := goodIn_app (goodIn_of _ (by decide +kernel)) ggX0_distanceTo_X0_gap
theorem dX0_distanceTo_0 : decode cX0_distanceTo 0 = .ok (.aload_n 0, 1) := by decide +kernel
theorem dX0_distanceTo_1 : decode cX0_distanceTo 1 = .ok (.getfield 24, 3) := by decide +kernel
theorem dX0_distanceTo_4 : decode cX0_distanceTo 4 = .ok (.aload_n 0, 1) := by decide +kernel
theorem dX0_distanceTo_5 : decode cX0_distanceTo 5 = .ok (.getfield 30, 3) := by decide +kernel
theorem dX0_distanceTo_8 : decode cX0_distanceTo 8 = .ok (.aload_n 1, 1) := by decide +kernel
theorem dX0_distanceTo_9 : decode cX0_distanceTo 9 = .ok (.getfield 24, 3) := by decide +kernel
theorem dX0_distanceTo_12 : decode cX0_distanceTo 12 = .ok (.aload_n 1, 1) := by decide +kernel
theorem dX0_distanceTo_13 : decode cX0_distanceTo 13 = .ok (.getfield 30, 3) := by decide +kernel
theorem dX0_distanceTo_16 : decode cX0_distanceTo 16 = .ok (.invokestatic 63, 3) := by decide +kernel
theorem dX0_distanceTo_19 : decode cX0_distanceTo 19 = .ok (.istore_n 2, 1) := by decide +kernel
theorem dX0_distanceTo_20 : decode cX0_distanceTo 20 = .ok (.aload_n 0, 1) := by decide +kernel
theorem dX0_distanceTo_21 : decode cX0_distanceTo 21 = .ok (.getfield 27, 3) := by decide +kernel
theorem dX0_distanceTo_24 : decode cX0_distanceTo 24 = .ok (.aload_n 0, 1) := by decide +kernel
theorem dX0_distanceTo_25 : decode cX0_distanceTo 25 = .ok (.getfield 33, 3) := by decide +kernel
theorem dX0_distanceTo_28 : decode cX0_distanceTo 28 = .ok (.aload_n 1, 1) := by decide +kernel
theorem dX0_distanceTo_29 : decode cX0_distanceTo 29 = .ok (.getfield 27, 3) := by decide +kernel
theorem dX0_distanceTo_32 : decode cX0_distanceTo 32 = .ok (.aload_n 1, 1) := by decide +kernel
theorem dX0_distanceTo_33 : decode cX0_distanceTo 33 = .ok (.getfield 33, 3) := by decide +kernel
theorem dX0_distanceTo_36 : decode cX0_distanceTo 36 = .ok (.invokestatic 63, 3) := by decide +kernel
theorem dX0_distanceTo_39 : decode cX0_distanceTo 39 = .ok (.istore_n 3, 1) := by decide +kernel
theorem dX0_distanceTo_40 : decode cX0_distanceTo 40 = .ok (.iload_n 2, 1) := by decide +kernel
theorem dX0_distanceTo_41 : decode cX0_distanceTo 41 = .ok (.iload_n 3, 1) := by decide +kernel
theorem dX0_distanceTo_42 : decode cX0_distanceTo 42 = .ok (.invokestatic 52, 3) := by decide +kernel
theorem dX0_distanceTo_45 : decode cX0_distanceTo 45 = .ok (.ireturn, 1) := by decide +kernel
theorem dX0_gap_0 : decode cX0_gap 0 = .ok (.iload_n 2, 1) := by decide +kernel
theorem dX0_gap_1 : decode cX0_gap 1 = .ok (.iload_n 3, 1) := by decide +kernel
theorem dX0_gap_2 : decode cX0_gap 2 = .ok (.invokestatic 48, 3) := by decide +kernel
theorem dX0_gap_5 : decode cX0_gap 5 = .ok (.iload_n 0, 1) := by decide +kernel
theorem dX0_gap_6 : decode cX0_gap 6 = .ok (.iload_n 1, 1) := by decide +kernel
theorem dX0_gap_7 : decode cX0_gap 7 = .ok (.invokestatic 52, 3) := by decide +kernel
theorem dX0_gap_10 : decode cX0_gap 10 = .ok (.isub, 1) := by decide +kernel
theorem dX0_gap_11 : decode cX0_gap 11 = .ok (.istore 4, 2) := by decide +kernel
theorem dX0_gap_13 : decode cX0_gap 13 = .ok (.iload_n 0, 1) := by decide +kernel
theorem dX0_gap_14 : decode cX0_gap 14 = .ok (.iload_n 1, 1) := by decide +kernel
theorem dX0_gap_15 : decode cX0_gap 15 = .ok (.invokestatic 48, 3) := by decide +kernel
theorem dX0_gap_18 : decode cX0_gap 18 = .ok (.iload_n 2, 1) := by decide +kernel
theorem dX0_gap_19 : decode cX0_gap 19 = .ok (.iload_n 3, 1) := by decide +kernel
theorem dX0_gap_20 : decode cX0_gap 20 = .ok (.invokestatic 52, 3) := by decide +kernel
theorem dX0_gap_23 : decode cX0_gap 23 = .ok (.isub, 1) := by decide +kernel
theorem dX0_gap_24 : decode cX0_gap 24 = .ok (.istore 5, 2) := by decide +kernel
theorem dX0_gap_26 : decode cX0_gap 26 = .ok (.iconst 0, 1) := by decide +kernel
theorem dX0_gap_27 : decode cX0_gap 27 = .ok (.iload 4, 2) := by decide +kernel
theorem dX0_gap_29 : decode cX0_gap 29 = .ok (.iload 5, 2) := by decide +kernel
theorem dX0_gap_31 : decode cX0_gap 31 = .ok (.invokestatic 52, 3) := by decide +kernel
theorem dX0_gap_34 : decode cX0_gap 34 = .ok (.invokestatic 52, 3) := by decide +kernel
theorem dX0_gap_37 : decode cX0_gap 37 = .ok (.ireturn, 1) := by decide +kernel
set_option maxRecDepth 20000 in
theorem ggX0_partsCellByCell_X0_covers : GoodIn wsX0_partsCellByCell wsX0_covers := goodIn_r _ [5, 6, 7, 8, 9, 10, 11, 12, 13, 14, 15, 16, 17, 18, 19, 20, 21, 22, 23, 24, 25, 26, 27, 28, 29] (by decide +kernel) (by decide +kernel)
set_option maxRecDepth 20000 in
theorem gX0_partsCellByCell_X0_covers : GoodIn wsX0_partsCellByCell (wsV RX0 67 RX0 yX0_covers wsX0_covers) := goodIn_app (goodIn_of _ (by decide +kernel)) ggX0_partsCellByCell_X0_covers
theorem dX0_partsCellByCell_0 : decode cX0_partsCellByCell 0 = .ok (.iconst 0, 1) := by decide +kernel
theorem dX0_partsCellByCell_1 : decode cX0_partsCellByCell 1 = .ok (.istore_n 2, 1) := by decide +kernel
theorem dX0_partsCellByCell_2 : decode cX0_partsCellByCell 2 = .ok (.iconst 0, 1) := by decide +kernel
theorem dX0_partsCellByCell_3 : decode cX0_partsCellByCell 3 = .ok (.istore_n 3, 1) := by decide +kernel
theorem dX0_partsCellByCell_4 : decode cX0_partsCellByCell 4 = .ok (.iconst 0, 1) := by decide +kernel
theorem dX0_partsCellByCell_5 : decode cX0_partsCellByCell 5 = .ok (.istore 4, 2) := by decide +kernel
theorem dX0_partsCellByCell_7 : decode cX0_partsCellByCell 7 = .ok (.iload 4, 2) := by decide +kernel
theorem dX0_partsCellByCell_9 : decode cX0_partsCellByCell 9 = .ok (.bipush 12, 2) := by decide +kernel
theorem dX0_partsCellByCell_11 : decode cX0_partsCellByCell 11 = .ok (.if_icmp .ge 48, 3) := by decide +kernel
theorem dX0_partsCellByCell_14 : decode cX0_partsCellByCell 14 = .ok (.iconst 0, 1) := by decide +kernel
theorem dX0_partsCellByCell_15 : decode cX0_partsCellByCell 15 = .ok (.istore 5, 2) := by decide +kernel
theorem dX0_partsCellByCell_17 : decode cX0_partsCellByCell 17 = .ok (.iload 5, 2) := by decide +kernel
theorem dX0_partsCellByCell_19 : decode cX0_partsCellByCell 19 = .ok (.bipush 12, 2) := by decide +kernel
theorem dX0_partsCellByCell_21 : decode cX0_partsCellByCell 21 = .ok (.if_icmp .ge 32, 3) := by decide +kernel
theorem dX0_partsCellByCell_24 : decode cX0_partsCellByCell 24 = .ok (.aload_n 0, 1) := by decide +kernel
theorem dX0_partsCellByCell_25 : decode cX0_partsCellByCell 25 = .ok (.iload 5, 2) := by decide +kernel
theorem dX0_partsCellByCell_27 : decode cX0_partsCellByCell 27 = .ok (.iload 4, 2) := by decide +kernel
theorem dX0_partsCellByCell_29 : decode cX0_partsCellByCell 29 = .ok (.invokevirtual 67, 3) := by decide +kernel
theorem dX0_partsCellByCell_32 : decode cX0_partsCellByCell 32 = .ok (.ifCond .eq 15, 3) := by decide +kernel
theorem dX0_partsCellByCell_35 : decode cX0_partsCellByCell 35 = .ok (.iload_n 3, 1) := by decide +kernel
theorem dX0_partsCellByCell_36 : decode cX0_partsCellByCell 36 = .ok (.ifCond .gt 8, 3) := by decide +kernel
theorem dX0_partsCellByCell_39 : decode cX0_partsCellByCell 39 = .ok (.iinc 2 1, 3) := by decide +kernel
theorem dX0_partsCellByCell_42 : decode cX0_partsCellByCell 42 = .ok (.iload_n 1, 1) := by decide +kernel
theorem dX0_partsCellByCell_43 : decode cX0_partsCellByCell 43 = .ok (.istore_n 3, 1) := by decide +kernel
theorem dX0_partsCellByCell_44 : decode cX0_partsCellByCell 44 = .ok (.iinc 3 (-1), 3) := by decide +kernel
theorem dX0_partsCellByCell_47 : decode cX0_partsCellByCell 47 = .ok (.iinc 5 1, 3) := by decide +kernel
theorem dX0_partsCellByCell_50 : decode cX0_partsCellByCell 50 = .ok (.goto (-33), 3) := by decide +kernel
theorem dX0_partsCellByCell_53 : decode cX0_partsCellByCell 53 = .ok (.iinc 4 1, 3) := by decide +kernel
theorem dX0_partsCellByCell_56 : decode cX0_partsCellByCell 56 = .ok (.goto (-49), 3) := by decide +kernel
theorem dX0_partsCellByCell_59 : decode cX0_partsCellByCell 59 = .ok (.iload_n 2, 1) := by decide +kernel
theorem dX0_partsCellByCell_60 : decode cX0_partsCellByCell 60 = .ok (.ireturn, 1) := by decide +kernel
theorem dX1_init_0 : decode cX1_init 0 = .ok (.aload_n 0, 1) := by decide +kernel
theorem dX1_init_1 : decode cX1_init 1 = .ok (.invokespecial 1, 3) := by decide +kernel
theorem dX1_init_4 : decode cX1_init 4 = .ok (.aload_n 0, 1) := by decide +kernel
theorem dX1_init_5 : decode cX1_init 5 = .ok (.bipush 40, 2) := by decide +kernel
theorem dX1_init_7 : decode cX1_init 7 = .ok (.anewarray 9, 3) := by decide +kernel
theorem dX1_init_10 : decode cX1_init 10 = .ok (.putfield 11, 3) := by decide +kernel
theorem dX1_init_13 : decode cX1_init 13 = .ok (.aload_n 0, 1) := by decide +kernel
theorem dX1_init_14 : decode cX1_init 14 = .ok (.iconst 0, 1) := by decide +kernel
theorem dX1_init_15 : decode cX1_init 15 = .ok (.putfield 15, 3) := by decide +kernel
theorem dX1_init_18 : decode cX1_init 18 = .ok (.aload_n 0, 1) := by decide +kernel
theorem dX1_init_19 : decode cX1_init 19 = .ok (.bipush 9, 2) := by decide +kernel
theorem dX1_init_21 : decode cX1_init 21 = .ok (.newarray .int, 2) := by decide +kernel
theorem dX1_init_23 : decode cX1_init 23 = .ok (.putfield 19, 3) := by decide +kernel
theorem dX1_init_26 : decode cX1_init 26 = .ok (.aload_n 0, 1) := by decide +kernel
theorem dX1_init_27 : decode cX1_init 27 = .ok (.iconst 3, 1) := by decide +kernel
theorem dX1_init_28 : decode cX1_init 28 = .ok (.newarray .int, 2) := by decide +kernel
theorem dX1_init_30 : decode cX1_init 30 = .ok (.dup, 1) := by decide +kernel
theorem dX1_init_31 : decode cX1_init 31 = .ok (.iconst 0, 1) := by decide +kernel
theorem dX1_init_32 : decode cX1_init 32 = .ok (.iconst 3, 1) := by decide +kernel
theorem dX1_init_33 : decode cX1_init 33 = .ok (.iastore, 1) := by decide +kernel
theorem dX1_init_34 : decode cX1_init 34 = .ok (.dup, 1) := by decide +kernel
theorem dX1_init_35 : decode cX1_init 35 = .ok (.iconst 1, 1) := by decide +kernel
theorem dX1_init_36 : decode cX1_init 36 = .ok (.iconst 3, 1) := by decide +kernel
theorem dX1_init_37 : decode cX1_init 37 = .ok (.iastore, 1) := by decide +kernel
theorem dX1_init_38 : decode cX1_init 38 = .ok (.dup, 1) := by decide +kernel
theorem dX1_init_39 : decode cX1_init 39 = .ok (.iconst 2, 1) := by decide +kernel
theorem dX1_init_40 : decode cX1_init 40 = .ok (.iconst 3, 1) := by decide +kernel
theorem dX1_init_41 : decode cX1_init 41 = .ok (.iastore, 1) := by decide +kernel
theorem dX1_init_42 : decode cX1_init 42 = .ok (.putfield 23, 3) := by decide +kernel
theorem dX1_init_45 : decode cX1_init 45 = .ok (.aload_n 0, 1) := by decide +kernel
theorem dX1_init_46 : decode cX1_init 46 = .ok (.iconst 3, 1) := by decide +kernel
theorem dX1_init_47 : decode cX1_init 47 = .ok (.newarray .int, 2) := by decide +kernel
theorem dX1_init_49 : decode cX1_init 49 = .ok (.dup, 1) := by decide +kernel
theorem dX1_init_50 : decode cX1_init 50 = .ok (.iconst 0, 1) := by decide +kernel
theorem dX1_init_51 : decode cX1_init 51 = .ok (.iconst 5, 1) := by decide +kernel
theorem dX1_init_52 : decode cX1_init 52 = .ok (.iastore, 1) := by decide +kernel
theorem dX1_init_53 : decode cX1_init 53 = .ok (.dup, 1) := by decide +kernel
theorem dX1_init_54 : decode cX1_init 54 = .ok (.iconst 1, 1) := by decide +kernel
theorem dX1_init_55 : decode cX1_init 55 = .ok (.iconst 5, 1) := by decide +kernel
theorem dX1_init_56 : decode cX1_init 56 = .ok (.iastore, 1) := by decide +kernel
theorem dX1_init_57 : decode cX1_init 57 = .ok (.dup, 1) := by decide +kernel
theorem dX1_init_58 : decode cX1_init 58 = .ok (.iconst 2, 1) := by decide +kernel
theorem dX1_init_59 : decode cX1_init 59 = .ok (.iconst 5, 1) := by decide +kernel
theorem dX1_init_60 : decode cX1_init 60 = .ok (.iastore, 1) := by decide +kernel
theorem dX1_init_61 : decode cX1_init 61 = .ok (.putfield 26, 3) := by decide +kernel
theorem dX1_init_64 : decode cX1_init 64 = .ok (.aload_n 0, 1) := by decide +kernel
theorem dX1_init_65 : decode cX1_init 65 = .ok (.iconst 4, 1) := by decide +kernel
theorem dX1_init_66 : decode cX1_init 66 = .ok (.newarray .boolean, 2) := by decide +kernel
theorem dX1_init_68 : decode cX1_init 68 = .ok (.putfield 29, 3) := by decide +kernel
theorem dX1_init_71 : decode cX1_init 71 = .ok (.aload_n 0, 1) := by decide +kernel
theorem dX1_init_72 : decode cX1_init 72 = .ok (.iconst 0, 1) := by decide +kernel
theorem dX1_init_73 : decode cX1_init 73 = .ok (.putfield 33, 3) := by decide +kernel
theorem dX1_init_76 : decode cX1_init 76 = .ok (.aload_n 0, 1) := by decide +kernel
theorem dX1_init_77 : decode cX1_init 77 = .ok (.iconst 0, 1) := by decide +kernel
theorem dX1_init_78 : decode cX1_init 78 = .ok (.putfield 36, 3) := by decide +kernel
theorem dX1_init_81 : decode cX1_init 81 = .ok (.return_, 1) := by decide +kernel
set_option maxRecDepth 20000 in
theorem ggX1_add_X1_isKind : GoodIn wsX1_add wsX1_isKind := goodIn_r _ [17, 18, 19, 16, 20] (by decide +kernel) (by decide +kernel)
set_option maxRecDepth 20000 in
theorem gX1_add_X1_isKind : GoodIn wsX1_add (va_wsS RX1 39 yX1_isKind wsX1_isKind) := goodIn_app (goodIn_of _ (by decide +kernel)) ggX1_add_X1_isKind
set_option maxRecDepth 20000 in
theorem ggX1_add_X1_isStorey : GoodIn wsX1_add wsX1_isStorey := goodIn_r _ [23, 18, 19, 16, 20] (by decide +kernel) (by decide +kernel)
set_option maxRecDepth 20000 in
theorem gX1_add_X1_isStorey : GoodIn wsX1_add (va_wsS RX1 43 yX1_isStorey wsX1_isStorey) := goodIn_app (goodIn_of _ (by decide +kernel)) ggX1_add_X1_isStorey
set_option maxRecDepth 20000 in
theorem ggX1_add_X1_isCell : GoodIn wsX1_add wsX1_isCell := goodIn_r _ [26, 18, 19, 16, 20] (by decide +kernel) (by decide +kernel)
set_option maxRecDepth 20000 in
theorem gX1_add_X1_isCell : GoodIn wsX1_add (va_wsS RX1 53 yX1_isCell wsX1_isCell) := goodIn_app (goodIn_of _ (by decide +kernel)) ggX1_add_X1_isCell
set_option maxRecDepth 20000 in
theorem ggX1_add_X0_init : GoodIn wsX1_add wsX0_init := goodIn_r _ [29, 30, 31, 32, 33, 34, 35, 36, 37, 38, 39, 40, 41, 42, 51, 52, 53, 54, 55, 56, 57, 58, 59, 60] (by decide +kernel) (by decide +kernel)
set_option maxRecDepth 20000 in
theorem gX1_add_X0_init : GoodIn wsX1_add (wsX0_init) := ggX1_add_X0_init
theorem dX1_add_0 : decode cX1_add 0 = .ok (.iload_n 1, 1) := by decide +kernel
theorem dX1_add_1 : decode cX1_add 1 = .ok (.invokestatic 39, 3) := by decide +kernel
theorem dX1_add_4 : decode cX1_add 4 = .ok (.ifCond .eq 10, 3) := by decide +kernel
theorem dX1_add_7 : decode cX1_add 7 = .ok (.iload_n 2, 1) := by decide +kernel
theorem dX1_add_8 : decode cX1_add 8 = .ok (.invokestatic 43, 3) := by decide +kernel
theorem dX1_add_11 : decode cX1_add 11 = .ok (.ifCond .ne 13, 3) := by decide +kernel
theorem dX1_add_14 : decode cX1_add 14 = .ok (.new 46, 3) := by decide +kernel
theorem dX1_add_17 : decode cX1_add 17 = .ok (.dup, 1) := by decide +kernel
theorem dX1_add_18 : decode cX1_add 18 = .ok (.ldc 48, 2) := by decide +kernel
theorem dX1_add_20 : decode cX1_add 20 = .ok (.invokespecial 50, 3) := by decide +kernel
theorem dX1_add_23 : decode cX1_add 23 = .ok (.athrow, 1) := by decide +kernel
theorem dX1_add_24 : decode cX1_add 24 = .ok (.iload_n 3, 1) := by decide +kernel
theorem dX1_add_25 : decode cX1_add 25 = .ok (.iload 4, 2) := by decide +kernel
theorem dX1_add_27 : decode cX1_add 27 = .ok (.invokestatic 53, 3) := by decide +kernel
theorem dX1_add_30 : decode cX1_add 30 = .ok (.ifCond .eq 13, 3) := by decide +kernel
theorem dX1_add_33 : decode cX1_add 33 = .ok (.iload 5, 2) := by decide +kernel
theorem dX1_add_35 : decode cX1_add 35 = .ok (.iload 6, 2) := by decide +kernel
theorem dX1_add_37 : decode cX1_add 37 = .ok (.invokestatic 53, 3) := by decide +kernel
theorem dX1_add_40 : decode cX1_add 40 = .ok (.ifCond .ne 13, 3) := by decide +kernel
theorem dX1_add_43 : decode cX1_add 43 = .ok (.new 57, 3) := by decide +kernel
theorem dX1_add_46 : decode cX1_add 46 = .ok (.dup, 1) := by decide +kernel
theorem dX1_add_47 : decode cX1_add 47 = .ok (.ldc 59, 2) := by decide +kernel
theorem dX1_add_49 : decode cX1_add 49 = .ok (.invokespecial 61, 3) := by decide +kernel
theorem dX1_add_52 : decode cX1_add 52 = .ok (.athrow, 1) := by decide +kernel
theorem dX1_add_53 : decode cX1_add 53 = .ok (.iload_n 3, 1) := by decide +kernel
theorem dX1_add_54 : decode cX1_add 54 = .ok (.iload 5, 2) := by decide +kernel
theorem dX1_add_56 : decode cX1_add 56 = .ok (.if_icmp .eq 20, 3) := by decide +kernel
theorem dX1_add_59 : decode cX1_add 59 = .ok (.iload 4, 2) := by decide +kernel
theorem dX1_add_61 : decode cX1_add 61 = .ok (.iload 6, 2) := by decide +kernel
theorem dX1_add_63 : decode cX1_add 63 = .ok (.if_icmp .eq 13, 3) := by decide +kernel
theorem dX1_add_66 : decode cX1_add 66 = .ok (.new 57, 3) := by decide +kernel
theorem dX1_add_69 : decode cX1_add 69 = .ok (.dup, 1) := by decide +kernel
theorem dX1_add_70 : decode cX1_add 70 = .ok (.ldc 62, 2) := by decide +kernel
theorem dX1_add_72 : decode cX1_add 72 = .ok (.invokespecial 61, 3) := by decide +kernel
theorem dX1_add_75 : decode cX1_add 75 = .ok (.athrow, 1) := by decide +kernel
theorem dX1_add_76 : decode cX1_add 76 = .ok (.aload_n 0, 1) := by decide +kernel
theorem dX1_add_77 : decode cX1_add 77 = .ok (.getfield 29, 3) := by decide +kernel
theorem dX1_add_80 : decode cX1_add 80 = .ok (.iload_n 2, 1) := by decide +kernel
theorem dX1_add_81 : decode cX1_add 81 = .ok (.baload, 1) := by decide +kernel
theorem dX1_add_82 : decode cX1_add 82 = .ok (.ifCond .eq 13, 3) := by decide +kernel
theorem dX1_add_85 : decode cX1_add 85 = .ok (.new 64, 3) := by decide +kernel
theorem dX1_add_88 : decode cX1_add 88 = .ok (.dup, 1) := by decide +kernel
theorem dX1_add_89 : decode cX1_add 89 = .ok (.ldc 66, 2) := by decide +kernel
theorem dX1_add_91 : decode cX1_add 91 = .ok (.invokespecial 68, 3) := by decide +kernel
theorem dX1_add_94 : decode cX1_add 94 = .ok (.athrow, 1) := by decide +kernel
theorem dX1_add_95 : decode cX1_add 95 = .ok (.aload_n 0, 1) := by decide +kernel
theorem dX1_add_96 : decode cX1_add 96 = .ok (.getfield 15, 3) := by decide +kernel
theorem dX1_add_99 : decode cX1_add 99 = .ok (.istore 7, 2) := by decide +kernel
theorem dX1_add_101 : decode cX1_add 101 = .ok (.iload 7, 2) := by decide +kernel
theorem dX1_add_103 : decode cX1_add 103 = .ok (.ifCond .lt 13, 3) := by decide +kernel
theorem dX1_add_106 : decode cX1_add 106 = .ok (.iload 7, 2) := by decide +kernel
theorem dX1_add_108 : decode cX1_add 108 = .ok (.aload_n 0, 1) := by decide +kernel
theorem dX1_add_109 : decode cX1_add 109 = .ok (.getfield 11, 3) := by decide +kernel
theorem dX1_add_112 : decode cX1_add 112 = .ok (.arraylength, 1) := by decide +kernel
theorem dX1_add_113 : decode cX1_add 113 = .ok (.if_icmp .lt 13, 3) := by decide +kernel
theorem dX1_add_116 : decode cX1_add 116 = .ok (.new 64, 3) := by decide +kernel
theorem dX1_add_119 : decode cX1_add 119 = .ok (.dup, 1) := by decide +kernel
theorem dX1_add_120 : decode cX1_add 120 = .ok (.ldc 69, 2) := by decide +kernel
theorem dX1_add_122 : decode cX1_add 122 = .ok (.invokespecial 68, 3) := by decide +kernel
theorem dX1_add_125 : decode cX1_add 125 = .ok (.athrow, 1) := by decide +kernel
theorem dX1_add_126 : decode cX1_add 126 = .ok (.aload_n 0, 1) := by decide +kernel
theorem dX1_add_127 : decode cX1_add 127 = .ok (.dup, 1) := by decide +kernel
theorem dX1_add_128 : decode cX1_add 128 = .ok (.getfield 33, 3) := by decide +kernel
theorem dX1_add_131 : decode cX1_add 131 = .ok (.iconst 1, 1) := by decide +kernel
theorem dX1_add_132 : decode cX1_add 132 = .ok (.iadd, 1) := by decide +kernel
theorem dX1_add_133 : decode cX1_add 133 = .ok (.putfield 33, 3) := by decide +kernel
theorem dX1_add_136 : decode cX1_add 136 = .ok (.aload_n 0, 1) := by decide +kernel
theorem dX1_add_137 : decode cX1_add 137 = .ok (.getfield 11, 3) := by decide +kernel
theorem dX1_add_140 : decode cX1_add 140 = .ok (.iload 7, 2) := by decide +kernel
theorem dX1_add_142 : decode cX1_add 142 = .ok (.new 9, 3) := by decide +kernel
theorem dX1_add_145 : decode cX1_add 145 = .ok (.dup, 1) := by decide +kernel
theorem dX1_add_146 : decode cX1_add 146 = .ok (.iload_n 1, 1) := by decide +kernel
theorem dX1_add_147 : decode cX1_add 147 = .ok (.iload_n 2, 1) := by decide +kernel
theorem dX1_add_148 : decode cX1_add 148 = .ok (.iload_n 3, 1) := by decide +kernel
theorem dX1_add_149 : decode cX1_add 149 = .ok (.iload 4, 2) := by decide +kernel
theorem dX1_add_151 : decode cX1_add 151 = .ok (.iload 5, 2) := by decide +kernel
theorem dX1_add_153 : decode cX1_add 153 = .ok (.iload 6, 2) := by decide +kernel
theorem dX1_add_155 : decode cX1_add 155 = .ok (.aload_n 0, 1) := by decide +kernel
theorem dX1_add_156 : decode cX1_add 156 = .ok (.getfield 33, 3) := by decide +kernel
theorem dX1_add_159 : decode cX1_add 159 = .ok (.invokespecial 71, 3) := by decide +kernel
theorem dX1_add_162 : decode cX1_add 162 = .ok (.aastore, 1) := by decide +kernel
theorem dX1_add_163 : decode cX1_add 163 = .ok (.aload_n 0, 1) := by decide +kernel
theorem dX1_add_164 : decode cX1_add 164 = .ok (.dup, 1) := by decide +kernel
theorem dX1_add_165 : decode cX1_add 165 = .ok (.getfield 15, 3) := by decide +kernel
theorem dX1_add_168 : decode cX1_add 168 = .ok (.iconst 1, 1) := by decide +kernel
theorem dX1_add_169 : decode cX1_add 169 = .ok (.iadd, 1) := by decide +kernel
theorem dX1_add_170 : decode cX1_add 170 = .ok (.putfield 15, 3) := by decide +kernel
theorem dX1_add_173 : decode cX1_add 173 = .ok (.iload 7, 2) := by decide +kernel
theorem dX1_add_175 : decode cX1_add 175 = .ok (.ireturn, 1) := by decide +kernel
set_option maxRecDepth 20000 in
theorem ggX1_move_X1_find : GoodIn wsX1_move wsX1_find := goodIn_r _ [12, 13, 14, 15, 11, 16, 62, 63, 64, 65, 66, 67, 68, 69] (by decide +kernel) (by decide +kernel)
set_option maxRecDepth 20000 in
theorem gX1_move_X1_find : GoodIn wsX1_move (wsV RX1 74 RX1 yX1_find wsX1_find) := goodIn_app (goodIn_of _ (by decide +kernel)) ggX1_move_X1_find
set_option maxRecDepth 20000 in
theorem ggX1_move_X1_isKind : GoodIn wsX1_move wsX1_isKind := goodIn_r _ [19, 14, 15, 11, 16] (by decide +kernel) (by decide +kernel)
set_option maxRecDepth 20000 in
theorem gX1_move_X1_isKind : GoodIn wsX1_move (va_wsS RX1 39 yX1_isKind wsX1_isKind) := goodIn_app (goodIn_of _ (by decide +kernel)) ggX1_move_X1_isKind
set_option maxRecDepth 20000 in
theorem ggX1_move_X1_isBase : GoodIn wsX1_move wsX1_isBase := goodIn_r _ [23, 24, 14, 15, 11, 16, 62, 63, 64, 65, 66, 67, 68, 69] (by decide +kernel) (by decide +kernel)
set_option maxRecDepth 20000 in
theorem gX1_move_X1_isBase : GoodIn wsX1_move (wsV RX1 80 RX1 yX1_isBase wsX1_isBase) := goodIn_app (goodIn_of _ (by decide +kernel)) ggX1_move_X1_isBase
set_option maxRecDepth 20000 in
theorem ggX1_move_X1_isStep : GoodIn wsX1_move wsX1_isStep := goodIn_r _ [27, 14, 15, 11, 16] (by decide +kernel) (by decide +kernel)
set_option maxRecDepth 20000 in
theorem gX1_move_X1_isStep : GoodIn wsX1_move (va_wsS RX1 85 yX1_isStep wsX1_isStep) := goodIn_app (goodIn_of _ (by decide +kernel)) ggX1_move_X1_isStep
set_option maxRecDepth 20000 in
theorem ggX1_move_X0_staysInside : GoodIn wsX1_move wsX0_staysInside := goodIn_r _ [32, 33, 34, 35, 36, 37, 11, 38, 14, 15, 16, 52, 53, 54, 55, 56, 57, 58, 59, 60, 61] (by decide +kernel) (by decide +kernel)
set_option maxRecDepth 20000 in
theorem gX1_move_X0_staysInside : GoodIn wsX1_move (wsV RX1 88 RX0 yX0_staysInside wsX0_staysInside) := goodIn_app (goodIn_of _ (by decide +kernel)) ggX1_move_X0_staysInside
set_option maxRecDepth 20000 in
theorem ggX1_move_X1_losesAgainstLastChange : GoodIn wsX1_move wsX1_losesAgainstLastChange := goodIn_r _ [41, 42, 43, 52, 53, 54, 55, 56, 57, 58, 59, 60, 61] (by decide +kernel) (by decide +kernel)
set_option maxRecDepth 20000 in
theorem gX1_move_X1_losesAgainstLastChange : GoodIn wsX1_move (va_wsS RX1 98 yX1_losesAgainstLastChange wsX1_losesAgainstLastChange) := goodIn_app (goodIn_of _ (by decide +kernel)) ggX1_move_X1_losesAgainstLastChange
set_option maxRecDepth 20000 in
theorem ggX1_move_X0_shift : GoodIn wsX1_move wsX0_shift := goodIn_r _ [47, 33, 34, 35, 36, 52, 53, 54, 55, 56, 57, 58, 59, 60, 61] (by decide +kernel) (by decide +kernel)
set_option maxRecDepth 20000 in
theorem gX1_move_X0_shift : GoodIn wsX1_move (wsV RX1 102 RX0 yX0_shift wsX0_shift) := goodIn_app (goodIn_of _ (by decide +kernel)) ggX1_move_X0_shift
set_option maxRecDepth 20000 in
theorem ggX1_move_X1_noteChange : GoodIn wsX1_move wsX1_noteChange := goodIn_r _ [51, 24, 42, 43, 62, 63, 64, 65, 66, 67, 68, 69, 52, 53, 54, 55, 56, 57, 58, 59, 60, 61] (by decide +kernel) (by decide +kernel)
set_option maxRecDepth 20000 in
theorem gX1_move_X1_noteChange : GoodIn wsX1_move (wsV RX1 106 RX1 yX1_noteChange wsX1_noteChange) := goodIn_app (goodIn_of _ (by decide +kernel)) ggX1_move_X1_noteChange
theorem dX1_move_0 : decode cX1_move 0 = .ok (.aload_n 0, 1) := by decide +kernel
theorem dX1_move_1 : decode cX1_move 1 = .ok (.iload_n 3, 1) := by decide +kernel
theorem dX1_move_2 : decode cX1_move 2 = .ok (.invokevirtual 74, 3) := by decide +kernel
theorem dX1_move_5 : decode cX1_move 5 = .ok (.astore 6, 2) := by decide +kernel
theorem dX1_move_7 : decode cX1_move 7 = .ok (.iload_n 1, 1) := by decide +kernel
theorem dX1_move_8 : decode cX1_move 8 = .ok (.invokestatic 39, 3) := by decide +kernel
theorem dX1_move_11 : decode cX1_move 11 = .ok (.ifCond .eq 8, 3) := by decide +kernel
theorem dX1_move_14 : decode cX1_move 14 = .ok (.aload 6, 2) := by decide +kernel
theorem dX1_move_16 : decode cX1_move 16 = .ok (.ifnonnull 13, 3) := by decide +kernel
theorem dX1_move_19 : decode cX1_move 19 = .ok (.new 46, 3) := by decide +kernel
theorem dX1_move_22 : decode cX1_move 22 = .ok (.dup, 1) := by decide +kernel
theorem dX1_move_23 : decode cX1_move 23 = .ok (.ldc 78, 2) := by decide +kernel
theorem dX1_move_25 : decode cX1_move 25 = .ok (.invokespecial 50, 3) := by decide +kernel
theorem dX1_move_28 : decode cX1_move 28 = .ok (.athrow, 1) := by decide +kernel
theorem dX1_move_29 : decode cX1_move 29 = .ok (.aload_n 0, 1) := by decide +kernel
theorem dX1_move_30 : decode cX1_move 30 = .ok (.iload_n 2, 1) := by decide +kernel
theorem dX1_move_31 : decode cX1_move 31 = .ok (.invokevirtual 80, 3) := by decide +kernel
theorem dX1_move_34 : decode cX1_move 34 = .ok (.ifCond .ne 13, 3) := by decide +kernel
theorem dX1_move_37 : decode cX1_move 37 = .ok (.new 57, 3) := by decide +kernel
theorem dX1_move_40 : decode cX1_move 40 = .ok (.dup, 1) := by decide +kernel
theorem dX1_move_41 : decode cX1_move 41 = .ok (.ldc 83, 2) := by decide +kernel
theorem dX1_move_43 : decode cX1_move 43 = .ok (.invokespecial 61, 3) := by decide +kernel
theorem dX1_move_46 : decode cX1_move 46 = .ok (.athrow, 1) := by decide +kernel
theorem dX1_move_47 : decode cX1_move 47 = .ok (.iload 4, 2) := by decide +kernel
theorem dX1_move_49 : decode cX1_move 49 = .ok (.invokestatic 85, 3) := by decide +kernel
theorem dX1_move_52 : decode cX1_move 52 = .ok (.ifCond .eq 23, 3) := by decide +kernel
theorem dX1_move_55 : decode cX1_move 55 = .ok (.iload 5, 2) := by decide +kernel
theorem dX1_move_57 : decode cX1_move 57 = .ok (.invokestatic 85, 3) := by decide +kernel
theorem dX1_move_60 : decode cX1_move 60 = .ok (.ifCond .eq 15, 3) := by decide +kernel
theorem dX1_move_63 : decode cX1_move 63 = .ok (.aload 6, 2) := by decide +kernel
theorem dX1_move_65 : decode cX1_move 65 = .ok (.iload 4, 2) := by decide +kernel
theorem dX1_move_67 : decode cX1_move 67 = .ok (.iload 5, 2) := by decide +kernel
theorem dX1_move_69 : decode cX1_move 69 = .ok (.invokevirtual 88, 3) := by decide +kernel
theorem dX1_move_72 : decode cX1_move 72 = .ok (.ifCond .ne 13, 3) := by decide +kernel
theorem dX1_move_75 : decode cX1_move 75 = .ok (.new 57, 3) := by decide +kernel
theorem dX1_move_78 : decode cX1_move 78 = .ok (.dup, 1) := by decide +kernel
theorem dX1_move_79 : decode cX1_move 79 = .ok (.ldc 91, 2) := by decide +kernel
theorem dX1_move_81 : decode cX1_move 81 = .ok (.invokespecial 61, 3) := by decide +kernel
theorem dX1_move_84 : decode cX1_move 84 = .ok (.athrow, 1) := by decide +kernel
theorem dX1_move_85 : decode cX1_move 85 = .ok (.aload 6, 2) := by decide +kernel
theorem dX1_move_87 : decode cX1_move 87 = .ok (.getfield 93, 3) := by decide +kernel
theorem dX1_move_90 : decode cX1_move 90 = .ok (.ifCond .eq 13, 3) := by decide +kernel
theorem dX1_move_93 : decode cX1_move 93 = .ok (.new 64, 3) := by decide +kernel
theorem dX1_move_96 : decode cX1_move 96 = .ok (.dup, 1) := by decide +kernel
theorem dX1_move_97 : decode cX1_move 97 = .ok (.ldc 96, 2) := by decide +kernel
theorem dX1_move_99 : decode cX1_move 99 = .ok (.invokespecial 68, 3) := by decide +kernel
theorem dX1_move_102 : decode cX1_move 102 = .ok (.athrow, 1) := by decide +kernel
theorem dX1_move_103 : decode cX1_move 103 = .ok (.aload 6, 2) := by decide +kernel
theorem dX1_move_105 : decode cX1_move 105 = .ok (.iload_n 1, 1) := by decide +kernel
theorem dX1_move_106 : decode cX1_move 106 = .ok (.iload_n 2, 1) := by decide +kernel
theorem dX1_move_107 : decode cX1_move 107 = .ok (.invokestatic 98, 3) := by decide +kernel
theorem dX1_move_110 : decode cX1_move 110 = .ok (.ifCond .eq 5, 3) := by decide +kernel
theorem dX1_move_113 : decode cX1_move 113 = .ok (.iconst 0, 1) := by decide +kernel
theorem dX1_move_114 : decode cX1_move 114 = .ok (.ireturn, 1) := by decide +kernel
theorem dX1_move_115 : decode cX1_move 115 = .ok (.aload 6, 2) := by decide +kernel
theorem dX1_move_117 : decode cX1_move 117 = .ok (.iload 4, 2) := by decide +kernel
theorem dX1_move_119 : decode cX1_move 119 = .ok (.iload 5, 2) := by decide +kernel
theorem dX1_move_121 : decode cX1_move 121 = .ok (.invokevirtual 102, 3) := by decide +kernel
theorem dX1_move_124 : decode cX1_move 124 = .ok (.aload_n 0, 1) := by decide +kernel
theorem dX1_move_125 : decode cX1_move 125 = .ok (.aload 6, 2) := by decide +kernel
theorem dX1_move_127 : decode cX1_move 127 = .ok (.iload_n 1, 1) := by decide +kernel
theorem dX1_move_128 : decode cX1_move 128 = .ok (.invokevirtual 106, 3) := by decide +kernel
theorem dX1_move_131 : decode cX1_move 131 = .ok (.iconst 1, 1) := by decide +kernel
theorem dX1_move_132 : decode cX1_move 132 = .ok (.ireturn, 1) := by decide +kernel
set_option maxRecDepth 20000 in
theorem ggX1_remove_X1_find : GoodIn wsX1_remove wsX1_find := goodIn_r _ [12, 13, 14, 15, 11, 16, 41, 42, 43, 44, 45, 46, 47, 48] (by decide +kernel) (by decide +kernel)
set_option maxRecDepth 20000 in
theorem gX1_remove_X1_find : GoodIn wsX1_remove (wsV RX1 74 RX1 yX1_find wsX1_find) := goodIn_app (goodIn_of _ (by decide +kernel)) ggX1_remove_X1_find
set_option maxRecDepth 20000 in
theorem ggX1_remove_X1_isKind : GoodIn wsX1_remove wsX1_isKind := goodIn_r _ [19, 14, 15, 11, 16] (by decide +kernel) (by decide +kernel)
set_option maxRecDepth 20000 in
theorem gX1_remove_X1_isKind : GoodIn wsX1_remove (va_wsS RX1 39 yX1_isKind wsX1_isKind) := goodIn_app (goodIn_of _ (by decide +kernel)) ggX1_remove_X1_isKind
set_option maxRecDepth 20000 in
theorem ggX1_remove_X1_isBase : GoodIn wsX1_remove wsX1_isBase := goodIn_r _ [23, 24, 14, 15, 11, 16, 41, 42, 43, 44, 45, 46, 47, 48] (by decide +kernel) (by decide +kernel)
set_option maxRecDepth 20000 in
theorem gX1_remove_X1_isBase : GoodIn wsX1_remove (wsV RX1 80 RX1 yX1_isBase wsX1_isBase) := goodIn_app (goodIn_of _ (by decide +kernel)) ggX1_remove_X1_isBase
set_option maxRecDepth 20000 in
theorem ggX1_remove_X1_noteChange : GoodIn wsX1_remove wsX1_noteChange := goodIn_r _ [28, 24, 29, 30, 41, 42, 43, 44, 45, 46, 47, 48, 31, 32, 33, 34, 35, 36, 37, 38, 39, 40] (by decide +kernel) (by decide +kernel)
set_option maxRecDepth 20000 in
theorem gX1_remove_X1_noteChange : GoodIn wsX1_remove (wsV RX1 106 RX1 yX1_noteChange wsX1_noteChange) := goodIn_app (goodIn_of _ (by decide +kernel)) ggX1_remove_X1_noteChange
theorem dX1_remove_0 : decode cX1_remove 0 = .ok (.aload_n 0, 1) := by decide +kernel
theorem dX1_remove_1 : decode cX1_remove 1 = .ok (.iload_n 3, 1) := by decide +kernel
theorem dX1_remove_2 : decode cX1_remove 2 = .ok (.invokevirtual 74, 3) := by decide +kernel
theorem dX1_remove_5 : decode cX1_remove 5 = .ok (.astore 4, 2) := by decide +kernel
theorem dX1_remove_7 : decode cX1_remove 7 = .ok (.iload_n 1, 1) := by decide +kernel
theorem dX1_remove_8 : decode cX1_remove 8 = .ok (.invokestatic 39, 3) := by decide +kernel
theorem dX1_remove_11 : decode cX1_remove 11 = .ok (.ifCond .eq 8, 3) := by decide +kernel
theorem dX1_remove_14 : decode cX1_remove 14 = .ok (.aload 4, 2) := by decide +kernel
theorem dX1_remove_16 : decode cX1_remove 16 = .ok (.ifnonnull 13, 3) := by decide +kernel
theorem dX1_remove_19 : decode cX1_remove 19 = .ok (.new 46, 3) := by decide +kernel
theorem dX1_remove_22 : decode cX1_remove 22 = .ok (.dup, 1) := by decide +kernel
theorem dX1_remove_23 : decode cX1_remove 23 = .ok (.ldc 78, 2) := by decide +kernel
theorem dX1_remove_25 : decode cX1_remove 25 = .ok (.invokespecial 50, 3) := by decide +kernel
theorem dX1_remove_28 : decode cX1_remove 28 = .ok (.athrow, 1) := by decide +kernel
theorem dX1_remove_29 : decode cX1_remove 29 = .ok (.aload_n 0, 1) := by decide +kernel
theorem dX1_remove_30 : decode cX1_remove 30 = .ok (.iload_n 2, 1) := by decide +kernel
theorem dX1_remove_31 : decode cX1_remove 31 = .ok (.invokevirtual 80, 3) := by decide +kernel
theorem dX1_remove_34 : decode cX1_remove 34 = .ok (.ifCond .ne 13, 3) := by decide +kernel
theorem dX1_remove_37 : decode cX1_remove 37 = .ok (.new 57, 3) := by decide +kernel
theorem dX1_remove_40 : decode cX1_remove 40 = .ok (.dup, 1) := by decide +kernel
theorem dX1_remove_41 : decode cX1_remove 41 = .ok (.ldc 83, 2) := by decide +kernel
theorem dX1_remove_43 : decode cX1_remove 43 = .ok (.invokespecial 61, 3) := by decide +kernel
theorem dX1_remove_46 : decode cX1_remove 46 = .ok (.athrow, 1) := by decide +kernel
theorem dX1_remove_47 : decode cX1_remove 47 = .ok (.aload 4, 2) := by decide +kernel
theorem dX1_remove_49 : decode cX1_remove 49 = .ok (.getfield 93, 3) := by decide +kernel
theorem dX1_remove_52 : decode cX1_remove 52 = .ok (.ifCond .eq 13, 3) := by decide +kernel
theorem dX1_remove_55 : decode cX1_remove 55 = .ok (.new 64, 3) := by decide +kernel
theorem dX1_remove_58 : decode cX1_remove 58 = .ok (.dup, 1) := by decide +kernel
theorem dX1_remove_59 : decode cX1_remove 59 = .ok (.ldc 96, 2) := by decide +kernel
theorem dX1_remove_61 : decode cX1_remove 61 = .ok (.invokespecial 68, 3) := by decide +kernel
theorem dX1_remove_64 : decode cX1_remove 64 = .ok (.athrow, 1) := by decide +kernel
theorem dX1_remove_65 : decode cX1_remove 65 = .ok (.aload 4, 2) := by decide +kernel
theorem dX1_remove_67 : decode cX1_remove 67 = .ok (.iconst 4, 1) := by decide +kernel
theorem dX1_remove_68 : decode cX1_remove 68 = .ok (.putfield 93, 3) := by decide +kernel
theorem dX1_remove_71 : decode cX1_remove 71 = .ok (.aload_n 0, 1) := by decide +kernel
theorem dX1_remove_72 : decode cX1_remove 72 = .ok (.aload 4, 2) := by decide +kernel
theorem dX1_remove_74 : decode cX1_remove 74 = .ok (.iload_n 1, 1) := by decide +kernel
theorem dX1_remove_75 : decode cX1_remove 75 = .ok (.invokevirtual 106, 3) := by decide +kernel
theorem dX1_remove_78 : decode cX1_remove 78 = .ok (.iconst 1, 1) := by decide +kernel
theorem dX1_remove_79 : decode cX1_remove 79 = .ok (.ireturn, 1) := by decide +kernel
set_option maxRecDepth 20000 in
theorem ggX1_clear_X1_isKind : GoodIn wsX1_clear wsX1_isKind := goodIn_r _ [9, 10, 11, 8, 12] (by decide +kernel) (by decide +kernel)
set_option maxRecDepth 20000 in
theorem gX1_clear_X1_isKind : GoodIn wsX1_clear (va_wsS RX1 39 yX1_isKind wsX1_isKind) := goodIn_app (goodIn_of _ (by decide +kernel)) ggX1_clear_X1_isKind
set_option maxRecDepth 20000 in
theorem ggX1_clear_X1_isWithin : GoodIn wsX1_clear wsX1_isWithin := goodIn_r _ [12] (by decide +kernel) (by decide +kernel)
set_option maxRecDepth 20000 in
theorem gX1_clear_X1_isWithin : GoodIn wsX1_clear (va_wsS RX1 112 yX1_isWithin wsX1_isWithin) := goodIn_app (goodIn_of _ (by decide +kernel)) ggX1_clear_X1_isWithin
theorem dX1_clear_0 : decode cX1_clear 0 = .ok (.iload_n 1, 1) := by decide +kernel
theorem dX1_clear_1 : decode cX1_clear 1 = .ok (.invokestatic 39, 3) := by decide +kernel
theorem dX1_clear_4 : decode cX1_clear 4 = .ok (.ifCond .eq 10, 3) := by decide +kernel
theorem dX1_clear_7 : decode cX1_clear 7 = .ok (.iload_n 2, 1) := by decide +kernel
theorem dX1_clear_8 : decode cX1_clear 8 = .ok (.invokestatic 39, 3) := by decide +kernel
theorem dX1_clear_11 : decode cX1_clear 11 = .ok (.ifCond .ne 13, 3) := by decide +kernel
theorem dX1_clear_14 : decode cX1_clear 14 = .ok (.new 46, 3) := by decide +kernel
theorem dX1_clear_17 : decode cX1_clear 17 = .ok (.dup, 1) := by decide +kernel
theorem dX1_clear_18 : decode cX1_clear 18 = .ok (.ldc 110, 2) := by decide +kernel
theorem dX1_clear_20 : decode cX1_clear 20 = .ok (.invokespecial 50, 3) := by decide +kernel
theorem dX1_clear_23 : decode cX1_clear 23 = .ok (.athrow, 1) := by decide +kernel
theorem dX1_clear_24 : decode cX1_clear 24 = .ok (.iload_n 3, 1) := by decide +kernel
theorem dX1_clear_25 : decode cX1_clear 25 = .ok (.iconst 0, 1) := by decide +kernel
theorem dX1_clear_26 : decode cX1_clear 26 = .ok (.iconst 3, 1) := by decide +kernel
theorem dX1_clear_27 : decode cX1_clear 27 = .ok (.invokestatic 112, 3) := by decide +kernel
theorem dX1_clear_30 : decode cX1_clear 30 = .ok (.ifCond .ne 13, 3) := by decide +kernel
theorem dX1_clear_33 : decode cX1_clear 33 = .ok (.new 57, 3) := by decide +kernel
theorem dX1_clear_36 : decode cX1_clear 36 = .ok (.dup, 1) := by decide +kernel
theorem dX1_clear_37 : decode cX1_clear 37 = .ok (.ldc 116, 2) := by decide +kernel
theorem dX1_clear_39 : decode cX1_clear 39 = .ok (.invokespecial 61, 3) := by decide +kernel
theorem dX1_clear_42 : decode cX1_clear 42 = .ok (.athrow, 1) := by decide +kernel
theorem dX1_clear_43 : decode cX1_clear 43 = .ok (.aload_n 0, 1) := by decide +kernel
theorem dX1_clear_44 : decode cX1_clear 44 = .ok (.getfield 19, 3) := by decide +kernel
theorem dX1_clear_47 : decode cX1_clear 47 = .ok (.iload_n 1, 1) := by decide +kernel
theorem dX1_clear_48 : decode cX1_clear 48 = .ok (.iconst 3, 1) := by decide +kernel
theorem dX1_clear_49 : decode cX1_clear 49 = .ok (.imul, 1) := by decide +kernel
theorem dX1_clear_50 : decode cX1_clear 50 = .ok (.iload_n 2, 1) := by decide +kernel
theorem dX1_clear_51 : decode cX1_clear 51 = .ok (.iadd, 1) := by decide +kernel
theorem dX1_clear_52 : decode cX1_clear 52 = .ok (.iaload, 1) := by decide +kernel
theorem dX1_clear_53 : decode cX1_clear 53 = .ok (.istore 4, 2) := by decide +kernel
theorem dX1_clear_55 : decode cX1_clear 55 = .ok (.aload_n 0, 1) := by decide +kernel
theorem dX1_clear_56 : decode cX1_clear 56 = .ok (.getfield 19, 3) := by decide +kernel
theorem dX1_clear_59 : decode cX1_clear 59 = .ok (.iload_n 1, 1) := by decide +kernel
theorem dX1_clear_60 : decode cX1_clear 60 = .ok (.iconst 3, 1) := by decide +kernel
theorem dX1_clear_61 : decode cX1_clear 61 = .ok (.imul, 1) := by decide +kernel
theorem dX1_clear_62 : decode cX1_clear 62 = .ok (.iload_n 2, 1) := by decide +kernel
theorem dX1_clear_63 : decode cX1_clear 63 = .ok (.iadd, 1) := by decide +kernel
theorem dX1_clear_64 : decode cX1_clear 64 = .ok (.iload_n 3, 1) := by decide +kernel
theorem dX1_clear_65 : decode cX1_clear 65 = .ok (.iastore, 1) := by decide +kernel
theorem dX1_clear_66 : decode cX1_clear 66 = .ok (.aload_n 0, 1) := by decide +kernel
theorem dX1_clear_67 : decode cX1_clear 67 = .ok (.getfield 19, 3) := by decide +kernel
theorem dX1_clear_70 : decode cX1_clear 70 = .ok (.iload_n 2, 1) := by decide +kernel
theorem dX1_clear_71 : decode cX1_clear 71 = .ok (.iconst 3, 1) := by decide +kernel
theorem dX1_clear_72 : decode cX1_clear 72 = .ok (.imul, 1) := by decide +kernel
theorem dX1_clear_73 : decode cX1_clear 73 = .ok (.iload_n 1, 1) := by decide +kernel
theorem dX1_clear_74 : decode cX1_clear 74 = .ok (.iadd, 1) := by decide +kernel
theorem dX1_clear_75 : decode cX1_clear 75 = .ok (.iload_n 3, 1) := by decide +kernel
theorem dX1_clear_76 : decode cX1_clear 76 = .ok (.iastore, 1) := by decide +kernel
theorem dX1_clear_77 : decode cX1_clear 77 = .ok (.iload 4, 2) := by decide +kernel
theorem dX1_clear_79 : decode cX1_clear 79 = .ok (.ireturn, 1) := by decide +kernel
set_option maxRecDepth 20000 in
theorem ggX1_part_X1_isKind : GoodIn wsX1_part wsX1_isKind := goodIn_r _ [9, 10, 11, 8, 12] (by decide +kernel) (by decide +kernel)
set_option maxRecDepth 20000 in
theorem gX1_part_X1_isKind : GoodIn wsX1_part (va_wsS RX1 39 yX1_isKind wsX1_isKind) := goodIn_app (goodIn_of _ (by decide +kernel)) ggX1_part_X1_isKind
set_option maxRecDepth 20000 in
theorem ggX1_part_X1_isWithin : GoodIn wsX1_part wsX1_isWithin := goodIn_r _ [12] (by decide +kernel) (by decide +kernel)
set_option maxRecDepth 20000 in
theorem gX1_part_X1_isWithin : GoodIn wsX1_part (va_wsS RX1 112 yX1_isWithin wsX1_isWithin) := goodIn_app (goodIn_of _ (by decide +kernel)) ggX1_part_X1_isWithin
theorem dX1_part_0 : decode cX1_part 0 = .ok (.iload_n 1, 1) := by decide +kernel
theorem dX1_part_1 : decode cX1_part 1 = .ok (.invokestatic 39, 3) := by decide +kernel
theorem dX1_part_4 : decode cX1_part 4 = .ok (.ifCond .ne 13, 3) := by decide +kernel
theorem dX1_part_7 : decode cX1_part 7 = .ok (.new 46, 3) := by decide +kernel
theorem dX1_part_10 : decode cX1_part 10 = .ok (.dup, 1) := by decide +kernel
theorem dX1_part_11 : decode cX1_part 11 = .ok (.ldc 110, 2) := by decide +kernel
theorem dX1_part_13 : decode cX1_part 13 = .ok (.invokespecial 50, 3) := by decide +kernel
theorem dX1_part_16 : decode cX1_part 16 = .ok (.athrow, 1) := by decide +kernel
theorem dX1_part_17 : decode cX1_part 17 = .ok (.iload_n 2, 1) := by decide +kernel
theorem dX1_part_18 : decode cX1_part 18 = .ok (.iconst 1, 1) := by decide +kernel
theorem dX1_part_19 : decode cX1_part 19 = .ok (.bipush 12, 2) := by decide +kernel
theorem dX1_part_21 : decode cX1_part 21 = .ok (.invokestatic 112, 3) := by decide +kernel
theorem dX1_part_24 : decode cX1_part 24 = .ok (.ifCond .ne 13, 3) := by decide +kernel
theorem dX1_part_27 : decode cX1_part 27 = .ok (.new 57, 3) := by decide +kernel
theorem dX1_part_30 : decode cX1_part 30 = .ok (.dup, 1) := by decide +kernel
theorem dX1_part_31 : decode cX1_part 31 = .ok (.ldc 116, 2) := by decide +kernel
theorem dX1_part_33 : decode cX1_part 33 = .ok (.invokespecial 61, 3) := by decide +kernel
theorem dX1_part_36 : decode cX1_part 36 = .ok (.athrow, 1) := by decide +kernel
theorem dX1_part_37 : decode cX1_part 37 = .ok (.aload_n 0, 1) := by decide +kernel
theorem dX1_part_38 : decode cX1_part 38 = .ok (.getfield 23, 3) := by decide +kernel
theorem dX1_part_41 : decode cX1_part 41 = .ok (.iload_n 1, 1) := by decide +kernel
theorem dX1_part_42 : decode cX1_part 42 = .ok (.iaload, 1) := by decide +kernel
theorem dX1_part_43 : decode cX1_part 43 = .ok (.istore_n 3, 1) := by decide +kernel
theorem dX1_part_44 : decode cX1_part 44 = .ok (.aload_n 0, 1) := by decide +kernel
theorem dX1_part_45 : decode cX1_part 45 = .ok (.getfield 23, 3) := by decide +kernel
theorem dX1_part_48 : decode cX1_part 48 = .ok (.iload_n 1, 1) := by decide +kernel
theorem dX1_part_49 : decode cX1_part 49 = .ok (.iload_n 2, 1) := by decide +kernel
theorem dX1_part_50 : decode cX1_part 50 = .ok (.iastore, 1) := by decide +kernel
theorem dX1_part_51 : decode cX1_part 51 = .ok (.iload_n 3, 1) := by decide +kernel
theorem dX1_part_52 : decode cX1_part 52 = .ok (.ireturn, 1) := by decide +kernel
set_option maxRecDepth 20000 in
theorem ggX1_lead_X1_isKind : GoodIn wsX1_lead wsX1_isKind := goodIn_r _ [9, 10, 11, 8, 12] (by decide +kernel) (by decide +kernel)
set_option maxRecDepth 20000 in
theorem gX1_lead_X1_isKind : GoodIn wsX1_lead (va_wsS RX1 39 yX1_isKind wsX1_isKind) := goodIn_app (goodIn_of _ (by decide +kernel)) ggX1_lead_X1_isKind
set_option maxRecDepth 20000 in
theorem ggX1_lead_X1_isWithin : GoodIn wsX1_lead wsX1_isWithin := goodIn_r _ [12] (by decide +kernel) (by decide +kernel)
set_option maxRecDepth 20000 in
theorem gX1_lead_X1_isWithin : GoodIn wsX1_lead (va_wsS RX1 112 yX1_isWithin wsX1_isWithin) := goodIn_app (goodIn_of _ (by decide +kernel)) ggX1_lead_X1_isWithin
theorem dX1_lead_0 : decode cX1_lead 0 = .ok (.iload_n 1, 1) := by decide +kernel
theorem dX1_lead_1 : decode cX1_lead 1 = .ok (.invokestatic 39, 3) := by decide +kernel
theorem dX1_lead_4 : decode cX1_lead 4 = .ok (.ifCond .ne 13, 3) := by decide +kernel
theorem dX1_lead_7 : decode cX1_lead 7 = .ok (.new 46, 3) := by decide +kernel
theorem dX1_lead_10 : decode cX1_lead 10 = .ok (.dup, 1) := by decide +kernel
theorem dX1_lead_11 : decode cX1_lead 11 = .ok (.ldc 110, 2) := by decide +kernel
theorem dX1_lead_13 : decode cX1_lead 13 = .ok (.invokespecial 50, 3) := by decide +kernel
theorem dX1_lead_16 : decode cX1_lead 16 = .ok (.athrow, 1) := by decide +kernel
theorem dX1_lead_17 : decode cX1_lead 17 = .ok (.iload_n 2, 1) := by decide +kernel
theorem dX1_lead_18 : decode cX1_lead 18 = .ok (.iconst 0, 1) := by decide +kernel
theorem dX1_lead_19 : decode cX1_lead 19 = .ok (.bipush 100, 2) := by decide +kernel
theorem dX1_lead_21 : decode cX1_lead 21 = .ok (.invokestatic 112, 3) := by decide +kernel
theorem dX1_lead_24 : decode cX1_lead 24 = .ok (.ifCond .ne 13, 3) := by decide +kernel
theorem dX1_lead_27 : decode cX1_lead 27 = .ok (.new 57, 3) := by decide +kernel
theorem dX1_lead_30 : decode cX1_lead 30 = .ok (.dup, 1) := by decide +kernel
theorem dX1_lead_31 : decode cX1_lead 31 = .ok (.ldc 118, 2) := by decide +kernel
theorem dX1_lead_33 : decode cX1_lead 33 = .ok (.invokespecial 61, 3) := by decide +kernel
theorem dX1_lead_36 : decode cX1_lead 36 = .ok (.athrow, 1) := by decide +kernel
theorem dX1_lead_37 : decode cX1_lead 37 = .ok (.aload_n 0, 1) := by decide +kernel
theorem dX1_lead_38 : decode cX1_lead 38 = .ok (.getfield 26, 3) := by decide +kernel
theorem dX1_lead_41 : decode cX1_lead 41 = .ok (.iload_n 1, 1) := by decide +kernel
theorem dX1_lead_42 : decode cX1_lead 42 = .ok (.iaload, 1) := by decide +kernel
theorem dX1_lead_43 : decode cX1_lead 43 = .ok (.istore_n 3, 1) := by decide +kernel
theorem dX1_lead_44 : decode cX1_lead 44 = .ok (.aload_n 0, 1) := by decide +kernel
theorem dX1_lead_45 : decode cX1_lead 45 = .ok (.getfield 26, 3) := by decide +kernel
theorem dX1_lead_48 : decode cX1_lead 48 = .ok (.iload_n 1, 1) := by decide +kernel
theorem dX1_lead_49 : decode cX1_lead 49 = .ok (.iload_n 2, 1) := by decide +kernel
theorem dX1_lead_50 : decode cX1_lead 50 = .ok (.iastore, 1) := by decide +kernel
theorem dX1_lead_51 : decode cX1_lead 51 = .ok (.iload_n 3, 1) := by decide +kernel
theorem dX1_lead_52 : decode cX1_lead 52 = .ok (.ireturn, 1) := by decide +kernel
set_option maxRecDepth 20000 in
theorem ggX1_order_X1_find : GoodIn wsX1_order wsX1_find := goodIn_r _ [13, 14, 15, 16, 12, 17, 60, 61, 62, 63, 64, 65, 66, 67] (by decide +kernel) (by decide +kernel)
set_option maxRecDepth 20000 in
theorem gX1_order_X1_find : GoodIn wsX1_order (wsV RX1 74 RX1 yX1_find wsX1_find) := goodIn_app (goodIn_of _ (by decide +kernel)) ggX1_order_X1_find
set_option maxRecDepth 20000 in
theorem ggX1_order_X1_leadDaysOf : GoodIn wsX1_order wsX1_leadDaysOf := goodIn_r _ [21, 22, 23, 24, 12, 25, 15, 16, 17, 60, 61, 62, 63, 64, 65, 66, 67] (by decide +kernel) (by decide +kernel)
set_option maxRecDepth 20000 in
theorem gX1_order_X1_leadDaysOf : GoodIn wsX1_order (wsV RX1 125 RX1 yX1_leadDaysOf wsX1_leadDaysOf) := goodIn_app (goodIn_of _ (by decide +kernel)) ggX1_order_X1_leadDaysOf
set_option maxRecDepth 20000 in
theorem ggX1_order_X0_deliverIfDue : GoodIn wsX1_order wsX0_deliverIfDue := goodIn_r _ [30, 31, 32, 50, 51, 52, 53, 54, 55, 56, 57, 58, 59] (by decide +kernel) (by decide +kernel)
set_option maxRecDepth 20000 in
theorem gX1_order_X0_deliverIfDue : GoodIn wsX1_order (wsV RX1 132 RX0 yX0_deliverIfDue wsX0_deliverIfDue) := goodIn_app (goodIn_of _ (by decide +kernel)) ggX1_order_X0_deliverIfDue
set_option maxRecDepth 20000 in
theorem ggX1_order_X1_partsOf : GoodIn wsX1_order wsX1_partsOf := goodIn_r _ [36, 7, 37, 23, 24, 12, 25, 15, 16, 17, 38, 39, 40, 29, 41, 42, 43, 44, 45, 46, 47, 48, 49, 50, 51, 52, 53, 54, 55, 56, 57, 58, 59, 60, 61, 62, 63, 64, 65, 66, 67] (by decide +kernel) (by decide +kernel)
set_option maxRecDepth 20000 in
theorem gX1_order_X1_partsOf : GoodIn wsX1_order (wsV RX1 136 RX1 yX1_partsOf wsX1_partsOf) := goodIn_app (goodIn_of _ (by decide +kernel)) ggX1_order_X1_partsOf
theorem dX1_order_0 : decode cX1_order 0 = .ok (.aload_n 0, 1) := by decide +kernel
theorem dX1_order_1 : decode cX1_order 1 = .ok (.iload_n 1, 1) := by decide +kernel
theorem dX1_order_2 : decode cX1_order 2 = .ok (.invokevirtual 74, 3) := by decide +kernel
theorem dX1_order_5 : decode cX1_order 5 = .ok (.astore_n 2, 1) := by decide +kernel
theorem dX1_order_6 : decode cX1_order 6 = .ok (.aload_n 2, 1) := by decide +kernel
theorem dX1_order_7 : decode cX1_order 7 = .ok (.ifnonnull 13, 3) := by decide +kernel
theorem dX1_order_10 : decode cX1_order 10 = .ok (.new 46, 3) := by decide +kernel
theorem dX1_order_13 : decode cX1_order 13 = .ok (.dup, 1) := by decide +kernel
theorem dX1_order_14 : decode cX1_order 14 = .ok (.ldc 120, 2) := by decide +kernel
theorem dX1_order_16 : decode cX1_order 16 = .ok (.invokespecial 50, 3) := by decide +kernel
theorem dX1_order_19 : decode cX1_order 19 = .ok (.athrow, 1) := by decide +kernel
theorem dX1_order_20 : decode cX1_order 20 = .ok (.aload_n 2, 1) := by decide +kernel
theorem dX1_order_21 : decode cX1_order 21 = .ok (.getfield 93, 3) := by decide +kernel
theorem dX1_order_24 : decode cX1_order 24 = .ok (.ifCond .eq 13, 3) := by decide +kernel
theorem dX1_order_27 : decode cX1_order 27 = .ok (.new 64, 3) := by decide +kernel
theorem dX1_order_30 : decode cX1_order 30 = .ok (.dup, 1) := by decide +kernel
theorem dX1_order_31 : decode cX1_order 31 = .ok (.ldc 96, 2) := by decide +kernel
theorem dX1_order_33 : decode cX1_order 33 = .ok (.invokespecial 68, 3) := by decide +kernel
theorem dX1_order_36 : decode cX1_order 36 = .ok (.athrow, 1) := by decide +kernel
theorem dX1_order_37 : decode cX1_order 37 = .ok (.aload_n 2, 1) := by decide +kernel
theorem dX1_order_38 : decode cX1_order 38 = .ok (.iconst 1, 1) := by decide +kernel
theorem dX1_order_39 : decode cX1_order 39 = .ok (.putfield 93, 3) := by decide +kernel
theorem dX1_order_42 : decode cX1_order 42 = .ok (.aload_n 2, 1) := by decide +kernel
theorem dX1_order_43 : decode cX1_order 43 = .ok (.aload_n 0, 1) := by decide +kernel
theorem dX1_order_44 : decode cX1_order 44 = .ok (.getfield 36, 3) := by decide +kernel
theorem dX1_order_47 : decode cX1_order 47 = .ok (.aload_n 0, 1) := by decide +kernel
theorem dX1_order_48 : decode cX1_order 48 = .ok (.aload_n 2, 1) := by decide +kernel
theorem dX1_order_49 : decode cX1_order 49 = .ok (.getfield 122, 3) := by decide +kernel
theorem dX1_order_52 : decode cX1_order 52 = .ok (.invokevirtual 125, 3) := by decide +kernel
theorem dX1_order_55 : decode cX1_order 55 = .ok (.iadd, 1) := by decide +kernel
theorem dX1_order_56 : decode cX1_order 56 = .ok (.putfield 129, 3) := by decide +kernel
theorem dX1_order_59 : decode cX1_order 59 = .ok (.aload_n 2, 1) := by decide +kernel
theorem dX1_order_60 : decode cX1_order 60 = .ok (.aload_n 0, 1) := by decide +kernel
theorem dX1_order_61 : decode cX1_order 61 = .ok (.getfield 36, 3) := by decide +kernel
theorem dX1_order_64 : decode cX1_order 64 = .ok (.invokevirtual 132, 3) := by decide +kernel
theorem dX1_order_67 : decode cX1_order 67 = .ok (.aload_n 0, 1) := by decide +kernel
theorem dX1_order_68 : decode cX1_order 68 = .ok (.aload_n 2, 1) := by decide +kernel
theorem dX1_order_69 : decode cX1_order 69 = .ok (.invokevirtual 136, 3) := by decide +kernel
theorem dX1_order_72 : decode cX1_order 72 = .ok (.ireturn, 1) := by decide +kernel
set_option maxRecDepth 20000 in
theorem ggX1_cancel_X1_find : GoodIn wsX1_cancel wsX1_find := goodIn_r _ [12, 13, 14, 15, 11, 16, 27, 28, 29, 30, 31, 32, 33, 34] (by decide +kernel) (by decide +kernel)
set_option maxRecDepth 20000 in
theorem gX1_cancel_X1_find : GoodIn wsX1_cancel (wsV RX1 74 RX1 yX1_find wsX1_find) := goodIn_app (goodIn_of _ (by decide +kernel)) ggX1_cancel_X1_find
theorem dX1_cancel_0 : decode cX1_cancel 0 = .ok (.aload_n 0, 1) := by decide +kernel
theorem dX1_cancel_1 : decode cX1_cancel 1 = .ok (.iload_n 1, 1) := by decide +kernel
theorem dX1_cancel_2 : decode cX1_cancel 2 = .ok (.invokevirtual 74, 3) := by decide +kernel
theorem dX1_cancel_5 : decode cX1_cancel 5 = .ok (.astore_n 2, 1) := by decide +kernel
theorem dX1_cancel_6 : decode cX1_cancel 6 = .ok (.aload_n 2, 1) := by decide +kernel
theorem dX1_cancel_7 : decode cX1_cancel 7 = .ok (.ifnonnull 13, 3) := by decide +kernel
theorem dX1_cancel_10 : decode cX1_cancel 10 = .ok (.new 46, 3) := by decide +kernel
theorem dX1_cancel_13 : decode cX1_cancel 13 = .ok (.dup, 1) := by decide +kernel
theorem dX1_cancel_14 : decode cX1_cancel 14 = .ok (.ldc 120, 2) := by decide +kernel
theorem dX1_cancel_16 : decode cX1_cancel 16 = .ok (.invokespecial 50, 3) := by decide +kernel
theorem dX1_cancel_19 : decode cX1_cancel 19 = .ok (.athrow, 1) := by decide +kernel
theorem dX1_cancel_20 : decode cX1_cancel 20 = .ok (.aload_n 2, 1) := by decide +kernel
theorem dX1_cancel_21 : decode cX1_cancel 21 = .ok (.getfield 93, 3) := by decide +kernel
theorem dX1_cancel_24 : decode cX1_cancel 24 = .ok (.iconst 1, 1) := by decide +kernel
theorem dX1_cancel_25 : decode cX1_cancel 25 = .ok (.if_icmp .eq 13, 3) := by decide +kernel
theorem dX1_cancel_28 : decode cX1_cancel 28 = .ok (.new 64, 3) := by decide +kernel
theorem dX1_cancel_31 : decode cX1_cancel 31 = .ok (.dup, 1) := by decide +kernel
theorem dX1_cancel_32 : decode cX1_cancel 32 = .ok (.ldc 140, 2) := by decide +kernel
theorem dX1_cancel_34 : decode cX1_cancel 34 = .ok (.invokespecial 68, 3) := by decide +kernel
theorem dX1_cancel_37 : decode cX1_cancel 37 = .ok (.athrow, 1) := by decide +kernel
theorem dX1_cancel_38 : decode cX1_cancel 38 = .ok (.aload_n 2, 1) := by decide +kernel
theorem dX1_cancel_39 : decode cX1_cancel 39 = .ok (.iconst 0, 1) := by decide +kernel
theorem dX1_cancel_40 : decode cX1_cancel 40 = .ok (.putfield 93, 3) := by decide +kernel
theorem dX1_cancel_43 : decode cX1_cancel 43 = .ok (.aload_n 2, 1) := by decide +kernel
theorem dX1_cancel_44 : decode cX1_cancel 44 = .ok (.getfield 129, 3) := by decide +kernel
theorem dX1_cancel_47 : decode cX1_cancel 47 = .ok (.aload_n 0, 1) := by decide +kernel
theorem dX1_cancel_48 : decode cX1_cancel 48 = .ok (.getfield 36, 3) := by decide +kernel
theorem dX1_cancel_51 : decode cX1_cancel 51 = .ok (.isub, 1) := by decide +kernel
theorem dX1_cancel_52 : decode cX1_cancel 52 = .ok (.ireturn, 1) := by decide +kernel
set_option maxRecDepth 20000 in
theorem ggX1_build_X1_find : GoodIn wsX1_build wsX1_find := goodIn_r _ [10, 11, 12, 13, 9, 14, 68, 69, 70, 71, 72, 73, 74, 75] (by decide +kernel) (by decide +kernel)
set_option maxRecDepth 20000 in
theorem gX1_build_X1_find : GoodIn wsX1_build (wsV RX1 74 RX1 yX1_find wsX1_find) := goodIn_app (goodIn_of _ (by decide +kernel)) ggX1_build_X1_find
set_option maxRecDepth 20000 in
theorem ggX1_build_X1_clashesWithAny : GoodIn wsX1_build wsX1_clashesWithAny := goodIn_r _ [18, 19, 20, 21, 22, 9, 23, 24, 25, 6, 7, 8, 10, 11, 12, 13, 14, 26, 27, 28, 29, 30, 31, 32, 33, 34, 35, 36, 37, 38, 39, 40, 41, 42, 43, 44, 45, 46, 47, 48, 49, 50, 51, 52, 53, 54, 55, 56, 57, 68, 69, 70, 71, 72, 73, 74, 75, 58, 59, 60, 61, 62, 63, 64, 65, 66, 67] (by decide +kernel) (by decide +kernel)
set_option maxRecDepth 20000 in
theorem gX1_build_X1_clashesWithAny : GoodIn wsX1_build (wsV RX1 144 RX1 yX1_clashesWithAny wsX1_clashesWithAny) := goodIn_app (goodIn_of _ (by decide +kernel)) ggX1_build_X1_clashesWithAny
theorem dX1_build_0 : decode cX1_build 0 = .ok (.aload_n 0, 1) := by decide +kernel
theorem dX1_build_1 : decode cX1_build 1 = .ok (.iload_n 1, 1) := by decide +kernel
theorem dX1_build_2 : decode cX1_build 2 = .ok (.invokevirtual 74, 3) := by decide +kernel
theorem dX1_build_5 : decode cX1_build 5 = .ok (.astore_n 2, 1) := by decide +kernel
theorem dX1_build_6 : decode cX1_build 6 = .ok (.aload_n 2, 1) := by decide +kernel
theorem dX1_build_7 : decode cX1_build 7 = .ok (.ifnonnull 13, 3) := by decide +kernel
theorem dX1_build_10 : decode cX1_build 10 = .ok (.new 46, 3) := by decide +kernel
theorem dX1_build_13 : decode cX1_build 13 = .ok (.dup, 1) := by decide +kernel
theorem dX1_build_14 : decode cX1_build 14 = .ok (.ldc 120, 2) := by decide +kernel
theorem dX1_build_16 : decode cX1_build 16 = .ok (.invokespecial 50, 3) := by decide +kernel
theorem dX1_build_19 : decode cX1_build 19 = .ok (.athrow, 1) := by decide +kernel
theorem dX1_build_20 : decode cX1_build 20 = .ok (.aload_n 2, 1) := by decide +kernel
theorem dX1_build_21 : decode cX1_build 21 = .ok (.getfield 93, 3) := by decide +kernel
theorem dX1_build_24 : decode cX1_build 24 = .ok (.iconst 2, 1) := by decide +kernel
theorem dX1_build_25 : decode cX1_build 25 = .ok (.if_icmp .eq 13, 3) := by decide +kernel
theorem dX1_build_28 : decode cX1_build 28 = .ok (.new 64, 3) := by decide +kernel
theorem dX1_build_31 : decode cX1_build 31 = .ok (.dup, 1) := by decide +kernel
theorem dX1_build_32 : decode cX1_build 32 = .ok (.ldc 142, 2) := by decide +kernel
theorem dX1_build_34 : decode cX1_build 34 = .ok (.invokespecial 68, 3) := by decide +kernel
theorem dX1_build_37 : decode cX1_build 37 = .ok (.athrow, 1) := by decide +kernel
theorem dX1_build_38 : decode cX1_build 38 = .ok (.aload_n 0, 1) := by decide +kernel
theorem dX1_build_39 : decode cX1_build 39 = .ok (.iload_n 1, 1) := by decide +kernel
theorem dX1_build_40 : decode cX1_build 40 = .ok (.invokevirtual 144, 3) := by decide +kernel
theorem dX1_build_43 : decode cX1_build 43 = .ok (.ifCond .eq 5, 3) := by decide +kernel
theorem dX1_build_46 : decode cX1_build 46 = .ok (.iconst 0, 1) := by decide +kernel
theorem dX1_build_47 : decode cX1_build 47 = .ok (.ireturn, 1) := by decide +kernel
theorem dX1_build_48 : decode cX1_build 48 = .ok (.aload_n 2, 1) := by decide +kernel
theorem dX1_build_49 : decode cX1_build 49 = .ok (.iconst 3, 1) := by decide +kernel
theorem dX1_build_50 : decode cX1_build 50 = .ok (.putfield 93, 3) := by decide +kernel
theorem dX1_build_53 : decode cX1_build 53 = .ok (.iconst 1, 1) := by decide +kernel
theorem dX1_build_54 : decode cX1_build 54 = .ok (.ireturn, 1) := by decide +kernel
set_option maxRecDepth 20000 in
theorem ggX1_inspect_X1_isStorey : GoodIn wsX1_inspect wsX1_isStorey := goodIn_r _ [9, 10, 11, 8, 12] (by decide +kernel) (by decide +kernel)
set_option maxRecDepth 20000 in
theorem gX1_inspect_X1_isStorey : GoodIn wsX1_inspect (va_wsS RX1 43 yX1_isStorey wsX1_isStorey) := goodIn_app (goodIn_of _ (by decide +kernel)) ggX1_inspect_X1_isStorey
set_option maxRecDepth 20000 in
theorem ggX1_inspect_X1_isFinished : GoodIn wsX1_inspect wsX1_isFinished := goodIn_r _ [16, 17, 18, 19, 20, 21, 22, 8, 23, 24, 10, 11, 12, 25, 26, 27, 28, 29, 30, 31, 32, 33, 34, 35, 36, 37, 38, 39, 40, 41, 42, 43, 44, 45, 46, 47, 48, 49, 50, 51, 52, 53, 54, 55, 56, 57, 58, 59, 60, 61, 62, 63, 64, 65, 66, 67, 68, 69, 70, 71, 72, 73, 74, 75, 76, 77, 78, 79, 80, 81, 82, 83] (by decide +kernel) (by decide +kernel)
set_option maxRecDepth 20000 in
theorem gX1_inspect_X1_isFinished : GoodIn wsX1_inspect (wsV RX1 149 RX1 yX1_isFinished wsX1_isFinished) := goodIn_app (goodIn_of _ (by decide +kernel)) ggX1_inspect_X1_isFinished
theorem dX1_inspect_0 : decode cX1_inspect 0 = .ok (.iload_n 1, 1) := by decide +kernel
theorem dX1_inspect_1 : decode cX1_inspect 1 = .ok (.invokestatic 43, 3) := by decide +kernel
theorem dX1_inspect_4 : decode cX1_inspect 4 = .ok (.ifCond .ne 13, 3) := by decide +kernel
theorem dX1_inspect_7 : decode cX1_inspect 7 = .ok (.new 46, 3) := by decide +kernel
theorem dX1_inspect_10 : decode cX1_inspect 10 = .ok (.dup, 1) := by decide +kernel
theorem dX1_inspect_11 : decode cX1_inspect 11 = .ok (.ldc 147, 2) := by decide +kernel
theorem dX1_inspect_13 : decode cX1_inspect 13 = .ok (.invokespecial 50, 3) := by decide +kernel
theorem dX1_inspect_16 : decode cX1_inspect 16 = .ok (.athrow, 1) := by decide +kernel
theorem dX1_inspect_17 : decode cX1_inspect 17 = .ok (.aload_n 0, 1) := by decide +kernel
theorem dX1_inspect_18 : decode cX1_inspect 18 = .ok (.getfield 29, 3) := by decide +kernel
theorem dX1_inspect_21 : decode cX1_inspect 21 = .ok (.iload_n 1, 1) := by decide +kernel
theorem dX1_inspect_22 : decode cX1_inspect 22 = .ok (.baload, 1) := by decide +kernel
theorem dX1_inspect_23 : decode cX1_inspect 23 = .ok (.ifCond .eq 13, 3) := by decide +kernel
theorem dX1_inspect_26 : decode cX1_inspect 26 = .ok (.new 64, 3) := by decide +kernel
theorem dX1_inspect_29 : decode cX1_inspect 29 = .ok (.dup, 1) := by decide +kernel
theorem dX1_inspect_30 : decode cX1_inspect 30 = .ok (.ldc 66, 2) := by decide +kernel
theorem dX1_inspect_32 : decode cX1_inspect 32 = .ok (.invokespecial 68, 3) := by decide +kernel
theorem dX1_inspect_35 : decode cX1_inspect 35 = .ok (.athrow, 1) := by decide +kernel
theorem dX1_inspect_36 : decode cX1_inspect 36 = .ok (.aload_n 0, 1) := by decide +kernel
theorem dX1_inspect_37 : decode cX1_inspect 37 = .ok (.getfield 29, 3) := by decide +kernel
theorem dX1_inspect_40 : decode cX1_inspect 40 = .ok (.iload_n 1, 1) := by decide +kernel
theorem dX1_inspect_41 : decode cX1_inspect 41 = .ok (.aload_n 0, 1) := by decide +kernel
theorem dX1_inspect_42 : decode cX1_inspect 42 = .ok (.iload_n 1, 1) := by decide +kernel
theorem dX1_inspect_43 : decode cX1_inspect 43 = .ok (.invokevirtual 149, 3) := by decide +kernel
theorem dX1_inspect_46 : decode cX1_inspect 46 = .ok (.bastore, 1) := by decide +kernel
theorem dX1_inspect_47 : decode cX1_inspect 47 = .ok (.aload_n 0, 1) := by decide +kernel
theorem dX1_inspect_48 : decode cX1_inspect 48 = .ok (.getfield 29, 3) := by decide +kernel
theorem dX1_inspect_51 : decode cX1_inspect 51 = .ok (.iload_n 1, 1) := by decide +kernel
theorem dX1_inspect_52 : decode cX1_inspect 52 = .ok (.baload, 1) := by decide +kernel
theorem dX1_inspect_53 : decode cX1_inspect 53 = .ok (.ireturn, 1) := by decide +kernel
set_option maxRecDepth 20000 in
theorem ggX1_pass_X1_isWithin : GoodIn wsX1_pass wsX1_isWithin := goodIn_r _ [10] (by decide +kernel) (by decide +kernel)
set_option maxRecDepth 20000 in
theorem gX1_pass_X1_isWithin : GoodIn wsX1_pass (va_wsS RX1 112 yX1_isWithin wsX1_isWithin) := goodIn_app (goodIn_of _ (by decide +kernel)) ggX1_pass_X1_isWithin
set_option maxRecDepth 20000 in
theorem ggX1_pass_X1_find : GoodIn wsX1_pass wsX1_find := goodIn_r _ [14, 15, 7, 8, 9, 10, 23, 24, 25, 26, 27, 28, 29, 30] (by decide +kernel) (by decide +kernel)
set_option maxRecDepth 20000 in
theorem gX1_pass_X1_find : GoodIn wsX1_pass (wsV RX1 74 RX1 yX1_find wsX1_find) := goodIn_app (goodIn_of _ (by decide +kernel)) ggX1_pass_X1_find
set_option maxRecDepth 20000 in
theorem ggX1_pass_X0_deliverIfDue : GoodIn wsX1_pass wsX0_deliverIfDue := goodIn_r _ [20, 21, 22, 31, 32, 33, 34, 35, 36, 37, 38, 39, 40] (by decide +kernel) (by decide +kernel)
set_option maxRecDepth 20000 in
theorem gX1_pass_X0_deliverIfDue : GoodIn wsX1_pass (wsV RX1 132 RX0 yX0_deliverIfDue wsX0_deliverIfDue) := goodIn_app (goodIn_of _ (by decide +kernel)) ggX1_pass_X0_deliverIfDue
theorem dX1_pass_0 : decode cX1_pass 0 = .ok (.iload_n 1, 1) := by decide +kernel
theorem dX1_pass_1 : decode cX1_pass 1 = .ok (.iconst 1, 1) := by decide +kernel
theorem dX1_pass_2 : decode cX1_pass 2 = .ok (.bipush 100, 2) := by decide +kernel
theorem dX1_pass_4 : decode cX1_pass 4 = .ok (.invokestatic 112, 3) := by decide +kernel
theorem dX1_pass_7 : decode cX1_pass 7 = .ok (.ifCond .ne 13, 3) := by decide +kernel
theorem dX1_pass_10 : decode cX1_pass 10 = .ok (.new 57, 3) := by decide +kernel
theorem dX1_pass_13 : decode cX1_pass 13 = .ok (.dup, 1) := by decide +kernel
theorem dX1_pass_14 : decode cX1_pass 14 = .ok (.ldc 118, 2) := by decide +kernel
theorem dX1_pass_16 : decode cX1_pass 16 = .ok (.invokespecial 61, 3) := by decide +kernel
theorem dX1_pass_19 : decode cX1_pass 19 = .ok (.athrow, 1) := by decide +kernel
theorem dX1_pass_20 : decode cX1_pass 20 = .ok (.aload_n 0, 1) := by decide +kernel
theorem dX1_pass_21 : decode cX1_pass 21 = .ok (.getfield 36, 3) := by decide +kernel
theorem dX1_pass_24 : decode cX1_pass 24 = .ok (.iload_n 1, 1) := by decide +kernel
theorem dX1_pass_25 : decode cX1_pass 25 = .ok (.iadd, 1) := by decide +kernel
theorem dX1_pass_26 : decode cX1_pass 26 = .ok (.sipush 500, 3) := by decide +kernel
theorem dX1_pass_29 : decode cX1_pass 29 = .ok (.if_icmp .le 13, 3) := by decide +kernel
theorem dX1_pass_32 : decode cX1_pass 32 = .ok (.new 64, 3) := by decide +kernel
theorem dX1_pass_35 : decode cX1_pass 35 = .ok (.dup, 1) := by decide +kernel
theorem dX1_pass_36 : decode cX1_pass 36 = .ok (.ldc 152, 2) := by decide +kernel
theorem dX1_pass_38 : decode cX1_pass 38 = .ok (.invokespecial 68, 3) := by decide +kernel
theorem dX1_pass_41 : decode cX1_pass 41 = .ok (.athrow, 1) := by decide +kernel
theorem dX1_pass_42 : decode cX1_pass 42 = .ok (.aload_n 0, 1) := by decide +kernel
theorem dX1_pass_43 : decode cX1_pass 43 = .ok (.dup, 1) := by decide +kernel
theorem dX1_pass_44 : decode cX1_pass 44 = .ok (.getfield 36, 3) := by decide +kernel
theorem dX1_pass_47 : decode cX1_pass 47 = .ok (.iload_n 1, 1) := by decide +kernel
theorem dX1_pass_48 : decode cX1_pass 48 = .ok (.iadd, 1) := by decide +kernel
theorem dX1_pass_49 : decode cX1_pass 49 = .ok (.putfield 36, 3) := by decide +kernel
theorem dX1_pass_52 : decode cX1_pass 52 = .ok (.iconst 0, 1) := by decide +kernel
theorem dX1_pass_53 : decode cX1_pass 53 = .ok (.istore_n 2, 1) := by decide +kernel
theorem dX1_pass_54 : decode cX1_pass 54 = .ok (.iload_n 2, 1) := by decide +kernel
theorem dX1_pass_55 : decode cX1_pass 55 = .ok (.aload_n 0, 1) := by decide +kernel
theorem dX1_pass_56 : decode cX1_pass 56 = .ok (.getfield 15, 3) := by decide +kernel
theorem dX1_pass_59 : decode cX1_pass 59 = .ok (.if_icmp .ge 27, 3) := by decide +kernel
theorem dX1_pass_62 : decode cX1_pass 62 = .ok (.aload_n 0, 1) := by decide +kernel
theorem dX1_pass_63 : decode cX1_pass 63 = .ok (.iload_n 2, 1) := by decide +kernel
theorem dX1_pass_64 : decode cX1_pass 64 = .ok (.invokevirtual 74, 3) := by decide +kernel
theorem dX1_pass_67 : decode cX1_pass 67 = .ok (.astore_n 3, 1) := by decide +kernel
theorem dX1_pass_68 : decode cX1_pass 68 = .ok (.aload_n 3, 1) := by decide +kernel
theorem dX1_pass_69 : decode cX1_pass 69 = .ok (.ifnull 11, 3) := by decide +kernel
theorem dX1_pass_72 : decode cX1_pass 72 = .ok (.aload_n 3, 1) := by decide +kernel
theorem dX1_pass_73 : decode cX1_pass 73 = .ok (.aload_n 0, 1) := by decide +kernel
theorem dX1_pass_74 : decode cX1_pass 74 = .ok (.getfield 36, 3) := by decide +kernel
theorem dX1_pass_77 : decode cX1_pass 77 = .ok (.invokevirtual 132, 3) := by decide +kernel
theorem dX1_pass_80 : decode cX1_pass 80 = .ok (.iinc 2 1, 3) := by decide +kernel
theorem dX1_pass_83 : decode cX1_pass 83 = .ok (.goto (-29), 3) := by decide +kernel
theorem dX1_pass_86 : decode cX1_pass 86 = .ok (.aload_n 0, 1) := by decide +kernel
theorem dX1_pass_87 : decode cX1_pass 87 = .ok (.getfield 36, 3) := by decide +kernel
theorem dX1_pass_90 : decode cX1_pass 90 = .ok (.ireturn, 1) := by decide +kernel
theorem dX1_day_0 : decode cX1_day 0 = .ok (.aload_n 0, 1) := by decide +kernel
theorem dX1_day_1 : decode cX1_day 1 = .ok (.getfield 36, 3) := by decide +kernel
theorem dX1_day_4 : decode cX1_day 4 = .ok (.ireturn, 1) := by decide +kernel
theorem dX1_revision_0 : decode cX1_revision 0 = .ok (.aload_n 0, 1) := by decide +kernel
theorem dX1_revision_1 : decode cX1_revision 1 = .ok (.getfield 33, 3) := by decide +kernel
theorem dX1_revision_4 : decode cX1_revision 4 = .ok (.ireturn, 1) := by decide +kernel
set_option maxRecDepth 20000 in
theorem ggX1_elementOf_X1_find : GoodIn wsX1_elementOf wsX1_find := goodIn_r _ [18, 19, 20, 21, 17, 22, 46, 47, 48, 49, 50, 51, 52, 53] (by decide +kernel) (by decide +kernel)
set_option maxRecDepth 20000 in
theorem gX1_elementOf_X1_find : GoodIn wsX1_elementOf (wsV RX1 74 RX1 yX1_find wsX1_find) := goodIn_app (goodIn_of _ (by decide +kernel)) ggX1_elementOf_X1_find
set_option maxRecDepth 20000 in
theorem ggX1_elementOf_X0_cells : GoodIn wsX1_elementOf wsX0_cells := goodIn_r _ [27, 28, 29, 30, 31, 32, 33, 34, 35, 36, 37, 38, 39, 40, 41, 42, 43, 44, 45] (by decide +kernel) (by decide +kernel)
set_option maxRecDepth 20000 in
theorem gX1_elementOf_X0_cells : GoodIn wsX1_elementOf (wsV RX1 175 RX0 yX0_cells wsX0_cells) := goodIn_app (goodIn_of _ (by decide +kernel)) ggX1_elementOf_X0_cells
theorem dX1_elementOf_0 : decode cX1_elementOf 0 = .ok (.aload_n 0, 1) := by decide +kernel
theorem dX1_elementOf_1 : decode cX1_elementOf 1 = .ok (.iload_n 1, 1) := by decide +kernel
theorem dX1_elementOf_2 : decode cX1_elementOf 2 = .ok (.invokevirtual 74, 3) := by decide +kernel
theorem dX1_elementOf_5 : decode cX1_elementOf 5 = .ok (.astore_n 3, 1) := by decide +kernel
theorem dX1_elementOf_6 : decode cX1_elementOf 6 = .ok (.aload_n 3, 1) := by decide +kernel
theorem dX1_elementOf_7 : decode cX1_elementOf 7 = .ok (.ifnonnull 13, 3) := by decide +kernel
theorem dX1_elementOf_10 : decode cX1_elementOf 10 = .ok (.new 46, 3) := by decide +kernel
theorem dX1_elementOf_13 : decode cX1_elementOf 13 = .ok (.dup, 1) := by decide +kernel
theorem dX1_elementOf_14 : decode cX1_elementOf 14 = .ok (.ldc 120, 2) := by decide +kernel
theorem dX1_elementOf_16 : decode cX1_elementOf 16 = .ok (.invokespecial 50, 3) := by decide +kernel
theorem dX1_elementOf_19 : decode cX1_elementOf 19 = .ok (.athrow, 1) := by decide +kernel
theorem dX1_elementOf_20 : decode cX1_elementOf 20 = .ok (.iload_n 2, 1) := by decide +kernel
theorem dX1_elementOf_21 : decode cX1_elementOf 21 = .ok (.tableswitch 105 0 9 #[55, 60, 65, 70, 75, 80, 85, 90, 95, 100], 55) := by decide +kernel
theorem dX1_elementOf_76 : decode cX1_elementOf 76 = .ok (.aload_n 3, 1) := by decide +kernel
theorem dX1_elementOf_77 : decode cX1_elementOf 77 = .ok (.getfield 122, 3) := by decide +kernel
theorem dX1_elementOf_80 : decode cX1_elementOf 80 = .ok (.ireturn, 1) := by decide +kernel
theorem dX1_elementOf_81 : decode cX1_elementOf 81 = .ok (.aload_n 3, 1) := by decide +kernel
theorem dX1_elementOf_82 : decode cX1_elementOf 82 = .ok (.getfield 154, 3) := by decide +kernel
theorem dX1_elementOf_85 : decode cX1_elementOf 85 = .ok (.ireturn, 1) := by decide +kernel
theorem dX1_elementOf_86 : decode cX1_elementOf 86 = .ok (.aload_n 3, 1) := by decide +kernel
theorem dX1_elementOf_87 : decode cX1_elementOf 87 = .ok (.getfield 157, 3) := by decide +kernel
theorem dX1_elementOf_90 : decode cX1_elementOf 90 = .ok (.ireturn, 1) := by decide +kernel
theorem dX1_elementOf_91 : decode cX1_elementOf 91 = .ok (.aload_n 3, 1) := by decide +kernel
theorem dX1_elementOf_92 : decode cX1_elementOf 92 = .ok (.getfield 160, 3) := by decide +kernel
theorem dX1_elementOf_95 : decode cX1_elementOf 95 = .ok (.ireturn, 1) := by decide +kernel
theorem dX1_elementOf_96 : decode cX1_elementOf 96 = .ok (.aload_n 3, 1) := by decide +kernel
theorem dX1_elementOf_97 : decode cX1_elementOf 97 = .ok (.getfield 163, 3) := by decide +kernel
theorem dX1_elementOf_100 : decode cX1_elementOf 100 = .ok (.ireturn, 1) := by decide +kernel
theorem dX1_elementOf_101 : decode cX1_elementOf 101 = .ok (.aload_n 3, 1) := by decide +kernel
theorem dX1_elementOf_102 : decode cX1_elementOf 102 = .ok (.getfield 166, 3) := by decide +kernel
theorem dX1_elementOf_105 : decode cX1_elementOf 105 = .ok (.ireturn, 1) := by decide +kernel
theorem dX1_elementOf_106 : decode cX1_elementOf 106 = .ok (.aload_n 3, 1) := by decide +kernel
theorem dX1_elementOf_107 : decode cX1_elementOf 107 = .ok (.getfield 93, 3) := by decide +kernel
theorem dX1_elementOf_110 : decode cX1_elementOf 110 = .ok (.ireturn, 1) := by decide +kernel
theorem dX1_elementOf_111 : decode cX1_elementOf 111 = .ok (.aload_n 3, 1) := by decide +kernel
theorem dX1_elementOf_112 : decode cX1_elementOf 112 = .ok (.getfield 169, 3) := by decide +kernel
theorem dX1_elementOf_115 : decode cX1_elementOf 115 = .ok (.ireturn, 1) := by decide +kernel
theorem dX1_elementOf_116 : decode cX1_elementOf 116 = .ok (.aload_n 3, 1) := by decide +kernel
theorem dX1_elementOf_117 : decode cX1_elementOf 117 = .ok (.getfield 172, 3) := by decide +kernel
theorem dX1_elementOf_120 : decode cX1_elementOf 120 = .ok (.ireturn, 1) := by decide +kernel
theorem dX1_elementOf_121 : decode cX1_elementOf 121 = .ok (.aload_n 3, 1) := by decide +kernel
theorem dX1_elementOf_122 : decode cX1_elementOf 122 = .ok (.invokevirtual 175, 3) := by decide +kernel
theorem dX1_elementOf_125 : decode cX1_elementOf 125 = .ok (.ireturn, 1) := by decide +kernel
theorem dX1_elementOf_126 : decode cX1_elementOf 126 = .ok (.new 57, 3) := by decide +kernel
theorem dX1_elementOf_129 : decode cX1_elementOf 129 = .ok (.dup, 1) := by decide +kernel
theorem dX1_elementOf_130 : decode cX1_elementOf 130 = .ok (.ldc 179, 2) := by decide +kernel
theorem dX1_elementOf_132 : decode cX1_elementOf 132 = .ok (.invokespecial 61, 3) := by decide +kernel
theorem dX1_elementOf_135 : decode cX1_elementOf 135 = .ok (.athrow, 1) := by decide +kernel
set_option maxRecDepth 20000 in
theorem ggX1_clash_X1_find : GoodIn wsX1_clash wsX1_find := goodIn_r _ [7, 8, 9, 10, 6, 11, 50, 51, 52, 53, 54, 55, 56, 57] (by decide +kernel) (by decide +kernel)
set_option maxRecDepth 20000 in
theorem gX1_clash_X1_find : GoodIn wsX1_clash (wsV RX1 74 RX1 yX1_find wsX1_find) := goodIn_app (goodIn_of _ (by decide +kernel)) ggX1_clash_X1_find
set_option maxRecDepth 20000 in
theorem ggX1_clash_X1_isClashingPair : GoodIn wsX1_clash wsX1_isClashingPair := goodIn_r _ [15, 16, 17, 3, 4, 5, 6, 7, 8, 9, 10, 11, 18, 19, 20, 21, 22, 23, 24, 25, 26, 27, 28, 29, 30, 31, 32, 33, 34, 35, 36, 37, 38, 39, 40, 41, 42, 43, 44, 45, 46, 47, 48, 49, 58, 59, 60, 61, 62, 63, 64, 65, 66, 67, 50, 51, 52, 53, 54, 55, 56, 57] (by decide +kernel) (by decide +kernel)
set_option maxRecDepth 20000 in
theorem gX1_clash_X1_isClashingPair : GoodIn wsX1_clash (wsV RX1 181 RX1 yX1_isClashingPair wsX1_isClashingPair) := goodIn_app (goodIn_of _ (by decide +kernel)) ggX1_clash_X1_isClashingPair
theorem dX1_clash_0 : decode cX1_clash 0 = .ok (.aload_n 0, 1) := by decide +kernel
theorem dX1_clash_1 : decode cX1_clash 1 = .ok (.iload_n 1, 1) := by decide +kernel
theorem dX1_clash_2 : decode cX1_clash 2 = .ok (.invokevirtual 74, 3) := by decide +kernel
theorem dX1_clash_5 : decode cX1_clash 5 = .ok (.ifnull 11, 3) := by decide +kernel
theorem dX1_clash_8 : decode cX1_clash 8 = .ok (.aload_n 0, 1) := by decide +kernel
theorem dX1_clash_9 : decode cX1_clash 9 = .ok (.iload_n 2, 1) := by decide +kernel
theorem dX1_clash_10 : decode cX1_clash 10 = .ok (.invokevirtual 74, 3) := by decide +kernel
theorem dX1_clash_13 : decode cX1_clash 13 = .ok (.ifnonnull 13, 3) := by decide +kernel
theorem dX1_clash_16 : decode cX1_clash 16 = .ok (.new 46, 3) := by decide +kernel
theorem dX1_clash_19 : decode cX1_clash 19 = .ok (.dup, 1) := by decide +kernel
theorem dX1_clash_20 : decode cX1_clash 20 = .ok (.ldc 120, 2) := by decide +kernel
theorem dX1_clash_22 : decode cX1_clash 22 = .ok (.invokespecial 50, 3) := by decide +kernel
theorem dX1_clash_25 : decode cX1_clash 25 = .ok (.athrow, 1) := by decide +kernel
theorem dX1_clash_26 : decode cX1_clash 26 = .ok (.aload_n 0, 1) := by decide +kernel
theorem dX1_clash_27 : decode cX1_clash 27 = .ok (.iload_n 1, 1) := by decide +kernel
theorem dX1_clash_28 : decode cX1_clash 28 = .ok (.iload_n 2, 1) := by decide +kernel
theorem dX1_clash_29 : decode cX1_clash 29 = .ok (.invokevirtual 181, 3) := by decide +kernel
theorem dX1_clash_32 : decode cX1_clash 32 = .ok (.ireturn, 1) := by decide +kernel
set_option maxRecDepth 20000 in
theorem ggX1_clashes_X1_isStorey : GoodIn wsX1_clashes wsX1_isStorey := goodIn_r _ [7, 8, 9, 6, 10] (by decide +kernel) (by decide +kernel)
set_option maxRecDepth 20000 in
theorem gX1_clashes_X1_isStorey : GoodIn wsX1_clashes (va_wsS RX1 43 yX1_isStorey wsX1_isStorey) := goodIn_app (goodIn_of _ (by decide +kernel)) ggX1_clashes_X1_isStorey
set_option maxRecDepth 20000 in
theorem ggX1_clashes_X1_isOnStorey : GoodIn wsX1_clashes wsX1_isOnStorey := goodIn_r _ [14, 15, 16, 17, 18, 6, 19, 20, 8, 9, 10, 70, 71, 72, 73, 74, 75, 76, 77, 78, 79, 62, 63, 64, 65, 66, 67, 68, 69] (by decide +kernel) (by decide +kernel)
set_option maxRecDepth 20000 in
theorem gX1_clashes_X1_isOnStorey : GoodIn wsX1_clashes (wsV RX1 184 RX1 yX1_isOnStorey wsX1_isOnStorey) := goodIn_app (goodIn_of _ (by decide +kernel)) ggX1_clashes_X1_isOnStorey
set_option maxRecDepth 20000 in
theorem ggX1_clashes_X1_clashesWithEarlier : GoodIn wsX1_clashes wsX1_clashesWithEarlier := goodIn_r _ [24, 25, 26, 27, 6, 28, 15, 29, 16, 17, 18, 19, 20, 8, 9, 10, 30, 31, 32, 33, 34, 35, 36, 37, 38, 39, 40, 41, 42, 43, 44, 45, 46, 47, 48, 49, 50, 51, 52, 53, 54, 55, 56, 57, 58, 59, 60, 61, 70, 71, 72, 73, 74, 75, 76, 77, 78, 79, 62, 63, 64, 65, 66, 67, 68, 69] (by decide +kernel) (by decide +kernel)
set_option maxRecDepth 20000 in
theorem gX1_clashes_X1_clashesWithEarlier : GoodIn wsX1_clashes (wsV RX1 187 RX1 yX1_clashesWithEarlier wsX1_clashesWithEarlier) := goodIn_app (goodIn_of _ (by decide +kernel)) ggX1_clashes_X1_clashesWithEarlier
theorem dX1_clashes_0 : decode cX1_clashes 0 = .ok (.iload_n 1, 1) := by decide +kernel
theorem dX1_clashes_1 : decode cX1_clashes 1 = .ok (.invokestatic 43, 3) := by decide +kernel
theorem dX1_clashes_4 : decode cX1_clashes 4 = .ok (.ifCond .ne 13, 3) := by decide +kernel
theorem dX1_clashes_7 : decode cX1_clashes 7 = .ok (.new 46, 3) := by decide +kernel
theorem dX1_clashes_10 : decode cX1_clashes 10 = .ok (.dup, 1) := by decide +kernel
theorem dX1_clashes_11 : decode cX1_clashes 11 = .ok (.ldc 147, 2) := by decide +kernel
theorem dX1_clashes_13 : decode cX1_clashes 13 = .ok (.invokespecial 50, 3) := by decide +kernel
theorem dX1_clashes_16 : decode cX1_clashes 16 = .ok (.athrow, 1) := by decide +kernel
theorem dX1_clashes_17 : decode cX1_clashes 17 = .ok (.iconst 0, 1) := by decide +kernel
theorem dX1_clashes_18 : decode cX1_clashes 18 = .ok (.istore_n 2, 1) := by decide +kernel
theorem dX1_clashes_19 : decode cX1_clashes 19 = .ok (.iconst 0, 1) := by decide +kernel
theorem dX1_clashes_20 : decode cX1_clashes 20 = .ok (.istore_n 3, 1) := by decide +kernel
theorem dX1_clashes_21 : decode cX1_clashes 21 = .ok (.iload_n 3, 1) := by decide +kernel
theorem dX1_clashes_22 : decode cX1_clashes 22 = .ok (.aload_n 0, 1) := by decide +kernel
theorem dX1_clashes_23 : decode cX1_clashes 23 = .ok (.getfield 15, 3) := by decide +kernel
theorem dX1_clashes_26 : decode cX1_clashes 26 = .ok (.if_icmp .ge 26, 3) := by decide +kernel
theorem dX1_clashes_29 : decode cX1_clashes 29 = .ok (.aload_n 0, 1) := by decide +kernel
theorem dX1_clashes_30 : decode cX1_clashes 30 = .ok (.iload_n 3, 1) := by decide +kernel
theorem dX1_clashes_31 : decode cX1_clashes 31 = .ok (.iload_n 1, 1) := by decide +kernel
theorem dX1_clashes_32 : decode cX1_clashes 32 = .ok (.invokevirtual 184, 3) := by decide +kernel
theorem dX1_clashes_35 : decode cX1_clashes 35 = .ok (.ifCond .eq 11, 3) := by decide +kernel
theorem dX1_clashes_38 : decode cX1_clashes 38 = .ok (.iload_n 2, 1) := by decide +kernel
theorem dX1_clashes_39 : decode cX1_clashes 39 = .ok (.aload_n 0, 1) := by decide +kernel
theorem dX1_clashes_40 : decode cX1_clashes 40 = .ok (.iload_n 3, 1) := by decide +kernel
theorem dX1_clashes_41 : decode cX1_clashes 41 = .ok (.invokevirtual 187, 3) := by decide +kernel
theorem dX1_clashes_44 : decode cX1_clashes 44 = .ok (.iadd, 1) := by decide +kernel
theorem dX1_clashes_45 : decode cX1_clashes 45 = .ok (.istore_n 2, 1) := by decide +kernel
theorem dX1_clashes_46 : decode cX1_clashes 46 = .ok (.iinc 3 1, 3) := by decide +kernel
theorem dX1_clashes_49 : decode cX1_clashes 49 = .ok (.goto (-28), 3) := by decide +kernel
theorem dX1_clashes_52 : decode cX1_clashes 52 = .ok (.iload_n 2, 1) := by decide +kernel
theorem dX1_clashes_53 : decode cX1_clashes 53 = .ok (.ireturn, 1) := by decide +kernel
set_option maxRecDepth 20000 in
theorem ggX1_isStopped_X1_isKind : GoodIn wsX1_isStopped wsX1_isKind := goodIn_r _ [9, 10, 11, 8, 12] (by decide +kernel) (by decide +kernel)
set_option maxRecDepth 20000 in
theorem gX1_isStopped_X1_isKind : GoodIn wsX1_isStopped (va_wsS RX1 39 yX1_isKind wsX1_isKind) := goodIn_app (goodIn_of _ (by decide +kernel)) ggX1_isStopped_X1_isKind
set_option maxRecDepth 20000 in
theorem ggX1_isStopped_X1_isStorey : GoodIn wsX1_isStopped wsX1_isStorey := goodIn_r _ [15, 10, 11, 8, 12] (by decide +kernel) (by decide +kernel)
set_option maxRecDepth 20000 in
theorem gX1_isStopped_X1_isStorey : GoodIn wsX1_isStopped (va_wsS RX1 43 yX1_isStorey wsX1_isStorey) := goodIn_app (goodIn_of _ (by decide +kernel)) ggX1_isStopped_X1_isStorey
set_option maxRecDepth 20000 in
theorem ggX1_isStopped_X1_find : GoodIn wsX1_isStopped wsX1_find := goodIn_r _ [19, 20, 10, 11, 8, 12, 58, 59, 60, 61, 62, 63, 64, 65] (by decide +kernel) (by decide +kernel)
set_option maxRecDepth 20000 in
theorem gX1_isStopped_X1_find : GoodIn wsX1_isStopped (wsV RX1 74 RX1 yX1_find wsX1_find) := goodIn_app (goodIn_of _ (by decide +kernel)) ggX1_isStopped_X1_find
set_option maxRecDepth 20000 in
theorem ggX1_isStopped_X1_clashesWithAny : GoodIn wsX1_isStopped wsX1_clashesWithAny := goodIn_r _ [24, 3, 25, 26, 27, 8, 28, 5, 4, 16, 17, 18, 19, 20, 10, 11, 12, 29, 30, 31, 32, 33, 34, 35, 36, 37, 38, 39, 40, 41, 42, 43, 44, 45, 46, 47, 48, 49, 50, 51, 52, 53, 54, 55, 56, 57, 6, 7, 9, 58, 59, 60, 61, 62, 63, 64, 65, 66, 67, 68, 69, 70, 71, 72, 73, 74, 75] (by decide +kernel) (by decide +kernel)
set_option maxRecDepth 20000 in
theorem gX1_isStopped_X1_clashesWithAny : GoodIn wsX1_isStopped (wsV RX1 144 RX1 yX1_clashesWithAny wsX1_clashesWithAny) := goodIn_app (goodIn_of _ (by decide +kernel)) ggX1_isStopped_X1_clashesWithAny
theorem dX1_isStopped_0 : decode cX1_isStopped 0 = .ok (.iload_n 1, 1) := by decide +kernel
theorem dX1_isStopped_1 : decode cX1_isStopped 1 = .ok (.invokestatic 39, 3) := by decide +kernel
theorem dX1_isStopped_4 : decode cX1_isStopped 4 = .ok (.ifCond .eq 10, 3) := by decide +kernel
theorem dX1_isStopped_7 : decode cX1_isStopped 7 = .ok (.iload_n 2, 1) := by decide +kernel
theorem dX1_isStopped_8 : decode cX1_isStopped 8 = .ok (.invokestatic 43, 3) := by decide +kernel
theorem dX1_isStopped_11 : decode cX1_isStopped 11 = .ok (.ifCond .ne 13, 3) := by decide +kernel
theorem dX1_isStopped_14 : decode cX1_isStopped 14 = .ok (.new 46, 3) := by decide +kernel
theorem dX1_isStopped_17 : decode cX1_isStopped 17 = .ok (.dup, 1) := by decide +kernel
theorem dX1_isStopped_18 : decode cX1_isStopped 18 = .ok (.ldc 48, 2) := by decide +kernel
theorem dX1_isStopped_20 : decode cX1_isStopped 20 = .ok (.invokespecial 50, 3) := by decide +kernel
theorem dX1_isStopped_23 : decode cX1_isStopped 23 = .ok (.athrow, 1) := by decide +kernel
theorem dX1_isStopped_24 : decode cX1_isStopped 24 = .ok (.iconst 0, 1) := by decide +kernel
theorem dX1_isStopped_25 : decode cX1_isStopped 25 = .ok (.istore_n 3, 1) := by decide +kernel
theorem dX1_isStopped_26 : decode cX1_isStopped 26 = .ok (.iload_n 3, 1) := by decide +kernel
theorem dX1_isStopped_27 : decode cX1_isStopped 27 = .ok (.aload_n 0, 1) := by decide +kernel
theorem dX1_isStopped_28 : decode cX1_isStopped 28 = .ok (.getfield 15, 3) := by decide +kernel
theorem dX1_isStopped_31 : decode cX1_isStopped 31 = .ok (.if_icmp .ge 49, 3) := by decide +kernel
theorem dX1_isStopped_34 : decode cX1_isStopped 34 = .ok (.aload_n 0, 1) := by decide +kernel
theorem dX1_isStopped_35 : decode cX1_isStopped 35 = .ok (.iload_n 3, 1) := by decide +kernel
theorem dX1_isStopped_36 : decode cX1_isStopped 36 = .ok (.invokevirtual 74, 3) := by decide +kernel
theorem dX1_isStopped_39 : decode cX1_isStopped 39 = .ok (.astore 4, 2) := by decide +kernel
theorem dX1_isStopped_41 : decode cX1_isStopped 41 = .ok (.aload 4, 2) := by decide +kernel
theorem dX1_isStopped_43 : decode cX1_isStopped 43 = .ok (.ifnull 31, 3) := by decide +kernel
theorem dX1_isStopped_46 : decode cX1_isStopped 46 = .ok (.aload 4, 2) := by decide +kernel
theorem dX1_isStopped_48 : decode cX1_isStopped 48 = .ok (.getfield 122, 3) := by decide +kernel
theorem dX1_isStopped_51 : decode cX1_isStopped 51 = .ok (.iload_n 1, 1) := by decide +kernel
theorem dX1_isStopped_52 : decode cX1_isStopped 52 = .ok (.if_icmp .ne 22, 3) := by decide +kernel
theorem dX1_isStopped_55 : decode cX1_isStopped 55 = .ok (.aload 4, 2) := by decide +kernel
theorem dX1_isStopped_57 : decode cX1_isStopped 57 = .ok (.getfield 154, 3) := by decide +kernel
theorem dX1_isStopped_60 : decode cX1_isStopped 60 = .ok (.iload_n 2, 1) := by decide +kernel
theorem dX1_isStopped_61 : decode cX1_isStopped 61 = .ok (.if_icmp .ne 13, 3) := by decide +kernel
theorem dX1_isStopped_64 : decode cX1_isStopped 64 = .ok (.aload_n 0, 1) := by decide +kernel
theorem dX1_isStopped_65 : decode cX1_isStopped 65 = .ok (.iload_n 3, 1) := by decide +kernel
theorem dX1_isStopped_66 : decode cX1_isStopped 66 = .ok (.invokevirtual 144, 3) := by decide +kernel
theorem dX1_isStopped_69 : decode cX1_isStopped 69 = .ok (.ifCond .eq 5, 3) := by decide +kernel
theorem dX1_isStopped_72 : decode cX1_isStopped 72 = .ok (.iconst 1, 1) := by decide +kernel
theorem dX1_isStopped_73 : decode cX1_isStopped 73 = .ok (.ireturn, 1) := by decide +kernel
theorem dX1_isStopped_74 : decode cX1_isStopped 74 = .ok (.iinc 3 1, 3) := by decide +kernel
theorem dX1_isStopped_77 : decode cX1_isStopped 77 = .ok (.goto (-51), 3) := by decide +kernel
theorem dX1_isStopped_80 : decode cX1_isStopped 80 = .ok (.iconst 0, 1) := by decide +kernel
theorem dX1_isStopped_81 : decode cX1_isStopped 81 = .ok (.ireturn, 1) := by decide +kernel
set_option maxRecDepth 20000 in
theorem ggX1_parts_X1_isKind : GoodIn wsX1_parts wsX1_isKind := goodIn_r _ [6, 7, 8, 5, 9] (by decide +kernel) (by decide +kernel)
set_option maxRecDepth 20000 in
theorem gX1_parts_X1_isKind : GoodIn wsX1_parts (va_wsS RX1 39 yX1_isKind wsX1_isKind) := goodIn_app (goodIn_of _ (by decide +kernel)) ggX1_parts_X1_isKind
set_option maxRecDepth 20000 in
theorem ggX1_parts_X1_partsInStates : GoodIn wsX1_parts wsX1_partsInStates := goodIn_r _ [13, 14, 15, 16, 17, 18, 19, 5, 20, 21, 7, 8, 9, 22, 23, 24, 25, 26, 3, 4, 6, 27, 28, 29, 30, 31, 32, 33, 34, 35, 36, 37, 38, 39, 40, 41, 42, 43, 44, 45, 46, 47, 48, 49, 50, 51, 52, 53, 54, 55, 56, 57] (by decide +kernel) (by decide +kernel)
set_option maxRecDepth 20000 in
theorem gX1_parts_X1_partsInStates : GoodIn wsX1_parts (wsV RX1 190 RX1 yX1_partsInStates wsX1_partsInStates) := goodIn_app (goodIn_of _ (by decide +kernel)) ggX1_parts_X1_partsInStates
theorem dX1_parts_0 : decode cX1_parts 0 = .ok (.iload_n 1, 1) := by decide +kernel
theorem dX1_parts_1 : decode cX1_parts 1 = .ok (.invokestatic 39, 3) := by decide +kernel
theorem dX1_parts_4 : decode cX1_parts 4 = .ok (.ifCond .ne 13, 3) := by decide +kernel
theorem dX1_parts_7 : decode cX1_parts 7 = .ok (.new 46, 3) := by decide +kernel
theorem dX1_parts_10 : decode cX1_parts 10 = .ok (.dup, 1) := by decide +kernel
theorem dX1_parts_11 : decode cX1_parts 11 = .ok (.ldc 110, 2) := by decide +kernel
theorem dX1_parts_13 : decode cX1_parts 13 = .ok (.invokespecial 50, 3) := by decide +kernel
theorem dX1_parts_16 : decode cX1_parts 16 = .ok (.athrow, 1) := by decide +kernel
theorem dX1_parts_17 : decode cX1_parts 17 = .ok (.aload_n 0, 1) := by decide +kernel
theorem dX1_parts_18 : decode cX1_parts 18 = .ok (.iload_n 1, 1) := by decide +kernel
theorem dX1_parts_19 : decode cX1_parts 19 = .ok (.iconst 0, 1) := by decide +kernel
theorem dX1_parts_20 : decode cX1_parts 20 = .ok (.iconst 3, 1) := by decide +kernel
theorem dX1_parts_21 : decode cX1_parts 21 = .ok (.invokevirtual 190, 3) := by decide +kernel
theorem dX1_parts_24 : decode cX1_parts 24 = .ok (.ireturn, 1) := by decide +kernel
set_option maxRecDepth 20000 in
theorem ggX1_partsAnew_X1_isKind : GoodIn wsX1_partsAnew wsX1_isKind := goodIn_r _ [9, 10, 11, 8, 12] (by decide +kernel) (by decide +kernel)
set_option maxRecDepth 20000 in
theorem gX1_partsAnew_X1_isKind : GoodIn wsX1_partsAnew (va_wsS RX1 39 yX1_isKind wsX1_isKind) := goodIn_app (goodIn_of _ (by decide +kernel)) ggX1_partsAnew_X1_isKind
set_option maxRecDepth 20000 in
theorem ggX1_partsAnew_X1_find : GoodIn wsX1_partsAnew wsX1_find := goodIn_r _ [16, 17, 10, 11, 8, 12, 43, 44, 45, 46, 47, 48, 49, 50] (by decide +kernel) (by decide +kernel)
set_option maxRecDepth 20000 in
theorem gX1_partsAnew_X1_find : GoodIn wsX1_partsAnew (wsV RX1 74 RX1 yX1_find wsX1_find) := goodIn_app (goodIn_of _ (by decide +kernel)) ggX1_partsAnew_X1_find
set_option maxRecDepth 20000 in
theorem ggX1_partsAnew_X0_isThere : GoodIn wsX1_partsAnew wsX0_isThere := goodIn_r _ [22, 23, 51, 52, 53, 54, 55, 56, 57, 58, 59, 60] (by decide +kernel) (by decide +kernel)
set_option maxRecDepth 20000 in
theorem gX1_partsAnew_X0_isThere : GoodIn wsX1_partsAnew (wsV RX1 194 RX0 yX0_isThere wsX0_isThere) := goodIn_app (goodIn_of _ (by decide +kernel)) ggX1_partsAnew_X0_isThere
set_option maxRecDepth 20000 in
theorem ggX1_partsAnew_X0_partsCellByCell : GoodIn wsX1_partsAnew wsX0_partsCellByCell := goodIn_r _ [27, 28, 29, 30, 21, 31, 32, 33, 34, 35, 36, 37, 38, 39, 40, 41, 42, 11, 8, 12, 51, 52, 53, 54, 55, 56, 57, 58, 59, 60] (by decide +kernel) (by decide +kernel)
set_option maxRecDepth 20000 in
theorem gX1_partsAnew_X0_partsCellByCell : GoodIn wsX1_partsAnew (wsV RX1 198 RX0 yX0_partsCellByCell wsX0_partsCellByCell) := goodIn_app (goodIn_of _ (by decide +kernel)) ggX1_partsAnew_X0_partsCellByCell
theorem dX1_partsAnew_0 : decode cX1_partsAnew 0 = .ok (.iload_n 1, 1) := by decide +kernel
theorem dX1_partsAnew_1 : decode cX1_partsAnew 1 = .ok (.invokestatic 39, 3) := by decide +kernel
theorem dX1_partsAnew_4 : decode cX1_partsAnew 4 = .ok (.ifCond .ne 13, 3) := by decide +kernel
theorem dX1_partsAnew_7 : decode cX1_partsAnew 7 = .ok (.new 46, 3) := by decide +kernel
theorem dX1_partsAnew_10 : decode cX1_partsAnew 10 = .ok (.dup, 1) := by decide +kernel
theorem dX1_partsAnew_11 : decode cX1_partsAnew 11 = .ok (.ldc 110, 2) := by decide +kernel
theorem dX1_partsAnew_13 : decode cX1_partsAnew 13 = .ok (.invokespecial 50, 3) := by decide +kernel
theorem dX1_partsAnew_16 : decode cX1_partsAnew 16 = .ok (.athrow, 1) := by decide +kernel
theorem dX1_partsAnew_17 : decode cX1_partsAnew 17 = .ok (.iconst 0, 1) := by decide +kernel
theorem dX1_partsAnew_18 : decode cX1_partsAnew 18 = .ok (.istore_n 2, 1) := by decide +kernel
theorem dX1_partsAnew_19 : decode cX1_partsAnew 19 = .ok (.iconst 0, 1) := by decide +kernel
theorem dX1_partsAnew_20 : decode cX1_partsAnew 20 = .ok (.istore_n 3, 1) := by decide +kernel
theorem dX1_partsAnew_21 : decode cX1_partsAnew 21 = .ok (.iload_n 3, 1) := by decide +kernel
theorem dX1_partsAnew_22 : decode cX1_partsAnew 22 = .ok (.aload_n 0, 1) := by decide +kernel
theorem dX1_partsAnew_23 : decode cX1_partsAnew 23 = .ok (.getfield 15, 3) := by decide +kernel
theorem dX1_partsAnew_26 : decode cX1_partsAnew 26 = .ok (.if_icmp .ge 52, 3) := by decide +kernel
theorem dX1_partsAnew_29 : decode cX1_partsAnew 29 = .ok (.aload_n 0, 1) := by decide +kernel
theorem dX1_partsAnew_30 : decode cX1_partsAnew 30 = .ok (.iload_n 3, 1) := by decide +kernel
theorem dX1_partsAnew_31 : decode cX1_partsAnew 31 = .ok (.invokevirtual 74, 3) := by decide +kernel
theorem dX1_partsAnew_34 : decode cX1_partsAnew 34 = .ok (.astore 4, 2) := by decide +kernel
theorem dX1_partsAnew_36 : decode cX1_partsAnew 36 = .ok (.aload 4, 2) := by decide +kernel
theorem dX1_partsAnew_38 : decode cX1_partsAnew 38 = .ok (.ifnull 34, 3) := by decide +kernel
theorem dX1_partsAnew_41 : decode cX1_partsAnew 41 = .ok (.aload 4, 2) := by decide +kernel
theorem dX1_partsAnew_43 : decode cX1_partsAnew 43 = .ok (.getfield 122, 3) := by decide +kernel
theorem dX1_partsAnew_46 : decode cX1_partsAnew 46 = .ok (.iload_n 1, 1) := by decide +kernel
theorem dX1_partsAnew_47 : decode cX1_partsAnew 47 = .ok (.if_icmp .ne 25, 3) := by decide +kernel
theorem dX1_partsAnew_50 : decode cX1_partsAnew 50 = .ok (.aload 4, 2) := by decide +kernel
theorem dX1_partsAnew_52 : decode cX1_partsAnew 52 = .ok (.invokevirtual 194, 3) := by decide +kernel
theorem dX1_partsAnew_55 : decode cX1_partsAnew 55 = .ok (.ifCond .eq 17, 3) := by decide +kernel
theorem dX1_partsAnew_58 : decode cX1_partsAnew 58 = .ok (.iload_n 2, 1) := by decide +kernel
theorem dX1_partsAnew_59 : decode cX1_partsAnew 59 = .ok (.aload 4, 2) := by decide +kernel
theorem dX1_partsAnew_61 : decode cX1_partsAnew 61 = .ok (.aload_n 0, 1) := by decide +kernel
theorem dX1_partsAnew_62 : decode cX1_partsAnew 62 = .ok (.getfield 23, 3) := by decide +kernel
theorem dX1_partsAnew_65 : decode cX1_partsAnew 65 = .ok (.iload_n 1, 1) := by decide +kernel
theorem dX1_partsAnew_66 : decode cX1_partsAnew 66 = .ok (.iaload, 1) := by decide +kernel
theorem dX1_partsAnew_67 : decode cX1_partsAnew 67 = .ok (.invokevirtual 198, 3) := by decide +kernel
theorem dX1_partsAnew_70 : decode cX1_partsAnew 70 = .ok (.iadd, 1) := by decide +kernel
theorem dX1_partsAnew_71 : decode cX1_partsAnew 71 = .ok (.istore_n 2, 1) := by decide +kernel
theorem dX1_partsAnew_72 : decode cX1_partsAnew 72 = .ok (.iinc 3 1, 3) := by decide +kernel
theorem dX1_partsAnew_75 : decode cX1_partsAnew 75 = .ok (.goto (-54), 3) := by decide +kernel
theorem dX1_partsAnew_78 : decode cX1_partsAnew 78 = .ok (.iload_n 2, 1) := by decide +kernel
theorem dX1_partsAnew_79 : decode cX1_partsAnew 79 = .ok (.ireturn, 1) := by decide +kernel
set_option maxRecDepth 20000 in
theorem ggX1_ordered_X1_isKind : GoodIn wsX1_ordered wsX1_isKind := goodIn_r _ [6, 7, 8, 5, 9] (by decide +kernel) (by decide +kernel)
set_option maxRecDepth 20000 in
theorem gX1_ordered_X1_isKind : GoodIn wsX1_ordered (va_wsS RX1 39 yX1_isKind wsX1_isKind) := goodIn_app (goodIn_of _ (by decide +kernel)) ggX1_ordered_X1_isKind
set_option maxRecDepth 20000 in
theorem ggX1_ordered_X1_partsInStates : GoodIn wsX1_ordered wsX1_partsInStates := goodIn_r _ [13, 14, 15, 16, 17, 18, 19, 5, 20, 21, 7, 8, 9, 22, 23, 24, 25, 26, 3, 4, 6, 27, 28, 29, 30, 31, 32, 33, 34, 35, 36, 37, 38, 39, 40, 41, 42, 43, 44, 45, 46, 47, 48, 49, 50, 51, 52, 53, 54, 55, 56, 57] (by decide +kernel) (by decide +kernel)
set_option maxRecDepth 20000 in
theorem gX1_ordered_X1_partsInStates : GoodIn wsX1_ordered (wsV RX1 190 RX1 yX1_partsInStates wsX1_partsInStates) := goodIn_app (goodIn_of _ (by decide +kernel)) ggX1_ordered_X1_partsInStates
theorem dX1_ordered_0 : decode cX1_ordered 0 = .ok (.iload_n 1, 1) := by decide +kernel
theorem dX1_ordered_1 : decode cX1_ordered 1 = .ok (.invokestatic 39, 3) := by decide +kernel
theorem dX1_ordered_4 : decode cX1_ordered 4 = .ok (.ifCond .ne 13, 3) := by decide +kernel
theorem dX1_ordered_7 : decode cX1_ordered 7 = .ok (.new 46, 3) := by decide +kernel
theorem dX1_ordered_10 : decode cX1_ordered 10 = .ok (.dup, 1) := by decide +kernel
theorem dX1_ordered_11 : decode cX1_ordered 11 = .ok (.ldc 110, 2) := by decide +kernel
theorem dX1_ordered_13 : decode cX1_ordered 13 = .ok (.invokespecial 50, 3) := by decide +kernel
theorem dX1_ordered_16 : decode cX1_ordered 16 = .ok (.athrow, 1) := by decide +kernel
theorem dX1_ordered_17 : decode cX1_ordered 17 = .ok (.aload_n 0, 1) := by decide +kernel
theorem dX1_ordered_18 : decode cX1_ordered 18 = .ok (.iload_n 1, 1) := by decide +kernel
theorem dX1_ordered_19 : decode cX1_ordered 19 = .ok (.iconst 1, 1) := by decide +kernel
theorem dX1_ordered_20 : decode cX1_ordered 20 = .ok (.iconst 3, 1) := by decide +kernel
theorem dX1_ordered_21 : decode cX1_ordered 21 = .ok (.invokevirtual 190, 3) := by decide +kernel
theorem dX1_ordered_24 : decode cX1_ordered 24 = .ok (.ireturn, 1) := by decide +kernel
set_option maxRecDepth 20000 in
theorem ggX1_kindsAt_X1_isStorey : GoodIn wsX1_kindsAt wsX1_isStorey := goodIn_r _ [11, 12, 13, 10, 14] (by decide +kernel) (by decide +kernel)
set_option maxRecDepth 20000 in
theorem gX1_kindsAt_X1_isStorey : GoodIn wsX1_kindsAt (va_wsS RX1 43 yX1_isStorey wsX1_isStorey) := goodIn_app (goodIn_of _ (by decide +kernel)) ggX1_kindsAt_X1_isStorey
set_option maxRecDepth 20000 in
theorem ggX1_kindsAt_X1_isCell : GoodIn wsX1_kindsAt wsX1_isCell := goodIn_r _ [17, 12, 13, 10, 14] (by decide +kernel) (by decide +kernel)
set_option maxRecDepth 20000 in
theorem gX1_kindsAt_X1_isCell : GoodIn wsX1_kindsAt (va_wsS RX1 53 yX1_isCell wsX1_isCell) := goodIn_app (goodIn_of _ (by decide +kernel)) ggX1_kindsAt_X1_isCell
set_option maxRecDepth 20000 in
theorem ggX1_kindsAt_X1_find : GoodIn wsX1_kindsAt wsX1_find := goodIn_r _ [21, 22, 12, 13, 10, 14, 44, 45, 46, 47, 48, 49, 50, 51] (by decide +kernel) (by decide +kernel)
set_option maxRecDepth 20000 in
theorem gX1_kindsAt_X1_find : GoodIn wsX1_kindsAt (wsV RX1 74 RX1 yX1_find wsX1_find) := goodIn_app (goodIn_of _ (by decide +kernel)) ggX1_kindsAt_X1_find
set_option maxRecDepth 20000 in
theorem ggX1_kindsAt_X0_isThere : GoodIn wsX1_kindsAt wsX0_isThere := goodIn_r _ [27, 28, 52, 53, 54, 55, 56, 57, 58, 59, 60, 61] (by decide +kernel) (by decide +kernel)
set_option maxRecDepth 20000 in
theorem gX1_kindsAt_X0_isThere : GoodIn wsX1_kindsAt (wsV RX1 194 RX0 yX0_isThere wsX0_isThere) := goodIn_app (goodIn_of _ (by decide +kernel)) ggX1_kindsAt_X0_isThere
set_option maxRecDepth 20000 in
theorem ggX1_kindsAt_X0_covers : GoodIn wsX1_kindsAt wsX0_covers := goodIn_r _ [32, 33, 34, 35, 36, 37, 38, 39, 40, 41, 42, 43, 13, 10, 14, 52, 53, 54, 55, 56, 57, 58, 59, 60, 61] (by decide +kernel) (by decide +kernel)
set_option maxRecDepth 20000 in
theorem gX1_kindsAt_X0_covers : GoodIn wsX1_kindsAt (wsV RX1 203 RX0 yX0_covers wsX0_covers) := goodIn_app (goodIn_of _ (by decide +kernel)) ggX1_kindsAt_X0_covers
theorem dX1_kindsAt_0 : decode cX1_kindsAt 0 = .ok (.iload_n 1, 1) := by decide +kernel
theorem dX1_kindsAt_1 : decode cX1_kindsAt 1 = .ok (.invokestatic 43, 3) := by decide +kernel
theorem dX1_kindsAt_4 : decode cX1_kindsAt 4 = .ok (.ifCond .ne 13, 3) := by decide +kernel
theorem dX1_kindsAt_7 : decode cX1_kindsAt 7 = .ok (.new 46, 3) := by decide +kernel
theorem dX1_kindsAt_10 : decode cX1_kindsAt 10 = .ok (.dup, 1) := by decide +kernel
theorem dX1_kindsAt_11 : decode cX1_kindsAt 11 = .ok (.ldc 147, 2) := by decide +kernel
theorem dX1_kindsAt_13 : decode cX1_kindsAt 13 = .ok (.invokespecial 50, 3) := by decide +kernel
theorem dX1_kindsAt_16 : decode cX1_kindsAt 16 = .ok (.athrow, 1) := by decide +kernel
theorem dX1_kindsAt_17 : decode cX1_kindsAt 17 = .ok (.iload_n 2, 1) := by decide +kernel
theorem dX1_kindsAt_18 : decode cX1_kindsAt 18 = .ok (.iload_n 3, 1) := by decide +kernel
theorem dX1_kindsAt_19 : decode cX1_kindsAt 19 = .ok (.invokestatic 53, 3) := by decide +kernel
theorem dX1_kindsAt_22 : decode cX1_kindsAt 22 = .ok (.ifCond .ne 13, 3) := by decide +kernel
theorem dX1_kindsAt_25 : decode cX1_kindsAt 25 = .ok (.new 57, 3) := by decide +kernel
theorem dX1_kindsAt_28 : decode cX1_kindsAt 28 = .ok (.dup, 1) := by decide +kernel
theorem dX1_kindsAt_29 : decode cX1_kindsAt 29 = .ok (.ldc 201, 2) := by decide +kernel
theorem dX1_kindsAt_31 : decode cX1_kindsAt 31 = .ok (.invokespecial 61, 3) := by decide +kernel
theorem dX1_kindsAt_34 : decode cX1_kindsAt 34 = .ok (.athrow, 1) := by decide +kernel
theorem dX1_kindsAt_35 : decode cX1_kindsAt 35 = .ok (.iconst 0, 1) := by decide +kernel
theorem dX1_kindsAt_36 : decode cX1_kindsAt 36 = .ok (.istore 4, 2) := by decide +kernel
theorem dX1_kindsAt_38 : decode cX1_kindsAt 38 = .ok (.iconst 0, 1) := by decide +kernel
theorem dX1_kindsAt_39 : decode cX1_kindsAt 39 = .ok (.istore 5, 2) := by decide +kernel
theorem dX1_kindsAt_41 : decode cX1_kindsAt 41 = .ok (.iload 5, 2) := by decide +kernel
theorem dX1_kindsAt_43 : decode cX1_kindsAt 43 = .ok (.aload_n 0, 1) := by decide +kernel
theorem dX1_kindsAt_44 : decode cX1_kindsAt 44 = .ok (.getfield 15, 3) := by decide +kernel
theorem dX1_kindsAt_47 : decode cX1_kindsAt 47 = .ok (.if_icmp .ge 61, 3) := by decide +kernel
theorem dX1_kindsAt_50 : decode cX1_kindsAt 50 = .ok (.aload_n 0, 1) := by decide +kernel
theorem dX1_kindsAt_51 : decode cX1_kindsAt 51 = .ok (.iload 5, 2) := by decide +kernel
theorem dX1_kindsAt_53 : decode cX1_kindsAt 53 = .ok (.invokevirtual 74, 3) := by decide +kernel
theorem dX1_kindsAt_56 : decode cX1_kindsAt 56 = .ok (.astore 6, 2) := by decide +kernel
theorem dX1_kindsAt_58 : decode cX1_kindsAt 58 = .ok (.aload 6, 2) := by decide +kernel
theorem dX1_kindsAt_60 : decode cX1_kindsAt 60 = .ok (.ifnull 42, 3) := by decide +kernel
theorem dX1_kindsAt_63 : decode cX1_kindsAt 63 = .ok (.aload 6, 2) := by decide +kernel
theorem dX1_kindsAt_65 : decode cX1_kindsAt 65 = .ok (.getfield 154, 3) := by decide +kernel
theorem dX1_kindsAt_68 : decode cX1_kindsAt 68 = .ok (.iload_n 1, 1) := by decide +kernel
theorem dX1_kindsAt_69 : decode cX1_kindsAt 69 = .ok (.if_icmp .ne 33, 3) := by decide +kernel
theorem dX1_kindsAt_72 : decode cX1_kindsAt 72 = .ok (.aload 6, 2) := by decide +kernel
theorem dX1_kindsAt_74 : decode cX1_kindsAt 74 = .ok (.invokevirtual 194, 3) := by decide +kernel
theorem dX1_kindsAt_77 : decode cX1_kindsAt 77 = .ok (.ifCond .eq 25, 3) := by decide +kernel
theorem dX1_kindsAt_80 : decode cX1_kindsAt 80 = .ok (.aload 6, 2) := by decide +kernel
theorem dX1_kindsAt_82 : decode cX1_kindsAt 82 = .ok (.iload_n 2, 1) := by decide +kernel
theorem dX1_kindsAt_83 : decode cX1_kindsAt 83 = .ok (.iload_n 3, 1) := by decide +kernel
theorem dX1_kindsAt_84 : decode cX1_kindsAt 84 = .ok (.invokevirtual 203, 3) := by decide +kernel
theorem dX1_kindsAt_87 : decode cX1_kindsAt 87 = .ok (.ifCond .eq 15, 3) := by decide +kernel
theorem dX1_kindsAt_90 : decode cX1_kindsAt 90 = .ok (.iload 4, 2) := by decide +kernel
theorem dX1_kindsAt_92 : decode cX1_kindsAt 92 = .ok (.iconst 1, 1) := by decide +kernel
theorem dX1_kindsAt_93 : decode cX1_kindsAt 93 = .ok (.aload 6, 2) := by decide +kernel
theorem dX1_kindsAt_95 : decode cX1_kindsAt 95 = .ok (.getfield 122, 3) := by decide +kernel
theorem dX1_kindsAt_98 : decode cX1_kindsAt 98 = .ok (.ishl, 1) := by decide +kernel
theorem dX1_kindsAt_99 : decode cX1_kindsAt 99 = .ok (.ior, 1) := by decide +kernel
theorem dX1_kindsAt_100 : decode cX1_kindsAt 100 = .ok (.istore 4, 2) := by decide +kernel
theorem dX1_kindsAt_102 : decode cX1_kindsAt 102 = .ok (.iinc 5 1, 3) := by decide +kernel
theorem dX1_kindsAt_105 : decode cX1_kindsAt 105 = .ok (.goto (-64), 3) := by decide +kernel
theorem dX1_kindsAt_108 : decode cX1_kindsAt 108 = .ok (.iload 4, 2) := by decide +kernel
theorem dX1_kindsAt_110 : decode cX1_kindsAt 110 = .ok (.ireturn, 1) := by decide +kernel
set_option maxRecDepth 20000 in
theorem ggX1_isLocked_X1_isStorey : GoodIn wsX1_isLocked wsX1_isStorey := goodIn_r _ [7, 8, 9, 6, 10] (by decide +kernel) (by decide +kernel)
set_option maxRecDepth 20000 in
theorem gX1_isLocked_X1_isStorey : GoodIn wsX1_isLocked (va_wsS RX1 43 yX1_isStorey wsX1_isStorey) := goodIn_app (goodIn_of _ (by decide +kernel)) ggX1_isLocked_X1_isStorey
theorem dX1_isLocked_0 : decode cX1_isLocked 0 = .ok (.iload_n 1, 1) := by decide +kernel
theorem dX1_isLocked_1 : decode cX1_isLocked 1 = .ok (.invokestatic 43, 3) := by decide +kernel
theorem dX1_isLocked_4 : decode cX1_isLocked 4 = .ok (.ifCond .ne 13, 3) := by decide +kernel
theorem dX1_isLocked_7 : decode cX1_isLocked 7 = .ok (.new 46, 3) := by decide +kernel
theorem dX1_isLocked_10 : decode cX1_isLocked 10 = .ok (.dup, 1) := by decide +kernel
theorem dX1_isLocked_11 : decode cX1_isLocked 11 = .ok (.ldc 147, 2) := by decide +kernel
theorem dX1_isLocked_13 : decode cX1_isLocked 13 = .ok (.invokespecial 50, 3) := by decide +kernel
theorem dX1_isLocked_16 : decode cX1_isLocked 16 = .ok (.athrow, 1) := by decide +kernel
theorem dX1_isLocked_17 : decode cX1_isLocked 17 = .ok (.aload_n 0, 1) := by decide +kernel
theorem dX1_isLocked_18 : decode cX1_isLocked 18 = .ok (.getfield 29, 3) := by decide +kernel
theorem dX1_isLocked_21 : decode cX1_isLocked 21 = .ok (.iload_n 1, 1) := by decide +kernel
theorem dX1_isLocked_22 : decode cX1_isLocked 22 = .ok (.baload, 1) := by decide +kernel
theorem dX1_isLocked_23 : decode cX1_isLocked 23 = .ok (.ireturn, 1) := by decide +kernel
theorem dX1_isWithin_0 : decode cX1_isWithin 0 = .ok (.iload_n 0, 1) := by decide +kernel
theorem dX1_isWithin_1 : decode cX1_isWithin 1 = .ok (.iload_n 1, 1) := by decide +kernel
theorem dX1_isWithin_2 : decode cX1_isWithin 2 = .ok (.if_icmp .lt 12, 3) := by decide +kernel
theorem dX1_isWithin_5 : decode cX1_isWithin 5 = .ok (.iload_n 0, 1) := by decide +kernel
theorem dX1_isWithin_6 : decode cX1_isWithin 6 = .ok (.iload_n 2, 1) := by decide +kernel
theorem dX1_isWithin_7 : decode cX1_isWithin 7 = .ok (.if_icmp .gt 7, 3) := by decide +kernel
theorem dX1_isWithin_10 : decode cX1_isWithin 10 = .ok (.iconst 1, 1) := by decide +kernel
theorem dX1_isWithin_11 : decode cX1_isWithin 11 = .ok (.goto 4, 3) := by decide +kernel
theorem dX1_isWithin_14 : decode cX1_isWithin 14 = .ok (.iconst 0, 1) := by decide +kernel
theorem dX1_isWithin_15 : decode cX1_isWithin 15 = .ok (.ireturn, 1) := by decide +kernel
set_option maxRecDepth 20000 in
theorem ggX1_isKind_X1_isWithin : GoodIn wsX1_isKind wsX1_isWithin := goodIn_r _ [4] (by decide +kernel) (by decide +kernel)
set_option maxRecDepth 20000 in
theorem gX1_isKind_X1_isWithin : GoodIn wsX1_isKind (va_wsS RX1 112 yX1_isWithin wsX1_isWithin) := goodIn_app (goodIn_of _ (by decide +kernel)) ggX1_isKind_X1_isWithin
theorem dX1_isKind_0 : decode cX1_isKind 0 = .ok (.iload_n 0, 1) := by decide +kernel
theorem dX1_isKind_1 : decode cX1_isKind 1 = .ok (.iconst 0, 1) := by decide +kernel
theorem dX1_isKind_2 : decode cX1_isKind 2 = .ok (.iconst 2, 1) := by decide +kernel
theorem dX1_isKind_3 : decode cX1_isKind 3 = .ok (.invokestatic 112, 3) := by decide +kernel
theorem dX1_isKind_6 : decode cX1_isKind 6 = .ok (.ireturn, 1) := by decide +kernel
set_option maxRecDepth 20000 in
theorem ggX1_isStorey_X1_isWithin : GoodIn wsX1_isStorey wsX1_isWithin := goodIn_r _ [4] (by decide +kernel) (by decide +kernel)
set_option maxRecDepth 20000 in
theorem gX1_isStorey_X1_isWithin : GoodIn wsX1_isStorey (va_wsS RX1 112 yX1_isWithin wsX1_isWithin) := goodIn_app (goodIn_of _ (by decide +kernel)) ggX1_isStorey_X1_isWithin
theorem dX1_isStorey_0 : decode cX1_isStorey 0 = .ok (.iload_n 0, 1) := by decide +kernel
theorem dX1_isStorey_1 : decode cX1_isStorey 1 = .ok (.iconst 0, 1) := by decide +kernel
theorem dX1_isStorey_2 : decode cX1_isStorey 2 = .ok (.iconst 3, 1) := by decide +kernel
theorem dX1_isStorey_3 : decode cX1_isStorey 3 = .ok (.invokestatic 112, 3) := by decide +kernel
theorem dX1_isStorey_6 : decode cX1_isStorey 6 = .ok (.ireturn, 1) := by decide +kernel
set_option maxRecDepth 20000 in
theorem ggX1_isCell_X1_isWithin : GoodIn wsX1_isCell wsX1_isWithin := goodIn_r _ [4] (by decide +kernel) (by decide +kernel)
set_option maxRecDepth 20000 in
theorem gX1_isCell_X1_isWithin : GoodIn wsX1_isCell (va_wsS RX1 112 yX1_isWithin wsX1_isWithin) := goodIn_app (goodIn_of _ (by decide +kernel)) ggX1_isCell_X1_isWithin
theorem dX1_isCell_0 : decode cX1_isCell 0 = .ok (.iload_n 0, 1) := by decide +kernel
theorem dX1_isCell_1 : decode cX1_isCell 1 = .ok (.iconst 0, 1) := by decide +kernel
theorem dX1_isCell_2 : decode cX1_isCell 2 = .ok (.bipush 11, 2) := by decide +kernel
theorem dX1_isCell_4 : decode cX1_isCell 4 = .ok (.invokestatic 112, 3) := by decide +kernel
theorem dX1_isCell_7 : decode cX1_isCell 7 = .ok (.ifCond .eq 17, 3) := by decide +kernel
theorem dX1_isCell_10 : decode cX1_isCell 10 = .ok (.iload_n 1, 1) := by decide +kernel
theorem dX1_isCell_11 : decode cX1_isCell 11 = .ok (.iconst 0, 1) := by decide +kernel
theorem dX1_isCell_12 : decode cX1_isCell 12 = .ok (.bipush 11, 2) := by decide +kernel
theorem dX1_isCell_14 : decode cX1_isCell 14 = .ok (.invokestatic 112, 3) := by decide +kernel
theorem dX1_isCell_17 : decode cX1_isCell 17 = .ok (.ifCond .eq 7, 3) := by decide +kernel
theorem dX1_isCell_20 : decode cX1_isCell 20 = .ok (.iconst 1, 1) := by decide +kernel
theorem dX1_isCell_21 : decode cX1_isCell 21 = .ok (.goto 4, 3) := by decide +kernel
theorem dX1_isCell_24 : decode cX1_isCell 24 = .ok (.iconst 0, 1) := by decide +kernel
theorem dX1_isCell_25 : decode cX1_isCell 25 = .ok (.ireturn, 1) := by decide +kernel
set_option maxRecDepth 20000 in
theorem ggX1_isStep_X1_isWithin : GoodIn wsX1_isStep wsX1_isWithin := goodIn_r _ [4] (by decide +kernel) (by decide +kernel)
set_option maxRecDepth 20000 in
theorem gX1_isStep_X1_isWithin : GoodIn wsX1_isStep (va_wsS RX1 112 yX1_isWithin wsX1_isWithin) := goodIn_app (goodIn_of _ (by decide +kernel)) ggX1_isStep_X1_isWithin
theorem dX1_isStep_0 : decode cX1_isStep 0 = .ok (.iload_n 0, 1) := by decide +kernel
theorem dX1_isStep_1 : decode cX1_isStep 1 = .ok (.bipush (-11), 2) := by decide +kernel
theorem dX1_isStep_3 : decode cX1_isStep 3 = .ok (.bipush 11, 2) := by decide +kernel
theorem dX1_isStep_5 : decode cX1_isStep 5 = .ok (.invokestatic 112, 3) := by decide +kernel
theorem dX1_isStep_8 : decode cX1_isStep 8 = .ok (.ireturn, 1) := by decide +kernel
set_option maxRecDepth 20000 in
theorem ggX1_isBase_X1_isWithin : GoodIn wsX1_isBase wsX1_isWithin := goodIn_r _ [5] (by decide +kernel) (by decide +kernel)
set_option maxRecDepth 20000 in
theorem gX1_isBase_X1_isWithin : GoodIn wsX1_isBase (va_wsS RX1 112 yX1_isWithin wsX1_isWithin) := goodIn_app (goodIn_of _ (by decide +kernel)) ggX1_isBase_X1_isWithin
theorem dX1_isBase_0 : decode cX1_isBase 0 = .ok (.iload_n 1, 1) := by decide +kernel
theorem dX1_isBase_1 : decode cX1_isBase 1 = .ok (.iconst 0, 1) := by decide +kernel
theorem dX1_isBase_2 : decode cX1_isBase 2 = .ok (.aload_n 0, 1) := by decide +kernel
theorem dX1_isBase_3 : decode cX1_isBase 3 = .ok (.getfield 33, 3) := by decide +kernel
theorem dX1_isBase_6 : decode cX1_isBase 6 = .ok (.invokestatic 112, 3) := by decide +kernel
theorem dX1_isBase_9 : decode cX1_isBase 9 = .ok (.ireturn, 1) := by decide +kernel
set_option maxRecDepth 20000 in
theorem ggX1_find_X1_isWithin : GoodIn wsX1_find wsX1_isWithin := goodIn_r _ [5] (by decide +kernel) (by decide +kernel)
set_option maxRecDepth 20000 in
theorem gX1_find_X1_isWithin : GoodIn wsX1_find (va_wsS RX1 112 yX1_isWithin wsX1_isWithin) := goodIn_app (goodIn_of _ (by decide +kernel)) ggX1_find_X1_isWithin
theorem dX1_find_0 : decode cX1_find 0 = .ok (.iload_n 1, 1) := by decide +kernel
theorem dX1_find_1 : decode cX1_find 1 = .ok (.iconst 0, 1) := by decide +kernel
theorem dX1_find_2 : decode cX1_find 2 = .ok (.aload_n 0, 1) := by decide +kernel
theorem dX1_find_3 : decode cX1_find 3 = .ok (.getfield 11, 3) := by decide +kernel
theorem dX1_find_6 : decode cX1_find 6 = .ok (.arraylength, 1) := by decide +kernel
theorem dX1_find_7 : decode cX1_find 7 = .ok (.iconst 1, 1) := by decide +kernel
theorem dX1_find_8 : decode cX1_find 8 = .ok (.isub, 1) := by decide +kernel
theorem dX1_find_9 : decode cX1_find 9 = .ok (.invokestatic 112, 3) := by decide +kernel
theorem dX1_find_12 : decode cX1_find 12 = .ok (.ifCond .eq 12, 3) := by decide +kernel
theorem dX1_find_15 : decode cX1_find 15 = .ok (.aload_n 0, 1) := by decide +kernel
theorem dX1_find_16 : decode cX1_find 16 = .ok (.getfield 11, 3) := by decide +kernel
theorem dX1_find_19 : decode cX1_find 19 = .ok (.iload_n 1, 1) := by decide +kernel
theorem dX1_find_20 : decode cX1_find 20 = .ok (.aaload, 1) := by decide +kernel
theorem dX1_find_21 : decode cX1_find 21 = .ok (.goto 4, 3) := by decide +kernel
theorem dX1_find_24 : decode cX1_find 24 = .ok (.aconst_null, 1) := by decide +kernel
theorem dX1_find_25 : decode cX1_find 25 = .ok (.areturn, 1) := by decide +kernel
set_option maxRecDepth 20000 in
theorem ggX1_isOnStorey_X1_find : GoodIn wsX1_isOnStorey wsX1_find := goodIn_r _ [6, 7, 8, 9, 5, 10, 21, 22, 23, 24, 25, 26, 27, 28] (by decide +kernel) (by decide +kernel)
set_option maxRecDepth 20000 in
theorem gX1_isOnStorey_X1_find : GoodIn wsX1_isOnStorey (wsV RX1 74 RX1 yX1_find wsX1_find) := goodIn_app (goodIn_of _ (by decide +kernel)) ggX1_isOnStorey_X1_find
theorem dX1_isOnStorey_0 : decode cX1_isOnStorey 0 = .ok (.aload_n 0, 1) := by decide +kernel
theorem dX1_isOnStorey_1 : decode cX1_isOnStorey 1 = .ok (.iload_n 1, 1) := by decide +kernel
theorem dX1_isOnStorey_2 : decode cX1_isOnStorey 2 = .ok (.invokevirtual 74, 3) := by decide +kernel
theorem dX1_isOnStorey_5 : decode cX1_isOnStorey 5 = .ok (.astore_n 3, 1) := by decide +kernel
theorem dX1_isOnStorey_6 : decode cX1_isOnStorey 6 = .ok (.aload_n 3, 1) := by decide +kernel
theorem dX1_isOnStorey_7 : decode cX1_isOnStorey 7 = .ok (.ifnull 15, 3) := by decide +kernel
theorem dX1_isOnStorey_10 : decode cX1_isOnStorey 10 = .ok (.aload_n 3, 1) := by decide +kernel
theorem dX1_isOnStorey_11 : decode cX1_isOnStorey 11 = .ok (.getfield 154, 3) := by decide +kernel
theorem dX1_isOnStorey_14 : decode cX1_isOnStorey 14 = .ok (.iload_n 2, 1) := by decide +kernel
theorem dX1_isOnStorey_15 : decode cX1_isOnStorey 15 = .ok (.if_icmp .ne 7, 3) := by decide +kernel
theorem dX1_isOnStorey_18 : decode cX1_isOnStorey 18 = .ok (.iconst 1, 1) := by decide +kernel
theorem dX1_isOnStorey_19 : decode cX1_isOnStorey 19 = .ok (.goto 4, 3) := by decide +kernel
theorem dX1_isOnStorey_22 : decode cX1_isOnStorey 22 = .ok (.iconst 0, 1) := by decide +kernel
theorem dX1_isOnStorey_23 : decode cX1_isOnStorey 23 = .ok (.ireturn, 1) := by decide +kernel
theorem dX1_losesAgainstLastChange_0 : decode cX1_losesAgainstLastChange 0 = .ok (.aload_n 0, 1) := by decide +kernel
theorem dX1_losesAgainstLastChange_1 : decode cX1_losesAgainstLastChange 1 = .ok (.getfield 169, 3) := by decide +kernel
theorem dX1_losesAgainstLastChange_4 : decode cX1_losesAgainstLastChange 4 = .ok (.iload_n 2, 1) := by decide +kernel
theorem dX1_losesAgainstLastChange_5 : decode cX1_losesAgainstLastChange 5 = .ok (.if_icmp .le 15, 3) := by decide +kernel
theorem dX1_losesAgainstLastChange_8 : decode cX1_losesAgainstLastChange 8 = .ok (.iload_n 1, 1) := by decide +kernel
theorem dX1_losesAgainstLastChange_9 : decode cX1_losesAgainstLastChange 9 = .ok (.aload_n 0, 1) := by decide +kernel
theorem dX1_losesAgainstLastChange_10 : decode cX1_losesAgainstLastChange 10 = .ok (.getfield 172, 3) := by decide +kernel
theorem dX1_losesAgainstLastChange_13 : decode cX1_losesAgainstLastChange 13 = .ok (.if_icmp .le 7, 3) := by decide +kernel
theorem dX1_losesAgainstLastChange_16 : decode cX1_losesAgainstLastChange 16 = .ok (.iconst 1, 1) := by decide +kernel
theorem dX1_losesAgainstLastChange_17 : decode cX1_losesAgainstLastChange 17 = .ok (.goto 4, 3) := by decide +kernel
theorem dX1_losesAgainstLastChange_20 : decode cX1_losesAgainstLastChange 20 = .ok (.iconst 0, 1) := by decide +kernel
theorem dX1_losesAgainstLastChange_21 : decode cX1_losesAgainstLastChange 21 = .ok (.ireturn, 1) := by decide +kernel
theorem dX1_noteChange_0 : decode cX1_noteChange 0 = .ok (.aload_n 0, 1) := by decide +kernel
theorem dX1_noteChange_1 : decode cX1_noteChange 1 = .ok (.dup, 1) := by decide +kernel
theorem dX1_noteChange_2 : decode cX1_noteChange 2 = .ok (.getfield 33, 3) := by decide +kernel
theorem dX1_noteChange_5 : decode cX1_noteChange 5 = .ok (.iconst 1, 1) := by decide +kernel
theorem dX1_noteChange_6 : decode cX1_noteChange 6 = .ok (.iadd, 1) := by decide +kernel
theorem dX1_noteChange_7 : decode cX1_noteChange 7 = .ok (.putfield 33, 3) := by decide +kernel
theorem dX1_noteChange_10 : decode cX1_noteChange 10 = .ok (.aload_n 1, 1) := by decide +kernel
theorem dX1_noteChange_11 : decode cX1_noteChange 11 = .ok (.aload_n 0, 1) := by decide +kernel
theorem dX1_noteChange_12 : decode cX1_noteChange 12 = .ok (.getfield 33, 3) := by decide +kernel
theorem dX1_noteChange_15 : decode cX1_noteChange 15 = .ok (.putfield 169, 3) := by decide +kernel
theorem dX1_noteChange_18 : decode cX1_noteChange 18 = .ok (.aload_n 1, 1) := by decide +kernel
theorem dX1_noteChange_19 : decode cX1_noteChange 19 = .ok (.iload_n 2, 1) := by decide +kernel
theorem dX1_noteChange_20 : decode cX1_noteChange 20 = .ok (.putfield 172, 3) := by decide +kernel
theorem dX1_noteChange_23 : decode cX1_noteChange 23 = .ok (.return_, 1) := by decide +kernel
set_option maxRecDepth 20000 in
theorem ggX1_isClashingPair_X1_find : GoodIn wsX1_isClashingPair wsX1_find := goodIn_r _ [7, 8, 9, 10, 6, 11, 54, 55, 56, 57, 58, 59, 60, 61] (by decide +kernel) (by decide +kernel)
set_option maxRecDepth 20000 in
theorem gX1_isClashingPair_X1_find : GoodIn wsX1_isClashingPair (wsV RX1 74 RX1 yX1_find wsX1_find) := goodIn_app (goodIn_of _ (by decide +kernel)) ggX1_isClashingPair_X1_find
set_option maxRecDepth 20000 in
theorem ggX1_isClashingPair_X0_isThere : GoodIn wsX1_isClashingPair wsX0_isThere := goodIn_r _ [16, 17, 44, 45, 46, 47, 48, 49, 50, 51, 52, 53] (by decide +kernel) (by decide +kernel)
set_option maxRecDepth 20000 in
theorem gX1_isClashingPair_X0_isThere : GoodIn wsX1_isClashingPair (wsV RX1 194 RX0 yX0_isThere wsX0_isThere) := goodIn_app (goodIn_of _ (by decide +kernel)) ggX1_isClashingPair_X0_isThere
set_option maxRecDepth 20000 in
theorem ggX1_isClashingPair_X0_distanceTo : GoodIn wsX1_isClashingPair wsX0_distanceTo := goodIn_r _ [21, 22, 23, 24, 25, 26, 27, 28, 29, 30, 31, 15, 32, 33, 34, 35, 44, 45, 46, 47, 48, 49, 50, 51, 52, 53] (by decide +kernel) (by decide +kernel)
set_option maxRecDepth 20000 in
theorem gX1_isClashingPair_X0_distanceTo : GoodIn wsX1_isClashingPair (wsV RX1 206 RX0 yX0_distanceTo wsX0_distanceTo) := goodIn_app (goodIn_of _ (by decide +kernel)) ggX1_isClashingPair_X0_distanceTo
set_option maxRecDepth 20000 in
theorem ggX1_isClashingPair_X1_clearanceOf : GoodIn wsX1_isClashingPair wsX1_clearanceOf := goodIn_r _ [39, 40, 41, 42, 6, 43, 9, 10, 11, 54, 55, 56, 57, 58, 59, 60, 61] (by decide +kernel) (by decide +kernel)
set_option maxRecDepth 20000 in
theorem gX1_isClashingPair_X1_clearanceOf : GoodIn wsX1_isClashingPair (wsV RX1 209 RX1 yX1_clearanceOf wsX1_clearanceOf) := goodIn_app (goodIn_of _ (by decide +kernel)) ggX1_isClashingPair_X1_clearanceOf
theorem dX1_isClashingPair_0 : decode cX1_isClashingPair 0 = .ok (.aload_n 0, 1) := by decide +kernel
theorem dX1_isClashingPair_1 : decode cX1_isClashingPair 1 = .ok (.iload_n 1, 1) := by decide +kernel
theorem dX1_isClashingPair_2 : decode cX1_isClashingPair 2 = .ok (.invokevirtual 74, 3) := by decide +kernel
theorem dX1_isClashingPair_5 : decode cX1_isClashingPair 5 = .ok (.astore_n 3, 1) := by decide +kernel
theorem dX1_isClashingPair_6 : decode cX1_isClashingPair 6 = .ok (.aload_n 0, 1) := by decide +kernel
theorem dX1_isClashingPair_7 : decode cX1_isClashingPair 7 = .ok (.iload_n 2, 1) := by decide +kernel
theorem dX1_isClashingPair_8 : decode cX1_isClashingPair 8 = .ok (.invokevirtual 74, 3) := by decide +kernel
theorem dX1_isClashingPair_11 : decode cX1_isClashingPair 11 = .ok (.astore 4, 2) := by decide +kernel
theorem dX1_isClashingPair_13 : decode cX1_isClashingPair 13 = .ok (.aload_n 3, 1) := by decide +kernel
theorem dX1_isClashingPair_14 : decode cX1_isClashingPair 14 = .ok (.ifnull 13, 3) := by decide +kernel
theorem dX1_isClashingPair_17 : decode cX1_isClashingPair 17 = .ok (.aload 4, 2) := by decide +kernel
theorem dX1_isClashingPair_19 : decode cX1_isClashingPair 19 = .ok (.ifnull 8, 3) := by decide +kernel
theorem dX1_isClashingPair_22 : decode cX1_isClashingPair 22 = .ok (.iload_n 1, 1) := by decide +kernel
theorem dX1_isClashingPair_23 : decode cX1_isClashingPair 23 = .ok (.iload_n 2, 1) := by decide +kernel
theorem dX1_isClashingPair_24 : decode cX1_isClashingPair 24 = .ok (.if_icmp .ne 5, 3) := by decide +kernel
theorem dX1_isClashingPair_27 : decode cX1_isClashingPair 27 = .ok (.iconst 0, 1) := by decide +kernel
theorem dX1_isClashingPair_28 : decode cX1_isClashingPair 28 = .ok (.ireturn, 1) := by decide +kernel
theorem dX1_isClashingPair_29 : decode cX1_isClashingPair 29 = .ok (.aload_n 3, 1) := by decide +kernel
theorem dX1_isClashingPair_30 : decode cX1_isClashingPair 30 = .ok (.getfield 154, 3) := by decide +kernel
theorem dX1_isClashingPair_33 : decode cX1_isClashingPair 33 = .ok (.aload 4, 2) := by decide +kernel
theorem dX1_isClashingPair_35 : decode cX1_isClashingPair 35 = .ok (.getfield 154, 3) := by decide +kernel
theorem dX1_isClashingPair_38 : decode cX1_isClashingPair 38 = .ok (.if_icmp .ne 44, 3) := by decide +kernel
theorem dX1_isClashingPair_41 : decode cX1_isClashingPair 41 = .ok (.aload_n 3, 1) := by decide +kernel
theorem dX1_isClashingPair_42 : decode cX1_isClashingPair 42 = .ok (.invokevirtual 194, 3) := by decide +kernel
theorem dX1_isClashingPair_45 : decode cX1_isClashingPair 45 = .ok (.ifCond .eq 37, 3) := by decide +kernel
theorem dX1_isClashingPair_48 : decode cX1_isClashingPair 48 = .ok (.aload 4, 2) := by decide +kernel
theorem dX1_isClashingPair_50 : decode cX1_isClashingPair 50 = .ok (.invokevirtual 194, 3) := by decide +kernel
theorem dX1_isClashingPair_53 : decode cX1_isClashingPair 53 = .ok (.ifCond .eq 29, 3) := by decide +kernel
theorem dX1_isClashingPair_56 : decode cX1_isClashingPair 56 = .ok (.aload_n 3, 1) := by decide +kernel
theorem dX1_isClashingPair_57 : decode cX1_isClashingPair 57 = .ok (.aload 4, 2) := by decide +kernel
theorem dX1_isClashingPair_59 : decode cX1_isClashingPair 59 = .ok (.invokevirtual 206, 3) := by decide +kernel
theorem dX1_isClashingPair_62 : decode cX1_isClashingPair 62 = .ok (.aload_n 0, 1) := by decide +kernel
theorem dX1_isClashingPair_63 : decode cX1_isClashingPair 63 = .ok (.aload_n 3, 1) := by decide +kernel
theorem dX1_isClashingPair_64 : decode cX1_isClashingPair 64 = .ok (.getfield 122, 3) := by decide +kernel
theorem dX1_isClashingPair_67 : decode cX1_isClashingPair 67 = .ok (.aload 4, 2) := by decide +kernel
theorem dX1_isClashingPair_69 : decode cX1_isClashingPair 69 = .ok (.getfield 122, 3) := by decide +kernel
theorem dX1_isClashingPair_72 : decode cX1_isClashingPair 72 = .ok (.invokevirtual 209, 3) := by decide +kernel
theorem dX1_isClashingPair_75 : decode cX1_isClashingPair 75 = .ok (.if_icmp .ge 7, 3) := by decide +kernel
theorem dX1_isClashingPair_78 : decode cX1_isClashingPair 78 = .ok (.iconst 1, 1) := by decide +kernel
theorem dX1_isClashingPair_79 : decode cX1_isClashingPair 79 = .ok (.goto 4, 3) := by decide +kernel
theorem dX1_isClashingPair_82 : decode cX1_isClashingPair 82 = .ok (.iconst 0, 1) := by decide +kernel
theorem dX1_isClashingPair_83 : decode cX1_isClashingPair 83 = .ok (.ireturn, 1) := by decide +kernel
set_option maxRecDepth 20000 in
theorem ggX1_clearanceOf_X1_isKind : GoodIn wsX1_clearanceOf wsX1_isKind := goodIn_r _ [5, 6, 7, 4, 8] (by decide +kernel) (by decide +kernel)
set_option maxRecDepth 20000 in
theorem gX1_clearanceOf_X1_isKind : GoodIn wsX1_clearanceOf (va_wsS RX1 39 yX1_isKind wsX1_isKind) := goodIn_app (goodIn_of _ (by decide +kernel)) ggX1_clearanceOf_X1_isKind
theorem dX1_clearanceOf_0 : decode cX1_clearanceOf 0 = .ok (.iload_n 1, 1) := by decide +kernel
theorem dX1_clearanceOf_1 : decode cX1_clearanceOf 1 = .ok (.invokestatic 39, 3) := by decide +kernel
theorem dX1_clearanceOf_4 : decode cX1_clearanceOf 4 = .ok (.ifCond .eq 23, 3) := by decide +kernel
theorem dX1_clearanceOf_7 : decode cX1_clearanceOf 7 = .ok (.iload_n 2, 1) := by decide +kernel
theorem dX1_clearanceOf_8 : decode cX1_clearanceOf 8 = .ok (.invokestatic 39, 3) := by decide +kernel
theorem dX1_clearanceOf_11 : decode cX1_clearanceOf 11 = .ok (.ifCond .eq 16, 3) := by decide +kernel
theorem dX1_clearanceOf_14 : decode cX1_clearanceOf 14 = .ok (.aload_n 0, 1) := by decide +kernel
theorem dX1_clearanceOf_15 : decode cX1_clearanceOf 15 = .ok (.getfield 19, 3) := by decide +kernel
theorem dX1_clearanceOf_18 : decode cX1_clearanceOf 18 = .ok (.iload_n 1, 1) := by decide +kernel
theorem dX1_clearanceOf_19 : decode cX1_clearanceOf 19 = .ok (.iconst 3, 1) := by decide +kernel
theorem dX1_clearanceOf_20 : decode cX1_clearanceOf 20 = .ok (.imul, 1) := by decide +kernel
theorem dX1_clearanceOf_21 : decode cX1_clearanceOf 21 = .ok (.iload_n 2, 1) := by decide +kernel
theorem dX1_clearanceOf_22 : decode cX1_clearanceOf 22 = .ok (.iadd, 1) := by decide +kernel
theorem dX1_clearanceOf_23 : decode cX1_clearanceOf 23 = .ok (.iaload, 1) := by decide +kernel
theorem dX1_clearanceOf_24 : decode cX1_clearanceOf 24 = .ok (.goto 4, 3) := by decide +kernel
theorem dX1_clearanceOf_27 : decode cX1_clearanceOf 27 = .ok (.iconst 0, 1) := by decide +kernel
theorem dX1_clearanceOf_28 : decode cX1_clearanceOf 28 = .ok (.ireturn, 1) := by decide +kernel
set_option maxRecDepth 20000 in
theorem ggX1_clashesWithAny_X1_isClashingPair : GoodIn wsX1_clashesWithAny wsX1_isClashingPair := goodIn_r _ [6, 7, 8, 9, 10, 11, 5, 12, 13, 14, 15, 16, 17, 18, 19, 20, 21, 22, 23, 24, 25, 26, 27, 28, 29, 30, 31, 32, 33, 34, 35, 36, 37, 38, 39, 40, 41, 42, 43, 44, 45, 46, 47, 48, 57, 58, 59, 60, 61, 62, 63, 64, 65, 66, 49, 50, 51, 52, 53, 54, 55, 56] (by decide +kernel) (by decide +kernel)
set_option maxRecDepth 20000 in
theorem gX1_clashesWithAny_X1_isClashingPair : GoodIn wsX1_clashesWithAny (wsV RX1 181 RX1 yX1_isClashingPair wsX1_isClashingPair) := goodIn_app (goodIn_of _ (by decide +kernel)) ggX1_clashesWithAny_X1_isClashingPair
theorem dX1_clashesWithAny_0 : decode cX1_clashesWithAny 0 = .ok (.iconst 0, 1) := by decide +kernel
theorem dX1_clashesWithAny_1 : decode cX1_clashesWithAny 1 = .ok (.istore_n 2, 1) := by decide +kernel
theorem dX1_clashesWithAny_2 : decode cX1_clashesWithAny 2 = .ok (.iload_n 2, 1) := by decide +kernel
theorem dX1_clashesWithAny_3 : decode cX1_clashesWithAny 3 = .ok (.aload_n 0, 1) := by decide +kernel
theorem dX1_clashesWithAny_4 : decode cX1_clashesWithAny 4 = .ok (.getfield 15, 3) := by decide +kernel
theorem dX1_clashesWithAny_7 : decode cX1_clashesWithAny 7 = .ok (.if_icmp .ge 20, 3) := by decide +kernel
theorem dX1_clashesWithAny_10 : decode cX1_clashesWithAny 10 = .ok (.aload_n 0, 1) := by decide +kernel
theorem dX1_clashesWithAny_11 : decode cX1_clashesWithAny 11 = .ok (.iload_n 1, 1) := by decide +kernel
theorem dX1_clashesWithAny_12 : decode cX1_clashesWithAny 12 = .ok (.iload_n 2, 1) := by decide +kernel
theorem dX1_clashesWithAny_13 : decode cX1_clashesWithAny 13 = .ok (.invokevirtual 181, 3) := by decide +kernel
theorem dX1_clashesWithAny_16 : decode cX1_clashesWithAny 16 = .ok (.ifCond .eq 5, 3) := by decide +kernel
theorem dX1_clashesWithAny_19 : decode cX1_clashesWithAny 19 = .ok (.iconst 1, 1) := by decide +kernel
theorem dX1_clashesWithAny_20 : decode cX1_clashesWithAny 20 = .ok (.ireturn, 1) := by decide +kernel
theorem dX1_clashesWithAny_21 : decode cX1_clashesWithAny 21 = .ok (.iinc 2 1, 3) := by decide +kernel
theorem dX1_clashesWithAny_24 : decode cX1_clashesWithAny 24 = .ok (.goto (-22), 3) := by decide +kernel
theorem dX1_clashesWithAny_27 : decode cX1_clashesWithAny 27 = .ok (.iconst 0, 1) := by decide +kernel
theorem dX1_clashesWithAny_28 : decode cX1_clashesWithAny 28 = .ok (.ireturn, 1) := by decide +kernel
set_option maxRecDepth 20000 in
theorem ggX1_clashesWithEarlier_X1_isClashingPair : GoodIn wsX1_clashesWithEarlier wsX1_isClashingPair := goodIn_r _ [5, 6, 7, 8, 9, 10, 4, 11, 12, 13, 14, 15, 16, 17, 18, 19, 20, 21, 22, 23, 24, 25, 26, 27, 28, 29, 30, 31, 32, 33, 34, 35, 36, 37, 38, 39, 40, 41, 42, 43, 44, 45, 46, 47, 48, 49, 50, 51, 52, 53, 54, 55, 56, 57, 58, 59, 60, 61, 62, 63, 64, 65] (by decide +kernel) (by decide +kernel)
set_option maxRecDepth 20000 in
theorem gX1_clashesWithEarlier_X1_isClashingPair : GoodIn wsX1_clashesWithEarlier (wsV RX1 181 RX1 yX1_isClashingPair wsX1_isClashingPair) := goodIn_app (goodIn_of _ (by decide +kernel)) ggX1_clashesWithEarlier_X1_isClashingPair
theorem dX1_clashesWithEarlier_0 : decode cX1_clashesWithEarlier 0 = .ok (.iconst 0, 1) := by decide +kernel
theorem dX1_clashesWithEarlier_1 : decode cX1_clashesWithEarlier 1 = .ok (.istore_n 2, 1) := by decide +kernel
theorem dX1_clashesWithEarlier_2 : decode cX1_clashesWithEarlier 2 = .ok (.iconst 0, 1) := by decide +kernel
theorem dX1_clashesWithEarlier_3 : decode cX1_clashesWithEarlier 3 = .ok (.istore_n 3, 1) := by decide +kernel
theorem dX1_clashesWithEarlier_4 : decode cX1_clashesWithEarlier 4 = .ok (.iload_n 3, 1) := by decide +kernel
theorem dX1_clashesWithEarlier_5 : decode cX1_clashesWithEarlier 5 = .ok (.iload_n 1, 1) := by decide +kernel
theorem dX1_clashesWithEarlier_6 : decode cX1_clashesWithEarlier 6 = .ok (.if_icmp .ge 21, 3) := by decide +kernel
theorem dX1_clashesWithEarlier_9 : decode cX1_clashesWithEarlier 9 = .ok (.aload_n 0, 1) := by decide +kernel
theorem dX1_clashesWithEarlier_10 : decode cX1_clashesWithEarlier 10 = .ok (.iload_n 1, 1) := by decide +kernel
theorem dX1_clashesWithEarlier_11 : decode cX1_clashesWithEarlier 11 = .ok (.iload_n 3, 1) := by decide +kernel
theorem dX1_clashesWithEarlier_12 : decode cX1_clashesWithEarlier 12 = .ok (.invokevirtual 181, 3) := by decide +kernel
theorem dX1_clashesWithEarlier_15 : decode cX1_clashesWithEarlier 15 = .ok (.ifCond .eq 6, 3) := by decide +kernel
theorem dX1_clashesWithEarlier_18 : decode cX1_clashesWithEarlier 18 = .ok (.iinc 2 1, 3) := by decide +kernel
theorem dX1_clashesWithEarlier_21 : decode cX1_clashesWithEarlier 21 = .ok (.iinc 3 1, 3) := by decide +kernel
theorem dX1_clashesWithEarlier_24 : decode cX1_clashesWithEarlier 24 = .ok (.goto (-20), 3) := by decide +kernel
theorem dX1_clashesWithEarlier_27 : decode cX1_clashesWithEarlier 27 = .ok (.iload_n 2, 1) := by decide +kernel
theorem dX1_clashesWithEarlier_28 : decode cX1_clashesWithEarlier 28 = .ok (.ireturn, 1) := by decide +kernel
set_option maxRecDepth 20000 in
theorem ggX1_isFinished_X1_find : GoodIn wsX1_isFinished wsX1_find := goodIn_r _ [8, 9, 10, 11, 7, 12, 54, 55, 56, 57, 58, 59, 60, 61] (by decide +kernel) (by decide +kernel)
set_option maxRecDepth 20000 in
theorem gX1_isFinished_X1_find : GoodIn wsX1_isFinished (wsV RX1 74 RX1 yX1_find wsX1_find) := goodIn_app (goodIn_of _ (by decide +kernel)) ggX1_isFinished_X1_find
set_option maxRecDepth 20000 in
theorem ggX1_isFinished_X0_isThere : GoodIn wsX1_isFinished wsX0_isThere := goodIn_r _ [17, 18, 62, 63, 64, 65, 66, 67, 68, 69, 70, 71] (by decide +kernel) (by decide +kernel)
set_option maxRecDepth 20000 in
theorem gX1_isFinished_X0_isThere : GoodIn wsX1_isFinished (wsV RX1 194 RX0 yX0_isThere wsX0_isThere) := goodIn_app (goodIn_of _ (by decide +kernel)) ggX1_isFinished_X0_isThere
set_option maxRecDepth 20000 in
theorem ggX1_isFinished_X1_clashesWithAny : GoodIn wsX1_isFinished wsX1_clashesWithAny := goodIn_r _ [22, 1, 23, 24, 25, 7, 26, 2, 27, 4, 5, 6, 8, 9, 10, 11, 12, 13, 14, 15, 16, 17, 18, 28, 29, 30, 31, 32, 33, 34, 35, 36, 37, 38, 39, 40, 41, 42, 43, 44, 45, 46, 47, 48, 49, 50, 51, 52, 53, 54, 55, 56, 57, 58, 59, 60, 61, 62, 63, 64, 65, 66, 67, 68, 69, 70, 71] (by decide +kernel) (by decide +kernel)
set_option maxRecDepth 20000 in
theorem gX1_isFinished_X1_clashesWithAny : GoodIn wsX1_isFinished (wsV RX1 144 RX1 yX1_clashesWithAny wsX1_clashesWithAny) := goodIn_app (goodIn_of _ (by decide +kernel)) ggX1_isFinished_X1_clashesWithAny
theorem dX1_isFinished_0 : decode cX1_isFinished 0 = .ok (.iconst 0, 1) := by decide +kernel
theorem dX1_isFinished_1 : decode cX1_isFinished 1 = .ok (.istore_n 2, 1) := by decide +kernel
theorem dX1_isFinished_2 : decode cX1_isFinished 2 = .ok (.iconst 0, 1) := by decide +kernel
theorem dX1_isFinished_3 : decode cX1_isFinished 3 = .ok (.istore_n 3, 1) := by decide +kernel
theorem dX1_isFinished_4 : decode cX1_isFinished 4 = .ok (.iload_n 3, 1) := by decide +kernel
theorem dX1_isFinished_5 : decode cX1_isFinished 5 = .ok (.aload_n 0, 1) := by decide +kernel
theorem dX1_isFinished_6 : decode cX1_isFinished 6 = .ok (.getfield 15, 3) := by decide +kernel
theorem dX1_isFinished_9 : decode cX1_isFinished 9 = .ok (.if_icmp .ge 59, 3) := by decide +kernel
theorem dX1_isFinished_12 : decode cX1_isFinished 12 = .ok (.aload_n 0, 1) := by decide +kernel
theorem dX1_isFinished_13 : decode cX1_isFinished 13 = .ok (.iload_n 3, 1) := by decide +kernel
theorem dX1_isFinished_14 : decode cX1_isFinished 14 = .ok (.invokevirtual 74, 3) := by decide +kernel
theorem dX1_isFinished_17 : decode cX1_isFinished 17 = .ok (.astore 4, 2) := by decide +kernel
theorem dX1_isFinished_19 : decode cX1_isFinished 19 = .ok (.aload 4, 2) := by decide +kernel
theorem dX1_isFinished_21 : decode cX1_isFinished 21 = .ok (.ifnull 41, 3) := by decide +kernel
theorem dX1_isFinished_24 : decode cX1_isFinished 24 = .ok (.aload 4, 2) := by decide +kernel
theorem dX1_isFinished_26 : decode cX1_isFinished 26 = .ok (.getfield 154, 3) := by decide +kernel
theorem dX1_isFinished_29 : decode cX1_isFinished 29 = .ok (.iload_n 1, 1) := by decide +kernel
theorem dX1_isFinished_30 : decode cX1_isFinished 30 = .ok (.if_icmp .ne 32, 3) := by decide +kernel
theorem dX1_isFinished_33 : decode cX1_isFinished 33 = .ok (.aload 4, 2) := by decide +kernel
theorem dX1_isFinished_35 : decode cX1_isFinished 35 = .ok (.invokevirtual 194, 3) := by decide +kernel
theorem dX1_isFinished_38 : decode cX1_isFinished 38 = .ok (.ifCond .eq 24, 3) := by decide +kernel
theorem dX1_isFinished_41 : decode cX1_isFinished 41 = .ok (.iconst 1, 1) := by decide +kernel
theorem dX1_isFinished_42 : decode cX1_isFinished 42 = .ok (.istore_n 2, 1) := by decide +kernel
theorem dX1_isFinished_43 : decode cX1_isFinished 43 = .ok (.aload 4, 2) := by decide +kernel
theorem dX1_isFinished_45 : decode cX1_isFinished 45 = .ok (.getfield 93, 3) := by decide +kernel
theorem dX1_isFinished_48 : decode cX1_isFinished 48 = .ok (.iconst 3, 1) := by decide +kernel
theorem dX1_isFinished_49 : decode cX1_isFinished 49 = .ok (.if_icmp .ne 11, 3) := by decide +kernel
theorem dX1_isFinished_52 : decode cX1_isFinished 52 = .ok (.aload_n 0, 1) := by decide +kernel
theorem dX1_isFinished_53 : decode cX1_isFinished 53 = .ok (.iload_n 3, 1) := by decide +kernel
theorem dX1_isFinished_54 : decode cX1_isFinished 54 = .ok (.invokevirtual 144, 3) := by decide +kernel
theorem dX1_isFinished_57 : decode cX1_isFinished 57 = .ok (.ifCond .eq 5, 3) := by decide +kernel
theorem dX1_isFinished_60 : decode cX1_isFinished 60 = .ok (.iconst 0, 1) := by decide +kernel
theorem dX1_isFinished_61 : decode cX1_isFinished 61 = .ok (.ireturn, 1) := by decide +kernel
theorem dX1_isFinished_62 : decode cX1_isFinished 62 = .ok (.iinc 3 1, 3) := by decide +kernel
theorem dX1_isFinished_65 : decode cX1_isFinished 65 = .ok (.goto (-61), 3) := by decide +kernel
theorem dX1_isFinished_68 : decode cX1_isFinished 68 = .ok (.iload_n 2, 1) := by decide +kernel
theorem dX1_isFinished_69 : decode cX1_isFinished 69 = .ok (.ireturn, 1) := by decide +kernel
set_option maxRecDepth 20000 in
theorem ggX1_leadDaysOf_X1_isKind : GoodIn wsX1_leadDaysOf wsX1_isKind := goodIn_r _ [5, 6, 7, 4, 8] (by decide +kernel) (by decide +kernel)
set_option maxRecDepth 20000 in
theorem gX1_leadDaysOf_X1_isKind : GoodIn wsX1_leadDaysOf (va_wsS RX1 39 yX1_isKind wsX1_isKind) := goodIn_app (goodIn_of _ (by decide +kernel)) ggX1_leadDaysOf_X1_isKind
theorem dX1_leadDaysOf_0 : decode cX1_leadDaysOf 0 = .ok (.iload_n 1, 1) := by decide +kernel
theorem dX1_leadDaysOf_1 : decode cX1_leadDaysOf 1 = .ok (.invokestatic 39, 3) := by decide +kernel
theorem dX1_leadDaysOf_4 : decode cX1_leadDaysOf 4 = .ok (.ifCond .eq 12, 3) := by decide +kernel
theorem dX1_leadDaysOf_7 : decode cX1_leadDaysOf 7 = .ok (.aload_n 0, 1) := by decide +kernel
theorem dX1_leadDaysOf_8 : decode cX1_leadDaysOf 8 = .ok (.getfield 26, 3) := by decide +kernel
theorem dX1_leadDaysOf_11 : decode cX1_leadDaysOf 11 = .ok (.iload_n 1, 1) := by decide +kernel
theorem dX1_leadDaysOf_12 : decode cX1_leadDaysOf 12 = .ok (.iaload, 1) := by decide +kernel
theorem dX1_leadDaysOf_13 : decode cX1_leadDaysOf 13 = .ok (.goto 4, 3) := by decide +kernel
theorem dX1_leadDaysOf_16 : decode cX1_leadDaysOf 16 = .ok (.iconst 0, 1) := by decide +kernel
theorem dX1_leadDaysOf_17 : decode cX1_leadDaysOf 17 = .ok (.ireturn, 1) := by decide +kernel
set_option maxRecDepth 20000 in
theorem ggX1_partsOf_X1_isKind : GoodIn wsX1_partsOf wsX1_isKind := goodIn_r _ [6, 7, 8, 5, 9] (by decide +kernel) (by decide +kernel)
set_option maxRecDepth 20000 in
theorem gX1_partsOf_X1_isKind : GoodIn wsX1_partsOf (va_wsS RX1 39 yX1_isKind wsX1_isKind) := goodIn_app (goodIn_of _ (by decide +kernel)) ggX1_partsOf_X1_isKind
set_option maxRecDepth 20000 in
theorem ggX1_partsOf_X0_cells : GoodIn wsX1_partsOf wsX0_cells := goodIn_r _ [14, 15, 16, 17, 18, 19, 20, 21, 22, 23, 24, 25, 26, 27, 28, 29, 30, 31, 32] (by decide +kernel) (by decide +kernel)
set_option maxRecDepth 20000 in
theorem gX1_partsOf_X0_cells : GoodIn wsX1_partsOf (wsV RX1 175 RX0 yX0_cells wsX0_cells) := goodIn_app (goodIn_of _ (by decide +kernel)) ggX1_partsOf_X0_cells
theorem dX1_partsOf_0 : decode cX1_partsOf 0 = .ok (.aload_n 1, 1) := by decide +kernel
theorem dX1_partsOf_1 : decode cX1_partsOf 1 = .ok (.getfield 122, 3) := by decide +kernel
theorem dX1_partsOf_4 : decode cX1_partsOf 4 = .ok (.invokestatic 39, 3) := by decide +kernel
theorem dX1_partsOf_7 : decode cX1_partsOf 7 = .ok (.ifCond .eq 15, 3) := by decide +kernel
theorem dX1_partsOf_10 : decode cX1_partsOf 10 = .ok (.aload_n 0, 1) := by decide +kernel
theorem dX1_partsOf_11 : decode cX1_partsOf 11 = .ok (.getfield 23, 3) := by decide +kernel
theorem dX1_partsOf_14 : decode cX1_partsOf 14 = .ok (.aload_n 1, 1) := by decide +kernel
theorem dX1_partsOf_15 : decode cX1_partsOf 15 = .ok (.getfield 122, 3) := by decide +kernel
theorem dX1_partsOf_18 : decode cX1_partsOf 18 = .ok (.iaload, 1) := by decide +kernel
theorem dX1_partsOf_19 : decode cX1_partsOf 19 = .ok (.goto 4, 3) := by decide +kernel
theorem dX1_partsOf_22 : decode cX1_partsOf 22 = .ok (.iconst 0, 1) := by decide +kernel
theorem dX1_partsOf_23 : decode cX1_partsOf 23 = .ok (.istore_n 2, 1) := by decide +kernel
theorem dX1_partsOf_24 : decode cX1_partsOf 24 = .ok (.iload_n 2, 1) := by decide +kernel
theorem dX1_partsOf_25 : decode cX1_partsOf 25 = .ok (.ifCond .le 16, 3) := by decide +kernel
theorem dX1_partsOf_28 : decode cX1_partsOf 28 = .ok (.aload_n 1, 1) := by decide +kernel
theorem dX1_partsOf_29 : decode cX1_partsOf 29 = .ok (.invokevirtual 175, 3) := by decide +kernel
theorem dX1_partsOf_32 : decode cX1_partsOf 32 = .ok (.iload_n 2, 1) := by decide +kernel
theorem dX1_partsOf_33 : decode cX1_partsOf 33 = .ok (.iadd, 1) := by decide +kernel
theorem dX1_partsOf_34 : decode cX1_partsOf 34 = .ok (.iconst 1, 1) := by decide +kernel
theorem dX1_partsOf_35 : decode cX1_partsOf 35 = .ok (.isub, 1) := by decide +kernel
theorem dX1_partsOf_36 : decode cX1_partsOf 36 = .ok (.iload_n 2, 1) := by decide +kernel
theorem dX1_partsOf_37 : decode cX1_partsOf 37 = .ok (.idiv, 1) := by decide +kernel
theorem dX1_partsOf_38 : decode cX1_partsOf 38 = .ok (.goto 4, 3) := by decide +kernel
theorem dX1_partsOf_41 : decode cX1_partsOf 41 = .ok (.iconst 0, 1) := by decide +kernel
theorem dX1_partsOf_42 : decode cX1_partsOf 42 = .ok (.ireturn, 1) := by decide +kernel
set_option maxRecDepth 20000 in
theorem ggX1_partsInStates_X1_find : GoodIn wsX1_partsInStates wsX1_find := goodIn_r _ [8, 9, 10, 11, 7, 12, 34, 35, 36, 37, 38, 39, 40, 41] (by decide +kernel) (by decide +kernel)
set_option maxRecDepth 20000 in
theorem gX1_partsInStates_X1_find : GoodIn wsX1_partsInStates (wsV RX1 74 RX1 yX1_find wsX1_find) := goodIn_app (goodIn_of _ (by decide +kernel)) ggX1_partsInStates_X1_find
set_option maxRecDepth 20000 in
theorem ggX1_partsInStates_X1_isWithin : GoodIn wsX1_partsInStates wsX1_isWithin := goodIn_r _ [12] (by decide +kernel) (by decide +kernel)
set_option maxRecDepth 20000 in
theorem gX1_partsInStates_X1_isWithin : GoodIn wsX1_partsInStates (va_wsS RX1 112 yX1_isWithin wsX1_isWithin) := goodIn_app (goodIn_of _ (by decide +kernel)) ggX1_partsInStates_X1_isWithin
set_option maxRecDepth 20000 in
theorem ggX1_partsInStates_X1_partsOf : GoodIn wsX1_partsInStates wsX1_partsOf := goodIn_r _ [16, 2, 17, 18, 19, 7, 20, 10, 11, 12, 21, 22, 23, 24, 25, 26, 27, 28, 29, 30, 31, 32, 33, 42, 43, 44, 45, 46, 47, 48, 49, 50, 51, 34, 35, 36, 37, 38, 39, 40, 41] (by decide +kernel) (by decide +kernel)
set_option maxRecDepth 20000 in
theorem gX1_partsInStates_X1_partsOf : GoodIn wsX1_partsInStates (wsV RX1 136 RX1 yX1_partsOf wsX1_partsOf) := goodIn_app (goodIn_of _ (by decide +kernel)) ggX1_partsInStates_X1_partsOf
theorem dX1_partsInStates_0 : decode cX1_partsInStates 0 = .ok (.iconst 0, 1) := by decide +kernel
theorem dX1_partsInStates_1 : decode cX1_partsInStates 1 = .ok (.istore 4, 2) := by decide +kernel
theorem dX1_partsInStates_3 : decode cX1_partsInStates 3 = .ok (.iconst 0, 1) := by decide +kernel
theorem dX1_partsInStates_4 : decode cX1_partsInStates 4 = .ok (.istore 5, 2) := by decide +kernel
theorem dX1_partsInStates_6 : decode cX1_partsInStates 6 = .ok (.iload 5, 2) := by decide +kernel
theorem dX1_partsInStates_8 : decode cX1_partsInStates 8 = .ok (.aload_n 0, 1) := by decide +kernel
theorem dX1_partsInStates_9 : decode cX1_partsInStates 9 = .ok (.getfield 15, 3) := by decide +kernel
theorem dX1_partsInStates_12 : decode cX1_partsInStates 12 = .ok (.if_icmp .ge 55, 3) := by decide +kernel
theorem dX1_partsInStates_15 : decode cX1_partsInStates 15 = .ok (.aload_n 0, 1) := by decide +kernel
theorem dX1_partsInStates_16 : decode cX1_partsInStates 16 = .ok (.iload 5, 2) := by decide +kernel
theorem dX1_partsInStates_18 : decode cX1_partsInStates 18 = .ok (.invokevirtual 74, 3) := by decide +kernel
theorem dX1_partsInStates_21 : decode cX1_partsInStates 21 = .ok (.astore 6, 2) := by decide +kernel
theorem dX1_partsInStates_23 : decode cX1_partsInStates 23 = .ok (.aload 6, 2) := by decide +kernel
theorem dX1_partsInStates_25 : decode cX1_partsInStates 25 = .ok (.ifnull 36, 3) := by decide +kernel
theorem dX1_partsInStates_28 : decode cX1_partsInStates 28 = .ok (.aload 6, 2) := by decide +kernel
theorem dX1_partsInStates_30 : decode cX1_partsInStates 30 = .ok (.getfield 122, 3) := by decide +kernel
theorem dX1_partsInStates_33 : decode cX1_partsInStates 33 = .ok (.iload_n 1, 1) := by decide +kernel
theorem dX1_partsInStates_34 : decode cX1_partsInStates 34 = .ok (.if_icmp .ne 27, 3) := by decide +kernel
theorem dX1_partsInStates_37 : decode cX1_partsInStates 37 = .ok (.aload 6, 2) := by decide +kernel
theorem dX1_partsInStates_39 : decode cX1_partsInStates 39 = .ok (.getfield 93, 3) := by decide +kernel
theorem dX1_partsInStates_42 : decode cX1_partsInStates 42 = .ok (.iload_n 2, 1) := by decide +kernel
theorem dX1_partsInStates_43 : decode cX1_partsInStates 43 = .ok (.iload_n 3, 1) := by decide +kernel
theorem dX1_partsInStates_44 : decode cX1_partsInStates 44 = .ok (.invokestatic 112, 3) := by decide +kernel
theorem dX1_partsInStates_47 : decode cX1_partsInStates 47 = .ok (.ifCond .eq 14, 3) := by decide +kernel
theorem dX1_partsInStates_50 : decode cX1_partsInStates 50 = .ok (.iload 4, 2) := by decide +kernel
theorem dX1_partsInStates_52 : decode cX1_partsInStates 52 = .ok (.aload_n 0, 1) := by decide +kernel
theorem dX1_partsInStates_53 : decode cX1_partsInStates 53 = .ok (.aload 6, 2) := by decide +kernel
theorem dX1_partsInStates_55 : decode cX1_partsInStates 55 = .ok (.invokevirtual 136, 3) := by decide +kernel
theorem dX1_partsInStates_58 : decode cX1_partsInStates 58 = .ok (.iadd, 1) := by decide +kernel
theorem dX1_partsInStates_59 : decode cX1_partsInStates 59 = .ok (.istore 4, 2) := by decide +kernel
theorem dX1_partsInStates_61 : decode cX1_partsInStates 61 = .ok (.iinc 5 1, 3) := by decide +kernel
theorem dX1_partsInStates_64 : decode cX1_partsInStates 64 = .ok (.goto (-58), 3) := by decide +kernel
theorem dX1_partsInStates_67 : decode cX1_partsInStates 67 = .ok (.iload 4, 2) := by decide +kernel
theorem dX1_partsInStates_69 : decode cX1_partsInStates 69 = .ok (.ireturn, 1) := by decide +kernel
