theorem dX2_endLoading_8 : decode cX2_endLoading 8 = .ok (.aload_n 0, 1) := by decide +kernel
theorem dX2_endLoading_9 : decode cX2_endLoading 9 = .ok (.getfield 13, 3) := by decide +kernel
theorem dX2_endLoading_12 : decode cX2_endLoading 12 = .ok (.aload_n 0, 1) := by decide +kernel
theorem dX2_endLoading_13 : decode cX2_endLoading 13 = .ok (.getfield 13, 3) := by decide +kernel
theorem dX2_endLoading_16 : decode cX2_endLoading 16 = .ok (.iconst 1, 1) := by decide +kernel
theorem dX2_endLoading_17 : decode cX2_endLoading 17 = .ok (.iadd, 1) := by decide +kernel
theorem dX2_endLoading_18 : decode cX2_endLoading 18 = .ok (.imul, 1) := by decide +kernel
theorem dX2_endLoading_19 : decode cX2_endLoading 19 = .ok (.if_icmp .ge 22, 3) := by decide +kernel
theorem dX2_endLoading_22 : decode cX2_endLoading 22 = .ok (.aload_n 0, 1) := by decide +kernel
theorem dX2_endLoading_23 : decode cX2_endLoading 23 = .ok (.getfield 29, 3) := by decide +kernel
theorem dX2_endLoading_26 : decode cX2_endLoading 26 = .ok (.iload_n 1, 1) := by decide +kernel
theorem dX2_endLoading_27 : decode cX2_endLoading 27 = .ok (.aload_n 0, 1) := by decide +kernel
theorem dX2_endLoading_28 : decode cX2_endLoading 28 = .ok (.getfield 25, 3) := by decide +kernel
theorem dX2_endLoading_31 : decode cX2_endLoading 31 = .ok (.iload_n 1, 1) := by decide +kernel
theorem dX2_endLoading_32 : decode cX2_endLoading 32 = .ok (.invokevirtual 119, 3) := by decide +kernel
theorem dX2_endLoading_35 : decode cX2_endLoading 35 = .ok (.iinc 1 1, 3) := by decide +kernel
theorem dX2_endLoading_38 : decode cX2_endLoading 38 = .ok (.goto (-31), 3) := by decide +kernel
theorem dX2_endLoading_41 : decode cX2_endLoading 41 = .ok (.return_, 1) := by decide +kernel
theorem dX2_isEnded_0 : decode cX2_isEnded 0 = .ok (.aload_n 0, 1) := by decide +kernel
theorem dX2_isEnded_1 : decode cX2_isEnded 1 = .ok (.getfield 51, 3) := by decide +kernel
theorem dX2_isEnded_4 : decode cX2_isEnded 4 = .ok (.iconst 1, 1) := by decide +kernel
theorem dX2_isEnded_5 : decode cX2_isEnded 5 = .ok (.if_icmp .eq 19, 3) := by decide +kernel
theorem dX2_isEnded_8 : decode cX2_isEnded 8 = .ok (.aload_n 0, 1) := by decide +kernel
theorem dX2_isEnded_9 : decode cX2_isEnded 9 = .ok (.getfield 51, 3) := by decide +kernel
theorem dX2_isEnded_12 : decode cX2_isEnded 12 = .ok (.iconst 2, 1) := by decide +kernel
theorem dX2_isEnded_13 : decode cX2_isEnded 13 = .ok (.if_icmp .eq 11, 3) := by decide +kernel
theorem dX2_isEnded_16 : decode cX2_isEnded 16 = .ok (.aload_n 0, 1) := by decide +kernel
theorem dX2_isEnded_17 : decode cX2_isEnded 17 = .ok (.getfield 51, 3) := by decide +kernel
theorem dX2_isEnded_20 : decode cX2_isEnded 20 = .ok (.iconst 3, 1) := by decide +kernel
theorem dX2_isEnded_21 : decode cX2_isEnded 21 = .ok (.if_icmp .ne 7, 3) := by decide +kernel
theorem dX2_isEnded_24 : decode cX2_isEnded 24 = .ok (.iconst 1, 1) := by decide +kernel
theorem dX2_isEnded_25 : decode cX2_isEnded 25 = .ok (.goto 4, 3) := by decide +kernel
theorem dX2_isEnded_28 : decode cX2_isEnded 28 = .ok (.iconst 0, 1) := by decide +kernel
theorem dX2_isEnded_29 : decode cX2_isEnded 29 = .ok (.ireturn, 1) := by decide +kernel
theorem dX2_isPlace_0 : decode cX2_isPlace 0 = .ok (.iload_n 1, 1) := by decide +kernel
theorem dX2_isPlace_1 : decode cX2_isPlace 1 = .ok (.ifCond .lt 27, 3) := by decide +kernel
theorem dX2_isPlace_4 : decode cX2_isPlace 4 = .ok (.iload_n 1, 1) := by decide +kernel
theorem dX2_isPlace_5 : decode cX2_isPlace 5 = .ok (.aload_n 0, 1) := by decide +kernel
theorem dX2_isPlace_6 : decode cX2_isPlace 6 = .ok (.getfield 13, 3) := by decide +kernel
theorem dX2_isPlace_9 : decode cX2_isPlace 9 = .ok (.if_icmp .ge 19, 3) := by decide +kernel
theorem dX2_isPlace_12 : decode cX2_isPlace 12 = .ok (.iload_n 2, 1) := by decide +kernel
theorem dX2_isPlace_13 : decode cX2_isPlace 13 = .ok (.ifCond .lt 15, 3) := by decide +kernel
theorem dX2_isPlace_16 : decode cX2_isPlace 16 = .ok (.iload_n 2, 1) := by decide +kernel
theorem dX2_isPlace_17 : decode cX2_isPlace 17 = .ok (.aload_n 0, 1) := by decide +kernel
theorem dX2_isPlace_18 : decode cX2_isPlace 18 = .ok (.getfield 13, 3) := by decide +kernel
theorem dX2_isPlace_21 : decode cX2_isPlace 21 = .ok (.if_icmp .gt 7, 3) := by decide +kernel
theorem dX2_isPlace_24 : decode cX2_isPlace 24 = .ok (.iconst 1, 1) := by decide +kernel
theorem dX2_isPlace_25 : decode cX2_isPlace 25 = .ok (.goto 4, 3) := by decide +kernel
theorem dX2_isPlace_28 : decode cX2_isPlace 28 = .ok (.iconst 0, 1) := by decide +kernel
theorem dX2_isPlace_29 : decode cX2_isPlace 29 = .ok (.ireturn, 1) := by decide +kernel
theorem dX2_slotAt_0 : decode cX2_slotAt 0 = .ok (.aload_n 0, 1) := by decide +kernel
theorem dX2_slotAt_1 : decode cX2_slotAt 1 = .ok (.getfield 44, 3) := by decide +kernel
theorem dX2_slotAt_4 : decode cX2_slotAt 4 = .ok (.iload_n 1, 1) := by decide +kernel
theorem dX2_slotAt_5 : decode cX2_slotAt 5 = .ok (.iaload, 1) := by decide +kernel
theorem dX2_slotAt_6 : decode cX2_slotAt 6 = .ok (.aload_n 0, 1) := by decide +kernel
theorem dX2_slotAt_7 : decode cX2_slotAt 7 = .ok (.getfield 13, 3) := by decide +kernel
theorem dX2_slotAt_10 : decode cX2_slotAt 10 = .ok (.iconst 1, 1) := by decide +kernel
theorem dX2_slotAt_11 : decode cX2_slotAt 11 = .ok (.iadd, 1) := by decide +kernel
theorem dX2_slotAt_12 : decode cX2_slotAt 12 = .ok (.imul, 1) := by decide +kernel
theorem dX2_slotAt_13 : decode cX2_slotAt 13 = .ok (.iload_n 2, 1) := by decide +kernel
theorem dX2_slotAt_14 : decode cX2_slotAt 14 = .ok (.iadd, 1) := by decide +kernel
theorem dX2_slotAt_15 : decode cX2_slotAt 15 = .ok (.ireturn, 1) := by decide +kernel
set_option maxRecDepth 20000 in
theorem ggX2_eliminateColumn_X2_findPivotRow : GoodIn wsX2_eliminateColumn wsX2_findPivotRow := goodIn_r _ [7, 2, 8, 9, 10, 11, 6, 12, 13, 14, 15, 16, 17, 18, 19, 118, 119, 120, 121, 122, 123, 124, 125, 126, 127, 128, 129, 130, 131, 132, 133, 134, 135] (by decide +kernel) (by decide +kernel)
set_option maxRecDepth 20000 in
theorem gX2_eliminateColumn_X2_findPivotRow : GoodIn wsX2_eliminateColumn (wsV RX2 123 RX2 yX2_findPivotRow wsX2_findPivotRow) := goodIn_app (goodIn_of _ (by decide +kernel)) ggX2_eliminateColumn_X2_findPivotRow
set_option maxRecDepth 20000 in
theorem ggX2_eliminateColumn_X2_swapRows : GoodIn wsX2_eliminateColumn wsX2_swapRows := goodIn_r _ [23, 13, 24, 118, 119, 120, 121, 122, 123, 124, 125, 126, 127, 128, 129, 130, 131] (by decide +kernel) (by decide +kernel)
set_option maxRecDepth 20000 in
theorem gX2_eliminateColumn_X2_swapRows : GoodIn wsX2_eliminateColumn (wsV RX2 126 RX2 yX2_swapRows wsX2_swapRows) := goodIn_app (goodIn_of _ (by decide +kernel)) ggX2_eliminateColumn_X2_swapRows
set_option maxRecDepth 20000 in
theorem ggX2_eliminateColumn_X2_makeMinor : GoodIn wsX2_eliminateColumn wsX2_makeMinor := goodIn_r _ [28, 29, 8, 30, 31, 32, 33, 34, 35, 36, 37, 38, 39, 40, 41, 42, 9, 10, 11, 6, 12, 13, 2, 43, 44, 45, 46, 47, 15, 16, 17, 18, 19, 48, 49, 50, 51, 52, 53, 54, 55, 56, 57, 58, 59, 60, 61, 62, 63, 64, 65, 66, 67, 68, 69, 70, 71, 72, 73, 74, 75, 76, 77, 78, 79, 80, 81, 82, 83, 84, 85, 86, 87, 88, 89, 90, 91, 92, 93, 94, 95, 96, 97, 98, 99, 100, 101, 102, 103, 104, 105, 106, 107, 108, 109, 110, 111, 112, 113, 114, 115, 116, 117, 118, 119, 120, 121, 122, 123, 124, 125, 126, 127, 128, 129, 130, 131, 136, 137, 138, 139, 140, 141, 132, 133, 134, 135] (by decide +kernel) (by decide +kernel)
set_option maxRecDepth 20000 in
theorem gX2_eliminateColumn_X2_makeMinor : GoodIn wsX2_eliminateColumn (wsV RX2 129 RX2 yX2_makeMinor wsX2_makeMinor) := goodIn_app (goodIn_of _ (by decide +kernel)) ggX2_eliminateColumn_X2_makeMinor
theorem dX2_eliminateColumn_0 : decode cX2_eliminateColumn 0 = .ok (.aload_n 0, 1) := by decide +kernel
theorem dX2_eliminateColumn_1 : decode cX2_eliminateColumn 1 = .ok (.iload_n 1, 1) := by decide +kernel
theorem dX2_eliminateColumn_2 : decode cX2_eliminateColumn 2 = .ok (.invokevirtual 123, 3) := by decide +kernel
theorem dX2_eliminateColumn_5 : decode cX2_eliminateColumn 5 = .ok (.istore_n 2, 1) := by decide +kernel
theorem dX2_eliminateColumn_6 : decode cX2_eliminateColumn 6 = .ok (.iload_n 2, 1) := by decide +kernel
theorem dX2_eliminateColumn_7 : decode cX2_eliminateColumn 7 = .ok (.iconst (-1), 1) := by decide +kernel
theorem dX2_eliminateColumn_8 : decode cX2_eliminateColumn 8 = .ok (.if_icmp .ne 5, 3) := by decide +kernel
theorem dX2_eliminateColumn_11 : decode cX2_eliminateColumn 11 = .ok (.iconst 2, 1) := by decide +kernel
theorem dX2_eliminateColumn_12 : decode cX2_eliminateColumn 12 = .ok (.ireturn, 1) := by decide +kernel
theorem dX2_eliminateColumn_13 : decode cX2_eliminateColumn 13 = .ok (.iload_n 2, 1) := by decide +kernel
theorem dX2_eliminateColumn_14 : decode cX2_eliminateColumn 14 = .ok (.iload_n 1, 1) := by decide +kernel
theorem dX2_eliminateColumn_15 : decode cX2_eliminateColumn 15 = .ok (.if_icmp .eq 9, 3) := by decide +kernel
theorem dX2_eliminateColumn_18 : decode cX2_eliminateColumn 18 = .ok (.aload_n 0, 1) := by decide +kernel
theorem dX2_eliminateColumn_19 : decode cX2_eliminateColumn 19 = .ok (.iload_n 1, 1) := by decide +kernel
theorem dX2_eliminateColumn_20 : decode cX2_eliminateColumn 20 = .ok (.iload_n 2, 1) := by decide +kernel
theorem dX2_eliminateColumn_21 : decode cX2_eliminateColumn 21 = .ok (.invokevirtual 126, 3) := by decide +kernel
theorem dX2_eliminateColumn_24 : decode cX2_eliminateColumn 24 = .ok (.aload_n 0, 1) := by decide +kernel
theorem dX2_eliminateColumn_25 : decode cX2_eliminateColumn 25 = .ok (.iload_n 1, 1) := by decide +kernel
theorem dX2_eliminateColumn_26 : decode cX2_eliminateColumn 26 = .ok (.iconst 1, 1) := by decide +kernel
theorem dX2_eliminateColumn_27 : decode cX2_eliminateColumn 27 = .ok (.iadd, 1) := by decide +kernel
theorem dX2_eliminateColumn_28 : decode cX2_eliminateColumn 28 = .ok (.putfield 97, 3) := by decide +kernel
theorem dX2_eliminateColumn_31 : decode cX2_eliminateColumn 31 = .ok (.iload_n 1, 1) := by decide +kernel
theorem dX2_eliminateColumn_32 : decode cX2_eliminateColumn 32 = .ok (.iconst 1, 1) := by decide +kernel
theorem dX2_eliminateColumn_33 : decode cX2_eliminateColumn 33 = .ok (.iadd, 1) := by decide +kernel
theorem dX2_eliminateColumn_34 : decode cX2_eliminateColumn 34 = .ok (.istore_n 3, 1) := by decide +kernel
theorem dX2_eliminateColumn_35 : decode cX2_eliminateColumn 35 = .ok (.iload_n 3, 1) := by decide +kernel
theorem dX2_eliminateColumn_36 : decode cX2_eliminateColumn 36 = .ok (.aload_n 0, 1) := by decide +kernel
theorem dX2_eliminateColumn_37 : decode cX2_eliminateColumn 37 = .ok (.getfield 13, 3) := by decide +kernel
theorem dX2_eliminateColumn_40 : decode cX2_eliminateColumn 40 = .ok (.if_icmp .ge 42, 3) := by decide +kernel
theorem dX2_eliminateColumn_43 : decode cX2_eliminateColumn 43 = .ok (.iload_n 1, 1) := by decide +kernel
theorem dX2_eliminateColumn_44 : decode cX2_eliminateColumn 44 = .ok (.iconst 1, 1) := by decide +kernel
theorem dX2_eliminateColumn_45 : decode cX2_eliminateColumn 45 = .ok (.iadd, 1) := by decide +kernel
theorem dX2_eliminateColumn_46 : decode cX2_eliminateColumn 46 = .ok (.istore 4, 2) := by decide +kernel
theorem dX2_eliminateColumn_48 : decode cX2_eliminateColumn 48 = .ok (.iload 4, 2) := by decide +kernel
theorem dX2_eliminateColumn_50 : decode cX2_eliminateColumn 50 = .ok (.aload_n 0, 1) := by decide +kernel
theorem dX2_eliminateColumn_51 : decode cX2_eliminateColumn 51 = .ok (.getfield 13, 3) := by decide +kernel
theorem dX2_eliminateColumn_54 : decode cX2_eliminateColumn 54 = .ok (.if_icmp .gt 22, 3) := by decide +kernel
theorem dX2_eliminateColumn_57 : decode cX2_eliminateColumn 57 = .ok (.aload_n 0, 1) := by decide +kernel
theorem dX2_eliminateColumn_58 : decode cX2_eliminateColumn 58 = .ok (.iload_n 1, 1) := by decide +kernel
theorem dX2_eliminateColumn_59 : decode cX2_eliminateColumn 59 = .ok (.iload_n 3, 1) := by decide +kernel
theorem dX2_eliminateColumn_60 : decode cX2_eliminateColumn 60 = .ok (.iload 4, 2) := by decide +kernel
theorem dX2_eliminateColumn_62 : decode cX2_eliminateColumn 62 = .ok (.invokevirtual 129, 3) := by decide +kernel
theorem dX2_eliminateColumn_65 : decode cX2_eliminateColumn 65 = .ok (.ifCond .ne 5, 3) := by decide +kernel
theorem dX2_eliminateColumn_68 : decode cX2_eliminateColumn 68 = .ok (.iconst 3, 1) := by decide +kernel
theorem dX2_eliminateColumn_69 : decode cX2_eliminateColumn 69 = .ok (.ireturn, 1) := by decide +kernel
theorem dX2_eliminateColumn_70 : decode cX2_eliminateColumn 70 = .ok (.iinc 4 1, 3) := by decide +kernel
theorem dX2_eliminateColumn_73 : decode cX2_eliminateColumn 73 = .ok (.goto (-25), 3) := by decide +kernel
theorem dX2_eliminateColumn_76 : decode cX2_eliminateColumn 76 = .ok (.iinc 3 1, 3) := by decide +kernel
theorem dX2_eliminateColumn_79 : decode cX2_eliminateColumn 79 = .ok (.goto (-44), 3) := by decide +kernel
theorem dX2_eliminateColumn_82 : decode cX2_eliminateColumn 82 = .ok (.iconst 0, 1) := by decide +kernel
theorem dX2_eliminateColumn_83 : decode cX2_eliminateColumn 83 = .ok (.ireturn, 1) := by decide +kernel
set_option maxRecDepth 20000 in
theorem ggX2_findPivotRow_X2_slotAt : GoodIn wsX2_findPivotRow wsX2_slotAt := goodIn_r _ [7, 8, 1, 15, 16, 17, 18, 19, 20, 21, 22, 23, 24, 25, 26, 27, 28] (by decide +kernel) (by decide +kernel)
set_option maxRecDepth 20000 in
theorem gX2_findPivotRow_X2_slotAt : GoodIn wsX2_findPivotRow (wsV RX2 58 RX2 yX2_slotAt wsX2_slotAt) := goodIn_app (goodIn_of _ (by decide +kernel)) ggX2_findPivotRow_X2_slotAt
set_option maxRecDepth 20000 in
theorem ggX2_findPivotRow_X0_signOf : GoodIn wsX2_findPivotRow wsX0_signOf := goodIn_r _ [13, 14, 29, 30, 31, 32] (by decide +kernel) (by decide +kernel)
set_option maxRecDepth 20000 in
theorem gX2_findPivotRow_X0_signOf : GoodIn wsX2_findPivotRow (wsV RX2 133 RX0 yX0_signOf wsX0_signOf) := goodIn_app (goodIn_of _ (by decide +kernel)) ggX2_findPivotRow_X0_signOf
theorem dX2_findPivotRow_0 : decode cX2_findPivotRow 0 = .ok (.iload_n 1, 1) := by decide +kernel
theorem dX2_findPivotRow_1 : decode cX2_findPivotRow 1 = .ok (.istore_n 2, 1) := by decide +kernel
theorem dX2_findPivotRow_2 : decode cX2_findPivotRow 2 = .ok (.iload_n 2, 1) := by decide +kernel
theorem dX2_findPivotRow_3 : decode cX2_findPivotRow 3 = .ok (.aload_n 0, 1) := by decide +kernel
theorem dX2_findPivotRow_4 : decode cX2_findPivotRow 4 = .ok (.getfield 13, 3) := by decide +kernel
theorem dX2_findPivotRow_7 : decode cX2_findPivotRow 7 = .ok (.if_icmp .ge 27, 3) := by decide +kernel
theorem dX2_findPivotRow_10 : decode cX2_findPivotRow 10 = .ok (.aload_n 0, 1) := by decide +kernel
theorem dX2_findPivotRow_11 : decode cX2_findPivotRow 11 = .ok (.getfield 25, 3) := by decide +kernel
theorem dX2_findPivotRow_14 : decode cX2_findPivotRow 14 = .ok (.aload_n 0, 1) := by decide +kernel
theorem dX2_findPivotRow_15 : decode cX2_findPivotRow 15 = .ok (.iload_n 2, 1) := by decide +kernel
theorem dX2_findPivotRow_16 : decode cX2_findPivotRow 16 = .ok (.iload_n 1, 1) := by decide +kernel
theorem dX2_findPivotRow_17 : decode cX2_findPivotRow 17 = .ok (.invokevirtual 58, 3) := by decide +kernel
theorem dX2_findPivotRow_20 : decode cX2_findPivotRow 20 = .ok (.invokevirtual 133, 3) := by decide +kernel
theorem dX2_findPivotRow_23 : decode cX2_findPivotRow 23 = .ok (.ifCond .eq 5, 3) := by decide +kernel
theorem dX2_findPivotRow_26 : decode cX2_findPivotRow 26 = .ok (.iload_n 2, 1) := by decide +kernel
theorem dX2_findPivotRow_27 : decode cX2_findPivotRow 27 = .ok (.ireturn, 1) := by decide +kernel
theorem dX2_findPivotRow_28 : decode cX2_findPivotRow 28 = .ok (.iinc 2 1, 3) := by decide +kernel
theorem dX2_findPivotRow_31 : decode cX2_findPivotRow 31 = .ok (.goto (-29), 3) := by decide +kernel
theorem dX2_findPivotRow_34 : decode cX2_findPivotRow 34 = .ok (.iconst (-1), 1) := by decide +kernel
theorem dX2_findPivotRow_35 : decode cX2_findPivotRow 35 = .ok (.ireturn, 1) := by decide +kernel
theorem dX2_swapRows_0 : decode cX2_swapRows 0 = .ok (.aload_n 0, 1) := by decide +kernel
theorem dX2_swapRows_1 : decode cX2_swapRows 1 = .ok (.getfield 44, 3) := by decide +kernel
theorem dX2_swapRows_4 : decode cX2_swapRows 4 = .ok (.iload_n 1, 1) := by decide +kernel
theorem dX2_swapRows_5 : decode cX2_swapRows 5 = .ok (.iaload, 1) := by decide +kernel
theorem dX2_swapRows_6 : decode cX2_swapRows 6 = .ok (.istore_n 3, 1) := by decide +kernel
theorem dX2_swapRows_7 : decode cX2_swapRows 7 = .ok (.aload_n 0, 1) := by decide +kernel
theorem dX2_swapRows_8 : decode cX2_swapRows 8 = .ok (.getfield 44, 3) := by decide +kernel
theorem dX2_swapRows_11 : decode cX2_swapRows 11 = .ok (.iload_n 1, 1) := by decide +kernel
theorem dX2_swapRows_12 : decode cX2_swapRows 12 = .ok (.aload_n 0, 1) := by decide +kernel
theorem dX2_swapRows_13 : decode cX2_swapRows 13 = .ok (.getfield 44, 3) := by decide +kernel
theorem dX2_swapRows_16 : decode cX2_swapRows 16 = .ok (.iload_n 2, 1) := by decide +kernel
theorem dX2_swapRows_17 : decode cX2_swapRows 17 = .ok (.iaload, 1) := by decide +kernel
theorem dX2_swapRows_18 : decode cX2_swapRows 18 = .ok (.iastore, 1) := by decide +kernel
theorem dX2_swapRows_19 : decode cX2_swapRows 19 = .ok (.aload_n 0, 1) := by decide +kernel
theorem dX2_swapRows_20 : decode cX2_swapRows 20 = .ok (.getfield 44, 3) := by decide +kernel
theorem dX2_swapRows_23 : decode cX2_swapRows 23 = .ok (.iload_n 2, 1) := by decide +kernel
theorem dX2_swapRows_24 : decode cX2_swapRows 24 = .ok (.iload_n 3, 1) := by decide +kernel
theorem dX2_swapRows_25 : decode cX2_swapRows 25 = .ok (.iastore, 1) := by decide +kernel
theorem dX2_swapRows_26 : decode cX2_swapRows 26 = .ok (.aload_n 0, 1) := by decide +kernel
theorem dX2_swapRows_27 : decode cX2_swapRows 27 = .ok (.aload_n 0, 1) := by decide +kernel
theorem dX2_swapRows_28 : decode cX2_swapRows 28 = .ok (.getfield 115, 3) := by decide +kernel
theorem dX2_swapRows_31 : decode cX2_swapRows 31 = .ok (.ifCond .ne 7, 3) := by decide +kernel
theorem dX2_swapRows_34 : decode cX2_swapRows 34 = .ok (.iconst 1, 1) := by decide +kernel
theorem dX2_swapRows_35 : decode cX2_swapRows 35 = .ok (.goto 4, 3) := by decide +kernel
theorem dX2_swapRows_38 : decode cX2_swapRows 38 = .ok (.iconst 0, 1) := by decide +kernel
theorem dX2_swapRows_39 : decode cX2_swapRows 39 = .ok (.putfield 115, 3) := by decide +kernel
theorem dX2_swapRows_42 : decode cX2_swapRows 42 = .ok (.return_, 1) := by decide +kernel
set_option maxRecDepth 20000 in
theorem ggX2_makeMinor_X1_clear : GoodIn wsX2_makeMinor wsX1_clear := goodIn_r _ [7, 8, 9, 10, 11, 12, 13, 14, 15, 117, 118, 119, 120, 121, 122] (by decide +kernel) (by decide +kernel)
set_option maxRecDepth 20000 in
theorem gX2_makeMinor_X1_clear : GoodIn wsX2_makeMinor (wsV RX2 136 RX1 yX1_clear wsX1_clear) := goodIn_app (goodIn_of _ (by decide +kernel)) ggX2_makeMinor_X1_clear
set_option maxRecDepth 20000 in
theorem ggX2_makeMinor_X2_slotAt : GoodIn wsX2_makeMinor wsX2_slotAt := goodIn_r _ [20, 21, 22, 103, 104, 105, 106, 107, 108, 109, 110, 111, 112, 113, 114, 115, 116] (by decide +kernel) (by decide +kernel)
set_option maxRecDepth 20000 in
theorem gX2_makeMinor_X2_slotAt : GoodIn wsX2_makeMinor (wsV RX2 58 RX2 yX2_slotAt wsX2_slotAt) := goodIn_app (goodIn_of _ (by decide +kernel)) ggX2_makeMinor_X2_slotAt
set_option maxRecDepth 20000 in
theorem ggX2_makeMinor_X1_addProduct : GoodIn wsX2_makeMinor wsX1_addProduct := goodIn_r _ [26, 8, 9, 27, 28, 29, 30, 31, 32, 33, 34, 35, 36, 37, 38, 39, 40, 41, 42, 43, 44, 45, 6, 46, 47, 117, 118, 119, 120, 121, 122, 123, 124, 125, 126] (by decide +kernel) (by decide +kernel)
set_option maxRecDepth 20000 in
theorem gX2_makeMinor_X1_addProduct : GoodIn wsX2_makeMinor (wsV RX2 138 RX1 yX1_addProduct wsX1_addProduct) := goodIn_app (goodIn_of _ (by decide +kernel)) ggX2_makeMinor_X1_addProduct
set_option maxRecDepth 20000 in
theorem ggX2_makeMinor_X1_settle : GoodIn wsX2_makeMinor wsX1_settle := goodIn_r _ [51, 10, 8, 9, 47, 11, 52, 53, 54, 6, 55, 56, 57, 58, 117, 118, 119, 120, 121, 122] (by decide +kernel) (by decide +kernel)
set_option maxRecDepth 20000 in
theorem gX2_makeMinor_X1_settle : GoodIn wsX2_makeMinor (wsV RX2 142 RX1 yX1_settle wsX1_settle) := goodIn_app (goodIn_of _ (by decide +kernel)) ggX2_makeMinor_X1_settle
set_option maxRecDepth 20000 in
theorem ggX2_makeMinor_X1_divideBy : GoodIn wsX2_makeMinor wsX1_divideBy := goodIn_r _ [62, 11, 63, 8, 10, 33, 34, 35, 30, 36, 37, 38, 39, 40, 41, 42, 43, 64, 65, 66, 6, 67, 68, 69, 70, 71, 72, 73, 47, 56, 57, 58, 74, 75, 76, 77, 78, 79, 80, 81, 82, 83, 84, 85, 86, 87, 88, 89, 27, 28, 29, 31, 32, 117, 118, 119, 120, 121, 122, 123, 124, 125, 126] (by decide +kernel) (by decide +kernel)
set_option maxRecDepth 20000 in
theorem gX2_makeMinor_X1_divideBy : GoodIn wsX2_makeMinor (wsV RX2 145 RX1 yX1_divideBy wsX1_divideBy) := goodIn_app (goodIn_of _ (by decide +kernel)) ggX2_makeMinor_X1_divideBy
set_option maxRecDepth 20000 in
theorem ggX2_makeMinor_X1_storeIn : GoodIn wsX2_makeMinor wsX1_storeIn := goodIn_r _ [93, 11, 94, 8, 10, 95, 96, 97, 30, 98, 42, 43, 99, 100, 101, 102, 37, 32, 117, 118, 119, 120, 121, 122, 123, 124, 125, 126] (by decide +kernel) (by decide +kernel)
set_option maxRecDepth 20000 in
theorem gX2_makeMinor_X1_storeIn : GoodIn wsX2_makeMinor (wsV RX2 149 RX1 yX1_storeIn wsX1_storeIn) := goodIn_app (goodIn_of _ (by decide +kernel)) ggX2_makeMinor_X1_storeIn
theorem dX2_makeMinor_0 : decode cX2_makeMinor 0 = .ok (.aload_n 0, 1) := by decide +kernel
theorem dX2_makeMinor_1 : decode cX2_makeMinor 1 = .ok (.getfield 40, 3) := by decide +kernel
theorem dX2_makeMinor_4 : decode cX2_makeMinor 4 = .ok (.invokevirtual 136, 3) := by decide +kernel
theorem dX2_makeMinor_7 : decode cX2_makeMinor 7 = .ok (.aload_n 0, 1) := by decide +kernel
theorem dX2_makeMinor_8 : decode cX2_makeMinor 8 = .ok (.getfield 40, 3) := by decide +kernel
theorem dX2_makeMinor_11 : decode cX2_makeMinor 11 = .ok (.aload_n 0, 1) := by decide +kernel
theorem dX2_makeMinor_12 : decode cX2_makeMinor 12 = .ok (.getfield 25, 3) := by decide +kernel
theorem dX2_makeMinor_15 : decode cX2_makeMinor 15 = .ok (.aload_n 0, 1) := by decide +kernel
theorem dX2_makeMinor_16 : decode cX2_makeMinor 16 = .ok (.iload_n 1, 1) := by decide +kernel
theorem dX2_makeMinor_17 : decode cX2_makeMinor 17 = .ok (.iload_n 1, 1) := by decide +kernel
theorem dX2_makeMinor_18 : decode cX2_makeMinor 18 = .ok (.invokevirtual 58, 3) := by decide +kernel
theorem dX2_makeMinor_21 : decode cX2_makeMinor 21 = .ok (.aload_n 0, 1) := by decide +kernel
theorem dX2_makeMinor_22 : decode cX2_makeMinor 22 = .ok (.getfield 25, 3) := by decide +kernel
theorem dX2_makeMinor_25 : decode cX2_makeMinor 25 = .ok (.aload_n 0, 1) := by decide +kernel
theorem dX2_makeMinor_26 : decode cX2_makeMinor 26 = .ok (.iload_n 2, 1) := by decide +kernel
theorem dX2_makeMinor_27 : decode cX2_makeMinor 27 = .ok (.iload_n 3, 1) := by decide +kernel
theorem dX2_makeMinor_28 : decode cX2_makeMinor 28 = .ok (.invokevirtual 58, 3) := by decide +kernel
theorem dX2_makeMinor_31 : decode cX2_makeMinor 31 = .ok (.iconst 1, 1) := by decide +kernel
theorem dX2_makeMinor_32 : decode cX2_makeMinor 32 = .ok (.invokevirtual 138, 3) := by decide +kernel
theorem dX2_makeMinor_35 : decode cX2_makeMinor 35 = .ok (.aload_n 0, 1) := by decide +kernel
theorem dX2_makeMinor_36 : decode cX2_makeMinor 36 = .ok (.getfield 40, 3) := by decide +kernel
theorem dX2_makeMinor_39 : decode cX2_makeMinor 39 = .ok (.aload_n 0, 1) := by decide +kernel
theorem dX2_makeMinor_40 : decode cX2_makeMinor 40 = .ok (.getfield 25, 3) := by decide +kernel
theorem dX2_makeMinor_43 : decode cX2_makeMinor 43 = .ok (.aload_n 0, 1) := by decide +kernel
theorem dX2_makeMinor_44 : decode cX2_makeMinor 44 = .ok (.iload_n 2, 1) := by decide +kernel
theorem dX2_makeMinor_45 : decode cX2_makeMinor 45 = .ok (.iload_n 1, 1) := by decide +kernel
theorem dX2_makeMinor_46 : decode cX2_makeMinor 46 = .ok (.invokevirtual 58, 3) := by decide +kernel
theorem dX2_makeMinor_49 : decode cX2_makeMinor 49 = .ok (.aload_n 0, 1) := by decide +kernel
theorem dX2_makeMinor_50 : decode cX2_makeMinor 50 = .ok (.getfield 25, 3) := by decide +kernel
theorem dX2_makeMinor_53 : decode cX2_makeMinor 53 = .ok (.aload_n 0, 1) := by decide +kernel
theorem dX2_makeMinor_54 : decode cX2_makeMinor 54 = .ok (.iload_n 1, 1) := by decide +kernel
theorem dX2_makeMinor_55 : decode cX2_makeMinor 55 = .ok (.iload_n 3, 1) := by decide +kernel
theorem dX2_makeMinor_56 : decode cX2_makeMinor 56 = .ok (.invokevirtual 58, 3) := by decide +kernel
theorem dX2_makeMinor_59 : decode cX2_makeMinor 59 = .ok (.iconst (-1), 1) := by decide +kernel
theorem dX2_makeMinor_60 : decode cX2_makeMinor 60 = .ok (.invokevirtual 138, 3) := by decide +kernel
theorem dX2_makeMinor_63 : decode cX2_makeMinor 63 = .ok (.aload_n 0, 1) := by decide +kernel
theorem dX2_makeMinor_64 : decode cX2_makeMinor 64 = .ok (.getfield 40, 3) := by decide +kernel
theorem dX2_makeMinor_67 : decode cX2_makeMinor 67 = .ok (.invokevirtual 142, 3) := by decide +kernel
theorem dX2_makeMinor_70 : decode cX2_makeMinor 70 = .ok (.iload_n 1, 1) := by decide +kernel
theorem dX2_makeMinor_71 : decode cX2_makeMinor 71 = .ok (.ifCond .le 24, 3) := by decide +kernel
theorem dX2_makeMinor_74 : decode cX2_makeMinor 74 = .ok (.aload_n 0, 1) := by decide +kernel
theorem dX2_makeMinor_75 : decode cX2_makeMinor 75 = .ok (.getfield 40, 3) := by decide +kernel
theorem dX2_makeMinor_78 : decode cX2_makeMinor 78 = .ok (.aload_n 0, 1) := by decide +kernel
theorem dX2_makeMinor_79 : decode cX2_makeMinor 79 = .ok (.getfield 25, 3) := by decide +kernel
theorem dX2_makeMinor_82 : decode cX2_makeMinor 82 = .ok (.aload_n 0, 1) := by decide +kernel
theorem dX2_makeMinor_83 : decode cX2_makeMinor 83 = .ok (.iload_n 1, 1) := by decide +kernel
theorem dX2_makeMinor_84 : decode cX2_makeMinor 84 = .ok (.iconst 1, 1) := by decide +kernel
theorem dX2_makeMinor_85 : decode cX2_makeMinor 85 = .ok (.isub, 1) := by decide +kernel
theorem dX2_makeMinor_86 : decode cX2_makeMinor 86 = .ok (.iload_n 1, 1) := by decide +kernel
theorem dX2_makeMinor_87 : decode cX2_makeMinor 87 = .ok (.iconst 1, 1) := by decide +kernel
theorem dX2_makeMinor_88 : decode cX2_makeMinor 88 = .ok (.isub, 1) := by decide +kernel
theorem dX2_makeMinor_89 : decode cX2_makeMinor 89 = .ok (.invokevirtual 58, 3) := by decide +kernel
theorem dX2_makeMinor_92 : decode cX2_makeMinor 92 = .ok (.invokevirtual 145, 3) := by decide +kernel
theorem dX2_makeMinor_95 : decode cX2_makeMinor 95 = .ok (.aload_n 0, 1) := by decide +kernel
theorem dX2_makeMinor_96 : decode cX2_makeMinor 96 = .ok (.getfield 40, 3) := by decide +kernel
theorem dX2_makeMinor_99 : decode cX2_makeMinor 99 = .ok (.aload_n 0, 1) := by decide +kernel
theorem dX2_makeMinor_100 : decode cX2_makeMinor 100 = .ok (.getfield 25, 3) := by decide +kernel
theorem dX2_makeMinor_103 : decode cX2_makeMinor 103 = .ok (.aload_n 0, 1) := by decide +kernel
theorem dX2_makeMinor_104 : decode cX2_makeMinor 104 = .ok (.iload_n 2, 1) := by decide +kernel
theorem dX2_makeMinor_105 : decode cX2_makeMinor 105 = .ok (.iload_n 3, 1) := by decide +kernel
theorem dX2_makeMinor_106 : decode cX2_makeMinor 106 = .ok (.invokevirtual 58, 3) := by decide +kernel
theorem dX2_makeMinor_109 : decode cX2_makeMinor 109 = .ok (.invokevirtual 149, 3) := by decide +kernel
theorem dX2_makeMinor_112 : decode cX2_makeMinor 112 = .ok (.ireturn, 1) := by decide +kernel
set_option maxRecDepth 20000 in
theorem ggX2_solveRow_X1_clear : GoodIn wsX2_solveRow wsX1_clear := goodIn_r _ [9, 10, 11, 12, 13, 14, 15, 16, 17, 131, 132, 133, 134, 135, 136] (by decide +kernel) (by decide +kernel)
set_option maxRecDepth 20000 in
theorem gX2_solveRow_X1_clear : GoodIn wsX2_solveRow (wsV RX2 136 RX1 yX1_clear wsX1_clear) := goodIn_app (goodIn_of _ (by decide +kernel)) ggX2_solveRow_X1_clear
set_option maxRecDepth 20000 in
theorem ggX2_solveRow_X2_slotAt : GoodIn wsX2_solveRow wsX2_slotAt := goodIn_r _ [22, 23, 3, 117, 118, 119, 120, 121, 122, 123, 124, 125, 126, 127, 128, 129, 130] (by decide +kernel) (by decide +kernel)
set_option maxRecDepth 20000 in
theorem gX2_solveRow_X2_slotAt : GoodIn wsX2_solveRow (wsV RX2 58 RX2 yX2_slotAt wsX2_slotAt) := goodIn_app (goodIn_of _ (by decide +kernel)) ggX2_solveRow_X2_slotAt
set_option maxRecDepth 20000 in
theorem ggX2_solveRow_X1_addProduct : GoodIn wsX2_solveRow wsX1_addProduct := goodIn_r _ [27, 10, 11, 28, 29, 30, 31, 32, 33, 34, 35, 36, 37, 38, 39, 40, 41, 42, 43, 44, 45, 46, 8, 47, 48, 131, 132, 133, 134, 135, 136, 137, 138, 139, 140] (by decide +kernel) (by decide +kernel)
set_option maxRecDepth 20000 in
theorem gX2_solveRow_X1_addProduct : GoodIn wsX2_solveRow (wsV RX2 138 RX1 yX1_addProduct wsX1_addProduct) := goodIn_app (goodIn_of _ (by decide +kernel)) ggX2_solveRow_X1_addProduct
set_option maxRecDepth 20000 in
theorem ggX2_solveRow_X1_settle : GoodIn wsX2_solveRow wsX1_settle := goodIn_r _ [52, 12, 10, 11, 48, 13, 53, 54, 55, 8, 56, 57, 58, 59, 131, 132, 133, 134, 135, 136] (by decide +kernel) (by decide +kernel)
set_option maxRecDepth 20000 in
theorem gX2_solveRow_X1_settle : GoodIn wsX2_solveRow (wsV RX2 142 RX1 yX1_settle wsX1_settle) := goodIn_app (goodIn_of _ (by decide +kernel)) ggX2_solveRow_X1_settle
set_option maxRecDepth 20000 in
theorem ggX2_solveRow_X1_divideBy : GoodIn wsX2_solveRow wsX1_divideBy := goodIn_r _ [63, 13, 64, 10, 12, 34, 35, 36, 31, 37, 38, 39, 40, 41, 42, 43, 44, 65, 66, 67, 8, 68, 69, 70, 71, 72, 73, 74, 48, 57, 58, 59, 75, 76, 77, 78, 79, 80, 81, 82, 83, 84, 85, 86, 87, 88, 89, 90, 28, 29, 30, 32, 33, 131, 132, 133, 134, 135, 136, 137, 138, 139, 140] (by decide +kernel) (by decide +kernel)
set_option maxRecDepth 20000 in
theorem gX2_solveRow_X1_divideBy : GoodIn wsX2_solveRow (wsV RX2 145 RX1 yX1_divideBy wsX1_divideBy) := goodIn_app (goodIn_of _ (by decide +kernel)) ggX2_solveRow_X1_divideBy
set_option maxRecDepth 20000 in
theorem ggX2_solveRow_X1_storeIn : GoodIn wsX2_solveRow wsX1_storeIn := goodIn_r _ [94, 13, 95, 10, 12, 96, 97, 98, 31, 99, 43, 44, 100, 101, 102, 103, 38, 33, 131, 132, 133, 134, 135, 136, 137, 138, 139, 140] (by decide +kernel) (by decide +kernel)
set_option maxRecDepth 20000 in
theorem gX2_solveRow_X1_storeIn : GoodIn wsX2_solveRow (wsV RX2 149 RX1 yX1_storeIn wsX1_storeIn) := goodIn_app (goodIn_of _ (by decide +kernel)) ggX2_solveRow_X1_storeIn
set_option maxRecDepth 20000 in
theorem ggX2_solveRow_X2_finishOutcome : GoodIn wsX2_solveRow wsX2_finishOutcome := goodIn_r _ [107, 4, 3, 2, 108, 18, 19, 20, 21, 22, 23, 109, 110, 111, 31, 112, 43, 44, 38, 100, 101, 102, 103, 33, 113, 114, 115, 116, 117, 118, 119, 120, 121, 122, 123, 124, 125, 126, 127, 128, 129, 130, 137, 138, 139, 140] (by decide +kernel) (by decide +kernel)
set_option maxRecDepth 20000 in
theorem gX2_solveRow_X2_finishOutcome : GoodIn wsX2_solveRow (wsV RX2 153 RX2 yX2_finishOutcome wsX2_finishOutcome) := goodIn_app (goodIn_of _ (by decide +kernel)) ggX2_solveRow_X2_finishOutcome
theorem dX2_solveRow_0 : decode cX2_solveRow 0 = .ok (.aload_n 0, 1) := by decide +kernel
theorem dX2_solveRow_1 : decode cX2_solveRow 1 = .ok (.getfield 40, 3) := by decide +kernel
theorem dX2_solveRow_4 : decode cX2_solveRow 4 = .ok (.invokevirtual 136, 3) := by decide +kernel
theorem dX2_solveRow_7 : decode cX2_solveRow 7 = .ok (.aload_n 0, 1) := by decide +kernel
theorem dX2_solveRow_8 : decode cX2_solveRow 8 = .ok (.getfield 40, 3) := by decide +kernel
theorem dX2_solveRow_11 : decode cX2_solveRow 11 = .ok (.aload_n 0, 1) := by decide +kernel
theorem dX2_solveRow_12 : decode cX2_solveRow 12 = .ok (.getfield 25, 3) := by decide +kernel
theorem dX2_solveRow_15 : decode cX2_solveRow 15 = .ok (.aload_n 0, 1) := by decide +kernel
theorem dX2_solveRow_16 : decode cX2_solveRow 16 = .ok (.aload_n 0, 1) := by decide +kernel
theorem dX2_solveRow_17 : decode cX2_solveRow 17 = .ok (.getfield 13, 3) := by decide +kernel
theorem dX2_solveRow_20 : decode cX2_solveRow 20 = .ok (.iconst 1, 1) := by decide +kernel
theorem dX2_solveRow_21 : decode cX2_solveRow 21 = .ok (.isub, 1) := by decide +kernel
theorem dX2_solveRow_22 : decode cX2_solveRow 22 = .ok (.aload_n 0, 1) := by decide +kernel
theorem dX2_solveRow_23 : decode cX2_solveRow 23 = .ok (.getfield 13, 3) := by decide +kernel
theorem dX2_solveRow_26 : decode cX2_solveRow 26 = .ok (.iconst 1, 1) := by decide +kernel
theorem dX2_solveRow_27 : decode cX2_solveRow 27 = .ok (.isub, 1) := by decide +kernel
theorem dX2_solveRow_28 : decode cX2_solveRow 28 = .ok (.invokevirtual 58, 3) := by decide +kernel
theorem dX2_solveRow_31 : decode cX2_solveRow 31 = .ok (.aload_n 0, 1) := by decide +kernel
theorem dX2_solveRow_32 : decode cX2_solveRow 32 = .ok (.getfield 25, 3) := by decide +kernel
theorem dX2_solveRow_35 : decode cX2_solveRow 35 = .ok (.aload_n 0, 1) := by decide +kernel
theorem dX2_solveRow_36 : decode cX2_solveRow 36 = .ok (.iload_n 1, 1) := by decide +kernel
theorem dX2_solveRow_37 : decode cX2_solveRow 37 = .ok (.aload_n 0, 1) := by decide +kernel
theorem dX2_solveRow_38 : decode cX2_solveRow 38 = .ok (.getfield 13, 3) := by decide +kernel
theorem dX2_solveRow_41 : decode cX2_solveRow 41 = .ok (.invokevirtual 58, 3) := by decide +kernel
theorem dX2_solveRow_44 : decode cX2_solveRow 44 = .ok (.iconst 1, 1) := by decide +kernel
theorem dX2_solveRow_45 : decode cX2_solveRow 45 = .ok (.invokevirtual 138, 3) := by decide +kernel
theorem dX2_solveRow_48 : decode cX2_solveRow 48 = .ok (.iload_n 1, 1) := by decide +kernel
theorem dX2_solveRow_49 : decode cX2_solveRow 49 = .ok (.iconst 1, 1) := by decide +kernel
theorem dX2_solveRow_50 : decode cX2_solveRow 50 = .ok (.iadd, 1) := by decide +kernel
theorem dX2_solveRow_51 : decode cX2_solveRow 51 = .ok (.istore_n 2, 1) := by decide +kernel
theorem dX2_solveRow_52 : decode cX2_solveRow 52 = .ok (.iload_n 2, 1) := by decide +kernel
theorem dX2_solveRow_53 : decode cX2_solveRow 53 = .ok (.aload_n 0, 1) := by decide +kernel
theorem dX2_solveRow_54 : decode cX2_solveRow 54 = .ok (.getfield 13, 3) := by decide +kernel
theorem dX2_solveRow_57 : decode cX2_solveRow 57 = .ok (.if_icmp .ge 32, 3) := by decide +kernel
theorem dX2_solveRow_60 : decode cX2_solveRow 60 = .ok (.aload_n 0, 1) := by decide +kernel
theorem dX2_solveRow_61 : decode cX2_solveRow 61 = .ok (.getfield 40, 3) := by decide +kernel
theorem dX2_solveRow_64 : decode cX2_solveRow 64 = .ok (.aload_n 0, 1) := by decide +kernel
theorem dX2_solveRow_65 : decode cX2_solveRow 65 = .ok (.getfield 25, 3) := by decide +kernel
theorem dX2_solveRow_68 : decode cX2_solveRow 68 = .ok (.aload_n 0, 1) := by decide +kernel
theorem dX2_solveRow_69 : decode cX2_solveRow 69 = .ok (.iload_n 1, 1) := by decide +kernel
theorem dX2_solveRow_70 : decode cX2_solveRow 70 = .ok (.iload_n 2, 1) := by decide +kernel
theorem dX2_solveRow_71 : decode cX2_solveRow 71 = .ok (.invokevirtual 58, 3) := by decide +kernel
theorem dX2_solveRow_74 : decode cX2_solveRow 74 = .ok (.aload_n 0, 1) := by decide +kernel
theorem dX2_solveRow_75 : decode cX2_solveRow 75 = .ok (.getfield 32, 3) := by decide +kernel
theorem dX2_solveRow_78 : decode cX2_solveRow 78 = .ok (.iload_n 2, 1) := by decide +kernel
theorem dX2_solveRow_79 : decode cX2_solveRow 79 = .ok (.iconst (-1), 1) := by decide +kernel
theorem dX2_solveRow_80 : decode cX2_solveRow 80 = .ok (.invokevirtual 138, 3) := by decide +kernel
theorem dX2_solveRow_83 : decode cX2_solveRow 83 = .ok (.iinc 2 1, 3) := by decide +kernel
theorem dX2_solveRow_86 : decode cX2_solveRow 86 = .ok (.goto (-34), 3) := by decide +kernel
theorem dX2_solveRow_89 : decode cX2_solveRow 89 = .ok (.aload_n 0, 1) := by decide +kernel
theorem dX2_solveRow_90 : decode cX2_solveRow 90 = .ok (.getfield 40, 3) := by decide +kernel
theorem dX2_solveRow_93 : decode cX2_solveRow 93 = .ok (.invokevirtual 142, 3) := by decide +kernel
theorem dX2_solveRow_96 : decode cX2_solveRow 96 = .ok (.aload_n 0, 1) := by decide +kernel
theorem dX2_solveRow_97 : decode cX2_solveRow 97 = .ok (.getfield 40, 3) := by decide +kernel
theorem dX2_solveRow_100 : decode cX2_solveRow 100 = .ok (.aload_n 0, 1) := by decide +kernel
theorem dX2_solveRow_101 : decode cX2_solveRow 101 = .ok (.getfield 25, 3) := by decide +kernel
theorem dX2_solveRow_104 : decode cX2_solveRow 104 = .ok (.aload_n 0, 1) := by decide +kernel
theorem dX2_solveRow_105 : decode cX2_solveRow 105 = .ok (.iload_n 1, 1) := by decide +kernel
theorem dX2_solveRow_106 : decode cX2_solveRow 106 = .ok (.iload_n 1, 1) := by decide +kernel
theorem dX2_solveRow_107 : decode cX2_solveRow 107 = .ok (.invokevirtual 58, 3) := by decide +kernel
theorem dX2_solveRow_110 : decode cX2_solveRow 110 = .ok (.invokevirtual 145, 3) := by decide +kernel
theorem dX2_solveRow_113 : decode cX2_solveRow 113 = .ok (.aload_n 0, 1) := by decide +kernel
theorem dX2_solveRow_114 : decode cX2_solveRow 114 = .ok (.getfield 40, 3) := by decide +kernel
theorem dX2_solveRow_117 : decode cX2_solveRow 117 = .ok (.aload_n 0, 1) := by decide +kernel
theorem dX2_solveRow_118 : decode cX2_solveRow 118 = .ok (.getfield 32, 3) := by decide +kernel
theorem dX2_solveRow_121 : decode cX2_solveRow 121 = .ok (.iload_n 1, 1) := by decide +kernel
theorem dX2_solveRow_122 : decode cX2_solveRow 122 = .ok (.invokevirtual 149, 3) := by decide +kernel
theorem dX2_solveRow_125 : decode cX2_solveRow 125 = .ok (.ifCond .ne 5, 3) := by decide +kernel
theorem dX2_solveRow_128 : decode cX2_solveRow 128 = .ok (.iconst 3, 1) := by decide +kernel
theorem dX2_solveRow_129 : decode cX2_solveRow 129 = .ok (.ireturn, 1) := by decide +kernel
theorem dX2_solveRow_130 : decode cX2_solveRow 130 = .ok (.iload_n 1, 1) := by decide +kernel
theorem dX2_solveRow_131 : decode cX2_solveRow 131 = .ok (.ifCond .le 5, 3) := by decide +kernel
theorem dX2_solveRow_134 : decode cX2_solveRow 134 = .ok (.iconst 0, 1) := by decide +kernel
theorem dX2_solveRow_135 : decode cX2_solveRow 135 = .ok (.ireturn, 1) := by decide +kernel
theorem dX2_solveRow_136 : decode cX2_solveRow 136 = .ok (.aload_n 0, 1) := by decide +kernel
theorem dX2_solveRow_137 : decode cX2_solveRow 137 = .ok (.invokevirtual 153, 3) := by decide +kernel
theorem dX2_solveRow_140 : decode cX2_solveRow 140 = .ok (.iconst 1, 1) := by decide +kernel
theorem dX2_solveRow_141 : decode cX2_solveRow 141 = .ok (.ireturn, 1) := by decide +kernel
set_option maxRecDepth 20000 in
theorem ggX2_finishOutcome_X2_slotAt : GoodIn wsX2_finishOutcome wsX2_slotAt := goodIn_r _ [9, 10, 2, 28, 29, 30, 31, 32, 33, 34, 35, 36, 37, 38, 39, 40, 41] (by decide +kernel) (by decide +kernel)
set_option maxRecDepth 20000 in
theorem gX2_finishOutcome_X2_slotAt : GoodIn wsX2_finishOutcome (wsV RX2 58 RX2 yX2_slotAt wsX2_slotAt) := goodIn_app (goodIn_of _ (by decide +kernel)) ggX2_finishOutcome_X2_slotAt
set_option maxRecDepth 20000 in
theorem ggX2_finishOutcome_X0_copy : GoodIn wsX2_finishOutcome wsX0_copy := goodIn_r _ [15, 16, 17, 18, 19, 20, 21, 22, 23, 42, 43, 44, 45] (by decide +kernel) (by decide +kernel)
set_option maxRecDepth 20000 in
theorem gX2_finishOutcome_X0_copy : GoodIn wsX2_finishOutcome (wsV RX2 119 RX0 yX0_copy wsX0_copy) := goodIn_app (goodIn_of _ (by decide +kernel)) ggX2_finishOutcome_X0_copy
set_option maxRecDepth 20000 in
theorem ggX2_finishOutcome_X0_negate : GoodIn wsX2_finishOutcome wsX0_negate := goodIn_r _ [27, 23, 42, 43, 44, 45] (by decide +kernel) (by decide +kernel)
set_option maxRecDepth 20000 in
theorem gX2_finishOutcome_X0_negate : GoodIn wsX2_finishOutcome (wsV RX2 156 RX0 yX0_negate wsX0_negate) := goodIn_app (goodIn_of _ (by decide +kernel)) ggX2_finishOutcome_X0_negate
theorem dX2_finishOutcome_0 : decode cX2_finishOutcome 0 = .ok (.aload_n 0, 1) := by decide +kernel
theorem dX2_finishOutcome_1 : decode cX2_finishOutcome 1 = .ok (.getfield 32, 3) := by decide +kernel
theorem dX2_finishOutcome_4 : decode cX2_finishOutcome 4 = .ok (.aload_n 0, 1) := by decide +kernel
theorem dX2_finishOutcome_5 : decode cX2_finishOutcome 5 = .ok (.getfield 13, 3) := by decide +kernel
theorem dX2_finishOutcome_8 : decode cX2_finishOutcome 8 = .ok (.aload_n 0, 1) := by decide +kernel
theorem dX2_finishOutcome_9 : decode cX2_finishOutcome 9 = .ok (.getfield 25, 3) := by decide +kernel
theorem dX2_finishOutcome_12 : decode cX2_finishOutcome 12 = .ok (.aload_n 0, 1) := by decide +kernel
theorem dX2_finishOutcome_13 : decode cX2_finishOutcome 13 = .ok (.aload_n 0, 1) := by decide +kernel
theorem dX2_finishOutcome_14 : decode cX2_finishOutcome 14 = .ok (.getfield 13, 3) := by decide +kernel
theorem dX2_finishOutcome_17 : decode cX2_finishOutcome 17 = .ok (.iconst 1, 1) := by decide +kernel
theorem dX2_finishOutcome_18 : decode cX2_finishOutcome 18 = .ok (.isub, 1) := by decide +kernel
theorem dX2_finishOutcome_19 : decode cX2_finishOutcome 19 = .ok (.aload_n 0, 1) := by decide +kernel
theorem dX2_finishOutcome_20 : decode cX2_finishOutcome 20 = .ok (.getfield 13, 3) := by decide +kernel
theorem dX2_finishOutcome_23 : decode cX2_finishOutcome 23 = .ok (.iconst 1, 1) := by decide +kernel
theorem dX2_finishOutcome_24 : decode cX2_finishOutcome 24 = .ok (.isub, 1) := by decide +kernel
theorem dX2_finishOutcome_25 : decode cX2_finishOutcome 25 = .ok (.invokevirtual 58, 3) := by decide +kernel
theorem dX2_finishOutcome_28 : decode cX2_finishOutcome 28 = .ok (.invokevirtual 119, 3) := by decide +kernel
theorem dX2_finishOutcome_31 : decode cX2_finishOutcome 31 = .ok (.aload_n 0, 1) := by decide +kernel
theorem dX2_finishOutcome_32 : decode cX2_finishOutcome 32 = .ok (.getfield 115, 3) := by decide +kernel
theorem dX2_finishOutcome_35 : decode cX2_finishOutcome 35 = .ok (.ifCond .eq 27, 3) := by decide +kernel
theorem dX2_finishOutcome_38 : decode cX2_finishOutcome 38 = .ok (.iconst 0, 1) := by decide +kernel
theorem dX2_finishOutcome_39 : decode cX2_finishOutcome 39 = .ok (.istore_n 1, 1) := by decide +kernel
theorem dX2_finishOutcome_40 : decode cX2_finishOutcome 40 = .ok (.iload_n 1, 1) := by decide +kernel
theorem dX2_finishOutcome_41 : decode cX2_finishOutcome 41 = .ok (.aload_n 0, 1) := by decide +kernel
theorem dX2_finishOutcome_42 : decode cX2_finishOutcome 42 = .ok (.getfield 13, 3) := by decide +kernel
theorem dX2_finishOutcome_45 : decode cX2_finishOutcome 45 = .ok (.if_icmp .gt 17, 3) := by decide +kernel
theorem dX2_finishOutcome_48 : decode cX2_finishOutcome 48 = .ok (.aload_n 0, 1) := by decide +kernel
theorem dX2_finishOutcome_49 : decode cX2_finishOutcome 49 = .ok (.getfield 32, 3) := by decide +kernel
theorem dX2_finishOutcome_52 : decode cX2_finishOutcome 52 = .ok (.iload_n 1, 1) := by decide +kernel
theorem dX2_finishOutcome_53 : decode cX2_finishOutcome 53 = .ok (.invokevirtual 156, 3) := by decide +kernel
theorem dX2_finishOutcome_56 : decode cX2_finishOutcome 56 = .ok (.iinc 1 1, 3) := by decide +kernel
