theorem dX2_finishOutcome_59 : decode cX2_finishOutcome 59 = .ok (.goto (-19), 3) := by decide +kernel
theorem dX2_finishOutcome_62 : decode cX2_finishOutcome 62 = .ok (.return_, 1) := by decide +kernel
set_option maxRecDepth 20000 in
theorem ggX2_equationHolds_X1_clear : GoodIn wsX2_equationHolds wsX1_clear := goodIn_r _ [9, 10, 11, 12, 13, 14, 15, 16, 17, 65, 66, 67, 68, 69, 70] (by decide +kernel) (by decide +kernel)
set_option maxRecDepth 20000 in
theorem gX2_equationHolds_X1_clear : GoodIn wsX2_equationHolds (wsV RX2 136 RX1 yX1_clear wsX1_clear) := goodIn_app (goodIn_of _ (by decide +kernel)) ggX2_equationHolds_X1_clear
set_option maxRecDepth 20000 in
theorem ggX2_equationHolds_X1_addProduct : GoodIn wsX2_equationHolds wsX1_addProduct := goodIn_r _ [21, 10, 11, 22, 23, 24, 25, 26, 27, 28, 29, 30, 31, 32, 33, 34, 35, 36, 37, 38, 39, 40, 8, 41, 42, 65, 66, 67, 68, 69, 70, 71, 72, 73, 74] (by decide +kernel) (by decide +kernel)
set_option maxRecDepth 20000 in
theorem gX2_equationHolds_X1_addProduct : GoodIn wsX2_equationHolds (wsV RX2 138 RX1 yX1_addProduct wsX1_addProduct) := goodIn_app (goodIn_of _ (by decide +kernel)) ggX2_equationHolds_X1_addProduct
set_option maxRecDepth 20000 in
theorem ggX2_equationHolds_X1_isZero : GoodIn wsX2_equationHolds wsX1_isZero := goodIn_r _ [46, 47, 48, 49, 8, 50, 10, 11, 65, 66, 67, 68, 69, 70] (by decide +kernel) (by decide +kernel)
set_option maxRecDepth 20000 in
theorem gX2_equationHolds_X1_isZero : GoodIn wsX2_equationHolds (wsV RX2 159 RX1 yX1_isZero wsX1_isZero) := goodIn_app (goodIn_of _ (by decide +kernel)) ggX2_equationHolds_X1_isZero
theorem dX2_equationHolds_0 : decode cX2_equationHolds 0 = .ok (.iload_n 1, 1) := by decide +kernel
theorem dX2_equationHolds_1 : decode cX2_equationHolds 1 = .ok (.aload_n 0, 1) := by decide +kernel
theorem dX2_equationHolds_2 : decode cX2_equationHolds 2 = .ok (.getfield 13, 3) := by decide +kernel
theorem dX2_equationHolds_5 : decode cX2_equationHolds 5 = .ok (.iconst 1, 1) := by decide +kernel
theorem dX2_equationHolds_6 : decode cX2_equationHolds 6 = .ok (.iadd, 1) := by decide +kernel
theorem dX2_equationHolds_7 : decode cX2_equationHolds 7 = .ok (.imul, 1) := by decide +kernel
theorem dX2_equationHolds_8 : decode cX2_equationHolds 8 = .ok (.istore_n 2, 1) := by decide +kernel
theorem dX2_equationHolds_9 : decode cX2_equationHolds 9 = .ok (.aload_n 0, 1) := by decide +kernel
theorem dX2_equationHolds_10 : decode cX2_equationHolds 10 = .ok (.getfield 40, 3) := by decide +kernel
theorem dX2_equationHolds_13 : decode cX2_equationHolds 13 = .ok (.invokevirtual 136, 3) := by decide +kernel
theorem dX2_equationHolds_16 : decode cX2_equationHolds 16 = .ok (.iconst 0, 1) := by decide +kernel
theorem dX2_equationHolds_17 : decode cX2_equationHolds 17 = .ok (.istore_n 3, 1) := by decide +kernel
theorem dX2_equationHolds_18 : decode cX2_equationHolds 18 = .ok (.iload_n 3, 1) := by decide +kernel
theorem dX2_equationHolds_19 : decode cX2_equationHolds 19 = .ok (.aload_n 0, 1) := by decide +kernel
theorem dX2_equationHolds_20 : decode cX2_equationHolds 20 = .ok (.getfield 13, 3) := by decide +kernel
theorem dX2_equationHolds_23 : decode cX2_equationHolds 23 = .ok (.if_icmp .ge 29, 3) := by decide +kernel
theorem dX2_equationHolds_26 : decode cX2_equationHolds 26 = .ok (.aload_n 0, 1) := by decide +kernel
theorem dX2_equationHolds_27 : decode cX2_equationHolds 27 = .ok (.getfield 40, 3) := by decide +kernel
theorem dX2_equationHolds_30 : decode cX2_equationHolds 30 = .ok (.aload_n 0, 1) := by decide +kernel
theorem dX2_equationHolds_31 : decode cX2_equationHolds 31 = .ok (.getfield 29, 3) := by decide +kernel
theorem dX2_equationHolds_34 : decode cX2_equationHolds 34 = .ok (.iload_n 2, 1) := by decide +kernel
theorem dX2_equationHolds_35 : decode cX2_equationHolds 35 = .ok (.iload_n 3, 1) := by decide +kernel
theorem dX2_equationHolds_36 : decode cX2_equationHolds 36 = .ok (.iadd, 1) := by decide +kernel
theorem dX2_equationHolds_37 : decode cX2_equationHolds 37 = .ok (.aload_n 0, 1) := by decide +kernel
theorem dX2_equationHolds_38 : decode cX2_equationHolds 38 = .ok (.getfield 32, 3) := by decide +kernel
theorem dX2_equationHolds_41 : decode cX2_equationHolds 41 = .ok (.iload_n 3, 1) := by decide +kernel
theorem dX2_equationHolds_42 : decode cX2_equationHolds 42 = .ok (.iconst 1, 1) := by decide +kernel
theorem dX2_equationHolds_43 : decode cX2_equationHolds 43 = .ok (.invokevirtual 138, 3) := by decide +kernel
theorem dX2_equationHolds_46 : decode cX2_equationHolds 46 = .ok (.iinc 3 1, 3) := by decide +kernel
theorem dX2_equationHolds_49 : decode cX2_equationHolds 49 = .ok (.goto (-31), 3) := by decide +kernel
theorem dX2_equationHolds_52 : decode cX2_equationHolds 52 = .ok (.aload_n 0, 1) := by decide +kernel
theorem dX2_equationHolds_53 : decode cX2_equationHolds 53 = .ok (.getfield 40, 3) := by decide +kernel
theorem dX2_equationHolds_56 : decode cX2_equationHolds 56 = .ok (.aload_n 0, 1) := by decide +kernel
theorem dX2_equationHolds_57 : decode cX2_equationHolds 57 = .ok (.getfield 29, 3) := by decide +kernel
theorem dX2_equationHolds_60 : decode cX2_equationHolds 60 = .ok (.iload_n 2, 1) := by decide +kernel
theorem dX2_equationHolds_61 : decode cX2_equationHolds 61 = .ok (.aload_n 0, 1) := by decide +kernel
theorem dX2_equationHolds_62 : decode cX2_equationHolds 62 = .ok (.getfield 13, 3) := by decide +kernel
theorem dX2_equationHolds_65 : decode cX2_equationHolds 65 = .ok (.iadd, 1) := by decide +kernel
theorem dX2_equationHolds_66 : decode cX2_equationHolds 66 = .ok (.aload_n 0, 1) := by decide +kernel
theorem dX2_equationHolds_67 : decode cX2_equationHolds 67 = .ok (.getfield 32, 3) := by decide +kernel
theorem dX2_equationHolds_70 : decode cX2_equationHolds 70 = .ok (.aload_n 0, 1) := by decide +kernel
theorem dX2_equationHolds_71 : decode cX2_equationHolds 71 = .ok (.getfield 13, 3) := by decide +kernel
theorem dX2_equationHolds_74 : decode cX2_equationHolds 74 = .ok (.iconst (-1), 1) := by decide +kernel
theorem dX2_equationHolds_75 : decode cX2_equationHolds 75 = .ok (.invokevirtual 138, 3) := by decide +kernel
theorem dX2_equationHolds_78 : decode cX2_equationHolds 78 = .ok (.aload_n 0, 1) := by decide +kernel
theorem dX2_equationHolds_79 : decode cX2_equationHolds 79 = .ok (.getfield 40, 3) := by decide +kernel
theorem dX2_equationHolds_82 : decode cX2_equationHolds 82 = .ok (.invokevirtual 159, 3) := by decide +kernel
theorem dX2_equationHolds_85 : decode cX2_equationHolds 85 = .ok (.ireturn, 1) := by decide +kernel
set_option maxRecDepth 20000 in
theorem ggX3_init_X3_reset : GoodIn wsX3_init wsX3_reset := goodIn_r _ [14, 5, 6, 7, 15, 16, 17, 18, 19, 20, 21, 22, 23, 24, 25, 26, 27, 28, 29, 30, 31] (by decide +kernel) (by decide +kernel)
set_option maxRecDepth 20000 in
theorem gX3_init_X3_reset : GoodIn wsX3_init (wsV RX3 26 RX3 yX3_reset wsX3_reset) := goodIn_app (goodIn_of _ (by decide +kernel)) ggX3_init_X3_reset
theorem dX3_init_0 : decode cX3_init 0 = .ok (.aload_n 0, 1) := by decide +kernel
theorem dX3_init_1 : decode cX3_init 1 = .ok (.invokespecial 1, 3) := by decide +kernel
theorem dX3_init_4 : decode cX3_init 4 = .ok (.aload_n 0, 1) := by decide +kernel
theorem dX3_init_5 : decode cX3_init 5 = .ok (.sipush 2160, 3) := by decide +kernel
theorem dX3_init_8 : decode cX3_init 8 = .ok (.newarray .int, 2) := by decide +kernel
theorem dX3_init_10 : decode cX3_init 10 = .ok (.putfield 7, 3) := by decide +kernel
theorem dX3_init_13 : decode cX3_init 13 = .ok (.aload_n 0, 1) := by decide +kernel
theorem dX3_init_14 : decode cX3_init 14 = .ok (.bipush 54, 2) := by decide +kernel
theorem dX3_init_16 : decode cX3_init 16 = .ok (.newarray .int, 2) := by decide +kernel
theorem dX3_init_18 : decode cX3_init 18 = .ok (.putfield 13, 3) := by decide +kernel
theorem dX3_init_21 : decode cX3_init 21 = .ok (.aload_n 0, 1) := by decide +kernel
theorem dX3_init_22 : decode cX3_init 22 = .ok (.bipush 6, 2) := by decide +kernel
theorem dX3_init_24 : decode cX3_init 24 = .ok (.newarray .int, 2) := by decide +kernel
theorem dX3_init_26 : decode cX3_init 26 = .ok (.putfield 16, 3) := by decide +kernel
theorem dX3_init_29 : decode cX3_init 29 = .ok (.aload_n 0, 1) := by decide +kernel
theorem dX3_init_30 : decode cX3_init 30 = .ok (.iload_n 1, 1) := by decide +kernel
theorem dX3_init_31 : decode cX3_init 31 = .ok (.iconst 1, 1) := by decide +kernel
theorem dX3_init_32 : decode cX3_init 32 = .ok (.if_icmp .ge 7, 3) := by decide +kernel
theorem dX3_init_35 : decode cX3_init 35 = .ok (.iconst 1, 1) := by decide +kernel
theorem dX3_init_36 : decode cX3_init 36 = .ok (.goto 15, 3) := by decide +kernel
theorem dX3_init_39 : decode cX3_init 39 = .ok (.iload_n 1, 1) := by decide +kernel
theorem dX3_init_40 : decode cX3_init 40 = .ok (.bipush 6, 2) := by decide +kernel
theorem dX3_init_42 : decode cX3_init 42 = .ok (.if_icmp .le 8, 3) := by decide +kernel
theorem dX3_init_45 : decode cX3_init 45 = .ok (.bipush 6, 2) := by decide +kernel
theorem dX3_init_47 : decode cX3_init 47 = .ok (.goto 4, 3) := by decide +kernel
theorem dX3_init_50 : decode cX3_init 50 = .ok (.iload_n 1, 1) := by decide +kernel
theorem dX3_init_51 : decode cX3_init 51 = .ok (.putfield 19, 3) := by decide +kernel
theorem dX3_init_54 : decode cX3_init 54 = .ok (.aload_n 0, 1) := by decide +kernel
theorem dX3_init_55 : decode cX3_init 55 = .ok (.iload_n 2, 1) := by decide +kernel
theorem dX3_init_56 : decode cX3_init 56 = .ok (.iconst 1, 1) := by decide +kernel
theorem dX3_init_57 : decode cX3_init 57 = .ok (.if_icmp .ge 7, 3) := by decide +kernel
theorem dX3_init_60 : decode cX3_init 60 = .ok (.iconst 1, 1) := by decide +kernel
theorem dX3_init_61 : decode cX3_init 61 = .ok (.goto 15, 3) := by decide +kernel
theorem dX3_init_64 : decode cX3_init 64 = .ok (.iload_n 2, 1) := by decide +kernel
theorem dX3_init_65 : decode cX3_init 65 = .ok (.bipush 16, 2) := by decide +kernel
theorem dX3_init_67 : decode cX3_init 67 = .ok (.if_icmp .le 8, 3) := by decide +kernel
theorem dX3_init_70 : decode cX3_init 70 = .ok (.bipush 16, 2) := by decide +kernel
theorem dX3_init_72 : decode cX3_init 72 = .ok (.goto 4, 3) := by decide +kernel
theorem dX3_init_75 : decode cX3_init 75 = .ok (.iload_n 2, 1) := by decide +kernel
theorem dX3_init_76 : decode cX3_init 76 = .ok (.putfield 23, 3) := by decide +kernel
theorem dX3_init_79 : decode cX3_init 79 = .ok (.aload_n 0, 1) := by decide +kernel
theorem dX3_init_80 : decode cX3_init 80 = .ok (.invokevirtual 26, 3) := by decide +kernel
theorem dX3_init_83 : decode cX3_init 83 = .ok (.return_, 1) := by decide +kernel
theorem dX3_reset_0 : decode cX3_reset 0 = .ok (.iconst 0, 1) := by decide +kernel
theorem dX3_reset_1 : decode cX3_reset 1 = .ok (.istore_n 1, 1) := by decide +kernel
theorem dX3_reset_2 : decode cX3_reset 2 = .ok (.iload_n 1, 1) := by decide +kernel
theorem dX3_reset_3 : decode cX3_reset 3 = .ok (.sipush 2160, 3) := by decide +kernel
theorem dX3_reset_6 : decode cX3_reset 6 = .ok (.if_icmp .ge 16, 3) := by decide +kernel
theorem dX3_reset_9 : decode cX3_reset 9 = .ok (.aload_n 0, 1) := by decide +kernel
theorem dX3_reset_10 : decode cX3_reset 10 = .ok (.getfield 7, 3) := by decide +kernel
theorem dX3_reset_13 : decode cX3_reset 13 = .ok (.iload_n 1, 1) := by decide +kernel
theorem dX3_reset_14 : decode cX3_reset 14 = .ok (.iconst 0, 1) := by decide +kernel
theorem dX3_reset_15 : decode cX3_reset 15 = .ok (.iastore, 1) := by decide +kernel
theorem dX3_reset_16 : decode cX3_reset 16 = .ok (.iinc 1 1, 3) := by decide +kernel
theorem dX3_reset_19 : decode cX3_reset 19 = .ok (.goto (-17), 3) := by decide +kernel
theorem dX3_reset_22 : decode cX3_reset 22 = .ok (.iconst 0, 1) := by decide +kernel
theorem dX3_reset_23 : decode cX3_reset 23 = .ok (.istore_n 1, 1) := by decide +kernel
theorem dX3_reset_24 : decode cX3_reset 24 = .ok (.iload_n 1, 1) := by decide +kernel
theorem dX3_reset_25 : decode cX3_reset 25 = .ok (.bipush 54, 2) := by decide +kernel
theorem dX3_reset_27 : decode cX3_reset 27 = .ok (.if_icmp .ge 16, 3) := by decide +kernel
theorem dX3_reset_30 : decode cX3_reset 30 = .ok (.aload_n 0, 1) := by decide +kernel
theorem dX3_reset_31 : decode cX3_reset 31 = .ok (.getfield 13, 3) := by decide +kernel
theorem dX3_reset_34 : decode cX3_reset 34 = .ok (.iload_n 1, 1) := by decide +kernel
theorem dX3_reset_35 : decode cX3_reset 35 = .ok (.iconst 0, 1) := by decide +kernel
theorem dX3_reset_36 : decode cX3_reset 36 = .ok (.iastore, 1) := by decide +kernel
theorem dX3_reset_37 : decode cX3_reset 37 = .ok (.iinc 1 1, 3) := by decide +kernel
theorem dX3_reset_40 : decode cX3_reset 40 = .ok (.goto (-16), 3) := by decide +kernel
theorem dX3_reset_43 : decode cX3_reset 43 = .ok (.iconst 0, 1) := by decide +kernel
theorem dX3_reset_44 : decode cX3_reset 44 = .ok (.istore_n 1, 1) := by decide +kernel
theorem dX3_reset_45 : decode cX3_reset 45 = .ok (.iload_n 1, 1) := by decide +kernel
theorem dX3_reset_46 : decode cX3_reset 46 = .ok (.bipush 6, 2) := by decide +kernel
theorem dX3_reset_48 : decode cX3_reset 48 = .ok (.if_icmp .ge 16, 3) := by decide +kernel
theorem dX3_reset_51 : decode cX3_reset 51 = .ok (.aload_n 0, 1) := by decide +kernel
theorem dX3_reset_52 : decode cX3_reset 52 = .ok (.getfield 16, 3) := by decide +kernel
theorem dX3_reset_55 : decode cX3_reset 55 = .ok (.iload_n 1, 1) := by decide +kernel
theorem dX3_reset_56 : decode cX3_reset 56 = .ok (.iload_n 1, 1) := by decide +kernel
theorem dX3_reset_57 : decode cX3_reset 57 = .ok (.iastore, 1) := by decide +kernel
theorem dX3_reset_58 : decode cX3_reset 58 = .ok (.iinc 1 1, 3) := by decide +kernel
theorem dX3_reset_61 : decode cX3_reset 61 = .ok (.goto (-16), 3) := by decide +kernel
theorem dX3_reset_64 : decode cX3_reset 64 = .ok (.aload_n 0, 1) := by decide +kernel
theorem dX3_reset_65 : decode cX3_reset 65 = .ok (.iconst (-1), 1) := by decide +kernel
theorem dX3_reset_66 : decode cX3_reset 66 = .ok (.putfield 29, 3) := by decide +kernel
theorem dX3_reset_69 : decode cX3_reset 69 = .ok (.aload_n 0, 1) := by decide +kernel
theorem dX3_reset_70 : decode cX3_reset 70 = .ok (.iconst 4, 1) := by decide +kernel
theorem dX3_reset_71 : decode cX3_reset 71 = .ok (.putfield 32, 3) := by decide +kernel
theorem dX3_reset_74 : decode cX3_reset 74 = .ok (.aload_n 0, 1) := by decide +kernel
theorem dX3_reset_75 : decode cX3_reset 75 = .ok (.iconst 0, 1) := by decide +kernel
theorem dX3_reset_76 : decode cX3_reset 76 = .ok (.putfield 35, 3) := by decide +kernel
theorem dX3_reset_79 : decode cX3_reset 79 = .ok (.aload_n 0, 1) := by decide +kernel
theorem dX3_reset_80 : decode cX3_reset 80 = .ok (.iconst 0, 1) := by decide +kernel
theorem dX3_reset_81 : decode cX3_reset 81 = .ok (.putfield 38, 3) := by decide +kernel
theorem dX3_reset_84 : decode cX3_reset 84 = .ok (.aload_n 0, 1) := by decide +kernel
theorem dX3_reset_85 : decode cX3_reset 85 = .ok (.iconst 0, 1) := by decide +kernel
theorem dX3_reset_86 : decode cX3_reset 86 = .ok (.putfield 41, 3) := by decide +kernel
theorem dX3_reset_89 : decode cX3_reset 89 = .ok (.return_, 1) := by decide +kernel
theorem dX3_isPlace_0 : decode cX3_isPlace 0 = .ok (.iload_n 1, 1) := by decide +kernel
theorem dX3_isPlace_1 : decode cX3_isPlace 1 = .ok (.ifCond .lt 27, 3) := by decide +kernel
theorem dX3_isPlace_4 : decode cX3_isPlace 4 = .ok (.iload_n 1, 1) := by decide +kernel
theorem dX3_isPlace_5 : decode cX3_isPlace 5 = .ok (.aload_n 0, 1) := by decide +kernel
theorem dX3_isPlace_6 : decode cX3_isPlace 6 = .ok (.getfield 19, 3) := by decide +kernel
theorem dX3_isPlace_9 : decode cX3_isPlace 9 = .ok (.if_icmp .ge 19, 3) := by decide +kernel
theorem dX3_isPlace_12 : decode cX3_isPlace 12 = .ok (.iload_n 2, 1) := by decide +kernel
theorem dX3_isPlace_13 : decode cX3_isPlace 13 = .ok (.ifCond .lt 15, 3) := by decide +kernel
theorem dX3_isPlace_16 : decode cX3_isPlace 16 = .ok (.iload_n 2, 1) := by decide +kernel
theorem dX3_isPlace_17 : decode cX3_isPlace 17 = .ok (.aload_n 0, 1) := by decide +kernel
theorem dX3_isPlace_18 : decode cX3_isPlace 18 = .ok (.getfield 19, 3) := by decide +kernel
theorem dX3_isPlace_21 : decode cX3_isPlace 21 = .ok (.if_icmp .gt 7, 3) := by decide +kernel
theorem dX3_isPlace_24 : decode cX3_isPlace 24 = .ok (.iconst 1, 1) := by decide +kernel
theorem dX3_isPlace_25 : decode cX3_isPlace 25 = .ok (.goto 4, 3) := by decide +kernel
theorem dX3_isPlace_28 : decode cX3_isPlace 28 = .ok (.iconst 0, 1) := by decide +kernel
theorem dX3_isPlace_29 : decode cX3_isPlace 29 = .ok (.ireturn, 1) := by decide +kernel
theorem dX3_place_0 : decode cX3_place 0 = .ok (.bipush 7, 2) := by decide +kernel
theorem dX3_place_2 : decode cX3_place 2 = .ok (.iload_n 1, 1) := by decide +kernel
theorem dX3_place_3 : decode cX3_place 3 = .ok (.imul, 1) := by decide +kernel
theorem dX3_place_4 : decode cX3_place 4 = .ok (.iload_n 2, 1) := by decide +kernel
theorem dX3_place_5 : decode cX3_place 5 = .ok (.aload_n 0, 1) := by decide +kernel
theorem dX3_place_6 : decode cX3_place 6 = .ok (.getfield 19, 3) := by decide +kernel
theorem dX3_place_9 : decode cX3_place 9 = .ok (.if_icmp .ne 8, 3) := by decide +kernel
theorem dX3_place_12 : decode cX3_place 12 = .ok (.bipush 6, 2) := by decide +kernel
theorem dX3_place_14 : decode cX3_place 14 = .ok (.goto 4, 3) := by decide +kernel
theorem dX3_place_17 : decode cX3_place 17 = .ok (.iload_n 2, 1) := by decide +kernel
theorem dX3_place_18 : decode cX3_place 18 = .ok (.iadd, 1) := by decide +kernel
theorem dX3_place_19 : decode cX3_place 19 = .ok (.ireturn, 1) := by decide +kernel
set_option maxRecDepth 20000 in
theorem ggX3_entry_X3_isPlace : GoodIn wsX3_entry wsX3_isPlace := goodIn_r _ [9, 10, 21, 22, 23, 24, 25, 26, 27, 28, 29, 30, 31, 32] (by decide +kernel) (by decide +kernel)
set_option maxRecDepth 20000 in
theorem gX3_entry_X3_isPlace : GoodIn wsX3_entry (wsV RX3 45 RX3 yX3_isPlace wsX3_isPlace) := goodIn_app (goodIn_of _ (by decide +kernel)) ggX3_entry_X3_isPlace
set_option maxRecDepth 20000 in
theorem ggX3_entry_X3_place : GoodIn wsX3_entry wsX3_place := goodIn_r _ [14, 10, 21, 22, 23, 24, 25, 26, 27, 28, 29, 30, 31, 32] (by decide +kernel) (by decide +kernel)
set_option maxRecDepth 20000 in
theorem gX3_entry_X3_place : GoodIn wsX3_entry (wsV RX3 49 RX3 yX3_place wsX3_place) := goodIn_app (goodIn_of _ (by decide +kernel)) ggX3_entry_X3_place
set_option maxRecDepth 20000 in
theorem ggX3_entry_X3_clear : GoodIn wsX3_entry wsX3_clear := goodIn_r _ [18, 19, 20, 21, 22, 23, 24, 25, 26, 27, 28, 29, 30, 31, 32] (by decide +kernel) (by decide +kernel)
set_option maxRecDepth 20000 in
theorem gX3_entry_X3_clear : GoodIn wsX3_entry (wsV RX3 59 RX3 yX3_clear wsX3_clear) := goodIn_app (goodIn_of _ (by decide +kernel)) ggX3_entry_X3_clear
theorem dX3_entry_0 : decode cX3_entry 0 = .ok (.aload_n 0, 1) := by decide +kernel
theorem dX3_entry_1 : decode cX3_entry 1 = .ok (.getfield 32, 3) := by decide +kernel
theorem dX3_entry_4 : decode cX3_entry 4 = .ok (.iconst 4, 1) := by decide +kernel
theorem dX3_entry_5 : decode cX3_entry 5 = .ok (.if_icmp .ne 22, 3) := by decide +kernel
theorem dX3_entry_8 : decode cX3_entry 8 = .ok (.aload_n 0, 1) := by decide +kernel
theorem dX3_entry_9 : decode cX3_entry 9 = .ok (.iload_n 1, 1) := by decide +kernel
theorem dX3_entry_10 : decode cX3_entry 10 = .ok (.iload_n 2, 1) := by decide +kernel
theorem dX3_entry_11 : decode cX3_entry 11 = .ok (.invokevirtual 45, 3) := by decide +kernel
theorem dX3_entry_14 : decode cX3_entry 14 = .ok (.ifCond .eq 13, 3) := by decide +kernel
theorem dX3_entry_17 : decode cX3_entry 17 = .ok (.iload_n 3, 1) := by decide +kernel
theorem dX3_entry_18 : decode cX3_entry 18 = .ok (.iconst (-1), 1) := by decide +kernel
theorem dX3_entry_19 : decode cX3_entry 19 = .ok (.if_icmp .lt 8, 3) := by decide +kernel
theorem dX3_entry_22 : decode cX3_entry 22 = .ok (.iload_n 3, 1) := by decide +kernel
theorem dX3_entry_23 : decode cX3_entry 23 = .ok (.iconst 1, 1) := by decide +kernel
theorem dX3_entry_24 : decode cX3_entry 24 = .ok (.if_icmp .le 5, 3) := by decide +kernel
theorem dX3_entry_27 : decode cX3_entry 27 = .ok (.iconst 0, 1) := by decide +kernel
theorem dX3_entry_28 : decode cX3_entry 28 = .ok (.ireturn, 1) := by decide +kernel
theorem dX3_entry_29 : decode cX3_entry 29 = .ok (.aload_n 0, 1) := by decide +kernel
theorem dX3_entry_30 : decode cX3_entry 30 = .ok (.aload_n 0, 1) := by decide +kernel
theorem dX3_entry_31 : decode cX3_entry 31 = .ok (.iload_n 1, 1) := by decide +kernel
theorem dX3_entry_32 : decode cX3_entry 32 = .ok (.iload_n 2, 1) := by decide +kernel
theorem dX3_entry_33 : decode cX3_entry 33 = .ok (.invokevirtual 49, 3) := by decide +kernel
theorem dX3_entry_36 : decode cX3_entry 36 = .ok (.putfield 29, 3) := by decide +kernel
theorem dX3_entry_39 : decode cX3_entry 39 = .ok (.aload_n 0, 1) := by decide +kernel
theorem dX3_entry_40 : decode cX3_entry 40 = .ok (.iload_n 3, 1) := by decide +kernel
theorem dX3_entry_41 : decode cX3_entry 41 = .ok (.putfield 53, 3) := by decide +kernel
theorem dX3_entry_44 : decode cX3_entry 44 = .ok (.aload_n 0, 1) := by decide +kernel
theorem dX3_entry_45 : decode cX3_entry 45 = .ok (.iconst 0, 1) := by decide +kernel
theorem dX3_entry_46 : decode cX3_entry 46 = .ok (.putfield 56, 3) := by decide +kernel
theorem dX3_entry_49 : decode cX3_entry 49 = .ok (.aload_n 0, 1) := by decide +kernel
theorem dX3_entry_50 : decode cX3_entry 50 = .ok (.aload_n 0, 1) := by decide +kernel
theorem dX3_entry_51 : decode cX3_entry 51 = .ok (.getfield 29, 3) := by decide +kernel
theorem dX3_entry_54 : decode cX3_entry 54 = .ok (.invokevirtual 59, 3) := by decide +kernel
theorem dX3_entry_57 : decode cX3_entry 57 = .ok (.iconst 1, 1) := by decide +kernel
theorem dX3_entry_58 : decode cX3_entry 58 = .ok (.ireturn, 1) := by decide +kernel
theorem dX3_limb_0 : decode cX3_limb 0 = .ok (.aload_n 0, 1) := by decide +kernel
theorem dX3_limb_1 : decode cX3_limb 1 = .ok (.getfield 32, 3) := by decide +kernel
theorem dX3_limb_4 : decode cX3_limb 4 = .ok (.iconst 4, 1) := by decide +kernel
theorem dX3_limb_5 : decode cX3_limb 5 = .ok (.if_icmp .ne 32, 3) := by decide +kernel
theorem dX3_limb_8 : decode cX3_limb 8 = .ok (.aload_n 0, 1) := by decide +kernel
theorem dX3_limb_9 : decode cX3_limb 9 = .ok (.getfield 29, 3) := by decide +kernel
theorem dX3_limb_12 : decode cX3_limb 12 = .ok (.ifCond .lt 25, 3) := by decide +kernel
theorem dX3_limb_15 : decode cX3_limb 15 = .ok (.aload_n 0, 1) := by decide +kernel
theorem dX3_limb_16 : decode cX3_limb 16 = .ok (.getfield 53, 3) := by decide +kernel
theorem dX3_limb_19 : decode cX3_limb 19 = .ok (.ifCond .eq 18, 3) := by decide +kernel
theorem dX3_limb_22 : decode cX3_limb 22 = .ok (.iload_n 1, 1) := by decide +kernel
theorem dX3_limb_23 : decode cX3_limb 23 = .ok (.ifCond .lt 14, 3) := by decide +kernel
theorem dX3_limb_26 : decode cX3_limb 26 = .ok (.aload_n 0, 1) := by decide +kernel
theorem dX3_limb_27 : decode cX3_limb 27 = .ok (.getfield 56, 3) := by decide +kernel
theorem dX3_limb_30 : decode cX3_limb 30 = .ok (.aload_n 0, 1) := by decide +kernel
theorem dX3_limb_31 : decode cX3_limb 31 = .ok (.getfield 23, 3) := by decide +kernel
theorem dX3_limb_34 : decode cX3_limb 34 = .ok (.if_icmp .ne 5, 3) := by decide +kernel
theorem dX3_limb_37 : decode cX3_limb 37 = .ok (.iconst 0, 1) := by decide +kernel
theorem dX3_limb_38 : decode cX3_limb 38 = .ok (.ireturn, 1) := by decide +kernel
theorem dX3_limb_39 : decode cX3_limb 39 = .ok (.aload_n 0, 1) := by decide +kernel
theorem dX3_limb_40 : decode cX3_limb 40 = .ok (.getfield 7, 3) := by decide +kernel
theorem dX3_limb_43 : decode cX3_limb 43 = .ok (.bipush 40, 2) := by decide +kernel
theorem dX3_limb_45 : decode cX3_limb 45 = .ok (.aload_n 0, 1) := by decide +kernel
theorem dX3_limb_46 : decode cX3_limb 46 = .ok (.getfield 29, 3) := by decide +kernel
theorem dX3_limb_49 : decode cX3_limb 49 = .ok (.imul, 1) := by decide +kernel
theorem dX3_limb_50 : decode cX3_limb 50 = .ok (.aload_n 0, 1) := by decide +kernel
theorem dX3_limb_51 : decode cX3_limb 51 = .ok (.getfield 56, 3) := by decide +kernel
theorem dX3_limb_54 : decode cX3_limb 54 = .ok (.iadd, 1) := by decide +kernel
theorem dX3_limb_55 : decode cX3_limb 55 = .ok (.iload_n 1, 1) := by decide +kernel
theorem dX3_limb_56 : decode cX3_limb 56 = .ok (.iastore, 1) := by decide +kernel
theorem dX3_limb_57 : decode cX3_limb 57 = .ok (.aload_n 0, 1) := by decide +kernel
theorem dX3_limb_58 : decode cX3_limb 58 = .ok (.dup, 1) := by decide +kernel
theorem dX3_limb_59 : decode cX3_limb 59 = .ok (.getfield 56, 3) := by decide +kernel
theorem dX3_limb_62 : decode cX3_limb 62 = .ok (.iconst 1, 1) := by decide +kernel
theorem dX3_limb_63 : decode cX3_limb 63 = .ok (.iadd, 1) := by decide +kernel
theorem dX3_limb_64 : decode cX3_limb 64 = .ok (.putfield 56, 3) := by decide +kernel
theorem dX3_limb_67 : decode cX3_limb 67 = .ok (.aload_n 0, 1) := by decide +kernel
theorem dX3_limb_68 : decode cX3_limb 68 = .ok (.getfield 13, 3) := by decide +kernel
theorem dX3_limb_71 : decode cX3_limb 71 = .ok (.aload_n 0, 1) := by decide +kernel
theorem dX3_limb_72 : decode cX3_limb 72 = .ok (.getfield 29, 3) := by decide +kernel
theorem dX3_limb_75 : decode cX3_limb 75 = .ok (.iload_n 1, 1) := by decide +kernel
theorem dX3_limb_76 : decode cX3_limb 76 = .ok (.ifCond .le 10, 3) := by decide +kernel
theorem dX3_limb_79 : decode cX3_limb 79 = .ok (.aload_n 0, 1) := by decide +kernel
theorem dX3_limb_80 : decode cX3_limb 80 = .ok (.getfield 53, 3) := by decide +kernel
theorem dX3_limb_83 : decode cX3_limb 83 = .ok (.goto 12, 3) := by decide +kernel
theorem dX3_limb_86 : decode cX3_limb 86 = .ok (.aload_n 0, 1) := by decide +kernel
theorem dX3_limb_87 : decode cX3_limb 87 = .ok (.getfield 13, 3) := by decide +kernel
theorem dX3_limb_90 : decode cX3_limb 90 = .ok (.aload_n 0, 1) := by decide +kernel
theorem dX3_limb_91 : decode cX3_limb 91 = .ok (.getfield 29, 3) := by decide +kernel
theorem dX3_limb_94 : decode cX3_limb 94 = .ok (.iaload, 1) := by decide +kernel
theorem dX3_limb_95 : decode cX3_limb 95 = .ok (.iastore, 1) := by decide +kernel
theorem dX3_limb_96 : decode cX3_limb 96 = .ok (.iconst 1, 1) := by decide +kernel
theorem dX3_limb_97 : decode cX3_limb 97 = .ok (.ireturn, 1) := by decide +kernel
theorem dX3_clear_0 : decode cX3_clear 0 = .ok (.iconst 0, 1) := by decide +kernel
theorem dX3_clear_1 : decode cX3_clear 1 = .ok (.istore_n 2, 1) := by decide +kernel
theorem dX3_clear_2 : decode cX3_clear 2 = .ok (.iload_n 2, 1) := by decide +kernel
theorem dX3_clear_3 : decode cX3_clear 3 = .ok (.bipush 40, 2) := by decide +kernel
theorem dX3_clear_5 : decode cX3_clear 5 = .ok (.if_icmp .ge 21, 3) := by decide +kernel
theorem dX3_clear_8 : decode cX3_clear 8 = .ok (.aload_n 0, 1) := by decide +kernel
theorem dX3_clear_9 : decode cX3_clear 9 = .ok (.getfield 7, 3) := by decide +kernel
theorem dX3_clear_12 : decode cX3_clear 12 = .ok (.bipush 40, 2) := by decide +kernel
theorem dX3_clear_14 : decode cX3_clear 14 = .ok (.iload_n 1, 1) := by decide +kernel
theorem dX3_clear_15 : decode cX3_clear 15 = .ok (.imul, 1) := by decide +kernel
theorem dX3_clear_16 : decode cX3_clear 16 = .ok (.iload_n 2, 1) := by decide +kernel
theorem dX3_clear_17 : decode cX3_clear 17 = .ok (.iadd, 1) := by decide +kernel
theorem dX3_clear_18 : decode cX3_clear 18 = .ok (.iconst 0, 1) := by decide +kernel
theorem dX3_clear_19 : decode cX3_clear 19 = .ok (.iastore, 1) := by decide +kernel
theorem dX3_clear_20 : decode cX3_clear 20 = .ok (.iinc 2 1, 3) := by decide +kernel
theorem dX3_clear_23 : decode cX3_clear 23 = .ok (.goto (-21), 3) := by decide +kernel
theorem dX3_clear_26 : decode cX3_clear 26 = .ok (.aload_n 0, 1) := by decide +kernel
theorem dX3_clear_27 : decode cX3_clear 27 = .ok (.getfield 13, 3) := by decide +kernel
theorem dX3_clear_30 : decode cX3_clear 30 = .ok (.iload_n 1, 1) := by decide +kernel
theorem dX3_clear_31 : decode cX3_clear 31 = .ok (.iconst 0, 1) := by decide +kernel
theorem dX3_clear_32 : decode cX3_clear 32 = .ok (.iastore, 1) := by decide +kernel
theorem dX3_clear_33 : decode cX3_clear 33 = .ok (.return_, 1) := by decide +kernel
theorem dX3_copy_0 : decode cX3_copy 0 = .ok (.iconst 0, 1) := by decide +kernel
theorem dX3_copy_1 : decode cX3_copy 1 = .ok (.istore_n 3, 1) := by decide +kernel
theorem dX3_copy_2 : decode cX3_copy 2 = .ok (.iload_n 3, 1) := by decide +kernel
theorem dX3_copy_3 : decode cX3_copy 3 = .ok (.bipush 40, 2) := by decide +kernel
theorem dX3_copy_5 : decode cX3_copy 5 = .ok (.if_icmp .ge 31, 3) := by decide +kernel
theorem dX3_copy_8 : decode cX3_copy 8 = .ok (.aload_n 0, 1) := by decide +kernel
theorem dX3_copy_9 : decode cX3_copy 9 = .ok (.getfield 7, 3) := by decide +kernel
theorem dX3_copy_12 : decode cX3_copy 12 = .ok (.bipush 40, 2) := by decide +kernel
theorem dX3_copy_14 : decode cX3_copy 14 = .ok (.iload_n 2, 1) := by decide +kernel
theorem dX3_copy_15 : decode cX3_copy 15 = .ok (.imul, 1) := by decide +kernel
theorem dX3_copy_16 : decode cX3_copy 16 = .ok (.iload_n 3, 1) := by decide +kernel
theorem dX3_copy_17 : decode cX3_copy 17 = .ok (.iadd, 1) := by decide +kernel
theorem dX3_copy_18 : decode cX3_copy 18 = .ok (.aload_n 0, 1) := by decide +kernel
theorem dX3_copy_19 : decode cX3_copy 19 = .ok (.getfield 7, 3) := by decide +kernel
theorem dX3_copy_22 : decode cX3_copy 22 = .ok (.bipush 40, 2) := by decide +kernel
theorem dX3_copy_24 : decode cX3_copy 24 = .ok (.iload_n 1, 1) := by decide +kernel
theorem dX3_copy_25 : decode cX3_copy 25 = .ok (.imul, 1) := by decide +kernel
theorem dX3_copy_26 : decode cX3_copy 26 = .ok (.iload_n 3, 1) := by decide +kernel
theorem dX3_copy_27 : decode cX3_copy 27 = .ok (.iadd, 1) := by decide +kernel
theorem dX3_copy_28 : decode cX3_copy 28 = .ok (.iaload, 1) := by decide +kernel
theorem dX3_copy_29 : decode cX3_copy 29 = .ok (.iastore, 1) := by decide +kernel
theorem dX3_copy_30 : decode cX3_copy 30 = .ok (.iinc 3 1, 3) := by decide +kernel
theorem dX3_copy_33 : decode cX3_copy 33 = .ok (.goto (-31), 3) := by decide +kernel
theorem dX3_copy_36 : decode cX3_copy 36 = .ok (.aload_n 0, 1) := by decide +kernel
theorem dX3_copy_37 : decode cX3_copy 37 = .ok (.getfield 13, 3) := by decide +kernel
theorem dX3_copy_40 : decode cX3_copy 40 = .ok (.iload_n 2, 1) := by decide +kernel
theorem dX3_copy_41 : decode cX3_copy 41 = .ok (.aload_n 0, 1) := by decide +kernel
theorem dX3_copy_42 : decode cX3_copy 42 = .ok (.getfield 13, 3) := by decide +kernel
theorem dX3_copy_45 : decode cX3_copy 45 = .ok (.iload_n 1, 1) := by decide +kernel
theorem dX3_copy_46 : decode cX3_copy 46 = .ok (.iaload, 1) := by decide +kernel
theorem dX3_copy_47 : decode cX3_copy 47 = .ok (.iastore, 1) := by decide +kernel
theorem dX3_copy_48 : decode cX3_copy 48 = .ok (.return_, 1) := by decide +kernel
theorem dX3_count_0 : decode cX3_count 0 = .ok (.bipush 40, 2) := by decide +kernel
theorem dX3_count_2 : decode cX3_count 2 = .ok (.istore_n 2, 1) := by decide +kernel
theorem dX3_count_3 : decode cX3_count 3 = .ok (.iload_n 2, 1) := by decide +kernel
theorem dX3_count_4 : decode cX3_count 4 = .ok (.ifCond .le 25, 3) := by decide +kernel
theorem dX3_count_7 : decode cX3_count 7 = .ok (.aload_n 0, 1) := by decide +kernel
theorem dX3_count_8 : decode cX3_count 8 = .ok (.getfield 7, 3) := by decide +kernel
theorem dX3_count_11 : decode cX3_count 11 = .ok (.bipush 40, 2) := by decide +kernel
theorem dX3_count_13 : decode cX3_count 13 = .ok (.iload_n 1, 1) := by decide +kernel
theorem dX3_count_14 : decode cX3_count 14 = .ok (.imul, 1) := by decide +kernel
theorem dX3_count_15 : decode cX3_count 15 = .ok (.iload_n 2, 1) := by decide +kernel
theorem dX3_count_16 : decode cX3_count 16 = .ok (.iadd, 1) := by decide +kernel
theorem dX3_count_17 : decode cX3_count 17 = .ok (.iconst 1, 1) := by decide +kernel
theorem dX3_count_18 : decode cX3_count 18 = .ok (.isub, 1) := by decide +kernel
theorem dX3_count_19 : decode cX3_count 19 = .ok (.iaload, 1) := by decide +kernel
theorem dX3_count_20 : decode cX3_count 20 = .ok (.ifCond .ne 9, 3) := by decide +kernel
theorem dX3_count_23 : decode cX3_count 23 = .ok (.iinc 2 (-1), 3) := by decide +kernel
theorem dX3_count_26 : decode cX3_count 26 = .ok (.goto (-23), 3) := by decide +kernel
theorem dX3_count_29 : decode cX3_count 29 = .ok (.iload_n 2, 1) := by decide +kernel
theorem dX3_count_30 : decode cX3_count 30 = .ok (.ireturn, 1) := by decide +kernel
set_option maxRecDepth 20000 in
theorem ggX3_multiply_X3_clear : GoodIn wsX3_multiply wsX3_clear := goodIn_r _ [8, 1, 3, 13, 14, 15, 16, 17, 18, 19, 20, 21, 22, 23, 24] (by decide +kernel) (by decide +kernel)
set_option maxRecDepth 20000 in
theorem gX3_multiply_X3_clear : GoodIn wsX3_multiply (wsV RX3 59 RX3 yX3_clear wsX3_clear) := goodIn_app (goodIn_of _ (by decide +kernel)) ggX3_multiply_X3_clear
set_option maxRecDepth 20000 in
theorem ggX3_multiply_X3_count : GoodIn wsX3_multiply wsX3_count := goodIn_r _ [12, 1, 13, 14, 15, 16, 17, 18, 19, 20, 21, 22, 23, 24] (by decide +kernel) (by decide +kernel)
set_option maxRecDepth 20000 in
theorem gX3_multiply_X3_count : GoodIn wsX3_multiply (wsV RX3 63 RX3 yX3_count wsX3_count) := goodIn_app (goodIn_of _ (by decide +kernel)) ggX3_multiply_X3_count
theorem dX3_multiply_0 : decode cX3_multiply 0 = .ok (.aload_n 0, 1) := by decide +kernel
theorem dX3_multiply_1 : decode cX3_multiply 1 = .ok (.bipush 48, 2) := by decide +kernel
theorem dX3_multiply_3 : decode cX3_multiply 3 = .ok (.invokevirtual 59, 3) := by decide +kernel
theorem dX3_multiply_6 : decode cX3_multiply 6 = .ok (.aload_n 0, 1) := by decide +kernel
theorem dX3_multiply_7 : decode cX3_multiply 7 = .ok (.iload_n 2, 1) := by decide +kernel
theorem dX3_multiply_8 : decode cX3_multiply 8 = .ok (.invokevirtual 63, 3) := by decide +kernel
theorem dX3_multiply_11 : decode cX3_multiply 11 = .ok (.istore_n 3, 1) := by decide +kernel
theorem dX3_multiply_12 : decode cX3_multiply 12 = .ok (.iconst 0, 1) := by decide +kernel
theorem dX3_multiply_13 : decode cX3_multiply 13 = .ok (.istore 4, 2) := by decide +kernel
theorem dX3_multiply_15 : decode cX3_multiply 15 = .ok (.iload 4, 2) := by decide +kernel
theorem dX3_multiply_17 : decode cX3_multiply 17 = .ok (.aload_n 0, 1) := by decide +kernel
theorem dX3_multiply_18 : decode cX3_multiply 18 = .ok (.iload_n 1, 1) := by decide +kernel
theorem dX3_multiply_19 : decode cX3_multiply 19 = .ok (.invokevirtual 63, 3) := by decide +kernel
theorem dX3_multiply_22 : decode cX3_multiply 22 = .ok (.if_icmp .ge 120, 3) := by decide +kernel
theorem dX3_multiply_25 : decode cX3_multiply 25 = .ok (.lconst 0, 1) := by decide +kernel
theorem dX3_multiply_26 : decode cX3_multiply 26 = .ok (.lstore 5, 2) := by decide +kernel
theorem dX3_multiply_28 : decode cX3_multiply 28 = .ok (.iconst 0, 1) := by decide +kernel
theorem dX3_multiply_29 : decode cX3_multiply 29 = .ok (.istore 7, 2) := by decide +kernel
theorem dX3_multiply_31 : decode cX3_multiply 31 = .ok (.iload 7, 2) := by decide +kernel
theorem dX3_multiply_33 : decode cX3_multiply 33 = .ok (.iload_n 3, 1) := by decide +kernel
theorem dX3_multiply_34 : decode cX3_multiply 34 = .ok (.if_icmp .lt 10, 3) := by decide +kernel
theorem dX3_multiply_37 : decode cX3_multiply 37 = .ok (.lload 5, 2) := by decide +kernel
theorem dX3_multiply_39 : decode cX3_multiply 39 = .ok (.lconst 0, 1) := by decide +kernel
theorem dX3_multiply_40 : decode cX3_multiply 40 = .ok (.lcmp, 1) := by decide +kernel
theorem dX3_multiply_41 : decode cX3_multiply 41 = .ok (.ifCond .le 95, 3) := by decide +kernel
theorem dX3_multiply_44 : decode cX3_multiply 44 = .ok (.aload_n 0, 1) := by decide +kernel
theorem dX3_multiply_45 : decode cX3_multiply 45 = .ok (.getfield 7, 3) := by decide +kernel
theorem dX3_multiply_48 : decode cX3_multiply 48 = .ok (.bipush 40, 2) := by decide +kernel
theorem dX3_multiply_50 : decode cX3_multiply 50 = .ok (.iload_n 1, 1) := by decide +kernel
theorem dX3_multiply_51 : decode cX3_multiply 51 = .ok (.imul, 1) := by decide +kernel
theorem dX3_multiply_52 : decode cX3_multiply 52 = .ok (.iload 4, 2) := by decide +kernel
theorem dX3_multiply_54 : decode cX3_multiply 54 = .ok (.iadd, 1) := by decide +kernel
theorem dX3_multiply_55 : decode cX3_multiply 55 = .ok (.iaload, 1) := by decide +kernel
theorem dX3_multiply_56 : decode cX3_multiply 56 = .ok (.i2l, 1) := by decide +kernel
theorem dX3_multiply_57 : decode cX3_multiply 57 = .ok (.iload 7, 2) := by decide +kernel
theorem dX3_multiply_59 : decode cX3_multiply 59 = .ok (.iload_n 3, 1) := by decide +kernel
theorem dX3_multiply_60 : decode cX3_multiply 60 = .ok (.if_icmp .ge 18, 3) := by decide +kernel
theorem dX3_multiply_63 : decode cX3_multiply 63 = .ok (.aload_n 0, 1) := by decide +kernel
theorem dX3_multiply_64 : decode cX3_multiply 64 = .ok (.getfield 7, 3) := by decide +kernel
theorem dX3_multiply_67 : decode cX3_multiply 67 = .ok (.bipush 40, 2) := by decide +kernel
theorem dX3_multiply_69 : decode cX3_multiply 69 = .ok (.iload_n 2, 1) := by decide +kernel
theorem dX3_multiply_70 : decode cX3_multiply 70 = .ok (.imul, 1) := by decide +kernel
theorem dX3_multiply_71 : decode cX3_multiply 71 = .ok (.iload 7, 2) := by decide +kernel
theorem dX3_multiply_73 : decode cX3_multiply 73 = .ok (.iadd, 1) := by decide +kernel
theorem dX3_multiply_74 : decode cX3_multiply 74 = .ok (.iaload, 1) := by decide +kernel
theorem dX3_multiply_75 : decode cX3_multiply 75 = .ok (.goto 4, 3) := by decide +kernel
theorem dX3_multiply_78 : decode cX3_multiply 78 = .ok (.iconst 0, 1) := by decide +kernel
theorem dX3_multiply_79 : decode cX3_multiply 79 = .ok (.i2l, 1) := by decide +kernel
theorem dX3_multiply_80 : decode cX3_multiply 80 = .ok (.lmul, 1) := by decide +kernel
theorem dX3_multiply_81 : decode cX3_multiply 81 = .ok (.aload_n 0, 1) := by decide +kernel
theorem dX3_multiply_82 : decode cX3_multiply 82 = .ok (.getfield 7, 3) := by decide +kernel
theorem dX3_multiply_85 : decode cX3_multiply 85 = .ok (.sipush 1920, 3) := by decide +kernel
theorem dX3_multiply_88 : decode cX3_multiply 88 = .ok (.iload 4, 2) := by decide +kernel
theorem dX3_multiply_90 : decode cX3_multiply 90 = .ok (.iadd, 1) := by decide +kernel
theorem dX3_multiply_91 : decode cX3_multiply 91 = .ok (.iload 7, 2) := by decide +kernel
theorem dX3_multiply_93 : decode cX3_multiply 93 = .ok (.iadd, 1) := by decide +kernel
theorem dX3_multiply_94 : decode cX3_multiply 94 = .ok (.iaload, 1) := by decide +kernel
theorem dX3_multiply_95 : decode cX3_multiply 95 = .ok (.i2l, 1) := by decide +kernel
theorem dX3_multiply_96 : decode cX3_multiply 96 = .ok (.ladd, 1) := by decide +kernel
theorem dX3_multiply_97 : decode cX3_multiply 97 = .ok (.lload 5, 2) := by decide +kernel
theorem dX3_multiply_99 : decode cX3_multiply 99 = .ok (.ladd, 1) := by decide +kernel
theorem dX3_multiply_100 : decode cX3_multiply 100 = .ok (.lstore 8, 2) := by decide +kernel
theorem dX3_multiply_102 : decode cX3_multiply 102 = .ok (.aload_n 0, 1) := by decide +kernel
theorem dX3_multiply_103 : decode cX3_multiply 103 = .ok (.getfield 7, 3) := by decide +kernel
theorem dX3_multiply_106 : decode cX3_multiply 106 = .ok (.sipush 1920, 3) := by decide +kernel
theorem dX3_multiply_109 : decode cX3_multiply 109 = .ok (.iload 4, 2) := by decide +kernel
theorem dX3_multiply_111 : decode cX3_multiply 111 = .ok (.iadd, 1) := by decide +kernel
theorem dX3_multiply_112 : decode cX3_multiply 112 = .ok (.iload 7, 2) := by decide +kernel
theorem dX3_multiply_114 : decode cX3_multiply 114 = .ok (.iadd, 1) := by decide +kernel
theorem dX3_multiply_115 : decode cX3_multiply 115 = .ok (.lload 8, 2) := by decide +kernel
theorem dX3_multiply_117 : decode cX3_multiply 117 = .ok (.ldc2_w 67, 3) := by decide +kernel
theorem dX3_multiply_120 : decode cX3_multiply 120 = .ok (.land, 1) := by decide +kernel
theorem dX3_multiply_121 : decode cX3_multiply 121 = .ok (.l2i, 1) := by decide +kernel
theorem dX3_multiply_122 : decode cX3_multiply 122 = .ok (.iastore, 1) := by decide +kernel
theorem dX3_multiply_123 : decode cX3_multiply 123 = .ok (.lload 8, 2) := by decide +kernel
theorem dX3_multiply_125 : decode cX3_multiply 125 = .ok (.bipush 31, 2) := by decide +kernel
theorem dX3_multiply_127 : decode cX3_multiply 127 = .ok (.lshr, 1) := by decide +kernel
theorem dX3_multiply_128 : decode cX3_multiply 128 = .ok (.lstore 5, 2) := by decide +kernel
theorem dX3_multiply_130 : decode cX3_multiply 130 = .ok (.iinc 7 1, 3) := by decide +kernel
theorem dX3_multiply_133 : decode cX3_multiply 133 = .ok (.goto (-102), 3) := by decide +kernel
theorem dX3_multiply_136 : decode cX3_multiply 136 = .ok (.iinc 4 1, 3) := by decide +kernel
theorem dX3_multiply_139 : decode cX3_multiply 139 = .ok (.goto (-124), 3) := by decide +kernel
theorem dX3_multiply_142 : decode cX3_multiply 142 = .ok (.aload_n 0, 1) := by decide +kernel
theorem dX3_multiply_143 : decode cX3_multiply 143 = .ok (.getfield 13, 3) := by decide +kernel
theorem dX3_multiply_146 : decode cX3_multiply 146 = .ok (.bipush 48, 2) := by decide +kernel
theorem dX3_multiply_148 : decode cX3_multiply 148 = .ok (.aload_n 0, 1) := by decide +kernel
theorem dX3_multiply_149 : decode cX3_multiply 149 = .ok (.getfield 13, 3) := by decide +kernel
theorem dX3_multiply_152 : decode cX3_multiply 152 = .ok (.iload_n 1, 1) := by decide +kernel
theorem dX3_multiply_153 : decode cX3_multiply 153 = .ok (.iaload, 1) := by decide +kernel
theorem dX3_multiply_154 : decode cX3_multiply 154 = .ok (.aload_n 0, 1) := by decide +kernel
theorem dX3_multiply_155 : decode cX3_multiply 155 = .ok (.getfield 13, 3) := by decide +kernel
theorem dX3_multiply_158 : decode cX3_multiply 158 = .ok (.iload_n 2, 1) := by decide +kernel
theorem dX3_multiply_159 : decode cX3_multiply 159 = .ok (.iaload, 1) := by decide +kernel
theorem dX3_multiply_160 : decode cX3_multiply 160 = .ok (.imul, 1) := by decide +kernel
