theorem dX2_init_6 : decode cX2_init 6 = .ok (.bipush 6, 2) := by decide +kernel
theorem dX2_init_8 : decode cX2_init 8 = .ok (.invokestatic 9, 3) := by decide +kernel
theorem dX2_init_11 : decode cX2_init 11 = .ok (.putfield 13, 3) := by decide +kernel
theorem dX2_init_14 : decode cX2_init 14 = .ok (.aload_n 0, 1) := by decide +kernel
theorem dX2_init_15 : decode cX2_init 15 = .ok (.iload_n 2, 1) := by decide +kernel
theorem dX2_init_16 : decode cX2_init 16 = .ok (.bipush 16, 2) := by decide +kernel
theorem dX2_init_18 : decode cX2_init 18 = .ok (.invokestatic 9, 3) := by decide +kernel
theorem dX2_init_21 : decode cX2_init 21 = .ok (.putfield 17, 3) := by decide +kernel
theorem dX2_init_24 : decode cX2_init 24 = .ok (.aload_n 0, 1) := by decide +kernel
theorem dX2_init_25 : decode cX2_init 25 = .ok (.new 20, 3) := by decide +kernel
theorem dX2_init_28 : decode cX2_init 28 = .ok (.dup, 1) := by decide +kernel
theorem dX2_init_29 : decode cX2_init 29 = .ok (.aload_n 0, 1) := by decide +kernel
theorem dX2_init_30 : decode cX2_init 30 = .ok (.getfield 13, 3) := by decide +kernel
theorem dX2_init_33 : decode cX2_init 33 = .ok (.aload_n 0, 1) := by decide +kernel
theorem dX2_init_34 : decode cX2_init 34 = .ok (.getfield 13, 3) := by decide +kernel
theorem dX2_init_37 : decode cX2_init 37 = .ok (.iconst 1, 1) := by decide +kernel
theorem dX2_init_38 : decode cX2_init 38 = .ok (.iadd, 1) := by decide +kernel
theorem dX2_init_39 : decode cX2_init 39 = .ok (.imul, 1) := by decide +kernel
theorem dX2_init_40 : decode cX2_init 40 = .ok (.aload_n 0, 1) := by decide +kernel
theorem dX2_init_41 : decode cX2_init 41 = .ok (.getfield 17, 3) := by decide +kernel
theorem dX2_init_44 : decode cX2_init 44 = .ok (.invokespecial 22, 3) := by decide +kernel
theorem dX2_init_47 : decode cX2_init 47 = .ok (.putfield 25, 3) := by decide +kernel
theorem dX2_init_50 : decode cX2_init 50 = .ok (.aload_n 0, 1) := by decide +kernel
theorem dX2_init_51 : decode cX2_init 51 = .ok (.new 20, 3) := by decide +kernel
theorem dX2_init_54 : decode cX2_init 54 = .ok (.dup, 1) := by decide +kernel
theorem dX2_init_55 : decode cX2_init 55 = .ok (.aload_n 0, 1) := by decide +kernel
theorem dX2_init_56 : decode cX2_init 56 = .ok (.getfield 13, 3) := by decide +kernel
theorem dX2_init_59 : decode cX2_init 59 = .ok (.aload_n 0, 1) := by decide +kernel
theorem dX2_init_60 : decode cX2_init 60 = .ok (.getfield 13, 3) := by decide +kernel
theorem dX2_init_63 : decode cX2_init 63 = .ok (.iconst 1, 1) := by decide +kernel
theorem dX2_init_64 : decode cX2_init 64 = .ok (.iadd, 1) := by decide +kernel
theorem dX2_init_65 : decode cX2_init 65 = .ok (.imul, 1) := by decide +kernel
theorem dX2_init_66 : decode cX2_init 66 = .ok (.aload_n 0, 1) := by decide +kernel
theorem dX2_init_67 : decode cX2_init 67 = .ok (.getfield 17, 3) := by decide +kernel
theorem dX2_init_70 : decode cX2_init 70 = .ok (.invokespecial 22, 3) := by decide +kernel
theorem dX2_init_73 : decode cX2_init 73 = .ok (.putfield 29, 3) := by decide +kernel
theorem dX2_init_76 : decode cX2_init 76 = .ok (.aload_n 0, 1) := by decide +kernel
theorem dX2_init_77 : decode cX2_init 77 = .ok (.new 20, 3) := by decide +kernel
theorem dX2_init_80 : decode cX2_init 80 = .ok (.dup, 1) := by decide +kernel
theorem dX2_init_81 : decode cX2_init 81 = .ok (.aload_n 0, 1) := by decide +kernel
theorem dX2_init_82 : decode cX2_init 82 = .ok (.getfield 13, 3) := by decide +kernel
theorem dX2_init_85 : decode cX2_init 85 = .ok (.iconst 1, 1) := by decide +kernel
theorem dX2_init_86 : decode cX2_init 86 = .ok (.iadd, 1) := by decide +kernel
theorem dX2_init_87 : decode cX2_init 87 = .ok (.aload_n 0, 1) := by decide +kernel
theorem dX2_init_88 : decode cX2_init 88 = .ok (.getfield 17, 3) := by decide +kernel
theorem dX2_init_91 : decode cX2_init 91 = .ok (.invokespecial 22, 3) := by decide +kernel
theorem dX2_init_94 : decode cX2_init 94 = .ok (.putfield 32, 3) := by decide +kernel
theorem dX2_init_97 : decode cX2_init 97 = .ok (.aload_n 0, 1) := by decide +kernel
theorem dX2_init_98 : decode cX2_init 98 = .ok (.new 35, 3) := by decide +kernel
theorem dX2_init_101 : decode cX2_init 101 = .ok (.dup, 1) := by decide +kernel
theorem dX2_init_102 : decode cX2_init 102 = .ok (.aload_n 0, 1) := by decide +kernel
theorem dX2_init_103 : decode cX2_init 103 = .ok (.getfield 17, 3) := by decide +kernel
theorem dX2_init_106 : decode cX2_init 106 = .ok (.invokespecial 37, 3) := by decide +kernel
theorem dX2_init_109 : decode cX2_init 109 = .ok (.putfield 40, 3) := by decide +kernel
theorem dX2_init_112 : decode cX2_init 112 = .ok (.aload_n 0, 1) := by decide +kernel
theorem dX2_init_113 : decode cX2_init 113 = .ok (.aload_n 0, 1) := by decide +kernel
theorem dX2_init_114 : decode cX2_init 114 = .ok (.getfield 13, 3) := by decide +kernel
theorem dX2_init_117 : decode cX2_init 117 = .ok (.newarray .int, 2) := by decide +kernel
theorem dX2_init_119 : decode cX2_init 119 = .ok (.putfield 44, 3) := by decide +kernel
theorem dX2_init_122 : decode cX2_init 122 = .ok (.aload_n 0, 1) := by decide +kernel
theorem dX2_init_123 : decode cX2_init 123 = .ok (.invokevirtual 48, 3) := by decide +kernel
theorem dX2_init_126 : decode cX2_init 126 = .ok (.return_, 1) := by decide +kernel
set_option maxRecDepth 20000 in
theorem ggX2_reset_X2_startLoading : GoodIn wsX2_reset wsX2_startLoading := goodIn_r _ [5, 6, 7, 8, 9, 10, 11, 12, 13, 14, 15, 16, 17, 18, 19, 20, 21, 22, 23, 24, 25, 26, 27, 28, 29, 30, 31, 32, 33, 34, 35, 36, 37, 38, 39, 40, 41, 42, 43, 44] (by decide +kernel) (by decide +kernel)
set_option maxRecDepth 20000 in
theorem gX2_reset_X2_startLoading : GoodIn wsX2_reset (wsV RX2 48 RX2 yX2_startLoading wsX2_startLoading) := goodIn_app (goodIn_of _ (by decide +kernel)) ggX2_reset_X2_startLoading
theorem dX2_reset_0 : decode cX2_reset 0 = .ok (.aload_n 0, 1) := by decide +kernel
theorem dX2_reset_1 : decode cX2_reset 1 = .ok (.invokevirtual 48, 3) := by decide +kernel
theorem dX2_reset_4 : decode cX2_reset 4 = .ok (.return_, 1) := by decide +kernel
set_option maxRecDepth 20000 in
theorem ggX2_entry_X2_isPlace : GoodIn wsX2_entry wsX2_isPlace := goodIn_r _ [10, 11, 24, 25, 26, 27, 28, 29, 30, 31, 32, 33, 34, 35, 36, 37] (by decide +kernel) (by decide +kernel)
set_option maxRecDepth 20000 in
theorem gX2_entry_X2_isPlace : GoodIn wsX2_entry (wsV RX2 54 RX2 yX2_isPlace wsX2_isPlace) := goodIn_app (goodIn_of _ (by decide +kernel)) ggX2_entry_X2_isPlace
set_option maxRecDepth 20000 in
theorem ggX2_entry_X2_slotAt : GoodIn wsX2_entry wsX2_slotAt := goodIn_r _ [15, 16, 11, 24, 25, 26, 27, 28, 29, 30, 31, 32, 33, 34, 35, 36, 37] (by decide +kernel) (by decide +kernel)
set_option maxRecDepth 20000 in
theorem gX2_entry_X2_slotAt : GoodIn wsX2_entry (wsV RX2 58 RX2 yX2_slotAt wsX2_slotAt) := goodIn_app (goodIn_of _ (by decide +kernel)) ggX2_entry_X2_slotAt
set_option maxRecDepth 20000 in
theorem ggX2_entry_X0_clear : GoodIn wsX2_entry wsX0_clear := goodIn_r _ [21, 22, 23, 38, 39, 40, 41] (by decide +kernel) (by decide +kernel)
set_option maxRecDepth 20000 in
theorem gX2_entry_X0_clear : GoodIn wsX2_entry (wsV RX2 70 RX0 yX0_clear wsX0_clear) := goodIn_app (goodIn_of _ (by decide +kernel)) ggX2_entry_X0_clear
theorem dX2_entry_0 : decode cX2_entry 0 = .ok (.aload_n 0, 1) := by decide +kernel
theorem dX2_entry_1 : decode cX2_entry 1 = .ok (.getfield 51, 3) := by decide +kernel
theorem dX2_entry_4 : decode cX2_entry 4 = .ok (.iconst 4, 1) := by decide +kernel
theorem dX2_entry_5 : decode cX2_entry 5 = .ok (.if_icmp .ne 22, 3) := by decide +kernel
theorem dX2_entry_8 : decode cX2_entry 8 = .ok (.aload_n 0, 1) := by decide +kernel
theorem dX2_entry_9 : decode cX2_entry 9 = .ok (.iload_n 1, 1) := by decide +kernel
theorem dX2_entry_10 : decode cX2_entry 10 = .ok (.iload_n 2, 1) := by decide +kernel
theorem dX2_entry_11 : decode cX2_entry 11 = .ok (.invokevirtual 54, 3) := by decide +kernel
theorem dX2_entry_14 : decode cX2_entry 14 = .ok (.ifCond .eq 13, 3) := by decide +kernel
theorem dX2_entry_17 : decode cX2_entry 17 = .ok (.iload_n 3, 1) := by decide +kernel
theorem dX2_entry_18 : decode cX2_entry 18 = .ok (.iconst (-1), 1) := by decide +kernel
theorem dX2_entry_19 : decode cX2_entry 19 = .ok (.if_icmp .lt 8, 3) := by decide +kernel
theorem dX2_entry_22 : decode cX2_entry 22 = .ok (.iload_n 3, 1) := by decide +kernel
theorem dX2_entry_23 : decode cX2_entry 23 = .ok (.iconst 1, 1) := by decide +kernel
theorem dX2_entry_24 : decode cX2_entry 24 = .ok (.if_icmp .le 5, 3) := by decide +kernel
theorem dX2_entry_27 : decode cX2_entry 27 = .ok (.iconst 0, 1) := by decide +kernel
theorem dX2_entry_28 : decode cX2_entry 28 = .ok (.ireturn, 1) := by decide +kernel
theorem dX2_entry_29 : decode cX2_entry 29 = .ok (.aload_n 0, 1) := by decide +kernel
theorem dX2_entry_30 : decode cX2_entry 30 = .ok (.aload_n 0, 1) := by decide +kernel
theorem dX2_entry_31 : decode cX2_entry 31 = .ok (.iload_n 1, 1) := by decide +kernel
theorem dX2_entry_32 : decode cX2_entry 32 = .ok (.iload_n 2, 1) := by decide +kernel
theorem dX2_entry_33 : decode cX2_entry 33 = .ok (.invokevirtual 58, 3) := by decide +kernel
theorem dX2_entry_36 : decode cX2_entry 36 = .ok (.putfield 61, 3) := by decide +kernel
theorem dX2_entry_39 : decode cX2_entry 39 = .ok (.aload_n 0, 1) := by decide +kernel
theorem dX2_entry_40 : decode cX2_entry 40 = .ok (.iload_n 3, 1) := by decide +kernel
theorem dX2_entry_41 : decode cX2_entry 41 = .ok (.putfield 64, 3) := by decide +kernel
theorem dX2_entry_44 : decode cX2_entry 44 = .ok (.aload_n 0, 1) := by decide +kernel
theorem dX2_entry_45 : decode cX2_entry 45 = .ok (.iconst 0, 1) := by decide +kernel
theorem dX2_entry_46 : decode cX2_entry 46 = .ok (.putfield 67, 3) := by decide +kernel
theorem dX2_entry_49 : decode cX2_entry 49 = .ok (.aload_n 0, 1) := by decide +kernel
theorem dX2_entry_50 : decode cX2_entry 50 = .ok (.getfield 25, 3) := by decide +kernel
theorem dX2_entry_53 : decode cX2_entry 53 = .ok (.aload_n 0, 1) := by decide +kernel
theorem dX2_entry_54 : decode cX2_entry 54 = .ok (.getfield 61, 3) := by decide +kernel
theorem dX2_entry_57 : decode cX2_entry 57 = .ok (.invokevirtual 70, 3) := by decide +kernel
theorem dX2_entry_60 : decode cX2_entry 60 = .ok (.iconst 1, 1) := by decide +kernel
theorem dX2_entry_61 : decode cX2_entry 61 = .ok (.ireturn, 1) := by decide +kernel
set_option maxRecDepth 20000 in
theorem ggX2_limb_X0_putLimb : GoodIn wsX2_limb wsX0_putLimb := goodIn_r _ [10, 11, 12, 13, 14, 29, 30, 31, 32] (by decide +kernel) (by decide +kernel)
set_option maxRecDepth 20000 in
theorem gX2_limb_X0_putLimb : GoodIn wsX2_limb (wsV RX2 73 RX0 yX0_putLimb wsX0_putLimb) := goodIn_app (goodIn_of _ (by decide +kernel)) ggX2_limb_X0_putLimb
theorem dX2_limb_0 : decode cX2_limb 0 = .ok (.aload_n 0, 1) := by decide +kernel
theorem dX2_limb_1 : decode cX2_limb 1 = .ok (.getfield 61, 3) := by decide +kernel
theorem dX2_limb_4 : decode cX2_limb 4 = .ok (.iconst (-1), 1) := by decide +kernel
theorem dX2_limb_5 : decode cX2_limb 5 = .ok (.if_icmp .eq 25, 3) := by decide +kernel
theorem dX2_limb_8 : decode cX2_limb 8 = .ok (.aload_n 0, 1) := by decide +kernel
theorem dX2_limb_9 : decode cX2_limb 9 = .ok (.getfield 64, 3) := by decide +kernel
theorem dX2_limb_12 : decode cX2_limb 12 = .ok (.ifCond .eq 18, 3) := by decide +kernel
theorem dX2_limb_15 : decode cX2_limb 15 = .ok (.iload_n 1, 1) := by decide +kernel
theorem dX2_limb_16 : decode cX2_limb 16 = .ok (.ifCond .lt 14, 3) := by decide +kernel
theorem dX2_limb_19 : decode cX2_limb 19 = .ok (.aload_n 0, 1) := by decide +kernel
theorem dX2_limb_20 : decode cX2_limb 20 = .ok (.getfield 67, 3) := by decide +kernel
theorem dX2_limb_23 : decode cX2_limb 23 = .ok (.aload_n 0, 1) := by decide +kernel
theorem dX2_limb_24 : decode cX2_limb 24 = .ok (.getfield 17, 3) := by decide +kernel
theorem dX2_limb_27 : decode cX2_limb 27 = .ok (.if_icmp .lt 5, 3) := by decide +kernel
theorem dX2_limb_30 : decode cX2_limb 30 = .ok (.iconst 0, 1) := by decide +kernel
theorem dX2_limb_31 : decode cX2_limb 31 = .ok (.ireturn, 1) := by decide +kernel
theorem dX2_limb_32 : decode cX2_limb 32 = .ok (.aload_n 0, 1) := by decide +kernel
theorem dX2_limb_33 : decode cX2_limb 33 = .ok (.getfield 25, 3) := by decide +kernel
theorem dX2_limb_36 : decode cX2_limb 36 = .ok (.aload_n 0, 1) := by decide +kernel
theorem dX2_limb_37 : decode cX2_limb 37 = .ok (.getfield 61, 3) := by decide +kernel
theorem dX2_limb_40 : decode cX2_limb 40 = .ok (.aload_n 0, 1) := by decide +kernel
theorem dX2_limb_41 : decode cX2_limb 41 = .ok (.getfield 67, 3) := by decide +kernel
theorem dX2_limb_44 : decode cX2_limb 44 = .ok (.iload_n 1, 1) := by decide +kernel
theorem dX2_limb_45 : decode cX2_limb 45 = .ok (.aload_n 0, 1) := by decide +kernel
theorem dX2_limb_46 : decode cX2_limb 46 = .ok (.getfield 64, 3) := by decide +kernel
theorem dX2_limb_49 : decode cX2_limb 49 = .ok (.invokevirtual 73, 3) := by decide +kernel
theorem dX2_limb_52 : decode cX2_limb 52 = .ok (.aload_n 0, 1) := by decide +kernel
theorem dX2_limb_53 : decode cX2_limb 53 = .ok (.dup, 1) := by decide +kernel
theorem dX2_limb_54 : decode cX2_limb 54 = .ok (.getfield 67, 3) := by decide +kernel
theorem dX2_limb_57 : decode cX2_limb 57 = .ok (.iconst 1, 1) := by decide +kernel
theorem dX2_limb_58 : decode cX2_limb 58 = .ok (.iadd, 1) := by decide +kernel
theorem dX2_limb_59 : decode cX2_limb 59 = .ok (.putfield 67, 3) := by decide +kernel
theorem dX2_limb_62 : decode cX2_limb 62 = .ok (.iconst 1, 1) := by decide +kernel
theorem dX2_limb_63 : decode cX2_limb 63 = .ok (.ireturn, 1) := by decide +kernel
set_option maxRecDepth 20000 in
theorem ggX2_step_X2_isEnded : GoodIn wsX2_step wsX2_isEnded := goodIn_r _ [8, 1, 151, 152, 153, 154, 155, 156, 157, 158, 159, 160, 161, 162, 163, 164] (by decide +kernel) (by decide +kernel)
set_option maxRecDepth 20000 in
theorem gX2_step_X2_isEnded : GoodIn wsX2_step (wsV RX2 77 RX2 yX2_isEnded wsX2_isEnded) := goodIn_app (goodIn_of _ (by decide +kernel)) ggX2_step_X2_isEnded
set_option maxRecDepth 20000 in
theorem ggX2_step_X2_endLoading : GoodIn wsX2_step wsX2_endLoading := goodIn_r _ [12, 13, 3, 14, 15, 16, 17, 18, 19, 20, 21, 22, 23, 24, 25, 26, 27, 28, 151, 152, 153, 154, 155, 156, 157, 158, 159, 160, 161, 162, 163, 164, 165, 166, 167, 168] (by decide +kernel) (by decide +kernel)
set_option maxRecDepth 20000 in
theorem gX2_step_X2_endLoading : GoodIn wsX2_step (wsV RX2 81 RX2 yX2_endLoading wsX2_endLoading) := goodIn_app (goodIn_of _ (by decide +kernel)) ggX2_step_X2_endLoading
set_option maxRecDepth 20000 in
theorem ggX2_step_X2_eliminateColumn : GoodIn wsX2_step wsX2_eliminateColumn := goodIn_r _ [32, 33, 3, 34, 35, 36, 7, 37, 15, 38, 39, 40, 41, 42, 43, 44, 45, 19, 46, 28, 47, 48, 49, 50, 51, 52, 53, 54, 55, 56, 57, 58, 59, 60, 61, 62, 63, 64, 65, 66, 67, 68, 69, 70, 71, 72, 73, 74, 75, 76, 77, 78, 23, 79, 80, 81, 82, 21, 22, 83, 84, 85, 86, 87, 88, 89, 90, 91, 92, 93, 94, 95, 96, 97, 98, 99, 100, 101, 102, 103, 104, 105, 106, 107, 108, 109, 110, 111, 112, 113, 114, 115, 116, 117, 118, 119, 120, 121, 122, 123, 124, 125, 126, 127, 128, 129, 130, 131, 132, 133, 134, 135, 136, 137, 24, 25, 26, 27, 151, 152, 153, 154, 155, 156, 157, 158, 159, 160, 161, 162, 163, 164, 165, 166, 167, 168, 169, 170, 171, 172, 173, 174] (by decide +kernel) (by decide +kernel)
set_option maxRecDepth 20000 in
theorem gX2_step_X2_eliminateColumn : GoodIn wsX2_step (wsV RX2 87 RX2 yX2_eliminateColumn wsX2_eliminateColumn) := goodIn_app (goodIn_of _ (by decide +kernel)) ggX2_step_X2_eliminateColumn
set_option maxRecDepth 20000 in
theorem ggX2_step_X2_solveRow : GoodIn wsX2_step wsX2_solveRow := goodIn_r _ [141, 56, 15, 3, 142, 57, 58, 59, 60, 61, 62, 63, 64, 65, 66, 67, 68, 69, 38, 39, 40, 7, 41, 42, 70, 71, 72, 73, 74, 44, 45, 19, 46, 28, 75, 76, 77, 78, 23, 79, 80, 81, 82, 21, 22, 83, 84, 85, 86, 87, 88, 89, 90, 91, 92, 93, 94, 95, 96, 97, 98, 99, 100, 101, 102, 103, 104, 105, 106, 107, 108, 109, 110, 111, 112, 113, 114, 115, 116, 117, 118, 119, 120, 121, 122, 123, 124, 125, 126, 127, 128, 129, 130, 131, 132, 133, 134, 135, 136, 137, 24, 25, 26, 27, 143, 144, 145, 146, 51, 16, 17, 18, 20, 147, 148, 149, 150, 151, 152, 153, 154, 155, 156, 157, 158, 159, 160, 161, 162, 163, 164, 169, 170, 171, 172, 173, 174, 165, 166, 167, 168] (by decide +kernel) (by decide +kernel)
set_option maxRecDepth 20000 in
theorem gX2_step_X2_solveRow : GoodIn wsX2_step (wsV RX2 91 RX2 yX2_solveRow wsX2_solveRow) := goodIn_app (goodIn_of _ (by decide +kernel)) ggX2_step_X2_solveRow
theorem dX2_step_0 : decode cX2_step 0 = .ok (.aload_n 0, 1) := by decide +kernel
theorem dX2_step_1 : decode cX2_step 1 = .ok (.invokevirtual 77, 3) := by decide +kernel
theorem dX2_step_4 : decode cX2_step 4 = .ok (.ifCond .eq 8, 3) := by decide +kernel
theorem dX2_step_7 : decode cX2_step 7 = .ok (.aload_n 0, 1) := by decide +kernel
theorem dX2_step_8 : decode cX2_step 8 = .ok (.getfield 51, 3) := by decide +kernel
theorem dX2_step_11 : decode cX2_step 11 = .ok (.ireturn, 1) := by decide +kernel
theorem dX2_step_12 : decode cX2_step 12 = .ok (.aload_n 0, 1) := by decide +kernel
theorem dX2_step_13 : decode cX2_step 13 = .ok (.getfield 51, 3) := by decide +kernel
theorem dX2_step_16 : decode cX2_step 16 = .ok (.iconst 4, 1) := by decide +kernel
theorem dX2_step_17 : decode cX2_step 17 = .ok (.if_icmp .ne 7, 3) := by decide +kernel
theorem dX2_step_20 : decode cX2_step 20 = .ok (.aload_n 0, 1) := by decide +kernel
theorem dX2_step_21 : decode cX2_step 21 = .ok (.invokevirtual 81, 3) := by decide +kernel
theorem dX2_step_24 : decode cX2_step 24 = .ok (.aload_n 0, 1) := by decide +kernel
theorem dX2_step_25 : decode cX2_step 25 = .ok (.getfield 84, 3) := by decide +kernel
theorem dX2_step_28 : decode cX2_step 28 = .ok (.istore_n 1, 1) := by decide +kernel
theorem dX2_step_29 : decode cX2_step 29 = .ok (.aload_n 0, 1) := by decide +kernel
theorem dX2_step_30 : decode cX2_step 30 = .ok (.dup, 1) := by decide +kernel
theorem dX2_step_31 : decode cX2_step 31 = .ok (.getfield 84, 3) := by decide +kernel
theorem dX2_step_34 : decode cX2_step 34 = .ok (.iconst 1, 1) := by decide +kernel
theorem dX2_step_35 : decode cX2_step 35 = .ok (.iadd, 1) := by decide +kernel
theorem dX2_step_36 : decode cX2_step 36 = .ok (.putfield 84, 3) := by decide +kernel
theorem dX2_step_39 : decode cX2_step 39 = .ok (.aload_n 0, 1) := by decide +kernel
theorem dX2_step_40 : decode cX2_step 40 = .ok (.iload_n 1, 1) := by decide +kernel
theorem dX2_step_41 : decode cX2_step 41 = .ok (.aload_n 0, 1) := by decide +kernel
theorem dX2_step_42 : decode cX2_step 42 = .ok (.getfield 13, 3) := by decide +kernel
theorem dX2_step_45 : decode cX2_step 45 = .ok (.if_icmp .ge 11, 3) := by decide +kernel
theorem dX2_step_48 : decode cX2_step 48 = .ok (.aload_n 0, 1) := by decide +kernel
theorem dX2_step_49 : decode cX2_step 49 = .ok (.iload_n 1, 1) := by decide +kernel
theorem dX2_step_50 : decode cX2_step 50 = .ok (.invokevirtual 87, 3) := by decide +kernel
theorem dX2_step_53 : decode cX2_step 53 = .ok (.goto 17, 3) := by decide +kernel
theorem dX2_step_56 : decode cX2_step 56 = .ok (.aload_n 0, 1) := by decide +kernel
theorem dX2_step_57 : decode cX2_step 57 = .ok (.iconst 2, 1) := by decide +kernel
theorem dX2_step_58 : decode cX2_step 58 = .ok (.aload_n 0, 1) := by decide +kernel
theorem dX2_step_59 : decode cX2_step 59 = .ok (.getfield 13, 3) := by decide +kernel
theorem dX2_step_62 : decode cX2_step 62 = .ok (.imul, 1) := by decide +kernel
theorem dX2_step_63 : decode cX2_step 63 = .ok (.iconst 1, 1) := by decide +kernel
theorem dX2_step_64 : decode cX2_step 64 = .ok (.isub, 1) := by decide +kernel
theorem dX2_step_65 : decode cX2_step 65 = .ok (.iload_n 1, 1) := by decide +kernel
theorem dX2_step_66 : decode cX2_step 66 = .ok (.isub, 1) := by decide +kernel
theorem dX2_step_67 : decode cX2_step 67 = .ok (.invokevirtual 91, 3) := by decide +kernel
theorem dX2_step_70 : decode cX2_step 70 = .ok (.putfield 51, 3) := by decide +kernel
theorem dX2_step_73 : decode cX2_step 73 = .ok (.aload_n 0, 1) := by decide +kernel
theorem dX2_step_74 : decode cX2_step 74 = .ok (.getfield 51, 3) := by decide +kernel
theorem dX2_step_77 : decode cX2_step 77 = .ok (.ireturn, 1) := by decide +kernel
theorem dX2_status_0 : decode cX2_status 0 = .ok (.aload_n 0, 1) := by decide +kernel
theorem dX2_status_1 : decode cX2_status 1 = .ok (.getfield 51, 3) := by decide +kernel
theorem dX2_status_4 : decode cX2_status 4 = .ok (.ireturn, 1) := by decide +kernel
theorem dX2_steps_0 : decode cX2_steps 0 = .ok (.aload_n 0, 1) := by decide +kernel
theorem dX2_steps_1 : decode cX2_steps 1 = .ok (.getfield 84, 3) := by decide +kernel
theorem dX2_steps_4 : decode cX2_steps 4 = .ok (.ireturn, 1) := by decide +kernel
set_option maxRecDepth 20000 in
theorem ggX2_determinant_X0_tell : GoodIn wsX2_determinant wsX0_tell := goodIn_r _ [8, 9, 10, 11, 12, 13, 7, 14, 15, 16, 31, 32, 33, 34] (by decide +kernel) (by decide +kernel)
set_option maxRecDepth 20000 in
theorem gX2_determinant_X0_tell : GoodIn wsX2_determinant (wsV RX2 94 RX0 yX0_tell wsX0_tell) := goodIn_app (goodIn_of _ (by decide +kernel)) ggX2_determinant_X0_tell
theorem dX2_determinant_0 : decode cX2_determinant 0 = .ok (.aload_n 0, 1) := by decide +kernel
theorem dX2_determinant_1 : decode cX2_determinant 1 = .ok (.getfield 51, 3) := by decide +kernel
theorem dX2_determinant_4 : decode cX2_determinant 4 = .ok (.iconst 2, 1) := by decide +kernel
theorem dX2_determinant_5 : decode cX2_determinant 5 = .ok (.if_icmp .ne 20, 3) := by decide +kernel
theorem dX2_determinant_8 : decode cX2_determinant 8 = .ok (.iload_n 1, 1) := by decide +kernel
theorem dX2_determinant_9 : decode cX2_determinant 9 = .ok (.bipush (-2), 2) := by decide +kernel
theorem dX2_determinant_11 : decode cX2_determinant 11 = .ok (.if_icmp .eq 8, 3) := by decide +kernel
theorem dX2_determinant_14 : decode cX2_determinant 14 = .ok (.iload_n 1, 1) := by decide +kernel
theorem dX2_determinant_15 : decode cX2_determinant 15 = .ok (.iconst (-1), 1) := by decide +kernel
theorem dX2_determinant_16 : decode cX2_determinant 16 = .ok (.if_icmp .ne 7, 3) := by decide +kernel
theorem dX2_determinant_19 : decode cX2_determinant 19 = .ok (.iconst 0, 1) := by decide +kernel
theorem dX2_determinant_20 : decode cX2_determinant 20 = .ok (.goto 4, 3) := by decide +kernel
theorem dX2_determinant_23 : decode cX2_determinant 23 = .ok (.iconst (-1), 1) := by decide +kernel
theorem dX2_determinant_24 : decode cX2_determinant 24 = .ok (.ireturn, 1) := by decide +kernel
theorem dX2_determinant_25 : decode cX2_determinant 25 = .ok (.aload_n 0, 1) := by decide +kernel
theorem dX2_determinant_26 : decode cX2_determinant 26 = .ok (.getfield 51, 3) := by decide +kernel
theorem dX2_determinant_29 : decode cX2_determinant 29 = .ok (.iconst 1, 1) := by decide +kernel
theorem dX2_determinant_30 : decode cX2_determinant 30 = .ok (.if_icmp .ne 18, 3) := by decide +kernel
theorem dX2_determinant_33 : decode cX2_determinant 33 = .ok (.aload_n 0, 1) := by decide +kernel
theorem dX2_determinant_34 : decode cX2_determinant 34 = .ok (.getfield 32, 3) := by decide +kernel
theorem dX2_determinant_37 : decode cX2_determinant 37 = .ok (.aload_n 0, 1) := by decide +kernel
theorem dX2_determinant_38 : decode cX2_determinant 38 = .ok (.getfield 13, 3) := by decide +kernel
theorem dX2_determinant_41 : decode cX2_determinant 41 = .ok (.iload_n 1, 1) := by decide +kernel
theorem dX2_determinant_42 : decode cX2_determinant 42 = .ok (.invokevirtual 94, 3) := by decide +kernel
theorem dX2_determinant_45 : decode cX2_determinant 45 = .ok (.goto 4, 3) := by decide +kernel
theorem dX2_determinant_48 : decode cX2_determinant 48 = .ok (.iconst (-1), 1) := by decide +kernel
theorem dX2_determinant_49 : decode cX2_determinant 49 = .ok (.ireturn, 1) := by decide +kernel
set_option maxRecDepth 20000 in
theorem ggX2_numerator_X0_tell : GoodIn wsX2_numerator wsX0_tell := goodIn_r _ [8, 9, 10, 11, 12, 13, 7, 14, 15, 16, 31, 32, 33, 34] (by decide +kernel) (by decide +kernel)
set_option maxRecDepth 20000 in
theorem gX2_numerator_X0_tell : GoodIn wsX2_numerator (wsV RX2 94 RX0 yX0_tell wsX0_tell) := goodIn_app (goodIn_of _ (by decide +kernel)) ggX2_numerator_X0_tell
theorem dX2_numerator_0 : decode cX2_numerator 0 = .ok (.aload_n 0, 1) := by decide +kernel
theorem dX2_numerator_1 : decode cX2_numerator 1 = .ok (.getfield 51, 3) := by decide +kernel
theorem dX2_numerator_4 : decode cX2_numerator 4 = .ok (.iconst 1, 1) := by decide +kernel
theorem dX2_numerator_5 : decode cX2_numerator 5 = .ok (.if_icmp .ne 27, 3) := by decide +kernel
theorem dX2_numerator_8 : decode cX2_numerator 8 = .ok (.iload_n 1, 1) := by decide +kernel
theorem dX2_numerator_9 : decode cX2_numerator 9 = .ok (.ifCond .lt 23, 3) := by decide +kernel
theorem dX2_numerator_12 : decode cX2_numerator 12 = .ok (.iload_n 1, 1) := by decide +kernel
theorem dX2_numerator_13 : decode cX2_numerator 13 = .ok (.aload_n 0, 1) := by decide +kernel
theorem dX2_numerator_14 : decode cX2_numerator 14 = .ok (.getfield 13, 3) := by decide +kernel
theorem dX2_numerator_17 : decode cX2_numerator 17 = .ok (.if_icmp .ge 15, 3) := by decide +kernel
theorem dX2_numerator_20 : decode cX2_numerator 20 = .ok (.aload_n 0, 1) := by decide +kernel
theorem dX2_numerator_21 : decode cX2_numerator 21 = .ok (.getfield 32, 3) := by decide +kernel
theorem dX2_numerator_24 : decode cX2_numerator 24 = .ok (.iload_n 1, 1) := by decide +kernel
theorem dX2_numerator_25 : decode cX2_numerator 25 = .ok (.iload_n 2, 1) := by decide +kernel
theorem dX2_numerator_26 : decode cX2_numerator 26 = .ok (.invokevirtual 94, 3) := by decide +kernel
theorem dX2_numerator_29 : decode cX2_numerator 29 = .ok (.goto 4, 3) := by decide +kernel
theorem dX2_numerator_32 : decode cX2_numerator 32 = .ok (.iconst (-1), 1) := by decide +kernel
theorem dX2_numerator_33 : decode cX2_numerator 33 = .ok (.ireturn, 1) := by decide +kernel
set_option maxRecDepth 20000 in
theorem ggX2_pivot_X2_slotAt : GoodIn wsX2_pivot wsX2_slotAt := goodIn_r _ [7, 8, 9, 23, 24, 25, 26, 27, 28, 29, 30, 31, 32, 33, 34, 35, 36] (by decide +kernel) (by decide +kernel)
set_option maxRecDepth 20000 in
theorem gX2_pivot_X2_slotAt : GoodIn wsX2_pivot (wsV RX2 58 RX2 yX2_slotAt wsX2_slotAt) := goodIn_app (goodIn_of _ (by decide +kernel)) ggX2_pivot_X2_slotAt
set_option maxRecDepth 20000 in
theorem ggX2_pivot_X0_tell : GoodIn wsX2_pivot wsX0_tell := goodIn_r _ [14, 15, 16, 17, 18, 19, 13, 20, 21, 22, 37, 38, 39, 40] (by decide +kernel) (by decide +kernel)
set_option maxRecDepth 20000 in
theorem gX2_pivot_X0_tell : GoodIn wsX2_pivot (wsV RX2 94 RX0 yX0_tell wsX0_tell) := goodIn_app (goodIn_of _ (by decide +kernel)) ggX2_pivot_X0_tell
theorem dX2_pivot_0 : decode cX2_pivot 0 = .ok (.iload_n 1, 1) := by decide +kernel
theorem dX2_pivot_1 : decode cX2_pivot 1 = .ok (.ifCond .lt 28, 3) := by decide +kernel
theorem dX2_pivot_4 : decode cX2_pivot 4 = .ok (.iload_n 1, 1) := by decide +kernel
theorem dX2_pivot_5 : decode cX2_pivot 5 = .ok (.aload_n 0, 1) := by decide +kernel
theorem dX2_pivot_6 : decode cX2_pivot 6 = .ok (.getfield 97, 3) := by decide +kernel
theorem dX2_pivot_9 : decode cX2_pivot 9 = .ok (.if_icmp .ge 20, 3) := by decide +kernel
theorem dX2_pivot_12 : decode cX2_pivot 12 = .ok (.aload_n 0, 1) := by decide +kernel
theorem dX2_pivot_13 : decode cX2_pivot 13 = .ok (.getfield 25, 3) := by decide +kernel
theorem dX2_pivot_16 : decode cX2_pivot 16 = .ok (.aload_n 0, 1) := by decide +kernel
theorem dX2_pivot_17 : decode cX2_pivot 17 = .ok (.iload_n 1, 1) := by decide +kernel
theorem dX2_pivot_18 : decode cX2_pivot 18 = .ok (.iload_n 1, 1) := by decide +kernel
theorem dX2_pivot_19 : decode cX2_pivot 19 = .ok (.invokevirtual 58, 3) := by decide +kernel
theorem dX2_pivot_22 : decode cX2_pivot 22 = .ok (.iload_n 2, 1) := by decide +kernel
theorem dX2_pivot_23 : decode cX2_pivot 23 = .ok (.invokevirtual 94, 3) := by decide +kernel
theorem dX2_pivot_26 : decode cX2_pivot 26 = .ok (.goto 4, 3) := by decide +kernel
theorem dX2_pivot_29 : decode cX2_pivot 29 = .ok (.iconst (-1), 1) := by decide +kernel
theorem dX2_pivot_30 : decode cX2_pivot 30 = .ok (.ireturn, 1) := by decide +kernel
set_option maxRecDepth 20000 in
theorem ggX2_number_X2_isPlace : GoodIn wsX2_number wsX2_isPlace := goodIn_r _ [6, 7, 26, 27, 28, 29, 30, 31, 32, 33, 34, 35, 36, 37, 38, 39] (by decide +kernel) (by decide +kernel)
set_option maxRecDepth 20000 in
theorem gX2_number_X2_isPlace : GoodIn wsX2_number (wsV RX2 54 RX2 yX2_isPlace wsX2_isPlace) := goodIn_app (goodIn_of _ (by decide +kernel)) ggX2_number_X2_isPlace
set_option maxRecDepth 20000 in
theorem ggX2_number_X2_slotAt : GoodIn wsX2_number wsX2_slotAt := goodIn_r _ [11, 12, 7, 26, 27, 28, 29, 30, 31, 32, 33, 34, 35, 36, 37, 38, 39] (by decide +kernel) (by decide +kernel)
set_option maxRecDepth 20000 in
theorem gX2_number_X2_slotAt : GoodIn wsX2_number (wsV RX2 58 RX2 yX2_slotAt wsX2_slotAt) := goodIn_app (goodIn_of _ (by decide +kernel)) ggX2_number_X2_slotAt
set_option maxRecDepth 20000 in
theorem ggX2_number_X0_tell : GoodIn wsX2_number wsX0_tell := goodIn_r _ [17, 18, 19, 20, 21, 22, 16, 23, 24, 25, 40, 41, 42, 43] (by decide +kernel) (by decide +kernel)
set_option maxRecDepth 20000 in
theorem gX2_number_X0_tell : GoodIn wsX2_number (wsV RX2 94 RX0 yX0_tell wsX0_tell) := goodIn_app (goodIn_of _ (by decide +kernel)) ggX2_number_X0_tell
theorem dX2_number_0 : decode cX2_number 0 = .ok (.aload_n 0, 1) := by decide +kernel
theorem dX2_number_1 : decode cX2_number 1 = .ok (.iload_n 1, 1) := by decide +kernel
theorem dX2_number_2 : decode cX2_number 2 = .ok (.iload_n 2, 1) := by decide +kernel
theorem dX2_number_3 : decode cX2_number 3 = .ok (.invokevirtual 54, 3) := by decide +kernel
theorem dX2_number_6 : decode cX2_number 6 = .ok (.ifCond .eq 20, 3) := by decide +kernel
theorem dX2_number_9 : decode cX2_number 9 = .ok (.aload_n 0, 1) := by decide +kernel
theorem dX2_number_10 : decode cX2_number 10 = .ok (.getfield 25, 3) := by decide +kernel
theorem dX2_number_13 : decode cX2_number 13 = .ok (.aload_n 0, 1) := by decide +kernel
theorem dX2_number_14 : decode cX2_number 14 = .ok (.iload_n 1, 1) := by decide +kernel
theorem dX2_number_15 : decode cX2_number 15 = .ok (.iload_n 2, 1) := by decide +kernel
theorem dX2_number_16 : decode cX2_number 16 = .ok (.invokevirtual 58, 3) := by decide +kernel
theorem dX2_number_19 : decode cX2_number 19 = .ok (.iload_n 3, 1) := by decide +kernel
theorem dX2_number_20 : decode cX2_number 20 = .ok (.invokevirtual 94, 3) := by decide +kernel
theorem dX2_number_23 : decode cX2_number 23 = .ok (.goto 4, 3) := by decide +kernel
theorem dX2_number_26 : decode cX2_number 26 = .ok (.iconst (-1), 1) := by decide +kernel
theorem dX2_number_27 : decode cX2_number 27 = .ok (.ireturn, 1) := by decide +kernel
theorem dX2_row_0 : decode cX2_row 0 = .ok (.iload_n 1, 1) := by decide +kernel
theorem dX2_row_1 : decode cX2_row 1 = .ok (.ifCond .lt 20, 3) := by decide +kernel
theorem dX2_row_4 : decode cX2_row 4 = .ok (.iload_n 1, 1) := by decide +kernel
theorem dX2_row_5 : decode cX2_row 5 = .ok (.aload_n 0, 1) := by decide +kernel
theorem dX2_row_6 : decode cX2_row 6 = .ok (.getfield 13, 3) := by decide +kernel
theorem dX2_row_9 : decode cX2_row 9 = .ok (.if_icmp .ge 12, 3) := by decide +kernel
theorem dX2_row_12 : decode cX2_row 12 = .ok (.aload_n 0, 1) := by decide +kernel
theorem dX2_row_13 : decode cX2_row 13 = .ok (.getfield 44, 3) := by decide +kernel
theorem dX2_row_16 : decode cX2_row 16 = .ok (.iload_n 1, 1) := by decide +kernel
theorem dX2_row_17 : decode cX2_row 17 = .ok (.iaload, 1) := by decide +kernel
theorem dX2_row_18 : decode cX2_row 18 = .ok (.goto 4, 3) := by decide +kernel
theorem dX2_row_21 : decode cX2_row 21 = .ok (.iconst (-1), 1) := by decide +kernel
theorem dX2_row_22 : decode cX2_row 22 = .ok (.ireturn, 1) := by decide +kernel
set_option maxRecDepth 20000 in
theorem ggX2_holds_X2_equationHolds : GoodIn wsX2_holds wsX2_equationHolds := goodIn_r _ [7, 2, 8, 9, 10, 11, 12, 13, 14, 15, 16, 17, 18, 19, 20, 21, 22, 23, 24, 25, 26, 27, 28, 29, 30, 31, 32, 33, 34, 35, 36, 37, 38, 39, 40, 41, 42, 43, 44, 45, 46, 47, 48, 49, 50, 51, 52, 53, 54, 55, 56, 57, 58, 59, 60, 61, 62, 63, 64, 65, 66, 67, 68, 69, 70, 71, 72, 73, 74, 75, 76, 77, 78, 79, 80] (by decide +kernel) (by decide +kernel)
set_option maxRecDepth 20000 in
theorem gX2_holds_X2_equationHolds : GoodIn wsX2_holds (wsV RX2 100 RX2 yX2_equationHolds wsX2_equationHolds) := goodIn_app (goodIn_of _ (by decide +kernel)) ggX2_holds_X2_equationHolds
theorem dX2_holds_0 : decode cX2_holds 0 = .ok (.aload_n 0, 1) := by decide +kernel
theorem dX2_holds_1 : decode cX2_holds 1 = .ok (.getfield 51, 3) := by decide +kernel
theorem dX2_holds_4 : decode cX2_holds 4 = .ok (.iconst 1, 1) := by decide +kernel
theorem dX2_holds_5 : decode cX2_holds 5 = .ok (.if_icmp .eq 5, 3) := by decide +kernel
theorem dX2_holds_8 : decode cX2_holds 8 = .ok (.iconst 0, 1) := by decide +kernel
theorem dX2_holds_9 : decode cX2_holds 9 = .ok (.ireturn, 1) := by decide +kernel
theorem dX2_holds_10 : decode cX2_holds 10 = .ok (.iconst 0, 1) := by decide +kernel
theorem dX2_holds_11 : decode cX2_holds 11 = .ok (.istore_n 1, 1) := by decide +kernel
theorem dX2_holds_12 : decode cX2_holds 12 = .ok (.iload_n 1, 1) := by decide +kernel
theorem dX2_holds_13 : decode cX2_holds 13 = .ok (.aload_n 0, 1) := by decide +kernel
theorem dX2_holds_14 : decode cX2_holds 14 = .ok (.getfield 13, 3) := by decide +kernel
theorem dX2_holds_17 : decode cX2_holds 17 = .ok (.if_icmp .ge 19, 3) := by decide +kernel
theorem dX2_holds_20 : decode cX2_holds 20 = .ok (.aload_n 0, 1) := by decide +kernel
theorem dX2_holds_21 : decode cX2_holds 21 = .ok (.iload_n 1, 1) := by decide +kernel
theorem dX2_holds_22 : decode cX2_holds 22 = .ok (.invokevirtual 100, 3) := by decide +kernel
theorem dX2_holds_25 : decode cX2_holds 25 = .ok (.ifCond .ne 5, 3) := by decide +kernel
theorem dX2_holds_28 : decode cX2_holds 28 = .ok (.iconst 0, 1) := by decide +kernel
theorem dX2_holds_29 : decode cX2_holds 29 = .ok (.ireturn, 1) := by decide +kernel
theorem dX2_holds_30 : decode cX2_holds 30 = .ok (.iinc 1 1, 3) := by decide +kernel
theorem dX2_holds_33 : decode cX2_holds 33 = .ok (.goto (-21), 3) := by decide +kernel
theorem dX2_holds_36 : decode cX2_holds 36 = .ok (.iconst 1, 1) := by decide +kernel
theorem dX2_holds_37 : decode cX2_holds 37 = .ok (.ireturn, 1) := by decide +kernel
theorem dX2_within_0 : decode cX2_within 0 = .ok (.iconst 1, 1) := by decide +kernel
theorem dX2_within_1 : decode cX2_within 1 = .ok (.iload_n 0, 1) := by decide +kernel
theorem dX2_within_2 : decode cX2_within 2 = .ok (.iload_n 1, 1) := by decide +kernel
theorem dX2_within_3 : decode cX2_within 3 = .ok (.invokestatic 104, 3) := by decide +kernel
theorem dX2_within_6 : decode cX2_within 6 = .ok (.invokestatic 109, 3) := by decide +kernel
theorem dX2_within_9 : decode cX2_within 9 = .ok (.ireturn, 1) := by decide +kernel
set_option maxRecDepth 20000 in
theorem ggX2_startLoading_X0_clearAll : GoodIn wsX2_startLoading wsX0_clearAll := goodIn_r _ [15, 16, 17, 18, 19, 20, 21, 36, 37, 38, 39] (by decide +kernel) (by decide +kernel)
set_option maxRecDepth 20000 in
theorem gX2_startLoading_X0_clearAll : GoodIn wsX2_startLoading (wsV RX2 112 RX0 yX0_clearAll wsX0_clearAll) := goodIn_app (goodIn_of _ (by decide +kernel)) ggX2_startLoading_X0_clearAll
theorem dX2_startLoading_0 : decode cX2_startLoading 0 = .ok (.aload_n 0, 1) := by decide +kernel
theorem dX2_startLoading_1 : decode cX2_startLoading 1 = .ok (.getfield 25, 3) := by decide +kernel
theorem dX2_startLoading_4 : decode cX2_startLoading 4 = .ok (.invokevirtual 112, 3) := by decide +kernel
theorem dX2_startLoading_7 : decode cX2_startLoading 7 = .ok (.iconst 0, 1) := by decide +kernel
theorem dX2_startLoading_8 : decode cX2_startLoading 8 = .ok (.istore_n 1, 1) := by decide +kernel
theorem dX2_startLoading_9 : decode cX2_startLoading 9 = .ok (.iload_n 1, 1) := by decide +kernel
theorem dX2_startLoading_10 : decode cX2_startLoading 10 = .ok (.aload_n 0, 1) := by decide +kernel
theorem dX2_startLoading_11 : decode cX2_startLoading 11 = .ok (.getfield 13, 3) := by decide +kernel
theorem dX2_startLoading_14 : decode cX2_startLoading 14 = .ok (.if_icmp .ge 16, 3) := by decide +kernel
theorem dX2_startLoading_17 : decode cX2_startLoading 17 = .ok (.aload_n 0, 1) := by decide +kernel
theorem dX2_startLoading_18 : decode cX2_startLoading 18 = .ok (.getfield 44, 3) := by decide +kernel
theorem dX2_startLoading_21 : decode cX2_startLoading 21 = .ok (.iload_n 1, 1) := by decide +kernel
theorem dX2_startLoading_22 : decode cX2_startLoading 22 = .ok (.iload_n 1, 1) := by decide +kernel
theorem dX2_startLoading_23 : decode cX2_startLoading 23 = .ok (.iastore, 1) := by decide +kernel
theorem dX2_startLoading_24 : decode cX2_startLoading 24 = .ok (.iinc 1 1, 3) := by decide +kernel
theorem dX2_startLoading_27 : decode cX2_startLoading 27 = .ok (.goto (-18), 3) := by decide +kernel
theorem dX2_startLoading_30 : decode cX2_startLoading 30 = .ok (.aload_n 0, 1) := by decide +kernel
theorem dX2_startLoading_31 : decode cX2_startLoading 31 = .ok (.iconst 4, 1) := by decide +kernel
theorem dX2_startLoading_32 : decode cX2_startLoading 32 = .ok (.putfield 51, 3) := by decide +kernel
theorem dX2_startLoading_35 : decode cX2_startLoading 35 = .ok (.aload_n 0, 1) := by decide +kernel
theorem dX2_startLoading_36 : decode cX2_startLoading 36 = .ok (.iconst 0, 1) := by decide +kernel
theorem dX2_startLoading_37 : decode cX2_startLoading 37 = .ok (.putfield 84, 3) := by decide +kernel
theorem dX2_startLoading_40 : decode cX2_startLoading 40 = .ok (.aload_n 0, 1) := by decide +kernel
theorem dX2_startLoading_41 : decode cX2_startLoading 41 = .ok (.iconst 0, 1) := by decide +kernel
theorem dX2_startLoading_42 : decode cX2_startLoading 42 = .ok (.putfield 97, 3) := by decide +kernel
theorem dX2_startLoading_45 : decode cX2_startLoading 45 = .ok (.aload_n 0, 1) := by decide +kernel
theorem dX2_startLoading_46 : decode cX2_startLoading 46 = .ok (.iconst 0, 1) := by decide +kernel
theorem dX2_startLoading_47 : decode cX2_startLoading 47 = .ok (.putfield 115, 3) := by decide +kernel
theorem dX2_startLoading_50 : decode cX2_startLoading 50 = .ok (.aload_n 0, 1) := by decide +kernel
theorem dX2_startLoading_51 : decode cX2_startLoading 51 = .ok (.iconst (-1), 1) := by decide +kernel
theorem dX2_startLoading_52 : decode cX2_startLoading 52 = .ok (.putfield 61, 3) := by decide +kernel
theorem dX2_startLoading_55 : decode cX2_startLoading 55 = .ok (.aload_n 0, 1) := by decide +kernel
theorem dX2_startLoading_56 : decode cX2_startLoading 56 = .ok (.iconst 0, 1) := by decide +kernel
theorem dX2_startLoading_57 : decode cX2_startLoading 57 = .ok (.putfield 64, 3) := by decide +kernel
theorem dX2_startLoading_60 : decode cX2_startLoading 60 = .ok (.aload_n 0, 1) := by decide +kernel
theorem dX2_startLoading_61 : decode cX2_startLoading 61 = .ok (.iconst 0, 1) := by decide +kernel
theorem dX2_startLoading_62 : decode cX2_startLoading 62 = .ok (.putfield 67, 3) := by decide +kernel
theorem dX2_startLoading_65 : decode cX2_startLoading 65 = .ok (.return_, 1) := by decide +kernel
set_option maxRecDepth 20000 in
theorem ggX2_endLoading_X0_copy : GoodIn wsX2_endLoading wsX0_copy := goodIn_r _ [9, 10, 11, 12, 13, 14, 15, 16, 17, 32, 33, 34, 35] (by decide +kernel) (by decide +kernel)
set_option maxRecDepth 20000 in
theorem gX2_endLoading_X0_copy : GoodIn wsX2_endLoading (wsV RX2 119 RX0 yX0_copy wsX0_copy) := goodIn_app (goodIn_of _ (by decide +kernel)) ggX2_endLoading_X0_copy
theorem dX2_endLoading_0 : decode cX2_endLoading 0 = .ok (.aload_n 0, 1) := by decide +kernel
theorem dX2_endLoading_1 : decode cX2_endLoading 1 = .ok (.iconst (-1), 1) := by decide +kernel
theorem dX2_endLoading_2 : decode cX2_endLoading 2 = .ok (.putfield 61, 3) := by decide +kernel
theorem dX2_endLoading_5 : decode cX2_endLoading 5 = .ok (.iconst 0, 1) := by decide +kernel
theorem dX2_endLoading_6 : decode cX2_endLoading 6 = .ok (.istore_n 1, 1) := by decide +kernel
theorem dX2_endLoading_7 : decode cX2_endLoading 7 = .ok (.iload_n 1, 1) := by decide +kernel
