theorem dX1_compareSides_6 : decode cX1_compareSides 6 = .ok (.isub, 1) := by decide +kernel
theorem dX1_compareSides_7 : decode cX1_compareSides 7 = .ok (.istore_n 1, 1) := by decide +kernel
theorem dX1_compareSides_8 : decode cX1_compareSides 8 = .ok (.iload_n 1, 1) := by decide +kernel
theorem dX1_compareSides_9 : decode cX1_compareSides 9 = .ok (.ifCond .lt 45, 3) := by decide +kernel
theorem dX1_compareSides_12 : decode cX1_compareSides 12 = .ok (.aload_n 0, 1) := by decide +kernel
theorem dX1_compareSides_13 : decode cX1_compareSides 13 = .ok (.getfield 15, 3) := by decide +kernel
theorem dX1_compareSides_16 : decode cX1_compareSides 16 = .ok (.iload_n 1, 1) := by decide +kernel
theorem dX1_compareSides_17 : decode cX1_compareSides 17 = .ok (.iaload, 1) := by decide +kernel
theorem dX1_compareSides_18 : decode cX1_compareSides 18 = .ok (.aload_n 0, 1) := by decide +kernel
theorem dX1_compareSides_19 : decode cX1_compareSides 19 = .ok (.getfield 19, 3) := by decide +kernel
theorem dX1_compareSides_22 : decode cX1_compareSides 22 = .ok (.iload_n 1, 1) := by decide +kernel
theorem dX1_compareSides_23 : decode cX1_compareSides 23 = .ok (.iaload, 1) := by decide +kernel
theorem dX1_compareSides_24 : decode cX1_compareSides 24 = .ok (.if_icmp .eq 24, 3) := by decide +kernel
theorem dX1_compareSides_27 : decode cX1_compareSides 27 = .ok (.aload_n 0, 1) := by decide +kernel
theorem dX1_compareSides_28 : decode cX1_compareSides 28 = .ok (.getfield 15, 3) := by decide +kernel
theorem dX1_compareSides_31 : decode cX1_compareSides 31 = .ok (.iload_n 1, 1) := by decide +kernel
theorem dX1_compareSides_32 : decode cX1_compareSides 32 = .ok (.iaload, 1) := by decide +kernel
theorem dX1_compareSides_33 : decode cX1_compareSides 33 = .ok (.aload_n 0, 1) := by decide +kernel
theorem dX1_compareSides_34 : decode cX1_compareSides 34 = .ok (.getfield 19, 3) := by decide +kernel
theorem dX1_compareSides_37 : decode cX1_compareSides 37 = .ok (.iload_n 1, 1) := by decide +kernel
theorem dX1_compareSides_38 : decode cX1_compareSides 38 = .ok (.iaload, 1) := by decide +kernel
theorem dX1_compareSides_39 : decode cX1_compareSides 39 = .ok (.if_icmp .le 7, 3) := by decide +kernel
theorem dX1_compareSides_42 : decode cX1_compareSides 42 = .ok (.iconst 1, 1) := by decide +kernel
theorem dX1_compareSides_43 : decode cX1_compareSides 43 = .ok (.goto 4, 3) := by decide +kernel
theorem dX1_compareSides_46 : decode cX1_compareSides 46 = .ok (.iconst (-1), 1) := by decide +kernel
theorem dX1_compareSides_47 : decode cX1_compareSides 47 = .ok (.ireturn, 1) := by decide +kernel
theorem dX1_compareSides_48 : decode cX1_compareSides 48 = .ok (.iinc 1 (-1), 3) := by decide +kernel
theorem dX1_compareSides_51 : decode cX1_compareSides 51 = .ok (.goto (-43), 3) := by decide +kernel
theorem dX1_compareSides_54 : decode cX1_compareSides 54 = .ok (.iconst 0, 1) := by decide +kernel
theorem dX1_compareSides_55 : decode cX1_compareSides 55 = .ok (.ireturn, 1) := by decide +kernel
set_option maxRecDepth 20000 in
theorem ggX1_divideBy_X0_lengthOf : GoodIn wsX1_divideBy wsX0_lengthOf := goodIn_r _ [9, 10, 59, 60, 61, 62] (by decide +kernel) (by decide +kernel)
set_option maxRecDepth 20000 in
theorem gX1_divideBy_X0_lengthOf : GoodIn wsX1_divideBy (wsV RX1 43 RX0 yX0_lengthOf wsX0_lengthOf) := goodIn_app (goodIn_of _ (by decide +kernel)) ggX1_divideBy_X0_lengthOf
set_option maxRecDepth 20000 in
theorem ggX1_divideBy_X0_limbOf : GoodIn wsX1_divideBy wsX0_limbOf := goodIn_r _ [14, 15, 16, 59, 60, 61, 62] (by decide +kernel) (by decide +kernel)
set_option maxRecDepth 20000 in
theorem gX1_divideBy_X0_limbOf : GoodIn wsX1_divideBy (wsV RX1 46 RX0 yX0_limbOf wsX0_limbOf) := goodIn_app (goodIn_of _ (by decide +kernel)) ggX1_divideBy_X0_limbOf
set_option maxRecDepth 20000 in
theorem ggX1_divideBy_X1_countZeroLimbs : GoodIn wsX1_divideBy wsX1_countZeroLimbs := goodIn_r _ [21, 2, 53, 54, 55, 56, 57, 58] (by decide +kernel) (by decide +kernel)
set_option maxRecDepth 20000 in
theorem gX1_divideBy_X1_countZeroLimbs : GoodIn wsX1_divideBy (wsV RX1 64 RX1 yX1_countZeroLimbs wsX1_countZeroLimbs) := goodIn_app (goodIn_of _ (by decide +kernel)) ggX1_divideBy_X1_countZeroLimbs
set_option maxRecDepth 20000 in
theorem ggX1_divideBy_X1_countZeroBits : GoodIn wsX1_divideBy wsX1_countZeroBits := goodIn_r _ [24] (by decide +kernel) (by decide +kernel)
set_option maxRecDepth 20000 in
theorem gX1_divideBy_X1_countZeroBits : GoodIn wsX1_divideBy (va_wsS RX1 67 yX1_countZeroBits wsX1_countZeroBits) := goodIn_app (goodIn_of _ (by decide +kernel)) ggX1_divideBy_X1_countZeroBits
set_option maxRecDepth 20000 in
theorem ggX1_divideBy_X1_shiftDown : GoodIn wsX1_divideBy wsX1_shiftDown := goodIn_r _ [27, 28] (by decide +kernel) (by decide +kernel)
set_option maxRecDepth 20000 in
theorem gX1_divideBy_X1_shiftDown : GoodIn wsX1_divideBy (va_wsS RX1 70 yX1_shiftDown wsX1_shiftDown) := goodIn_app (goodIn_of _ (by decide +kernel)) ggX1_divideBy_X1_shiftDown
set_option maxRecDepth 20000 in
theorem ggX1_divideBy_X1_trimmed : GoodIn wsX1_divideBy wsX1_trimmed := goodIn_r _ [31] (by decide +kernel) (by decide +kernel)
set_option maxRecDepth 20000 in
theorem gX1_divideBy_X1_trimmed : GoodIn wsX1_divideBy (va_wsS RX1 60 yX1_trimmed wsX1_trimmed) := goodIn_app (goodIn_of _ (by decide +kernel)) ggX1_divideBy_X1_trimmed
set_option maxRecDepth 20000 in
theorem ggX1_divideBy_X1_divideByOdd : GoodIn wsX1_divideBy wsX1_divideByOdd := goodIn_r _ [35, 36, 37, 38, 39, 2, 3, 40, 1, 41, 42, 20, 43, 44, 45, 46, 47, 28, 29, 30, 31, 53, 54, 55, 56, 57, 58] (by decide +kernel) (by decide +kernel)
set_option maxRecDepth 20000 in
theorem gX1_divideBy_X1_divideByOdd : GoodIn wsX1_divideBy (wsV RX1 74 RX1 yX1_divideByOdd wsX1_divideByOdd) := goodIn_app (goodIn_of _ (by decide +kernel)) ggX1_divideBy_X1_divideByOdd
set_option maxRecDepth 20000 in
theorem ggX1_divideBy_X0_signOf : GoodIn wsX1_divideBy wsX0_signOf := goodIn_r _ [51, 52, 59, 60, 61, 62] (by decide +kernel) (by decide +kernel)
set_option maxRecDepth 20000 in
theorem gX1_divideBy_X0_signOf : GoodIn wsX1_divideBy (wsV RX1 37 RX0 yX0_signOf wsX0_signOf) := goodIn_app (goodIn_of _ (by decide +kernel)) ggX1_divideBy_X0_signOf
theorem dX1_divideBy_0 : decode cX1_divideBy 0 = .ok (.aload_n 1, 1) := by decide +kernel
theorem dX1_divideBy_1 : decode cX1_divideBy 1 = .ok (.iload_n 2, 1) := by decide +kernel
theorem dX1_divideBy_2 : decode cX1_divideBy 2 = .ok (.invokevirtual 43, 3) := by decide +kernel
theorem dX1_divideBy_5 : decode cX1_divideBy 5 = .ok (.istore_n 3, 1) := by decide +kernel
theorem dX1_divideBy_6 : decode cX1_divideBy 6 = .ok (.iload_n 3, 1) := by decide +kernel
theorem dX1_divideBy_7 : decode cX1_divideBy 7 = .ok (.ifCond .eq 11, 3) := by decide +kernel
theorem dX1_divideBy_10 : decode cX1_divideBy 10 = .ok (.aload_n 0, 1) := by decide +kernel
theorem dX1_divideBy_11 : decode cX1_divideBy 11 = .ok (.getfield 34, 3) := by decide +kernel
theorem dX1_divideBy_14 : decode cX1_divideBy 14 = .ok (.iload_n 3, 1) := by decide +kernel
theorem dX1_divideBy_15 : decode cX1_divideBy 15 = .ok (.if_icmp .ge 4, 3) := by decide +kernel
theorem dX1_divideBy_18 : decode cX1_divideBy 18 = .ok (.return_, 1) := by decide +kernel
theorem dX1_divideBy_19 : decode cX1_divideBy 19 = .ok (.iconst 0, 1) := by decide +kernel
theorem dX1_divideBy_20 : decode cX1_divideBy 20 = .ok (.istore 4, 2) := by decide +kernel
theorem dX1_divideBy_22 : decode cX1_divideBy 22 = .ok (.iload 4, 2) := by decide +kernel
theorem dX1_divideBy_24 : decode cX1_divideBy 24 = .ok (.iload_n 3, 1) := by decide +kernel
theorem dX1_divideBy_25 : decode cX1_divideBy 25 = .ok (.if_icmp .ge 23, 3) := by decide +kernel
theorem dX1_divideBy_28 : decode cX1_divideBy 28 = .ok (.aload_n 0, 1) := by decide +kernel
theorem dX1_divideBy_29 : decode cX1_divideBy 29 = .ok (.getfield 22, 3) := by decide +kernel
theorem dX1_divideBy_32 : decode cX1_divideBy 32 = .ok (.iload 4, 2) := by decide +kernel
theorem dX1_divideBy_34 : decode cX1_divideBy 34 = .ok (.aload_n 1, 1) := by decide +kernel
theorem dX1_divideBy_35 : decode cX1_divideBy 35 = .ok (.iload_n 2, 1) := by decide +kernel
theorem dX1_divideBy_36 : decode cX1_divideBy 36 = .ok (.iload 4, 2) := by decide +kernel
theorem dX1_divideBy_38 : decode cX1_divideBy 38 = .ok (.invokevirtual 46, 3) := by decide +kernel
theorem dX1_divideBy_41 : decode cX1_divideBy 41 = .ok (.iastore, 1) := by decide +kernel
theorem dX1_divideBy_42 : decode cX1_divideBy 42 = .ok (.iinc 4 1, 3) := by decide +kernel
theorem dX1_divideBy_45 : decode cX1_divideBy 45 = .ok (.goto (-23), 3) := by decide +kernel
theorem dX1_divideBy_48 : decode cX1_divideBy 48 = .ok (.aload_n 0, 1) := by decide +kernel
theorem dX1_divideBy_49 : decode cX1_divideBy 49 = .ok (.iload_n 3, 1) := by decide +kernel
theorem dX1_divideBy_50 : decode cX1_divideBy 50 = .ok (.invokevirtual 64, 3) := by decide +kernel
theorem dX1_divideBy_53 : decode cX1_divideBy 53 = .ok (.istore 4, 2) := by decide +kernel
theorem dX1_divideBy_55 : decode cX1_divideBy 55 = .ok (.aload_n 0, 1) := by decide +kernel
theorem dX1_divideBy_56 : decode cX1_divideBy 56 = .ok (.getfield 22, 3) := by decide +kernel
theorem dX1_divideBy_59 : decode cX1_divideBy 59 = .ok (.iload 4, 2) := by decide +kernel
theorem dX1_divideBy_61 : decode cX1_divideBy 61 = .ok (.iaload, 1) := by decide +kernel
theorem dX1_divideBy_62 : decode cX1_divideBy 62 = .ok (.invokestatic 67, 3) := by decide +kernel
theorem dX1_divideBy_65 : decode cX1_divideBy 65 = .ok (.istore 5, 2) := by decide +kernel
theorem dX1_divideBy_67 : decode cX1_divideBy 67 = .ok (.aload_n 0, 1) := by decide +kernel
theorem dX1_divideBy_68 : decode cX1_divideBy 68 = .ok (.getfield 22, 3) := by decide +kernel
theorem dX1_divideBy_71 : decode cX1_divideBy 71 = .ok (.iload_n 3, 1) := by decide +kernel
theorem dX1_divideBy_72 : decode cX1_divideBy 72 = .ok (.iload 4, 2) := by decide +kernel
theorem dX1_divideBy_74 : decode cX1_divideBy 74 = .ok (.iload 5, 2) := by decide +kernel
theorem dX1_divideBy_76 : decode cX1_divideBy 76 = .ok (.invokestatic 70, 3) := by decide +kernel
theorem dX1_divideBy_79 : decode cX1_divideBy 79 = .ok (.aload_n 0, 1) := by decide +kernel
theorem dX1_divideBy_80 : decode cX1_divideBy 80 = .ok (.getfield 15, 3) := by decide +kernel
theorem dX1_divideBy_83 : decode cX1_divideBy 83 = .ok (.aload_n 0, 1) := by decide +kernel
theorem dX1_divideBy_84 : decode cX1_divideBy 84 = .ok (.getfield 34, 3) := by decide +kernel
theorem dX1_divideBy_87 : decode cX1_divideBy 87 = .ok (.iload 4, 2) := by decide +kernel
theorem dX1_divideBy_89 : decode cX1_divideBy 89 = .ok (.iload 5, 2) := by decide +kernel
theorem dX1_divideBy_91 : decode cX1_divideBy 91 = .ok (.invokestatic 70, 3) := by decide +kernel
theorem dX1_divideBy_94 : decode cX1_divideBy 94 = .ok (.aload_n 0, 1) := by decide +kernel
theorem dX1_divideBy_95 : decode cX1_divideBy 95 = .ok (.aload_n 0, 1) := by decide +kernel
theorem dX1_divideBy_96 : decode cX1_divideBy 96 = .ok (.getfield 22, 3) := by decide +kernel
theorem dX1_divideBy_99 : decode cX1_divideBy 99 = .ok (.iload_n 3, 1) := by decide +kernel
theorem dX1_divideBy_100 : decode cX1_divideBy 100 = .ok (.invokestatic 60, 3) := by decide +kernel
theorem dX1_divideBy_103 : decode cX1_divideBy 103 = .ok (.aload_n 0, 1) := by decide +kernel
theorem dX1_divideBy_104 : decode cX1_divideBy 104 = .ok (.getfield 15, 3) := by decide +kernel
theorem dX1_divideBy_107 : decode cX1_divideBy 107 = .ok (.aload_n 0, 1) := by decide +kernel
theorem dX1_divideBy_108 : decode cX1_divideBy 108 = .ok (.getfield 34, 3) := by decide +kernel
theorem dX1_divideBy_111 : decode cX1_divideBy 111 = .ok (.invokestatic 60, 3) := by decide +kernel
theorem dX1_divideBy_114 : decode cX1_divideBy 114 = .ok (.invokevirtual 74, 3) := by decide +kernel
theorem dX1_divideBy_117 : decode cX1_divideBy 117 = .ok (.aload_n 0, 1) := by decide +kernel
theorem dX1_divideBy_118 : decode cX1_divideBy 118 = .ok (.dup, 1) := by decide +kernel
theorem dX1_divideBy_119 : decode cX1_divideBy 119 = .ok (.getfield 31, 3) := by decide +kernel
theorem dX1_divideBy_122 : decode cX1_divideBy 122 = .ok (.aload_n 1, 1) := by decide +kernel
theorem dX1_divideBy_123 : decode cX1_divideBy 123 = .ok (.iload_n 2, 1) := by decide +kernel
theorem dX1_divideBy_124 : decode cX1_divideBy 124 = .ok (.invokevirtual 37, 3) := by decide +kernel
theorem dX1_divideBy_127 : decode cX1_divideBy 127 = .ok (.imul, 1) := by decide +kernel
theorem dX1_divideBy_128 : decode cX1_divideBy 128 = .ok (.putfield 31, 3) := by decide +kernel
theorem dX1_divideBy_131 : decode cX1_divideBy 131 = .ok (.return_, 1) := by decide +kernel
set_option maxRecDepth 20000 in
theorem ggX1_divideByOdd_X1_inverseOf : GoodIn wsX1_divideByOdd wsX1_inverseOf := goodIn_r _ [12] (by decide +kernel) (by decide +kernel)
set_option maxRecDepth 20000 in
theorem gX1_divideByOdd_X1_inverseOf : GoodIn wsX1_divideByOdd (va_wsS RX1 83 yX1_inverseOf wsX1_inverseOf) := goodIn_app (goodIn_of _ (by decide +kernel)) ggX1_divideByOdd_X1_inverseOf
set_option maxRecDepth 20000 in
theorem ggX1_divideByOdd_X1_takeMultiple : GoodIn wsX1_divideByOdd wsX1_takeMultiple := goodIn_r _ [16, 6, 5, 17, 21, 22, 23, 24, 25, 26] (by decide +kernel) (by decide +kernel)
set_option maxRecDepth 20000 in
theorem gX1_divideByOdd_X1_takeMultiple : GoodIn wsX1_divideByOdd (wsV RX1 87 RX1 yX1_takeMultiple wsX1_takeMultiple) := goodIn_app (goodIn_of _ (by decide +kernel)) ggX1_divideByOdd_X1_takeMultiple
set_option maxRecDepth 20000 in
theorem ggX1_divideByOdd_X1_trimmed : GoodIn wsX1_divideByOdd wsX1_trimmed := goodIn_r _ [20] (by decide +kernel) (by decide +kernel)
set_option maxRecDepth 20000 in
theorem gX1_divideByOdd_X1_trimmed : GoodIn wsX1_divideByOdd (va_wsS RX1 60 yX1_trimmed wsX1_trimmed) := goodIn_app (goodIn_of _ (by decide +kernel)) ggX1_divideByOdd_X1_trimmed
theorem dX1_divideByOdd_0 : decode cX1_divideByOdd 0 = .ok (.iconst 0, 1) := by decide +kernel
theorem dX1_divideByOdd_1 : decode cX1_divideByOdd 1 = .ok (.iload_n 2, 1) := by decide +kernel
theorem dX1_divideByOdd_2 : decode cX1_divideByOdd 2 = .ok (.iload_n 1, 1) := by decide +kernel
theorem dX1_divideByOdd_3 : decode cX1_divideByOdd 3 = .ok (.isub, 1) := by decide +kernel
theorem dX1_divideByOdd_4 : decode cX1_divideByOdd 4 = .ok (.iconst 1, 1) := by decide +kernel
theorem dX1_divideByOdd_5 : decode cX1_divideByOdd 5 = .ok (.iadd, 1) := by decide +kernel
theorem dX1_divideByOdd_6 : decode cX1_divideByOdd 6 = .ok (.invokestatic 78, 3) := by decide +kernel
theorem dX1_divideByOdd_9 : decode cX1_divideByOdd 9 = .ok (.istore_n 3, 1) := by decide +kernel
theorem dX1_divideByOdd_10 : decode cX1_divideByOdd 10 = .ok (.aload_n 0, 1) := by decide +kernel
theorem dX1_divideByOdd_11 : decode cX1_divideByOdd 11 = .ok (.getfield 22, 3) := by decide +kernel
theorem dX1_divideByOdd_14 : decode cX1_divideByOdd 14 = .ok (.iconst 0, 1) := by decide +kernel
theorem dX1_divideByOdd_15 : decode cX1_divideByOdd 15 = .ok (.iaload, 1) := by decide +kernel
theorem dX1_divideByOdd_16 : decode cX1_divideByOdd 16 = .ok (.invokestatic 83, 3) := by decide +kernel
theorem dX1_divideByOdd_19 : decode cX1_divideByOdd 19 = .ok (.istore 4, 2) := by decide +kernel
theorem dX1_divideByOdd_21 : decode cX1_divideByOdd 21 = .ok (.iconst 0, 1) := by decide +kernel
theorem dX1_divideByOdd_22 : decode cX1_divideByOdd 22 = .ok (.istore 5, 2) := by decide +kernel
theorem dX1_divideByOdd_24 : decode cX1_divideByOdd 24 = .ok (.iload 5, 2) := by decide +kernel
theorem dX1_divideByOdd_26 : decode cX1_divideByOdd 26 = .ok (.iload_n 3, 1) := by decide +kernel
theorem dX1_divideByOdd_27 : decode cX1_divideByOdd 27 = .ok (.if_icmp .ge 44, 3) := by decide +kernel
theorem dX1_divideByOdd_30 : decode cX1_divideByOdd 30 = .ok (.aload_n 0, 1) := by decide +kernel
theorem dX1_divideByOdd_31 : decode cX1_divideByOdd 31 = .ok (.getfield 15, 3) := by decide +kernel
theorem dX1_divideByOdd_34 : decode cX1_divideByOdd 34 = .ok (.iload 5, 2) := by decide +kernel
theorem dX1_divideByOdd_36 : decode cX1_divideByOdd 36 = .ok (.iaload, 1) := by decide +kernel
theorem dX1_divideByOdd_37 : decode cX1_divideByOdd 37 = .ok (.iload 4, 2) := by decide +kernel
theorem dX1_divideByOdd_39 : decode cX1_divideByOdd 39 = .ok (.imul, 1) := by decide +kernel
theorem dX1_divideByOdd_40 : decode cX1_divideByOdd 40 = .ok (.ldc 86, 2) := by decide +kernel
theorem dX1_divideByOdd_42 : decode cX1_divideByOdd 42 = .ok (.iand, 1) := by decide +kernel
theorem dX1_divideByOdd_43 : decode cX1_divideByOdd 43 = .ok (.istore 6, 2) := by decide +kernel
theorem dX1_divideByOdd_45 : decode cX1_divideByOdd 45 = .ok (.aload_n 0, 1) := by decide +kernel
theorem dX1_divideByOdd_46 : decode cX1_divideByOdd 46 = .ok (.iload 5, 2) := by decide +kernel
theorem dX1_divideByOdd_48 : decode cX1_divideByOdd 48 = .ok (.iload_n 3, 1) := by decide +kernel
theorem dX1_divideByOdd_49 : decode cX1_divideByOdd 49 = .ok (.iload_n 1, 1) := by decide +kernel
theorem dX1_divideByOdd_50 : decode cX1_divideByOdd 50 = .ok (.iload 6, 2) := by decide +kernel
theorem dX1_divideByOdd_52 : decode cX1_divideByOdd 52 = .ok (.i2l, 1) := by decide +kernel
theorem dX1_divideByOdd_53 : decode cX1_divideByOdd 53 = .ok (.invokevirtual 87, 3) := by decide +kernel
theorem dX1_divideByOdd_56 : decode cX1_divideByOdd 56 = .ok (.aload_n 0, 1) := by decide +kernel
theorem dX1_divideByOdd_57 : decode cX1_divideByOdd 57 = .ok (.getfield 15, 3) := by decide +kernel
theorem dX1_divideByOdd_60 : decode cX1_divideByOdd 60 = .ok (.iload 5, 2) := by decide +kernel
theorem dX1_divideByOdd_62 : decode cX1_divideByOdd 62 = .ok (.iload 6, 2) := by decide +kernel
theorem dX1_divideByOdd_64 : decode cX1_divideByOdd 64 = .ok (.iastore, 1) := by decide +kernel
theorem dX1_divideByOdd_65 : decode cX1_divideByOdd 65 = .ok (.iinc 5 1, 3) := by decide +kernel
theorem dX1_divideByOdd_68 : decode cX1_divideByOdd 68 = .ok (.goto (-44), 3) := by decide +kernel
theorem dX1_divideByOdd_71 : decode cX1_divideByOdd 71 = .ok (.aload_n 0, 1) := by decide +kernel
theorem dX1_divideByOdd_72 : decode cX1_divideByOdd 72 = .ok (.aload_n 0, 1) := by decide +kernel
theorem dX1_divideByOdd_73 : decode cX1_divideByOdd 73 = .ok (.getfield 15, 3) := by decide +kernel
theorem dX1_divideByOdd_76 : decode cX1_divideByOdd 76 = .ok (.iload_n 3, 1) := by decide +kernel
theorem dX1_divideByOdd_77 : decode cX1_divideByOdd 77 = .ok (.invokestatic 60, 3) := by decide +kernel
theorem dX1_divideByOdd_80 : decode cX1_divideByOdd 80 = .ok (.putfield 34, 3) := by decide +kernel
theorem dX1_divideByOdd_83 : decode cX1_divideByOdd 83 = .ok (.return_, 1) := by decide +kernel
theorem dX1_takeMultiple_0 : decode cX1_takeMultiple 0 = .ok (.lconst 0, 1) := by decide +kernel
theorem dX1_takeMultiple_1 : decode cX1_takeMultiple 1 = .ok (.lstore 6, 2) := by decide +kernel
theorem dX1_takeMultiple_3 : decode cX1_takeMultiple 3 = .ok (.iload_n 1, 1) := by decide +kernel
theorem dX1_takeMultiple_4 : decode cX1_takeMultiple 4 = .ok (.istore 8, 2) := by decide +kernel
theorem dX1_takeMultiple_6 : decode cX1_takeMultiple 6 = .ok (.iload 8, 2) := by decide +kernel
theorem dX1_takeMultiple_8 : decode cX1_takeMultiple 8 = .ok (.iload_n 2, 1) := by decide +kernel
theorem dX1_takeMultiple_9 : decode cX1_takeMultiple 9 = .ok (.if_icmp .ge 84, 3) := by decide +kernel
theorem dX1_takeMultiple_12 : decode cX1_takeMultiple 12 = .ok (.iload 8, 2) := by decide +kernel
theorem dX1_takeMultiple_14 : decode cX1_takeMultiple 14 = .ok (.iload_n 1, 1) := by decide +kernel
theorem dX1_takeMultiple_15 : decode cX1_takeMultiple 15 = .ok (.isub, 1) := by decide +kernel
theorem dX1_takeMultiple_16 : decode cX1_takeMultiple 16 = .ok (.iload_n 3, 1) := by decide +kernel
theorem dX1_takeMultiple_17 : decode cX1_takeMultiple 17 = .ok (.if_icmp .lt 10, 3) := by decide +kernel
theorem dX1_takeMultiple_20 : decode cX1_takeMultiple 20 = .ok (.lload 6, 2) := by decide +kernel
theorem dX1_takeMultiple_22 : decode cX1_takeMultiple 22 = .ok (.lconst 0, 1) := by decide +kernel
theorem dX1_takeMultiple_23 : decode cX1_takeMultiple 23 = .ok (.lcmp, 1) := by decide +kernel
theorem dX1_takeMultiple_24 : decode cX1_takeMultiple 24 = .ok (.ifCond .eq 69, 3) := by decide +kernel
theorem dX1_takeMultiple_27 : decode cX1_takeMultiple 27 = .ok (.lload 6, 2) := by decide +kernel
theorem dX1_takeMultiple_29 : decode cX1_takeMultiple 29 = .ok (.aload_n 0, 1) := by decide +kernel
theorem dX1_takeMultiple_30 : decode cX1_takeMultiple 30 = .ok (.getfield 15, 3) := by decide +kernel
theorem dX1_takeMultiple_33 : decode cX1_takeMultiple 33 = .ok (.iload 8, 2) := by decide +kernel
theorem dX1_takeMultiple_35 : decode cX1_takeMultiple 35 = .ok (.iaload, 1) := by decide +kernel
theorem dX1_takeMultiple_36 : decode cX1_takeMultiple 36 = .ok (.i2l, 1) := by decide +kernel
theorem dX1_takeMultiple_37 : decode cX1_takeMultiple 37 = .ok (.ladd, 1) := by decide +kernel
theorem dX1_takeMultiple_38 : decode cX1_takeMultiple 38 = .ok (.lstore 6, 2) := by decide +kernel
theorem dX1_takeMultiple_40 : decode cX1_takeMultiple 40 = .ok (.iload 8, 2) := by decide +kernel
theorem dX1_takeMultiple_42 : decode cX1_takeMultiple 42 = .ok (.iload_n 1, 1) := by decide +kernel
theorem dX1_takeMultiple_43 : decode cX1_takeMultiple 43 = .ok (.isub, 1) := by decide +kernel
theorem dX1_takeMultiple_44 : decode cX1_takeMultiple 44 = .ok (.iload_n 3, 1) := by decide +kernel
theorem dX1_takeMultiple_45 : decode cX1_takeMultiple 45 = .ok (.if_icmp .ge 21, 3) := by decide +kernel
theorem dX1_takeMultiple_48 : decode cX1_takeMultiple 48 = .ok (.lload 6, 2) := by decide +kernel
theorem dX1_takeMultiple_50 : decode cX1_takeMultiple 50 = .ok (.lload 4, 2) := by decide +kernel
theorem dX1_takeMultiple_52 : decode cX1_takeMultiple 52 = .ok (.aload_n 0, 1) := by decide +kernel
theorem dX1_takeMultiple_53 : decode cX1_takeMultiple 53 = .ok (.getfield 22, 3) := by decide +kernel
theorem dX1_takeMultiple_56 : decode cX1_takeMultiple 56 = .ok (.iload 8, 2) := by decide +kernel
theorem dX1_takeMultiple_58 : decode cX1_takeMultiple 58 = .ok (.iload_n 1, 1) := by decide +kernel
theorem dX1_takeMultiple_59 : decode cX1_takeMultiple 59 = .ok (.isub, 1) := by decide +kernel
theorem dX1_takeMultiple_60 : decode cX1_takeMultiple 60 = .ok (.iaload, 1) := by decide +kernel
theorem dX1_takeMultiple_61 : decode cX1_takeMultiple 61 = .ok (.i2l, 1) := by decide +kernel
theorem dX1_takeMultiple_62 : decode cX1_takeMultiple 62 = .ok (.lmul, 1) := by decide +kernel
theorem dX1_takeMultiple_63 : decode cX1_takeMultiple 63 = .ok (.lsub, 1) := by decide +kernel
theorem dX1_takeMultiple_64 : decode cX1_takeMultiple 64 = .ok (.lstore 6, 2) := by decide +kernel
theorem dX1_takeMultiple_66 : decode cX1_takeMultiple 66 = .ok (.aload_n 0, 1) := by decide +kernel
theorem dX1_takeMultiple_67 : decode cX1_takeMultiple 67 = .ok (.getfield 15, 3) := by decide +kernel
theorem dX1_takeMultiple_70 : decode cX1_takeMultiple 70 = .ok (.iload 8, 2) := by decide +kernel
theorem dX1_takeMultiple_72 : decode cX1_takeMultiple 72 = .ok (.lload 6, 2) := by decide +kernel
theorem dX1_takeMultiple_74 : decode cX1_takeMultiple 74 = .ok (.ldc2_w 54, 3) := by decide +kernel
theorem dX1_takeMultiple_77 : decode cX1_takeMultiple 77 = .ok (.land, 1) := by decide +kernel
theorem dX1_takeMultiple_78 : decode cX1_takeMultiple 78 = .ok (.l2i, 1) := by decide +kernel
theorem dX1_takeMultiple_79 : decode cX1_takeMultiple 79 = .ok (.iastore, 1) := by decide +kernel
theorem dX1_takeMultiple_80 : decode cX1_takeMultiple 80 = .ok (.lload 6, 2) := by decide +kernel
theorem dX1_takeMultiple_82 : decode cX1_takeMultiple 82 = .ok (.bipush 31, 2) := by decide +kernel
theorem dX1_takeMultiple_84 : decode cX1_takeMultiple 84 = .ok (.lshr, 1) := by decide +kernel
theorem dX1_takeMultiple_85 : decode cX1_takeMultiple 85 = .ok (.lstore 6, 2) := by decide +kernel
theorem dX1_takeMultiple_87 : decode cX1_takeMultiple 87 = .ok (.iinc 8 1, 3) := by decide +kernel
theorem dX1_takeMultiple_90 : decode cX1_takeMultiple 90 = .ok (.goto (-84), 3) := by decide +kernel
theorem dX1_takeMultiple_93 : decode cX1_takeMultiple 93 = .ok (.return_, 1) := by decide +kernel
theorem dX1_countZeroLimbs_0 : decode cX1_countZeroLimbs 0 = .ok (.iconst 0, 1) := by decide +kernel
theorem dX1_countZeroLimbs_1 : decode cX1_countZeroLimbs 1 = .ok (.istore_n 2, 1) := by decide +kernel
theorem dX1_countZeroLimbs_2 : decode cX1_countZeroLimbs 2 = .ok (.iload_n 2, 1) := by decide +kernel
theorem dX1_countZeroLimbs_3 : decode cX1_countZeroLimbs 3 = .ok (.iload_n 1, 1) := by decide +kernel
theorem dX1_countZeroLimbs_4 : decode cX1_countZeroLimbs 4 = .ok (.iconst 1, 1) := by decide +kernel
theorem dX1_countZeroLimbs_5 : decode cX1_countZeroLimbs 5 = .ok (.isub, 1) := by decide +kernel
theorem dX1_countZeroLimbs_6 : decode cX1_countZeroLimbs 6 = .ok (.if_icmp .ge 18, 3) := by decide +kernel
theorem dX1_countZeroLimbs_9 : decode cX1_countZeroLimbs 9 = .ok (.aload_n 0, 1) := by decide +kernel
theorem dX1_countZeroLimbs_10 : decode cX1_countZeroLimbs 10 = .ok (.getfield 22, 3) := by decide +kernel
theorem dX1_countZeroLimbs_13 : decode cX1_countZeroLimbs 13 = .ok (.iload_n 2, 1) := by decide +kernel
theorem dX1_countZeroLimbs_14 : decode cX1_countZeroLimbs 14 = .ok (.iaload, 1) := by decide +kernel
theorem dX1_countZeroLimbs_15 : decode cX1_countZeroLimbs 15 = .ok (.ifCond .ne 9, 3) := by decide +kernel
theorem dX1_countZeroLimbs_18 : decode cX1_countZeroLimbs 18 = .ok (.iinc 2 1, 3) := by decide +kernel
theorem dX1_countZeroLimbs_21 : decode cX1_countZeroLimbs 21 = .ok (.goto (-19), 3) := by decide +kernel
theorem dX1_countZeroLimbs_24 : decode cX1_countZeroLimbs 24 = .ok (.iload_n 2, 1) := by decide +kernel
theorem dX1_countZeroLimbs_25 : decode cX1_countZeroLimbs 25 = .ok (.ireturn, 1) := by decide +kernel
theorem dX1_countZeroBits_0 : decode cX1_countZeroBits 0 = .ok (.iconst 0, 1) := by decide +kernel
theorem dX1_countZeroBits_1 : decode cX1_countZeroBits 1 = .ok (.istore_n 1, 1) := by decide +kernel
theorem dX1_countZeroBits_2 : decode cX1_countZeroBits 2 = .ok (.iload_n 1, 1) := by decide +kernel
theorem dX1_countZeroBits_3 : decode cX1_countZeroBits 3 = .ok (.bipush 30, 2) := by decide +kernel
theorem dX1_countZeroBits_5 : decode cX1_countZeroBits 5 = .ok (.if_icmp .ge 17, 3) := by decide +kernel
theorem dX1_countZeroBits_8 : decode cX1_countZeroBits 8 = .ok (.iload_n 0, 1) := by decide +kernel
theorem dX1_countZeroBits_9 : decode cX1_countZeroBits 9 = .ok (.iload_n 1, 1) := by decide +kernel
theorem dX1_countZeroBits_10 : decode cX1_countZeroBits 10 = .ok (.ishr, 1) := by decide +kernel
theorem dX1_countZeroBits_11 : decode cX1_countZeroBits 11 = .ok (.iconst 1, 1) := by decide +kernel
theorem dX1_countZeroBits_12 : decode cX1_countZeroBits 12 = .ok (.iand, 1) := by decide +kernel
theorem dX1_countZeroBits_13 : decode cX1_countZeroBits 13 = .ok (.ifCond .ne 9, 3) := by decide +kernel
theorem dX1_countZeroBits_16 : decode cX1_countZeroBits 16 = .ok (.iinc 1 1, 3) := by decide +kernel
theorem dX1_countZeroBits_19 : decode cX1_countZeroBits 19 = .ok (.goto (-17), 3) := by decide +kernel
theorem dX1_countZeroBits_22 : decode cX1_countZeroBits 22 = .ok (.iload_n 1, 1) := by decide +kernel
theorem dX1_countZeroBits_23 : decode cX1_countZeroBits 23 = .ok (.ireturn, 1) := by decide +kernel
theorem dX1_shiftDown_0 : decode cX1_shiftDown 0 = .ok (.iconst 0, 1) := by decide +kernel
theorem dX1_shiftDown_1 : decode cX1_shiftDown 1 = .ok (.istore 4, 2) := by decide +kernel
theorem dX1_shiftDown_3 : decode cX1_shiftDown 3 = .ok (.iload 4, 2) := by decide +kernel
theorem dX1_shiftDown_5 : decode cX1_shiftDown 5 = .ok (.iload_n 1, 1) := by decide +kernel
theorem dX1_shiftDown_6 : decode cX1_shiftDown 6 = .ok (.if_icmp .ge 74, 3) := by decide +kernel
theorem dX1_shiftDown_9 : decode cX1_shiftDown 9 = .ok (.iload 4, 2) := by decide +kernel
theorem dX1_shiftDown_11 : decode cX1_shiftDown 11 = .ok (.iload_n 2, 1) := by decide +kernel
theorem dX1_shiftDown_12 : decode cX1_shiftDown 12 = .ok (.iadd, 1) := by decide +kernel
theorem dX1_shiftDown_13 : decode cX1_shiftDown 13 = .ok (.iload_n 1, 1) := by decide +kernel
theorem dX1_shiftDown_14 : decode cX1_shiftDown 14 = .ok (.if_icmp .ge 13, 3) := by decide +kernel
theorem dX1_shiftDown_17 : decode cX1_shiftDown 17 = .ok (.aload_n 0, 1) := by decide +kernel
theorem dX1_shiftDown_18 : decode cX1_shiftDown 18 = .ok (.iload 4, 2) := by decide +kernel
theorem dX1_shiftDown_20 : decode cX1_shiftDown 20 = .ok (.iload_n 2, 1) := by decide +kernel
theorem dX1_shiftDown_21 : decode cX1_shiftDown 21 = .ok (.iadd, 1) := by decide +kernel
theorem dX1_shiftDown_22 : decode cX1_shiftDown 22 = .ok (.iaload, 1) := by decide +kernel
theorem dX1_shiftDown_23 : decode cX1_shiftDown 23 = .ok (.i2l, 1) := by decide +kernel
theorem dX1_shiftDown_24 : decode cX1_shiftDown 24 = .ok (.goto 4, 3) := by decide +kernel
theorem dX1_shiftDown_27 : decode cX1_shiftDown 27 = .ok (.lconst 0, 1) := by decide +kernel
theorem dX1_shiftDown_28 : decode cX1_shiftDown 28 = .ok (.lstore 5, 2) := by decide +kernel
theorem dX1_shiftDown_30 : decode cX1_shiftDown 30 = .ok (.iload 4, 2) := by decide +kernel
theorem dX1_shiftDown_32 : decode cX1_shiftDown 32 = .ok (.iload_n 2, 1) := by decide +kernel
theorem dX1_shiftDown_33 : decode cX1_shiftDown 33 = .ok (.iadd, 1) := by decide +kernel
theorem dX1_shiftDown_34 : decode cX1_shiftDown 34 = .ok (.iconst 1, 1) := by decide +kernel
theorem dX1_shiftDown_35 : decode cX1_shiftDown 35 = .ok (.iadd, 1) := by decide +kernel
theorem dX1_shiftDown_36 : decode cX1_shiftDown 36 = .ok (.iload_n 1, 1) := by decide +kernel
theorem dX1_shiftDown_37 : decode cX1_shiftDown 37 = .ok (.if_icmp .ge 15, 3) := by decide +kernel
theorem dX1_shiftDown_40 : decode cX1_shiftDown 40 = .ok (.aload_n 0, 1) := by decide +kernel
theorem dX1_shiftDown_41 : decode cX1_shiftDown 41 = .ok (.iload 4, 2) := by decide +kernel
theorem dX1_shiftDown_43 : decode cX1_shiftDown 43 = .ok (.iload_n 2, 1) := by decide +kernel
theorem dX1_shiftDown_44 : decode cX1_shiftDown 44 = .ok (.iadd, 1) := by decide +kernel
theorem dX1_shiftDown_45 : decode cX1_shiftDown 45 = .ok (.iconst 1, 1) := by decide +kernel
theorem dX1_shiftDown_46 : decode cX1_shiftDown 46 = .ok (.iadd, 1) := by decide +kernel
theorem dX1_shiftDown_47 : decode cX1_shiftDown 47 = .ok (.iaload, 1) := by decide +kernel
theorem dX1_shiftDown_48 : decode cX1_shiftDown 48 = .ok (.i2l, 1) := by decide +kernel
theorem dX1_shiftDown_49 : decode cX1_shiftDown 49 = .ok (.goto 4, 3) := by decide +kernel
theorem dX1_shiftDown_52 : decode cX1_shiftDown 52 = .ok (.lconst 0, 1) := by decide +kernel
theorem dX1_shiftDown_53 : decode cX1_shiftDown 53 = .ok (.lstore 7, 2) := by decide +kernel
theorem dX1_shiftDown_55 : decode cX1_shiftDown 55 = .ok (.aload_n 0, 1) := by decide +kernel
theorem dX1_shiftDown_56 : decode cX1_shiftDown 56 = .ok (.iload 4, 2) := by decide +kernel
theorem dX1_shiftDown_58 : decode cX1_shiftDown 58 = .ok (.lload 7, 2) := by decide +kernel
theorem dX1_shiftDown_60 : decode cX1_shiftDown 60 = .ok (.bipush 31, 2) := by decide +kernel
theorem dX1_shiftDown_62 : decode cX1_shiftDown 62 = .ok (.lshl, 1) := by decide +kernel
theorem dX1_shiftDown_63 : decode cX1_shiftDown 63 = .ok (.lload 5, 2) := by decide +kernel
theorem dX1_shiftDown_65 : decode cX1_shiftDown 65 = .ok (.lor, 1) := by decide +kernel
theorem dX1_shiftDown_66 : decode cX1_shiftDown 66 = .ok (.iload_n 3, 1) := by decide +kernel
theorem dX1_shiftDown_67 : decode cX1_shiftDown 67 = .ok (.lshr, 1) := by decide +kernel
theorem dX1_shiftDown_68 : decode cX1_shiftDown 68 = .ok (.ldc2_w 54, 3) := by decide +kernel
theorem dX1_shiftDown_71 : decode cX1_shiftDown 71 = .ok (.land, 1) := by decide +kernel
theorem dX1_shiftDown_72 : decode cX1_shiftDown 72 = .ok (.l2i, 1) := by decide +kernel
theorem dX1_shiftDown_73 : decode cX1_shiftDown 73 = .ok (.iastore, 1) := by decide +kernel
theorem dX1_shiftDown_74 : decode cX1_shiftDown 74 = .ok (.iinc 4 1, 3) := by decide +kernel
theorem dX1_shiftDown_77 : decode cX1_shiftDown 77 = .ok (.goto (-74), 3) := by decide +kernel
theorem dX1_shiftDown_80 : decode cX1_shiftDown 80 = .ok (.return_, 1) := by decide +kernel
theorem dX1_inverseOf_0 : decode cX1_inverseOf 0 = .ok (.iload_n 0, 1) := by decide +kernel
theorem dX1_inverseOf_1 : decode cX1_inverseOf 1 = .ok (.istore_n 1, 1) := by decide +kernel
theorem dX1_inverseOf_2 : decode cX1_inverseOf 2 = .ok (.iconst 0, 1) := by decide +kernel
theorem dX1_inverseOf_3 : decode cX1_inverseOf 3 = .ok (.istore_n 2, 1) := by decide +kernel
theorem dX1_inverseOf_4 : decode cX1_inverseOf 4 = .ok (.iload_n 2, 1) := by decide +kernel
theorem dX1_inverseOf_5 : decode cX1_inverseOf 5 = .ok (.iconst 4, 1) := by decide +kernel
theorem dX1_inverseOf_6 : decode cX1_inverseOf 6 = .ok (.if_icmp .ge 17, 3) := by decide +kernel
theorem dX1_inverseOf_9 : decode cX1_inverseOf 9 = .ok (.iload_n 1, 1) := by decide +kernel
theorem dX1_inverseOf_10 : decode cX1_inverseOf 10 = .ok (.iconst 2, 1) := by decide +kernel
theorem dX1_inverseOf_11 : decode cX1_inverseOf 11 = .ok (.iload_n 0, 1) := by decide +kernel
theorem dX1_inverseOf_12 : decode cX1_inverseOf 12 = .ok (.iload_n 1, 1) := by decide +kernel
theorem dX1_inverseOf_13 : decode cX1_inverseOf 13 = .ok (.imul, 1) := by decide +kernel
theorem dX1_inverseOf_14 : decode cX1_inverseOf 14 = .ok (.isub, 1) := by decide +kernel
theorem dX1_inverseOf_15 : decode cX1_inverseOf 15 = .ok (.imul, 1) := by decide +kernel
theorem dX1_inverseOf_16 : decode cX1_inverseOf 16 = .ok (.istore_n 1, 1) := by decide +kernel
theorem dX1_inverseOf_17 : decode cX1_inverseOf 17 = .ok (.iinc 2 1, 3) := by decide +kernel
theorem dX1_inverseOf_20 : decode cX1_inverseOf 20 = .ok (.goto (-16), 3) := by decide +kernel
theorem dX1_inverseOf_23 : decode cX1_inverseOf 23 = .ok (.iload_n 1, 1) := by decide +kernel
theorem dX1_inverseOf_24 : decode cX1_inverseOf 24 = .ok (.ireturn, 1) := by decide +kernel
theorem dX1_trimmed_0 : decode cX1_trimmed 0 = .ok (.iload_n 1, 1) := by decide +kernel
theorem dX1_trimmed_1 : decode cX1_trimmed 1 = .ok (.istore_n 2, 1) := by decide +kernel
theorem dX1_trimmed_2 : decode cX1_trimmed 2 = .ok (.iload_n 2, 1) := by decide +kernel
theorem dX1_trimmed_3 : decode cX1_trimmed 3 = .ok (.ifCond .le 17, 3) := by decide +kernel
theorem dX1_trimmed_6 : decode cX1_trimmed 6 = .ok (.aload_n 0, 1) := by decide +kernel
theorem dX1_trimmed_7 : decode cX1_trimmed 7 = .ok (.iload_n 2, 1) := by decide +kernel
theorem dX1_trimmed_8 : decode cX1_trimmed 8 = .ok (.iconst 1, 1) := by decide +kernel
theorem dX1_trimmed_9 : decode cX1_trimmed 9 = .ok (.isub, 1) := by decide +kernel
theorem dX1_trimmed_10 : decode cX1_trimmed 10 = .ok (.iaload, 1) := by decide +kernel
theorem dX1_trimmed_11 : decode cX1_trimmed 11 = .ok (.ifCond .ne 9, 3) := by decide +kernel
theorem dX1_trimmed_14 : decode cX1_trimmed 14 = .ok (.iinc 2 (-1), 3) := by decide +kernel
theorem dX1_trimmed_17 : decode cX1_trimmed 17 = .ok (.goto (-15), 3) := by decide +kernel
theorem dX1_trimmed_20 : decode cX1_trimmed 20 = .ok (.iload_n 2, 1) := by decide +kernel
theorem dX1_trimmed_21 : decode cX1_trimmed 21 = .ok (.ireturn, 1) := by decide +kernel
set_option maxRecDepth 20000 in
theorem ggX1_storeIn_X0_put : GoodIn wsX1_storeIn wsX0_put := goodIn_r _ [9, 10, 11, 12, 13, 14, 15, 16, 17, 24, 25, 26, 27] (by decide +kernel) (by decide +kernel)
set_option maxRecDepth 20000 in
theorem gX1_storeIn_X0_put : GoodIn wsX1_storeIn (wsV RX1 91 RX0 yX0_put wsX0_put) := goodIn_app (goodIn_of _ (by decide +kernel)) ggX1_storeIn_X0_put
theorem dX1_storeIn_0 : decode cX1_storeIn 0 = .ok (.aload_n 0, 1) := by decide +kernel
theorem dX1_storeIn_1 : decode cX1_storeIn 1 = .ok (.getfield 34, 3) := by decide +kernel
theorem dX1_storeIn_4 : decode cX1_storeIn 4 = .ok (.aload_n 0, 1) := by decide +kernel
theorem dX1_storeIn_5 : decode cX1_storeIn 5 = .ok (.getfield 9, 3) := by decide +kernel
theorem dX1_storeIn_8 : decode cX1_storeIn 8 = .ok (.if_icmp .le 5, 3) := by decide +kernel
theorem dX1_storeIn_11 : decode cX1_storeIn 11 = .ok (.iconst 0, 1) := by decide +kernel
theorem dX1_storeIn_12 : decode cX1_storeIn 12 = .ok (.ireturn, 1) := by decide +kernel
theorem dX1_storeIn_13 : decode cX1_storeIn 13 = .ok (.aload_n 1, 1) := by decide +kernel
theorem dX1_storeIn_14 : decode cX1_storeIn 14 = .ok (.iload_n 2, 1) := by decide +kernel
theorem dX1_storeIn_15 : decode cX1_storeIn 15 = .ok (.aload_n 0, 1) := by decide +kernel
theorem dX1_storeIn_16 : decode cX1_storeIn 16 = .ok (.getfield 15, 3) := by decide +kernel
theorem dX1_storeIn_19 : decode cX1_storeIn 19 = .ok (.aload_n 0, 1) := by decide +kernel
theorem dX1_storeIn_20 : decode cX1_storeIn 20 = .ok (.getfield 34, 3) := by decide +kernel
theorem dX1_storeIn_23 : decode cX1_storeIn 23 = .ok (.aload_n 0, 1) := by decide +kernel
theorem dX1_storeIn_24 : decode cX1_storeIn 24 = .ok (.getfield 31, 3) := by decide +kernel
theorem dX1_storeIn_27 : decode cX1_storeIn 27 = .ok (.invokevirtual 91, 3) := by decide +kernel
theorem dX1_storeIn_30 : decode cX1_storeIn 30 = .ok (.iconst 1, 1) := by decide +kernel
theorem dX1_storeIn_31 : decode cX1_storeIn 31 = .ok (.ireturn, 1) := by decide +kernel
theorem dJ7_fill_53178_0 : decode cJ7_fill_53178 0 = .ok (.iconst 0, 1) := by decide +kernel
theorem dJ7_fill_53178_1 : decode cJ7_fill_53178 1 = .ok (.istore_n 2, 1) := by decide +kernel
theorem dJ7_fill_53178_2 : decode cJ7_fill_53178 2 = .ok (.aload_n 0, 1) := by decide +kernel
theorem dJ7_fill_53178_3 : decode cJ7_fill_53178 3 = .ok (.arraylength, 1) := by decide +kernel
theorem dJ7_fill_53178_4 : decode cJ7_fill_53178 4 = .ok (.istore_n 3, 1) := by decide +kernel
theorem dJ7_fill_53178_5 : decode cJ7_fill_53178 5 = .ok (.iload_n 2, 1) := by decide +kernel
theorem dJ7_fill_53178_6 : decode cJ7_fill_53178 6 = .ok (.iload_n 3, 1) := by decide +kernel
theorem dJ7_fill_53178_7 : decode cJ7_fill_53178 7 = .ok (.if_icmp .ge 13, 3) := by decide +kernel
theorem dJ7_fill_53178_10 : decode cJ7_fill_53178 10 = .ok (.aload_n 0, 1) := by decide +kernel
theorem dJ7_fill_53178_11 : decode cJ7_fill_53178 11 = .ok (.iload_n 2, 1) := by decide +kernel
theorem dJ7_fill_53178_12 : decode cJ7_fill_53178 12 = .ok (.iload_n 1, 1) := by decide +kernel
theorem dJ7_fill_53178_13 : decode cJ7_fill_53178 13 = .ok (.iastore, 1) := by decide +kernel
theorem dJ7_fill_53178_14 : decode cJ7_fill_53178 14 = .ok (.iinc 2 1, 3) := by decide +kernel
theorem dJ7_fill_53178_17 : decode cJ7_fill_53178 17 = .ok (.goto (-12), 3) := by decide +kernel
theorem dJ7_fill_53178_20 : decode cJ7_fill_53178 20 = .ok (.return_, 1) := by decide +kernel
theorem dJ9_max_7cf53_0 : decode cJ9_max_7cf53 0 = .ok (.iload_n 0, 1) := by decide +kernel
theorem dJ9_max_7cf53_1 : decode cJ9_max_7cf53 1 = .ok (.iload_n 1, 1) := by decide +kernel
theorem dJ9_max_7cf53_2 : decode cJ9_max_7cf53 2 = .ok (.if_icmp .lt 7, 3) := by decide +kernel
theorem dJ9_max_7cf53_5 : decode cJ9_max_7cf53 5 = .ok (.iload_n 0, 1) := by decide +kernel
theorem dJ9_max_7cf53_6 : decode cJ9_max_7cf53 6 = .ok (.goto 4, 3) := by decide +kernel
theorem dJ9_max_7cf53_9 : decode cJ9_max_7cf53 9 = .ok (.iload_n 1, 1) := by decide +kernel
theorem dJ9_max_7cf53_10 : decode cJ9_max_7cf53 10 = .ok (.ireturn, 1) := by decide +kernel
theorem dJ9_min_7cf53_0 : decode cJ9_min_7cf53 0 = .ok (.iload_n 0, 1) := by decide +kernel
theorem dJ9_min_7cf53_1 : decode cJ9_min_7cf53 1 = .ok (.iload_n 1, 1) := by decide +kernel
theorem dJ9_min_7cf53_2 : decode cJ9_min_7cf53 2 = .ok (.if_icmp .gt 7, 3) := by decide +kernel
theorem dJ9_min_7cf53_5 : decode cJ9_min_7cf53 5 = .ok (.iload_n 0, 1) := by decide +kernel
theorem dJ9_min_7cf53_6 : decode cJ9_min_7cf53 6 = .ok (.goto 4, 3) := by decide +kernel
theorem dJ9_min_7cf53_9 : decode cJ9_min_7cf53 9 = .ok (.iload_n 1, 1) := by decide +kernel
theorem dJ9_min_7cf53_10 : decode cJ9_min_7cf53 10 = .ok (.ireturn, 1) := by decide +kernel
set_option maxRecDepth 20000 in
theorem ggX2_init_X2_within : GoodIn wsX2_init wsX2_within := goodIn_r _ [21, 22, 23, 24, 25, 26, 27, 28] (by decide +kernel) (by decide +kernel)
set_option maxRecDepth 20000 in
theorem gX2_init_X2_within : GoodIn wsX2_init (va_wsS RX2 9 yX2_within wsX2_within) := goodIn_app (goodIn_of _ (by decide +kernel)) ggX2_init_X2_within
set_option maxRecDepth 20000 in
theorem ggX2_init_X0_init : GoodIn wsX2_init wsX0_init := goodIn_r _ [31, 32, 2, 3, 33, 16, 34, 35, 36, 78, 79, 80, 81] (by decide +kernel) (by decide +kernel)
set_option maxRecDepth 20000 in
theorem gX2_init_X0_init : GoodIn wsX2_init (wsX0_init) := ggX2_init_X0_init
set_option maxRecDepth 20000 in
theorem ggX2_init_X1_init : GoodIn wsX2_init wsX1_init := goodIn_r _ [39, 40, 2, 3, 41, 16, 42, 43, 44, 82, 83, 84, 85, 86, 87] (by decide +kernel) (by decide +kernel)
set_option maxRecDepth 20000 in
theorem gX2_init_X1_init : GoodIn wsX2_init (wsX1_init) := ggX2_init_X1_init
set_option maxRecDepth 20000 in
theorem ggX2_init_X2_startLoading : GoodIn wsX2_init wsX2_startLoading := goodIn_r _ [48, 9, 4, 17, 49, 50, 51, 52, 53, 54, 55, 56, 57, 58, 8, 59, 34, 35, 60, 61, 62, 63, 64, 65, 66, 67, 68, 69, 70, 71, 72, 73, 74, 75, 76, 77, 78, 79, 80, 81] (by decide +kernel) (by decide +kernel)
set_option maxRecDepth 20000 in
theorem gX2_init_X2_startLoading : GoodIn wsX2_init (wsV RX2 48 RX2 yX2_startLoading wsX2_startLoading) := goodIn_app (goodIn_of _ (by decide +kernel)) ggX2_init_X2_startLoading
theorem dX2_init_0 : decode cX2_init 0 = .ok (.aload_n 0, 1) := by decide +kernel
theorem dX2_init_1 : decode cX2_init 1 = .ok (.invokespecial 1, 3) := by decide +kernel
theorem dX2_init_4 : decode cX2_init 4 = .ok (.aload_n 0, 1) := by decide +kernel
theorem dX2_init_5 : decode cX2_init 5 = .ok (.iload_n 1, 1) := by decide +kernel
