theorem dX3_multiply_161 : decode cX3_multiply 161 = .ok (.iastore, 1) := by decide +kernel
theorem dX3_multiply_162 : decode cX3_multiply 162 = .ok (.return_, 1) := by decide +kernel
theorem dX3_compare_0 : decode cX3_compare 0 = .ok (.bipush 39, 2) := by decide +kernel
theorem dX3_compare_2 : decode cX3_compare 2 = .ok (.istore_n 3, 1) := by decide +kernel
theorem dX3_compare_3 : decode cX3_compare 3 = .ok (.iload_n 3, 1) := by decide +kernel
theorem dX3_compare_4 : decode cX3_compare 4 = .ok (.ifCond .lt 55, 3) := by decide +kernel
theorem dX3_compare_7 : decode cX3_compare 7 = .ok (.aload_n 0, 1) := by decide +kernel
theorem dX3_compare_8 : decode cX3_compare 8 = .ok (.getfield 7, 3) := by decide +kernel
theorem dX3_compare_11 : decode cX3_compare 11 = .ok (.bipush 40, 2) := by decide +kernel
theorem dX3_compare_13 : decode cX3_compare 13 = .ok (.iload_n 1, 1) := by decide +kernel
theorem dX3_compare_14 : decode cX3_compare 14 = .ok (.imul, 1) := by decide +kernel
theorem dX3_compare_15 : decode cX3_compare 15 = .ok (.iload_n 3, 1) := by decide +kernel
theorem dX3_compare_16 : decode cX3_compare 16 = .ok (.iadd, 1) := by decide +kernel
theorem dX3_compare_17 : decode cX3_compare 17 = .ok (.iaload, 1) := by decide +kernel
theorem dX3_compare_18 : decode cX3_compare 18 = .ok (.istore 4, 2) := by decide +kernel
theorem dX3_compare_20 : decode cX3_compare 20 = .ok (.aload_n 0, 1) := by decide +kernel
theorem dX3_compare_21 : decode cX3_compare 21 = .ok (.getfield 7, 3) := by decide +kernel
theorem dX3_compare_24 : decode cX3_compare 24 = .ok (.bipush 40, 2) := by decide +kernel
theorem dX3_compare_26 : decode cX3_compare 26 = .ok (.iload_n 2, 1) := by decide +kernel
theorem dX3_compare_27 : decode cX3_compare 27 = .ok (.imul, 1) := by decide +kernel
theorem dX3_compare_28 : decode cX3_compare 28 = .ok (.iload_n 3, 1) := by decide +kernel
theorem dX3_compare_29 : decode cX3_compare 29 = .ok (.iadd, 1) := by decide +kernel
theorem dX3_compare_30 : decode cX3_compare 30 = .ok (.iaload, 1) := by decide +kernel
theorem dX3_compare_31 : decode cX3_compare 31 = .ok (.istore 5, 2) := by decide +kernel
theorem dX3_compare_33 : decode cX3_compare 33 = .ok (.iload 4, 2) := by decide +kernel
theorem dX3_compare_35 : decode cX3_compare 35 = .ok (.iload 5, 2) := by decide +kernel
theorem dX3_compare_37 : decode cX3_compare 37 = .ok (.if_icmp .eq 16, 3) := by decide +kernel
theorem dX3_compare_40 : decode cX3_compare 40 = .ok (.iload 4, 2) := by decide +kernel
theorem dX3_compare_42 : decode cX3_compare 42 = .ok (.iload 5, 2) := by decide +kernel
theorem dX3_compare_44 : decode cX3_compare 44 = .ok (.if_icmp .ge 7, 3) := by decide +kernel
theorem dX3_compare_47 : decode cX3_compare 47 = .ok (.iconst (-1), 1) := by decide +kernel
theorem dX3_compare_48 : decode cX3_compare 48 = .ok (.goto 4, 3) := by decide +kernel
theorem dX3_compare_51 : decode cX3_compare 51 = .ok (.iconst 1, 1) := by decide +kernel
theorem dX3_compare_52 : decode cX3_compare 52 = .ok (.ireturn, 1) := by decide +kernel
theorem dX3_compare_53 : decode cX3_compare 53 = .ok (.iinc 3 (-1), 3) := by decide +kernel
theorem dX3_compare_56 : decode cX3_compare 56 = .ok (.goto (-53), 3) := by decide +kernel
theorem dX3_compare_59 : decode cX3_compare 59 = .ok (.iconst 0, 1) := by decide +kernel
theorem dX3_compare_60 : decode cX3_compare 60 = .ok (.ireturn, 1) := by decide +kernel
theorem dX3_join_0 : decode cX3_join 0 = .ok (.lconst 0, 1) := by decide +kernel
theorem dX3_join_1 : decode cX3_join 1 = .ok (.lstore 5, 2) := by decide +kernel
theorem dX3_join_3 : decode cX3_join 3 = .ok (.iconst 0, 1) := by decide +kernel
theorem dX3_join_4 : decode cX3_join 4 = .ok (.istore 7, 2) := by decide +kernel
theorem dX3_join_6 : decode cX3_join 6 = .ok (.iload 7, 2) := by decide +kernel
theorem dX3_join_8 : decode cX3_join 8 = .ok (.bipush 40, 2) := by decide +kernel
theorem dX3_join_10 : decode cX3_join 10 = .ok (.if_icmp .ge 89, 3) := by decide +kernel
theorem dX3_join_13 : decode cX3_join 13 = .ok (.aload_n 0, 1) := by decide +kernel
theorem dX3_join_14 : decode cX3_join 14 = .ok (.getfield 7, 3) := by decide +kernel
theorem dX3_join_17 : decode cX3_join 17 = .ok (.bipush 40, 2) := by decide +kernel
theorem dX3_join_19 : decode cX3_join 19 = .ok (.iload_n 1, 1) := by decide +kernel
theorem dX3_join_20 : decode cX3_join 20 = .ok (.imul, 1) := by decide +kernel
theorem dX3_join_21 : decode cX3_join 21 = .ok (.iload 7, 2) := by decide +kernel
theorem dX3_join_23 : decode cX3_join 23 = .ok (.iadd, 1) := by decide +kernel
theorem dX3_join_24 : decode cX3_join 24 = .ok (.iaload, 1) := by decide +kernel
theorem dX3_join_25 : decode cX3_join 25 = .ok (.i2l, 1) := by decide +kernel
theorem dX3_join_26 : decode cX3_join 26 = .ok (.iload_n 3, 1) := by decide +kernel
theorem dX3_join_27 : decode cX3_join 27 = .ok (.ifCond .eq 19, 3) := by decide +kernel
theorem dX3_join_30 : decode cX3_join 30 = .ok (.aload_n 0, 1) := by decide +kernel
theorem dX3_join_31 : decode cX3_join 31 = .ok (.getfield 7, 3) := by decide +kernel
theorem dX3_join_34 : decode cX3_join 34 = .ok (.bipush 40, 2) := by decide +kernel
theorem dX3_join_36 : decode cX3_join 36 = .ok (.iload_n 2, 1) := by decide +kernel
theorem dX3_join_37 : decode cX3_join 37 = .ok (.imul, 1) := by decide +kernel
theorem dX3_join_38 : decode cX3_join 38 = .ok (.iload 7, 2) := by decide +kernel
theorem dX3_join_40 : decode cX3_join 40 = .ok (.iadd, 1) := by decide +kernel
theorem dX3_join_41 : decode cX3_join 41 = .ok (.iaload, 1) := by decide +kernel
theorem dX3_join_42 : decode cX3_join 42 = .ok (.i2l, 1) := by decide +kernel
theorem dX3_join_43 : decode cX3_join 43 = .ok (.goto 17, 3) := by decide +kernel
theorem dX3_join_46 : decode cX3_join 46 = .ok (.aload_n 0, 1) := by decide +kernel
theorem dX3_join_47 : decode cX3_join 47 = .ok (.getfield 7, 3) := by decide +kernel
theorem dX3_join_50 : decode cX3_join 50 = .ok (.bipush 40, 2) := by decide +kernel
theorem dX3_join_52 : decode cX3_join 52 = .ok (.iload_n 2, 1) := by decide +kernel
theorem dX3_join_53 : decode cX3_join 53 = .ok (.imul, 1) := by decide +kernel
theorem dX3_join_54 : decode cX3_join 54 = .ok (.iload 7, 2) := by decide +kernel
theorem dX3_join_56 : decode cX3_join 56 = .ok (.iadd, 1) := by decide +kernel
theorem dX3_join_57 : decode cX3_join 57 = .ok (.iaload, 1) := by decide +kernel
theorem dX3_join_58 : decode cX3_join 58 = .ok (.i2l, 1) := by decide +kernel
theorem dX3_join_59 : decode cX3_join 59 = .ok (.lneg, 1) := by decide +kernel
theorem dX3_join_60 : decode cX3_join 60 = .ok (.ladd, 1) := by decide +kernel
theorem dX3_join_61 : decode cX3_join 61 = .ok (.lload 5, 2) := by decide +kernel
theorem dX3_join_63 : decode cX3_join 63 = .ok (.ladd, 1) := by decide +kernel
theorem dX3_join_64 : decode cX3_join 64 = .ok (.lstore 8, 2) := by decide +kernel
theorem dX3_join_66 : decode cX3_join 66 = .ok (.aload_n 0, 1) := by decide +kernel
theorem dX3_join_67 : decode cX3_join 67 = .ok (.getfield 7, 3) := by decide +kernel
theorem dX3_join_70 : decode cX3_join 70 = .ok (.bipush 40, 2) := by decide +kernel
theorem dX3_join_72 : decode cX3_join 72 = .ok (.iload 4, 2) := by decide +kernel
theorem dX3_join_74 : decode cX3_join 74 = .ok (.imul, 1) := by decide +kernel
theorem dX3_join_75 : decode cX3_join 75 = .ok (.iload 7, 2) := by decide +kernel
theorem dX3_join_77 : decode cX3_join 77 = .ok (.iadd, 1) := by decide +kernel
theorem dX3_join_78 : decode cX3_join 78 = .ok (.lload 8, 2) := by decide +kernel
theorem dX3_join_80 : decode cX3_join 80 = .ok (.ldc2_w 67, 3) := by decide +kernel
theorem dX3_join_83 : decode cX3_join 83 = .ok (.land, 1) := by decide +kernel
theorem dX3_join_84 : decode cX3_join 84 = .ok (.l2i, 1) := by decide +kernel
theorem dX3_join_85 : decode cX3_join 85 = .ok (.iastore, 1) := by decide +kernel
theorem dX3_join_86 : decode cX3_join 86 = .ok (.lload 8, 2) := by decide +kernel
theorem dX3_join_88 : decode cX3_join 88 = .ok (.bipush 31, 2) := by decide +kernel
theorem dX3_join_90 : decode cX3_join 90 = .ok (.lshr, 1) := by decide +kernel
theorem dX3_join_91 : decode cX3_join 91 = .ok (.lstore 5, 2) := by decide +kernel
theorem dX3_join_93 : decode cX3_join 93 = .ok (.iinc 7 1, 3) := by decide +kernel
theorem dX3_join_96 : decode cX3_join 96 = .ok (.goto (-90), 3) := by decide +kernel
theorem dX3_join_99 : decode cX3_join 99 = .ok (.return_, 1) := by decide +kernel
set_option maxRecDepth 20000 in
theorem ggX3_less_X3_join : GoodIn wsX3_less wsX3_join := goodIn_r _ [6, 7, 8, 13, 14, 15, 16, 17, 18, 19, 20, 21, 22, 23, 24] (by decide +kernel) (by decide +kernel)
set_option maxRecDepth 20000 in
theorem gX3_less_X3_join : GoodIn wsX3_less (wsV RX3 69 RX3 yX3_join wsX3_join) := goodIn_app (goodIn_of _ (by decide +kernel)) ggX3_less_X3_join
set_option maxRecDepth 20000 in
theorem ggX3_less_X3_compare : GoodIn wsX3_less wsX3_compare := goodIn_r _ [12, 7, 13, 14, 15, 16, 17, 18, 19, 20, 21, 22, 23, 24] (by decide +kernel) (by decide +kernel)
set_option maxRecDepth 20000 in
theorem gX3_less_X3_compare : GoodIn wsX3_less (wsV RX3 73 RX3 yX3_compare wsX3_compare) := goodIn_app (goodIn_of _ (by decide +kernel)) ggX3_less_X3_compare
theorem dX3_less_0 : decode cX3_less 0 = .ok (.aload_n 0, 1) := by decide +kernel
theorem dX3_less_1 : decode cX3_less 1 = .ok (.getfield 13, 3) := by decide +kernel
theorem dX3_less_4 : decode cX3_less 4 = .ok (.bipush 48, 2) := by decide +kernel
theorem dX3_less_6 : decode cX3_less 6 = .ok (.iaload, 1) := by decide +kernel
theorem dX3_less_7 : decode cX3_less 7 = .ok (.ifCond .ne 4, 3) := by decide +kernel
theorem dX3_less_10 : decode cX3_less 10 = .ok (.return_, 1) := by decide +kernel
theorem dX3_less_11 : decode cX3_less 11 = .ok (.aload_n 0, 1) := by decide +kernel
theorem dX3_less_12 : decode cX3_less 12 = .ok (.getfield 13, 3) := by decide +kernel
theorem dX3_less_15 : decode cX3_less 15 = .ok (.bipush 48, 2) := by decide +kernel
theorem dX3_less_17 : decode cX3_less 17 = .ok (.iaload, 1) := by decide +kernel
theorem dX3_less_18 : decode cX3_less 18 = .ok (.ineg, 1) := by decide +kernel
theorem dX3_less_19 : decode cX3_less 19 = .ok (.istore_n 1, 1) := by decide +kernel
theorem dX3_less_20 : decode cX3_less 20 = .ok (.aload_n 0, 1) := by decide +kernel
theorem dX3_less_21 : decode cX3_less 21 = .ok (.getfield 13, 3) := by decide +kernel
theorem dX3_less_24 : decode cX3_less 24 = .ok (.bipush 49, 2) := by decide +kernel
theorem dX3_less_26 : decode cX3_less 26 = .ok (.iaload, 1) := by decide +kernel
theorem dX3_less_27 : decode cX3_less 27 = .ok (.ifCond .eq 14, 3) := by decide +kernel
theorem dX3_less_30 : decode cX3_less 30 = .ok (.aload_n 0, 1) := by decide +kernel
theorem dX3_less_31 : decode cX3_less 31 = .ok (.getfield 13, 3) := by decide +kernel
theorem dX3_less_34 : decode cX3_less 34 = .ok (.bipush 49, 2) := by decide +kernel
theorem dX3_less_36 : decode cX3_less 36 = .ok (.iaload, 1) := by decide +kernel
theorem dX3_less_37 : decode cX3_less 37 = .ok (.iload_n 1, 1) := by decide +kernel
theorem dX3_less_38 : decode cX3_less 38 = .ok (.if_icmp .ne 23, 3) := by decide +kernel
theorem dX3_less_41 : decode cX3_less 41 = .ok (.aload_n 0, 1) := by decide +kernel
theorem dX3_less_42 : decode cX3_less 42 = .ok (.bipush 49, 2) := by decide +kernel
theorem dX3_less_44 : decode cX3_less 44 = .ok (.bipush 48, 2) := by decide +kernel
theorem dX3_less_46 : decode cX3_less 46 = .ok (.iconst 1, 1) := by decide +kernel
theorem dX3_less_47 : decode cX3_less 47 = .ok (.bipush 49, 2) := by decide +kernel
theorem dX3_less_49 : decode cX3_less 49 = .ok (.invokevirtual 69, 3) := by decide +kernel
theorem dX3_less_52 : decode cX3_less 52 = .ok (.aload_n 0, 1) := by decide +kernel
theorem dX3_less_53 : decode cX3_less 53 = .ok (.getfield 13, 3) := by decide +kernel
theorem dX3_less_56 : decode cX3_less 56 = .ok (.bipush 49, 2) := by decide +kernel
theorem dX3_less_58 : decode cX3_less 58 = .ok (.iload_n 1, 1) := by decide +kernel
theorem dX3_less_59 : decode cX3_less 59 = .ok (.iastore, 1) := by decide +kernel
theorem dX3_less_60 : decode cX3_less 60 = .ok (.return_, 1) := by decide +kernel
theorem dX3_less_61 : decode cX3_less 61 = .ok (.aload_n 0, 1) := by decide +kernel
theorem dX3_less_62 : decode cX3_less 62 = .ok (.bipush 49, 2) := by decide +kernel
theorem dX3_less_64 : decode cX3_less 64 = .ok (.bipush 48, 2) := by decide +kernel
theorem dX3_less_66 : decode cX3_less 66 = .ok (.invokevirtual 73, 3) := by decide +kernel
theorem dX3_less_69 : decode cX3_less 69 = .ok (.istore_n 2, 1) := by decide +kernel
theorem dX3_less_70 : decode cX3_less 70 = .ok (.aload_n 0, 1) := by decide +kernel
theorem dX3_less_71 : decode cX3_less 71 = .ok (.getfield 13, 3) := by decide +kernel
theorem dX3_less_74 : decode cX3_less 74 = .ok (.bipush 49, 2) := by decide +kernel
theorem dX3_less_76 : decode cX3_less 76 = .ok (.iaload, 1) := by decide +kernel
theorem dX3_less_77 : decode cX3_less 77 = .ok (.istore_n 3, 1) := by decide +kernel
theorem dX3_less_78 : decode cX3_less 78 = .ok (.iload_n 2, 1) := by decide +kernel
theorem dX3_less_79 : decode cX3_less 79 = .ok (.ifCond .lt 17, 3) := by decide +kernel
theorem dX3_less_82 : decode cX3_less 82 = .ok (.aload_n 0, 1) := by decide +kernel
theorem dX3_less_83 : decode cX3_less 83 = .ok (.bipush 49, 2) := by decide +kernel
theorem dX3_less_85 : decode cX3_less 85 = .ok (.bipush 48, 2) := by decide +kernel
theorem dX3_less_87 : decode cX3_less 87 = .ok (.iconst 0, 1) := by decide +kernel
theorem dX3_less_88 : decode cX3_less 88 = .ok (.bipush 49, 2) := by decide +kernel
theorem dX3_less_90 : decode cX3_less 90 = .ok (.invokevirtual 69, 3) := by decide +kernel
theorem dX3_less_93 : decode cX3_less 93 = .ok (.goto 14, 3) := by decide +kernel
theorem dX3_less_96 : decode cX3_less 96 = .ok (.aload_n 0, 1) := by decide +kernel
theorem dX3_less_97 : decode cX3_less 97 = .ok (.bipush 48, 2) := by decide +kernel
theorem dX3_less_99 : decode cX3_less 99 = .ok (.bipush 49, 2) := by decide +kernel
theorem dX3_less_101 : decode cX3_less 101 = .ok (.iconst 0, 1) := by decide +kernel
theorem dX3_less_102 : decode cX3_less 102 = .ok (.bipush 49, 2) := by decide +kernel
theorem dX3_less_104 : decode cX3_less 104 = .ok (.invokevirtual 69, 3) := by decide +kernel
theorem dX3_less_107 : decode cX3_less 107 = .ok (.aload_n 0, 1) := by decide +kernel
theorem dX3_less_108 : decode cX3_less 108 = .ok (.getfield 13, 3) := by decide +kernel
theorem dX3_less_111 : decode cX3_less 111 = .ok (.bipush 49, 2) := by decide +kernel
theorem dX3_less_113 : decode cX3_less 113 = .ok (.iload_n 2, 1) := by decide +kernel
theorem dX3_less_114 : decode cX3_less 114 = .ok (.ifCond .ne 7, 3) := by decide +kernel
theorem dX3_less_117 : decode cX3_less 117 = .ok (.iconst 0, 1) := by decide +kernel
theorem dX3_less_118 : decode cX3_less 118 = .ok (.goto 12, 3) := by decide +kernel
theorem dX3_less_121 : decode cX3_less 121 = .ok (.iload_n 2, 1) := by decide +kernel
theorem dX3_less_122 : decode cX3_less 122 = .ok (.ifCond .le 7, 3) := by decide +kernel
theorem dX3_less_125 : decode cX3_less 125 = .ok (.iload_n 3, 1) := by decide +kernel
theorem dX3_less_126 : decode cX3_less 126 = .ok (.goto 4, 3) := by decide +kernel
theorem dX3_less_129 : decode cX3_less 129 = .ok (.iload_n 1, 1) := by decide +kernel
theorem dX3_less_130 : decode cX3_less 130 = .ok (.iastore, 1) := by decide +kernel
theorem dX3_less_131 : decode cX3_less 131 = .ok (.return_, 1) := by decide +kernel
theorem dX3_zeros_0 : decode cX3_zeros 0 = .ok (.iconst 0, 1) := by decide +kernel
theorem dX3_zeros_1 : decode cX3_zeros 1 = .ok (.istore_n 2, 1) := by decide +kernel
theorem dX3_zeros_2 : decode cX3_zeros 2 = .ok (.aload_n 0, 1) := by decide +kernel
theorem dX3_zeros_3 : decode cX3_zeros 3 = .ok (.getfield 7, 3) := by decide +kernel
theorem dX3_zeros_6 : decode cX3_zeros 6 = .ok (.bipush 40, 2) := by decide +kernel
theorem dX3_zeros_8 : decode cX3_zeros 8 = .ok (.iload_n 1, 1) := by decide +kernel
theorem dX3_zeros_9 : decode cX3_zeros 9 = .ok (.imul, 1) := by decide +kernel
theorem dX3_zeros_10 : decode cX3_zeros 10 = .ok (.iload_n 2, 1) := by decide +kernel
theorem dX3_zeros_11 : decode cX3_zeros 11 = .ok (.bipush 31, 2) := by decide +kernel
theorem dX3_zeros_13 : decode cX3_zeros 13 = .ok (.idiv, 1) := by decide +kernel
theorem dX3_zeros_14 : decode cX3_zeros 14 = .ok (.iadd, 1) := by decide +kernel
theorem dX3_zeros_15 : decode cX3_zeros 15 = .ok (.iaload, 1) := by decide +kernel
theorem dX3_zeros_16 : decode cX3_zeros 16 = .ok (.iload_n 2, 1) := by decide +kernel
theorem dX3_zeros_17 : decode cX3_zeros 17 = .ok (.bipush 31, 2) := by decide +kernel
theorem dX3_zeros_19 : decode cX3_zeros 19 = .ok (.irem, 1) := by decide +kernel
theorem dX3_zeros_20 : decode cX3_zeros 20 = .ok (.ishr, 1) := by decide +kernel
theorem dX3_zeros_21 : decode cX3_zeros 21 = .ok (.iconst 1, 1) := by decide +kernel
theorem dX3_zeros_22 : decode cX3_zeros 22 = .ok (.iand, 1) := by decide +kernel
theorem dX3_zeros_23 : decode cX3_zeros 23 = .ok (.ifCond .ne 9, 3) := by decide +kernel
theorem dX3_zeros_26 : decode cX3_zeros 26 = .ok (.iinc 2 1, 3) := by decide +kernel
theorem dX3_zeros_29 : decode cX3_zeros 29 = .ok (.goto (-27), 3) := by decide +kernel
theorem dX3_zeros_32 : decode cX3_zeros 32 = .ok (.iload_n 2, 1) := by decide +kernel
theorem dX3_zeros_33 : decode cX3_zeros 33 = .ok (.ireturn, 1) := by decide +kernel
theorem dX3_shift_0 : decode cX3_shift 0 = .ok (.iconst 0, 1) := by decide +kernel
theorem dX3_shift_1 : decode cX3_shift 1 = .ok (.istore 4, 2) := by decide +kernel
theorem dX3_shift_3 : decode cX3_shift 3 = .ok (.iload 4, 2) := by decide +kernel
theorem dX3_shift_5 : decode cX3_shift 5 = .ok (.bipush 40, 2) := by decide +kernel
theorem dX3_shift_7 : decode cX3_shift 7 = .ok (.if_icmp .ge 104, 3) := by decide +kernel
theorem dX3_shift_10 : decode cX3_shift 10 = .ok (.iload 4, 2) := by decide +kernel
theorem dX3_shift_12 : decode cX3_shift 12 = .ok (.iload_n 2, 1) := by decide +kernel
theorem dX3_shift_13 : decode cX3_shift 13 = .ok (.bipush 31, 2) := by decide +kernel
theorem dX3_shift_15 : decode cX3_shift 15 = .ok (.idiv, 1) := by decide +kernel
theorem dX3_shift_16 : decode cX3_shift 16 = .ok (.iadd, 1) := by decide +kernel
theorem dX3_shift_17 : decode cX3_shift 17 = .ok (.istore 5, 2) := by decide +kernel
theorem dX3_shift_19 : decode cX3_shift 19 = .ok (.iload 5, 2) := by decide +kernel
theorem dX3_shift_21 : decode cX3_shift 21 = .ok (.bipush 40, 2) := by decide +kernel
theorem dX3_shift_23 : decode cX3_shift 23 = .ok (.if_icmp .ge 19, 3) := by decide +kernel
theorem dX3_shift_26 : decode cX3_shift 26 = .ok (.aload_n 0, 1) := by decide +kernel
theorem dX3_shift_27 : decode cX3_shift 27 = .ok (.getfield 7, 3) := by decide +kernel
theorem dX3_shift_30 : decode cX3_shift 30 = .ok (.bipush 40, 2) := by decide +kernel
theorem dX3_shift_32 : decode cX3_shift 32 = .ok (.iload_n 1, 1) := by decide +kernel
theorem dX3_shift_33 : decode cX3_shift 33 = .ok (.imul, 1) := by decide +kernel
theorem dX3_shift_34 : decode cX3_shift 34 = .ok (.iload 5, 2) := by decide +kernel
theorem dX3_shift_36 : decode cX3_shift 36 = .ok (.iadd, 1) := by decide +kernel
theorem dX3_shift_37 : decode cX3_shift 37 = .ok (.iaload, 1) := by decide +kernel
theorem dX3_shift_38 : decode cX3_shift 38 = .ok (.i2l, 1) := by decide +kernel
theorem dX3_shift_39 : decode cX3_shift 39 = .ok (.goto 4, 3) := by decide +kernel
theorem dX3_shift_42 : decode cX3_shift 42 = .ok (.lconst 0, 1) := by decide +kernel
theorem dX3_shift_43 : decode cX3_shift 43 = .ok (.lstore 6, 2) := by decide +kernel
theorem dX3_shift_45 : decode cX3_shift 45 = .ok (.iload 5, 2) := by decide +kernel
theorem dX3_shift_47 : decode cX3_shift 47 = .ok (.iconst 1, 1) := by decide +kernel
theorem dX3_shift_48 : decode cX3_shift 48 = .ok (.iadd, 1) := by decide +kernel
theorem dX3_shift_49 : decode cX3_shift 49 = .ok (.bipush 40, 2) := by decide +kernel
theorem dX3_shift_51 : decode cX3_shift 51 = .ok (.if_icmp .ge 21, 3) := by decide +kernel
theorem dX3_shift_54 : decode cX3_shift 54 = .ok (.aload_n 0, 1) := by decide +kernel
theorem dX3_shift_55 : decode cX3_shift 55 = .ok (.getfield 7, 3) := by decide +kernel
theorem dX3_shift_58 : decode cX3_shift 58 = .ok (.bipush 40, 2) := by decide +kernel
theorem dX3_shift_60 : decode cX3_shift 60 = .ok (.iload_n 1, 1) := by decide +kernel
theorem dX3_shift_61 : decode cX3_shift 61 = .ok (.imul, 1) := by decide +kernel
theorem dX3_shift_62 : decode cX3_shift 62 = .ok (.iload 5, 2) := by decide +kernel
theorem dX3_shift_64 : decode cX3_shift 64 = .ok (.iadd, 1) := by decide +kernel
theorem dX3_shift_65 : decode cX3_shift 65 = .ok (.iconst 1, 1) := by decide +kernel
theorem dX3_shift_66 : decode cX3_shift 66 = .ok (.iadd, 1) := by decide +kernel
theorem dX3_shift_67 : decode cX3_shift 67 = .ok (.iaload, 1) := by decide +kernel
theorem dX3_shift_68 : decode cX3_shift 68 = .ok (.i2l, 1) := by decide +kernel
theorem dX3_shift_69 : decode cX3_shift 69 = .ok (.goto 4, 3) := by decide +kernel
theorem dX3_shift_72 : decode cX3_shift 72 = .ok (.lconst 0, 1) := by decide +kernel
theorem dX3_shift_73 : decode cX3_shift 73 = .ok (.lstore 8, 2) := by decide +kernel
theorem dX3_shift_75 : decode cX3_shift 75 = .ok (.aload_n 0, 1) := by decide +kernel
theorem dX3_shift_76 : decode cX3_shift 76 = .ok (.getfield 7, 3) := by decide +kernel
theorem dX3_shift_79 : decode cX3_shift 79 = .ok (.bipush 40, 2) := by decide +kernel
theorem dX3_shift_81 : decode cX3_shift 81 = .ok (.iload_n 3, 1) := by decide +kernel
theorem dX3_shift_82 : decode cX3_shift 82 = .ok (.imul, 1) := by decide +kernel
theorem dX3_shift_83 : decode cX3_shift 83 = .ok (.iload 4, 2) := by decide +kernel
theorem dX3_shift_85 : decode cX3_shift 85 = .ok (.iadd, 1) := by decide +kernel
theorem dX3_shift_86 : decode cX3_shift 86 = .ok (.lload 6, 2) := by decide +kernel
theorem dX3_shift_88 : decode cX3_shift 88 = .ok (.lload 8, 2) := by decide +kernel
theorem dX3_shift_90 : decode cX3_shift 90 = .ok (.bipush 31, 2) := by decide +kernel
theorem dX3_shift_92 : decode cX3_shift 92 = .ok (.lshl, 1) := by decide +kernel
theorem dX3_shift_93 : decode cX3_shift 93 = .ok (.lor, 1) := by decide +kernel
theorem dX3_shift_94 : decode cX3_shift 94 = .ok (.iload_n 2, 1) := by decide +kernel
theorem dX3_shift_95 : decode cX3_shift 95 = .ok (.bipush 31, 2) := by decide +kernel
theorem dX3_shift_97 : decode cX3_shift 97 = .ok (.irem, 1) := by decide +kernel
theorem dX3_shift_98 : decode cX3_shift 98 = .ok (.lshr, 1) := by decide +kernel
theorem dX3_shift_99 : decode cX3_shift 99 = .ok (.ldc2_w 67, 3) := by decide +kernel
theorem dX3_shift_102 : decode cX3_shift 102 = .ok (.land, 1) := by decide +kernel
theorem dX3_shift_103 : decode cX3_shift 103 = .ok (.l2i, 1) := by decide +kernel
theorem dX3_shift_104 : decode cX3_shift 104 = .ok (.iastore, 1) := by decide +kernel
theorem dX3_shift_105 : decode cX3_shift 105 = .ok (.iinc 4 1, 3) := by decide +kernel
theorem dX3_shift_108 : decode cX3_shift 108 = .ok (.goto (-105), 3) := by decide +kernel
theorem dX3_shift_111 : decode cX3_shift 111 = .ok (.return_, 1) := by decide +kernel
set_option maxRecDepth 20000 in
theorem ggX3_divide_X3_clear : GoodIn wsX3_divide wsX3_clear := goodIn_r _ [9, 2, 1, 18, 19, 20, 21, 22, 23, 24, 25, 26, 27, 28, 29] (by decide +kernel) (by decide +kernel)
set_option maxRecDepth 20000 in
theorem gX3_divide_X3_clear : GoodIn wsX3_divide (wsV RX3 59 RX3 yX3_clear wsX3_clear) := goodIn_app (goodIn_of _ (by decide +kernel)) ggX3_divide_X3_clear
set_option maxRecDepth 20000 in
theorem ggX3_divide_X3_zeros : GoodIn wsX3_divide wsX3_zeros := goodIn_r _ [13, 2, 18, 19, 20, 21, 22, 23, 24, 25, 26, 27, 28, 29] (by decide +kernel) (by decide +kernel)
set_option maxRecDepth 20000 in
theorem gX3_divide_X3_zeros : GoodIn wsX3_divide (wsV RX3 76 RX3 yX3_zeros wsX3_zeros) := goodIn_app (goodIn_of _ (by decide +kernel)) ggX3_divide_X3_zeros
set_option maxRecDepth 20000 in
theorem ggX3_divide_X3_shift : GoodIn wsX3_divide wsX3_shift := goodIn_r _ [17, 2, 4, 18, 19, 20, 21, 22, 23, 24, 25, 26, 27, 28, 29] (by decide +kernel) (by decide +kernel)
set_option maxRecDepth 20000 in
theorem gX3_divide_X3_shift : GoodIn wsX3_divide (wsV RX3 79 RX3 yX3_shift wsX3_shift) := goodIn_app (goodIn_of _ (by decide +kernel)) ggX3_divide_X3_shift
theorem dX3_divide_0 : decode cX3_divide 0 = .ok (.aload_n 0, 1) := by decide +kernel
theorem dX3_divide_1 : decode cX3_divide 1 = .ok (.bipush 52, 2) := by decide +kernel
theorem dX3_divide_3 : decode cX3_divide 3 = .ok (.invokevirtual 59, 3) := by decide +kernel
theorem dX3_divide_6 : decode cX3_divide 6 = .ok (.aload_n 0, 1) := by decide +kernel
theorem dX3_divide_7 : decode cX3_divide 7 = .ok (.getfield 13, 3) := by decide +kernel
theorem dX3_divide_10 : decode cX3_divide 10 = .ok (.bipush 49, 2) := by decide +kernel
theorem dX3_divide_12 : decode cX3_divide 12 = .ok (.iaload, 1) := by decide +kernel
theorem dX3_divide_13 : decode cX3_divide 13 = .ok (.ifCond .ne 4, 3) := by decide +kernel
theorem dX3_divide_16 : decode cX3_divide 16 = .ok (.return_, 1) := by decide +kernel
theorem dX3_divide_17 : decode cX3_divide 17 = .ok (.aload_n 0, 1) := by decide +kernel
theorem dX3_divide_18 : decode cX3_divide 18 = .ok (.iload_n 1, 1) := by decide +kernel
theorem dX3_divide_19 : decode cX3_divide 19 = .ok (.invokevirtual 76, 3) := by decide +kernel
theorem dX3_divide_22 : decode cX3_divide 22 = .ok (.istore_n 2, 1) := by decide +kernel
theorem dX3_divide_23 : decode cX3_divide 23 = .ok (.aload_n 0, 1) := by decide +kernel
theorem dX3_divide_24 : decode cX3_divide 24 = .ok (.bipush 49, 2) := by decide +kernel
theorem dX3_divide_26 : decode cX3_divide 26 = .ok (.iload_n 2, 1) := by decide +kernel
theorem dX3_divide_27 : decode cX3_divide 27 = .ok (.bipush 50, 2) := by decide +kernel
theorem dX3_divide_29 : decode cX3_divide 29 = .ok (.invokevirtual 79, 3) := by decide +kernel
theorem dX3_divide_32 : decode cX3_divide 32 = .ok (.aload_n 0, 1) := by decide +kernel
theorem dX3_divide_33 : decode cX3_divide 33 = .ok (.iload_n 1, 1) := by decide +kernel
theorem dX3_divide_34 : decode cX3_divide 34 = .ok (.iload_n 2, 1) := by decide +kernel
theorem dX3_divide_35 : decode cX3_divide 35 = .ok (.bipush 51, 2) := by decide +kernel
theorem dX3_divide_37 : decode cX3_divide 37 = .ok (.invokevirtual 79, 3) := by decide +kernel
theorem dX3_divide_40 : decode cX3_divide 40 = .ok (.aload_n 0, 1) := by decide +kernel
theorem dX3_divide_41 : decode cX3_divide 41 = .ok (.getfield 7, 3) := by decide +kernel
theorem dX3_divide_44 : decode cX3_divide 44 = .ok (.sipush 2040, 3) := by decide +kernel
theorem dX3_divide_47 : decode cX3_divide 47 = .ok (.iaload, 1) := by decide +kernel
theorem dX3_divide_48 : decode cX3_divide 48 = .ok (.i2l, 1) := by decide +kernel
theorem dX3_divide_49 : decode cX3_divide 49 = .ok (.lstore_n 3, 1) := by decide +kernel
theorem dX3_divide_50 : decode cX3_divide 50 = .ok (.lload_n 3, 1) := by decide +kernel
theorem dX3_divide_51 : decode cX3_divide 51 = .ok (.lstore 5, 2) := by decide +kernel
theorem dX3_divide_53 : decode cX3_divide 53 = .ok (.iconst 0, 1) := by decide +kernel
theorem dX3_divide_54 : decode cX3_divide 54 = .ok (.istore 7, 2) := by decide +kernel
theorem dX3_divide_56 : decode cX3_divide 56 = .ok (.iload 7, 2) := by decide +kernel
theorem dX3_divide_58 : decode cX3_divide 58 = .ok (.iconst 5, 1) := by decide +kernel
theorem dX3_divide_59 : decode cX3_divide 59 = .ok (.if_icmp .ge 30, 3) := by decide +kernel
theorem dX3_divide_62 : decode cX3_divide 62 = .ok (.lload 5, 2) := by decide +kernel
theorem dX3_divide_64 : decode cX3_divide 64 = .ok (.ldc2_w 83, 3) := by decide +kernel
theorem dX3_divide_67 : decode cX3_divide 67 = .ok (.lload_n 3, 1) := by decide +kernel
theorem dX3_divide_68 : decode cX3_divide 68 = .ok (.lload 5, 2) := by decide +kernel
theorem dX3_divide_70 : decode cX3_divide 70 = .ok (.lmul, 1) := by decide +kernel
theorem dX3_divide_71 : decode cX3_divide 71 = .ok (.lsub, 1) := by decide +kernel
theorem dX3_divide_72 : decode cX3_divide 72 = .ok (.ldc2_w 67, 3) := by decide +kernel
theorem dX3_divide_75 : decode cX3_divide 75 = .ok (.land, 1) := by decide +kernel
theorem dX3_divide_76 : decode cX3_divide 76 = .ok (.lmul, 1) := by decide +kernel
theorem dX3_divide_77 : decode cX3_divide 77 = .ok (.ldc2_w 67, 3) := by decide +kernel
theorem dX3_divide_80 : decode cX3_divide 80 = .ok (.land, 1) := by decide +kernel
theorem dX3_divide_81 : decode cX3_divide 81 = .ok (.lstore 5, 2) := by decide +kernel
theorem dX3_divide_83 : decode cX3_divide 83 = .ok (.iinc 7 1, 3) := by decide +kernel
theorem dX3_divide_86 : decode cX3_divide 86 = .ok (.goto (-30), 3) := by decide +kernel
theorem dX3_divide_89 : decode cX3_divide 89 = .ok (.iconst 0, 1) := by decide +kernel
theorem dX3_divide_90 : decode cX3_divide 90 = .ok (.istore 7, 2) := by decide +kernel
theorem dX3_divide_92 : decode cX3_divide 92 = .ok (.iload 7, 2) := by decide +kernel
theorem dX3_divide_94 : decode cX3_divide 94 = .ok (.bipush 40, 2) := by decide +kernel
theorem dX3_divide_96 : decode cX3_divide 96 = .ok (.if_icmp .ge 151, 3) := by decide +kernel
theorem dX3_divide_99 : decode cX3_divide 99 = .ok (.aload_n 0, 1) := by decide +kernel
theorem dX3_divide_100 : decode cX3_divide 100 = .ok (.getfield 7, 3) := by decide +kernel
theorem dX3_divide_103 : decode cX3_divide 103 = .ok (.sipush 2000, 3) := by decide +kernel
theorem dX3_divide_106 : decode cX3_divide 106 = .ok (.iload 7, 2) := by decide +kernel
theorem dX3_divide_108 : decode cX3_divide 108 = .ok (.iadd, 1) := by decide +kernel
theorem dX3_divide_109 : decode cX3_divide 109 = .ok (.iaload, 1) := by decide +kernel
theorem dX3_divide_110 : decode cX3_divide 110 = .ok (.i2l, 1) := by decide +kernel
theorem dX3_divide_111 : decode cX3_divide 111 = .ok (.lload 5, 2) := by decide +kernel
theorem dX3_divide_113 : decode cX3_divide 113 = .ok (.lmul, 1) := by decide +kernel
theorem dX3_divide_114 : decode cX3_divide 114 = .ok (.ldc2_w 67, 3) := by decide +kernel
theorem dX3_divide_117 : decode cX3_divide 117 = .ok (.land, 1) := by decide +kernel
theorem dX3_divide_118 : decode cX3_divide 118 = .ok (.lstore 8, 2) := by decide +kernel
theorem dX3_divide_120 : decode cX3_divide 120 = .ok (.aload_n 0, 1) := by decide +kernel
theorem dX3_divide_121 : decode cX3_divide 121 = .ok (.getfield 7, 3) := by decide +kernel
theorem dX3_divide_124 : decode cX3_divide 124 = .ok (.sipush 2080, 3) := by decide +kernel
theorem dX3_divide_127 : decode cX3_divide 127 = .ok (.iload 7, 2) := by decide +kernel
theorem dX3_divide_129 : decode cX3_divide 129 = .ok (.iadd, 1) := by decide +kernel
theorem dX3_divide_130 : decode cX3_divide 130 = .ok (.lload 8, 2) := by decide +kernel
theorem dX3_divide_132 : decode cX3_divide 132 = .ok (.l2i, 1) := by decide +kernel
theorem dX3_divide_133 : decode cX3_divide 133 = .ok (.iastore, 1) := by decide +kernel
theorem dX3_divide_134 : decode cX3_divide 134 = .ok (.lconst 0, 1) := by decide +kernel
theorem dX3_divide_135 : decode cX3_divide 135 = .ok (.lstore 10, 2) := by decide +kernel
theorem dX3_divide_137 : decode cX3_divide 137 = .ok (.iconst 0, 1) := by decide +kernel
theorem dX3_divide_138 : decode cX3_divide 138 = .ok (.istore 12, 2) := by decide +kernel
theorem dX3_divide_140 : decode cX3_divide 140 = .ok (.iload 7, 2) := by decide +kernel
theorem dX3_divide_142 : decode cX3_divide 142 = .ok (.iload 12, 2) := by decide +kernel
theorem dX3_divide_144 : decode cX3_divide 144 = .ok (.iadd, 1) := by decide +kernel
theorem dX3_divide_145 : decode cX3_divide 145 = .ok (.bipush 40, 2) := by decide +kernel
theorem dX3_divide_147 : decode cX3_divide 147 = .ok (.if_icmp .ge 94, 3) := by decide +kernel
theorem dX3_divide_150 : decode cX3_divide 150 = .ok (.lload 8, 2) := by decide +kernel
theorem dX3_divide_152 : decode cX3_divide 152 = .ok (.aload_n 0, 1) := by decide +kernel
theorem dX3_divide_153 : decode cX3_divide 153 = .ok (.getfield 7, 3) := by decide +kernel
theorem dX3_divide_156 : decode cX3_divide 156 = .ok (.sipush 2040, 3) := by decide +kernel
theorem dX3_divide_159 : decode cX3_divide 159 = .ok (.iload 12, 2) := by decide +kernel
theorem dX3_divide_161 : decode cX3_divide 161 = .ok (.iadd, 1) := by decide +kernel
theorem dX3_divide_162 : decode cX3_divide 162 = .ok (.iaload, 1) := by decide +kernel
theorem dX3_divide_163 : decode cX3_divide 163 = .ok (.i2l, 1) := by decide +kernel
theorem dX3_divide_164 : decode cX3_divide 164 = .ok (.lmul, 1) := by decide +kernel
theorem dX3_divide_165 : decode cX3_divide 165 = .ok (.lload 10, 2) := by decide +kernel
theorem dX3_divide_167 : decode cX3_divide 167 = .ok (.ladd, 1) := by decide +kernel
theorem dX3_divide_168 : decode cX3_divide 168 = .ok (.lstore 13, 2) := by decide +kernel
theorem dX3_divide_170 : decode cX3_divide 170 = .ok (.aload_n 0, 1) := by decide +kernel
theorem dX3_divide_171 : decode cX3_divide 171 = .ok (.getfield 7, 3) := by decide +kernel
theorem dX3_divide_174 : decode cX3_divide 174 = .ok (.sipush 2000, 3) := by decide +kernel
theorem dX3_divide_177 : decode cX3_divide 177 = .ok (.iload 7, 2) := by decide +kernel
theorem dX3_divide_179 : decode cX3_divide 179 = .ok (.iadd, 1) := by decide +kernel
theorem dX3_divide_180 : decode cX3_divide 180 = .ok (.iload 12, 2) := by decide +kernel
theorem dX3_divide_182 : decode cX3_divide 182 = .ok (.iadd, 1) := by decide +kernel
theorem dX3_divide_183 : decode cX3_divide 183 = .ok (.iaload, 1) := by decide +kernel
theorem dX3_divide_184 : decode cX3_divide 184 = .ok (.i2l, 1) := by decide +kernel
theorem dX3_divide_185 : decode cX3_divide 185 = .ok (.lload 13, 2) := by decide +kernel
theorem dX3_divide_187 : decode cX3_divide 187 = .ok (.ldc2_w 67, 3) := by decide +kernel
theorem dX3_divide_190 : decode cX3_divide 190 = .ok (.land, 1) := by decide +kernel
theorem dX3_divide_191 : decode cX3_divide 191 = .ok (.lsub, 1) := by decide +kernel
theorem dX3_divide_192 : decode cX3_divide 192 = .ok (.lstore 15, 2) := by decide +kernel
theorem dX3_divide_194 : decode cX3_divide 194 = .ok (.aload_n 0, 1) := by decide +kernel
theorem dX3_divide_195 : decode cX3_divide 195 = .ok (.getfield 7, 3) := by decide +kernel
theorem dX3_divide_198 : decode cX3_divide 198 = .ok (.sipush 2000, 3) := by decide +kernel
theorem dX3_divide_201 : decode cX3_divide 201 = .ok (.iload 7, 2) := by decide +kernel
theorem dX3_divide_203 : decode cX3_divide 203 = .ok (.iadd, 1) := by decide +kernel
theorem dX3_divide_204 : decode cX3_divide 204 = .ok (.iload 12, 2) := by decide +kernel
theorem dX3_divide_206 : decode cX3_divide 206 = .ok (.iadd, 1) := by decide +kernel
theorem dX3_divide_207 : decode cX3_divide 207 = .ok (.lload 15, 2) := by decide +kernel
theorem dX3_divide_209 : decode cX3_divide 209 = .ok (.ldc2_w 67, 3) := by decide +kernel
theorem dX3_divide_212 : decode cX3_divide 212 = .ok (.land, 1) := by decide +kernel
theorem dX3_divide_213 : decode cX3_divide 213 = .ok (.l2i, 1) := by decide +kernel
theorem dX3_divide_214 : decode cX3_divide 214 = .ok (.iastore, 1) := by decide +kernel
theorem dX3_divide_215 : decode cX3_divide 215 = .ok (.lload 13, 2) := by decide +kernel
theorem dX3_divide_217 : decode cX3_divide 217 = .ok (.bipush 31, 2) := by decide +kernel
theorem dX3_divide_219 : decode cX3_divide 219 = .ok (.lshr, 1) := by decide +kernel
theorem dX3_divide_220 : decode cX3_divide 220 = .ok (.lload 15, 2) := by decide +kernel
theorem dX3_divide_222 : decode cX3_divide 222 = .ok (.lconst 0, 1) := by decide +kernel
theorem dX3_divide_223 : decode cX3_divide 223 = .ok (.lcmp, 1) := by decide +kernel
theorem dX3_divide_224 : decode cX3_divide 224 = .ok (.ifCond .ge 7, 3) := by decide +kernel
theorem dX3_divide_227 : decode cX3_divide 227 = .ok (.lconst 1, 1) := by decide +kernel
theorem dX3_divide_228 : decode cX3_divide 228 = .ok (.goto 4, 3) := by decide +kernel
theorem dX3_divide_231 : decode cX3_divide 231 = .ok (.lconst 0, 1) := by decide +kernel
theorem dX3_divide_232 : decode cX3_divide 232 = .ok (.ladd, 1) := by decide +kernel
theorem dX3_divide_233 : decode cX3_divide 233 = .ok (.lstore 10, 2) := by decide +kernel
theorem dX3_divide_235 : decode cX3_divide 235 = .ok (.iinc 12 1, 3) := by decide +kernel
theorem dX3_divide_238 : decode cX3_divide 238 = .ok (.goto (-98), 3) := by decide +kernel
theorem dX3_divide_241 : decode cX3_divide 241 = .ok (.iinc 7 1, 3) := by decide +kernel
theorem dX3_divide_244 : decode cX3_divide 244 = .ok (.goto (-152), 3) := by decide +kernel
theorem dX3_divide_247 : decode cX3_divide 247 = .ok (.aload_n 0, 1) := by decide +kernel
theorem dX3_divide_248 : decode cX3_divide 248 = .ok (.getfield 13, 3) := by decide +kernel
theorem dX3_divide_251 : decode cX3_divide 251 = .ok (.bipush 52, 2) := by decide +kernel
theorem dX3_divide_253 : decode cX3_divide 253 = .ok (.aload_n 0, 1) := by decide +kernel
theorem dX3_divide_254 : decode cX3_divide 254 = .ok (.getfield 13, 3) := by decide +kernel
theorem dX3_divide_257 : decode cX3_divide 257 = .ok (.bipush 49, 2) := by decide +kernel
theorem dX3_divide_259 : decode cX3_divide 259 = .ok (.iaload, 1) := by decide +kernel
theorem dX3_divide_260 : decode cX3_divide 260 = .ok (.aload_n 0, 1) := by decide +kernel
theorem dX3_divide_261 : decode cX3_divide 261 = .ok (.getfield 13, 3) := by decide +kernel
theorem dX3_divide_264 : decode cX3_divide 264 = .ok (.iload_n 1, 1) := by decide +kernel
theorem dX3_divide_265 : decode cX3_divide 265 = .ok (.iaload, 1) := by decide +kernel
theorem dX3_divide_266 : decode cX3_divide 266 = .ok (.imul, 1) := by decide +kernel
theorem dX3_divide_267 : decode cX3_divide 267 = .ok (.iastore, 1) := by decide +kernel
theorem dX3_divide_268 : decode cX3_divide 268 = .ok (.return_, 1) := by decide +kernel
set_option maxRecDepth 20000 in
theorem ggX3_swap_X3_copy : GoodIn wsX3_swap wsX3_copy := goodIn_r _ [7, 8, 9, 10, 11, 12, 13, 14, 15, 16, 17, 18, 19, 20, 21] (by decide +kernel) (by decide +kernel)
set_option maxRecDepth 20000 in
theorem gX3_swap_X3_copy : GoodIn wsX3_swap (wsV RX3 85 RX3 yX3_copy wsX3_copy) := goodIn_app (goodIn_of _ (by decide +kernel)) ggX3_swap_X3_copy
theorem dX3_swap_0 : decode cX3_swap 0 = .ok (.iconst 0, 1) := by decide +kernel
theorem dX3_swap_1 : decode cX3_swap 1 = .ok (.istore_n 3, 1) := by decide +kernel
theorem dX3_swap_2 : decode cX3_swap 2 = .ok (.iload_n 3, 1) := by decide +kernel
theorem dX3_swap_3 : decode cX3_swap 3 = .ok (.bipush 7, 2) := by decide +kernel
theorem dX3_swap_5 : decode cX3_swap 5 = .ok (.if_icmp .ge 49, 3) := by decide +kernel
theorem dX3_swap_8 : decode cX3_swap 8 = .ok (.aload_n 0, 1) := by decide +kernel
theorem dX3_swap_9 : decode cX3_swap 9 = .ok (.bipush 7, 2) := by decide +kernel
theorem dX3_swap_11 : decode cX3_swap 11 = .ok (.iload_n 1, 1) := by decide +kernel
theorem dX3_swap_12 : decode cX3_swap 12 = .ok (.imul, 1) := by decide +kernel
theorem dX3_swap_13 : decode cX3_swap 13 = .ok (.iload_n 3, 1) := by decide +kernel
theorem dX3_swap_14 : decode cX3_swap 14 = .ok (.iadd, 1) := by decide +kernel
theorem dX3_swap_15 : decode cX3_swap 15 = .ok (.bipush 50, 2) := by decide +kernel
theorem dX3_swap_17 : decode cX3_swap 17 = .ok (.invokevirtual 85, 3) := by decide +kernel
theorem dX3_swap_20 : decode cX3_swap 20 = .ok (.aload_n 0, 1) := by decide +kernel
theorem dX3_swap_21 : decode cX3_swap 21 = .ok (.bipush 7, 2) := by decide +kernel
theorem dX3_swap_23 : decode cX3_swap 23 = .ok (.iload_n 2, 1) := by decide +kernel
theorem dX3_swap_24 : decode cX3_swap 24 = .ok (.imul, 1) := by decide +kernel
theorem dX3_swap_25 : decode cX3_swap 25 = .ok (.iload_n 3, 1) := by decide +kernel
theorem dX3_swap_26 : decode cX3_swap 26 = .ok (.iadd, 1) := by decide +kernel
theorem dX3_swap_27 : decode cX3_swap 27 = .ok (.bipush 7, 2) := by decide +kernel
theorem dX3_swap_29 : decode cX3_swap 29 = .ok (.iload_n 1, 1) := by decide +kernel
theorem dX3_swap_30 : decode cX3_swap 30 = .ok (.imul, 1) := by decide +kernel
theorem dX3_swap_31 : decode cX3_swap 31 = .ok (.iload_n 3, 1) := by decide +kernel
theorem dX3_swap_32 : decode cX3_swap 32 = .ok (.iadd, 1) := by decide +kernel
theorem dX3_swap_33 : decode cX3_swap 33 = .ok (.invokevirtual 85, 3) := by decide +kernel
theorem dX3_swap_36 : decode cX3_swap 36 = .ok (.aload_n 0, 1) := by decide +kernel
theorem dX3_swap_37 : decode cX3_swap 37 = .ok (.bipush 50, 2) := by decide +kernel
theorem dX3_swap_39 : decode cX3_swap 39 = .ok (.bipush 7, 2) := by decide +kernel
theorem dX3_swap_41 : decode cX3_swap 41 = .ok (.iload_n 2, 1) := by decide +kernel
theorem dX3_swap_42 : decode cX3_swap 42 = .ok (.imul, 1) := by decide +kernel
theorem dX3_swap_43 : decode cX3_swap 43 = .ok (.iload_n 3, 1) := by decide +kernel
theorem dX3_swap_44 : decode cX3_swap 44 = .ok (.iadd, 1) := by decide +kernel
theorem dX3_swap_45 : decode cX3_swap 45 = .ok (.invokevirtual 85, 3) := by decide +kernel
theorem dX3_swap_48 : decode cX3_swap 48 = .ok (.iinc 3 1, 3) := by decide +kernel
theorem dX3_swap_51 : decode cX3_swap 51 = .ok (.goto (-49), 3) := by decide +kernel
theorem dX3_swap_54 : decode cX3_swap 54 = .ok (.aload_n 0, 1) := by decide +kernel
