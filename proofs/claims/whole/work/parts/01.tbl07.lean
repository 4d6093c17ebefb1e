theorem dX3_swap_55 : decode cX3_swap 55 = .ok (.getfield 16, 3) := by decide +kernel
theorem dX3_swap_58 : decode cX3_swap 58 = .ok (.iload_n 1, 1) := by decide +kernel
theorem dX3_swap_59 : decode cX3_swap 59 = .ok (.iaload, 1) := by decide +kernel
theorem dX3_swap_60 : decode cX3_swap 60 = .ok (.istore_n 3, 1) := by decide +kernel
theorem dX3_swap_61 : decode cX3_swap 61 = .ok (.aload_n 0, 1) := by decide +kernel
theorem dX3_swap_62 : decode cX3_swap 62 = .ok (.getfield 16, 3) := by decide +kernel
theorem dX3_swap_65 : decode cX3_swap 65 = .ok (.iload_n 1, 1) := by decide +kernel
theorem dX3_swap_66 : decode cX3_swap 66 = .ok (.aload_n 0, 1) := by decide +kernel
theorem dX3_swap_67 : decode cX3_swap 67 = .ok (.getfield 16, 3) := by decide +kernel
theorem dX3_swap_70 : decode cX3_swap 70 = .ok (.iload_n 2, 1) := by decide +kernel
theorem dX3_swap_71 : decode cX3_swap 71 = .ok (.iaload, 1) := by decide +kernel
theorem dX3_swap_72 : decode cX3_swap 72 = .ok (.iastore, 1) := by decide +kernel
theorem dX3_swap_73 : decode cX3_swap 73 = .ok (.aload_n 0, 1) := by decide +kernel
theorem dX3_swap_74 : decode cX3_swap 74 = .ok (.getfield 16, 3) := by decide +kernel
theorem dX3_swap_77 : decode cX3_swap 77 = .ok (.iload_n 2, 1) := by decide +kernel
theorem dX3_swap_78 : decode cX3_swap 78 = .ok (.iload_n 3, 1) := by decide +kernel
theorem dX3_swap_79 : decode cX3_swap 79 = .ok (.iastore, 1) := by decide +kernel
theorem dX3_swap_80 : decode cX3_swap 80 = .ok (.aload_n 0, 1) := by decide +kernel
theorem dX3_swap_81 : decode cX3_swap 81 = .ok (.iload_n 1, 1) := by decide +kernel
theorem dX3_swap_82 : decode cX3_swap 82 = .ok (.iload_n 2, 1) := by decide +kernel
theorem dX3_swap_83 : decode cX3_swap 83 = .ok (.if_icmp .ne 10, 3) := by decide +kernel
theorem dX3_swap_86 : decode cX3_swap 86 = .ok (.aload_n 0, 1) := by decide +kernel
theorem dX3_swap_87 : decode cX3_swap 87 = .ok (.getfield 41, 3) := by decide +kernel
theorem dX3_swap_90 : decode cX3_swap 90 = .ok (.goto 15, 3) := by decide +kernel
theorem dX3_swap_93 : decode cX3_swap 93 = .ok (.aload_n 0, 1) := by decide +kernel
theorem dX3_swap_94 : decode cX3_swap 94 = .ok (.getfield 41, 3) := by decide +kernel
theorem dX3_swap_97 : decode cX3_swap 97 = .ok (.ifCond .ne 7, 3) := by decide +kernel
theorem dX3_swap_100 : decode cX3_swap 100 = .ok (.iconst 1, 1) := by decide +kernel
theorem dX3_swap_101 : decode cX3_swap 101 = .ok (.goto 4, 3) := by decide +kernel
theorem dX3_swap_104 : decode cX3_swap 104 = .ok (.iconst 0, 1) := by decide +kernel
theorem dX3_swap_105 : decode cX3_swap 105 = .ok (.putfield 41, 3) := by decide +kernel
theorem dX3_swap_108 : decode cX3_swap 108 = .ok (.return_, 1) := by decide +kernel
set_option maxRecDepth 20000 in
theorem ggX3_eliminate_X3_place : GoodIn wsX3_eliminate wsX3_place := goodIn_r _ [9, 1, 59, 60, 61, 62, 63, 64, 65, 66, 67, 68, 69, 70] (by decide +kernel) (by decide +kernel)
set_option maxRecDepth 20000 in
theorem gX3_eliminate_X3_place : GoodIn wsX3_eliminate (wsV RX3 49 RX3 yX3_place wsX3_place) := goodIn_app (goodIn_of _ (by decide +kernel)) ggX3_eliminate_X3_place
set_option maxRecDepth 20000 in
theorem ggX3_eliminate_X3_swap : GoodIn wsX3_eliminate wsX3_swap := goodIn_r _ [13, 14, 15, 16, 17, 18, 8, 19, 20, 2, 59, 60, 61, 62, 63, 64, 65, 66, 67, 68, 69, 70] (by decide +kernel) (by decide +kernel)
set_option maxRecDepth 20000 in
theorem gX3_eliminate_X3_swap : GoodIn wsX3_eliminate (wsV RX3 89 RX3 yX3_swap wsX3_swap) := goodIn_app (goodIn_of _ (by decide +kernel)) ggX3_eliminate_X3_swap
set_option maxRecDepth 20000 in
theorem ggX3_eliminate_X3_multiply : GoodIn wsX3_eliminate wsX3_multiply := goodIn_r _ [24, 20, 25, 2, 26, 27, 28, 8, 29, 30, 31, 32, 33, 59, 60, 61, 62, 63, 64, 65, 66, 67, 68, 69, 70] (by decide +kernel) (by decide +kernel)
set_option maxRecDepth 20000 in
theorem gX3_eliminate_X3_multiply : GoodIn wsX3_eliminate (wsV RX3 92 RX3 yX3_multiply wsX3_multiply) := goodIn_app (goodIn_of _ (by decide +kernel)) ggX3_eliminate_X3_multiply
set_option maxRecDepth 20000 in
theorem ggX3_eliminate_X3_copy : GoodIn wsX3_eliminate wsX3_copy := goodIn_r _ [19, 20, 2, 59, 60, 61, 62, 63, 64, 65, 66, 67, 68, 69, 70] (by decide +kernel) (by decide +kernel)
set_option maxRecDepth 20000 in
theorem gX3_eliminate_X3_copy : GoodIn wsX3_eliminate (wsV RX3 85 RX3 yX3_copy wsX3_copy) := goodIn_app (goodIn_of _ (by decide +kernel)) ggX3_eliminate_X3_copy
set_option maxRecDepth 20000 in
theorem ggX3_eliminate_X3_less : GoodIn wsX3_eliminate wsX3_less := goodIn_r _ [37, 2, 38, 39, 40, 8, 41, 20, 25, 42, 43, 44, 45, 59, 60, 61, 62, 63, 64, 65, 66, 67, 68, 69, 70] (by decide +kernel) (by decide +kernel)
set_option maxRecDepth 20000 in
theorem gX3_eliminate_X3_less : GoodIn wsX3_eliminate (wsV RX3 95 RX3 yX3_less wsX3_less) := goodIn_app (goodIn_of _ (by decide +kernel)) ggX3_eliminate_X3_less
set_option maxRecDepth 20000 in
theorem ggX3_eliminate_X3_divide : GoodIn wsX3_eliminate wsX3_divide := goodIn_r _ [49, 2, 20, 50, 25, 26, 27, 28, 8, 29, 51, 52, 53, 54, 55, 56, 57, 58, 59, 60, 61, 62, 63, 64, 65, 66, 67, 68, 69, 70] (by decide +kernel) (by decide +kernel)
set_option maxRecDepth 20000 in
theorem gX3_eliminate_X3_divide : GoodIn wsX3_eliminate (wsV RX3 98 RX3 yX3_divide wsX3_divide) := goodIn_app (goodIn_of _ (by decide +kernel)) ggX3_eliminate_X3_divide
set_option maxRecDepth 20000 in
theorem ggX3_eliminate_X3_count : GoodIn wsX3_eliminate wsX3_count := goodIn_r _ [33, 20, 59, 60, 61, 62, 63, 64, 65, 66, 67, 68, 69, 70] (by decide +kernel) (by decide +kernel)
set_option maxRecDepth 20000 in
theorem gX3_eliminate_X3_count : GoodIn wsX3_eliminate (wsV RX3 63 RX3 yX3_count wsX3_count) := goodIn_app (goodIn_of _ (by decide +kernel)) ggX3_eliminate_X3_count
theorem dX3_eliminate_0 : decode cX3_eliminate 0 = .ok (.iload_n 1, 1) := by decide +kernel
theorem dX3_eliminate_1 : decode cX3_eliminate 1 = .ok (.istore_n 2, 1) := by decide +kernel
theorem dX3_eliminate_2 : decode cX3_eliminate 2 = .ok (.iload_n 2, 1) := by decide +kernel
theorem dX3_eliminate_3 : decode cX3_eliminate 3 = .ok (.aload_n 0, 1) := by decide +kernel
theorem dX3_eliminate_4 : decode cX3_eliminate 4 = .ok (.getfield 19, 3) := by decide +kernel
theorem dX3_eliminate_7 : decode cX3_eliminate 7 = .ok (.if_icmp .ge 23, 3) := by decide +kernel
theorem dX3_eliminate_10 : decode cX3_eliminate 10 = .ok (.aload_n 0, 1) := by decide +kernel
theorem dX3_eliminate_11 : decode cX3_eliminate 11 = .ok (.getfield 13, 3) := by decide +kernel
theorem dX3_eliminate_14 : decode cX3_eliminate 14 = .ok (.aload_n 0, 1) := by decide +kernel
theorem dX3_eliminate_15 : decode cX3_eliminate 15 = .ok (.iload_n 2, 1) := by decide +kernel
theorem dX3_eliminate_16 : decode cX3_eliminate 16 = .ok (.iload_n 1, 1) := by decide +kernel
theorem dX3_eliminate_17 : decode cX3_eliminate 17 = .ok (.invokevirtual 49, 3) := by decide +kernel
theorem dX3_eliminate_20 : decode cX3_eliminate 20 = .ok (.iaload, 1) := by decide +kernel
theorem dX3_eliminate_21 : decode cX3_eliminate 21 = .ok (.ifCond .ne 9, 3) := by decide +kernel
theorem dX3_eliminate_24 : decode cX3_eliminate 24 = .ok (.iinc 2 1, 3) := by decide +kernel
theorem dX3_eliminate_27 : decode cX3_eliminate 27 = .ok (.goto (-25), 3) := by decide +kernel
theorem dX3_eliminate_30 : decode cX3_eliminate 30 = .ok (.iload_n 2, 1) := by decide +kernel
theorem dX3_eliminate_31 : decode cX3_eliminate 31 = .ok (.aload_n 0, 1) := by decide +kernel
theorem dX3_eliminate_32 : decode cX3_eliminate 32 = .ok (.getfield 19, 3) := by decide +kernel
theorem dX3_eliminate_35 : decode cX3_eliminate 35 = .ok (.if_icmp .ne 5, 3) := by decide +kernel
theorem dX3_eliminate_38 : decode cX3_eliminate 38 = .ok (.iconst 2, 1) := by decide +kernel
theorem dX3_eliminate_39 : decode cX3_eliminate 39 = .ok (.ireturn, 1) := by decide +kernel
theorem dX3_eliminate_40 : decode cX3_eliminate 40 = .ok (.aload_n 0, 1) := by decide +kernel
theorem dX3_eliminate_41 : decode cX3_eliminate 41 = .ok (.iload_n 2, 1) := by decide +kernel
theorem dX3_eliminate_42 : decode cX3_eliminate 42 = .ok (.iload_n 1, 1) := by decide +kernel
theorem dX3_eliminate_43 : decode cX3_eliminate 43 = .ok (.invokevirtual 89, 3) := by decide +kernel
theorem dX3_eliminate_46 : decode cX3_eliminate 46 = .ok (.aload_n 0, 1) := by decide +kernel
theorem dX3_eliminate_47 : decode cX3_eliminate 47 = .ok (.iload_n 1, 1) := by decide +kernel
theorem dX3_eliminate_48 : decode cX3_eliminate 48 = .ok (.iconst 1, 1) := by decide +kernel
theorem dX3_eliminate_49 : decode cX3_eliminate 49 = .ok (.iadd, 1) := by decide +kernel
theorem dX3_eliminate_50 : decode cX3_eliminate 50 = .ok (.putfield 38, 3) := by decide +kernel
theorem dX3_eliminate_53 : decode cX3_eliminate 53 = .ok (.iload_n 1, 1) := by decide +kernel
theorem dX3_eliminate_54 : decode cX3_eliminate 54 = .ok (.iconst 1, 1) := by decide +kernel
theorem dX3_eliminate_55 : decode cX3_eliminate 55 = .ok (.iadd, 1) := by decide +kernel
theorem dX3_eliminate_56 : decode cX3_eliminate 56 = .ok (.istore_n 3, 1) := by decide +kernel
theorem dX3_eliminate_57 : decode cX3_eliminate 57 = .ok (.iload_n 3, 1) := by decide +kernel
theorem dX3_eliminate_58 : decode cX3_eliminate 58 = .ok (.aload_n 0, 1) := by decide +kernel
theorem dX3_eliminate_59 : decode cX3_eliminate 59 = .ok (.getfield 19, 3) := by decide +kernel
theorem dX3_eliminate_62 : decode cX3_eliminate 62 = .ok (.if_icmp .ge 129, 3) := by decide +kernel
theorem dX3_eliminate_65 : decode cX3_eliminate 65 = .ok (.iload_n 1, 1) := by decide +kernel
theorem dX3_eliminate_66 : decode cX3_eliminate 66 = .ok (.iconst 1, 1) := by decide +kernel
theorem dX3_eliminate_67 : decode cX3_eliminate 67 = .ok (.iadd, 1) := by decide +kernel
theorem dX3_eliminate_68 : decode cX3_eliminate 68 = .ok (.istore 4, 2) := by decide +kernel
theorem dX3_eliminate_70 : decode cX3_eliminate 70 = .ok (.iload 4, 2) := by decide +kernel
theorem dX3_eliminate_72 : decode cX3_eliminate 72 = .ok (.aload_n 0, 1) := by decide +kernel
theorem dX3_eliminate_73 : decode cX3_eliminate 73 = .ok (.getfield 19, 3) := by decide +kernel
theorem dX3_eliminate_76 : decode cX3_eliminate 76 = .ok (.if_icmp .gt 109, 3) := by decide +kernel
theorem dX3_eliminate_79 : decode cX3_eliminate 79 = .ok (.aload_n 0, 1) := by decide +kernel
theorem dX3_eliminate_80 : decode cX3_eliminate 80 = .ok (.aload_n 0, 1) := by decide +kernel
theorem dX3_eliminate_81 : decode cX3_eliminate 81 = .ok (.iload_n 1, 1) := by decide +kernel
theorem dX3_eliminate_82 : decode cX3_eliminate 82 = .ok (.iload_n 1, 1) := by decide +kernel
theorem dX3_eliminate_83 : decode cX3_eliminate 83 = .ok (.invokevirtual 49, 3) := by decide +kernel
theorem dX3_eliminate_86 : decode cX3_eliminate 86 = .ok (.aload_n 0, 1) := by decide +kernel
theorem dX3_eliminate_87 : decode cX3_eliminate 87 = .ok (.iload_n 3, 1) := by decide +kernel
theorem dX3_eliminate_88 : decode cX3_eliminate 88 = .ok (.iload 4, 2) := by decide +kernel
theorem dX3_eliminate_90 : decode cX3_eliminate 90 = .ok (.invokevirtual 49, 3) := by decide +kernel
theorem dX3_eliminate_93 : decode cX3_eliminate 93 = .ok (.invokevirtual 92, 3) := by decide +kernel
theorem dX3_eliminate_96 : decode cX3_eliminate 96 = .ok (.aload_n 0, 1) := by decide +kernel
theorem dX3_eliminate_97 : decode cX3_eliminate 97 = .ok (.bipush 48, 2) := by decide +kernel
theorem dX3_eliminate_99 : decode cX3_eliminate 99 = .ok (.bipush 49, 2) := by decide +kernel
theorem dX3_eliminate_101 : decode cX3_eliminate 101 = .ok (.invokevirtual 85, 3) := by decide +kernel
theorem dX3_eliminate_104 : decode cX3_eliminate 104 = .ok (.aload_n 0, 1) := by decide +kernel
theorem dX3_eliminate_105 : decode cX3_eliminate 105 = .ok (.aload_n 0, 1) := by decide +kernel
theorem dX3_eliminate_106 : decode cX3_eliminate 106 = .ok (.iload_n 3, 1) := by decide +kernel
theorem dX3_eliminate_107 : decode cX3_eliminate 107 = .ok (.iload_n 1, 1) := by decide +kernel
theorem dX3_eliminate_108 : decode cX3_eliminate 108 = .ok (.invokevirtual 49, 3) := by decide +kernel
theorem dX3_eliminate_111 : decode cX3_eliminate 111 = .ok (.aload_n 0, 1) := by decide +kernel
theorem dX3_eliminate_112 : decode cX3_eliminate 112 = .ok (.iload_n 1, 1) := by decide +kernel
theorem dX3_eliminate_113 : decode cX3_eliminate 113 = .ok (.iload 4, 2) := by decide +kernel
theorem dX3_eliminate_115 : decode cX3_eliminate 115 = .ok (.invokevirtual 49, 3) := by decide +kernel
theorem dX3_eliminate_118 : decode cX3_eliminate 118 = .ok (.invokevirtual 92, 3) := by decide +kernel
theorem dX3_eliminate_121 : decode cX3_eliminate 121 = .ok (.aload_n 0, 1) := by decide +kernel
theorem dX3_eliminate_122 : decode cX3_eliminate 122 = .ok (.invokevirtual 95, 3) := by decide +kernel
theorem dX3_eliminate_125 : decode cX3_eliminate 125 = .ok (.aload_n 0, 1) := by decide +kernel
theorem dX3_eliminate_126 : decode cX3_eliminate 126 = .ok (.bipush 49, 2) := by decide +kernel
theorem dX3_eliminate_128 : decode cX3_eliminate 128 = .ok (.bipush 52, 2) := by decide +kernel
theorem dX3_eliminate_130 : decode cX3_eliminate 130 = .ok (.invokevirtual 85, 3) := by decide +kernel
theorem dX3_eliminate_133 : decode cX3_eliminate 133 = .ok (.iload_n 1, 1) := by decide +kernel
theorem dX3_eliminate_134 : decode cX3_eliminate 134 = .ok (.ifCond .le 17, 3) := by decide +kernel
theorem dX3_eliminate_137 : decode cX3_eliminate 137 = .ok (.aload_n 0, 1) := by decide +kernel
theorem dX3_eliminate_138 : decode cX3_eliminate 138 = .ok (.aload_n 0, 1) := by decide +kernel
theorem dX3_eliminate_139 : decode cX3_eliminate 139 = .ok (.iload_n 1, 1) := by decide +kernel
theorem dX3_eliminate_140 : decode cX3_eliminate 140 = .ok (.iconst 1, 1) := by decide +kernel
theorem dX3_eliminate_141 : decode cX3_eliminate 141 = .ok (.isub, 1) := by decide +kernel
theorem dX3_eliminate_142 : decode cX3_eliminate 142 = .ok (.iload_n 1, 1) := by decide +kernel
theorem dX3_eliminate_143 : decode cX3_eliminate 143 = .ok (.iconst 1, 1) := by decide +kernel
theorem dX3_eliminate_144 : decode cX3_eliminate 144 = .ok (.isub, 1) := by decide +kernel
theorem dX3_eliminate_145 : decode cX3_eliminate 145 = .ok (.invokevirtual 49, 3) := by decide +kernel
theorem dX3_eliminate_148 : decode cX3_eliminate 148 = .ok (.invokevirtual 98, 3) := by decide +kernel
theorem dX3_eliminate_151 : decode cX3_eliminate 151 = .ok (.aload_n 0, 1) := by decide +kernel
theorem dX3_eliminate_152 : decode cX3_eliminate 152 = .ok (.bipush 52, 2) := by decide +kernel
theorem dX3_eliminate_154 : decode cX3_eliminate 154 = .ok (.invokevirtual 63, 3) := by decide +kernel
theorem dX3_eliminate_157 : decode cX3_eliminate 157 = .ok (.aload_n 0, 1) := by decide +kernel
theorem dX3_eliminate_158 : decode cX3_eliminate 158 = .ok (.getfield 23, 3) := by decide +kernel
theorem dX3_eliminate_161 : decode cX3_eliminate 161 = .ok (.if_icmp .le 5, 3) := by decide +kernel
theorem dX3_eliminate_164 : decode cX3_eliminate 164 = .ok (.iconst 3, 1) := by decide +kernel
theorem dX3_eliminate_165 : decode cX3_eliminate 165 = .ok (.ireturn, 1) := by decide +kernel
theorem dX3_eliminate_166 : decode cX3_eliminate 166 = .ok (.aload_n 0, 1) := by decide +kernel
theorem dX3_eliminate_167 : decode cX3_eliminate 167 = .ok (.bipush 52, 2) := by decide +kernel
theorem dX3_eliminate_169 : decode cX3_eliminate 169 = .ok (.aload_n 0, 1) := by decide +kernel
theorem dX3_eliminate_170 : decode cX3_eliminate 170 = .ok (.iload_n 3, 1) := by decide +kernel
theorem dX3_eliminate_171 : decode cX3_eliminate 171 = .ok (.iload 4, 2) := by decide +kernel
theorem dX3_eliminate_173 : decode cX3_eliminate 173 = .ok (.invokevirtual 49, 3) := by decide +kernel
theorem dX3_eliminate_176 : decode cX3_eliminate 176 = .ok (.invokevirtual 85, 3) := by decide +kernel
theorem dX3_eliminate_179 : decode cX3_eliminate 179 = .ok (.iinc 4 1, 3) := by decide +kernel
theorem dX3_eliminate_182 : decode cX3_eliminate 182 = .ok (.goto (-112), 3) := by decide +kernel
theorem dX3_eliminate_185 : decode cX3_eliminate 185 = .ok (.iinc 3 1, 3) := by decide +kernel
theorem dX3_eliminate_188 : decode cX3_eliminate 188 = .ok (.goto (-131), 3) := by decide +kernel
theorem dX3_eliminate_191 : decode cX3_eliminate 191 = .ok (.iconst 0, 1) := by decide +kernel
theorem dX3_eliminate_192 : decode cX3_eliminate 192 = .ok (.ireturn, 1) := by decide +kernel
set_option maxRecDepth 20000 in
theorem ggX3_insert_X3_place : GoodIn wsX3_insert wsX3_place := goodIn_r _ [7, 1, 52, 53, 54, 55, 56, 57, 58, 59, 60, 61, 62, 63] (by decide +kernel) (by decide +kernel)
set_option maxRecDepth 20000 in
theorem gX3_insert_X3_place : GoodIn wsX3_insert (wsV RX3 49 RX3 yX3_place wsX3_place) := goodIn_app (goodIn_of _ (by decide +kernel)) ggX3_insert_X3_place
set_option maxRecDepth 20000 in
theorem ggX3_insert_X3_multiply : GoodIn wsX3_insert wsX3_multiply := goodIn_r _ [11, 12, 13, 14, 15, 16, 17, 6, 18, 19, 20, 21, 22, 52, 53, 54, 55, 56, 57, 58, 59, 60, 61, 62, 63] (by decide +kernel) (by decide +kernel)
set_option maxRecDepth 20000 in
theorem gX3_insert_X3_multiply : GoodIn wsX3_insert (wsV RX3 92 RX3 yX3_multiply wsX3_multiply) := goodIn_app (goodIn_of _ (by decide +kernel)) ggX3_insert_X3_multiply
set_option maxRecDepth 20000 in
theorem ggX3_insert_X3_copy : GoodIn wsX3_insert wsX3_copy := goodIn_r _ [26, 12, 14, 52, 53, 54, 55, 56, 57, 58, 59, 60, 61, 62, 63] (by decide +kernel) (by decide +kernel)
set_option maxRecDepth 20000 in
theorem gX3_insert_X3_copy : GoodIn wsX3_insert (wsV RX3 85 RX3 yX3_copy wsX3_copy) := goodIn_app (goodIn_of _ (by decide +kernel)) ggX3_insert_X3_copy
set_option maxRecDepth 20000 in
theorem ggX3_insert_X3_less : GoodIn wsX3_insert wsX3_less := goodIn_r _ [30, 14, 31, 32, 33, 6, 34, 12, 13, 35, 36, 37, 38, 52, 53, 54, 55, 56, 57, 58, 59, 60, 61, 62, 63] (by decide +kernel) (by decide +kernel)
set_option maxRecDepth 20000 in
theorem gX3_insert_X3_less : GoodIn wsX3_insert (wsV RX3 95 RX3 yX3_less wsX3_less) := goodIn_app (goodIn_of _ (by decide +kernel)) ggX3_insert_X3_less
set_option maxRecDepth 20000 in
theorem ggX3_insert_X3_divide : GoodIn wsX3_insert wsX3_divide := goodIn_r _ [42, 14, 12, 43, 13, 15, 16, 17, 6, 18, 44, 45, 46, 47, 48, 49, 50, 51, 52, 53, 54, 55, 56, 57, 58, 59, 60, 61, 62, 63] (by decide +kernel) (by decide +kernel)
set_option maxRecDepth 20000 in
theorem gX3_insert_X3_divide : GoodIn wsX3_insert (wsV RX3 98 RX3 yX3_divide wsX3_divide) := goodIn_app (goodIn_of _ (by decide +kernel)) ggX3_insert_X3_divide
set_option maxRecDepth 20000 in
theorem ggX3_insert_X3_count : GoodIn wsX3_insert wsX3_count := goodIn_r _ [22, 12, 52, 53, 54, 55, 56, 57, 58, 59, 60, 61, 62, 63] (by decide +kernel) (by decide +kernel)
set_option maxRecDepth 20000 in
theorem gX3_insert_X3_count : GoodIn wsX3_insert (wsV RX3 63 RX3 yX3_count wsX3_count) := goodIn_app (goodIn_of _ (by decide +kernel)) ggX3_insert_X3_count
theorem dX3_insert_0 : decode cX3_insert 0 = .ok (.aload_n 0, 1) := by decide +kernel
theorem dX3_insert_1 : decode cX3_insert 1 = .ok (.aload_n 0, 1) := by decide +kernel
theorem dX3_insert_2 : decode cX3_insert 2 = .ok (.aload_n 0, 1) := by decide +kernel
theorem dX3_insert_3 : decode cX3_insert 3 = .ok (.getfield 19, 3) := by decide +kernel
theorem dX3_insert_6 : decode cX3_insert 6 = .ok (.iconst 1, 1) := by decide +kernel
theorem dX3_insert_7 : decode cX3_insert 7 = .ok (.isub, 1) := by decide +kernel
theorem dX3_insert_8 : decode cX3_insert 8 = .ok (.aload_n 0, 1) := by decide +kernel
theorem dX3_insert_9 : decode cX3_insert 9 = .ok (.getfield 19, 3) := by decide +kernel
theorem dX3_insert_12 : decode cX3_insert 12 = .ok (.iconst 1, 1) := by decide +kernel
theorem dX3_insert_13 : decode cX3_insert 13 = .ok (.isub, 1) := by decide +kernel
theorem dX3_insert_14 : decode cX3_insert 14 = .ok (.invokevirtual 49, 3) := by decide +kernel
theorem dX3_insert_17 : decode cX3_insert 17 = .ok (.aload_n 0, 1) := by decide +kernel
theorem dX3_insert_18 : decode cX3_insert 18 = .ok (.iload_n 1, 1) := by decide +kernel
theorem dX3_insert_19 : decode cX3_insert 19 = .ok (.aload_n 0, 1) := by decide +kernel
theorem dX3_insert_20 : decode cX3_insert 20 = .ok (.getfield 19, 3) := by decide +kernel
theorem dX3_insert_23 : decode cX3_insert 23 = .ok (.invokevirtual 49, 3) := by decide +kernel
theorem dX3_insert_26 : decode cX3_insert 26 = .ok (.invokevirtual 92, 3) := by decide +kernel
theorem dX3_insert_29 : decode cX3_insert 29 = .ok (.aload_n 0, 1) := by decide +kernel
theorem dX3_insert_30 : decode cX3_insert 30 = .ok (.bipush 48, 2) := by decide +kernel
theorem dX3_insert_32 : decode cX3_insert 32 = .ok (.bipush 49, 2) := by decide +kernel
theorem dX3_insert_34 : decode cX3_insert 34 = .ok (.invokevirtual 85, 3) := by decide +kernel
theorem dX3_insert_37 : decode cX3_insert 37 = .ok (.iload_n 1, 1) := by decide +kernel
theorem dX3_insert_38 : decode cX3_insert 38 = .ok (.iconst 1, 1) := by decide +kernel
theorem dX3_insert_39 : decode cX3_insert 39 = .ok (.iadd, 1) := by decide +kernel
theorem dX3_insert_40 : decode cX3_insert 40 = .ok (.istore_n 2, 1) := by decide +kernel
theorem dX3_insert_41 : decode cX3_insert 41 = .ok (.iload_n 2, 1) := by decide +kernel
theorem dX3_insert_42 : decode cX3_insert 42 = .ok (.aload_n 0, 1) := by decide +kernel
theorem dX3_insert_43 : decode cX3_insert 43 = .ok (.getfield 19, 3) := by decide +kernel
theorem dX3_insert_46 : decode cX3_insert 46 = .ok (.if_icmp .ge 27, 3) := by decide +kernel
theorem dX3_insert_49 : decode cX3_insert 49 = .ok (.aload_n 0, 1) := by decide +kernel
theorem dX3_insert_50 : decode cX3_insert 50 = .ok (.aload_n 0, 1) := by decide +kernel
theorem dX3_insert_51 : decode cX3_insert 51 = .ok (.iload_n 1, 1) := by decide +kernel
theorem dX3_insert_52 : decode cX3_insert 52 = .ok (.iload_n 2, 1) := by decide +kernel
theorem dX3_insert_53 : decode cX3_insert 53 = .ok (.invokevirtual 49, 3) := by decide +kernel
theorem dX3_insert_56 : decode cX3_insert 56 = .ok (.bipush 42, 2) := by decide +kernel
theorem dX3_insert_58 : decode cX3_insert 58 = .ok (.iload_n 2, 1) := by decide +kernel
theorem dX3_insert_59 : decode cX3_insert 59 = .ok (.iadd, 1) := by decide +kernel
theorem dX3_insert_60 : decode cX3_insert 60 = .ok (.invokevirtual 92, 3) := by decide +kernel
theorem dX3_insert_63 : decode cX3_insert 63 = .ok (.aload_n 0, 1) := by decide +kernel
theorem dX3_insert_64 : decode cX3_insert 64 = .ok (.invokevirtual 95, 3) := by decide +kernel
theorem dX3_insert_67 : decode cX3_insert 67 = .ok (.iinc 2 1, 3) := by decide +kernel
theorem dX3_insert_70 : decode cX3_insert 70 = .ok (.goto (-29), 3) := by decide +kernel
theorem dX3_insert_73 : decode cX3_insert 73 = .ok (.aload_n 0, 1) := by decide +kernel
theorem dX3_insert_74 : decode cX3_insert 74 = .ok (.aload_n 0, 1) := by decide +kernel
theorem dX3_insert_75 : decode cX3_insert 75 = .ok (.iload_n 1, 1) := by decide +kernel
theorem dX3_insert_76 : decode cX3_insert 76 = .ok (.iload_n 1, 1) := by decide +kernel
theorem dX3_insert_77 : decode cX3_insert 77 = .ok (.invokevirtual 49, 3) := by decide +kernel
theorem dX3_insert_80 : decode cX3_insert 80 = .ok (.invokevirtual 98, 3) := by decide +kernel
theorem dX3_insert_83 : decode cX3_insert 83 = .ok (.aload_n 0, 1) := by decide +kernel
theorem dX3_insert_84 : decode cX3_insert 84 = .ok (.bipush 52, 2) := by decide +kernel
theorem dX3_insert_86 : decode cX3_insert 86 = .ok (.invokevirtual 63, 3) := by decide +kernel
theorem dX3_insert_89 : decode cX3_insert 89 = .ok (.aload_n 0, 1) := by decide +kernel
theorem dX3_insert_90 : decode cX3_insert 90 = .ok (.getfield 23, 3) := by decide +kernel
theorem dX3_insert_93 : decode cX3_insert 93 = .ok (.if_icmp .le 5, 3) := by decide +kernel
theorem dX3_insert_96 : decode cX3_insert 96 = .ok (.iconst 3, 1) := by decide +kernel
theorem dX3_insert_97 : decode cX3_insert 97 = .ok (.ireturn, 1) := by decide +kernel
theorem dX3_insert_98 : decode cX3_insert 98 = .ok (.aload_n 0, 1) := by decide +kernel
theorem dX3_insert_99 : decode cX3_insert 99 = .ok (.bipush 52, 2) := by decide +kernel
theorem dX3_insert_101 : decode cX3_insert 101 = .ok (.bipush 42, 2) := by decide +kernel
theorem dX3_insert_103 : decode cX3_insert 103 = .ok (.iload_n 1, 1) := by decide +kernel
theorem dX3_insert_104 : decode cX3_insert 104 = .ok (.iadd, 1) := by decide +kernel
theorem dX3_insert_105 : decode cX3_insert 105 = .ok (.invokevirtual 85, 3) := by decide +kernel
theorem dX3_insert_108 : decode cX3_insert 108 = .ok (.iload_n 1, 1) := by decide +kernel
theorem dX3_insert_109 : decode cX3_insert 109 = .ok (.ifCond .le 7, 3) := by decide +kernel
theorem dX3_insert_112 : decode cX3_insert 112 = .ok (.iconst 0, 1) := by decide +kernel
theorem dX3_insert_113 : decode cX3_insert 113 = .ok (.goto 4, 3) := by decide +kernel
theorem dX3_insert_116 : decode cX3_insert 116 = .ok (.iconst 1, 1) := by decide +kernel
theorem dX3_insert_117 : decode cX3_insert 117 = .ok (.ireturn, 1) := by decide +kernel
set_option maxRecDepth 20000 in
theorem ggX3_step_X3_eliminate : GoodIn wsX3_step wsX3_eliminate := goodIn_r _ [8, 3, 9, 10, 11, 12, 13, 14, 7, 15, 16, 17, 18, 19, 20, 21, 22, 23, 24, 25, 26, 27, 28, 29, 30, 31, 32, 33, 34, 35, 36, 37, 38, 39, 40, 41, 42, 43, 44, 45, 46, 47, 48, 49, 50, 51, 52, 53, 54, 55, 56, 57, 58, 59, 60, 61, 62, 63, 64, 69, 70, 71, 72, 73, 74, 75, 76, 77, 78, 79, 80] (by decide +kernel) (by decide +kernel)
set_option maxRecDepth 20000 in
theorem gX3_step_X3_eliminate : GoodIn wsX3_step (wsV RX3 101 RX3 yX3_eliminate wsX3_eliminate) := goodIn_app (goodIn_of _ (by decide +kernel)) ggX3_step_X3_eliminate
set_option maxRecDepth 20000 in
theorem ggX3_step_X3_insert : GoodIn wsX3_step wsX3_insert := goodIn_r _ [68, 3, 11, 12, 13, 14, 7, 15, 27, 28, 29, 30, 26, 31, 9, 32, 33, 34, 35, 36, 37, 38, 39, 22, 23, 24, 25, 40, 41, 42, 43, 44, 45, 46, 47, 48, 49, 50, 51, 52, 53, 54, 55, 56, 57, 58, 59, 60, 61, 62, 63, 64, 69, 70, 71, 72, 73, 74, 75, 76, 77, 78, 79, 80] (by decide +kernel) (by decide +kernel)
set_option maxRecDepth 20000 in
theorem gX3_step_X3_insert : GoodIn wsX3_step (wsV RX3 104 RX3 yX3_insert wsX3_insert) := goodIn_app (goodIn_of _ (by decide +kernel)) ggX3_step_X3_insert
theorem dX3_step_0 : decode cX3_step 0 = .ok (.aload_n 0, 1) := by decide +kernel
theorem dX3_step_1 : decode cX3_step 1 = .ok (.getfield 32, 3) := by decide +kernel
theorem dX3_step_4 : decode cX3_step 4 = .ok (.iconst 4, 1) := by decide +kernel
theorem dX3_step_5 : decode cX3_step 5 = .ok (.if_icmp .eq 15, 3) := by decide +kernel
theorem dX3_step_8 : decode cX3_step 8 = .ok (.aload_n 0, 1) := by decide +kernel
theorem dX3_step_9 : decode cX3_step 9 = .ok (.getfield 32, 3) := by decide +kernel
theorem dX3_step_12 : decode cX3_step 12 = .ok (.ifCond .eq 8, 3) := by decide +kernel
theorem dX3_step_15 : decode cX3_step 15 = .ok (.aload_n 0, 1) := by decide +kernel
theorem dX3_step_16 : decode cX3_step 16 = .ok (.getfield 32, 3) := by decide +kernel
theorem dX3_step_19 : decode cX3_step 19 = .ok (.ireturn, 1) := by decide +kernel
theorem dX3_step_20 : decode cX3_step 20 = .ok (.aload_n 0, 1) := by decide +kernel
theorem dX3_step_21 : decode cX3_step 21 = .ok (.aload_n 0, 1) := by decide +kernel
theorem dX3_step_22 : decode cX3_step 22 = .ok (.getfield 35, 3) := by decide +kernel
theorem dX3_step_25 : decode cX3_step 25 = .ok (.aload_n 0, 1) := by decide +kernel
theorem dX3_step_26 : decode cX3_step 26 = .ok (.getfield 19, 3) := by decide +kernel
theorem dX3_step_29 : decode cX3_step 29 = .ok (.if_icmp .ge 14, 3) := by decide +kernel
theorem dX3_step_32 : decode cX3_step 32 = .ok (.aload_n 0, 1) := by decide +kernel
theorem dX3_step_33 : decode cX3_step 33 = .ok (.aload_n 0, 1) := by decide +kernel
theorem dX3_step_34 : decode cX3_step 34 = .ok (.getfield 35, 3) := by decide +kernel
theorem dX3_step_37 : decode cX3_step 37 = .ok (.invokevirtual 101, 3) := by decide +kernel
theorem dX3_step_40 : decode cX3_step 40 = .ok (.goto 20, 3) := by decide +kernel
theorem dX3_step_43 : decode cX3_step 43 = .ok (.aload_n 0, 1) := by decide +kernel
theorem dX3_step_44 : decode cX3_step 44 = .ok (.iconst 2, 1) := by decide +kernel
theorem dX3_step_45 : decode cX3_step 45 = .ok (.aload_n 0, 1) := by decide +kernel
theorem dX3_step_46 : decode cX3_step 46 = .ok (.getfield 19, 3) := by decide +kernel
theorem dX3_step_49 : decode cX3_step 49 = .ok (.imul, 1) := by decide +kernel
theorem dX3_step_50 : decode cX3_step 50 = .ok (.iconst 1, 1) := by decide +kernel
theorem dX3_step_51 : decode cX3_step 51 = .ok (.isub, 1) := by decide +kernel
theorem dX3_step_52 : decode cX3_step 52 = .ok (.aload_n 0, 1) := by decide +kernel
theorem dX3_step_53 : decode cX3_step 53 = .ok (.getfield 35, 3) := by decide +kernel
theorem dX3_step_56 : decode cX3_step 56 = .ok (.isub, 1) := by decide +kernel
theorem dX3_step_57 : decode cX3_step 57 = .ok (.invokevirtual 104, 3) := by decide +kernel
theorem dX3_step_60 : decode cX3_step 60 = .ok (.putfield 32, 3) := by decide +kernel
theorem dX3_step_63 : decode cX3_step 63 = .ok (.aload_n 0, 1) := by decide +kernel
theorem dX3_step_64 : decode cX3_step 64 = .ok (.dup, 1) := by decide +kernel
theorem dX3_step_65 : decode cX3_step 65 = .ok (.getfield 35, 3) := by decide +kernel
theorem dX3_step_68 : decode cX3_step 68 = .ok (.iconst 1, 1) := by decide +kernel
theorem dX3_step_69 : decode cX3_step 69 = .ok (.iadd, 1) := by decide +kernel
theorem dX3_step_70 : decode cX3_step 70 = .ok (.putfield 35, 3) := by decide +kernel
theorem dX3_step_73 : decode cX3_step 73 = .ok (.aload_n 0, 1) := by decide +kernel
theorem dX3_step_74 : decode cX3_step 74 = .ok (.getfield 32, 3) := by decide +kernel
theorem dX3_step_77 : decode cX3_step 77 = .ok (.ireturn, 1) := by decide +kernel
theorem dX3_status_0 : decode cX3_status 0 = .ok (.aload_n 0, 1) := by decide +kernel
theorem dX3_status_1 : decode cX3_status 1 = .ok (.getfield 32, 3) := by decide +kernel
theorem dX3_status_4 : decode cX3_status 4 = .ok (.ireturn, 1) := by decide +kernel
theorem dX3_steps_0 : decode cX3_steps 0 = .ok (.aload_n 0, 1) := by decide +kernel
theorem dX3_steps_1 : decode cX3_steps 1 = .ok (.getfield 35, 3) := by decide +kernel
theorem dX3_steps_4 : decode cX3_steps 4 = .ok (.ireturn, 1) := by decide +kernel
set_option maxRecDepth 20000 in
theorem ggX3_told_X3_count : GoodIn wsX3_told wsX3_count := goodIn_r _ [7, 2, 8, 9, 10, 11, 12, 13, 14, 15, 16, 17, 18, 19] (by decide +kernel) (by decide +kernel)
set_option maxRecDepth 20000 in
theorem gX3_told_X3_count : GoodIn wsX3_told (wsV RX3 63 RX3 yX3_count wsX3_count) := goodIn_app (goodIn_of _ (by decide +kernel)) ggX3_told_X3_count
theorem dX3_told_0 : decode cX3_told 0 = .ok (.aload_n 0, 1) := by decide +kernel
theorem dX3_told_1 : decode cX3_told 1 = .ok (.iload_n 1, 1) := by decide +kernel
theorem dX3_told_2 : decode cX3_told 2 = .ok (.invokevirtual 63, 3) := by decide +kernel
theorem dX3_told_5 : decode cX3_told 5 = .ok (.istore 4, 2) := by decide +kernel
theorem dX3_told_7 : decode cX3_told 7 = .ok (.iload_n 2, 1) := by decide +kernel
theorem dX3_told_8 : decode cX3_told 8 = .ok (.bipush (-2), 2) := by decide +kernel
theorem dX3_told_10 : decode cX3_told 10 = .ok (.if_icmp .ne 14, 3) := by decide +kernel
theorem dX3_told_13 : decode cX3_told 13 = .ok (.iload_n 3, 1) := by decide +kernel
theorem dX3_told_14 : decode cX3_told 14 = .ok (.aload_n 0, 1) := by decide +kernel
theorem dX3_told_15 : decode cX3_told 15 = .ok (.getfield 13, 3) := by decide +kernel
theorem dX3_told_18 : decode cX3_told 18 = .ok (.iload_n 1, 1) := by decide +kernel
theorem dX3_told_19 : decode cX3_told 19 = .ok (.iaload, 1) := by decide +kernel
theorem dX3_told_20 : decode cX3_told 20 = .ok (.imul, 1) := by decide +kernel
theorem dX3_told_21 : decode cX3_told 21 = .ok (.goto 38, 3) := by decide +kernel
theorem dX3_told_24 : decode cX3_told 24 = .ok (.iload_n 2, 1) := by decide +kernel
theorem dX3_told_25 : decode cX3_told 25 = .ok (.iconst (-1), 1) := by decide +kernel
theorem dX3_told_26 : decode cX3_told 26 = .ok (.if_icmp .ne 8, 3) := by decide +kernel
theorem dX3_told_29 : decode cX3_told 29 = .ok (.iload 4, 2) := by decide +kernel
theorem dX3_told_31 : decode cX3_told 31 = .ok (.goto 28, 3) := by decide +kernel
theorem dX3_told_34 : decode cX3_told 34 = .ok (.iload_n 2, 1) := by decide +kernel
theorem dX3_told_35 : decode cX3_told 35 = .ok (.ifCond .lt 23, 3) := by decide +kernel
theorem dX3_told_38 : decode cX3_told 38 = .ok (.iload_n 2, 1) := by decide +kernel
theorem dX3_told_39 : decode cX3_told 39 = .ok (.iload 4, 2) := by decide +kernel
theorem dX3_told_41 : decode cX3_told 41 = .ok (.if_icmp .ge 17, 3) := by decide +kernel
theorem dX3_told_44 : decode cX3_told 44 = .ok (.aload_n 0, 1) := by decide +kernel
theorem dX3_told_45 : decode cX3_told 45 = .ok (.getfield 7, 3) := by decide +kernel
theorem dX3_told_48 : decode cX3_told 48 = .ok (.bipush 40, 2) := by decide +kernel
theorem dX3_told_50 : decode cX3_told 50 = .ok (.iload_n 1, 1) := by decide +kernel
theorem dX3_told_51 : decode cX3_told 51 = .ok (.imul, 1) := by decide +kernel
theorem dX3_told_52 : decode cX3_told 52 = .ok (.iload_n 2, 1) := by decide +kernel
theorem dX3_told_53 : decode cX3_told 53 = .ok (.iadd, 1) := by decide +kernel
theorem dX3_told_54 : decode cX3_told 54 = .ok (.iaload, 1) := by decide +kernel
theorem dX3_told_55 : decode cX3_told 55 = .ok (.goto 4, 3) := by decide +kernel
theorem dX3_told_58 : decode cX3_told 58 = .ok (.iconst (-1), 1) := by decide +kernel
theorem dX3_told_59 : decode cX3_told 59 = .ok (.ireturn, 1) := by decide +kernel
set_option maxRecDepth 20000 in
theorem ggX3_determinant_X3_place : GoodIn wsX3_determinant wsX3_place := goodIn_r _ [8, 2, 19, 20, 21, 22, 23, 24, 25, 26, 27, 28, 29, 30] (by decide +kernel) (by decide +kernel)
set_option maxRecDepth 20000 in
theorem gX3_determinant_X3_place : GoodIn wsX3_determinant (wsV RX3 49 RX3 yX3_place wsX3_place) := goodIn_app (goodIn_of _ (by decide +kernel)) ggX3_determinant_X3_place
set_option maxRecDepth 20000 in
theorem ggX3_determinant_X3_told : GoodIn wsX3_determinant wsX3_told := goodIn_r _ [12, 13, 14, 15, 16, 17, 7, 18, 19, 20, 21, 22, 23, 24, 25, 26, 27, 28, 29, 30] (by decide +kernel) (by decide +kernel)
set_option maxRecDepth 20000 in
theorem gX3_determinant_X3_told : GoodIn wsX3_determinant (wsV RX3 107 RX3 yX3_told wsX3_told) := goodIn_app (goodIn_of _ (by decide +kernel)) ggX3_determinant_X3_told
theorem dX3_determinant_0 : decode cX3_determinant 0 = .ok (.aload_n 0, 1) := by decide +kernel
theorem dX3_determinant_1 : decode cX3_determinant 1 = .ok (.getfield 32, 3) := by decide +kernel
theorem dX3_determinant_4 : decode cX3_determinant 4 = .ok (.iconst 2, 1) := by decide +kernel
theorem dX3_determinant_5 : decode cX3_determinant 5 = .ok (.if_icmp .ne 20, 3) := by decide +kernel
theorem dX3_determinant_8 : decode cX3_determinant 8 = .ok (.iload_n 1, 1) := by decide +kernel
theorem dX3_determinant_9 : decode cX3_determinant 9 = .ok (.bipush (-2), 2) := by decide +kernel
theorem dX3_determinant_11 : decode cX3_determinant 11 = .ok (.if_icmp .eq 8, 3) := by decide +kernel
theorem dX3_determinant_14 : decode cX3_determinant 14 = .ok (.iload_n 1, 1) := by decide +kernel
theorem dX3_determinant_15 : decode cX3_determinant 15 = .ok (.iconst (-1), 1) := by decide +kernel
theorem dX3_determinant_16 : decode cX3_determinant 16 = .ok (.if_icmp .ne 7, 3) := by decide +kernel
theorem dX3_determinant_19 : decode cX3_determinant 19 = .ok (.iconst 0, 1) := by decide +kernel
theorem dX3_determinant_20 : decode cX3_determinant 20 = .ok (.goto 4, 3) := by decide +kernel
theorem dX3_determinant_23 : decode cX3_determinant 23 = .ok (.iconst (-1), 1) := by decide +kernel
theorem dX3_determinant_24 : decode cX3_determinant 24 = .ok (.ireturn, 1) := by decide +kernel
theorem dX3_determinant_25 : decode cX3_determinant 25 = .ok (.aload_n 0, 1) := by decide +kernel
theorem dX3_determinant_26 : decode cX3_determinant 26 = .ok (.getfield 32, 3) := by decide +kernel
theorem dX3_determinant_29 : decode cX3_determinant 29 = .ok (.iconst 1, 1) := by decide +kernel
theorem dX3_determinant_30 : decode cX3_determinant 30 = .ok (.if_icmp .ne 39, 3) := by decide +kernel
theorem dX3_determinant_33 : decode cX3_determinant 33 = .ok (.aload_n 0, 1) := by decide +kernel
theorem dX3_determinant_34 : decode cX3_determinant 34 = .ok (.aload_n 0, 1) := by decide +kernel
theorem dX3_determinant_35 : decode cX3_determinant 35 = .ok (.aload_n 0, 1) := by decide +kernel
theorem dX3_determinant_36 : decode cX3_determinant 36 = .ok (.getfield 19, 3) := by decide +kernel
theorem dX3_determinant_39 : decode cX3_determinant 39 = .ok (.iconst 1, 1) := by decide +kernel
theorem dX3_determinant_40 : decode cX3_determinant 40 = .ok (.isub, 1) := by decide +kernel
theorem dX3_determinant_41 : decode cX3_determinant 41 = .ok (.aload_n 0, 1) := by decide +kernel
theorem dX3_determinant_42 : decode cX3_determinant 42 = .ok (.getfield 19, 3) := by decide +kernel
theorem dX3_determinant_45 : decode cX3_determinant 45 = .ok (.iconst 1, 1) := by decide +kernel
theorem dX3_determinant_46 : decode cX3_determinant 46 = .ok (.isub, 1) := by decide +kernel
theorem dX3_determinant_47 : decode cX3_determinant 47 = .ok (.invokevirtual 49, 3) := by decide +kernel
theorem dX3_determinant_50 : decode cX3_determinant 50 = .ok (.iload_n 1, 1) := by decide +kernel
theorem dX3_determinant_51 : decode cX3_determinant 51 = .ok (.aload_n 0, 1) := by decide +kernel
theorem dX3_determinant_52 : decode cX3_determinant 52 = .ok (.getfield 41, 3) := by decide +kernel
theorem dX3_determinant_55 : decode cX3_determinant 55 = .ok (.ifCond .eq 7, 3) := by decide +kernel
theorem dX3_determinant_58 : decode cX3_determinant 58 = .ok (.iconst (-1), 1) := by decide +kernel
theorem dX3_determinant_59 : decode cX3_determinant 59 = .ok (.goto 4, 3) := by decide +kernel
theorem dX3_determinant_62 : decode cX3_determinant 62 = .ok (.iconst 1, 1) := by decide +kernel
theorem dX3_determinant_63 : decode cX3_determinant 63 = .ok (.invokevirtual 107, 3) := by decide +kernel
theorem dX3_determinant_66 : decode cX3_determinant 66 = .ok (.goto 4, 3) := by decide +kernel
theorem dX3_determinant_69 : decode cX3_determinant 69 = .ok (.iconst (-1), 1) := by decide +kernel
theorem dX3_determinant_70 : decode cX3_determinant 70 = .ok (.ireturn, 1) := by decide +kernel
set_option maxRecDepth 20000 in
theorem ggX3_numerator_X3_told : GoodIn wsX3_numerator wsX3_told := goodIn_r _ [8, 9, 10, 11, 12, 13, 7, 14, 15, 16, 17, 18, 19, 20, 21, 22, 23, 24, 25, 26] (by decide +kernel) (by decide +kernel)
set_option maxRecDepth 20000 in
theorem gX3_numerator_X3_told : GoodIn wsX3_numerator (wsV RX3 107 RX3 yX3_told wsX3_told) := goodIn_app (goodIn_of _ (by decide +kernel)) ggX3_numerator_X3_told
theorem dX3_numerator_0 : decode cX3_numerator 0 = .ok (.aload_n 0, 1) := by decide +kernel
theorem dX3_numerator_1 : decode cX3_numerator 1 = .ok (.getfield 32, 3) := by decide +kernel
theorem dX3_numerator_4 : decode cX3_numerator 4 = .ok (.iconst 1, 1) := by decide +kernel
theorem dX3_numerator_5 : decode cX3_numerator 5 = .ok (.if_icmp .ne 39, 3) := by decide +kernel
theorem dX3_numerator_8 : decode cX3_numerator 8 = .ok (.iload_n 1, 1) := by decide +kernel
theorem dX3_numerator_9 : decode cX3_numerator 9 = .ok (.ifCond .lt 35, 3) := by decide +kernel
theorem dX3_numerator_12 : decode cX3_numerator 12 = .ok (.iload_n 1, 1) := by decide +kernel
theorem dX3_numerator_13 : decode cX3_numerator 13 = .ok (.aload_n 0, 1) := by decide +kernel
theorem dX3_numerator_14 : decode cX3_numerator 14 = .ok (.getfield 19, 3) := by decide +kernel
theorem dX3_numerator_17 : decode cX3_numerator 17 = .ok (.if_icmp .ge 27, 3) := by decide +kernel
theorem dX3_numerator_20 : decode cX3_numerator 20 = .ok (.aload_n 0, 1) := by decide +kernel
theorem dX3_numerator_21 : decode cX3_numerator 21 = .ok (.bipush 42, 2) := by decide +kernel
theorem dX3_numerator_23 : decode cX3_numerator 23 = .ok (.iload_n 1, 1) := by decide +kernel
theorem dX3_numerator_24 : decode cX3_numerator 24 = .ok (.iadd, 1) := by decide +kernel
theorem dX3_numerator_25 : decode cX3_numerator 25 = .ok (.iload_n 2, 1) := by decide +kernel
