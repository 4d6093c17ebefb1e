theorem dX0_init_0 : decode cX0_init 0 = .ok (.aload_n 0, 1) := by decide +kernel
theorem dX0_init_1 : decode cX0_init 1 = .ok (.invokespecial 3, 3) := by decide +kernel
theorem dX0_init_4 : decode cX0_init 4 = .ok (.aload_n 0, 1) := by decide +kernel
theorem dX0_init_5 : decode cX0_init 5 = .ok (.iload_n 2, 1) := by decide +kernel
theorem dX0_init_6 : decode cX0_init 6 = .ok (.putfield 9, 3) := by decide +kernel
theorem dX0_init_9 : decode cX0_init 9 = .ok (.aload_n 0, 1) := by decide +kernel
theorem dX0_init_10 : decode cX0_init 10 = .ok (.iload_n 1, 1) := by decide +kernel
theorem dX0_init_11 : decode cX0_init 11 = .ok (.newarray .int, 2) := by decide +kernel
theorem dX0_init_13 : decode cX0_init 13 = .ok (.putfield 15, 3) := by decide +kernel
theorem dX0_init_16 : decode cX0_init 16 = .ok (.aload_n 0, 1) := by decide +kernel
theorem dX0_init_17 : decode cX0_init 17 = .ok (.iload_n 1, 1) := by decide +kernel
theorem dX0_init_18 : decode cX0_init 18 = .ok (.newarray .int, 2) := by decide +kernel
theorem dX0_init_20 : decode cX0_init 20 = .ok (.putfield 19, 3) := by decide +kernel
theorem dX0_init_23 : decode cX0_init 23 = .ok (.aload_n 0, 1) := by decide +kernel
theorem dX0_init_24 : decode cX0_init 24 = .ok (.iload_n 1, 1) := by decide +kernel
theorem dX0_init_25 : decode cX0_init 25 = .ok (.iload_n 2, 1) := by decide +kernel
theorem dX0_init_26 : decode cX0_init 26 = .ok (.imul, 1) := by decide +kernel
theorem dX0_init_27 : decode cX0_init 27 = .ok (.newarray .int, 2) := by decide +kernel
theorem dX0_init_29 : decode cX0_init 29 = .ok (.putfield 22, 3) := by decide +kernel
theorem dX0_init_32 : decode cX0_init 32 = .ok (.return_, 1) := by decide +kernel
set_option maxRecDepth 20000 in
theorem ggX0_clearAll_J7_fill_53178 : GoodIn wsX0_clearAll wsJ7_fill_53178 := goodIn_r _ [6] (by decide +kernel) (by decide +kernel)
set_option maxRecDepth 20000 in
theorem gX0_clearAll_J7_fill_53178 : GoodIn wsX0_clearAll (va_wsS RX0 25 yJ7_fill_53178 wsJ7_fill_53178) := goodIn_app (goodIn_of _ (by decide +kernel)) ggX0_clearAll_J7_fill_53178
theorem dX0_clearAll_0 : decode cX0_clearAll 0 = .ok (.aload_n 0, 1) := by decide +kernel
theorem dX0_clearAll_1 : decode cX0_clearAll 1 = .ok (.getfield 15, 3) := by decide +kernel
theorem dX0_clearAll_4 : decode cX0_clearAll 4 = .ok (.iconst 0, 1) := by decide +kernel
theorem dX0_clearAll_5 : decode cX0_clearAll 5 = .ok (.invokestatic 25, 3) := by decide +kernel
theorem dX0_clearAll_8 : decode cX0_clearAll 8 = .ok (.aload_n 0, 1) := by decide +kernel
theorem dX0_clearAll_9 : decode cX0_clearAll 9 = .ok (.getfield 19, 3) := by decide +kernel
theorem dX0_clearAll_12 : decode cX0_clearAll 12 = .ok (.iconst 0, 1) := by decide +kernel
theorem dX0_clearAll_13 : decode cX0_clearAll 13 = .ok (.invokestatic 25, 3) := by decide +kernel
theorem dX0_clearAll_16 : decode cX0_clearAll 16 = .ok (.return_, 1) := by decide +kernel
theorem dX0_clear_0 : decode cX0_clear 0 = .ok (.aload_n 0, 1) := by decide +kernel
theorem dX0_clear_1 : decode cX0_clear 1 = .ok (.getfield 15, 3) := by decide +kernel
theorem dX0_clear_4 : decode cX0_clear 4 = .ok (.iload_n 1, 1) := by decide +kernel
theorem dX0_clear_5 : decode cX0_clear 5 = .ok (.iconst 0, 1) := by decide +kernel
theorem dX0_clear_6 : decode cX0_clear 6 = .ok (.iastore, 1) := by decide +kernel
theorem dX0_clear_7 : decode cX0_clear 7 = .ok (.aload_n 0, 1) := by decide +kernel
theorem dX0_clear_8 : decode cX0_clear 8 = .ok (.getfield 19, 3) := by decide +kernel
theorem dX0_clear_11 : decode cX0_clear 11 = .ok (.iload_n 1, 1) := by decide +kernel
theorem dX0_clear_12 : decode cX0_clear 12 = .ok (.iconst 0, 1) := by decide +kernel
theorem dX0_clear_13 : decode cX0_clear 13 = .ok (.iastore, 1) := by decide +kernel
theorem dX0_clear_14 : decode cX0_clear 14 = .ok (.return_, 1) := by decide +kernel
theorem dX0_signOf_0 : decode cX0_signOf 0 = .ok (.aload_n 0, 1) := by decide +kernel
theorem dX0_signOf_1 : decode cX0_signOf 1 = .ok (.getfield 15, 3) := by decide +kernel
theorem dX0_signOf_4 : decode cX0_signOf 4 = .ok (.iload_n 1, 1) := by decide +kernel
theorem dX0_signOf_5 : decode cX0_signOf 5 = .ok (.iaload, 1) := by decide +kernel
theorem dX0_signOf_6 : decode cX0_signOf 6 = .ok (.ireturn, 1) := by decide +kernel
theorem dX0_lengthOf_0 : decode cX0_lengthOf 0 = .ok (.aload_n 0, 1) := by decide +kernel
theorem dX0_lengthOf_1 : decode cX0_lengthOf 1 = .ok (.getfield 19, 3) := by decide +kernel
theorem dX0_lengthOf_4 : decode cX0_lengthOf 4 = .ok (.iload_n 1, 1) := by decide +kernel
theorem dX0_lengthOf_5 : decode cX0_lengthOf 5 = .ok (.iaload, 1) := by decide +kernel
theorem dX0_lengthOf_6 : decode cX0_lengthOf 6 = .ok (.ireturn, 1) := by decide +kernel
theorem dX0_limbOf_0 : decode cX0_limbOf 0 = .ok (.aload_n 0, 1) := by decide +kernel
theorem dX0_limbOf_1 : decode cX0_limbOf 1 = .ok (.getfield 22, 3) := by decide +kernel
theorem dX0_limbOf_4 : decode cX0_limbOf 4 = .ok (.iload_n 1, 1) := by decide +kernel
theorem dX0_limbOf_5 : decode cX0_limbOf 5 = .ok (.aload_n 0, 1) := by decide +kernel
theorem dX0_limbOf_6 : decode cX0_limbOf 6 = .ok (.getfield 9, 3) := by decide +kernel
theorem dX0_limbOf_9 : decode cX0_limbOf 9 = .ok (.imul, 1) := by decide +kernel
theorem dX0_limbOf_10 : decode cX0_limbOf 10 = .ok (.iload_n 2, 1) := by decide +kernel
theorem dX0_limbOf_11 : decode cX0_limbOf 11 = .ok (.iadd, 1) := by decide +kernel
theorem dX0_limbOf_12 : decode cX0_limbOf 12 = .ok (.iaload, 1) := by decide +kernel
theorem dX0_limbOf_13 : decode cX0_limbOf 13 = .ok (.ireturn, 1) := by decide +kernel
theorem dX0_putLimb_0 : decode cX0_putLimb 0 = .ok (.aload_n 0, 1) := by decide +kernel
theorem dX0_putLimb_1 : decode cX0_putLimb 1 = .ok (.getfield 22, 3) := by decide +kernel
theorem dX0_putLimb_4 : decode cX0_putLimb 4 = .ok (.iload_n 1, 1) := by decide +kernel
theorem dX0_putLimb_5 : decode cX0_putLimb 5 = .ok (.aload_n 0, 1) := by decide +kernel
theorem dX0_putLimb_6 : decode cX0_putLimb 6 = .ok (.getfield 9, 3) := by decide +kernel
theorem dX0_putLimb_9 : decode cX0_putLimb 9 = .ok (.imul, 1) := by decide +kernel
theorem dX0_putLimb_10 : decode cX0_putLimb 10 = .ok (.iload_n 2, 1) := by decide +kernel
theorem dX0_putLimb_11 : decode cX0_putLimb 11 = .ok (.iadd, 1) := by decide +kernel
theorem dX0_putLimb_12 : decode cX0_putLimb 12 = .ok (.iload_n 3, 1) := by decide +kernel
theorem dX0_putLimb_13 : decode cX0_putLimb 13 = .ok (.iastore, 1) := by decide +kernel
theorem dX0_putLimb_14 : decode cX0_putLimb 14 = .ok (.iload_n 3, 1) := by decide +kernel
theorem dX0_putLimb_15 : decode cX0_putLimb 15 = .ok (.ifCond .eq 20, 3) := by decide +kernel
theorem dX0_putLimb_18 : decode cX0_putLimb 18 = .ok (.aload_n 0, 1) := by decide +kernel
theorem dX0_putLimb_19 : decode cX0_putLimb 19 = .ok (.getfield 19, 3) := by decide +kernel
theorem dX0_putLimb_22 : decode cX0_putLimb 22 = .ok (.iload_n 1, 1) := by decide +kernel
theorem dX0_putLimb_23 : decode cX0_putLimb 23 = .ok (.iload_n 2, 1) := by decide +kernel
theorem dX0_putLimb_24 : decode cX0_putLimb 24 = .ok (.iconst 1, 1) := by decide +kernel
theorem dX0_putLimb_25 : decode cX0_putLimb 25 = .ok (.iadd, 1) := by decide +kernel
theorem dX0_putLimb_26 : decode cX0_putLimb 26 = .ok (.iastore, 1) := by decide +kernel
theorem dX0_putLimb_27 : decode cX0_putLimb 27 = .ok (.aload_n 0, 1) := by decide +kernel
theorem dX0_putLimb_28 : decode cX0_putLimb 28 = .ok (.getfield 15, 3) := by decide +kernel
theorem dX0_putLimb_31 : decode cX0_putLimb 31 = .ok (.iload_n 1, 1) := by decide +kernel
theorem dX0_putLimb_32 : decode cX0_putLimb 32 = .ok (.iload 4, 2) := by decide +kernel
theorem dX0_putLimb_34 : decode cX0_putLimb 34 = .ok (.iastore, 1) := by decide +kernel
theorem dX0_putLimb_35 : decode cX0_putLimb 35 = .ok (.return_, 1) := by decide +kernel
theorem dX0_put_0 : decode cX0_put 0 = .ok (.aload_n 2, 1) := by decide +kernel
theorem dX0_put_1 : decode cX0_put 1 = .ok (.iconst 0, 1) := by decide +kernel
theorem dX0_put_2 : decode cX0_put 2 = .ok (.aload_n 0, 1) := by decide +kernel
theorem dX0_put_3 : decode cX0_put 3 = .ok (.getfield 22, 3) := by decide +kernel
theorem dX0_put_6 : decode cX0_put 6 = .ok (.iload_n 1, 1) := by decide +kernel
theorem dX0_put_7 : decode cX0_put 7 = .ok (.aload_n 0, 1) := by decide +kernel
theorem dX0_put_8 : decode cX0_put 8 = .ok (.getfield 9, 3) := by decide +kernel
theorem dX0_put_11 : decode cX0_put 11 = .ok (.imul, 1) := by decide +kernel
theorem dX0_put_12 : decode cX0_put 12 = .ok (.iload_n 3, 1) := by decide +kernel
theorem dX0_put_13 : decode cX0_put 13 = .ok (.invokestatic 31, 3) := by decide +kernel
theorem dX0_put_16 : decode cX0_put 16 = .ok (.aload_n 0, 1) := by decide +kernel
theorem dX0_put_17 : decode cX0_put 17 = .ok (.getfield 19, 3) := by decide +kernel
theorem dX0_put_20 : decode cX0_put 20 = .ok (.iload_n 1, 1) := by decide +kernel
theorem dX0_put_21 : decode cX0_put 21 = .ok (.iload_n 3, 1) := by decide +kernel
theorem dX0_put_22 : decode cX0_put 22 = .ok (.iastore, 1) := by decide +kernel
theorem dX0_put_23 : decode cX0_put 23 = .ok (.aload_n 0, 1) := by decide +kernel
theorem dX0_put_24 : decode cX0_put 24 = .ok (.getfield 15, 3) := by decide +kernel
theorem dX0_put_27 : decode cX0_put 27 = .ok (.iload_n 1, 1) := by decide +kernel
theorem dX0_put_28 : decode cX0_put 28 = .ok (.iload 4, 2) := by decide +kernel
theorem dX0_put_30 : decode cX0_put 30 = .ok (.iastore, 1) := by decide +kernel
theorem dX0_put_31 : decode cX0_put 31 = .ok (.return_, 1) := by decide +kernel
theorem dX0_copy_0 : decode cX0_copy 0 = .ok (.aload_n 2, 1) := by decide +kernel
theorem dX0_copy_1 : decode cX0_copy 1 = .ok (.getfield 22, 3) := by decide +kernel
theorem dX0_copy_4 : decode cX0_copy 4 = .ok (.iload_n 3, 1) := by decide +kernel
theorem dX0_copy_5 : decode cX0_copy 5 = .ok (.aload_n 0, 1) := by decide +kernel
theorem dX0_copy_6 : decode cX0_copy 6 = .ok (.getfield 9, 3) := by decide +kernel
theorem dX0_copy_9 : decode cX0_copy 9 = .ok (.imul, 1) := by decide +kernel
theorem dX0_copy_10 : decode cX0_copy 10 = .ok (.aload_n 0, 1) := by decide +kernel
theorem dX0_copy_11 : decode cX0_copy 11 = .ok (.getfield 22, 3) := by decide +kernel
theorem dX0_copy_14 : decode cX0_copy 14 = .ok (.iload_n 1, 1) := by decide +kernel
theorem dX0_copy_15 : decode cX0_copy 15 = .ok (.aload_n 0, 1) := by decide +kernel
theorem dX0_copy_16 : decode cX0_copy 16 = .ok (.getfield 9, 3) := by decide +kernel
theorem dX0_copy_19 : decode cX0_copy 19 = .ok (.imul, 1) := by decide +kernel
theorem dX0_copy_20 : decode cX0_copy 20 = .ok (.aload_n 2, 1) := by decide +kernel
theorem dX0_copy_21 : decode cX0_copy 21 = .ok (.getfield 19, 3) := by decide +kernel
theorem dX0_copy_24 : decode cX0_copy 24 = .ok (.iload_n 3, 1) := by decide +kernel
theorem dX0_copy_25 : decode cX0_copy 25 = .ok (.iaload, 1) := by decide +kernel
theorem dX0_copy_26 : decode cX0_copy 26 = .ok (.invokestatic 31, 3) := by decide +kernel
theorem dX0_copy_29 : decode cX0_copy 29 = .ok (.aload_n 0, 1) := by decide +kernel
theorem dX0_copy_30 : decode cX0_copy 30 = .ok (.getfield 19, 3) := by decide +kernel
theorem dX0_copy_33 : decode cX0_copy 33 = .ok (.iload_n 1, 1) := by decide +kernel
theorem dX0_copy_34 : decode cX0_copy 34 = .ok (.aload_n 2, 1) := by decide +kernel
theorem dX0_copy_35 : decode cX0_copy 35 = .ok (.getfield 19, 3) := by decide +kernel
theorem dX0_copy_38 : decode cX0_copy 38 = .ok (.iload_n 3, 1) := by decide +kernel
theorem dX0_copy_39 : decode cX0_copy 39 = .ok (.iaload, 1) := by decide +kernel
theorem dX0_copy_40 : decode cX0_copy 40 = .ok (.iastore, 1) := by decide +kernel
theorem dX0_copy_41 : decode cX0_copy 41 = .ok (.aload_n 0, 1) := by decide +kernel
theorem dX0_copy_42 : decode cX0_copy 42 = .ok (.getfield 15, 3) := by decide +kernel
theorem dX0_copy_45 : decode cX0_copy 45 = .ok (.iload_n 1, 1) := by decide +kernel
theorem dX0_copy_46 : decode cX0_copy 46 = .ok (.aload_n 2, 1) := by decide +kernel
theorem dX0_copy_47 : decode cX0_copy 47 = .ok (.getfield 15, 3) := by decide +kernel
theorem dX0_copy_50 : decode cX0_copy 50 = .ok (.iload_n 3, 1) := by decide +kernel
theorem dX0_copy_51 : decode cX0_copy 51 = .ok (.iaload, 1) := by decide +kernel
theorem dX0_copy_52 : decode cX0_copy 52 = .ok (.iastore, 1) := by decide +kernel
theorem dX0_copy_53 : decode cX0_copy 53 = .ok (.return_, 1) := by decide +kernel
theorem dX0_negate_0 : decode cX0_negate 0 = .ok (.aload_n 0, 1) := by decide +kernel
theorem dX0_negate_1 : decode cX0_negate 1 = .ok (.getfield 15, 3) := by decide +kernel
theorem dX0_negate_4 : decode cX0_negate 4 = .ok (.iload_n 1, 1) := by decide +kernel
theorem dX0_negate_5 : decode cX0_negate 5 = .ok (.aload_n 0, 1) := by decide +kernel
theorem dX0_negate_6 : decode cX0_negate 6 = .ok (.getfield 15, 3) := by decide +kernel
theorem dX0_negate_9 : decode cX0_negate 9 = .ok (.iload_n 1, 1) := by decide +kernel
theorem dX0_negate_10 : decode cX0_negate 10 = .ok (.iaload, 1) := by decide +kernel
theorem dX0_negate_11 : decode cX0_negate 11 = .ok (.ineg, 1) := by decide +kernel
theorem dX0_negate_12 : decode cX0_negate 12 = .ok (.iastore, 1) := by decide +kernel
theorem dX0_negate_13 : decode cX0_negate 13 = .ok (.return_, 1) := by decide +kernel
set_option maxRecDepth 20000 in
theorem ggX0_tell_X0_limbOf : GoodIn wsX0_tell wsX0_limbOf := goodIn_r _ [7, 8, 9, 10, 11, 12, 13] (by decide +kernel) (by decide +kernel)
set_option maxRecDepth 20000 in
theorem gX0_tell_X0_limbOf : GoodIn wsX0_tell (wsV RX0 37 RX0 yX0_limbOf wsX0_limbOf) := goodIn_app (goodIn_of _ (by decide +kernel)) ggX0_tell_X0_limbOf
theorem dX0_tell_0 : decode cX0_tell 0 = .ok (.iload_n 2, 1) := by decide +kernel
theorem dX0_tell_1 : decode cX0_tell 1 = .ok (.bipush (-2), 2) := by decide +kernel
theorem dX0_tell_3 : decode cX0_tell 3 = .ok (.if_icmp .ne 10, 3) := by decide +kernel
theorem dX0_tell_6 : decode cX0_tell 6 = .ok (.aload_n 0, 1) := by decide +kernel
theorem dX0_tell_7 : decode cX0_tell 7 = .ok (.getfield 15, 3) := by decide +kernel
theorem dX0_tell_10 : decode cX0_tell 10 = .ok (.iload_n 1, 1) := by decide +kernel
theorem dX0_tell_11 : decode cX0_tell 11 = .ok (.iaload, 1) := by decide +kernel
theorem dX0_tell_12 : decode cX0_tell 12 = .ok (.ireturn, 1) := by decide +kernel
theorem dX0_tell_13 : decode cX0_tell 13 = .ok (.iload_n 2, 1) := by decide +kernel
theorem dX0_tell_14 : decode cX0_tell 14 = .ok (.iconst (-1), 1) := by decide +kernel
theorem dX0_tell_15 : decode cX0_tell 15 = .ok (.if_icmp .ne 10, 3) := by decide +kernel
theorem dX0_tell_18 : decode cX0_tell 18 = .ok (.aload_n 0, 1) := by decide +kernel
theorem dX0_tell_19 : decode cX0_tell 19 = .ok (.getfield 19, 3) := by decide +kernel
theorem dX0_tell_22 : decode cX0_tell 22 = .ok (.iload_n 1, 1) := by decide +kernel
theorem dX0_tell_23 : decode cX0_tell 23 = .ok (.iaload, 1) := by decide +kernel
theorem dX0_tell_24 : decode cX0_tell 24 = .ok (.ireturn, 1) := by decide +kernel
theorem dX0_tell_25 : decode cX0_tell 25 = .ok (.iload_n 2, 1) := by decide +kernel
theorem dX0_tell_26 : decode cX0_tell 26 = .ok (.ifCond .lt 22, 3) := by decide +kernel
theorem dX0_tell_29 : decode cX0_tell 29 = .ok (.iload_n 2, 1) := by decide +kernel
theorem dX0_tell_30 : decode cX0_tell 30 = .ok (.aload_n 0, 1) := by decide +kernel
theorem dX0_tell_31 : decode cX0_tell 31 = .ok (.getfield 19, 3) := by decide +kernel
theorem dX0_tell_34 : decode cX0_tell 34 = .ok (.iload_n 1, 1) := by decide +kernel
theorem dX0_tell_35 : decode cX0_tell 35 = .ok (.iaload, 1) := by decide +kernel
theorem dX0_tell_36 : decode cX0_tell 36 = .ok (.if_icmp .ge 12, 3) := by decide +kernel
theorem dX0_tell_39 : decode cX0_tell 39 = .ok (.aload_n 0, 1) := by decide +kernel
theorem dX0_tell_40 : decode cX0_tell 40 = .ok (.iload_n 1, 1) := by decide +kernel
theorem dX0_tell_41 : decode cX0_tell 41 = .ok (.iload_n 2, 1) := by decide +kernel
theorem dX0_tell_42 : decode cX0_tell 42 = .ok (.invokevirtual 37, 3) := by decide +kernel
theorem dX0_tell_45 : decode cX0_tell 45 = .ok (.goto 4, 3) := by decide +kernel
theorem dX0_tell_48 : decode cX0_tell 48 = .ok (.iconst (-1), 1) := by decide +kernel
theorem dX0_tell_49 : decode cX0_tell 49 = .ok (.ireturn, 1) := by decide +kernel
theorem dX1_init_0 : decode cX1_init 0 = .ok (.aload_n 0, 1) := by decide +kernel
theorem dX1_init_1 : decode cX1_init 1 = .ok (.invokespecial 3, 3) := by decide +kernel
theorem dX1_init_4 : decode cX1_init 4 = .ok (.aload_n 0, 1) := by decide +kernel
theorem dX1_init_5 : decode cX1_init 5 = .ok (.iload_n 1, 1) := by decide +kernel
theorem dX1_init_6 : decode cX1_init 6 = .ok (.putfield 9, 3) := by decide +kernel
theorem dX1_init_9 : decode cX1_init 9 = .ok (.aload_n 0, 1) := by decide +kernel
theorem dX1_init_10 : decode cX1_init 10 = .ok (.iconst 2, 1) := by decide +kernel
theorem dX1_init_11 : decode cX1_init 11 = .ok (.iload_n 1, 1) := by decide +kernel
theorem dX1_init_12 : decode cX1_init 12 = .ok (.imul, 1) := by decide +kernel
theorem dX1_init_13 : decode cX1_init 13 = .ok (.iconst 1, 1) := by decide +kernel
theorem dX1_init_14 : decode cX1_init 14 = .ok (.iadd, 1) := by decide +kernel
theorem dX1_init_15 : decode cX1_init 15 = .ok (.newarray .int, 2) := by decide +kernel
theorem dX1_init_17 : decode cX1_init 17 = .ok (.putfield 15, 3) := by decide +kernel
theorem dX1_init_20 : decode cX1_init 20 = .ok (.aload_n 0, 1) := by decide +kernel
theorem dX1_init_21 : decode cX1_init 21 = .ok (.iconst 2, 1) := by decide +kernel
theorem dX1_init_22 : decode cX1_init 22 = .ok (.iload_n 1, 1) := by decide +kernel
theorem dX1_init_23 : decode cX1_init 23 = .ok (.imul, 1) := by decide +kernel
theorem dX1_init_24 : decode cX1_init 24 = .ok (.iconst 1, 1) := by decide +kernel
theorem dX1_init_25 : decode cX1_init 25 = .ok (.iadd, 1) := by decide +kernel
theorem dX1_init_26 : decode cX1_init 26 = .ok (.newarray .int, 2) := by decide +kernel
theorem dX1_init_28 : decode cX1_init 28 = .ok (.putfield 19, 3) := by decide +kernel
theorem dX1_init_31 : decode cX1_init 31 = .ok (.aload_n 0, 1) := by decide +kernel
theorem dX1_init_32 : decode cX1_init 32 = .ok (.iload_n 1, 1) := by decide +kernel
theorem dX1_init_33 : decode cX1_init 33 = .ok (.newarray .int, 2) := by decide +kernel
theorem dX1_init_35 : decode cX1_init 35 = .ok (.putfield 22, 3) := by decide +kernel
theorem dX1_init_38 : decode cX1_init 38 = .ok (.return_, 1) := by decide +kernel
set_option maxRecDepth 20000 in
theorem ggX1_clear_J7_fill_53178 : GoodIn wsX1_clear wsJ7_fill_53178 := goodIn_r _ [8] (by decide +kernel) (by decide +kernel)
set_option maxRecDepth 20000 in
theorem gX1_clear_J7_fill_53178 : GoodIn wsX1_clear (va_wsS RX1 25 yJ7_fill_53178 wsJ7_fill_53178) := goodIn_app (goodIn_of _ (by decide +kernel)) ggX1_clear_J7_fill_53178
theorem dX1_clear_0 : decode cX1_clear 0 = .ok (.aload_n 0, 1) := by decide +kernel
theorem dX1_clear_1 : decode cX1_clear 1 = .ok (.getfield 15, 3) := by decide +kernel
theorem dX1_clear_4 : decode cX1_clear 4 = .ok (.iconst 0, 1) := by decide +kernel
theorem dX1_clear_5 : decode cX1_clear 5 = .ok (.invokestatic 25, 3) := by decide +kernel
theorem dX1_clear_8 : decode cX1_clear 8 = .ok (.aload_n 0, 1) := by decide +kernel
theorem dX1_clear_9 : decode cX1_clear 9 = .ok (.getfield 19, 3) := by decide +kernel
theorem dX1_clear_12 : decode cX1_clear 12 = .ok (.iconst 0, 1) := by decide +kernel
theorem dX1_clear_13 : decode cX1_clear 13 = .ok (.invokestatic 25, 3) := by decide +kernel
theorem dX1_clear_16 : decode cX1_clear 16 = .ok (.aload_n 0, 1) := by decide +kernel
theorem dX1_clear_17 : decode cX1_clear 17 = .ok (.iconst 0, 1) := by decide +kernel
theorem dX1_clear_18 : decode cX1_clear 18 = .ok (.putfield 31, 3) := by decide +kernel
theorem dX1_clear_21 : decode cX1_clear 21 = .ok (.aload_n 0, 1) := by decide +kernel
theorem dX1_clear_22 : decode cX1_clear 22 = .ok (.iconst 0, 1) := by decide +kernel
theorem dX1_clear_23 : decode cX1_clear 23 = .ok (.putfield 34, 3) := by decide +kernel
theorem dX1_clear_26 : decode cX1_clear 26 = .ok (.return_, 1) := by decide +kernel
set_option maxRecDepth 20000 in
theorem ggX1_addProduct_X0_signOf : GoodIn wsX1_addProduct wsX0_signOf := goodIn_r _ [7, 8, 31, 32, 33, 34] (by decide +kernel) (by decide +kernel)
set_option maxRecDepth 20000 in
theorem gX1_addProduct_X0_signOf : GoodIn wsX1_addProduct (wsV RX1 37 RX0 yX0_signOf wsX0_signOf) := goodIn_app (goodIn_of _ (by decide +kernel)) ggX1_addProduct_X0_signOf
set_option maxRecDepth 20000 in
theorem ggX1_addProduct_X0_lengthOf : GoodIn wsX1_addProduct wsX0_lengthOf := goodIn_r _ [12, 13, 31, 32, 33, 34] (by decide +kernel) (by decide +kernel)
set_option maxRecDepth 20000 in
theorem gX1_addProduct_X0_lengthOf : GoodIn wsX1_addProduct (wsV RX1 43 RX0 yX0_lengthOf wsX0_lengthOf) := goodIn_app (goodIn_of _ (by decide +kernel)) ggX1_addProduct_X0_lengthOf
set_option maxRecDepth 20000 in
theorem ggX1_addProduct_X0_limbOf : GoodIn wsX1_addProduct wsX0_limbOf := goodIn_r _ [17, 18, 19, 31, 32, 33, 34] (by decide +kernel) (by decide +kernel)
set_option maxRecDepth 20000 in
theorem gX1_addProduct_X0_limbOf : GoodIn wsX1_addProduct (wsV RX1 46 RX0 yX0_limbOf wsX0_limbOf) := goodIn_app (goodIn_of _ (by decide +kernel)) ggX1_addProduct_X0_limbOf
set_option maxRecDepth 20000 in
theorem ggX1_addProduct_X1_addMultiple : GoodIn wsX1_addProduct wsX1_addMultiple := goodIn_r _ [23, 24, 9, 10, 11, 6, 12, 13, 14, 15, 16, 17, 18, 19, 31, 32, 33, 34] (by decide +kernel) (by decide +kernel)
set_option maxRecDepth 20000 in
theorem gX1_addProduct_X1_addMultiple : GoodIn wsX1_addProduct (va_wsS RX1 50 yX1_addMultiple wsX1_addMultiple) := goodIn_app (goodIn_of _ (by decide +kernel)) ggX1_addProduct_X1_addMultiple
theorem dX1_addProduct_0 : decode cX1_addProduct 0 = .ok (.aload_n 1, 1) := by decide +kernel
theorem dX1_addProduct_1 : decode cX1_addProduct 1 = .ok (.iload_n 2, 1) := by decide +kernel
theorem dX1_addProduct_2 : decode cX1_addProduct 2 = .ok (.invokevirtual 37, 3) := by decide +kernel
theorem dX1_addProduct_5 : decode cX1_addProduct 5 = .ok (.aload_n 3, 1) := by decide +kernel
theorem dX1_addProduct_6 : decode cX1_addProduct 6 = .ok (.iload 4, 2) := by decide +kernel
theorem dX1_addProduct_8 : decode cX1_addProduct 8 = .ok (.invokevirtual 37, 3) := by decide +kernel
theorem dX1_addProduct_11 : decode cX1_addProduct 11 = .ok (.imul, 1) := by decide +kernel
theorem dX1_addProduct_12 : decode cX1_addProduct 12 = .ok (.iload 5, 2) := by decide +kernel
theorem dX1_addProduct_14 : decode cX1_addProduct 14 = .ok (.imul, 1) := by decide +kernel
theorem dX1_addProduct_15 : decode cX1_addProduct 15 = .ok (.istore 6, 2) := by decide +kernel
theorem dX1_addProduct_17 : decode cX1_addProduct 17 = .ok (.iload 6, 2) := by decide +kernel
theorem dX1_addProduct_19 : decode cX1_addProduct 19 = .ok (.ifCond .ne 4, 3) := by decide +kernel
theorem dX1_addProduct_22 : decode cX1_addProduct 22 = .ok (.return_, 1) := by decide +kernel
theorem dX1_addProduct_23 : decode cX1_addProduct 23 = .ok (.iload 6, 2) := by decide +kernel
theorem dX1_addProduct_25 : decode cX1_addProduct 25 = .ok (.ifCond .le 10, 3) := by decide +kernel
theorem dX1_addProduct_28 : decode cX1_addProduct 28 = .ok (.aload_n 0, 1) := by decide +kernel
theorem dX1_addProduct_29 : decode cX1_addProduct 29 = .ok (.getfield 15, 3) := by decide +kernel
theorem dX1_addProduct_32 : decode cX1_addProduct 32 = .ok (.goto 7, 3) := by decide +kernel
theorem dX1_addProduct_35 : decode cX1_addProduct 35 = .ok (.aload_n 0, 1) := by decide +kernel
theorem dX1_addProduct_36 : decode cX1_addProduct 36 = .ok (.getfield 19, 3) := by decide +kernel
theorem dX1_addProduct_39 : decode cX1_addProduct 39 = .ok (.astore 7, 2) := by decide +kernel
theorem dX1_addProduct_41 : decode cX1_addProduct 41 = .ok (.iconst 0, 1) := by decide +kernel
theorem dX1_addProduct_42 : decode cX1_addProduct 42 = .ok (.istore 8, 2) := by decide +kernel
theorem dX1_addProduct_44 : decode cX1_addProduct 44 = .ok (.iload 8, 2) := by decide +kernel
theorem dX1_addProduct_46 : decode cX1_addProduct 46 = .ok (.aload_n 1, 1) := by decide +kernel
theorem dX1_addProduct_47 : decode cX1_addProduct 47 = .ok (.iload_n 2, 1) := by decide +kernel
theorem dX1_addProduct_48 : decode cX1_addProduct 48 = .ok (.invokevirtual 43, 3) := by decide +kernel
theorem dX1_addProduct_51 : decode cX1_addProduct 51 = .ok (.if_icmp .ge 27, 3) := by decide +kernel
theorem dX1_addProduct_54 : decode cX1_addProduct 54 = .ok (.aload 7, 2) := by decide +kernel
theorem dX1_addProduct_56 : decode cX1_addProduct 56 = .ok (.iload 8, 2) := by decide +kernel
theorem dX1_addProduct_58 : decode cX1_addProduct 58 = .ok (.aload_n 3, 1) := by decide +kernel
theorem dX1_addProduct_59 : decode cX1_addProduct 59 = .ok (.iload 4, 2) := by decide +kernel
theorem dX1_addProduct_61 : decode cX1_addProduct 61 = .ok (.aload_n 1, 1) := by decide +kernel
theorem dX1_addProduct_62 : decode cX1_addProduct 62 = .ok (.iload_n 2, 1) := by decide +kernel
theorem dX1_addProduct_63 : decode cX1_addProduct 63 = .ok (.iload 8, 2) := by decide +kernel
theorem dX1_addProduct_65 : decode cX1_addProduct 65 = .ok (.invokevirtual 46, 3) := by decide +kernel
theorem dX1_addProduct_68 : decode cX1_addProduct 68 = .ok (.i2l, 1) := by decide +kernel
theorem dX1_addProduct_69 : decode cX1_addProduct 69 = .ok (.invokestatic 50, 3) := by decide +kernel
theorem dX1_addProduct_72 : decode cX1_addProduct 72 = .ok (.iinc 8 1, 3) := by decide +kernel
theorem dX1_addProduct_75 : decode cX1_addProduct 75 = .ok (.goto (-31), 3) := by decide +kernel
theorem dX1_addProduct_78 : decode cX1_addProduct 78 = .ok (.return_, 1) := by decide +kernel
set_option maxRecDepth 20000 in
theorem ggX1_addMultiple_X0_lengthOf : GoodIn wsX1_addMultiple wsX0_lengthOf := goodIn_r _ [6, 7, 14, 15, 16, 17] (by decide +kernel) (by decide +kernel)
set_option maxRecDepth 20000 in
theorem gX1_addMultiple_X0_lengthOf : GoodIn wsX1_addMultiple (wsV RX1 43 RX0 yX0_lengthOf wsX0_lengthOf) := goodIn_app (goodIn_of _ (by decide +kernel)) ggX1_addMultiple_X0_lengthOf
set_option maxRecDepth 20000 in
theorem ggX1_addMultiple_X0_limbOf : GoodIn wsX1_addMultiple wsX0_limbOf := goodIn_r _ [11, 12, 13, 14, 15, 16, 17] (by decide +kernel) (by decide +kernel)
set_option maxRecDepth 20000 in
theorem gX1_addMultiple_X0_limbOf : GoodIn wsX1_addMultiple (wsV RX1 46 RX0 yX0_limbOf wsX0_limbOf) := goodIn_app (goodIn_of _ (by decide +kernel)) ggX1_addMultiple_X0_limbOf
theorem dX1_addMultiple_0 : decode cX1_addMultiple 0 = .ok (.aload_n 2, 1) := by decide +kernel
theorem dX1_addMultiple_1 : decode cX1_addMultiple 1 = .ok (.iload_n 3, 1) := by decide +kernel
theorem dX1_addMultiple_2 : decode cX1_addMultiple 2 = .ok (.invokevirtual 43, 3) := by decide +kernel
theorem dX1_addMultiple_5 : decode cX1_addMultiple 5 = .ok (.istore 6, 2) := by decide +kernel
theorem dX1_addMultiple_7 : decode cX1_addMultiple 7 = .ok (.lconst 0, 1) := by decide +kernel
theorem dX1_addMultiple_8 : decode cX1_addMultiple 8 = .ok (.lstore 7, 2) := by decide +kernel
theorem dX1_addMultiple_10 : decode cX1_addMultiple 10 = .ok (.iconst 0, 1) := by decide +kernel
theorem dX1_addMultiple_11 : decode cX1_addMultiple 11 = .ok (.istore 9, 2) := by decide +kernel
theorem dX1_addMultiple_13 : decode cX1_addMultiple 13 = .ok (.iload 9, 2) := by decide +kernel
theorem dX1_addMultiple_15 : decode cX1_addMultiple 15 = .ok (.iload 6, 2) := by decide +kernel
theorem dX1_addMultiple_17 : decode cX1_addMultiple 17 = .ok (.if_icmp .ge 53, 3) := by decide +kernel
theorem dX1_addMultiple_20 : decode cX1_addMultiple 20 = .ok (.lload 7, 2) := by decide +kernel
theorem dX1_addMultiple_22 : decode cX1_addMultiple 22 = .ok (.aload_n 0, 1) := by decide +kernel
theorem dX1_addMultiple_23 : decode cX1_addMultiple 23 = .ok (.iload_n 1, 1) := by decide +kernel
theorem dX1_addMultiple_24 : decode cX1_addMultiple 24 = .ok (.iload 9, 2) := by decide +kernel
theorem dX1_addMultiple_26 : decode cX1_addMultiple 26 = .ok (.iadd, 1) := by decide +kernel
theorem dX1_addMultiple_27 : decode cX1_addMultiple 27 = .ok (.iaload, 1) := by decide +kernel
theorem dX1_addMultiple_28 : decode cX1_addMultiple 28 = .ok (.i2l, 1) := by decide +kernel
theorem dX1_addMultiple_29 : decode cX1_addMultiple 29 = .ok (.lload 4, 2) := by decide +kernel
theorem dX1_addMultiple_31 : decode cX1_addMultiple 31 = .ok (.aload_n 2, 1) := by decide +kernel
theorem dX1_addMultiple_32 : decode cX1_addMultiple 32 = .ok (.iload_n 3, 1) := by decide +kernel
theorem dX1_addMultiple_33 : decode cX1_addMultiple 33 = .ok (.iload 9, 2) := by decide +kernel
theorem dX1_addMultiple_35 : decode cX1_addMultiple 35 = .ok (.invokevirtual 46, 3) := by decide +kernel
theorem dX1_addMultiple_38 : decode cX1_addMultiple 38 = .ok (.i2l, 1) := by decide +kernel
theorem dX1_addMultiple_39 : decode cX1_addMultiple 39 = .ok (.lmul, 1) := by decide +kernel
theorem dX1_addMultiple_40 : decode cX1_addMultiple 40 = .ok (.ladd, 1) := by decide +kernel
theorem dX1_addMultiple_41 : decode cX1_addMultiple 41 = .ok (.ladd, 1) := by decide +kernel
theorem dX1_addMultiple_42 : decode cX1_addMultiple 42 = .ok (.lstore 7, 2) := by decide +kernel
theorem dX1_addMultiple_44 : decode cX1_addMultiple 44 = .ok (.aload_n 0, 1) := by decide +kernel
theorem dX1_addMultiple_45 : decode cX1_addMultiple 45 = .ok (.iload_n 1, 1) := by decide +kernel
theorem dX1_addMultiple_46 : decode cX1_addMultiple 46 = .ok (.iload 9, 2) := by decide +kernel
theorem dX1_addMultiple_48 : decode cX1_addMultiple 48 = .ok (.iadd, 1) := by decide +kernel
theorem dX1_addMultiple_49 : decode cX1_addMultiple 49 = .ok (.lload 7, 2) := by decide +kernel
theorem dX1_addMultiple_51 : decode cX1_addMultiple 51 = .ok (.ldc2_w 54, 3) := by decide +kernel
theorem dX1_addMultiple_54 : decode cX1_addMultiple 54 = .ok (.land, 1) := by decide +kernel
theorem dX1_addMultiple_55 : decode cX1_addMultiple 55 = .ok (.l2i, 1) := by decide +kernel
theorem dX1_addMultiple_56 : decode cX1_addMultiple 56 = .ok (.iastore, 1) := by decide +kernel
theorem dX1_addMultiple_57 : decode cX1_addMultiple 57 = .ok (.lload 7, 2) := by decide +kernel
theorem dX1_addMultiple_59 : decode cX1_addMultiple 59 = .ok (.bipush 31, 2) := by decide +kernel
theorem dX1_addMultiple_61 : decode cX1_addMultiple 61 = .ok (.lshr, 1) := by decide +kernel
theorem dX1_addMultiple_62 : decode cX1_addMultiple 62 = .ok (.lstore 7, 2) := by decide +kernel
theorem dX1_addMultiple_64 : decode cX1_addMultiple 64 = .ok (.iinc 9 1, 3) := by decide +kernel
theorem dX1_addMultiple_67 : decode cX1_addMultiple 67 = .ok (.goto (-54), 3) := by decide +kernel
theorem dX1_addMultiple_70 : decode cX1_addMultiple 70 = .ok (.iload_n 1, 1) := by decide +kernel
theorem dX1_addMultiple_71 : decode cX1_addMultiple 71 = .ok (.iload 6, 2) := by decide +kernel
theorem dX1_addMultiple_73 : decode cX1_addMultiple 73 = .ok (.iadd, 1) := by decide +kernel
theorem dX1_addMultiple_74 : decode cX1_addMultiple 74 = .ok (.istore 9, 2) := by decide +kernel
theorem dX1_addMultiple_76 : decode cX1_addMultiple 76 = .ok (.lload 7, 2) := by decide +kernel
theorem dX1_addMultiple_78 : decode cX1_addMultiple 78 = .ok (.lconst 0, 1) := by decide +kernel
theorem dX1_addMultiple_79 : decode cX1_addMultiple 79 = .ok (.lcmp, 1) := by decide +kernel
theorem dX1_addMultiple_80 : decode cX1_addMultiple 80 = .ok (.ifCond .eq 44, 3) := by decide +kernel
theorem dX1_addMultiple_83 : decode cX1_addMultiple 83 = .ok (.iload 9, 2) := by decide +kernel
theorem dX1_addMultiple_85 : decode cX1_addMultiple 85 = .ok (.aload_n 0, 1) := by decide +kernel
theorem dX1_addMultiple_86 : decode cX1_addMultiple 86 = .ok (.arraylength, 1) := by decide +kernel
theorem dX1_addMultiple_87 : decode cX1_addMultiple 87 = .ok (.if_icmp .ge 37, 3) := by decide +kernel
theorem dX1_addMultiple_90 : decode cX1_addMultiple 90 = .ok (.lload 7, 2) := by decide +kernel
theorem dX1_addMultiple_92 : decode cX1_addMultiple 92 = .ok (.aload_n 0, 1) := by decide +kernel
theorem dX1_addMultiple_93 : decode cX1_addMultiple 93 = .ok (.iload 9, 2) := by decide +kernel
theorem dX1_addMultiple_95 : decode cX1_addMultiple 95 = .ok (.iaload, 1) := by decide +kernel
theorem dX1_addMultiple_96 : decode cX1_addMultiple 96 = .ok (.i2l, 1) := by decide +kernel
theorem dX1_addMultiple_97 : decode cX1_addMultiple 97 = .ok (.ladd, 1) := by decide +kernel
theorem dX1_addMultiple_98 : decode cX1_addMultiple 98 = .ok (.lstore 7, 2) := by decide +kernel
theorem dX1_addMultiple_100 : decode cX1_addMultiple 100 = .ok (.aload_n 0, 1) := by decide +kernel
theorem dX1_addMultiple_101 : decode cX1_addMultiple 101 = .ok (.iload 9, 2) := by decide +kernel
theorem dX1_addMultiple_103 : decode cX1_addMultiple 103 = .ok (.lload 7, 2) := by decide +kernel
theorem dX1_addMultiple_105 : decode cX1_addMultiple 105 = .ok (.ldc2_w 54, 3) := by decide +kernel
theorem dX1_addMultiple_108 : decode cX1_addMultiple 108 = .ok (.land, 1) := by decide +kernel
theorem dX1_addMultiple_109 : decode cX1_addMultiple 109 = .ok (.l2i, 1) := by decide +kernel
theorem dX1_addMultiple_110 : decode cX1_addMultiple 110 = .ok (.iastore, 1) := by decide +kernel
theorem dX1_addMultiple_111 : decode cX1_addMultiple 111 = .ok (.lload 7, 2) := by decide +kernel
theorem dX1_addMultiple_113 : decode cX1_addMultiple 113 = .ok (.bipush 31, 2) := by decide +kernel
theorem dX1_addMultiple_115 : decode cX1_addMultiple 115 = .ok (.lshr, 1) := by decide +kernel
theorem dX1_addMultiple_116 : decode cX1_addMultiple 116 = .ok (.lstore 7, 2) := by decide +kernel
theorem dX1_addMultiple_118 : decode cX1_addMultiple 118 = .ok (.iinc 9 1, 3) := by decide +kernel
theorem dX1_addMultiple_121 : decode cX1_addMultiple 121 = .ok (.goto (-45), 3) := by decide +kernel
theorem dX1_addMultiple_124 : decode cX1_addMultiple 124 = .ok (.return_, 1) := by decide +kernel
set_option maxRecDepth 20000 in
theorem ggX1_isZero_X1_compareSides : GoodIn wsX1_isZero wsX1_compareSides := goodIn_r _ [5, 6, 7, 8, 9, 10, 11, 12, 13] (by decide +kernel) (by decide +kernel)
set_option maxRecDepth 20000 in
theorem gX1_isZero_X1_compareSides : GoodIn wsX1_isZero (wsV RX1 56 RX1 yX1_compareSides wsX1_compareSides) := goodIn_app (goodIn_of _ (by decide +kernel)) ggX1_isZero_X1_compareSides
theorem dX1_isZero_0 : decode cX1_isZero 0 = .ok (.aload_n 0, 1) := by decide +kernel
theorem dX1_isZero_1 : decode cX1_isZero 1 = .ok (.invokevirtual 56, 3) := by decide +kernel
theorem dX1_isZero_4 : decode cX1_isZero 4 = .ok (.ifCond .ne 7, 3) := by decide +kernel
theorem dX1_isZero_7 : decode cX1_isZero 7 = .ok (.iconst 1, 1) := by decide +kernel
theorem dX1_isZero_8 : decode cX1_isZero 8 = .ok (.goto 4, 3) := by decide +kernel
theorem dX1_isZero_11 : decode cX1_isZero 11 = .ok (.iconst 0, 1) := by decide +kernel
theorem dX1_isZero_12 : decode cX1_isZero 12 = .ok (.ireturn, 1) := by decide +kernel
set_option maxRecDepth 20000 in
theorem ggX1_settle_X1_compareSides : GoodIn wsX1_settle wsX1_compareSides := goodIn_r _ [10, 2, 3, 14, 15, 16, 17, 18, 19] (by decide +kernel) (by decide +kernel)
set_option maxRecDepth 20000 in
theorem gX1_settle_X1_compareSides : GoodIn wsX1_settle (wsV RX1 56 RX1 yX1_compareSides wsX1_compareSides) := goodIn_app (goodIn_of _ (by decide +kernel)) ggX1_settle_X1_compareSides
set_option maxRecDepth 20000 in
theorem ggX1_settle_X1_trimmed : GoodIn wsX1_settle wsX1_trimmed := goodIn_r _ [13] (by decide +kernel) (by decide +kernel)
set_option maxRecDepth 20000 in
theorem gX1_settle_X1_trimmed : GoodIn wsX1_settle (va_wsS RX1 60 yX1_trimmed wsX1_trimmed) := goodIn_app (goodIn_of _ (by decide +kernel)) ggX1_settle_X1_trimmed
theorem dX1_settle_0 : decode cX1_settle 0 = .ok (.aload_n 0, 1) := by decide +kernel
theorem dX1_settle_1 : decode cX1_settle 1 = .ok (.aload_n 0, 1) := by decide +kernel
theorem dX1_settle_2 : decode cX1_settle 2 = .ok (.invokevirtual 56, 3) := by decide +kernel
theorem dX1_settle_5 : decode cX1_settle 5 = .ok (.putfield 31, 3) := by decide +kernel
theorem dX1_settle_8 : decode cX1_settle 8 = .ok (.lconst 0, 1) := by decide +kernel
theorem dX1_settle_9 : decode cX1_settle 9 = .ok (.lstore_n 1, 1) := by decide +kernel
theorem dX1_settle_10 : decode cX1_settle 10 = .ok (.iconst 0, 1) := by decide +kernel
theorem dX1_settle_11 : decode cX1_settle 11 = .ok (.istore_n 3, 1) := by decide +kernel
theorem dX1_settle_12 : decode cX1_settle 12 = .ok (.iload_n 3, 1) := by decide +kernel
theorem dX1_settle_13 : decode cX1_settle 13 = .ok (.aload_n 0, 1) := by decide +kernel
theorem dX1_settle_14 : decode cX1_settle 14 = .ok (.getfield 15, 3) := by decide +kernel
theorem dX1_settle_17 : decode cX1_settle 17 = .ok (.arraylength, 1) := by decide +kernel
theorem dX1_settle_18 : decode cX1_settle 18 = .ok (.if_icmp .ge 50, 3) := by decide +kernel
theorem dX1_settle_21 : decode cX1_settle 21 = .ok (.lload_n 1, 1) := by decide +kernel
theorem dX1_settle_22 : decode cX1_settle 22 = .ok (.aload_n 0, 1) := by decide +kernel
theorem dX1_settle_23 : decode cX1_settle 23 = .ok (.getfield 31, 3) := by decide +kernel
theorem dX1_settle_26 : decode cX1_settle 26 = .ok (.i2l, 1) := by decide +kernel
theorem dX1_settle_27 : decode cX1_settle 27 = .ok (.aload_n 0, 1) := by decide +kernel
theorem dX1_settle_28 : decode cX1_settle 28 = .ok (.getfield 15, 3) := by decide +kernel
theorem dX1_settle_31 : decode cX1_settle 31 = .ok (.iload_n 3, 1) := by decide +kernel
theorem dX1_settle_32 : decode cX1_settle 32 = .ok (.iaload, 1) := by decide +kernel
theorem dX1_settle_33 : decode cX1_settle 33 = .ok (.i2l, 1) := by decide +kernel
theorem dX1_settle_34 : decode cX1_settle 34 = .ok (.aload_n 0, 1) := by decide +kernel
theorem dX1_settle_35 : decode cX1_settle 35 = .ok (.getfield 19, 3) := by decide +kernel
theorem dX1_settle_38 : decode cX1_settle 38 = .ok (.iload_n 3, 1) := by decide +kernel
theorem dX1_settle_39 : decode cX1_settle 39 = .ok (.iaload, 1) := by decide +kernel
theorem dX1_settle_40 : decode cX1_settle 40 = .ok (.i2l, 1) := by decide +kernel
theorem dX1_settle_41 : decode cX1_settle 41 = .ok (.lsub, 1) := by decide +kernel
theorem dX1_settle_42 : decode cX1_settle 42 = .ok (.lmul, 1) := by decide +kernel
theorem dX1_settle_43 : decode cX1_settle 43 = .ok (.ladd, 1) := by decide +kernel
theorem dX1_settle_44 : decode cX1_settle 44 = .ok (.lstore_n 1, 1) := by decide +kernel
theorem dX1_settle_45 : decode cX1_settle 45 = .ok (.aload_n 0, 1) := by decide +kernel
theorem dX1_settle_46 : decode cX1_settle 46 = .ok (.getfield 15, 3) := by decide +kernel
theorem dX1_settle_49 : decode cX1_settle 49 = .ok (.iload_n 3, 1) := by decide +kernel
theorem dX1_settle_50 : decode cX1_settle 50 = .ok (.lload_n 1, 1) := by decide +kernel
theorem dX1_settle_51 : decode cX1_settle 51 = .ok (.ldc2_w 54, 3) := by decide +kernel
theorem dX1_settle_54 : decode cX1_settle 54 = .ok (.land, 1) := by decide +kernel
theorem dX1_settle_55 : decode cX1_settle 55 = .ok (.l2i, 1) := by decide +kernel
theorem dX1_settle_56 : decode cX1_settle 56 = .ok (.iastore, 1) := by decide +kernel
theorem dX1_settle_57 : decode cX1_settle 57 = .ok (.lload_n 1, 1) := by decide +kernel
theorem dX1_settle_58 : decode cX1_settle 58 = .ok (.bipush 31, 2) := by decide +kernel
theorem dX1_settle_60 : decode cX1_settle 60 = .ok (.lshr, 1) := by decide +kernel
theorem dX1_settle_61 : decode cX1_settle 61 = .ok (.lstore_n 1, 1) := by decide +kernel
theorem dX1_settle_62 : decode cX1_settle 62 = .ok (.iinc 3 1, 3) := by decide +kernel
theorem dX1_settle_65 : decode cX1_settle 65 = .ok (.goto (-53), 3) := by decide +kernel
theorem dX1_settle_68 : decode cX1_settle 68 = .ok (.aload_n 0, 1) := by decide +kernel
theorem dX1_settle_69 : decode cX1_settle 69 = .ok (.aload_n 0, 1) := by decide +kernel
theorem dX1_settle_70 : decode cX1_settle 70 = .ok (.getfield 15, 3) := by decide +kernel
theorem dX1_settle_73 : decode cX1_settle 73 = .ok (.aload_n 0, 1) := by decide +kernel
theorem dX1_settle_74 : decode cX1_settle 74 = .ok (.getfield 15, 3) := by decide +kernel
theorem dX1_settle_77 : decode cX1_settle 77 = .ok (.arraylength, 1) := by decide +kernel
theorem dX1_settle_78 : decode cX1_settle 78 = .ok (.invokestatic 60, 3) := by decide +kernel
theorem dX1_settle_81 : decode cX1_settle 81 = .ok (.putfield 34, 3) := by decide +kernel
theorem dX1_settle_84 : decode cX1_settle 84 = .ok (.return_, 1) := by decide +kernel
theorem dX1_compareSides_0 : decode cX1_compareSides 0 = .ok (.aload_n 0, 1) := by decide +kernel
theorem dX1_compareSides_1 : decode cX1_compareSides 1 = .ok (.getfield 15, 3) := by decide +kernel
theorem dX1_compareSides_4 : decode cX1_compareSides 4 = .ok (.arraylength, 1) := by decide +kernel
theorem dX1_compareSides_5 : decode cX1_compareSides 5 = .ok (.iconst 1, 1) := by decide +kernel
