set_option maxRecDepth 20000 in
theorem ggX3_init_X1_init : GoodIn wsX3_init wsX1_init := goodIn_r _ [15, 16, 2, 3, 17, 18, 19, 20, 21, 22, 23, 24, 25, 26, 27] (by decide +kernel) (by decide +kernel)
set_option maxRecDepth 20000 in
theorem gX3_init_X1_init : GoodIn wsX3_init (wsX1_init) := ggX3_init_X1_init
theorem dX3_init_0 : decode cX3_init 0 = .ok (.aload_n 0, 1) := by decide +kernel
theorem dX3_init_1 : decode cX3_init 1 = .ok (.invokespecial 3, 3) := by decide +kernel
theorem dX3_init_4 : decode cX3_init 4 = .ok (.aload_n 0, 1) := by decide +kernel
theorem dX3_init_5 : decode cX3_init 5 = .ok (.new 9, 3) := by decide +kernel
theorem dX3_init_8 : decode cX3_init 8 = .ok (.dup, 1) := by decide +kernel
theorem dX3_init_9 : decode cX3_init 9 = .ok (.bipush 40, 2) := by decide +kernel
theorem dX3_init_11 : decode cX3_init 11 = .ok (.iconst (-1), 1) := by decide +kernel
theorem dX3_init_12 : decode cX3_init 12 = .ok (.invokespecial 11, 3) := by decide +kernel
theorem dX3_init_15 : decode cX3_init 15 = .ok (.putfield 14, 3) := by decide +kernel
theorem dX3_init_18 : decode cX3_init 18 = .ok (.aload_n 0, 1) := by decide +kernel
theorem dX3_init_19 : decode cX3_init 19 = .ok (.new 9, 3) := by decide +kernel
theorem dX3_init_22 : decode cX3_init 22 = .ok (.dup, 1) := by decide +kernel
theorem dX3_init_23 : decode cX3_init 23 = .ok (.bipush 40, 2) := by decide +kernel
theorem dX3_init_25 : decode cX3_init 25 = .ok (.iconst (-1), 1) := by decide +kernel
theorem dX3_init_26 : decode cX3_init 26 = .ok (.invokespecial 11, 3) := by decide +kernel
theorem dX3_init_29 : decode cX3_init 29 = .ok (.putfield 20, 3) := by decide +kernel
theorem dX3_init_32 : decode cX3_init 32 = .ok (.aload_n 0, 1) := by decide +kernel
theorem dX3_init_33 : decode cX3_init 33 = .ok (.iconst 0, 1) := by decide +kernel
theorem dX3_init_34 : decode cX3_init 34 = .ok (.putfield 23, 3) := by decide +kernel
theorem dX3_init_37 : decode cX3_init 37 = .ok (.aload_n 0, 1) := by decide +kernel
theorem dX3_init_38 : decode cX3_init 38 = .ok (.iconst 0, 1) := by decide +kernel
theorem dX3_init_39 : decode cX3_init 39 = .ok (.putfield 27, 3) := by decide +kernel
theorem dX3_init_42 : decode cX3_init 42 = .ok (.aload_n 0, 1) := by decide +kernel
theorem dX3_init_43 : decode cX3_init 43 = .ok (.iconst 0, 1) := by decide +kernel
theorem dX3_init_44 : decode cX3_init 44 = .ok (.putfield 30, 3) := by decide +kernel
theorem dX3_init_47 : decode cX3_init 47 = .ok (.aload_n 0, 1) := by decide +kernel
theorem dX3_init_48 : decode cX3_init 48 = .ok (.iconst 0, 1) := by decide +kernel
theorem dX3_init_49 : decode cX3_init 49 = .ok (.putfield 33, 3) := by decide +kernel
theorem dX3_init_52 : decode cX3_init 52 = .ok (.return_, 1) := by decide +kernel
theorem dX3_isFull_0 : decode cX3_isFull 0 = .ok (.aload_n 0, 1) := by decide +kernel
theorem dX3_isFull_1 : decode cX3_isFull 1 = .ok (.getfield 23, 3) := by decide +kernel
theorem dX3_isFull_4 : decode cX3_isFull 4 = .ok (.bipush 40, 2) := by decide +kernel
theorem dX3_isFull_6 : decode cX3_isFull 6 = .ok (.if_icmp .lt 7, 3) := by decide +kernel
theorem dX3_isFull_9 : decode cX3_isFull 9 = .ok (.iconst 1, 1) := by decide +kernel
theorem dX3_isFull_10 : decode cX3_isFull 10 = .ok (.goto 4, 3) := by decide +kernel
theorem dX3_isFull_13 : decode cX3_isFull 13 = .ok (.iconst 0, 1) := by decide +kernel
theorem dX3_isFull_14 : decode cX3_isFull 14 = .ok (.ireturn, 1) := by decide +kernel
set_option maxRecDepth 20000 in
theorem ggX3_append_X1_set : GoodIn wsX3_append wsX1_set := goodIn_r _ [7, 8, 15] (by decide +kernel) (by decide +kernel)
set_option maxRecDepth 20000 in
theorem gX3_append_X1_set : GoodIn wsX3_append (wsV RX3 36 RX1 yX1_set wsX1_set) := goodIn_app (goodIn_of _ (by decide +kernel)) ggX3_append_X1_set
theorem dX3_append_0 : decode cX3_append 0 = .ok (.aload_n 0, 1) := by decide +kernel
theorem dX3_append_1 : decode cX3_append 1 = .ok (.getfield 14, 3) := by decide +kernel
theorem dX3_append_4 : decode cX3_append 4 = .ok (.aload_n 0, 1) := by decide +kernel
theorem dX3_append_5 : decode cX3_append 5 = .ok (.getfield 23, 3) := by decide +kernel
theorem dX3_append_8 : decode cX3_append 8 = .ok (.iload_n 1, 1) := by decide +kernel
theorem dX3_append_9 : decode cX3_append 9 = .ok (.invokevirtual 36, 3) := by decide +kernel
theorem dX3_append_12 : decode cX3_append 12 = .ok (.aload_n 0, 1) := by decide +kernel
theorem dX3_append_13 : decode cX3_append 13 = .ok (.dup, 1) := by decide +kernel
theorem dX3_append_14 : decode cX3_append 14 = .ok (.getfield 23, 3) := by decide +kernel
theorem dX3_append_17 : decode cX3_append 17 = .ok (.iconst 1, 1) := by decide +kernel
theorem dX3_append_18 : decode cX3_append 18 = .ok (.iadd, 1) := by decide +kernel
theorem dX3_append_19 : decode cX3_append 19 = .ok (.putfield 23, 3) := by decide +kernel
theorem dX3_append_22 : decode cX3_append 22 = .ok (.return_, 1) := by decide +kernel
set_option maxRecDepth 20000 in
theorem ggX3_letterAt_X1_at : GoodIn wsX3_letterAt wsX1_at := goodIn_r _ [7, 8, 15] (by decide +kernel) (by decide +kernel)
set_option maxRecDepth 20000 in
theorem gX3_letterAt_X1_at : GoodIn wsX3_letterAt (wsV RX3 39 RX1 yX1_at wsX1_at) := goodIn_app (goodIn_of _ (by decide +kernel)) ggX3_letterAt_X1_at
theorem dX3_letterAt_0 : decode cX3_letterAt 0 = .ok (.iload_n 1, 1) := by decide +kernel
theorem dX3_letterAt_1 : decode cX3_letterAt 1 = .ok (.aload_n 0, 1) := by decide +kernel
theorem dX3_letterAt_2 : decode cX3_letterAt 2 = .ok (.getfield 23, 3) := by decide +kernel
theorem dX3_letterAt_5 : decode cX3_letterAt 5 = .ok (.if_icmp .ge 14, 3) := by decide +kernel
theorem dX3_letterAt_8 : decode cX3_letterAt 8 = .ok (.aload_n 0, 1) := by decide +kernel
theorem dX3_letterAt_9 : decode cX3_letterAt 9 = .ok (.getfield 14, 3) := by decide +kernel
theorem dX3_letterAt_12 : decode cX3_letterAt 12 = .ok (.iload_n 1, 1) := by decide +kernel
theorem dX3_letterAt_13 : decode cX3_letterAt 13 = .ok (.invokevirtual 39, 3) := by decide +kernel
theorem dX3_letterAt_16 : decode cX3_letterAt 16 = .ok (.goto 4, 3) := by decide +kernel
theorem dX3_letterAt_19 : decode cX3_letterAt 19 = .ok (.iconst (-1), 1) := by decide +kernel
theorem dX3_letterAt_20 : decode cX3_letterAt 20 = .ok (.ireturn, 1) := by decide +kernel
set_option maxRecDepth 20000 in
theorem ggX3_typedBefore_X1_at : GoodIn wsX3_typedBefore wsX1_at := goodIn_r _ [7, 8, 15] (by decide +kernel) (by decide +kernel)
set_option maxRecDepth 20000 in
theorem gX3_typedBefore_X1_at : GoodIn wsX3_typedBefore (wsV RX3 39 RX1 yX1_at wsX1_at) := goodIn_app (goodIn_of _ (by decide +kernel)) ggX3_typedBefore_X1_at
theorem dX3_typedBefore_0 : decode cX3_typedBefore 0 = .ok (.aload_n 0, 1) := by decide +kernel
theorem dX3_typedBefore_1 : decode cX3_typedBefore 1 = .ok (.getfield 20, 3) := by decide +kernel
theorem dX3_typedBefore_4 : decode cX3_typedBefore 4 = .ok (.aload_n 0, 1) := by decide +kernel
theorem dX3_typedBefore_5 : decode cX3_typedBefore 5 = .ok (.getfield 27, 3) := by decide +kernel
theorem dX3_typedBefore_8 : decode cX3_typedBefore 8 = .ok (.iconst 1, 1) := by decide +kernel
theorem dX3_typedBefore_9 : decode cX3_typedBefore 9 = .ok (.isub, 1) := by decide +kernel
theorem dX3_typedBefore_10 : decode cX3_typedBefore 10 = .ok (.invokevirtual 39, 3) := by decide +kernel
theorem dX3_typedBefore_13 : decode cX3_typedBefore 13 = .ok (.ireturn, 1) := by decide +kernel
set_option maxRecDepth 20000 in
theorem ggX3_type_X1_set : GoodIn wsX3_type wsX1_set := goodIn_r _ [8, 9, 16] (by decide +kernel) (by decide +kernel)
set_option maxRecDepth 20000 in
theorem gX3_type_X1_set : GoodIn wsX3_type (wsV RX3 36 RX1 yX1_set wsX1_set) := goodIn_app (goodIn_of _ (by decide +kernel)) ggX3_type_X1_set
theorem dX3_type_0 : decode cX3_type 0 = .ok (.aload_n 0, 1) := by decide +kernel
theorem dX3_type_1 : decode cX3_type 1 = .ok (.getfield 20, 3) := by decide +kernel
theorem dX3_type_4 : decode cX3_type 4 = .ok (.aload_n 0, 1) := by decide +kernel
theorem dX3_type_5 : decode cX3_type 5 = .ok (.getfield 27, 3) := by decide +kernel
theorem dX3_type_8 : decode cX3_type 8 = .ok (.iload_n 1, 1) := by decide +kernel
theorem dX3_type_9 : decode cX3_type 9 = .ok (.invokevirtual 36, 3) := by decide +kernel
theorem dX3_type_12 : decode cX3_type 12 = .ok (.aload_n 0, 1) := by decide +kernel
theorem dX3_type_13 : decode cX3_type 13 = .ok (.dup, 1) := by decide +kernel
theorem dX3_type_14 : decode cX3_type 14 = .ok (.getfield 27, 3) := by decide +kernel
theorem dX3_type_17 : decode cX3_type 17 = .ok (.iconst 1, 1) := by decide +kernel
theorem dX3_type_18 : decode cX3_type 18 = .ok (.iadd, 1) := by decide +kernel
theorem dX3_type_19 : decode cX3_type 19 = .ok (.putfield 27, 3) := by decide +kernel
theorem dX3_type_22 : decode cX3_type 22 = .ok (.aload_n 0, 1) := by decide +kernel
theorem dX3_type_23 : decode cX3_type 23 = .ok (.dup, 1) := by decide +kernel
theorem dX3_type_24 : decode cX3_type 24 = .ok (.getfield 33, 3) := by decide +kernel
theorem dX3_type_27 : decode cX3_type 27 = .ok (.iload_n 2, 1) := by decide +kernel
theorem dX3_type_28 : decode cX3_type 28 = .ok (.iadd, 1) := by decide +kernel
theorem dX3_type_29 : decode cX3_type 29 = .ok (.putfield 33, 3) := by decide +kernel
theorem dX3_type_32 : decode cX3_type 32 = .ok (.return_, 1) := by decide +kernel
theorem dX3_goBack_0 : decode cX3_goBack 0 = .ok (.aload_n 0, 1) := by decide +kernel
theorem dX3_goBack_1 : decode cX3_goBack 1 = .ok (.dup, 1) := by decide +kernel
theorem dX3_goBack_2 : decode cX3_goBack 2 = .ok (.getfield 27, 3) := by decide +kernel
theorem dX3_goBack_5 : decode cX3_goBack 5 = .ok (.iconst 1, 1) := by decide +kernel
theorem dX3_goBack_6 : decode cX3_goBack 6 = .ok (.isub, 1) := by decide +kernel
theorem dX3_goBack_7 : decode cX3_goBack 7 = .ok (.putfield 27, 3) := by decide +kernel
theorem dX3_goBack_10 : decode cX3_goBack 10 = .ok (.aload_n 0, 1) := by decide +kernel
theorem dX3_goBack_11 : decode cX3_goBack 11 = .ok (.dup, 1) := by decide +kernel
theorem dX3_goBack_12 : decode cX3_goBack 12 = .ok (.getfield 30, 3) := by decide +kernel
theorem dX3_goBack_15 : decode cX3_goBack 15 = .ok (.iconst 1, 1) := by decide +kernel
theorem dX3_goBack_16 : decode cX3_goBack 16 = .ok (.iadd, 1) := by decide +kernel
theorem dX3_goBack_17 : decode cX3_goBack 17 = .ok (.putfield 30, 3) := by decide +kernel
theorem dX3_goBack_20 : decode cX3_goBack 20 = .ok (.aload_n 0, 1) := by decide +kernel
theorem dX3_goBack_21 : decode cX3_goBack 21 = .ok (.dup, 1) := by decide +kernel
theorem dX3_goBack_22 : decode cX3_goBack 22 = .ok (.getfield 33, 3) := by decide +kernel
theorem dX3_goBack_25 : decode cX3_goBack 25 = .ok (.iload_n 1, 1) := by decide +kernel
theorem dX3_goBack_26 : decode cX3_goBack 26 = .ok (.iadd, 1) := by decide +kernel
theorem dX3_goBack_27 : decode cX3_goBack 27 = .ok (.putfield 33, 3) := by decide +kernel
theorem dX3_goBack_30 : decode cX3_goBack 30 = .ok (.return_, 1) := by decide +kernel
set_option maxRecDepth 20000 in
theorem ggX3_speedSoFar_X3_rightStrokes : GoodIn wsX3_speedSoFar wsX3_rightStrokes := goodIn_r _ [7, 8, 9, 10, 11, 12, 13, 14, 15, 16, 17, 18, 19, 20, 21, 22, 23] (by decide +kernel) (by decide +kernel)
set_option maxRecDepth 20000 in
theorem gX3_speedSoFar_X3_rightStrokes : GoodIn wsX3_speedSoFar (wsV RX3 43 RX3 yX3_rightStrokes wsX3_rightStrokes) := goodIn_app (goodIn_of _ (by decide +kernel)) ggX3_speedSoFar_X3_rightStrokes
theorem dX3_speedSoFar_0 : decode cX3_speedSoFar 0 = .ok (.aload_n 0, 1) := by decide +kernel
theorem dX3_speedSoFar_1 : decode cX3_speedSoFar 1 = .ok (.getfield 33, 3) := by decide +kernel
theorem dX3_speedSoFar_4 : decode cX3_speedSoFar 4 = .ok (.ifCond .gt 7, 3) := by decide +kernel
theorem dX3_speedSoFar_7 : decode cX3_speedSoFar 7 = .ok (.iconst 0, 1) := by decide +kernel
theorem dX3_speedSoFar_8 : decode cX3_speedSoFar 8 = .ok (.goto 15, 3) := by decide +kernel
theorem dX3_speedSoFar_11 : decode cX3_speedSoFar 11 = .ok (.aload_n 0, 1) := by decide +kernel
theorem dX3_speedSoFar_12 : decode cX3_speedSoFar 12 = .ok (.invokevirtual 43, 3) := by decide +kernel
theorem dX3_speedSoFar_15 : decode cX3_speedSoFar 15 = .ok (.ldc 47, 2) := by decide +kernel
theorem dX3_speedSoFar_17 : decode cX3_speedSoFar 17 = .ok (.imul, 1) := by decide +kernel
theorem dX3_speedSoFar_18 : decode cX3_speedSoFar 18 = .ok (.aload_n 0, 1) := by decide +kernel
theorem dX3_speedSoFar_19 : decode cX3_speedSoFar 19 = .ok (.getfield 33, 3) := by decide +kernel
theorem dX3_speedSoFar_22 : decode cX3_speedSoFar 22 = .ok (.idiv, 1) := by decide +kernel
theorem dX3_speedSoFar_23 : decode cX3_speedSoFar 23 = .ok (.ireturn, 1) := by decide +kernel
theorem dX3_beginAnew_0 : decode cX3_beginAnew 0 = .ok (.aload_n 0, 1) := by decide +kernel
theorem dX3_beginAnew_1 : decode cX3_beginAnew 1 = .ok (.iconst 0, 1) := by decide +kernel
theorem dX3_beginAnew_2 : decode cX3_beginAnew 2 = .ok (.putfield 23, 3) := by decide +kernel
theorem dX3_beginAnew_5 : decode cX3_beginAnew 5 = .ok (.aload_n 0, 1) := by decide +kernel
theorem dX3_beginAnew_6 : decode cX3_beginAnew 6 = .ok (.iconst 0, 1) := by decide +kernel
theorem dX3_beginAnew_7 : decode cX3_beginAnew 7 = .ok (.putfield 27, 3) := by decide +kernel
theorem dX3_beginAnew_10 : decode cX3_beginAnew 10 = .ok (.aload_n 0, 1) := by decide +kernel
theorem dX3_beginAnew_11 : decode cX3_beginAnew 11 = .ok (.iconst 0, 1) := by decide +kernel
theorem dX3_beginAnew_12 : decode cX3_beginAnew 12 = .ok (.putfield 30, 3) := by decide +kernel
theorem dX3_beginAnew_15 : decode cX3_beginAnew 15 = .ok (.aload_n 0, 1) := by decide +kernel
theorem dX3_beginAnew_16 : decode cX3_beginAnew 16 = .ok (.iconst 0, 1) := by decide +kernel
theorem dX3_beginAnew_17 : decode cX3_beginAnew 17 = .ok (.putfield 33, 3) := by decide +kernel
theorem dX3_beginAnew_20 : decode cX3_beginAnew 20 = .ok (.return_, 1) := by decide +kernel
set_option maxRecDepth 20000 in
theorem ggX3_rightStrokes_X1_at : GoodIn wsX3_rightStrokes wsX1_at := goodIn_r _ [8, 9, 16] (by decide +kernel) (by decide +kernel)
set_option maxRecDepth 20000 in
theorem gX3_rightStrokes_X1_at : GoodIn wsX3_rightStrokes (wsV RX3 39 RX1 yX1_at wsX1_at) := goodIn_app (goodIn_of _ (by decide +kernel)) ggX3_rightStrokes_X1_at
theorem dX3_rightStrokes_0 : decode cX3_rightStrokes 0 = .ok (.iconst 0, 1) := by decide +kernel
theorem dX3_rightStrokes_1 : decode cX3_rightStrokes 1 = .ok (.istore_n 1, 1) := by decide +kernel
theorem dX3_rightStrokes_2 : decode cX3_rightStrokes 2 = .ok (.iconst 0, 1) := by decide +kernel
theorem dX3_rightStrokes_3 : decode cX3_rightStrokes 3 = .ok (.istore_n 2, 1) := by decide +kernel
theorem dX3_rightStrokes_4 : decode cX3_rightStrokes 4 = .ok (.iload_n 2, 1) := by decide +kernel
theorem dX3_rightStrokes_5 : decode cX3_rightStrokes 5 = .ok (.aload_n 0, 1) := by decide +kernel
theorem dX3_rightStrokes_6 : decode cX3_rightStrokes 6 = .ok (.getfield 27, 3) := by decide +kernel
theorem dX3_rightStrokes_9 : decode cX3_rightStrokes 9 = .ok (.if_icmp .ge 31, 3) := by decide +kernel
theorem dX3_rightStrokes_12 : decode cX3_rightStrokes 12 = .ok (.aload_n 0, 1) := by decide +kernel
theorem dX3_rightStrokes_13 : decode cX3_rightStrokes 13 = .ok (.getfield 20, 3) := by decide +kernel
theorem dX3_rightStrokes_16 : decode cX3_rightStrokes 16 = .ok (.iload_n 2, 1) := by decide +kernel
theorem dX3_rightStrokes_17 : decode cX3_rightStrokes 17 = .ok (.invokevirtual 39, 3) := by decide +kernel
theorem dX3_rightStrokes_20 : decode cX3_rightStrokes 20 = .ok (.aload_n 0, 1) := by decide +kernel
theorem dX3_rightStrokes_21 : decode cX3_rightStrokes 21 = .ok (.getfield 14, 3) := by decide +kernel
theorem dX3_rightStrokes_24 : decode cX3_rightStrokes 24 = .ok (.iload_n 2, 1) := by decide +kernel
theorem dX3_rightStrokes_25 : decode cX3_rightStrokes 25 = .ok (.invokevirtual 39, 3) := by decide +kernel
theorem dX3_rightStrokes_28 : decode cX3_rightStrokes 28 = .ok (.if_icmp .ne 6, 3) := by decide +kernel
theorem dX3_rightStrokes_31 : decode cX3_rightStrokes 31 = .ok (.iinc 1 1, 3) := by decide +kernel
theorem dX3_rightStrokes_34 : decode cX3_rightStrokes 34 = .ok (.iinc 2 1, 3) := by decide +kernel
theorem dX3_rightStrokes_37 : decode cX3_rightStrokes 37 = .ok (.goto (-33), 3) := by decide +kernel
theorem dX3_rightStrokes_40 : decode cX3_rightStrokes 40 = .ok (.iload_n 1, 1) := by decide +kernel
theorem dX3_rightStrokes_41 : decode cX3_rightStrokes 41 = .ok (.ireturn, 1) := by decide +kernel
theorem dX4_init_0 : decode cX4_init 0 = .ok (.aload_n 0, 1) := by decide +kernel
theorem dX4_init_1 : decode cX4_init 1 = .ok (.invokespecial 3, 3) := by decide +kernel
theorem dX4_init_4 : decode cX4_init 4 = .ok (.aload_n 0, 1) := by decide +kernel
theorem dX4_init_5 : decode cX4_init 5 = .ok (.bipush 26, 2) := by decide +kernel
theorem dX4_init_7 : decode cX4_init 7 = .ok (.newarray .boolean, 2) := by decide +kernel
theorem dX4_init_9 : decode cX4_init 9 = .ok (.putfield 9, 3) := by decide +kernel
theorem dX4_init_12 : decode cX4_init 12 = .ok (.aload_n 0, 1) := by decide +kernel
theorem dX4_init_13 : decode cX4_init 13 = .ok (.aload_n 1, 1) := by decide +kernel
theorem dX4_init_14 : decode cX4_init 14 = .ok (.putfield 15, 3) := by decide +kernel
theorem dX4_init_17 : decode cX4_init 17 = .ok (.iconst 0, 1) := by decide +kernel
theorem dX4_init_18 : decode cX4_init 18 = .ok (.istore_n 2, 1) := by decide +kernel
theorem dX4_init_19 : decode cX4_init 19 = .ok (.iload_n 2, 1) := by decide +kernel
theorem dX4_init_20 : decode cX4_init 20 = .ok (.aload_n 0, 1) := by decide +kernel
theorem dX4_init_21 : decode cX4_init 21 = .ok (.getfield 9, 3) := by decide +kernel
theorem dX4_init_24 : decode cX4_init 24 = .ok (.arraylength, 1) := by decide +kernel
theorem dX4_init_25 : decode cX4_init 25 = .ok (.if_icmp .ge 25, 3) := by decide +kernel
theorem dX4_init_28 : decode cX4_init 28 = .ok (.aload_n 0, 1) := by decide +kernel
theorem dX4_init_29 : decode cX4_init 29 = .ok (.getfield 9, 3) := by decide +kernel
theorem dX4_init_32 : decode cX4_init 32 = .ok (.iload_n 2, 1) := by decide +kernel
theorem dX4_init_33 : decode cX4_init 33 = .ok (.iload_n 2, 1) := by decide +kernel
theorem dX4_init_34 : decode cX4_init 34 = .ok (.iconst 4, 1) := by decide +kernel
theorem dX4_init_35 : decode cX4_init 35 = .ok (.if_icmp .ge 7, 3) := by decide +kernel
theorem dX4_init_38 : decode cX4_init 38 = .ok (.iconst 1, 1) := by decide +kernel
theorem dX4_init_39 : decode cX4_init 39 = .ok (.goto 4, 3) := by decide +kernel
theorem dX4_init_42 : decode cX4_init 42 = .ok (.iconst 0, 1) := by decide +kernel
theorem dX4_init_43 : decode cX4_init 43 = .ok (.bastore, 1) := by decide +kernel
theorem dX4_init_44 : decode cX4_init 44 = .ok (.iinc 2 1, 3) := by decide +kernel
theorem dX4_init_47 : decode cX4_init 47 = .ok (.goto (-28), 3) := by decide +kernel
theorem dX4_init_50 : decode cX4_init 50 = .ok (.return_, 1) := by decide +kernel
theorem dX4_contains_0 : decode cX4_contains 0 = .ok (.iload_n 1, 1) := by decide +kernel
theorem dX4_contains_1 : decode cX4_contains 1 = .ok (.ifCond .lt 25, 3) := by decide +kernel
theorem dX4_contains_4 : decode cX4_contains 4 = .ok (.iload_n 1, 1) := by decide +kernel
theorem dX4_contains_5 : decode cX4_contains 5 = .ok (.aload_n 0, 1) := by decide +kernel
theorem dX4_contains_6 : decode cX4_contains 6 = .ok (.getfield 9, 3) := by decide +kernel
theorem dX4_contains_9 : decode cX4_contains 9 = .ok (.arraylength, 1) := by decide +kernel
theorem dX4_contains_10 : decode cX4_contains 10 = .ok (.if_icmp .ge 16, 3) := by decide +kernel
theorem dX4_contains_13 : decode cX4_contains 13 = .ok (.aload_n 0, 1) := by decide +kernel
theorem dX4_contains_14 : decode cX4_contains 14 = .ok (.getfield 9, 3) := by decide +kernel
theorem dX4_contains_17 : decode cX4_contains 17 = .ok (.iload_n 1, 1) := by decide +kernel
theorem dX4_contains_18 : decode cX4_contains 18 = .ok (.baload, 1) := by decide +kernel
theorem dX4_contains_19 : decode cX4_contains 19 = .ok (.ifCond .eq 7, 3) := by decide +kernel
theorem dX4_contains_22 : decode cX4_contains 22 = .ok (.iconst 1, 1) := by decide +kernel
theorem dX4_contains_23 : decode cX4_contains 23 = .ok (.goto 4, 3) := by decide +kernel
theorem dX4_contains_26 : decode cX4_contains 26 = .ok (.iconst 0, 1) := by decide +kernel
theorem dX4_contains_27 : decode cX4_contains 27 = .ok (.ireturn, 1) := by decide +kernel
set_option maxRecDepth 20000 in
theorem ggX4_weakestOfAll_X4_contains : GoodIn wsX4_weakestOfAll wsX4_contains := goodIn_r _ [6, 7, 21, 22] (by decide +kernel) (by decide +kernel)
set_option maxRecDepth 20000 in
theorem gX4_weakestOfAll_X4_contains : GoodIn wsX4_weakestOfAll (wsV RX4 19 RX4 yX4_contains wsX4_contains) := goodIn_app (goodIn_of _ (by decide +kernel)) ggX4_weakestOfAll_X4_contains
set_option maxRecDepth 20000 in
theorem ggX4_weakestOfAll_X2_isWeaker : GoodIn wsX4_weakestOfAll wsX2_isWeaker := goodIn_r _ [12, 13, 14, 15, 16, 17, 18, 19, 20, 23, 24, 25, 26, 27, 28, 29] (by decide +kernel) (by decide +kernel)
set_option maxRecDepth 20000 in
theorem gX4_weakestOfAll_X2_isWeaker : GoodIn wsX4_weakestOfAll (wsV RX4 23 RX2 yX2_isWeaker wsX2_isWeaker) := goodIn_app (goodIn_of _ (by decide +kernel)) ggX4_weakestOfAll_X2_isWeaker
theorem dX4_weakestOfAll_0 : decode cX4_weakestOfAll 0 = .ok (.iconst 0, 1) := by decide +kernel
theorem dX4_weakestOfAll_1 : decode cX4_weakestOfAll 1 = .ok (.istore_n 1, 1) := by decide +kernel
theorem dX4_weakestOfAll_2 : decode cX4_weakestOfAll 2 = .ok (.iconst 1, 1) := by decide +kernel
theorem dX4_weakestOfAll_3 : decode cX4_weakestOfAll 3 = .ok (.istore_n 2, 1) := by decide +kernel
theorem dX4_weakestOfAll_4 : decode cX4_weakestOfAll 4 = .ok (.iload_n 2, 1) := by decide +kernel
theorem dX4_weakestOfAll_5 : decode cX4_weakestOfAll 5 = .ok (.bipush 26, 2) := by decide +kernel
theorem dX4_weakestOfAll_7 : decode cX4_weakestOfAll 7 = .ok (.if_icmp .ge 31, 3) := by decide +kernel
theorem dX4_weakestOfAll_10 : decode cX4_weakestOfAll 10 = .ok (.aload_n 0, 1) := by decide +kernel
theorem dX4_weakestOfAll_11 : decode cX4_weakestOfAll 11 = .ok (.iload_n 2, 1) := by decide +kernel
theorem dX4_weakestOfAll_12 : decode cX4_weakestOfAll 12 = .ok (.invokevirtual 19, 3) := by decide +kernel
theorem dX4_weakestOfAll_15 : decode cX4_weakestOfAll 15 = .ok (.ifCond .eq 17, 3) := by decide +kernel
theorem dX4_weakestOfAll_18 : decode cX4_weakestOfAll 18 = .ok (.aload_n 0, 1) := by decide +kernel
theorem dX4_weakestOfAll_19 : decode cX4_weakestOfAll 19 = .ok (.getfield 15, 3) := by decide +kernel
theorem dX4_weakestOfAll_22 : decode cX4_weakestOfAll 22 = .ok (.iload_n 2, 1) := by decide +kernel
theorem dX4_weakestOfAll_23 : decode cX4_weakestOfAll 23 = .ok (.iload_n 1, 1) := by decide +kernel
theorem dX4_weakestOfAll_24 : decode cX4_weakestOfAll 24 = .ok (.invokevirtual 23, 3) := by decide +kernel
theorem dX4_weakestOfAll_27 : decode cX4_weakestOfAll 27 = .ok (.ifCond .eq 5, 3) := by decide +kernel
theorem dX4_weakestOfAll_30 : decode cX4_weakestOfAll 30 = .ok (.iload_n 2, 1) := by decide +kernel
theorem dX4_weakestOfAll_31 : decode cX4_weakestOfAll 31 = .ok (.istore_n 1, 1) := by decide +kernel
theorem dX4_weakestOfAll_32 : decode cX4_weakestOfAll 32 = .ok (.iinc 2 1, 3) := by decide +kernel
theorem dX4_weakestOfAll_35 : decode cX4_weakestOfAll 35 = .ok (.goto (-31), 3) := by decide +kernel
theorem dX4_weakestOfAll_38 : decode cX4_weakestOfAll 38 = .ok (.iload_n 1, 1) := by decide +kernel
theorem dX4_weakestOfAll_39 : decode cX4_weakestOfAll 39 = .ok (.ireturn, 1) := by decide +kernel
set_option maxRecDepth 20000 in
theorem ggX4_slowestBehind_X2_timeOfPair : GoodIn wsX4_slowestBehind wsX2_timeOfPair := goodIn_r _ [6, 7, 8, 9, 5, 10, 11, 12, 13, 14, 15, 16, 25, 26, 27, 28, 29, 30, 31] (by decide +kernel) (by decide +kernel)
set_option maxRecDepth 20000 in
theorem gX4_slowestBehind_X2_timeOfPair : GoodIn wsX4_slowestBehind (wsV RX4 29 RX2 yX2_timeOfPair wsX2_timeOfPair) := goodIn_app (goodIn_of _ (by decide +kernel)) ggX4_slowestBehind_X2_timeOfPair
set_option maxRecDepth 20000 in
theorem ggX4_slowestBehind_X4_contains : GoodIn wsX4_slowestBehind wsX4_contains := goodIn_r _ [21, 22, 23, 24] (by decide +kernel) (by decide +kernel)
set_option maxRecDepth 20000 in
theorem gX4_slowestBehind_X4_contains : GoodIn wsX4_slowestBehind (wsV RX4 19 RX4 yX4_contains wsX4_contains) := goodIn_app (goodIn_of _ (by decide +kernel)) ggX4_slowestBehind_X4_contains
theorem dX4_slowestBehind_0 : decode cX4_slowestBehind 0 = .ok (.iconst (-1), 1) := by decide +kernel
theorem dX4_slowestBehind_1 : decode cX4_slowestBehind 1 = .ok (.istore_n 2, 1) := by decide +kernel
theorem dX4_slowestBehind_2 : decode cX4_slowestBehind 2 = .ok (.iconst (-1), 1) := by decide +kernel
theorem dX4_slowestBehind_3 : decode cX4_slowestBehind 3 = .ok (.istore_n 3, 1) := by decide +kernel
theorem dX4_slowestBehind_4 : decode cX4_slowestBehind 4 = .ok (.iconst 0, 1) := by decide +kernel
theorem dX4_slowestBehind_5 : decode cX4_slowestBehind 5 = .ok (.istore 4, 2) := by decide +kernel
theorem dX4_slowestBehind_7 : decode cX4_slowestBehind 7 = .ok (.iload 4, 2) := by decide +kernel
theorem dX4_slowestBehind_9 : decode cX4_slowestBehind 9 = .ok (.bipush 26, 2) := by decide +kernel
theorem dX4_slowestBehind_11 : decode cX4_slowestBehind 11 = .ok (.if_icmp .ge 48, 3) := by decide +kernel
theorem dX4_slowestBehind_14 : decode cX4_slowestBehind 14 = .ok (.aload_n 0, 1) := by decide +kernel
theorem dX4_slowestBehind_15 : decode cX4_slowestBehind 15 = .ok (.getfield 15, 3) := by decide +kernel
theorem dX4_slowestBehind_18 : decode cX4_slowestBehind 18 = .ok (.iload_n 1, 1) := by decide +kernel
theorem dX4_slowestBehind_19 : decode cX4_slowestBehind 19 = .ok (.iload 4, 2) := by decide +kernel
theorem dX4_slowestBehind_21 : decode cX4_slowestBehind 21 = .ok (.invokevirtual 29, 3) := by decide +kernel
theorem dX4_slowestBehind_24 : decode cX4_slowestBehind 24 = .ok (.istore 5, 2) := by decide +kernel
theorem dX4_slowestBehind_26 : decode cX4_slowestBehind 26 = .ok (.aload_n 0, 1) := by decide +kernel
theorem dX4_slowestBehind_27 : decode cX4_slowestBehind 27 = .ok (.iload 4, 2) := by decide +kernel
theorem dX4_slowestBehind_29 : decode cX4_slowestBehind 29 = .ok (.invokevirtual 19, 3) := by decide +kernel
theorem dX4_slowestBehind_32 : decode cX4_slowestBehind 32 = .ok (.ifCond .eq 21, 3) := by decide +kernel
theorem dX4_slowestBehind_35 : decode cX4_slowestBehind 35 = .ok (.iload 4, 2) := by decide +kernel
theorem dX4_slowestBehind_37 : decode cX4_slowestBehind 37 = .ok (.iload_n 1, 1) := by decide +kernel
theorem dX4_slowestBehind_38 : decode cX4_slowestBehind 38 = .ok (.if_icmp .eq 15, 3) := by decide +kernel
theorem dX4_slowestBehind_41 : decode cX4_slowestBehind 41 = .ok (.iload 5, 2) := by decide +kernel
theorem dX4_slowestBehind_43 : decode cX4_slowestBehind 43 = .ok (.iload_n 3, 1) := by decide +kernel
theorem dX4_slowestBehind_44 : decode cX4_slowestBehind 44 = .ok (.if_icmp .le 9, 3) := by decide +kernel
theorem dX4_slowestBehind_47 : decode cX4_slowestBehind 47 = .ok (.iload 4, 2) := by decide +kernel
theorem dX4_slowestBehind_49 : decode cX4_slowestBehind 49 = .ok (.istore_n 2, 1) := by decide +kernel
theorem dX4_slowestBehind_50 : decode cX4_slowestBehind 50 = .ok (.iload 5, 2) := by decide +kernel
theorem dX4_slowestBehind_52 : decode cX4_slowestBehind 52 = .ok (.istore_n 3, 1) := by decide +kernel
theorem dX4_slowestBehind_53 : decode cX4_slowestBehind 53 = .ok (.iinc 4 1, 3) := by decide +kernel
theorem dX4_slowestBehind_56 : decode cX4_slowestBehind 56 = .ok (.goto (-49), 3) := by decide +kernel
theorem dX4_slowestBehind_59 : decode cX4_slowestBehind 59 = .ok (.iload_n 2, 1) := by decide +kernel
theorem dX4_slowestBehind_60 : decode cX4_slowestBehind 60 = .ok (.ireturn, 1) := by decide +kernel
set_option maxRecDepth 20000 in
theorem ggX4_review_X4_takeOut : GoodIn wsX4_review wsX4_takeOut := goodIn_r _ [5, 6, 7, 8, 9, 10, 4, 11, 12, 13, 14, 15, 16, 17, 18, 19, 20, 21, 22, 23, 24, 25, 26, 27, 28, 29, 30, 31, 32, 33, 48, 49, 50, 51, 52, 53, 54, 55, 56] (by decide +kernel) (by decide +kernel)
set_option maxRecDepth 20000 in
theorem gX4_review_X4_takeOut : GoodIn wsX4_review (wsV RX4 33 RX4 yX4_takeOut wsX4_takeOut) := goodIn_app (goodIn_of _ (by decide +kernel)) ggX4_review_X4_takeOut
set_option maxRecDepth 20000 in
theorem ggX4_review_X4_areAllGood : GoodIn wsX4_review wsX4_areAllGood := goodIn_r _ [37, 7, 8, 9, 10, 4, 11, 6, 38, 39, 40, 15, 41, 17, 29, 42, 18, 43, 19, 20, 21, 22, 23, 24, 48, 49, 50, 51, 52, 53, 54, 55, 56] (by decide +kernel) (by decide +kernel)
set_option maxRecDepth 20000 in
theorem gX4_review_X4_areAllGood : GoodIn wsX4_review (wsV RX4 37 RX4 yX4_areAllGood wsX4_areAllGood) := goodIn_app (goodIn_of _ (by decide +kernel)) ggX4_review_X4_areAllGood
set_option maxRecDepth 20000 in
theorem ggX4_review_X4_letIn : GoodIn wsX4_review wsX4_letIn := goodIn_r _ [47, 6, 8, 9, 10, 4, 11, 48, 49] (by decide +kernel) (by decide +kernel)
set_option maxRecDepth 20000 in
theorem gX4_review_X4_letIn : GoodIn wsX4_review (wsV RX4 40 RX4 yX4_letIn wsX4_letIn) := goodIn_app (goodIn_of _ (by decide +kernel)) ggX4_review_X4_letIn
theorem dX4_review_0 : decode cX4_review 0 = .ok (.aload_n 0, 1) := by decide +kernel
theorem dX4_review_1 : decode cX4_review 1 = .ok (.invokevirtual 33, 3) := by decide +kernel
theorem dX4_review_4 : decode cX4_review 4 = .ok (.ifCond .ne 10, 3) := by decide +kernel
theorem dX4_review_7 : decode cX4_review 7 = .ok (.aload_n 0, 1) := by decide +kernel
theorem dX4_review_8 : decode cX4_review 8 = .ok (.invokevirtual 37, 3) := by decide +kernel
theorem dX4_review_11 : decode cX4_review 11 = .ok (.ifCond .ne 7, 3) := by decide +kernel
theorem dX4_review_14 : decode cX4_review 14 = .ok (.iconst (-1), 1) := by decide +kernel
theorem dX4_review_15 : decode cX4_review 15 = .ok (.goto 7, 3) := by decide +kernel
theorem dX4_review_18 : decode cX4_review 18 = .ok (.aload_n 0, 1) := by decide +kernel
theorem dX4_review_19 : decode cX4_review 19 = .ok (.invokevirtual 40, 3) := by decide +kernel
theorem dX4_review_22 : decode cX4_review 22 = .ok (.ireturn, 1) := by decide +kernel
set_option maxRecDepth 20000 in
theorem ggX4_takeOut_X4_contains : GoodIn wsX4_takeOut wsX4_contains := goodIn_r _ [7, 1, 30, 31] (by decide +kernel) (by decide +kernel)
set_option maxRecDepth 20000 in
theorem gX4_takeOut_X4_contains : GoodIn wsX4_takeOut (wsV RX4 19 RX4 yX4_contains wsX4_contains) := goodIn_app (goodIn_of _ (by decide +kernel)) ggX4_takeOut_X4_contains
set_option maxRecDepth 20000 in
theorem ggX4_takeOut_X2_mustGoOut : GoodIn wsX4_takeOut wsX2_mustGoOut := goodIn_r _ [12, 13, 14, 15, 16, 17, 18, 19, 20, 32, 33, 34, 35, 36, 37, 38] (by decide +kernel) (by decide +kernel)
set_option maxRecDepth 20000 in
theorem gX4_takeOut_X2_mustGoOut : GoodIn wsX4_takeOut (wsV RX4 44 RX2 yX2_mustGoOut wsX2_mustGoOut) := goodIn_app (goodIn_of _ (by decide +kernel)) ggX4_takeOut_X2_mustGoOut
set_option maxRecDepth 20000 in
theorem ggX4_takeOut_X2_forget : GoodIn wsX4_takeOut wsX2_forget := goodIn_r _ [24, 13, 25, 14, 26, 27, 28, 18, 29, 20, 32, 33, 34, 35, 36, 37, 38] (by decide +kernel) (by decide +kernel)
set_option maxRecDepth 20000 in
theorem gX4_takeOut_X2_forget : GoodIn wsX4_takeOut (wsV RX4 47 RX2 yX2_forget wsX2_forget) := goodIn_app (goodIn_of _ (by decide +kernel)) ggX4_takeOut_X2_forget
theorem dX4_takeOut_0 : decode cX4_takeOut 0 = .ok (.iconst 0, 1) := by decide +kernel
theorem dX4_takeOut_1 : decode cX4_takeOut 1 = .ok (.istore_n 1, 1) := by decide +kernel
theorem dX4_takeOut_2 : decode cX4_takeOut 2 = .ok (.iconst 4, 1) := by decide +kernel
theorem dX4_takeOut_3 : decode cX4_takeOut 3 = .ok (.istore_n 2, 1) := by decide +kernel
theorem dX4_takeOut_4 : decode cX4_takeOut 4 = .ok (.iload_n 2, 1) := by decide +kernel
theorem dX4_takeOut_5 : decode cX4_takeOut 5 = .ok (.aload_n 0, 1) := by decide +kernel
theorem dX4_takeOut_6 : decode cX4_takeOut 6 = .ok (.getfield 9, 3) := by decide +kernel
theorem dX4_takeOut_9 : decode cX4_takeOut 9 = .ok (.arraylength, 1) := by decide +kernel
theorem dX4_takeOut_10 : decode cX4_takeOut 10 = .ok (.if_icmp .ge 45, 3) := by decide +kernel
theorem dX4_takeOut_13 : decode cX4_takeOut 13 = .ok (.aload_n 0, 1) := by decide +kernel
theorem dX4_takeOut_14 : decode cX4_takeOut 14 = .ok (.iload_n 2, 1) := by decide +kernel
theorem dX4_takeOut_15 : decode cX4_takeOut 15 = .ok (.invokevirtual 19, 3) := by decide +kernel
theorem dX4_takeOut_18 : decode cX4_takeOut 18 = .ok (.ifCond .eq 31, 3) := by decide +kernel
theorem dX4_takeOut_21 : decode cX4_takeOut 21 = .ok (.aload_n 0, 1) := by decide +kernel
theorem dX4_takeOut_22 : decode cX4_takeOut 22 = .ok (.getfield 15, 3) := by decide +kernel
theorem dX4_takeOut_25 : decode cX4_takeOut 25 = .ok (.iload_n 2, 1) := by decide +kernel
theorem dX4_takeOut_26 : decode cX4_takeOut 26 = .ok (.invokevirtual 44, 3) := by decide +kernel
theorem dX4_takeOut_29 : decode cX4_takeOut 29 = .ok (.ifCond .eq 20, 3) := by decide +kernel
theorem dX4_takeOut_32 : decode cX4_takeOut 32 = .ok (.aload_n 0, 1) := by decide +kernel
theorem dX4_takeOut_33 : decode cX4_takeOut 33 = .ok (.getfield 9, 3) := by decide +kernel
theorem dX4_takeOut_36 : decode cX4_takeOut 36 = .ok (.iload_n 2, 1) := by decide +kernel
theorem dX4_takeOut_37 : decode cX4_takeOut 37 = .ok (.iconst 0, 1) := by decide +kernel
theorem dX4_takeOut_38 : decode cX4_takeOut 38 = .ok (.bastore, 1) := by decide +kernel
theorem dX4_takeOut_39 : decode cX4_takeOut 39 = .ok (.aload_n 0, 1) := by decide +kernel
theorem dX4_takeOut_40 : decode cX4_takeOut 40 = .ok (.getfield 15, 3) := by decide +kernel
theorem dX4_takeOut_43 : decode cX4_takeOut 43 = .ok (.iload_n 2, 1) := by decide +kernel
theorem dX4_takeOut_44 : decode cX4_takeOut 44 = .ok (.invokevirtual 47, 3) := by decide +kernel
theorem dX4_takeOut_47 : decode cX4_takeOut 47 = .ok (.iconst 1, 1) := by decide +kernel
theorem dX4_takeOut_48 : decode cX4_takeOut 48 = .ok (.istore_n 1, 1) := by decide +kernel
theorem dX4_takeOut_49 : decode cX4_takeOut 49 = .ok (.iinc 2 1, 3) := by decide +kernel
theorem dX4_takeOut_52 : decode cX4_takeOut 52 = .ok (.goto (-48), 3) := by decide +kernel
theorem dX4_takeOut_55 : decode cX4_takeOut 55 = .ok (.iload_n 1, 1) := by decide +kernel
theorem dX4_takeOut_56 : decode cX4_takeOut 56 = .ok (.ireturn, 1) := by decide +kernel
set_option maxRecDepth 20000 in
theorem ggX4_areAllGood_X4_contains : GoodIn wsX4_areAllGood wsX4_contains := goodIn_r _ [6, 7, 24, 25] (by decide +kernel) (by decide +kernel)
set_option maxRecDepth 20000 in
theorem gX4_areAllGood_X4_contains : GoodIn wsX4_areAllGood (wsV RX4 19 RX4 yX4_contains wsX4_contains) := goodIn_app (goodIn_of _ (by decide +kernel)) ggX4_areAllGood_X4_contains
set_option maxRecDepth 20000 in
theorem ggX4_areAllGood_X2_fulfilsWish : GoodIn wsX4_areAllGood wsX2_fulfilsWish := goodIn_r _ [12, 13, 14, 15, 16, 17, 18, 19, 20, 21, 22, 23, 26, 27, 28, 29, 30, 31, 32] (by decide +kernel) (by decide +kernel)
set_option maxRecDepth 20000 in
theorem gX4_areAllGood_X2_fulfilsWish : GoodIn wsX4_areAllGood (wsV RX4 51 RX2 yX2_fulfilsWish wsX2_fulfilsWish) := goodIn_app (goodIn_of _ (by decide +kernel)) ggX4_areAllGood_X2_fulfilsWish
theorem dX4_areAllGood_0 : decode cX4_areAllGood 0 = .ok (.iconst 0, 1) := by decide +kernel
theorem dX4_areAllGood_1 : decode cX4_areAllGood 1 = .ok (.istore_n 1, 1) := by decide +kernel
theorem dX4_areAllGood_2 : decode cX4_areAllGood 2 = .ok (.iload_n 1, 1) := by decide +kernel
theorem dX4_areAllGood_3 : decode cX4_areAllGood 3 = .ok (.bipush 26, 2) := by decide +kernel
theorem dX4_areAllGood_5 : decode cX4_areAllGood 5 = .ok (.if_icmp .ge 30, 3) := by decide +kernel
theorem dX4_areAllGood_8 : decode cX4_areAllGood 8 = .ok (.aload_n 0, 1) := by decide +kernel
theorem dX4_areAllGood_9 : decode cX4_areAllGood 9 = .ok (.iload_n 1, 1) := by decide +kernel
theorem dX4_areAllGood_10 : decode cX4_areAllGood 10 = .ok (.invokevirtual 19, 3) := by decide +kernel
theorem dX4_areAllGood_13 : decode cX4_areAllGood 13 = .ok (.ifCond .eq 16, 3) := by decide +kernel
theorem dX4_areAllGood_16 : decode cX4_areAllGood 16 = .ok (.aload_n 0, 1) := by decide +kernel
theorem dX4_areAllGood_17 : decode cX4_areAllGood 17 = .ok (.getfield 15, 3) := by decide +kernel
theorem dX4_areAllGood_20 : decode cX4_areAllGood 20 = .ok (.iload_n 1, 1) := by decide +kernel
theorem dX4_areAllGood_21 : decode cX4_areAllGood 21 = .ok (.invokevirtual 51, 3) := by decide +kernel
theorem dX4_areAllGood_24 : decode cX4_areAllGood 24 = .ok (.ifCond .ne 5, 3) := by decide +kernel
theorem dX4_areAllGood_27 : decode cX4_areAllGood 27 = .ok (.iconst 0, 1) := by decide +kernel
theorem dX4_areAllGood_28 : decode cX4_areAllGood 28 = .ok (.ireturn, 1) := by decide +kernel
theorem dX4_areAllGood_29 : decode cX4_areAllGood 29 = .ok (.iinc 1 1, 3) := by decide +kernel
theorem dX4_areAllGood_32 : decode cX4_areAllGood 32 = .ok (.goto (-30), 3) := by decide +kernel
theorem dX4_areAllGood_35 : decode cX4_areAllGood 35 = .ok (.iconst 1, 1) := by decide +kernel
theorem dX4_areAllGood_36 : decode cX4_areAllGood 36 = .ok (.ireturn, 1) := by decide +kernel
set_option maxRecDepth 20000 in
theorem ggX4_letIn_X4_contains : GoodIn wsX4_letIn wsX4_contains := goodIn_r _ [6, 1, 7, 8] (by decide +kernel) (by decide +kernel)
set_option maxRecDepth 20000 in
theorem gX4_letIn_X4_contains : GoodIn wsX4_letIn (wsV RX4 19 RX4 yX4_contains wsX4_contains) := goodIn_app (goodIn_of _ (by decide +kernel)) ggX4_letIn_X4_contains
theorem dX4_letIn_0 : decode cX4_letIn 0 = .ok (.iconst 0, 1) := by decide +kernel
theorem dX4_letIn_1 : decode cX4_letIn 1 = .ok (.istore_n 1, 1) := by decide +kernel
theorem dX4_letIn_2 : decode cX4_letIn 2 = .ok (.iload_n 1, 1) := by decide +kernel
theorem dX4_letIn_3 : decode cX4_letIn 3 = .ok (.aload_n 0, 1) := by decide +kernel
theorem dX4_letIn_4 : decode cX4_letIn 4 = .ok (.getfield 9, 3) := by decide +kernel
theorem dX4_letIn_7 : decode cX4_letIn 7 = .ok (.arraylength, 1) := by decide +kernel
theorem dX4_letIn_8 : decode cX4_letIn 8 = .ok (.if_icmp .ge 26, 3) := by decide +kernel
theorem dX4_letIn_11 : decode cX4_letIn 11 = .ok (.aload_n 0, 1) := by decide +kernel
theorem dX4_letIn_12 : decode cX4_letIn 12 = .ok (.iload_n 1, 1) := by decide +kernel
theorem dX4_letIn_13 : decode cX4_letIn 13 = .ok (.invokevirtual 19, 3) := by decide +kernel
theorem dX4_letIn_16 : decode cX4_letIn 16 = .ok (.ifCond .ne 12, 3) := by decide +kernel
theorem dX4_letIn_19 : decode cX4_letIn 19 = .ok (.aload_n 0, 1) := by decide +kernel
theorem dX4_letIn_20 : decode cX4_letIn 20 = .ok (.getfield 9, 3) := by decide +kernel
theorem dX4_letIn_23 : decode cX4_letIn 23 = .ok (.iload_n 1, 1) := by decide +kernel
theorem dX4_letIn_24 : decode cX4_letIn 24 = .ok (.iconst 1, 1) := by decide +kernel
theorem dX4_letIn_25 : decode cX4_letIn 25 = .ok (.bastore, 1) := by decide +kernel
theorem dX4_letIn_26 : decode cX4_letIn 26 = .ok (.iload_n 1, 1) := by decide +kernel
theorem dX4_letIn_27 : decode cX4_letIn 27 = .ok (.ireturn, 1) := by decide +kernel
theorem dX4_letIn_28 : decode cX4_letIn 28 = .ok (.iinc 1 1, 3) := by decide +kernel
theorem dX4_letIn_31 : decode cX4_letIn 31 = .ok (.goto (-29), 3) := by decide +kernel
theorem dX4_letIn_34 : decode cX4_letIn 34 = .ok (.iconst (-1), 1) := by decide +kernel
theorem dX4_letIn_35 : decode cX4_letIn 35 = .ok (.ireturn, 1) := by decide +kernel
set_option maxRecDepth 20000 in
theorem ggX5_init_X1_init : GoodIn wsX5_init wsX1_init := goodIn_r _ [11, 12, 2, 3, 13, 14, 15, 16, 17, 18, 19, 20, 21, 22, 23] (by decide +kernel) (by decide +kernel)
set_option maxRecDepth 20000 in
theorem gX5_init_X1_init : GoodIn wsX5_init (wsX1_init) := ggX5_init_X1_init
theorem dX5_init_0 : decode cX5_init 0 = .ok (.aload_n 0, 1) := by decide +kernel
theorem dX5_init_1 : decode cX5_init 1 = .ok (.invokespecial 3, 3) := by decide +kernel
theorem dX5_init_4 : decode cX5_init 4 = .ok (.aload_n 0, 1) := by decide +kernel
theorem dX5_init_5 : decode cX5_init 5 = .ok (.new 9, 3) := by decide +kernel
theorem dX5_init_8 : decode cX5_init 8 = .ok (.dup, 1) := by decide +kernel
theorem dX5_init_9 : decode cX5_init 9 = .ok (.bipush 100, 2) := by decide +kernel
theorem dX5_init_11 : decode cX5_init 11 = .ok (.iconst 0, 1) := by decide +kernel
theorem dX5_init_12 : decode cX5_init 12 = .ok (.invokespecial 11, 3) := by decide +kernel
theorem dX5_init_15 : decode cX5_init 15 = .ok (.putfield 14, 3) := by decide +kernel
theorem dX5_init_18 : decode cX5_init 18 = .ok (.aload_n 0, 1) := by decide +kernel
theorem dX5_init_19 : decode cX5_init 19 = .ok (.iconst 0, 1) := by decide +kernel
theorem dX5_init_20 : decode cX5_init 20 = .ok (.putfield 20, 3) := by decide +kernel
theorem dX5_init_23 : decode cX5_init 23 = .ok (.return_, 1) := by decide +kernel
theorem dX5_isFull_0 : decode cX5_isFull 0 = .ok (.aload_n 0, 1) := by decide +kernel
theorem dX5_isFull_1 : decode cX5_isFull 1 = .ok (.getfield 20, 3) := by decide +kernel
theorem dX5_isFull_4 : decode cX5_isFull 4 = .ok (.bipush 100, 2) := by decide +kernel
theorem dX5_isFull_6 : decode cX5_isFull 6 = .ok (.if_icmp .lt 7, 3) := by decide +kernel
theorem dX5_isFull_9 : decode cX5_isFull 9 = .ok (.iconst 1, 1) := by decide +kernel
theorem dX5_isFull_10 : decode cX5_isFull 10 = .ok (.goto 4, 3) := by decide +kernel
theorem dX5_isFull_13 : decode cX5_isFull 13 = .ok (.iconst 0, 1) := by decide +kernel
theorem dX5_isFull_14 : decode cX5_isFull 14 = .ok (.ireturn, 1) := by decide +kernel
set_option maxRecDepth 20000 in
theorem ggX5_keep_X1_set : GoodIn wsX5_keep wsX1_set := goodIn_r _ [7, 8, 11] (by decide +kernel) (by decide +kernel)
set_option maxRecDepth 20000 in
theorem gX5_keep_X1_set : GoodIn wsX5_keep (wsV RX5 24 RX1 yX1_set wsX1_set) := goodIn_app (goodIn_of _ (by decide +kernel)) ggX5_keep_X1_set
theorem dX5_keep_0 : decode cX5_keep 0 = .ok (.aload_n 0, 1) := by decide +kernel
theorem dX5_keep_1 : decode cX5_keep 1 = .ok (.getfield 14, 3) := by decide +kernel
theorem dX5_keep_4 : decode cX5_keep 4 = .ok (.aload_n 0, 1) := by decide +kernel
theorem dX5_keep_5 : decode cX5_keep 5 = .ok (.getfield 20, 3) := by decide +kernel
theorem dX5_keep_8 : decode cX5_keep 8 = .ok (.iload_n 1, 1) := by decide +kernel
theorem dX5_keep_9 : decode cX5_keep 9 = .ok (.invokevirtual 24, 3) := by decide +kernel
theorem dX5_keep_12 : decode cX5_keep 12 = .ok (.aload_n 0, 1) := by decide +kernel
theorem dX5_keep_13 : decode cX5_keep 13 = .ok (.dup, 1) := by decide +kernel
theorem dX5_keep_14 : decode cX5_keep 14 = .ok (.getfield 20, 3) := by decide +kernel
theorem dX5_keep_17 : decode cX5_keep 17 = .ok (.iconst 1, 1) := by decide +kernel
theorem dX5_keep_18 : decode cX5_keep 18 = .ok (.iadd, 1) := by decide +kernel
theorem dX5_keep_19 : decode cX5_keep 19 = .ok (.putfield 20, 3) := by decide +kernel
theorem dX5_keep_22 : decode cX5_keep 22 = .ok (.return_, 1) := by decide +kernel
set_option maxRecDepth 20000 in
theorem ggX5_fallsAtTheEnd_X1_at : GoodIn wsX5_fallsAtTheEnd wsX1_at := goodIn_r _ [7, 8, 11] (by decide +kernel) (by decide +kernel)
set_option maxRecDepth 20000 in
theorem gX5_fallsAtTheEnd_X1_at : GoodIn wsX5_fallsAtTheEnd (wsV RX5 27 RX1 yX1_at wsX1_at) := goodIn_app (goodIn_of _ (by decide +kernel)) ggX5_fallsAtTheEnd_X1_at
theorem dX5_fallsAtTheEnd_0 : decode cX5_fallsAtTheEnd 0 = .ok (.iconst 0, 1) := by decide +kernel
theorem dX5_fallsAtTheEnd_1 : decode cX5_fallsAtTheEnd 1 = .ok (.istore_n 1, 1) := by decide +kernel
theorem dX5_fallsAtTheEnd_2 : decode cX5_fallsAtTheEnd 2 = .ok (.aload_n 0, 1) := by decide +kernel
theorem dX5_fallsAtTheEnd_3 : decode cX5_fallsAtTheEnd 3 = .ok (.getfield 20, 3) := by decide +kernel
theorem dX5_fallsAtTheEnd_6 : decode cX5_fallsAtTheEnd 6 = .ok (.iconst 1, 1) := by decide +kernel
theorem dX5_fallsAtTheEnd_7 : decode cX5_fallsAtTheEnd 7 = .ok (.isub, 1) := by decide +kernel
theorem dX5_fallsAtTheEnd_8 : decode cX5_fallsAtTheEnd 8 = .ok (.istore_n 2, 1) := by decide +kernel
theorem dX5_fallsAtTheEnd_9 : decode cX5_fallsAtTheEnd 9 = .ok (.iload_n 2, 1) := by decide +kernel
theorem dX5_fallsAtTheEnd_10 : decode cX5_fallsAtTheEnd 10 = .ok (.ifCond .le 33, 3) := by decide +kernel
theorem dX5_fallsAtTheEnd_13 : decode cX5_fallsAtTheEnd 13 = .ok (.aload_n 0, 1) := by decide +kernel
theorem dX5_fallsAtTheEnd_14 : decode cX5_fallsAtTheEnd 14 = .ok (.getfield 14, 3) := by decide +kernel
theorem dX5_fallsAtTheEnd_17 : decode cX5_fallsAtTheEnd 17 = .ok (.iload_n 2, 1) := by decide +kernel
theorem dX5_fallsAtTheEnd_18 : decode cX5_fallsAtTheEnd 18 = .ok (.invokevirtual 27, 3) := by decide +kernel
theorem dX5_fallsAtTheEnd_21 : decode cX5_fallsAtTheEnd 21 = .ok (.aload_n 0, 1) := by decide +kernel
theorem dX5_fallsAtTheEnd_22 : decode cX5_fallsAtTheEnd 22 = .ok (.getfield 14, 3) := by decide +kernel
theorem dX5_fallsAtTheEnd_25 : decode cX5_fallsAtTheEnd 25 = .ok (.iload_n 2, 1) := by decide +kernel
theorem dX5_fallsAtTheEnd_26 : decode cX5_fallsAtTheEnd 26 = .ok (.iconst 1, 1) := by decide +kernel
theorem dX5_fallsAtTheEnd_27 : decode cX5_fallsAtTheEnd 27 = .ok (.isub, 1) := by decide +kernel
theorem dX5_fallsAtTheEnd_28 : decode cX5_fallsAtTheEnd 28 = .ok (.invokevirtual 27, 3) := by decide +kernel
theorem dX5_fallsAtTheEnd_31 : decode cX5_fallsAtTheEnd 31 = .ok (.if_icmp .ge 12, 3) := by decide +kernel
theorem dX5_fallsAtTheEnd_34 : decode cX5_fallsAtTheEnd 34 = .ok (.iinc 1 1, 3) := by decide +kernel
theorem dX5_fallsAtTheEnd_37 : decode cX5_fallsAtTheEnd 37 = .ok (.iinc 2 (-1), 3) := by decide +kernel
theorem dX5_fallsAtTheEnd_40 : decode cX5_fallsAtTheEnd 40 = .ok (.goto (-31), 3) := by decide +kernel
theorem dX5_fallsAtTheEnd_43 : decode cX5_fallsAtTheEnd 43 = .ok (.iload_n 1, 1) := by decide +kernel
theorem dX5_fallsAtTheEnd_44 : decode cX5_fallsAtTheEnd 44 = .ok (.ireturn, 1) := by decide +kernel
