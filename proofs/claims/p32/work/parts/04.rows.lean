set_option maxRecDepth 20000 in
theorem ggX0_init_X1_init : GoodIn wsX0_init wsX1_init := goodIn_r _ [11, 12, 2, 3, 13, 14, 15, 16, 17, 18, 19, 20, 21, 22, 27] (by decide +kernel) (by decide +kernel)
set_option maxRecDepth 20000 in
theorem gX0_init_X1_init : GoodIn wsX0_init (wsX1_init) := ggX0_init_X1_init
set_option maxRecDepth 20000 in
theorem ggX0_init_X1_set : GoodIn wsX0_init wsX1_set := goodIn_r _ [26, 18, 27] (by decide +kernel) (by decide +kernel)
set_option maxRecDepth 20000 in
theorem gX0_init_X1_set : GoodIn wsX0_init (wsV RX0 23 RX1 yX1_set wsX1_set) := goodIn_app (goodIn_of _ (by decide +kernel)) ggX0_init_X1_set
theorem dX0_init_0 : decode cX0_init 0 = .ok (.aload_n 0, 1) := by decide +kernel
theorem dX0_init_1 : decode cX0_init 1 = .ok (.invokespecial 3, 3) := by decide +kernel
theorem dX0_init_4 : decode cX0_init 4 = .ok (.aload_n 0, 1) := by decide +kernel
theorem dX0_init_5 : decode cX0_init 5 = .ok (.new 9, 3) := by decide +kernel
theorem dX0_init_8 : decode cX0_init 8 = .ok (.dup, 1) := by decide +kernel
theorem dX0_init_9 : decode cX0_init 9 = .ok (.bipush 26, 2) := by decide +kernel
theorem dX0_init_11 : decode cX0_init 11 = .ok (.iconst 0, 1) := by decide +kernel
theorem dX0_init_12 : decode cX0_init 12 = .ok (.invokespecial 11, 3) := by decide +kernel
theorem dX0_init_15 : decode cX0_init 15 = .ok (.putfield 14, 3) := by decide +kernel
theorem dX0_init_18 : decode cX0_init 18 = .ok (.aload_n 0, 1) := by decide +kernel
theorem dX0_init_19 : decode cX0_init 19 = .ok (.new 9, 3) := by decide +kernel
theorem dX0_init_22 : decode cX0_init 22 = .ok (.dup, 1) := by decide +kernel
theorem dX0_init_23 : decode cX0_init 23 = .ok (.bipush 30, 2) := by decide +kernel
theorem dX0_init_25 : decode cX0_init 25 = .ok (.iconst (-1), 1) := by decide +kernel
theorem dX0_init_26 : decode cX0_init 26 = .ok (.invokespecial 11, 3) := by decide +kernel
theorem dX0_init_29 : decode cX0_init 29 = .ok (.putfield 20, 3) := by decide +kernel
theorem dX0_init_32 : decode cX0_init 32 = .ok (.iconst 0, 1) := by decide +kernel
theorem dX0_init_33 : decode cX0_init 33 = .ok (.istore_n 1, 1) := by decide +kernel
theorem dX0_init_34 : decode cX0_init 34 = .ok (.iload_n 1, 1) := by decide +kernel
theorem dX0_init_35 : decode cX0_init 35 = .ok (.bipush 26, 2) := by decide +kernel
theorem dX0_init_37 : decode cX0_init 37 = .ok (.if_icmp .ge 27, 3) := by decide +kernel
theorem dX0_init_40 : decode cX0_init 40 = .ok (.aload_n 0, 1) := by decide +kernel
theorem dX0_init_41 : decode cX0_init 41 = .ok (.getfield 14, 3) := by decide +kernel
theorem dX0_init_44 : decode cX0_init 44 = .ok (.iload_n 1, 1) := by decide +kernel
theorem dX0_init_45 : decode cX0_init 45 = .ok (.iload_n 1, 1) := by decide +kernel
theorem dX0_init_46 : decode cX0_init 46 = .ok (.invokevirtual 23, 3) := by decide +kernel
theorem dX0_init_49 : decode cX0_init 49 = .ok (.aload_n 0, 1) := by decide +kernel
theorem dX0_init_50 : decode cX0_init 50 = .ok (.getfield 20, 3) := by decide +kernel
theorem dX0_init_53 : decode cX0_init 53 = .ok (.iload_n 1, 1) := by decide +kernel
theorem dX0_init_54 : decode cX0_init 54 = .ok (.iload_n 1, 1) := by decide +kernel
theorem dX0_init_55 : decode cX0_init 55 = .ok (.invokevirtual 23, 3) := by decide +kernel
theorem dX0_init_58 : decode cX0_init 58 = .ok (.iinc 1 1, 3) := by decide +kernel
theorem dX0_init_61 : decode cX0_init 61 = .ok (.goto (-27), 3) := by decide +kernel
theorem dX0_init_64 : decode cX0_init 64 = .ok (.return_, 1) := by decide +kernel
set_option maxRecDepth 20000 in
theorem ggX0_move_X1_at : GoodIn wsX0_move wsX1_at := goodIn_r _ [7, 8, 15] (by decide +kernel) (by decide +kernel)
set_option maxRecDepth 20000 in
theorem gX0_move_X1_at : GoodIn wsX0_move (wsV RX0 26 RX1 yX1_at wsX1_at) := goodIn_app (goodIn_of _ (by decide +kernel)) ggX0_move_X1_at
set_option maxRecDepth 20000 in
theorem ggX0_move_X1_set : GoodIn wsX0_move wsX1_set := goodIn_r _ [12, 8, 15] (by decide +kernel) (by decide +kernel)
set_option maxRecDepth 20000 in
theorem gX0_move_X1_set : GoodIn wsX0_move (wsV RX0 23 RX1 yX1_set wsX1_set) := goodIn_app (goodIn_of _ (by decide +kernel)) ggX0_move_X1_set
theorem dX0_move_0 : decode cX0_move 0 = .ok (.aload_n 0, 1) := by decide +kernel
theorem dX0_move_1 : decode cX0_move 1 = .ok (.getfield 20, 3) := by decide +kernel
theorem dX0_move_4 : decode cX0_move 4 = .ok (.iload_n 2, 1) := by decide +kernel
theorem dX0_move_5 : decode cX0_move 5 = .ok (.invokevirtual 26, 3) := by decide +kernel
theorem dX0_move_8 : decode cX0_move 8 = .ok (.istore_n 3, 1) := by decide +kernel
theorem dX0_move_9 : decode cX0_move 9 = .ok (.aload_n 0, 1) := by decide +kernel
theorem dX0_move_10 : decode cX0_move 10 = .ok (.getfield 14, 3) := by decide +kernel
theorem dX0_move_13 : decode cX0_move 13 = .ok (.iload_n 1, 1) := by decide +kernel
theorem dX0_move_14 : decode cX0_move 14 = .ok (.invokevirtual 26, 3) := by decide +kernel
theorem dX0_move_17 : decode cX0_move 17 = .ok (.istore 4, 2) := by decide +kernel
theorem dX0_move_19 : decode cX0_move 19 = .ok (.aload_n 0, 1) := by decide +kernel
theorem dX0_move_20 : decode cX0_move 20 = .ok (.getfield 20, 3) := by decide +kernel
theorem dX0_move_23 : decode cX0_move 23 = .ok (.iload 4, 2) := by decide +kernel
theorem dX0_move_25 : decode cX0_move 25 = .ok (.iload_n 3, 1) := by decide +kernel
theorem dX0_move_26 : decode cX0_move 26 = .ok (.invokevirtual 23, 3) := by decide +kernel
theorem dX0_move_29 : decode cX0_move 29 = .ok (.iload_n 3, 1) := by decide +kernel
theorem dX0_move_30 : decode cX0_move 30 = .ok (.iconst (-1), 1) := by decide +kernel
theorem dX0_move_31 : decode cX0_move 31 = .ok (.if_icmp .eq 13, 3) := by decide +kernel
theorem dX0_move_34 : decode cX0_move 34 = .ok (.aload_n 0, 1) := by decide +kernel
theorem dX0_move_35 : decode cX0_move 35 = .ok (.getfield 14, 3) := by decide +kernel
theorem dX0_move_38 : decode cX0_move 38 = .ok (.iload_n 3, 1) := by decide +kernel
theorem dX0_move_39 : decode cX0_move 39 = .ok (.iload 4, 2) := by decide +kernel
theorem dX0_move_41 : decode cX0_move 41 = .ok (.invokevirtual 23, 3) := by decide +kernel
theorem dX0_move_44 : decode cX0_move 44 = .ok (.aload_n 0, 1) := by decide +kernel
theorem dX0_move_45 : decode cX0_move 45 = .ok (.getfield 20, 3) := by decide +kernel
theorem dX0_move_48 : decode cX0_move 48 = .ok (.iload_n 2, 1) := by decide +kernel
theorem dX0_move_49 : decode cX0_move 49 = .ok (.iload_n 1, 1) := by decide +kernel
theorem dX0_move_50 : decode cX0_move 50 = .ok (.invokevirtual 23, 3) := by decide +kernel
theorem dX0_move_53 : decode cX0_move 53 = .ok (.aload_n 0, 1) := by decide +kernel
theorem dX0_move_54 : decode cX0_move 54 = .ok (.getfield 14, 3) := by decide +kernel
theorem dX0_move_57 : decode cX0_move 57 = .ok (.iload_n 1, 1) := by decide +kernel
theorem dX0_move_58 : decode cX0_move 58 = .ok (.iload_n 2, 1) := by decide +kernel
theorem dX0_move_59 : decode cX0_move 59 = .ok (.invokevirtual 23, 3) := by decide +kernel
theorem dX0_move_62 : decode cX0_move 62 = .ok (.iload_n 3, 1) := by decide +kernel
theorem dX0_move_63 : decode cX0_move 63 = .ok (.ireturn, 1) := by decide +kernel
set_option maxRecDepth 20000 in
theorem ggX0_fingerOf_X0_columnOf : GoodIn wsX0_fingerOf wsX0_columnOf := goodIn_r _ [5, 6, 7, 8, 9, 10, 11, 12, 13, 14, 15] (by decide +kernel) (by decide +kernel)
set_option maxRecDepth 20000 in
theorem gX0_fingerOf_X0_columnOf : GoodIn wsX0_fingerOf (wsV RX0 30 RX0 yX0_columnOf wsX0_columnOf) := goodIn_app (goodIn_of _ (by decide +kernel)) ggX0_fingerOf_X0_columnOf
theorem dX0_fingerOf_0 : decode cX0_fingerOf 0 = .ok (.aload_n 0, 1) := by decide +kernel
theorem dX0_fingerOf_1 : decode cX0_fingerOf 1 = .ok (.iload_n 1, 1) := by decide +kernel
theorem dX0_fingerOf_2 : decode cX0_fingerOf 2 = .ok (.invokevirtual 30, 3) := by decide +kernel
theorem dX0_fingerOf_5 : decode cX0_fingerOf 5 = .ok (.istore_n 2, 1) := by decide +kernel
theorem dX0_fingerOf_6 : decode cX0_fingerOf 6 = .ok (.iload_n 2, 1) := by decide +kernel
theorem dX0_fingerOf_7 : decode cX0_fingerOf 7 = .ok (.ifCond .lt 19, 3) := by decide +kernel
theorem dX0_fingerOf_10 : decode cX0_fingerOf 10 = .ok (.iload_n 2, 1) := by decide +kernel
theorem dX0_fingerOf_11 : decode cX0_fingerOf 11 = .ok (.getstatic 33, 3) := by decide +kernel
theorem dX0_fingerOf_14 : decode cX0_fingerOf 14 = .ok (.arraylength, 1) := by decide +kernel
theorem dX0_fingerOf_15 : decode cX0_fingerOf 15 = .ok (.if_icmp .ge 11, 3) := by decide +kernel
theorem dX0_fingerOf_18 : decode cX0_fingerOf 18 = .ok (.getstatic 33, 3) := by decide +kernel
theorem dX0_fingerOf_21 : decode cX0_fingerOf 21 = .ok (.iload_n 2, 1) := by decide +kernel
theorem dX0_fingerOf_22 : decode cX0_fingerOf 22 = .ok (.iaload, 1) := by decide +kernel
theorem dX0_fingerOf_23 : decode cX0_fingerOf 23 = .ok (.goto 4, 3) := by decide +kernel
theorem dX0_fingerOf_26 : decode cX0_fingerOf 26 = .ok (.iconst (-1), 1) := by decide +kernel
theorem dX0_fingerOf_27 : decode cX0_fingerOf 27 = .ok (.ireturn, 1) := by decide +kernel
set_option maxRecDepth 20000 in
theorem ggX0_touch_X0_columnOf : GoodIn wsX0_touch wsX0_columnOf := goodIn_r _ [9, 10, 11, 12, 13, 14, 15, 16, 21, 22, 23] (by decide +kernel) (by decide +kernel)
set_option maxRecDepth 20000 in
theorem gX0_touch_X0_columnOf : GoodIn wsX0_touch (wsV RX0 30 RX0 yX0_columnOf wsX0_columnOf) := goodIn_app (goodIn_of _ (by decide +kernel)) ggX0_touch_X0_columnOf
set_option maxRecDepth 20000 in
theorem ggX0_touch_X0_rowOf : GoodIn wsX0_touch wsX0_rowOf := goodIn_r _ [20, 10, 11, 12, 13, 14, 15, 16, 21, 22, 23] (by decide +kernel) (by decide +kernel)
set_option maxRecDepth 20000 in
theorem gX0_touch_X0_rowOf : GoodIn wsX0_touch (wsV RX0 42 RX0 yX0_rowOf wsX0_rowOf) := goodIn_app (goodIn_of _ (by decide +kernel)) ggX0_touch_X0_rowOf
theorem dX0_touch_0 : decode cX0_touch 0 = .ok (.aload_n 0, 1) := by decide +kernel
theorem dX0_touch_1 : decode cX0_touch 1 = .ok (.iload_n 1, 1) := by decide +kernel
theorem dX0_touch_2 : decode cX0_touch 2 = .ok (.invokevirtual 30, 3) := by decide +kernel
theorem dX0_touch_5 : decode cX0_touch 5 = .ok (.aload_n 0, 1) := by decide +kernel
theorem dX0_touch_6 : decode cX0_touch 6 = .ok (.iload_n 2, 1) := by decide +kernel
theorem dX0_touch_7 : decode cX0_touch 7 = .ok (.invokevirtual 30, 3) := by decide +kernel
theorem dX0_touch_10 : decode cX0_touch 10 = .ok (.isub, 1) := by decide +kernel
theorem dX0_touch_11 : decode cX0_touch 11 = .ok (.invokestatic 37, 3) := by decide +kernel
theorem dX0_touch_14 : decode cX0_touch 14 = .ok (.iconst 1, 1) := by decide +kernel
theorem dX0_touch_15 : decode cX0_touch 15 = .ok (.if_icmp .gt 25, 3) := by decide +kernel
theorem dX0_touch_18 : decode cX0_touch 18 = .ok (.aload_n 0, 1) := by decide +kernel
theorem dX0_touch_19 : decode cX0_touch 19 = .ok (.iload_n 1, 1) := by decide +kernel
theorem dX0_touch_20 : decode cX0_touch 20 = .ok (.invokevirtual 42, 3) := by decide +kernel
theorem dX0_touch_23 : decode cX0_touch 23 = .ok (.aload_n 0, 1) := by decide +kernel
theorem dX0_touch_24 : decode cX0_touch 24 = .ok (.iload_n 2, 1) := by decide +kernel
theorem dX0_touch_25 : decode cX0_touch 25 = .ok (.invokevirtual 42, 3) := by decide +kernel
theorem dX0_touch_28 : decode cX0_touch 28 = .ok (.isub, 1) := by decide +kernel
theorem dX0_touch_29 : decode cX0_touch 29 = .ok (.invokestatic 37, 3) := by decide +kernel
theorem dX0_touch_32 : decode cX0_touch 32 = .ok (.iconst 1, 1) := by decide +kernel
theorem dX0_touch_33 : decode cX0_touch 33 = .ok (.if_icmp .gt 7, 3) := by decide +kernel
theorem dX0_touch_36 : decode cX0_touch 36 = .ok (.iconst 1, 1) := by decide +kernel
theorem dX0_touch_37 : decode cX0_touch 37 = .ok (.goto 4, 3) := by decide +kernel
theorem dX0_touch_40 : decode cX0_touch 40 = .ok (.iconst 0, 1) := by decide +kernel
theorem dX0_touch_41 : decode cX0_touch 41 = .ok (.ireturn, 1) := by decide +kernel
set_option maxRecDepth 20000 in
theorem ggX0_mirrorOf_X0_rowOf : GoodIn wsX0_mirrorOf wsX0_rowOf := goodIn_r _ [6, 7, 8, 9, 10, 11, 12, 13, 18, 19, 20] (by decide +kernel) (by decide +kernel)
set_option maxRecDepth 20000 in
theorem gX0_mirrorOf_X0_rowOf : GoodIn wsX0_mirrorOf (wsV RX0 42 RX0 yX0_rowOf wsX0_rowOf) := goodIn_app (goodIn_of _ (by decide +kernel)) ggX0_mirrorOf_X0_rowOf
set_option maxRecDepth 20000 in
theorem ggX0_mirrorOf_X0_columnOf : GoodIn wsX0_mirrorOf wsX0_columnOf := goodIn_r _ [17, 7, 8, 9, 10, 11, 12, 13, 18, 19, 20] (by decide +kernel) (by decide +kernel)
set_option maxRecDepth 20000 in
theorem gX0_mirrorOf_X0_columnOf : GoodIn wsX0_mirrorOf (wsV RX0 30 RX0 yX0_columnOf wsX0_columnOf) := goodIn_app (goodIn_of _ (by decide +kernel)) ggX0_mirrorOf_X0_columnOf
set_option maxRecDepth 20000 in
theorem ggX0_mirrorOf_X1_at : GoodIn wsX0_mirrorOf wsX1_at := goodIn_r _ [12, 13, 20] (by decide +kernel) (by decide +kernel)
set_option maxRecDepth 20000 in
theorem gX0_mirrorOf_X1_at : GoodIn wsX0_mirrorOf (wsV RX0 26 RX1 yX1_at wsX1_at) := goodIn_app (goodIn_of _ (by decide +kernel)) ggX0_mirrorOf_X1_at
theorem dX0_mirrorOf_0 : decode cX0_mirrorOf 0 = .ok (.aload_n 0, 1) := by decide +kernel
theorem dX0_mirrorOf_1 : decode cX0_mirrorOf 1 = .ok (.getfield 20, 3) := by decide +kernel
theorem dX0_mirrorOf_4 : decode cX0_mirrorOf 4 = .ok (.aload_n 0, 1) := by decide +kernel
theorem dX0_mirrorOf_5 : decode cX0_mirrorOf 5 = .ok (.iload_n 1, 1) := by decide +kernel
theorem dX0_mirrorOf_6 : decode cX0_mirrorOf 6 = .ok (.invokevirtual 42, 3) := by decide +kernel
theorem dX0_mirrorOf_9 : decode cX0_mirrorOf 9 = .ok (.bipush 10, 2) := by decide +kernel
theorem dX0_mirrorOf_11 : decode cX0_mirrorOf 11 = .ok (.imul, 1) := by decide +kernel
theorem dX0_mirrorOf_12 : decode cX0_mirrorOf 12 = .ok (.bipush 10, 2) := by decide +kernel
theorem dX0_mirrorOf_14 : decode cX0_mirrorOf 14 = .ok (.iadd, 1) := by decide +kernel
theorem dX0_mirrorOf_15 : decode cX0_mirrorOf 15 = .ok (.iconst 1, 1) := by decide +kernel
theorem dX0_mirrorOf_16 : decode cX0_mirrorOf 16 = .ok (.isub, 1) := by decide +kernel
theorem dX0_mirrorOf_17 : decode cX0_mirrorOf 17 = .ok (.aload_n 0, 1) := by decide +kernel
theorem dX0_mirrorOf_18 : decode cX0_mirrorOf 18 = .ok (.iload_n 1, 1) := by decide +kernel
theorem dX0_mirrorOf_19 : decode cX0_mirrorOf 19 = .ok (.invokevirtual 30, 3) := by decide +kernel
theorem dX0_mirrorOf_22 : decode cX0_mirrorOf 22 = .ok (.isub, 1) := by decide +kernel
theorem dX0_mirrorOf_23 : decode cX0_mirrorOf 23 = .ok (.invokevirtual 26, 3) := by decide +kernel
theorem dX0_mirrorOf_26 : decode cX0_mirrorOf 26 = .ok (.ireturn, 1) := by decide +kernel
set_option maxRecDepth 20000 in
theorem ggX0_columnOf_X1_at : GoodIn wsX0_columnOf wsX1_at := goodIn_r _ [6, 7, 10] (by decide +kernel) (by decide +kernel)
set_option maxRecDepth 20000 in
theorem gX0_columnOf_X1_at : GoodIn wsX0_columnOf (wsV RX0 26 RX1 yX1_at wsX1_at) := goodIn_app (goodIn_of _ (by decide +kernel)) ggX0_columnOf_X1_at
theorem dX0_columnOf_0 : decode cX0_columnOf 0 = .ok (.aload_n 0, 1) := by decide +kernel
theorem dX0_columnOf_1 : decode cX0_columnOf 1 = .ok (.getfield 14, 3) := by decide +kernel
theorem dX0_columnOf_4 : decode cX0_columnOf 4 = .ok (.iload_n 1, 1) := by decide +kernel
theorem dX0_columnOf_5 : decode cX0_columnOf 5 = .ok (.invokevirtual 26, 3) := by decide +kernel
theorem dX0_columnOf_8 : decode cX0_columnOf 8 = .ok (.bipush 10, 2) := by decide +kernel
theorem dX0_columnOf_10 : decode cX0_columnOf 10 = .ok (.irem, 1) := by decide +kernel
theorem dX0_columnOf_11 : decode cX0_columnOf 11 = .ok (.ireturn, 1) := by decide +kernel
set_option maxRecDepth 20000 in
theorem ggX0_rowOf_X1_at : GoodIn wsX0_rowOf wsX1_at := goodIn_r _ [6, 7, 10] (by decide +kernel) (by decide +kernel)
set_option maxRecDepth 20000 in
theorem gX0_rowOf_X1_at : GoodIn wsX0_rowOf (wsV RX0 26 RX1 yX1_at wsX1_at) := goodIn_app (goodIn_of _ (by decide +kernel)) ggX0_rowOf_X1_at
theorem dX0_rowOf_0 : decode cX0_rowOf 0 = .ok (.aload_n 0, 1) := by decide +kernel
theorem dX0_rowOf_1 : decode cX0_rowOf 1 = .ok (.getfield 14, 3) := by decide +kernel
theorem dX0_rowOf_4 : decode cX0_rowOf 4 = .ok (.iload_n 1, 1) := by decide +kernel
theorem dX0_rowOf_5 : decode cX0_rowOf 5 = .ok (.invokevirtual 26, 3) := by decide +kernel
theorem dX0_rowOf_8 : decode cX0_rowOf 8 = .ok (.bipush 10, 2) := by decide +kernel
theorem dX0_rowOf_10 : decode cX0_rowOf 10 = .ok (.idiv, 1) := by decide +kernel
theorem dX0_rowOf_11 : decode cX0_rowOf 11 = .ok (.ireturn, 1) := by decide +kernel
set_option maxRecDepth 20000 in
theorem ggX1_init_J7_fill_53178 : GoodIn wsX1_init wsJ7_fill_53178 := goodIn_r _ [13] (by decide +kernel) (by decide +kernel)
set_option maxRecDepth 20000 in
theorem gX1_init_J7_fill_53178 : GoodIn wsX1_init (va_wsS RX1 21 yJ7_fill_53178 wsJ7_fill_53178) := goodIn_app (goodIn_of _ (by decide +kernel)) ggX1_init_J7_fill_53178
theorem dX1_init_0 : decode cX1_init 0 = .ok (.aload_n 0, 1) := by decide +kernel
theorem dX1_init_1 : decode cX1_init 1 = .ok (.invokespecial 3, 3) := by decide +kernel
theorem dX1_init_4 : decode cX1_init 4 = .ok (.aload_n 0, 1) := by decide +kernel
theorem dX1_init_5 : decode cX1_init 5 = .ok (.iload_n 1, 1) := by decide +kernel
theorem dX1_init_6 : decode cX1_init 6 = .ok (.iconst 0, 1) := by decide +kernel
theorem dX1_init_7 : decode cX1_init 7 = .ok (.invokestatic 9, 3) := by decide +kernel
theorem dX1_init_10 : decode cX1_init 10 = .ok (.newarray .int, 2) := by decide +kernel
theorem dX1_init_12 : decode cX1_init 12 = .ok (.putfield 15, 3) := by decide +kernel
theorem dX1_init_15 : decode cX1_init 15 = .ok (.aload_n 0, 1) := by decide +kernel
theorem dX1_init_16 : decode cX1_init 16 = .ok (.getfield 15, 3) := by decide +kernel
theorem dX1_init_19 : decode cX1_init 19 = .ok (.iload_n 2, 1) := by decide +kernel
theorem dX1_init_20 : decode cX1_init 20 = .ok (.invokestatic 21, 3) := by decide +kernel
theorem dX1_init_23 : decode cX1_init 23 = .ok (.return_, 1) := by decide +kernel
theorem dX1_at_0 : decode cX1_at 0 = .ok (.iload_n 1, 1) := by decide +kernel
theorem dX1_at_1 : decode cX1_at 1 = .ok (.ifCond .lt 21, 3) := by decide +kernel
theorem dX1_at_4 : decode cX1_at 4 = .ok (.iload_n 1, 1) := by decide +kernel
theorem dX1_at_5 : decode cX1_at 5 = .ok (.aload_n 0, 1) := by decide +kernel
theorem dX1_at_6 : decode cX1_at 6 = .ok (.getfield 15, 3) := by decide +kernel
theorem dX1_at_9 : decode cX1_at 9 = .ok (.arraylength, 1) := by decide +kernel
theorem dX1_at_10 : decode cX1_at 10 = .ok (.if_icmp .ge 12, 3) := by decide +kernel
theorem dX1_at_13 : decode cX1_at 13 = .ok (.aload_n 0, 1) := by decide +kernel
theorem dX1_at_14 : decode cX1_at 14 = .ok (.getfield 15, 3) := by decide +kernel
theorem dX1_at_17 : decode cX1_at 17 = .ok (.iload_n 1, 1) := by decide +kernel
theorem dX1_at_18 : decode cX1_at 18 = .ok (.iaload, 1) := by decide +kernel
theorem dX1_at_19 : decode cX1_at 19 = .ok (.goto 4, 3) := by decide +kernel
theorem dX1_at_22 : decode cX1_at 22 = .ok (.iconst (-1), 1) := by decide +kernel
theorem dX1_at_23 : decode cX1_at 23 = .ok (.ireturn, 1) := by decide +kernel
theorem dX1_set_0 : decode cX1_set 0 = .ok (.iload_n 1, 1) := by decide +kernel
theorem dX1_set_1 : decode cX1_set 1 = .ok (.ifCond .lt 19, 3) := by decide +kernel
theorem dX1_set_4 : decode cX1_set 4 = .ok (.iload_n 1, 1) := by decide +kernel
theorem dX1_set_5 : decode cX1_set 5 = .ok (.aload_n 0, 1) := by decide +kernel
theorem dX1_set_6 : decode cX1_set 6 = .ok (.getfield 15, 3) := by decide +kernel
theorem dX1_set_9 : decode cX1_set 9 = .ok (.arraylength, 1) := by decide +kernel
theorem dX1_set_10 : decode cX1_set 10 = .ok (.if_icmp .ge 10, 3) := by decide +kernel
theorem dX1_set_13 : decode cX1_set 13 = .ok (.aload_n 0, 1) := by decide +kernel
theorem dX1_set_14 : decode cX1_set 14 = .ok (.getfield 15, 3) := by decide +kernel
theorem dX1_set_17 : decode cX1_set 17 = .ok (.iload_n 1, 1) := by decide +kernel
theorem dX1_set_18 : decode cX1_set 18 = .ok (.iload_n 2, 1) := by decide +kernel
theorem dX1_set_19 : decode cX1_set 19 = .ok (.iastore, 1) := by decide +kernel
theorem dX1_set_20 : decode cX1_set 20 = .ok (.return_, 1) := by decide +kernel
set_option maxRecDepth 20000 in
theorem ggX1_add_X1_at : GoodIn wsX1_add wsX1_at := goodIn_r _ [5, 6, 11] (by decide +kernel) (by decide +kernel)
set_option maxRecDepth 20000 in
theorem gX1_add_X1_at : GoodIn wsX1_add (wsV RX1 27 RX1 yX1_at wsX1_at) := goodIn_app (goodIn_of _ (by decide +kernel)) ggX1_add_X1_at
set_option maxRecDepth 20000 in
theorem ggX1_add_X1_set : GoodIn wsX1_add wsX1_set := goodIn_r _ [10, 6, 11] (by decide +kernel) (by decide +kernel)
set_option maxRecDepth 20000 in
theorem gX1_add_X1_set : GoodIn wsX1_add (wsV RX1 31 RX1 yX1_set wsX1_set) := goodIn_app (goodIn_of _ (by decide +kernel)) ggX1_add_X1_set
theorem dX1_add_0 : decode cX1_add 0 = .ok (.aload_n 0, 1) := by decide +kernel
theorem dX1_add_1 : decode cX1_add 1 = .ok (.iload_n 1, 1) := by decide +kernel
theorem dX1_add_2 : decode cX1_add 2 = .ok (.aload_n 0, 1) := by decide +kernel
theorem dX1_add_3 : decode cX1_add 3 = .ok (.iload_n 1, 1) := by decide +kernel
theorem dX1_add_4 : decode cX1_add 4 = .ok (.invokevirtual 27, 3) := by decide +kernel
theorem dX1_add_7 : decode cX1_add 7 = .ok (.iload_n 2, 1) := by decide +kernel
theorem dX1_add_8 : decode cX1_add 8 = .ok (.iadd, 1) := by decide +kernel
theorem dX1_add_9 : decode cX1_add 9 = .ok (.invokevirtual 31, 3) := by decide +kernel
theorem dX1_add_12 : decode cX1_add 12 = .ok (.return_, 1) := by decide +kernel
set_option maxRecDepth 20000 in
theorem ggX2_init_X1_init : GoodIn wsX2_init wsX1_init := goodIn_r _ [15, 16, 2, 3, 17, 18, 19, 20, 21, 22, 23, 24, 25, 26, 27] (by decide +kernel) (by decide +kernel)
set_option maxRecDepth 20000 in
theorem gX2_init_X1_init : GoodIn wsX2_init (wsX1_init) := ggX2_init_X1_init
theorem dX2_init_0 : decode cX2_init 0 = .ok (.aload_n 0, 1) := by decide +kernel
theorem dX2_init_1 : decode cX2_init 1 = .ok (.invokespecial 3, 3) := by decide +kernel
theorem dX2_init_4 : decode cX2_init 4 = .ok (.aload_n 0, 1) := by decide +kernel
theorem dX2_init_5 : decode cX2_init 5 = .ok (.new 9, 3) := by decide +kernel
theorem dX2_init_8 : decode cX2_init 8 = .ok (.dup, 1) := by decide +kernel
theorem dX2_init_9 : decode cX2_init 9 = .ok (.bipush 26, 2) := by decide +kernel
theorem dX2_init_11 : decode cX2_init 11 = .ok (.iconst 0, 1) := by decide +kernel
theorem dX2_init_12 : decode cX2_init 12 = .ok (.invokespecial 11, 3) := by decide +kernel
theorem dX2_init_15 : decode cX2_init 15 = .ok (.putfield 14, 3) := by decide +kernel
theorem dX2_init_18 : decode cX2_init 18 = .ok (.aload_n 0, 1) := by decide +kernel
theorem dX2_init_19 : decode cX2_init 19 = .ok (.new 9, 3) := by decide +kernel
theorem dX2_init_22 : decode cX2_init 22 = .ok (.dup, 1) := by decide +kernel
theorem dX2_init_23 : decode cX2_init 23 = .ok (.bipush 26, 2) := by decide +kernel
theorem dX2_init_25 : decode cX2_init 25 = .ok (.sipush 400, 3) := by decide +kernel
theorem dX2_init_28 : decode cX2_init 28 = .ok (.invokespecial 11, 3) := by decide +kernel
theorem dX2_init_31 : decode cX2_init 31 = .ok (.putfield 20, 3) := by decide +kernel
theorem dX2_init_34 : decode cX2_init 34 = .ok (.aload_n 0, 1) := by decide +kernel
theorem dX2_init_35 : decode cX2_init 35 = .ok (.new 9, 3) := by decide +kernel
theorem dX2_init_38 : decode cX2_init 38 = .ok (.dup, 1) := by decide +kernel
theorem dX2_init_39 : decode cX2_init 39 = .ok (.bipush 26, 2) := by decide +kernel
theorem dX2_init_41 : decode cX2_init 41 = .ok (.iconst 0, 1) := by decide +kernel
theorem dX2_init_42 : decode cX2_init 42 = .ok (.invokespecial 11, 3) := by decide +kernel
theorem dX2_init_45 : decode cX2_init 45 = .ok (.putfield 23, 3) := by decide +kernel
theorem dX2_init_48 : decode cX2_init 48 = .ok (.aload_n 0, 1) := by decide +kernel
theorem dX2_init_49 : decode cX2_init 49 = .ok (.new 9, 3) := by decide +kernel
theorem dX2_init_52 : decode cX2_init 52 = .ok (.dup, 1) := by decide +kernel
theorem dX2_init_53 : decode cX2_init 53 = .ok (.sipush 676, 3) := by decide +kernel
theorem dX2_init_56 : decode cX2_init 56 = .ok (.sipush 400, 3) := by decide +kernel
theorem dX2_init_59 : decode cX2_init 59 = .ok (.invokespecial 11, 3) := by decide +kernel
theorem dX2_init_62 : decode cX2_init 62 = .ok (.putfield 26, 3) := by decide +kernel
theorem dX2_init_65 : decode cX2_init 65 = .ok (.aload_n 0, 1) := by decide +kernel
theorem dX2_init_66 : decode cX2_init 66 = .ok (.sipush 300, 3) := by decide +kernel
theorem dX2_init_69 : decode cX2_init 69 = .ok (.putfield 29, 3) := by decide +kernel
theorem dX2_init_72 : decode cX2_init 72 = .ok (.aload_n 0, 1) := by decide +kernel
theorem dX2_init_73 : decode cX2_init 73 = .ok (.sipush 1000, 3) := by decide +kernel
theorem dX2_init_76 : decode cX2_init 76 = .ok (.putfield 33, 3) := by decide +kernel
theorem dX2_init_79 : decode cX2_init 79 = .ok (.return_, 1) := by decide +kernel
set_option maxRecDepth 20000 in
theorem ggX2_learn_X1_add : GoodIn wsX2_learn wsX1_add := goodIn_r _ [8, 9, 10, 11, 7, 12, 13, 14, 15, 16, 17, 30] (by decide +kernel) (by decide +kernel)
set_option maxRecDepth 20000 in
theorem gX2_learn_X1_add : GoodIn wsX2_learn (wsV RX2 36 RX1 yX1_add wsX1_add) := goodIn_app (goodIn_of _ (by decide +kernel)) ggX2_learn_X1_add
set_option maxRecDepth 20000 in
theorem ggX2_learn_X1_at : GoodIn wsX2_learn wsX1_at := goodIn_r _ [12, 13, 30] (by decide +kernel) (by decide +kernel)
set_option maxRecDepth 20000 in
theorem gX2_learn_X1_at : GoodIn wsX2_learn (wsV RX2 39 RX1 yX1_at wsX1_at) := goodIn_app (goodIn_of _ (by decide +kernel)) ggX2_learn_X1_at
set_option maxRecDepth 20000 in
theorem ggX2_learn_X2_aged : GoodIn wsX2_learn wsX2_aged := goodIn_r _ [22] (by decide +kernel) (by decide +kernel)
set_option maxRecDepth 20000 in
theorem gX2_learn_X2_aged : GoodIn wsX2_learn (va_wsS RX2 43 yX2_aged wsX2_aged) := goodIn_app (goodIn_of _ (by decide +kernel)) ggX2_learn_X2_aged
set_option maxRecDepth 20000 in
theorem ggX2_learn_X1_set : GoodIn wsX2_learn wsX1_set := goodIn_r _ [17, 13, 30] (by decide +kernel) (by decide +kernel)
set_option maxRecDepth 20000 in
theorem gX2_learn_X1_set : GoodIn wsX2_learn (wsV RX2 47 RX1 yX1_set wsX1_set) := goodIn_app (goodIn_of _ (by decide +kernel)) ggX2_learn_X1_set
theorem dX2_learn_0 : decode cX2_learn 0 = .ok (.aload_n 0, 1) := by decide +kernel
theorem dX2_learn_1 : decode cX2_learn 1 = .ok (.getfield 14, 3) := by decide +kernel
theorem dX2_learn_4 : decode cX2_learn 4 = .ok (.iload_n 1, 1) := by decide +kernel
theorem dX2_learn_5 : decode cX2_learn 5 = .ok (.iconst 1, 1) := by decide +kernel
theorem dX2_learn_6 : decode cX2_learn 6 = .ok (.invokevirtual 36, 3) := by decide +kernel
theorem dX2_learn_9 : decode cX2_learn 9 = .ok (.aload_n 0, 1) := by decide +kernel
theorem dX2_learn_10 : decode cX2_learn 10 = .ok (.getfield 20, 3) := by decide +kernel
theorem dX2_learn_13 : decode cX2_learn 13 = .ok (.iload_n 1, 1) := by decide +kernel
theorem dX2_learn_14 : decode cX2_learn 14 = .ok (.aload_n 0, 1) := by decide +kernel
theorem dX2_learn_15 : decode cX2_learn 15 = .ok (.getfield 20, 3) := by decide +kernel
theorem dX2_learn_18 : decode cX2_learn 18 = .ok (.iload_n 1, 1) := by decide +kernel
theorem dX2_learn_19 : decode cX2_learn 19 = .ok (.invokevirtual 39, 3) := by decide +kernel
theorem dX2_learn_22 : decode cX2_learn 22 = .ok (.iload_n 2, 1) := by decide +kernel
theorem dX2_learn_23 : decode cX2_learn 23 = .ok (.invokestatic 43, 3) := by decide +kernel
theorem dX2_learn_26 : decode cX2_learn 26 = .ok (.invokevirtual 47, 3) := by decide +kernel
theorem dX2_learn_29 : decode cX2_learn 29 = .ok (.aload_n 0, 1) := by decide +kernel
theorem dX2_learn_30 : decode cX2_learn 30 = .ok (.getfield 23, 3) := by decide +kernel
theorem dX2_learn_33 : decode cX2_learn 33 = .ok (.iload_n 1, 1) := by decide +kernel
theorem dX2_learn_34 : decode cX2_learn 34 = .ok (.bipush 7, 2) := by decide +kernel
theorem dX2_learn_36 : decode cX2_learn 36 = .ok (.aload_n 0, 1) := by decide +kernel
theorem dX2_learn_37 : decode cX2_learn 37 = .ok (.getfield 23, 3) := by decide +kernel
theorem dX2_learn_40 : decode cX2_learn 40 = .ok (.iload_n 1, 1) := by decide +kernel
theorem dX2_learn_41 : decode cX2_learn 41 = .ok (.invokevirtual 39, 3) := by decide +kernel
theorem dX2_learn_44 : decode cX2_learn 44 = .ok (.imul, 1) := by decide +kernel
theorem dX2_learn_45 : decode cX2_learn 45 = .ok (.iload_n 3, 1) := by decide +kernel
theorem dX2_learn_46 : decode cX2_learn 46 = .ok (.ifCond .eq 9, 3) := by decide +kernel
theorem dX2_learn_49 : decode cX2_learn 49 = .ok (.sipush 10000, 3) := by decide +kernel
theorem dX2_learn_52 : decode cX2_learn 52 = .ok (.goto 4, 3) := by decide +kernel
theorem dX2_learn_55 : decode cX2_learn 55 = .ok (.iconst 0, 1) := by decide +kernel
theorem dX2_learn_56 : decode cX2_learn 56 = .ok (.iadd, 1) := by decide +kernel
theorem dX2_learn_57 : decode cX2_learn 57 = .ok (.bipush 8, 2) := by decide +kernel
theorem dX2_learn_59 : decode cX2_learn 59 = .ok (.idiv, 1) := by decide +kernel
theorem dX2_learn_60 : decode cX2_learn 60 = .ok (.invokevirtual 47, 3) := by decide +kernel
theorem dX2_learn_63 : decode cX2_learn 63 = .ok (.return_, 1) := by decide +kernel
set_option maxRecDepth 20000 in
theorem ggX2_learnPair_X2_pairOf : GoodIn wsX2_learnPair wsX2_pairOf := goodIn_r _ [5] (by decide +kernel) (by decide +kernel)
set_option maxRecDepth 20000 in
theorem gX2_learnPair_X2_pairOf : GoodIn wsX2_learnPair (va_wsS RX2 50 yX2_pairOf wsX2_pairOf) := goodIn_app (goodIn_of _ (by decide +kernel)) ggX2_learnPair_X2_pairOf
set_option maxRecDepth 20000 in
theorem ggX2_learnPair_X2_timeOfPair : GoodIn wsX2_learnPair wsX2_timeOfPair := goodIn_r _ [9, 1, 2, 3, 4, 5, 10, 11, 12, 13, 14, 15, 23, 24, 25, 26, 27, 28, 29] (by decide +kernel) (by decide +kernel)
set_option maxRecDepth 20000 in
theorem gX2_learnPair_X2_timeOfPair : GoodIn wsX2_learnPair (wsV RX2 53 RX2 yX2_timeOfPair wsX2_timeOfPair) := goodIn_app (goodIn_of _ (by decide +kernel)) ggX2_learnPair_X2_timeOfPair
set_option maxRecDepth 20000 in
theorem ggX2_learnPair_X2_aged : GoodIn wsX2_learnPair wsX2_aged := goodIn_r _ [18] (by decide +kernel) (by decide +kernel)
set_option maxRecDepth 20000 in
theorem gX2_learnPair_X2_aged : GoodIn wsX2_learnPair (va_wsS RX2 43 yX2_aged wsX2_aged) := goodIn_app (goodIn_of _ (by decide +kernel)) ggX2_learnPair_X2_aged
set_option maxRecDepth 20000 in
theorem ggX2_learnPair_X1_set : GoodIn wsX2_learnPair wsX1_set := goodIn_r _ [22, 15, 29] (by decide +kernel) (by decide +kernel)
set_option maxRecDepth 20000 in
theorem gX2_learnPair_X1_set : GoodIn wsX2_learnPair (wsV RX2 47 RX1 yX1_set wsX1_set) := goodIn_app (goodIn_of _ (by decide +kernel)) ggX2_learnPair_X1_set
theorem dX2_learnPair_0 : decode cX2_learnPair 0 = .ok (.aload_n 0, 1) := by decide +kernel
theorem dX2_learnPair_1 : decode cX2_learnPair 1 = .ok (.getfield 26, 3) := by decide +kernel
theorem dX2_learnPair_4 : decode cX2_learnPair 4 = .ok (.iload_n 1, 1) := by decide +kernel
theorem dX2_learnPair_5 : decode cX2_learnPair 5 = .ok (.iload_n 2, 1) := by decide +kernel
theorem dX2_learnPair_6 : decode cX2_learnPair 6 = .ok (.invokestatic 50, 3) := by decide +kernel
theorem dX2_learnPair_9 : decode cX2_learnPair 9 = .ok (.aload_n 0, 1) := by decide +kernel
theorem dX2_learnPair_10 : decode cX2_learnPair 10 = .ok (.iload_n 1, 1) := by decide +kernel
theorem dX2_learnPair_11 : decode cX2_learnPair 11 = .ok (.iload_n 2, 1) := by decide +kernel
theorem dX2_learnPair_12 : decode cX2_learnPair 12 = .ok (.invokevirtual 53, 3) := by decide +kernel
theorem dX2_learnPair_15 : decode cX2_learnPair 15 = .ok (.iload_n 3, 1) := by decide +kernel
theorem dX2_learnPair_16 : decode cX2_learnPair 16 = .ok (.invokestatic 43, 3) := by decide +kernel
theorem dX2_learnPair_19 : decode cX2_learnPair 19 = .ok (.invokevirtual 47, 3) := by decide +kernel
theorem dX2_learnPair_22 : decode cX2_learnPair 22 = .ok (.return_, 1) := by decide +kernel
set_option maxRecDepth 20000 in
theorem ggX2_timeOfPair_X2_pairOf : GoodIn wsX2_timeOfPair wsX2_pairOf := goodIn_r _ [5] (by decide +kernel) (by decide +kernel)
set_option maxRecDepth 20000 in
theorem gX2_timeOfPair_X2_pairOf : GoodIn wsX2_timeOfPair (va_wsS RX2 50 yX2_pairOf wsX2_pairOf) := goodIn_app (goodIn_of _ (by decide +kernel)) ggX2_timeOfPair_X2_pairOf
set_option maxRecDepth 20000 in
theorem ggX2_timeOfPair_X1_at : GoodIn wsX2_timeOfPair wsX1_at := goodIn_r _ [10, 11, 18] (by decide +kernel) (by decide +kernel)
set_option maxRecDepth 20000 in
theorem gX2_timeOfPair_X1_at : GoodIn wsX2_timeOfPair (wsV RX2 39 RX1 yX1_at wsX1_at) := goodIn_app (goodIn_of _ (by decide +kernel)) ggX2_timeOfPair_X1_at
theorem dX2_timeOfPair_0 : decode cX2_timeOfPair 0 = .ok (.aload_n 0, 1) := by decide +kernel
theorem dX2_timeOfPair_1 : decode cX2_timeOfPair 1 = .ok (.getfield 26, 3) := by decide +kernel
theorem dX2_timeOfPair_4 : decode cX2_timeOfPair 4 = .ok (.iload_n 1, 1) := by decide +kernel
theorem dX2_timeOfPair_5 : decode cX2_timeOfPair 5 = .ok (.iload_n 2, 1) := by decide +kernel
theorem dX2_timeOfPair_6 : decode cX2_timeOfPair 6 = .ok (.invokestatic 50, 3) := by decide +kernel
theorem dX2_timeOfPair_9 : decode cX2_timeOfPair 9 = .ok (.invokevirtual 39, 3) := by decide +kernel
theorem dX2_timeOfPair_12 : decode cX2_timeOfPair 12 = .ok (.ireturn, 1) := by decide +kernel
set_option maxRecDepth 20000 in
theorem ggX2_fulfilsWish_X1_at : GoodIn wsX2_fulfilsWish wsX1_at := goodIn_r _ [10, 11, 18] (by decide +kernel) (by decide +kernel)
set_option maxRecDepth 20000 in
theorem gX2_fulfilsWish_X1_at : GoodIn wsX2_fulfilsWish (wsV RX2 39 RX1 yX1_at wsX1_at) := goodIn_app (goodIn_of _ (by decide +kernel)) ggX2_fulfilsWish_X1_at
theorem dX2_fulfilsWish_0 : decode cX2_fulfilsWish 0 = .ok (.aload_n 0, 1) := by decide +kernel
theorem dX2_fulfilsWish_1 : decode cX2_fulfilsWish 1 = .ok (.getfield 14, 3) := by decide +kernel
theorem dX2_fulfilsWish_4 : decode cX2_fulfilsWish 4 = .ok (.iload_n 1, 1) := by decide +kernel
theorem dX2_fulfilsWish_5 : decode cX2_fulfilsWish 5 = .ok (.invokevirtual 39, 3) := by decide +kernel
theorem dX2_fulfilsWish_8 : decode cX2_fulfilsWish 8 = .ok (.iconst 3, 1) := by decide +kernel
theorem dX2_fulfilsWish_9 : decode cX2_fulfilsWish 9 = .ok (.if_icmp .lt 37, 3) := by decide +kernel
theorem dX2_fulfilsWish_12 : decode cX2_fulfilsWish 12 = .ok (.aload_n 0, 1) := by decide +kernel
theorem dX2_fulfilsWish_13 : decode cX2_fulfilsWish 13 = .ok (.getfield 20, 3) := by decide +kernel
theorem dX2_fulfilsWish_16 : decode cX2_fulfilsWish 16 = .ok (.iload_n 1, 1) := by decide +kernel
theorem dX2_fulfilsWish_17 : decode cX2_fulfilsWish 17 = .ok (.invokevirtual 39, 3) := by decide +kernel
theorem dX2_fulfilsWish_20 : decode cX2_fulfilsWish 20 = .ok (.aload_n 0, 1) := by decide +kernel
theorem dX2_fulfilsWish_21 : decode cX2_fulfilsWish 21 = .ok (.getfield 29, 3) := by decide +kernel
theorem dX2_fulfilsWish_24 : decode cX2_fulfilsWish 24 = .ok (.if_icmp .gt 22, 3) := by decide +kernel
theorem dX2_fulfilsWish_27 : decode cX2_fulfilsWish 27 = .ok (.aload_n 0, 1) := by decide +kernel
theorem dX2_fulfilsWish_28 : decode cX2_fulfilsWish 28 = .ok (.getfield 23, 3) := by decide +kernel
theorem dX2_fulfilsWish_31 : decode cX2_fulfilsWish 31 = .ok (.iload_n 1, 1) := by decide +kernel
theorem dX2_fulfilsWish_32 : decode cX2_fulfilsWish 32 = .ok (.invokevirtual 39, 3) := by decide +kernel
theorem dX2_fulfilsWish_35 : decode cX2_fulfilsWish 35 = .ok (.aload_n 0, 1) := by decide +kernel
theorem dX2_fulfilsWish_36 : decode cX2_fulfilsWish 36 = .ok (.getfield 33, 3) := by decide +kernel
theorem dX2_fulfilsWish_39 : decode cX2_fulfilsWish 39 = .ok (.if_icmp .gt 7, 3) := by decide +kernel
theorem dX2_fulfilsWish_42 : decode cX2_fulfilsWish 42 = .ok (.iconst 1, 1) := by decide +kernel
theorem dX2_fulfilsWish_43 : decode cX2_fulfilsWish 43 = .ok (.goto 4, 3) := by decide +kernel
theorem dX2_fulfilsWish_46 : decode cX2_fulfilsWish 46 = .ok (.iconst 0, 1) := by decide +kernel
theorem dX2_fulfilsWish_47 : decode cX2_fulfilsWish 47 = .ok (.ireturn, 1) := by decide +kernel
set_option maxRecDepth 20000 in
theorem ggX2_mustGoOut_X1_at : GoodIn wsX2_mustGoOut wsX1_at := goodIn_r _ [7, 8, 15] (by decide +kernel) (by decide +kernel)
set_option maxRecDepth 20000 in
theorem gX2_mustGoOut_X1_at : GoodIn wsX2_mustGoOut (wsV RX2 39 RX1 yX1_at wsX1_at) := goodIn_app (goodIn_of _ (by decide +kernel)) ggX2_mustGoOut_X1_at
theorem dX2_mustGoOut_0 : decode cX2_mustGoOut 0 = .ok (.aload_n 0, 1) := by decide +kernel
theorem dX2_mustGoOut_1 : decode cX2_mustGoOut 1 = .ok (.getfield 14, 3) := by decide +kernel
theorem dX2_mustGoOut_4 : decode cX2_mustGoOut 4 = .ok (.iload_n 1, 1) := by decide +kernel
theorem dX2_mustGoOut_5 : decode cX2_mustGoOut 5 = .ok (.invokevirtual 39, 3) := by decide +kernel
theorem dX2_mustGoOut_8 : decode cX2_mustGoOut 8 = .ok (.iconst 3, 1) := by decide +kernel
theorem dX2_mustGoOut_9 : decode cX2_mustGoOut 9 = .ok (.if_icmp .lt 21, 3) := by decide +kernel
theorem dX2_mustGoOut_12 : decode cX2_mustGoOut 12 = .ok (.aload_n 0, 1) := by decide +kernel
theorem dX2_mustGoOut_13 : decode cX2_mustGoOut 13 = .ok (.getfield 23, 3) := by decide +kernel
theorem dX2_mustGoOut_16 : decode cX2_mustGoOut 16 = .ok (.iload_n 1, 1) := by decide +kernel
theorem dX2_mustGoOut_17 : decode cX2_mustGoOut 17 = .ok (.invokevirtual 39, 3) := by decide +kernel
theorem dX2_mustGoOut_20 : decode cX2_mustGoOut 20 = .ok (.sipush 5000, 3) := by decide +kernel
theorem dX2_mustGoOut_23 : decode cX2_mustGoOut 23 = .ok (.if_icmp .le 7, 3) := by decide +kernel
theorem dX2_mustGoOut_26 : decode cX2_mustGoOut 26 = .ok (.iconst 1, 1) := by decide +kernel
theorem dX2_mustGoOut_27 : decode cX2_mustGoOut 27 = .ok (.goto 4, 3) := by decide +kernel
theorem dX2_mustGoOut_30 : decode cX2_mustGoOut 30 = .ok (.iconst 0, 1) := by decide +kernel
theorem dX2_mustGoOut_31 : decode cX2_mustGoOut 31 = .ok (.ireturn, 1) := by decide +kernel
set_option maxRecDepth 20000 in
theorem ggX2_isWeaker_X1_at : GoodIn wsX2_isWeaker wsX1_at := goodIn_r _ [7, 8, 15] (by decide +kernel) (by decide +kernel)
set_option maxRecDepth 20000 in
theorem gX2_isWeaker_X1_at : GoodIn wsX2_isWeaker (wsV RX2 39 RX1 yX1_at wsX1_at) := goodIn_app (goodIn_of _ (by decide +kernel)) ggX2_isWeaker_X1_at
theorem dX2_isWeaker_0 : decode cX2_isWeaker 0 = .ok (.aload_n 0, 1) := by decide +kernel
theorem dX2_isWeaker_1 : decode cX2_isWeaker 1 = .ok (.getfield 23, 3) := by decide +kernel
theorem dX2_isWeaker_4 : decode cX2_isWeaker 4 = .ok (.iload_n 1, 1) := by decide +kernel
theorem dX2_isWeaker_5 : decode cX2_isWeaker 5 = .ok (.invokevirtual 39, 3) := by decide +kernel
theorem dX2_isWeaker_8 : decode cX2_isWeaker 8 = .ok (.aload_n 0, 1) := by decide +kernel
theorem dX2_isWeaker_9 : decode cX2_isWeaker 9 = .ok (.getfield 23, 3) := by decide +kernel
theorem dX2_isWeaker_12 : decode cX2_isWeaker 12 = .ok (.iload_n 2, 1) := by decide +kernel
theorem dX2_isWeaker_13 : decode cX2_isWeaker 13 = .ok (.invokevirtual 39, 3) := by decide +kernel
theorem dX2_isWeaker_16 : decode cX2_isWeaker 16 = .ok (.if_icmp .eq 28, 3) := by decide +kernel
theorem dX2_isWeaker_19 : decode cX2_isWeaker 19 = .ok (.aload_n 0, 1) := by decide +kernel
theorem dX2_isWeaker_20 : decode cX2_isWeaker 20 = .ok (.getfield 23, 3) := by decide +kernel
theorem dX2_isWeaker_23 : decode cX2_isWeaker 23 = .ok (.iload_n 1, 1) := by decide +kernel
theorem dX2_isWeaker_24 : decode cX2_isWeaker 24 = .ok (.invokevirtual 39, 3) := by decide +kernel
theorem dX2_isWeaker_27 : decode cX2_isWeaker 27 = .ok (.aload_n 0, 1) := by decide +kernel
theorem dX2_isWeaker_28 : decode cX2_isWeaker 28 = .ok (.getfield 23, 3) := by decide +kernel
theorem dX2_isWeaker_31 : decode cX2_isWeaker 31 = .ok (.iload_n 2, 1) := by decide +kernel
theorem dX2_isWeaker_32 : decode cX2_isWeaker 32 = .ok (.invokevirtual 39, 3) := by decide +kernel
theorem dX2_isWeaker_35 : decode cX2_isWeaker 35 = .ok (.if_icmp .le 7, 3) := by decide +kernel
theorem dX2_isWeaker_38 : decode cX2_isWeaker 38 = .ok (.iconst 1, 1) := by decide +kernel
theorem dX2_isWeaker_39 : decode cX2_isWeaker 39 = .ok (.goto 4, 3) := by decide +kernel
theorem dX2_isWeaker_42 : decode cX2_isWeaker 42 = .ok (.iconst 0, 1) := by decide +kernel
theorem dX2_isWeaker_43 : decode cX2_isWeaker 43 = .ok (.ireturn, 1) := by decide +kernel
theorem dX2_isWeaker_44 : decode cX2_isWeaker 44 = .ok (.aload_n 0, 1) := by decide +kernel
theorem dX2_isWeaker_45 : decode cX2_isWeaker 45 = .ok (.getfield 20, 3) := by decide +kernel
theorem dX2_isWeaker_48 : decode cX2_isWeaker 48 = .ok (.iload_n 1, 1) := by decide +kernel
theorem dX2_isWeaker_49 : decode cX2_isWeaker 49 = .ok (.invokevirtual 39, 3) := by decide +kernel
theorem dX2_isWeaker_52 : decode cX2_isWeaker 52 = .ok (.aload_n 0, 1) := by decide +kernel
theorem dX2_isWeaker_53 : decode cX2_isWeaker 53 = .ok (.getfield 20, 3) := by decide +kernel
theorem dX2_isWeaker_56 : decode cX2_isWeaker 56 = .ok (.iload_n 2, 1) := by decide +kernel
theorem dX2_isWeaker_57 : decode cX2_isWeaker 57 = .ok (.invokevirtual 39, 3) := by decide +kernel
theorem dX2_isWeaker_60 : decode cX2_isWeaker 60 = .ok (.if_icmp .le 7, 3) := by decide +kernel
theorem dX2_isWeaker_63 : decode cX2_isWeaker 63 = .ok (.iconst 1, 1) := by decide +kernel
theorem dX2_isWeaker_64 : decode cX2_isWeaker 64 = .ok (.goto 4, 3) := by decide +kernel
theorem dX2_isWeaker_67 : decode cX2_isWeaker 67 = .ok (.iconst 0, 1) := by decide +kernel
theorem dX2_isWeaker_68 : decode cX2_isWeaker 68 = .ok (.ireturn, 1) := by decide +kernel
set_option maxRecDepth 20000 in
theorem ggX2_forget_X1_set : GoodIn wsX2_forget wsX1_set := goodIn_r _ [8, 9, 16] (by decide +kernel) (by decide +kernel)
set_option maxRecDepth 20000 in
theorem gX2_forget_X1_set : GoodIn wsX2_forget (wsV RX2 47 RX1 yX1_set wsX1_set) := goodIn_app (goodIn_of _ (by decide +kernel)) ggX2_forget_X1_set
theorem dX2_forget_0 : decode cX2_forget 0 = .ok (.aload_n 0, 1) := by decide +kernel
theorem dX2_forget_1 : decode cX2_forget 1 = .ok (.getfield 14, 3) := by decide +kernel
theorem dX2_forget_4 : decode cX2_forget 4 = .ok (.iload_n 1, 1) := by decide +kernel
theorem dX2_forget_5 : decode cX2_forget 5 = .ok (.iconst 0, 1) := by decide +kernel
theorem dX2_forget_6 : decode cX2_forget 6 = .ok (.invokevirtual 47, 3) := by decide +kernel
theorem dX2_forget_9 : decode cX2_forget 9 = .ok (.aload_n 0, 1) := by decide +kernel
theorem dX2_forget_10 : decode cX2_forget 10 = .ok (.getfield 20, 3) := by decide +kernel
theorem dX2_forget_13 : decode cX2_forget 13 = .ok (.iload_n 1, 1) := by decide +kernel
theorem dX2_forget_14 : decode cX2_forget 14 = .ok (.sipush 400, 3) := by decide +kernel
theorem dX2_forget_17 : decode cX2_forget 17 = .ok (.invokevirtual 47, 3) := by decide +kernel
theorem dX2_forget_20 : decode cX2_forget 20 = .ok (.aload_n 0, 1) := by decide +kernel
theorem dX2_forget_21 : decode cX2_forget 21 = .ok (.getfield 23, 3) := by decide +kernel
theorem dX2_forget_24 : decode cX2_forget 24 = .ok (.iload_n 1, 1) := by decide +kernel
theorem dX2_forget_25 : decode cX2_forget 25 = .ok (.iconst 0, 1) := by decide +kernel
theorem dX2_forget_26 : decode cX2_forget 26 = .ok (.invokevirtual 47, 3) := by decide +kernel
theorem dX2_forget_29 : decode cX2_forget 29 = .ok (.return_, 1) := by decide +kernel
set_option maxRecDepth 20000 in
theorem ggX2_halveCounts_X1_at : GoodIn wsX2_halveCounts wsX1_at := goodIn_r _ [6, 7, 18] (by decide +kernel) (by decide +kernel)
set_option maxRecDepth 20000 in
theorem gX2_halveCounts_X1_at : GoodIn wsX2_halveCounts (wsV RX2 39 RX1 yX1_at wsX1_at) := goodIn_app (goodIn_of _ (by decide +kernel)) ggX2_halveCounts_X1_at
set_option maxRecDepth 20000 in
theorem ggX2_halveCounts_X1_set : GoodIn wsX2_halveCounts wsX1_set := goodIn_r _ [11, 7, 18] (by decide +kernel) (by decide +kernel)
set_option maxRecDepth 20000 in
theorem gX2_halveCounts_X1_set : GoodIn wsX2_halveCounts (wsV RX2 47 RX1 yX1_set wsX1_set) := goodIn_app (goodIn_of _ (by decide +kernel)) ggX2_halveCounts_X1_set
theorem dX2_halveCounts_0 : decode cX2_halveCounts 0 = .ok (.iconst 0, 1) := by decide +kernel
theorem dX2_halveCounts_1 : decode cX2_halveCounts 1 = .ok (.istore_n 1, 1) := by decide +kernel
theorem dX2_halveCounts_2 : decode cX2_halveCounts 2 = .ok (.iload_n 1, 1) := by decide +kernel
theorem dX2_halveCounts_3 : decode cX2_halveCounts 3 = .ok (.bipush 26, 2) := by decide +kernel
theorem dX2_halveCounts_5 : decode cX2_halveCounts 5 = .ok (.if_icmp .ge 27, 3) := by decide +kernel
theorem dX2_halveCounts_8 : decode cX2_halveCounts 8 = .ok (.aload_n 0, 1) := by decide +kernel
theorem dX2_halveCounts_9 : decode cX2_halveCounts 9 = .ok (.getfield 14, 3) := by decide +kernel
theorem dX2_halveCounts_12 : decode cX2_halveCounts 12 = .ok (.iload_n 1, 1) := by decide +kernel
theorem dX2_halveCounts_13 : decode cX2_halveCounts 13 = .ok (.aload_n 0, 1) := by decide +kernel
theorem dX2_halveCounts_14 : decode cX2_halveCounts 14 = .ok (.getfield 14, 3) := by decide +kernel
theorem dX2_halveCounts_17 : decode cX2_halveCounts 17 = .ok (.iload_n 1, 1) := by decide +kernel
theorem dX2_halveCounts_18 : decode cX2_halveCounts 18 = .ok (.invokevirtual 39, 3) := by decide +kernel
theorem dX2_halveCounts_21 : decode cX2_halveCounts 21 = .ok (.iconst 2, 1) := by decide +kernel
theorem dX2_halveCounts_22 : decode cX2_halveCounts 22 = .ok (.idiv, 1) := by decide +kernel
theorem dX2_halveCounts_23 : decode cX2_halveCounts 23 = .ok (.invokevirtual 47, 3) := by decide +kernel
theorem dX2_halveCounts_26 : decode cX2_halveCounts 26 = .ok (.iinc 1 1, 3) := by decide +kernel
theorem dX2_halveCounts_29 : decode cX2_halveCounts 29 = .ok (.goto (-27), 3) := by decide +kernel
theorem dX2_halveCounts_32 : decode cX2_halveCounts 32 = .ok (.return_, 1) := by decide +kernel
theorem dX2_pairOf_0 : decode cX2_pairOf 0 = .ok (.iload_n 0, 1) := by decide +kernel
theorem dX2_pairOf_1 : decode cX2_pairOf 1 = .ok (.bipush 26, 2) := by decide +kernel
theorem dX2_pairOf_3 : decode cX2_pairOf 3 = .ok (.imul, 1) := by decide +kernel
theorem dX2_pairOf_4 : decode cX2_pairOf 4 = .ok (.iload_n 1, 1) := by decide +kernel
theorem dX2_pairOf_5 : decode cX2_pairOf 5 = .ok (.iadd, 1) := by decide +kernel
theorem dX2_pairOf_6 : decode cX2_pairOf 6 = .ok (.ireturn, 1) := by decide +kernel
theorem dX2_aged_0 : decode cX2_aged 0 = .ok (.iconst 3, 1) := by decide +kernel
theorem dX2_aged_1 : decode cX2_aged 1 = .ok (.iload_n 0, 1) := by decide +kernel
theorem dX2_aged_2 : decode cX2_aged 2 = .ok (.imul, 1) := by decide +kernel
theorem dX2_aged_3 : decode cX2_aged 3 = .ok (.iload_n 1, 1) := by decide +kernel
theorem dX2_aged_4 : decode cX2_aged 4 = .ok (.iadd, 1) := by decide +kernel
theorem dX2_aged_5 : decode cX2_aged 5 = .ok (.iconst 4, 1) := by decide +kernel
theorem dX2_aged_6 : decode cX2_aged 6 = .ok (.idiv, 1) := by decide +kernel
theorem dX2_aged_7 : decode cX2_aged 7 = .ok (.ireturn, 1) := by decide +kernel
theorem dJ9_abs_0f7a4_0 : decode cJ9_abs_0f7a4 0 = .ok (.iload_n 0, 1) := by decide +kernel
theorem dJ9_abs_0f7a4_1 : decode cJ9_abs_0f7a4 1 = .ok (.ifCond .ge 8, 3) := by decide +kernel
theorem dJ9_abs_0f7a4_4 : decode cJ9_abs_0f7a4 4 = .ok (.iload_n 0, 1) := by decide +kernel
theorem dJ9_abs_0f7a4_5 : decode cJ9_abs_0f7a4 5 = .ok (.ineg, 1) := by decide +kernel
theorem dJ9_abs_0f7a4_6 : decode cJ9_abs_0f7a4 6 = .ok (.goto 4, 3) := by decide +kernel
theorem dJ9_abs_0f7a4_9 : decode cJ9_abs_0f7a4 9 = .ok (.iload_n 0, 1) := by decide +kernel
theorem dJ9_abs_0f7a4_10 : decode cJ9_abs_0f7a4 10 = .ok (.ireturn, 1) := by decide +kernel
theorem dJ9_max_7cf53_0 : decode cJ9_max_7cf53 0 = .ok (.iload_n 0, 1) := by decide +kernel
theorem dJ9_max_7cf53_1 : decode cJ9_max_7cf53 1 = .ok (.iload_n 1, 1) := by decide +kernel
theorem dJ9_max_7cf53_2 : decode cJ9_max_7cf53 2 = .ok (.if_icmp .lt 7, 3) := by decide +kernel
theorem dJ9_max_7cf53_5 : decode cJ9_max_7cf53 5 = .ok (.iload_n 0, 1) := by decide +kernel
theorem dJ9_max_7cf53_6 : decode cJ9_max_7cf53 6 = .ok (.goto 4, 3) := by decide +kernel
theorem dJ9_max_7cf53_9 : decode cJ9_max_7cf53 9 = .ok (.iload_n 1, 1) := by decide +kernel
theorem dJ9_max_7cf53_10 : decode cJ9_max_7cf53 10 = .ok (.ireturn, 1) := by decide +kernel
theorem dJ7_fill_53178_0 : decode cJ7_fill_53178 0 = .ok (.iconst 0, 1) := by decide +kernel
theorem dJ7_fill_53178_1 : decode cJ7_fill_53178 1 = .ok (.istore_n 2, 1) := by decide +kernel
theorem dJ7_fill_53178_2 : decode cJ7_fill_53178 2 = .ok (.aload_n 0, 1) := by decide +kernel
theorem dJ7_fill_53178_3 : decode cJ7_fill_53178 3 = .ok (.arraylength, 1) := by decide +kernel
theorem dJ7_fill_53178_4 : decode cJ7_fill_53178 4 = .ok (.istore_n 3, 1) := by decide +kernel
theorem dJ7_fill_53178_5 : decode cJ7_fill_53178 5 = .ok (.iload_n 2, 1) := by decide +kernel
theorem dJ7_fill_53178_6 : decode cJ7_fill_53178 6 = .ok (.iload_n 3, 1) := by decide +kernel
theorem dJ7_fill_53178_7 : decode cJ7_fill_53178 7 = .ok (.if_icmp .ge 13, 3) := by decide +kernel
theorem dJ7_fill_53178_10 : decode cJ7_fill_53178 10 = .ok (.aload_n 0, 1) := by decide +kernel
theorem dJ7_fill_53178_11 : decode cJ7_fill_53178 11 = .ok (.iload_n 2, 1) := by decide +kernel
theorem dJ7_fill_53178_12 : decode cJ7_fill_53178 12 = .ok (.iload_n 1, 1) := by decide +kernel
theorem dJ7_fill_53178_13 : decode cJ7_fill_53178 13 = .ok (.iastore, 1) := by decide +kernel
theorem dJ7_fill_53178_14 : decode cJ7_fill_53178 14 = .ok (.iinc 2 1, 3) := by decide +kernel
theorem dJ7_fill_53178_17 : decode cJ7_fill_53178 17 = .ok (.goto (-12), 3) := by decide +kernel
theorem dJ7_fill_53178_20 : decode cJ7_fill_53178 20 = .ok (.return_, 1) := by decide +kernel
