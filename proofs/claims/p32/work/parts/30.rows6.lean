set_option maxRecDepth 20000 in
theorem ggX6_init_X0_init : GoodIn wsX6_init wsX0_init := goodIn_r _ [32, 33, 2, 3, 34, 25, 26, 35, 36, 37, 38, 39, 40, 41, 42, 43, 44, 45, 46, 47, 48, 49, 50, 51, 52, 53, 54, 118, 92, 93] (by decide +kernel) (by decide +kernel)
set_option maxRecDepth 20000 in
theorem gX6_init_X0_init : GoodIn wsX6_init (wsX0_init) := ggX6_init_X0_init
set_option maxRecDepth 20000 in
theorem ggX6_init_X2_init : GoodIn wsX6_init wsX2_init := goodIn_r _ [56, 57, 2, 3, 58, 25, 26, 59, 60, 61, 62, 63, 64, 65, 38, 39, 40, 41, 42, 43, 44, 45, 46, 47, 48, 49, 50, 118, 102, 103, 104, 105, 106, 107] (by decide +kernel) (by decide +kernel)
set_option maxRecDepth 20000 in
theorem gX6_init_X2_init_n18 : GoodIn wsX6_init (wsX2_init) := ggX6_init_X2_init
set_option maxRecDepth 20000 in
theorem ggX6_init_X4_init : GoodIn wsX6_init wsX4_init := goodIn_r _ [68, 69, 2, 3, 70, 71, 72, 108, 109] (by decide +kernel) (by decide +kernel)
set_option maxRecDepth 20000 in
theorem gX6_init_X4_init : GoodIn wsX6_init (wsX4_init) := ggX6_init_X4_init
set_option maxRecDepth 20000 in
theorem ggX6_init_X3_init : GoodIn wsX6_init wsX3_init := goodIn_r _ [74, 75, 2, 3, 76, 25, 26, 77, 78, 79, 80, 81, 82, 83, 38, 39, 40, 41, 42, 43, 44, 45, 46, 47, 48, 49, 50, 118, 110, 111, 112, 113, 114, 115] (by decide +kernel) (by decide +kernel)
set_option maxRecDepth 20000 in
theorem gX6_init_X3_init_n34 : GoodIn wsX6_init (wsX3_init) := ggX6_init_X3_init
set_option maxRecDepth 20000 in
theorem ggX6_init_X5_init : GoodIn wsX6_init wsX5_init := goodIn_r _ [85, 86, 2, 3, 87, 25, 26, 88, 89, 90, 38, 39, 40, 41, 42, 43, 44, 45, 46, 47, 48, 49, 50, 118, 116, 117] (by decide +kernel) (by decide +kernel)
set_option maxRecDepth 20000 in
theorem gX6_init_X5_init_n41 : GoodIn wsX6_init (wsX5_init) := ggX6_init_X5_init
set_option maxRecDepth 20000 in
theorem ggX6_init_X1_init : GoodIn wsX6_init wsX1_init := goodIn_r _ [39, 40, 2, 3, 41, 42, 43, 44, 45, 46, 47, 48, 49, 50, 118] (by decide +kernel) (by decide +kernel)
set_option maxRecDepth 20000 in
theorem gX6_init_X1_init : GoodIn wsX6_init (wsX1_init) := ggX6_init_X1_init
theorem dX6_init_0 : decode cX6_init 0 = .ok (.aload_n 0, 1) := by decide +kernel
theorem dX6_init_1 : decode cX6_init 1 = .ok (.invokespecial 1, 3) := by decide +kernel
theorem dX6_init_4 : decode cX6_init 4 = .ok (.aload_n 0, 1) := by decide +kernel
theorem dX6_init_5 : decode cX6_init 5 = .ok (.new 7, 3) := by decide +kernel
theorem dX6_init_8 : decode cX6_init 8 = .ok (.dup, 1) := by decide +kernel
theorem dX6_init_9 : decode cX6_init 9 = .ok (.invokespecial 9, 3) := by decide +kernel
theorem dX6_init_12 : decode cX6_init 12 = .ok (.putfield 10, 3) := by decide +kernel
theorem dX6_init_15 : decode cX6_init 15 = .ok (.aload_n 0, 1) := by decide +kernel
theorem dX6_init_16 : decode cX6_init 16 = .ok (.new 16, 3) := by decide +kernel
theorem dX6_init_19 : decode cX6_init 19 = .ok (.dup, 1) := by decide +kernel
theorem dX6_init_20 : decode cX6_init 20 = .ok (.invokespecial 18, 3) := by decide +kernel
theorem dX6_init_23 : decode cX6_init 23 = .ok (.putfield 19, 3) := by decide +kernel
theorem dX6_init_26 : decode cX6_init 26 = .ok (.aload_n 0, 1) := by decide +kernel
theorem dX6_init_27 : decode cX6_init 27 = .ok (.new 23, 3) := by decide +kernel
theorem dX6_init_30 : decode cX6_init 30 = .ok (.dup, 1) := by decide +kernel
theorem dX6_init_31 : decode cX6_init 31 = .ok (.aload_n 0, 1) := by decide +kernel
theorem dX6_init_32 : decode cX6_init 32 = .ok (.getfield 19, 3) := by decide +kernel
theorem dX6_init_35 : decode cX6_init 35 = .ok (.invokespecial 25, 3) := by decide +kernel
theorem dX6_init_38 : decode cX6_init 38 = .ok (.putfield 28, 3) := by decide +kernel
theorem dX6_init_41 : decode cX6_init 41 = .ok (.aload_n 0, 1) := by decide +kernel
theorem dX6_init_42 : decode cX6_init 42 = .ok (.new 32, 3) := by decide +kernel
theorem dX6_init_45 : decode cX6_init 45 = .ok (.dup, 1) := by decide +kernel
theorem dX6_init_46 : decode cX6_init 46 = .ok (.invokespecial 34, 3) := by decide +kernel
theorem dX6_init_49 : decode cX6_init 49 = .ok (.putfield 35, 3) := by decide +kernel
theorem dX6_init_52 : decode cX6_init 52 = .ok (.aload_n 0, 1) := by decide +kernel
theorem dX6_init_53 : decode cX6_init 53 = .ok (.new 39, 3) := by decide +kernel
theorem dX6_init_56 : decode cX6_init 56 = .ok (.dup, 1) := by decide +kernel
theorem dX6_init_57 : decode cX6_init 57 = .ok (.invokespecial 41, 3) := by decide +kernel
theorem dX6_init_60 : decode cX6_init 60 = .ok (.putfield 42, 3) := by decide +kernel
theorem dX6_init_63 : decode cX6_init 63 = .ok (.aload_n 0, 1) := by decide +kernel
theorem dX6_init_64 : decode cX6_init 64 = .ok (.new 46, 3) := by decide +kernel
theorem dX6_init_67 : decode cX6_init 67 = .ok (.dup, 1) := by decide +kernel
theorem dX6_init_68 : decode cX6_init 68 = .ok (.iconst 5, 1) := by decide +kernel
theorem dX6_init_69 : decode cX6_init 69 = .ok (.iconst 0, 1) := by decide +kernel
theorem dX6_init_70 : decode cX6_init 70 = .ok (.invokespecial 48, 3) := by decide +kernel
theorem dX6_init_73 : decode cX6_init 73 = .ok (.putfield 51, 3) := by decide +kernel
theorem dX6_init_76 : decode cX6_init 76 = .ok (.aload_n 0, 1) := by decide +kernel
theorem dX6_init_77 : decode cX6_init 77 = .ok (.new 46, 3) := by decide +kernel
theorem dX6_init_80 : decode cX6_init 80 = .ok (.dup, 1) := by decide +kernel
theorem dX6_init_81 : decode cX6_init 81 = .ok (.bipush 8, 2) := by decide +kernel
theorem dX6_init_83 : decode cX6_init 83 = .ok (.iconst 0, 1) := by decide +kernel
theorem dX6_init_84 : decode cX6_init 84 = .ok (.invokespecial 48, 3) := by decide +kernel
theorem dX6_init_87 : decode cX6_init 87 = .ok (.putfield 55, 3) := by decide +kernel
theorem dX6_init_90 : decode cX6_init 90 = .ok (.aload_n 0, 1) := by decide +kernel
theorem dX6_init_91 : decode cX6_init 91 = .ok (.iconst 0, 1) := by decide +kernel
theorem dX6_init_92 : decode cX6_init 92 = .ok (.putfield 58, 3) := by decide +kernel
theorem dX6_init_95 : decode cX6_init 95 = .ok (.return_, 1) := by decide +kernel
set_option maxRecDepth 20000 in
theorem ggX6_put_X6_needLetter : GoodIn wsX6_put wsX6_needLetter := goodIn_ca (goodIn_r _ [7, 1, 2, 8, 9, 6, 10] (by decide +kernel) (by decide +kernel)) (goodIn_sub (fun _ h => List.mem_cons_of_mem _ (List.mem_append_right _ h)) (by decide +kernel))
set_option maxRecDepth 20000 in
theorem gX6_put_X6_needLetter : GoodIn wsX6_put (va_wsS RX6 62 yX6_needLetter wsX6_needLetter) := goodIn_app (goodIn_of _ (by decide +kernel)) ggX6_put_X6_needLetter
set_option maxRecDepth 20000 in
theorem ggX6_put_X6_isWithin : GoodIn wsX6_put wsX6_isWithin := goodIn_r _ [10] (by decide +kernel) (by decide +kernel)
set_option maxRecDepth 20000 in
theorem gX6_put_X6_isWithin : GoodIn wsX6_put (va_wsS RX6 66 yX6_isWithin wsX6_isWithin) := goodIn_app (goodIn_of _ (by decide +kernel)) ggX6_put_X6_isWithin
set_option maxRecDepth 20000 in
theorem ggX6_put_X0_move : GoodIn wsX6_put wsX0_move := goodIn_r _ [15, 16, 17, 18, 19, 20, 21, 22, 23, 24, 25, 26, 27, 36, 37, 38] (by decide +kernel) (by decide +kernel)
set_option maxRecDepth 20000 in
theorem gX6_put_X0_move : GoodIn wsX6_put (wsV RX6 77 RX0 yX0_move wsX0_move) := goodIn_app (goodIn_of _ (by decide +kernel)) ggX6_put_X0_move
theorem dX6_put_0 : decode cX6_put 0 = .ok (.iload_n 1, 1) := by decide +kernel
theorem dX6_put_1 : decode cX6_put 1 = .ok (.invokestatic 62, 3) := by decide +kernel
theorem dX6_put_4 : decode cX6_put 4 = .ok (.iload_n 2, 1) := by decide +kernel
theorem dX6_put_5 : decode cX6_put 5 = .ok (.iconst 0, 1) := by decide +kernel
theorem dX6_put_6 : decode cX6_put 6 = .ok (.bipush 9, 2) := by decide +kernel
theorem dX6_put_8 : decode cX6_put 8 = .ok (.invokestatic 66, 3) := by decide +kernel
theorem dX6_put_11 : decode cX6_put 11 = .ok (.ifCond .eq 12, 3) := by decide +kernel
theorem dX6_put_14 : decode cX6_put 14 = .ok (.iload_n 3, 1) := by decide +kernel
theorem dX6_put_15 : decode cX6_put 15 = .ok (.iconst 0, 1) := by decide +kernel
theorem dX6_put_16 : decode cX6_put 16 = .ok (.iconst 2, 1) := by decide +kernel
theorem dX6_put_17 : decode cX6_put 17 = .ok (.invokestatic 66, 3) := by decide +kernel
theorem dX6_put_20 : decode cX6_put 20 = .ok (.ifCond .ne 13, 3) := by decide +kernel
theorem dX6_put_23 : decode cX6_put 23 = .ok (.new 70, 3) := by decide +kernel
theorem dX6_put_26 : decode cX6_put 26 = .ok (.dup, 1) := by decide +kernel
theorem dX6_put_27 : decode cX6_put 27 = .ok (.ldc 72, 2) := by decide +kernel
theorem dX6_put_29 : decode cX6_put 29 = .ok (.invokespecial 74, 3) := by decide +kernel
theorem dX6_put_32 : decode cX6_put 32 = .ok (.athrow, 1) := by decide +kernel
theorem dX6_put_33 : decode cX6_put 33 = .ok (.aload_n 0, 1) := by decide +kernel
theorem dX6_put_34 : decode cX6_put 34 = .ok (.getfield 10, 3) := by decide +kernel
theorem dX6_put_37 : decode cX6_put 37 = .ok (.iload_n 1, 1) := by decide +kernel
theorem dX6_put_38 : decode cX6_put 38 = .ok (.iload_n 3, 1) := by decide +kernel
theorem dX6_put_39 : decode cX6_put 39 = .ok (.bipush 10, 2) := by decide +kernel
theorem dX6_put_41 : decode cX6_put 41 = .ok (.imul, 1) := by decide +kernel
theorem dX6_put_42 : decode cX6_put 42 = .ok (.iload_n 2, 1) := by decide +kernel
theorem dX6_put_43 : decode cX6_put 43 = .ok (.iadd, 1) := by decide +kernel
theorem dX6_put_44 : decode cX6_put 44 = .ok (.invokevirtual 77, 3) := by decide +kernel
theorem dX6_put_47 : decode cX6_put 47 = .ok (.ireturn, 1) := by decide +kernel
set_option maxRecDepth 20000 in
theorem ggX6_finger_X6_needLetter : GoodIn wsX6_finger wsX6_needLetter := goodIn_ca (goodIn_r _ [5, 6, 7, 8, 9, 4, 10] (by decide +kernel) (by decide +kernel)) (goodIn_sub (fun _ h => List.mem_cons_of_mem _ (List.mem_append_right _ h)) (by decide +kernel))
set_option maxRecDepth 20000 in
theorem gX6_finger_X6_needLetter : GoodIn wsX6_finger (va_wsS RX6 62 yX6_needLetter wsX6_needLetter) := goodIn_app (goodIn_of _ (by decide +kernel)) ggX6_finger_X6_needLetter
set_option maxRecDepth 20000 in
theorem ggX6_finger_X0_fingerOf : GoodIn wsX6_finger wsX0_fingerOf := goodIn_r _ [15, 16, 17, 18, 14, 19, 20, 21, 22, 23, 24, 25, 26, 35, 36, 37] (by decide +kernel) (by decide +kernel)
set_option maxRecDepth 20000 in
theorem gX6_finger_X0_fingerOf : GoodIn wsX6_finger (wsV RX6 81 RX0 yX0_fingerOf wsX0_fingerOf) := goodIn_app (goodIn_of _ (by decide +kernel)) ggX6_finger_X0_fingerOf
theorem dX6_finger_0 : decode cX6_finger 0 = .ok (.iload_n 1, 1) := by decide +kernel
theorem dX6_finger_1 : decode cX6_finger 1 = .ok (.invokestatic 62, 3) := by decide +kernel
theorem dX6_finger_4 : decode cX6_finger 4 = .ok (.aload_n 0, 1) := by decide +kernel
theorem dX6_finger_5 : decode cX6_finger 5 = .ok (.getfield 10, 3) := by decide +kernel
theorem dX6_finger_8 : decode cX6_finger 8 = .ok (.iload_n 1, 1) := by decide +kernel
theorem dX6_finger_9 : decode cX6_finger 9 = .ok (.invokevirtual 81, 3) := by decide +kernel
theorem dX6_finger_12 : decode cX6_finger 12 = .ok (.ireturn, 1) := by decide +kernel
set_option maxRecDepth 20000 in
theorem ggX6_areBeside_X6_needLetter : GoodIn wsX6_areBeside wsX6_needLetter := goodIn_ca (goodIn_r _ [5, 6, 7, 8, 9, 4, 10] (by decide +kernel) (by decide +kernel)) (goodIn_sub (fun _ h => List.mem_cons_of_mem _ (List.mem_append_right _ h)) (by decide +kernel))
set_option maxRecDepth 20000 in
theorem gX6_areBeside_X6_needLetter : GoodIn wsX6_areBeside (va_wsS RX6 62 yX6_needLetter wsX6_needLetter) := goodIn_app (goodIn_of _ (by decide +kernel)) ggX6_areBeside_X6_needLetter
set_option maxRecDepth 20000 in
theorem ggX6_areBeside_X0_touch : GoodIn wsX6_areBeside wsX0_touch := goodIn_r _ [15, 16, 17, 18, 19, 20, 21, 22, 14, 23, 24, 25, 26, 27, 28, 29, 30, 31, 32, 33, 34, 43, 44, 45] (by decide +kernel) (by decide +kernel)
set_option maxRecDepth 20000 in
theorem gX6_areBeside_X0_touch : GoodIn wsX6_areBeside (wsV RX6 85 RX0 yX0_touch wsX0_touch) := goodIn_app (goodIn_of _ (by decide +kernel)) ggX6_areBeside_X0_touch
theorem dX6_areBeside_0 : decode cX6_areBeside 0 = .ok (.iload_n 1, 1) := by decide +kernel
theorem dX6_areBeside_1 : decode cX6_areBeside 1 = .ok (.invokestatic 62, 3) := by decide +kernel
theorem dX6_areBeside_4 : decode cX6_areBeside 4 = .ok (.iload_n 2, 1) := by decide +kernel
theorem dX6_areBeside_5 : decode cX6_areBeside 5 = .ok (.invokestatic 62, 3) := by decide +kernel
theorem dX6_areBeside_8 : decode cX6_areBeside 8 = .ok (.aload_n 0, 1) := by decide +kernel
theorem dX6_areBeside_9 : decode cX6_areBeside 9 = .ok (.getfield 10, 3) := by decide +kernel
theorem dX6_areBeside_12 : decode cX6_areBeside 12 = .ok (.iload_n 1, 1) := by decide +kernel
theorem dX6_areBeside_13 : decode cX6_areBeside 13 = .ok (.iload_n 2, 1) := by decide +kernel
theorem dX6_areBeside_14 : decode cX6_areBeside 14 = .ok (.invokevirtual 85, 3) := by decide +kernel
theorem dX6_areBeside_17 : decode cX6_areBeside 17 = .ok (.ireturn, 1) := by decide +kernel
set_option maxRecDepth 20000 in
theorem ggX6_mirror_X6_needLetter : GoodIn wsX6_mirror wsX6_needLetter := goodIn_ca (goodIn_r _ [5, 6, 7, 8, 9, 4, 10] (by decide +kernel) (by decide +kernel)) (goodIn_sub (fun _ h => List.mem_cons_of_mem _ (List.mem_append_right _ h)) (by decide +kernel))
set_option maxRecDepth 20000 in
theorem gX6_mirror_X6_needLetter : GoodIn wsX6_mirror (va_wsS RX6 62 yX6_needLetter wsX6_needLetter) := goodIn_app (goodIn_of _ (by decide +kernel)) ggX6_mirror_X6_needLetter
set_option maxRecDepth 20000 in
theorem ggX6_mirror_X0_mirrorOf : GoodIn wsX6_mirror wsX0_mirrorOf := goodIn_r _ [15, 16, 17, 18, 19, 14, 20, 21, 22, 23, 24, 25, 26, 27, 28, 29, 30, 31, 40, 41, 42] (by decide +kernel) (by decide +kernel)
set_option maxRecDepth 20000 in
theorem gX6_mirror_X0_mirrorOf : GoodIn wsX6_mirror (wsV RX6 89 RX0 yX0_mirrorOf wsX0_mirrorOf) := goodIn_app (goodIn_of _ (by decide +kernel)) ggX6_mirror_X0_mirrorOf
theorem dX6_mirror_0 : decode cX6_mirror 0 = .ok (.iload_n 1, 1) := by decide +kernel
theorem dX6_mirror_1 : decode cX6_mirror 1 = .ok (.invokestatic 62, 3) := by decide +kernel
theorem dX6_mirror_4 : decode cX6_mirror 4 = .ok (.aload_n 0, 1) := by decide +kernel
theorem dX6_mirror_5 : decode cX6_mirror 5 = .ok (.getfield 10, 3) := by decide +kernel
theorem dX6_mirror_8 : decode cX6_mirror 8 = .ok (.iload_n 1, 1) := by decide +kernel
theorem dX6_mirror_9 : decode cX6_mirror 9 = .ok (.invokevirtual 89, 3) := by decide +kernel
theorem dX6_mirror_12 : decode cX6_mirror 12 = .ok (.ireturn, 1) := by decide +kernel
set_option maxRecDepth 20000 in
theorem ggX6_want_X6_needLetter : GoodIn wsX6_want wsX6_needLetter := goodIn_ca (goodIn_r _ [7, 8, 9, 10, 11, 6, 12] (by decide +kernel) (by decide +kernel)) (goodIn_sub (fun _ h => List.mem_cons_of_mem _ (List.mem_append_right _ h)) (by decide +kernel))
set_option maxRecDepth 20000 in
theorem gX6_want_X6_needLetter : GoodIn wsX6_want (va_wsS RX6 62 yX6_needLetter wsX6_needLetter) := goodIn_app (goodIn_of _ (by decide +kernel)) ggX6_want_X6_needLetter
set_option maxRecDepth 20000 in
theorem ggX6_want_X3_isFull : GoodIn wsX6_want wsX3_isFull := goodIn_r _ [17, 18, 38, 39, 40, 41, 42, 43] (by decide +kernel) (by decide +kernel)
set_option maxRecDepth 20000 in
theorem gX6_want_X3_isFull : GoodIn wsX6_want (wsV RX6 92 RX3 yX3_isFull wsX3_isFull) := goodIn_app (goodIn_of _ (by decide +kernel)) ggX6_want_X3_isFull
set_option maxRecDepth 20000 in
theorem ggX6_want_X3_append : GoodIn wsX6_want wsX3_append := goodIn_r _ [22, 23, 18, 24, 25, 26, 27, 28, 29, 38, 39, 40, 41, 42, 43, 44] (by decide +kernel) (by decide +kernel)
set_option maxRecDepth 20000 in
theorem gX6_want_X3_append : GoodIn wsX6_want (wsV RX6 101 RX3 yX3_append wsX3_append) := goodIn_app (goodIn_of _ (by decide +kernel)) ggX6_want_X3_append
theorem dX6_want_0 : decode cX6_want 0 = .ok (.iload_n 1, 1) := by decide +kernel
theorem dX6_want_1 : decode cX6_want 1 = .ok (.invokestatic 62, 3) := by decide +kernel
theorem dX6_want_4 : decode cX6_want 4 = .ok (.aload_n 0, 1) := by decide +kernel
theorem dX6_want_5 : decode cX6_want 5 = .ok (.getfield 35, 3) := by decide +kernel
theorem dX6_want_8 : decode cX6_want 8 = .ok (.invokevirtual 92, 3) := by decide +kernel
theorem dX6_want_11 : decode cX6_want 11 = .ok (.ifCond .eq 13, 3) := by decide +kernel
theorem dX6_want_14 : decode cX6_want 14 = .ok (.new 96, 3) := by decide +kernel
theorem dX6_want_17 : decode cX6_want 17 = .ok (.dup, 1) := by decide +kernel
theorem dX6_want_18 : decode cX6_want 18 = .ok (.ldc 98, 2) := by decide +kernel
theorem dX6_want_20 : decode cX6_want 20 = .ok (.invokespecial 100, 3) := by decide +kernel
theorem dX6_want_23 : decode cX6_want 23 = .ok (.athrow, 1) := by decide +kernel
theorem dX6_want_24 : decode cX6_want 24 = .ok (.aload_n 0, 1) := by decide +kernel
theorem dX6_want_25 : decode cX6_want 25 = .ok (.getfield 35, 3) := by decide +kernel
theorem dX6_want_28 : decode cX6_want 28 = .ok (.iload_n 1, 1) := by decide +kernel
theorem dX6_want_29 : decode cX6_want 29 = .ok (.invokevirtual 101, 3) := by decide +kernel
theorem dX6_want_32 : decode cX6_want 32 = .ok (.aload_n 0, 1) := by decide +kernel
theorem dX6_want_33 : decode cX6_want 33 = .ok (.getfield 35, 3) := by decide +kernel
theorem dX6_want_36 : decode cX6_want 36 = .ok (.getfield 104, 3) := by decide +kernel
theorem dX6_want_39 : decode cX6_want 39 = .ok (.ireturn, 1) := by decide +kernel
set_option maxRecDepth 20000 in
theorem ggX6_drill_X6_isWithin : GoodIn wsX6_drill wsX6_isWithin := goodIn_r _ [8] (by decide +kernel) (by decide +kernel)
set_option maxRecDepth 20000 in
theorem gX6_drill_X6_isWithin : GoodIn wsX6_drill (va_wsS RX6 66 yX6_isWithin wsX6_isWithin) := goodIn_app (goodIn_of _ (by decide +kernel)) ggX6_drill_X6_isWithin
set_option maxRecDepth 20000 in
theorem ggX6_drill_X4_weakestOfAll : GoodIn wsX6_drill wsX4_weakestOfAll := goodIn_r _ [13, 14, 15, 16, 17, 12, 18, 19, 20, 21, 22, 23, 24, 25, 26, 27, 28, 29, 30, 31, 32, 68, 69, 70, 71, 72, 73, 74, 75, 76] (by decide +kernel) (by decide +kernel)
set_option maxRecDepth 20000 in
theorem gX6_drill_X4_weakestOfAll : GoodIn wsX6_drill (wsV RX6 112 RX4 yX4_weakestOfAll wsX4_weakestOfAll) := goodIn_app (goodIn_of _ (by decide +kernel)) ggX6_drill_X4_weakestOfAll
set_option maxRecDepth 20000 in
theorem ggX6_drill_X3_isFull : GoodIn wsX6_drill wsX3_isFull := goodIn_r _ [37, 38, 77, 78, 79, 80, 81, 82] (by decide +kernel) (by decide +kernel)
set_option maxRecDepth 20000 in
theorem gX6_drill_X3_isFull : GoodIn wsX6_drill (wsV RX6 92 RX3 yX3_isFull wsX3_isFull) := goodIn_app (goodIn_of _ (by decide +kernel)) ggX6_drill_X3_isFull
set_option maxRecDepth 20000 in
theorem ggX6_drill_X3_append : GoodIn wsX6_drill wsX3_append := goodIn_r _ [42, 43, 38, 44, 45, 46, 30, 47, 32, 77, 78, 79, 80, 81, 82, 76] (by decide +kernel) (by decide +kernel)
set_option maxRecDepth 20000 in
theorem gX6_drill_X3_append : GoodIn wsX6_drill (wsV RX6 101 RX3 yX3_append wsX3_append) := goodIn_app (goodIn_of _ (by decide +kernel)) ggX6_drill_X3_append
set_option maxRecDepth 20000 in
theorem ggX6_drill_X4_slowestBehind : GoodIn wsX6_drill wsX4_slowestBehind := goodIn_r _ [51, 14, 52, 53, 54, 23, 55, 56, 57, 58, 59, 27, 28, 29, 30, 31, 32, 15, 16, 17, 12, 18, 19, 68, 69, 70, 71, 72, 73, 74, 75, 76] (by decide +kernel) (by decide +kernel)
set_option maxRecDepth 20000 in
theorem gX6_drill_X4_slowestBehind : GoodIn wsX6_drill (wsV RX6 116 RX4 yX4_slowestBehind wsX4_slowestBehind) := goodIn_app (goodIn_of _ (by decide +kernel)) ggX6_drill_X4_slowestBehind
theorem dX6_drill_0 : decode cX6_drill 0 = .ok (.iload_n 1, 1) := by decide +kernel
theorem dX6_drill_1 : decode cX6_drill 1 = .ok (.iconst 1, 1) := by decide +kernel
theorem dX6_drill_2 : decode cX6_drill 2 = .ok (.bipush 40, 2) := by decide +kernel
theorem dX6_drill_4 : decode cX6_drill 4 = .ok (.invokestatic 66, 3) := by decide +kernel
theorem dX6_drill_7 : decode cX6_drill 7 = .ok (.ifCond .ne 13, 3) := by decide +kernel
theorem dX6_drill_10 : decode cX6_drill 10 = .ok (.new 107, 3) := by decide +kernel
theorem dX6_drill_13 : decode cX6_drill 13 = .ok (.dup, 1) := by decide +kernel
theorem dX6_drill_14 : decode cX6_drill 14 = .ok (.ldc 109, 2) := by decide +kernel
theorem dX6_drill_16 : decode cX6_drill 16 = .ok (.invokespecial 111, 3) := by decide +kernel
theorem dX6_drill_19 : decode cX6_drill 19 = .ok (.athrow, 1) := by decide +kernel
theorem dX6_drill_20 : decode cX6_drill 20 = .ok (.aload_n 0, 1) := by decide +kernel
theorem dX6_drill_21 : decode cX6_drill 21 = .ok (.getfield 28, 3) := by decide +kernel
theorem dX6_drill_24 : decode cX6_drill 24 = .ok (.invokevirtual 112, 3) := by decide +kernel
theorem dX6_drill_27 : decode cX6_drill 27 = .ok (.istore_n 2, 1) := by decide +kernel
theorem dX6_drill_28 : decode cX6_drill 28 = .ok (.iconst 0, 1) := by decide +kernel
theorem dX6_drill_29 : decode cX6_drill 29 = .ok (.istore_n 3, 1) := by decide +kernel
theorem dX6_drill_30 : decode cX6_drill 30 = .ok (.iload_n 3, 1) := by decide +kernel
theorem dX6_drill_31 : decode cX6_drill 31 = .ok (.iload_n 1, 1) := by decide +kernel
theorem dX6_drill_32 : decode cX6_drill 32 = .ok (.if_icmp .ge 36, 3) := by decide +kernel
theorem dX6_drill_35 : decode cX6_drill 35 = .ok (.aload_n 0, 1) := by decide +kernel
theorem dX6_drill_36 : decode cX6_drill 36 = .ok (.getfield 35, 3) := by decide +kernel
theorem dX6_drill_39 : decode cX6_drill 39 = .ok (.invokevirtual 92, 3) := by decide +kernel
theorem dX6_drill_42 : decode cX6_drill 42 = .ok (.ifCond .ne 26, 3) := by decide +kernel
theorem dX6_drill_45 : decode cX6_drill 45 = .ok (.aload_n 0, 1) := by decide +kernel
theorem dX6_drill_46 : decode cX6_drill 46 = .ok (.getfield 35, 3) := by decide +kernel
theorem dX6_drill_49 : decode cX6_drill 49 = .ok (.iload_n 2, 1) := by decide +kernel
theorem dX6_drill_50 : decode cX6_drill 50 = .ok (.invokevirtual 101, 3) := by decide +kernel
theorem dX6_drill_53 : decode cX6_drill 53 = .ok (.aload_n 0, 1) := by decide +kernel
theorem dX6_drill_54 : decode cX6_drill 54 = .ok (.getfield 28, 3) := by decide +kernel
theorem dX6_drill_57 : decode cX6_drill 57 = .ok (.iload_n 2, 1) := by decide +kernel
theorem dX6_drill_58 : decode cX6_drill 58 = .ok (.invokevirtual 116, 3) := by decide +kernel
theorem dX6_drill_61 : decode cX6_drill 61 = .ok (.istore_n 2, 1) := by decide +kernel
theorem dX6_drill_62 : decode cX6_drill 62 = .ok (.iinc 3 1, 3) := by decide +kernel
theorem dX6_drill_65 : decode cX6_drill 65 = .ok (.goto (-35), 3) := by decide +kernel
theorem dX6_drill_68 : decode cX6_drill 68 = .ok (.iload_n 3, 1) := by decide +kernel
theorem dX6_drill_69 : decode cX6_drill 69 = .ok (.ireturn, 1) := by decide +kernel
theorem dX6_wanted_0 : decode cX6_wanted 0 = .ok (.aload_n 0, 1) := by decide +kernel
theorem dX6_wanted_1 : decode cX6_wanted 1 = .ok (.getfield 35, 3) := by decide +kernel
theorem dX6_wanted_4 : decode cX6_wanted 4 = .ok (.getfield 104, 3) := by decide +kernel
theorem dX6_wanted_7 : decode cX6_wanted 7 = .ok (.ireturn, 1) := by decide +kernel
set_option maxRecDepth 20000 in
theorem ggX6_wantedAt_X6_isWithin : GoodIn wsX6_wantedAt wsX6_isWithin := goodIn_r _ [7] (by decide +kernel) (by decide +kernel)
set_option maxRecDepth 20000 in
theorem gX6_wantedAt_X6_isWithin : GoodIn wsX6_wantedAt (va_wsS RX6 66 yX6_isWithin wsX6_isWithin) := goodIn_app (goodIn_of _ (by decide +kernel)) ggX6_wantedAt_X6_isWithin
set_option maxRecDepth 20000 in
theorem ggX6_wantedAt_X3_letterAt : GoodIn wsX6_wantedAt wsX3_letterAt := goodIn_r _ [12, 13, 14, 15, 16, 17, 18, 19, 20, 29, 30, 31, 32, 33, 34, 35] (by decide +kernel) (by decide +kernel)
set_option maxRecDepth 20000 in
theorem gX6_wantedAt_X3_letterAt : GoodIn wsX6_wantedAt (wsV RX6 121 RX3 yX3_letterAt wsX3_letterAt) := goodIn_app (goodIn_of _ (by decide +kernel)) ggX6_wantedAt_X3_letterAt
theorem dX6_wantedAt_0 : decode cX6_wantedAt 0 = .ok (.iload_n 1, 1) := by decide +kernel
theorem dX6_wantedAt_1 : decode cX6_wantedAt 1 = .ok (.iconst 0, 1) := by decide +kernel
theorem dX6_wantedAt_2 : decode cX6_wantedAt 2 = .ok (.aload_n 0, 1) := by decide +kernel
theorem dX6_wantedAt_3 : decode cX6_wantedAt 3 = .ok (.getfield 35, 3) := by decide +kernel
theorem dX6_wantedAt_6 : decode cX6_wantedAt 6 = .ok (.getfield 104, 3) := by decide +kernel
theorem dX6_wantedAt_9 : decode cX6_wantedAt 9 = .ok (.iconst 1, 1) := by decide +kernel
theorem dX6_wantedAt_10 : decode cX6_wantedAt 10 = .ok (.isub, 1) := by decide +kernel
theorem dX6_wantedAt_11 : decode cX6_wantedAt 11 = .ok (.invokestatic 66, 3) := by decide +kernel
theorem dX6_wantedAt_14 : decode cX6_wantedAt 14 = .ok (.ifCond .ne 13, 3) := by decide +kernel
theorem dX6_wantedAt_17 : decode cX6_wantedAt 17 = .ok (.new 70, 3) := by decide +kernel
theorem dX6_wantedAt_20 : decode cX6_wantedAt 20 = .ok (.dup, 1) := by decide +kernel
theorem dX6_wantedAt_21 : decode cX6_wantedAt 21 = .ok (.ldc 119, 2) := by decide +kernel
theorem dX6_wantedAt_23 : decode cX6_wantedAt 23 = .ok (.invokespecial 74, 3) := by decide +kernel
theorem dX6_wantedAt_26 : decode cX6_wantedAt 26 = .ok (.athrow, 1) := by decide +kernel
theorem dX6_wantedAt_27 : decode cX6_wantedAt 27 = .ok (.aload_n 0, 1) := by decide +kernel
theorem dX6_wantedAt_28 : decode cX6_wantedAt 28 = .ok (.getfield 35, 3) := by decide +kernel
theorem dX6_wantedAt_31 : decode cX6_wantedAt 31 = .ok (.iload_n 1, 1) := by decide +kernel
theorem dX6_wantedAt_32 : decode cX6_wantedAt 32 = .ok (.invokevirtual 121, 3) := by decide +kernel
theorem dX6_wantedAt_35 : decode cX6_wantedAt 35 = .ok (.ireturn, 1) := by decide +kernel
theorem dX6_position_0 : decode cX6_position 0 = .ok (.aload_n 0, 1) := by decide +kernel
theorem dX6_position_1 : decode cX6_position 1 = .ok (.getfield 35, 3) := by decide +kernel
theorem dX6_position_4 : decode cX6_position 4 = .ok (.getfield 124, 3) := by decide +kernel
theorem dX6_position_7 : decode cX6_position 7 = .ok (.ireturn, 1) := by decide +kernel
set_option maxRecDepth 20000 in
theorem ggX6_stroke_X6_needLetter : GoodIn wsX6_stroke wsX6_needLetter := goodIn_ca (goodIn_r _ [12, 13, 14, 15, 16, 11, 17] (by decide +kernel) (by decide +kernel)) (goodIn_sub (fun _ h => List.mem_cons_of_mem _ (List.mem_append_left _ (List.mem_append_right _ h))) (by decide +kernel))
set_option maxRecDepth 20000 in
theorem gX6_stroke_X6_needLetter : GoodIn wsX6_stroke (va_wsS RX6 62 yX6_needLetter wsX6_needLetter) := goodIn_app (goodIn_of _ (by decide +kernel)) ggX6_stroke_X6_needLetter
set_option maxRecDepth 20000 in
theorem ggX6_stroke_X6_needMillis : GoodIn wsX6_stroke wsX6_needMillis := goodIn_ca (goodIn_r _ [20, 21, 22, 15, 16, 11, 17] (by decide +kernel) (by decide +kernel)) (goodIn_sub (fun _ h => List.mem_cons_of_mem _ (List.mem_append_right _ h)) (by decide +kernel))
set_option maxRecDepth 20000 in
theorem gX6_stroke_X6_needMillis : GoodIn wsX6_stroke (va_wsS RX6 127 yX6_needMillis wsX6_needMillis) := goodIn_app (goodIn_of _ (by decide +kernel)) ggX6_stroke_X6_needMillis
set_option maxRecDepth 20000 in
theorem ggX6_stroke_X3_letterAt : GoodIn wsX6_stroke wsX3_letterAt := goodIn_r _ [27, 28, 29, 30, 31, 32, 33, 34, 35, 123, 124, 125, 126, 127, 128, 129] (by decide +kernel) (by decide +kernel)
set_option maxRecDepth 20000 in
theorem gX6_stroke_X3_letterAt : GoodIn wsX6_stroke (wsV RX6 121 RX3 yX3_letterAt wsX3_letterAt) := goodIn_app (goodIn_of _ (by decide +kernel)) ggX6_stroke_X3_letterAt
set_option maxRecDepth 20000 in
theorem ggX6_stroke_X6_kindOfStroke : GoodIn wsX6_stroke wsX6_kindOfStroke := goodIn_r _ [39, 3, 7, 40, 41, 42, 26, 43, 44, 45, 30, 31, 32, 33, 34, 35, 23, 24, 25, 27, 28, 29, 46, 47, 48, 49, 50, 51, 52, 53, 54, 55, 56, 57, 58, 59, 60, 61, 62, 63, 64, 65, 66, 67, 68, 69, 115, 116, 117, 118, 119, 120, 121, 122, 123, 124, 125, 126, 127, 128, 129, 130, 131] (by decide +kernel) (by decide +kernel)
set_option maxRecDepth 20000 in
theorem gX6_stroke_X6_kindOfStroke : GoodIn wsX6_stroke (wsV RX6 132 RX6 yX6_kindOfStroke wsX6_kindOfStroke) := goodIn_app (goodIn_of _ (by decide +kernel)) ggX6_stroke_X6_kindOfStroke
set_option maxRecDepth 20000 in
theorem ggX6_stroke_X2_learn : GoodIn wsX6_stroke wsX2_learn := goodIn_r _ [74, 75, 76, 77, 78, 79, 80, 33, 81, 82, 31, 32, 34, 35, 83, 84, 85, 86, 87, 88, 89, 73, 90, 91, 132, 133, 134, 135, 136, 137, 129] (by decide +kernel) (by decide +kernel)
set_option maxRecDepth 20000 in
theorem gX6_stroke_X2_learn : GoodIn wsX6_stroke (wsV RX6 135 RX2 yX2_learn wsX2_learn) := goodIn_app (goodIn_of _ (by decide +kernel)) ggX6_stroke_X2_learn
set_option maxRecDepth 20000 in
theorem ggX6_stroke_X2_learnPair : GoodIn wsX6_stroke wsX2_learnPair := goodIn_r _ [95, 96, 97, 98, 73, 99, 100, 101, 102, 103, 87, 31, 32, 33, 34, 35, 88, 89, 90, 91, 84, 85, 86, 132, 133, 134, 135, 136, 137, 129] (by decide +kernel) (by decide +kernel)
set_option maxRecDepth 20000 in
theorem gX6_stroke_X2_learnPair : GoodIn wsX6_stroke (wsV RX6 139 RX2 yX2_learnPair wsX2_learnPair) := goodIn_app (goodIn_of _ (by decide +kernel)) ggX6_stroke_X2_learnPair
set_option maxRecDepth 20000 in
theorem ggX6_stroke_X1_add : GoodIn wsX6_stroke wsX1_add := goodIn_r _ [81, 82, 31, 32, 33, 34, 35, 83, 84, 85, 86, 129] (by decide +kernel) (by decide +kernel)
set_option maxRecDepth 20000 in
theorem gX6_stroke_X1_add : GoodIn wsX6_stroke (wsV RX6 143 RX1 yX1_add wsX1_add) := goodIn_app (goodIn_of _ (by decide +kernel)) ggX6_stroke_X1_add
set_option maxRecDepth 20000 in
theorem ggX6_stroke_X0_fingerOf : GoodIn wsX6_stroke wsX0_fingerOf := goodIn_r _ [108, 55, 56, 57, 49, 58, 59, 60, 31, 32, 33, 34, 35, 130, 131, 129] (by decide +kernel) (by decide +kernel)
set_option maxRecDepth 20000 in
theorem gX6_stroke_X0_fingerOf : GoodIn wsX6_stroke (wsV RX6 81 RX0 yX0_fingerOf wsX0_fingerOf) := goodIn_app (goodIn_of _ (by decide +kernel)) ggX6_stroke_X0_fingerOf
set_option maxRecDepth 20000 in
theorem ggX6_stroke_X3_type : GoodIn wsX6_stroke wsX3_type := goodIn_r _ [112, 44, 45, 113, 114, 84, 85, 33, 86, 35, 123, 124, 125, 126, 127, 128, 129] (by decide +kernel) (by decide +kernel)
set_option maxRecDepth 20000 in
theorem gX6_stroke_X3_type : GoodIn wsX6_stroke (wsV RX6 146 RX3 yX3_type wsX3_type) := goodIn_app (goodIn_of _ (by decide +kernel)) ggX6_stroke_X3_type
theorem dX6_stroke_0 : decode cX6_stroke 0 = .ok (.iload_n 1, 1) := by decide +kernel
theorem dX6_stroke_1 : decode cX6_stroke 1 = .ok (.invokestatic 62, 3) := by decide +kernel
theorem dX6_stroke_4 : decode cX6_stroke 4 = .ok (.iload_n 2, 1) := by decide +kernel
theorem dX6_stroke_5 : decode cX6_stroke 5 = .ok (.invokestatic 127, 3) := by decide +kernel
theorem dX6_stroke_8 : decode cX6_stroke 8 = .ok (.aload_n 0, 1) := by decide +kernel
theorem dX6_stroke_9 : decode cX6_stroke 9 = .ok (.getfield 35, 3) := by decide +kernel
theorem dX6_stroke_12 : decode cX6_stroke 12 = .ok (.aload_n 0, 1) := by decide +kernel
theorem dX6_stroke_13 : decode cX6_stroke 13 = .ok (.getfield 35, 3) := by decide +kernel
theorem dX6_stroke_16 : decode cX6_stroke 16 = .ok (.getfield 124, 3) := by decide +kernel
theorem dX6_stroke_19 : decode cX6_stroke 19 = .ok (.invokevirtual 121, 3) := by decide +kernel
theorem dX6_stroke_22 : decode cX6_stroke 22 = .ok (.istore_n 3, 1) := by decide +kernel
theorem dX6_stroke_23 : decode cX6_stroke 23 = .ok (.iload_n 3, 1) := by decide +kernel
theorem dX6_stroke_24 : decode cX6_stroke 24 = .ok (.iconst (-1), 1) := by decide +kernel
theorem dX6_stroke_25 : decode cX6_stroke 25 = .ok (.if_icmp .ne 13, 3) := by decide +kernel
theorem dX6_stroke_28 : decode cX6_stroke 28 = .ok (.new 96, 3) := by decide +kernel
theorem dX6_stroke_31 : decode cX6_stroke 31 = .ok (.dup, 1) := by decide +kernel
theorem dX6_stroke_32 : decode cX6_stroke 32 = .ok (.ldc 130, 2) := by decide +kernel
theorem dX6_stroke_34 : decode cX6_stroke 34 = .ok (.invokespecial 100, 3) := by decide +kernel
theorem dX6_stroke_37 : decode cX6_stroke 37 = .ok (.athrow, 1) := by decide +kernel
theorem dX6_stroke_38 : decode cX6_stroke 38 = .ok (.aload_n 0, 1) := by decide +kernel
theorem dX6_stroke_39 : decode cX6_stroke 39 = .ok (.iload_n 1, 1) := by decide +kernel
theorem dX6_stroke_40 : decode cX6_stroke 40 = .ok (.iload_n 3, 1) := by decide +kernel
theorem dX6_stroke_41 : decode cX6_stroke 41 = .ok (.invokevirtual 132, 3) := by decide +kernel
theorem dX6_stroke_44 : decode cX6_stroke 44 = .ok (.istore 4, 2) := by decide +kernel
theorem dX6_stroke_46 : decode cX6_stroke 46 = .ok (.aload_n 0, 1) := by decide +kernel
theorem dX6_stroke_47 : decode cX6_stroke 47 = .ok (.getfield 19, 3) := by decide +kernel
theorem dX6_stroke_50 : decode cX6_stroke 50 = .ok (.iload_n 3, 1) := by decide +kernel
theorem dX6_stroke_51 : decode cX6_stroke 51 = .ok (.iload_n 2, 1) := by decide +kernel
theorem dX6_stroke_52 : decode cX6_stroke 52 = .ok (.iload 4, 2) := by decide +kernel
theorem dX6_stroke_54 : decode cX6_stroke 54 = .ok (.iconst (-1), 1) := by decide +kernel
theorem dX6_stroke_55 : decode cX6_stroke 55 = .ok (.if_icmp .eq 7, 3) := by decide +kernel
theorem dX6_stroke_58 : decode cX6_stroke 58 = .ok (.iconst 1, 1) := by decide +kernel
theorem dX6_stroke_59 : decode cX6_stroke 59 = .ok (.goto 4, 3) := by decide +kernel
theorem dX6_stroke_62 : decode cX6_stroke 62 = .ok (.iconst 0, 1) := by decide +kernel
theorem dX6_stroke_63 : decode cX6_stroke 63 = .ok (.invokevirtual 135, 3) := by decide +kernel
theorem dX6_stroke_66 : decode cX6_stroke 66 = .ok (.aload_n 0, 1) := by decide +kernel
theorem dX6_stroke_67 : decode cX6_stroke 67 = .ok (.getfield 35, 3) := by decide +kernel
theorem dX6_stroke_70 : decode cX6_stroke 70 = .ok (.getfield 124, 3) := by decide +kernel
theorem dX6_stroke_73 : decode cX6_stroke 73 = .ok (.ifCond .eq 28, 3) := by decide +kernel
theorem dX6_stroke_76 : decode cX6_stroke 76 = .ok (.aload_n 0, 1) := by decide +kernel
theorem dX6_stroke_77 : decode cX6_stroke 77 = .ok (.getfield 19, 3) := by decide +kernel
theorem dX6_stroke_80 : decode cX6_stroke 80 = .ok (.aload_n 0, 1) := by decide +kernel
theorem dX6_stroke_81 : decode cX6_stroke 81 = .ok (.getfield 35, 3) := by decide +kernel
theorem dX6_stroke_84 : decode cX6_stroke 84 = .ok (.aload_n 0, 1) := by decide +kernel
theorem dX6_stroke_85 : decode cX6_stroke 85 = .ok (.getfield 35, 3) := by decide +kernel
theorem dX6_stroke_88 : decode cX6_stroke 88 = .ok (.getfield 124, 3) := by decide +kernel
theorem dX6_stroke_91 : decode cX6_stroke 91 = .ok (.iconst 1, 1) := by decide +kernel
theorem dX6_stroke_92 : decode cX6_stroke 92 = .ok (.isub, 1) := by decide +kernel
theorem dX6_stroke_93 : decode cX6_stroke 93 = .ok (.invokevirtual 121, 3) := by decide +kernel
theorem dX6_stroke_96 : decode cX6_stroke 96 = .ok (.iload_n 3, 1) := by decide +kernel
theorem dX6_stroke_97 : decode cX6_stroke 97 = .ok (.iload_n 2, 1) := by decide +kernel
theorem dX6_stroke_98 : decode cX6_stroke 98 = .ok (.invokevirtual 139, 3) := by decide +kernel
theorem dX6_stroke_101 : decode cX6_stroke 101 = .ok (.iload 4, 2) := by decide +kernel
theorem dX6_stroke_103 : decode cX6_stroke 103 = .ok (.iconst (-1), 1) := by decide +kernel
theorem dX6_stroke_104 : decode cX6_stroke 104 = .ok (.if_icmp .eq 29, 3) := by decide +kernel
theorem dX6_stroke_107 : decode cX6_stroke 107 = .ok (.aload_n 0, 1) := by decide +kernel
theorem dX6_stroke_108 : decode cX6_stroke 108 = .ok (.getfield 51, 3) := by decide +kernel
theorem dX6_stroke_111 : decode cX6_stroke 111 = .ok (.iload 4, 2) := by decide +kernel
theorem dX6_stroke_113 : decode cX6_stroke 113 = .ok (.iconst 1, 1) := by decide +kernel
theorem dX6_stroke_114 : decode cX6_stroke 114 = .ok (.invokevirtual 143, 3) := by decide +kernel
theorem dX6_stroke_117 : decode cX6_stroke 117 = .ok (.aload_n 0, 1) := by decide +kernel
theorem dX6_stroke_118 : decode cX6_stroke 118 = .ok (.getfield 55, 3) := by decide +kernel
theorem dX6_stroke_121 : decode cX6_stroke 121 = .ok (.aload_n 0, 1) := by decide +kernel
theorem dX6_stroke_122 : decode cX6_stroke 122 = .ok (.getfield 10, 3) := by decide +kernel
theorem dX6_stroke_125 : decode cX6_stroke 125 = .ok (.iload_n 3, 1) := by decide +kernel
theorem dX6_stroke_126 : decode cX6_stroke 126 = .ok (.invokevirtual 81, 3) := by decide +kernel
theorem dX6_stroke_129 : decode cX6_stroke 129 = .ok (.iconst 1, 1) := by decide +kernel
theorem dX6_stroke_130 : decode cX6_stroke 130 = .ok (.invokevirtual 143, 3) := by decide +kernel
theorem dX6_stroke_133 : decode cX6_stroke 133 = .ok (.aload_n 0, 1) := by decide +kernel
theorem dX6_stroke_134 : decode cX6_stroke 134 = .ok (.getfield 35, 3) := by decide +kernel
theorem dX6_stroke_137 : decode cX6_stroke 137 = .ok (.iload_n 1, 1) := by decide +kernel
theorem dX6_stroke_138 : decode cX6_stroke 138 = .ok (.iload_n 2, 1) := by decide +kernel
theorem dX6_stroke_139 : decode cX6_stroke 139 = .ok (.invokevirtual 146, 3) := by decide +kernel
theorem dX6_stroke_142 : decode cX6_stroke 142 = .ok (.aload_n 0, 1) := by decide +kernel
theorem dX6_stroke_143 : decode cX6_stroke 143 = .ok (.dup, 1) := by decide +kernel
theorem dX6_stroke_144 : decode cX6_stroke 144 = .ok (.getfield 58, 3) := by decide +kernel
theorem dX6_stroke_147 : decode cX6_stroke 147 = .ok (.iconst 1, 1) := by decide +kernel
theorem dX6_stroke_148 : decode cX6_stroke 148 = .ok (.iadd, 1) := by decide +kernel
theorem dX6_stroke_149 : decode cX6_stroke 149 = .ok (.putfield 58, 3) := by decide +kernel
theorem dX6_stroke_152 : decode cX6_stroke 152 = .ok (.iload 4, 2) := by decide +kernel
theorem dX6_stroke_154 : decode cX6_stroke 154 = .ok (.ireturn, 1) := by decide +kernel
set_option maxRecDepth 20000 in
theorem ggX6_back_X6_needMillis : GoodIn wsX6_back wsX6_needMillis := goodIn_ca (goodIn_r _ [7, 8, 9, 10, 11, 6, 12] (by decide +kernel) (by decide +kernel)) (goodIn_sub (fun _ h => List.mem_cons_of_mem _ (List.mem_append_right _ h)) (by decide +kernel))
set_option maxRecDepth 20000 in
theorem gX6_back_X6_needMillis : GoodIn wsX6_back (va_wsS RX6 127 yX6_needMillis wsX6_needMillis) := goodIn_app (goodIn_of _ (by decide +kernel)) ggX6_back_X6_needMillis
set_option maxRecDepth 20000 in
theorem ggX6_back_X3_goBack : GoodIn wsX6_back wsX3_goBack := goodIn_r _ [17, 18, 19, 20, 29, 30, 31, 32, 33, 34] (by decide +kernel) (by decide +kernel)
set_option maxRecDepth 20000 in
theorem gX6_back_X3_goBack : GoodIn wsX6_back (wsV RX6 151 RX3 yX3_goBack wsX3_goBack) := goodIn_app (goodIn_of _ (by decide +kernel)) ggX6_back_X3_goBack
theorem dX6_back_0 : decode cX6_back 0 = .ok (.iload_n 1, 1) := by decide +kernel
theorem dX6_back_1 : decode cX6_back 1 = .ok (.invokestatic 127, 3) := by decide +kernel
theorem dX6_back_4 : decode cX6_back 4 = .ok (.aload_n 0, 1) := by decide +kernel
theorem dX6_back_5 : decode cX6_back 5 = .ok (.getfield 35, 3) := by decide +kernel
theorem dX6_back_8 : decode cX6_back 8 = .ok (.getfield 124, 3) := by decide +kernel
theorem dX6_back_11 : decode cX6_back 11 = .ok (.ifCond .ne 13, 3) := by decide +kernel
theorem dX6_back_14 : decode cX6_back 14 = .ok (.new 96, 3) := by decide +kernel
theorem dX6_back_17 : decode cX6_back 17 = .ok (.dup, 1) := by decide +kernel
theorem dX6_back_18 : decode cX6_back 18 = .ok (.ldc 149, 2) := by decide +kernel
theorem dX6_back_20 : decode cX6_back 20 = .ok (.invokespecial 100, 3) := by decide +kernel
theorem dX6_back_23 : decode cX6_back 23 = .ok (.athrow, 1) := by decide +kernel
theorem dX6_back_24 : decode cX6_back 24 = .ok (.aload_n 0, 1) := by decide +kernel
theorem dX6_back_25 : decode cX6_back 25 = .ok (.getfield 35, 3) := by decide +kernel
theorem dX6_back_28 : decode cX6_back 28 = .ok (.iload_n 1, 1) := by decide +kernel
theorem dX6_back_29 : decode cX6_back 29 = .ok (.invokevirtual 151, 3) := by decide +kernel
theorem dX6_back_32 : decode cX6_back 32 = .ok (.aload_n 0, 1) := by decide +kernel
theorem dX6_back_33 : decode cX6_back 33 = .ok (.getfield 35, 3) := by decide +kernel
theorem dX6_back_36 : decode cX6_back 36 = .ok (.getfield 124, 3) := by decide +kernel
theorem dX6_back_39 : decode cX6_back 39 = .ok (.ireturn, 1) := by decide +kernel
set_option maxRecDepth 20000 in
theorem ggX6_speed_X3_speedSoFar : GoodIn wsX6_speed wsX3_speedSoFar := goodIn_r _ [6, 7, 8, 9, 10, 11, 5, 12, 13, 14, 15, 16, 17, 18, 19, 20, 21, 30, 31, 32, 33, 34, 35, 36] (by decide +kernel) (by decide +kernel)
set_option maxRecDepth 20000 in
theorem gX6_speed_X3_speedSoFar : GoodIn wsX6_speed (wsV RX6 154 RX3 yX3_speedSoFar wsX3_speedSoFar) := goodIn_app (goodIn_of _ (by decide +kernel)) ggX6_speed_X3_speedSoFar
theorem dX6_speed_0 : decode cX6_speed 0 = .ok (.aload_n 0, 1) := by decide +kernel
theorem dX6_speed_1 : decode cX6_speed 1 = .ok (.getfield 35, 3) := by decide +kernel
theorem dX6_speed_4 : decode cX6_speed 4 = .ok (.invokevirtual 154, 3) := by decide +kernel
theorem dX6_speed_7 : decode cX6_speed 7 = .ok (.ireturn, 1) := by decide +kernel
theorem dX6_mended_0 : decode cX6_mended 0 = .ok (.aload_n 0, 1) := by decide +kernel
theorem dX6_mended_1 : decode cX6_mended 1 = .ok (.getfield 35, 3) := by decide +kernel
theorem dX6_mended_4 : decode cX6_mended 4 = .ok (.getfield 157, 3) := by decide +kernel
theorem dX6_mended_7 : decode cX6_mended 7 = .ok (.ireturn, 1) := by decide +kernel
set_option maxRecDepth 20000 in
theorem ggX6_end_X5_isFull : GoodIn wsX6_end wsX5_isFull := goodIn_r _ [10, 11, 98, 99] (by decide +kernel) (by decide +kernel)
set_option maxRecDepth 20000 in
theorem gX6_end_X5_isFull : GoodIn wsX6_end (wsV RX6 160 RX5 yX5_isFull wsX5_isFull) := goodIn_app (goodIn_of _ (by decide +kernel)) ggX6_end_X5_isFull
set_option maxRecDepth 20000 in
theorem ggX6_end_X4_review : GoodIn wsX6_end wsX4_review := goodIn_r _ [16, 17, 18, 19, 15, 20, 21, 22, 23, 24, 25, 26, 27, 28, 29, 30, 31, 32, 33, 34, 35, 36, 37, 38, 39, 40, 41, 42, 43, 44, 45, 46, 47, 48, 49, 50, 51, 52, 53, 54, 55, 56, 57, 58, 59, 60, 61, 62, 100, 101, 102, 103, 104, 105, 106, 107, 108] (by decide +kernel) (by decide +kernel)
set_option maxRecDepth 20000 in
theorem gX6_end_X4_review : GoodIn wsX6_end (wsV RX6 163 RX4 yX4_review wsX4_review) := goodIn_app (goodIn_of _ (by decide +kernel)) ggX6_end_X4_review
set_option maxRecDepth 20000 in
theorem ggX6_end_X3_speedSoFar : GoodIn wsX6_end wsX3_speedSoFar := goodIn_r _ [67, 68, 69, 70, 71, 72, 66, 73, 74, 75, 76, 77, 35, 36, 37, 38, 39, 109, 110, 111, 112, 113, 114, 108] (by decide +kernel) (by decide +kernel)
set_option maxRecDepth 20000 in
theorem gX6_end_X3_speedSoFar : GoodIn wsX6_end (wsV RX6 154 RX3 yX3_speedSoFar wsX3_speedSoFar) := goodIn_app (goodIn_of _ (by decide +kernel)) ggX6_end_X3_speedSoFar
set_option maxRecDepth 20000 in
theorem ggX6_end_X5_keep : GoodIn wsX6_end wsX5_keep := goodIn_r _ [81, 82, 11, 83, 46, 47, 37, 48, 39, 98, 99, 108] (by decide +kernel) (by decide +kernel)
set_option maxRecDepth 20000 in
theorem gX6_end_X5_keep : GoodIn wsX6_end (wsV RX6 166 RX5 yX5_keep wsX5_keep) := goodIn_app (goodIn_of _ (by decide +kernel)) ggX6_end_X5_keep
set_option maxRecDepth 20000 in
theorem ggX6_end_X3_beginAnew : GoodIn wsX6_end wsX3_beginAnew := goodIn_r _ [87, 88, 74, 89, 68, 109, 110, 111, 112, 113, 114] (by decide +kernel) (by decide +kernel)
set_option maxRecDepth 20000 in
theorem gX6_end_X3_beginAnew : GoodIn wsX6_end (wsV RX6 169 RX3 yX3_beginAnew wsX3_beginAnew) := goodIn_app (goodIn_of _ (by decide +kernel)) ggX6_end_X3_beginAnew
theorem dX6_end_0 : decode cX6_end 0 = .ok (.aload_n 0, 1) := by decide +kernel
theorem dX6_end_1 : decode cX6_end 1 = .ok (.getfield 42, 3) := by decide +kernel
theorem dX6_end_4 : decode cX6_end 4 = .ok (.invokevirtual 160, 3) := by decide +kernel
theorem dX6_end_7 : decode cX6_end 7 = .ok (.ifCond .eq 13, 3) := by decide +kernel
theorem dX6_end_10 : decode cX6_end 10 = .ok (.new 96, 3) := by decide +kernel
theorem dX6_end_13 : decode cX6_end 13 = .ok (.dup, 1) := by decide +kernel
theorem dX6_end_14 : decode cX6_end 14 = .ok (.ldc 161, 2) := by decide +kernel
theorem dX6_end_16 : decode cX6_end 16 = .ok (.invokespecial 100, 3) := by decide +kernel
theorem dX6_end_19 : decode cX6_end 19 = .ok (.athrow, 1) := by decide +kernel
theorem dX6_end_20 : decode cX6_end 20 = .ok (.aload_n 0, 1) := by decide +kernel
theorem dX6_end_21 : decode cX6_end 21 = .ok (.getfield 28, 3) := by decide +kernel
theorem dX6_end_24 : decode cX6_end 24 = .ok (.invokevirtual 163, 3) := by decide +kernel
theorem dX6_end_27 : decode cX6_end 27 = .ok (.istore_n 1, 1) := by decide +kernel
theorem dX6_end_28 : decode cX6_end 28 = .ok (.aload_n 0, 1) := by decide +kernel
theorem dX6_end_29 : decode cX6_end 29 = .ok (.getfield 42, 3) := by decide +kernel
theorem dX6_end_32 : decode cX6_end 32 = .ok (.aload_n 0, 1) := by decide +kernel
theorem dX6_end_33 : decode cX6_end 33 = .ok (.getfield 35, 3) := by decide +kernel
theorem dX6_end_36 : decode cX6_end 36 = .ok (.invokevirtual 154, 3) := by decide +kernel
theorem dX6_end_39 : decode cX6_end 39 = .ok (.invokevirtual 166, 3) := by decide +kernel
theorem dX6_end_42 : decode cX6_end 42 = .ok (.aload_n 0, 1) := by decide +kernel
theorem dX6_end_43 : decode cX6_end 43 = .ok (.getfield 35, 3) := by decide +kernel
theorem dX6_end_46 : decode cX6_end 46 = .ok (.invokevirtual 169, 3) := by decide +kernel
theorem dX6_end_49 : decode cX6_end 49 = .ok (.iload_n 1, 1) := by decide +kernel
theorem dX6_end_50 : decode cX6_end 50 = .ok (.ireturn, 1) := by decide +kernel
set_option maxRecDepth 20000 in
theorem ggX6_count_X6_needLetter : GoodIn wsX6_count wsX6_needLetter := goodIn_ca (goodIn_r _ [5, 6, 7, 8, 9, 4, 10] (by decide +kernel) (by decide +kernel)) (goodIn_sub (fun _ h => List.mem_cons_of_mem _ (List.mem_append_right _ h)) (by decide +kernel))
set_option maxRecDepth 20000 in
theorem gX6_count_X6_needLetter : GoodIn wsX6_count (va_wsS RX6 62 yX6_needLetter wsX6_needLetter) := goodIn_app (goodIn_of _ (by decide +kernel)) ggX6_count_X6_needLetter
set_option maxRecDepth 20000 in
theorem ggX6_count_X1_at : GoodIn wsX6_count wsX1_at := goodIn_r _ [15, 16, 31] (by decide +kernel) (by decide +kernel)
set_option maxRecDepth 20000 in
theorem gX6_count_X1_at : GoodIn wsX6_count (wsV RX6 175 RX1 yX1_at wsX1_at) := goodIn_app (goodIn_of _ (by decide +kernel)) ggX6_count_X1_at
theorem dX6_count_0 : decode cX6_count 0 = .ok (.iload_n 1, 1) := by decide +kernel
theorem dX6_count_1 : decode cX6_count 1 = .ok (.invokestatic 62, 3) := by decide +kernel
theorem dX6_count_4 : decode cX6_count 4 = .ok (.aload_n 0, 1) := by decide +kernel
theorem dX6_count_5 : decode cX6_count 5 = .ok (.getfield 19, 3) := by decide +kernel
theorem dX6_count_8 : decode cX6_count 8 = .ok (.getfield 172, 3) := by decide +kernel
theorem dX6_count_11 : decode cX6_count 11 = .ok (.iload_n 1, 1) := by decide +kernel
theorem dX6_count_12 : decode cX6_count 12 = .ok (.invokevirtual 175, 3) := by decide +kernel
theorem dX6_count_15 : decode cX6_count 15 = .ok (.ireturn, 1) := by decide +kernel
set_option maxRecDepth 20000 in
theorem ggX6_time_X6_needLetter : GoodIn wsX6_time wsX6_needLetter := goodIn_ca (goodIn_r _ [5, 6, 7, 8, 9, 4, 10] (by decide +kernel) (by decide +kernel)) (goodIn_sub (fun _ h => List.mem_cons_of_mem _ (List.mem_append_right _ h)) (by decide +kernel))
set_option maxRecDepth 20000 in
theorem gX6_time_X6_needLetter : GoodIn wsX6_time (va_wsS RX6 62 yX6_needLetter wsX6_needLetter) := goodIn_app (goodIn_of _ (by decide +kernel)) ggX6_time_X6_needLetter
set_option maxRecDepth 20000 in
theorem ggX6_time_X1_at : GoodIn wsX6_time wsX1_at := goodIn_r _ [15, 16, 31] (by decide +kernel) (by decide +kernel)
set_option maxRecDepth 20000 in
theorem gX6_time_X1_at : GoodIn wsX6_time (wsV RX6 175 RX1 yX1_at wsX1_at) := goodIn_app (goodIn_of _ (by decide +kernel)) ggX6_time_X1_at
theorem dX6_time_0 : decode cX6_time 0 = .ok (.iload_n 1, 1) := by decide +kernel
theorem dX6_time_1 : decode cX6_time 1 = .ok (.invokestatic 62, 3) := by decide +kernel
theorem dX6_time_4 : decode cX6_time 4 = .ok (.aload_n 0, 1) := by decide +kernel
theorem dX6_time_5 : decode cX6_time 5 = .ok (.getfield 19, 3) := by decide +kernel
theorem dX6_time_8 : decode cX6_time 8 = .ok (.getfield 178, 3) := by decide +kernel
theorem dX6_time_11 : decode cX6_time 11 = .ok (.iload_n 1, 1) := by decide +kernel
theorem dX6_time_12 : decode cX6_time 12 = .ok (.invokevirtual 175, 3) := by decide +kernel
theorem dX6_time_15 : decode cX6_time 15 = .ok (.ireturn, 1) := by decide +kernel
set_option maxRecDepth 20000 in
theorem ggX6_share_X6_needLetter : GoodIn wsX6_share wsX6_needLetter := goodIn_ca (goodIn_r _ [5, 6, 7, 8, 9, 4, 10] (by decide +kernel) (by decide +kernel)) (goodIn_sub (fun _ h => List.mem_cons_of_mem _ (List.mem_append_right _ h)) (by decide +kernel))
set_option maxRecDepth 20000 in
theorem gX6_share_X6_needLetter : GoodIn wsX6_share (va_wsS RX6 62 yX6_needLetter wsX6_needLetter) := goodIn_app (goodIn_of _ (by decide +kernel)) ggX6_share_X6_needLetter
set_option maxRecDepth 20000 in
theorem ggX6_share_X1_at : GoodIn wsX6_share wsX1_at := goodIn_r _ [15, 16, 31] (by decide +kernel) (by decide +kernel)
set_option maxRecDepth 20000 in
theorem gX6_share_X1_at : GoodIn wsX6_share (wsV RX6 175 RX1 yX1_at wsX1_at) := goodIn_app (goodIn_of _ (by decide +kernel)) ggX6_share_X1_at
theorem dX6_share_0 : decode cX6_share 0 = .ok (.iload_n 1, 1) := by decide +kernel
theorem dX6_share_1 : decode cX6_share 1 = .ok (.invokestatic 62, 3) := by decide +kernel
theorem dX6_share_4 : decode cX6_share 4 = .ok (.aload_n 0, 1) := by decide +kernel
theorem dX6_share_5 : decode cX6_share 5 = .ok (.getfield 19, 3) := by decide +kernel
theorem dX6_share_8 : decode cX6_share 8 = .ok (.getfield 181, 3) := by decide +kernel
theorem dX6_share_11 : decode cX6_share 11 = .ok (.iload_n 1, 1) := by decide +kernel
theorem dX6_share_12 : decode cX6_share 12 = .ok (.invokevirtual 175, 3) := by decide +kernel
theorem dX6_share_15 : decode cX6_share 15 = .ok (.ireturn, 1) := by decide +kernel
set_option maxRecDepth 20000 in
theorem ggX6_pairTime_X6_needLetter : GoodIn wsX6_pairTime wsX6_needLetter := goodIn_ca (goodIn_r _ [5, 6, 7, 8, 9, 4, 10] (by decide +kernel) (by decide +kernel)) (goodIn_sub (fun _ h => List.mem_cons_of_mem _ (List.mem_append_right _ h)) (by decide +kernel))
set_option maxRecDepth 20000 in
theorem gX6_pairTime_X6_needLetter : GoodIn wsX6_pairTime (va_wsS RX6 62 yX6_needLetter wsX6_needLetter) := goodIn_app (goodIn_of _ (by decide +kernel)) ggX6_pairTime_X6_needLetter
set_option maxRecDepth 20000 in
theorem ggX6_pairTime_X2_timeOfPair : GoodIn wsX6_pairTime wsX2_timeOfPair := goodIn_r _ [15, 16, 17, 18, 14, 19, 20, 21, 22, 23, 24, 25, 34, 35, 36, 37, 38, 39, 40] (by decide +kernel) (by decide +kernel)
set_option maxRecDepth 20000 in
theorem gX6_pairTime_X2_timeOfPair : GoodIn wsX6_pairTime (wsV RX6 184 RX2 yX2_timeOfPair wsX2_timeOfPair) := goodIn_app (goodIn_of _ (by decide +kernel)) ggX6_pairTime_X2_timeOfPair
theorem dX6_pairTime_0 : decode cX6_pairTime 0 = .ok (.iload_n 1, 1) := by decide +kernel
theorem dX6_pairTime_1 : decode cX6_pairTime 1 = .ok (.invokestatic 62, 3) := by decide +kernel
theorem dX6_pairTime_4 : decode cX6_pairTime 4 = .ok (.iload_n 2, 1) := by decide +kernel
theorem dX6_pairTime_5 : decode cX6_pairTime 5 = .ok (.invokestatic 62, 3) := by decide +kernel
theorem dX6_pairTime_8 : decode cX6_pairTime 8 = .ok (.aload_n 0, 1) := by decide +kernel
theorem dX6_pairTime_9 : decode cX6_pairTime 9 = .ok (.getfield 19, 3) := by decide +kernel
theorem dX6_pairTime_12 : decode cX6_pairTime 12 = .ok (.iload_n 1, 1) := by decide +kernel
theorem dX6_pairTime_13 : decode cX6_pairTime 13 = .ok (.iload_n 2, 1) := by decide +kernel
theorem dX6_pairTime_14 : decode cX6_pairTime 14 = .ok (.invokevirtual 184, 3) := by decide +kernel
theorem dX6_pairTime_17 : decode cX6_pairTime 17 = .ok (.ireturn, 1) := by decide +kernel
set_option maxRecDepth 20000 in
theorem ggX6_errors_X6_isWithin : GoodIn wsX6_errors wsX6_isWithin := goodIn_r _ [7] (by decide +kernel) (by decide +kernel)
set_option maxRecDepth 20000 in
theorem gX6_errors_X6_isWithin : GoodIn wsX6_errors (va_wsS RX6 66 yX6_isWithin wsX6_isWithin) := goodIn_app (goodIn_of _ (by decide +kernel)) ggX6_errors_X6_isWithin
set_option maxRecDepth 20000 in
theorem ggX6_errors_X1_at : GoodIn wsX6_errors wsX1_at := goodIn_r _ [12, 13, 22] (by decide +kernel) (by decide +kernel)
set_option maxRecDepth 20000 in
theorem gX6_errors_X1_at : GoodIn wsX6_errors (wsV RX6 175 RX1 yX1_at wsX1_at) := goodIn_app (goodIn_of _ (by decide +kernel)) ggX6_errors_X1_at
theorem dX6_errors_0 : decode cX6_errors 0 = .ok (.iload_n 1, 1) := by decide +kernel
theorem dX6_errors_1 : decode cX6_errors 1 = .ok (.iconst 0, 1) := by decide +kernel
theorem dX6_errors_2 : decode cX6_errors 2 = .ok (.iconst 4, 1) := by decide +kernel
theorem dX6_errors_3 : decode cX6_errors 3 = .ok (.invokestatic 66, 3) := by decide +kernel
theorem dX6_errors_6 : decode cX6_errors 6 = .ok (.ifCond .ne 13, 3) := by decide +kernel
theorem dX6_errors_9 : decode cX6_errors 9 = .ok (.new 107, 3) := by decide +kernel
theorem dX6_errors_12 : decode cX6_errors 12 = .ok (.dup, 1) := by decide +kernel
theorem dX6_errors_13 : decode cX6_errors 13 = .ok (.ldc 187, 2) := by decide +kernel
theorem dX6_errors_15 : decode cX6_errors 15 = .ok (.invokespecial 111, 3) := by decide +kernel
theorem dX6_errors_18 : decode cX6_errors 18 = .ok (.athrow, 1) := by decide +kernel
theorem dX6_errors_19 : decode cX6_errors 19 = .ok (.aload_n 0, 1) := by decide +kernel
theorem dX6_errors_20 : decode cX6_errors 20 = .ok (.getfield 51, 3) := by decide +kernel
theorem dX6_errors_23 : decode cX6_errors 23 = .ok (.iload_n 1, 1) := by decide +kernel
theorem dX6_errors_24 : decode cX6_errors 24 = .ok (.invokevirtual 175, 3) := by decide +kernel
theorem dX6_errors_27 : decode cX6_errors 27 = .ok (.ireturn, 1) := by decide +kernel
set_option maxRecDepth 20000 in
theorem ggX6_errorsOf_X6_isWithin : GoodIn wsX6_errorsOf wsX6_isWithin := goodIn_r _ [7] (by decide +kernel) (by decide +kernel)
set_option maxRecDepth 20000 in
theorem gX6_errorsOf_X6_isWithin : GoodIn wsX6_errorsOf (va_wsS RX6 66 yX6_isWithin wsX6_isWithin) := goodIn_app (goodIn_of _ (by decide +kernel)) ggX6_errorsOf_X6_isWithin
set_option maxRecDepth 20000 in
theorem ggX6_errorsOf_X1_at : GoodIn wsX6_errorsOf wsX1_at := goodIn_r _ [12, 13, 22] (by decide +kernel) (by decide +kernel)
set_option maxRecDepth 20000 in
theorem gX6_errorsOf_X1_at : GoodIn wsX6_errorsOf (wsV RX6 175 RX1 yX1_at wsX1_at) := goodIn_app (goodIn_of _ (by decide +kernel)) ggX6_errorsOf_X1_at
theorem dX6_errorsOf_0 : decode cX6_errorsOf 0 = .ok (.iload_n 1, 1) := by decide +kernel
theorem dX6_errorsOf_1 : decode cX6_errorsOf 1 = .ok (.iconst 0, 1) := by decide +kernel
theorem dX6_errorsOf_2 : decode cX6_errorsOf 2 = .ok (.bipush 7, 2) := by decide +kernel
theorem dX6_errorsOf_4 : decode cX6_errorsOf 4 = .ok (.invokestatic 66, 3) := by decide +kernel
theorem dX6_errorsOf_7 : decode cX6_errorsOf 7 = .ok (.ifCond .ne 13, 3) := by decide +kernel
theorem dX6_errorsOf_10 : decode cX6_errorsOf 10 = .ok (.new 107, 3) := by decide +kernel
theorem dX6_errorsOf_13 : decode cX6_errorsOf 13 = .ok (.dup, 1) := by decide +kernel
theorem dX6_errorsOf_14 : decode cX6_errorsOf 14 = .ok (.ldc 189, 2) := by decide +kernel
theorem dX6_errorsOf_16 : decode cX6_errorsOf 16 = .ok (.invokespecial 111, 3) := by decide +kernel
theorem dX6_errorsOf_19 : decode cX6_errorsOf 19 = .ok (.athrow, 1) := by decide +kernel
theorem dX6_errorsOf_20 : decode cX6_errorsOf 20 = .ok (.aload_n 0, 1) := by decide +kernel
theorem dX6_errorsOf_21 : decode cX6_errorsOf 21 = .ok (.getfield 55, 3) := by decide +kernel
theorem dX6_errorsOf_24 : decode cX6_errorsOf 24 = .ok (.iload_n 1, 1) := by decide +kernel
theorem dX6_errorsOf_25 : decode cX6_errorsOf 25 = .ok (.invokevirtual 175, 3) := by decide +kernel
theorem dX6_errorsOf_28 : decode cX6_errorsOf 28 = .ok (.ireturn, 1) := by decide +kernel
set_option maxRecDepth 20000 in
theorem ggX6_wish_X6_isWithin : GoodIn wsX6_wish wsX6_isWithin := goodIn_r _ [7] (by decide +kernel) (by decide +kernel)
set_option maxRecDepth 20000 in
theorem gX6_wish_X6_isWithin : GoodIn wsX6_wish (va_wsS RX6 66 yX6_isWithin wsX6_isWithin) := goodIn_app (goodIn_of _ (by decide +kernel)) ggX6_wish_X6_isWithin
theorem dX6_wish_0 : decode cX6_wish 0 = .ok (.iload_n 1, 1) := by decide +kernel
theorem dX6_wish_1 : decode cX6_wish 1 = .ok (.iconst 1, 1) := by decide +kernel
theorem dX6_wish_2 : decode cX6_wish 2 = .ok (.sipush 5000, 3) := by decide +kernel
theorem dX6_wish_5 : decode cX6_wish 5 = .ok (.invokestatic 66, 3) := by decide +kernel
theorem dX6_wish_8 : decode cX6_wish 8 = .ok (.ifCond .eq 14, 3) := by decide +kernel
theorem dX6_wish_11 : decode cX6_wish 11 = .ok (.iload_n 2, 1) := by decide +kernel
theorem dX6_wish_12 : decode cX6_wish 12 = .ok (.iconst 0, 1) := by decide +kernel
theorem dX6_wish_13 : decode cX6_wish 13 = .ok (.sipush 10000, 3) := by decide +kernel
theorem dX6_wish_16 : decode cX6_wish 16 = .ok (.invokestatic 66, 3) := by decide +kernel
theorem dX6_wish_19 : decode cX6_wish 19 = .ok (.ifCond .ne 13, 3) := by decide +kernel
theorem dX6_wish_22 : decode cX6_wish 22 = .ok (.new 107, 3) := by decide +kernel
theorem dX6_wish_25 : decode cX6_wish 25 = .ok (.dup, 1) := by decide +kernel
theorem dX6_wish_26 : decode cX6_wish 26 = .ok (.ldc 191, 2) := by decide +kernel
theorem dX6_wish_28 : decode cX6_wish 28 = .ok (.invokespecial 111, 3) := by decide +kernel
theorem dX6_wish_31 : decode cX6_wish 31 = .ok (.athrow, 1) := by decide +kernel
theorem dX6_wish_32 : decode cX6_wish 32 = .ok (.aload_n 0, 1) := by decide +kernel
theorem dX6_wish_33 : decode cX6_wish 33 = .ok (.getfield 19, 3) := by decide +kernel
theorem dX6_wish_36 : decode cX6_wish 36 = .ok (.iload_n 1, 1) := by decide +kernel
theorem dX6_wish_37 : decode cX6_wish 37 = .ok (.putfield 193, 3) := by decide +kernel
theorem dX6_wish_40 : decode cX6_wish 40 = .ok (.aload_n 0, 1) := by decide +kernel
theorem dX6_wish_41 : decode cX6_wish 41 = .ok (.getfield 19, 3) := by decide +kernel
theorem dX6_wish_44 : decode cX6_wish 44 = .ok (.iload_n 2, 1) := by decide +kernel
theorem dX6_wish_45 : decode cX6_wish 45 = .ok (.putfield 196, 3) := by decide +kernel
theorem dX6_wish_48 : decode cX6_wish 48 = .ok (.return_, 1) := by decide +kernel
set_option maxRecDepth 20000 in
theorem ggX6_isIn_X6_needLetter : GoodIn wsX6_isIn wsX6_needLetter := goodIn_ca (goodIn_r _ [5, 6, 7, 8, 9, 4, 10] (by decide +kernel) (by decide +kernel)) (goodIn_sub (fun _ h => List.mem_cons_of_mem _ (List.mem_append_right _ h)) (by decide +kernel))
set_option maxRecDepth 20000 in
theorem gX6_isIn_X6_needLetter : GoodIn wsX6_isIn (va_wsS RX6 62 yX6_needLetter wsX6_needLetter) := goodIn_app (goodIn_of _ (by decide +kernel)) ggX6_isIn_X6_needLetter
set_option maxRecDepth 20000 in
theorem ggX6_isIn_X4_contains : GoodIn wsX6_isIn wsX4_contains := goodIn_r _ [15, 16, 25, 26] (by decide +kernel) (by decide +kernel)
set_option maxRecDepth 20000 in
theorem gX6_isIn_X4_contains : GoodIn wsX6_isIn (wsV RX6 199 RX4 yX4_contains wsX4_contains) := goodIn_app (goodIn_of _ (by decide +kernel)) ggX6_isIn_X4_contains
theorem dX6_isIn_0 : decode cX6_isIn 0 = .ok (.iload_n 1, 1) := by decide +kernel
theorem dX6_isIn_1 : decode cX6_isIn 1 = .ok (.invokestatic 62, 3) := by decide +kernel
theorem dX6_isIn_4 : decode cX6_isIn 4 = .ok (.aload_n 0, 1) := by decide +kernel
theorem dX6_isIn_5 : decode cX6_isIn 5 = .ok (.getfield 28, 3) := by decide +kernel
theorem dX6_isIn_8 : decode cX6_isIn 8 = .ok (.iload_n 1, 1) := by decide +kernel
theorem dX6_isIn_9 : decode cX6_isIn 9 = .ok (.invokevirtual 199, 3) := by decide +kernel
theorem dX6_isIn_12 : decode cX6_isIn 12 = .ok (.ireturn, 1) := by decide +kernel
set_option maxRecDepth 20000 in
theorem ggX6_weakest_X4_weakestOfAll : GoodIn wsX6_weakest wsX4_weakestOfAll := goodIn_r _ [6, 7, 8, 9, 10, 5, 11, 12, 13, 14, 15, 16, 17, 18, 19, 20, 21, 22, 23, 24, 25, 34, 35, 36, 37, 38, 39, 40, 41, 42] (by decide +kernel) (by decide +kernel)
set_option maxRecDepth 20000 in
theorem gX6_weakest_X4_weakestOfAll : GoodIn wsX6_weakest (wsV RX6 112 RX4 yX4_weakestOfAll wsX4_weakestOfAll) := goodIn_app (goodIn_of _ (by decide +kernel)) ggX6_weakest_X4_weakestOfAll
theorem dX6_weakest_0 : decode cX6_weakest 0 = .ok (.aload_n 0, 1) := by decide +kernel
theorem dX6_weakest_1 : decode cX6_weakest 1 = .ok (.getfield 28, 3) := by decide +kernel
theorem dX6_weakest_4 : decode cX6_weakest 4 = .ok (.invokevirtual 112, 3) := by decide +kernel
theorem dX6_weakest_7 : decode cX6_weakest 7 = .ok (.ireturn, 1) := by decide +kernel
theorem dX6_lessons_0 : decode cX6_lessons 0 = .ok (.aload_n 0, 1) := by decide +kernel
theorem dX6_lessons_1 : decode cX6_lessons 1 = .ok (.getfield 42, 3) := by decide +kernel
theorem dX6_lessons_4 : decode cX6_lessons 4 = .ok (.getfield 206, 3) := by decide +kernel
theorem dX6_lessons_7 : decode cX6_lessons 7 = .ok (.ireturn, 1) := by decide +kernel
set_option maxRecDepth 20000 in
theorem ggX6_speedOf_X6_isWithin : GoodIn wsX6_speedOf wsX6_isWithin := goodIn_r _ [7] (by decide +kernel) (by decide +kernel)
set_option maxRecDepth 20000 in
theorem gX6_speedOf_X6_isWithin : GoodIn wsX6_speedOf (va_wsS RX6 66 yX6_isWithin wsX6_isWithin) := goodIn_app (goodIn_of _ (by decide +kernel)) ggX6_speedOf_X6_isWithin
set_option maxRecDepth 20000 in
theorem ggX6_speedOf_X1_at : GoodIn wsX6_speedOf wsX1_at := goodIn_r _ [12, 13, 24] (by decide +kernel) (by decide +kernel)
set_option maxRecDepth 20000 in
theorem gX6_speedOf_X1_at : GoodIn wsX6_speedOf (wsV RX6 175 RX1 yX1_at wsX1_at) := goodIn_app (goodIn_of _ (by decide +kernel)) ggX6_speedOf_X1_at
theorem dX6_speedOf_0 : decode cX6_speedOf 0 = .ok (.iload_n 1, 1) := by decide +kernel
theorem dX6_speedOf_1 : decode cX6_speedOf 1 = .ok (.iconst 0, 1) := by decide +kernel
theorem dX6_speedOf_2 : decode cX6_speedOf 2 = .ok (.aload_n 0, 1) := by decide +kernel
theorem dX6_speedOf_3 : decode cX6_speedOf 3 = .ok (.getfield 42, 3) := by decide +kernel
theorem dX6_speedOf_6 : decode cX6_speedOf 6 = .ok (.getfield 206, 3) := by decide +kernel
theorem dX6_speedOf_9 : decode cX6_speedOf 9 = .ok (.iconst 1, 1) := by decide +kernel
theorem dX6_speedOf_10 : decode cX6_speedOf 10 = .ok (.isub, 1) := by decide +kernel
theorem dX6_speedOf_11 : decode cX6_speedOf 11 = .ok (.invokestatic 66, 3) := by decide +kernel
theorem dX6_speedOf_14 : decode cX6_speedOf 14 = .ok (.ifCond .ne 13, 3) := by decide +kernel
theorem dX6_speedOf_17 : decode cX6_speedOf 17 = .ok (.new 70, 3) := by decide +kernel
theorem dX6_speedOf_20 : decode cX6_speedOf 20 = .ok (.dup, 1) := by decide +kernel
theorem dX6_speedOf_21 : decode cX6_speedOf 21 = .ok (.ldc 207, 2) := by decide +kernel
theorem dX6_speedOf_23 : decode cX6_speedOf 23 = .ok (.invokespecial 74, 3) := by decide +kernel
theorem dX6_speedOf_26 : decode cX6_speedOf 26 = .ok (.athrow, 1) := by decide +kernel
theorem dX6_speedOf_27 : decode cX6_speedOf 27 = .ok (.aload_n 0, 1) := by decide +kernel
theorem dX6_speedOf_28 : decode cX6_speedOf 28 = .ok (.getfield 42, 3) := by decide +kernel
theorem dX6_speedOf_31 : decode cX6_speedOf 31 = .ok (.getfield 209, 3) := by decide +kernel
theorem dX6_speedOf_34 : decode cX6_speedOf 34 = .ok (.iload_n 1, 1) := by decide +kernel
theorem dX6_speedOf_35 : decode cX6_speedOf 35 = .ok (.invokevirtual 175, 3) := by decide +kernel
theorem dX6_speedOf_38 : decode cX6_speedOf 38 = .ok (.ireturn, 1) := by decide +kernel
set_option maxRecDepth 20000 in
theorem ggX6_falls_X5_fallsAtTheEnd : GoodIn wsX6_falls wsX5_fallsAtTheEnd := goodIn_r _ [6, 7, 8, 9, 10, 11, 12, 13, 14, 23, 24, 25] (by decide +kernel) (by decide +kernel)
set_option maxRecDepth 20000 in
theorem gX6_falls_X5_fallsAtTheEnd : GoodIn wsX6_falls (wsV RX6 212 RX5 yX5_fallsAtTheEnd wsX5_fallsAtTheEnd) := goodIn_app (goodIn_of _ (by decide +kernel)) ggX6_falls_X5_fallsAtTheEnd
theorem dX6_falls_0 : decode cX6_falls 0 = .ok (.aload_n 0, 1) := by decide +kernel
theorem dX6_falls_1 : decode cX6_falls 1 = .ok (.getfield 42, 3) := by decide +kernel
theorem dX6_falls_4 : decode cX6_falls 4 = .ok (.invokevirtual 212, 3) := by decide +kernel
theorem dX6_falls_7 : decode cX6_falls 7 = .ok (.ireturn, 1) := by decide +kernel
set_option maxRecDepth 20000 in
theorem ggX6_endDay_X2_halveCounts : GoodIn wsX6_endDay wsX2_halveCounts := goodIn_r _ [7, 8, 9, 10, 11, 12, 13, 14, 15, 16, 17, 18, 27, 28, 29, 30, 31, 32, 33] (by decide +kernel) (by decide +kernel)
set_option maxRecDepth 20000 in
theorem gX6_endDay_X2_halveCounts : GoodIn wsX6_endDay (wsV RX6 215 RX2 yX2_halveCounts wsX2_halveCounts) := goodIn_app (goodIn_of _ (by decide +kernel)) ggX6_endDay_X2_halveCounts
theorem dX6_endDay_0 : decode cX6_endDay 0 = .ok (.aload_n 0, 1) := by decide +kernel
theorem dX6_endDay_1 : decode cX6_endDay 1 = .ok (.getfield 58, 3) := by decide +kernel
theorem dX6_endDay_4 : decode cX6_endDay 4 = .ok (.istore_n 1, 1) := by decide +kernel
theorem dX6_endDay_5 : decode cX6_endDay 5 = .ok (.aload_n 0, 1) := by decide +kernel
theorem dX6_endDay_6 : decode cX6_endDay 6 = .ok (.getfield 19, 3) := by decide +kernel
theorem dX6_endDay_9 : decode cX6_endDay 9 = .ok (.invokevirtual 215, 3) := by decide +kernel
theorem dX6_endDay_12 : decode cX6_endDay 12 = .ok (.aload_n 0, 1) := by decide +kernel
theorem dX6_endDay_13 : decode cX6_endDay 13 = .ok (.iconst 0, 1) := by decide +kernel
theorem dX6_endDay_14 : decode cX6_endDay 14 = .ok (.putfield 58, 3) := by decide +kernel
theorem dX6_endDay_17 : decode cX6_endDay 17 = .ok (.iload_n 1, 1) := by decide +kernel
theorem dX6_endDay_18 : decode cX6_endDay 18 = .ok (.ireturn, 1) := by decide +kernel
theorem dX6_strokes_0 : decode cX6_strokes 0 = .ok (.aload_n 0, 1) := by decide +kernel
theorem dX6_strokes_1 : decode cX6_strokes 1 = .ok (.getfield 58, 3) := by decide +kernel
theorem dX6_strokes_4 : decode cX6_strokes 4 = .ok (.ireturn, 1) := by decide +kernel
set_option maxRecDepth 20000 in
theorem ggX6_kindOfStroke_X3_typedBefore : GoodIn wsX6_kindOfStroke wsX3_typedBefore := goodIn_r _ [7, 8, 9, 10, 11, 12, 13, 14, 15, 54, 55, 56, 57, 58, 59, 60] (by decide +kernel) (by decide +kernel)
set_option maxRecDepth 20000 in
theorem gX6_kindOfStroke_X3_typedBefore : GoodIn wsX6_kindOfStroke (wsV RX6 218 RX3 yX3_typedBefore wsX3_typedBefore) := goodIn_app (goodIn_of _ (by decide +kernel)) ggX6_kindOfStroke_X3_typedBefore
set_option maxRecDepth 20000 in
theorem ggX6_kindOfStroke_X3_letterAt : GoodIn wsX6_kindOfStroke wsX3_letterAt := goodIn_r _ [19, 20, 21, 10, 11, 12, 13, 14, 15, 54, 55, 56, 57, 58, 59, 60] (by decide +kernel) (by decide +kernel)
set_option maxRecDepth 20000 in
theorem gX6_kindOfStroke_X3_letterAt : GoodIn wsX6_kindOfStroke (wsV RX6 121 RX3 yX3_letterAt wsX3_letterAt) := goodIn_app (goodIn_of _ (by decide +kernel)) ggX6_kindOfStroke_X3_letterAt
set_option maxRecDepth 20000 in
theorem ggX6_kindOfStroke_X0_touch : GoodIn wsX6_kindOfStroke wsX0_touch := goodIn_r _ [26, 27, 28, 29, 30, 31, 32, 33, 25, 34, 35, 36, 11, 12, 13, 14, 15, 37, 38, 39, 40, 61, 62, 60] (by decide +kernel) (by decide +kernel)
set_option maxRecDepth 20000 in
theorem gX6_kindOfStroke_X0_touch : GoodIn wsX6_kindOfStroke (wsV RX6 85 RX0 yX0_touch wsX0_touch) := goodIn_app (goodIn_of _ (by decide +kernel)) ggX6_kindOfStroke_X0_touch
set_option maxRecDepth 20000 in
theorem ggX6_kindOfStroke_X0_mirrorOf : GoodIn wsX6_kindOfStroke wsX0_mirrorOf := goodIn_r _ [44, 45, 37, 38, 39, 25, 40, 35, 36, 11, 12, 13, 14, 15, 31, 32, 33, 34, 61, 62, 60] (by decide +kernel) (by decide +kernel)
set_option maxRecDepth 20000 in
theorem gX6_kindOfStroke_X0_mirrorOf : GoodIn wsX6_kindOfStroke (wsV RX6 89 RX0 yX0_mirrorOf wsX0_mirrorOf) := goodIn_app (goodIn_of _ (by decide +kernel)) ggX6_kindOfStroke_X0_mirrorOf
theorem dX6_kindOfStroke_0 : decode cX6_kindOfStroke 0 = .ok (.iload_n 1, 1) := by decide +kernel
theorem dX6_kindOfStroke_1 : decode cX6_kindOfStroke 1 = .ok (.iload_n 2, 1) := by decide +kernel
theorem dX6_kindOfStroke_2 : decode cX6_kindOfStroke 2 = .ok (.if_icmp .ne 5, 3) := by decide +kernel
theorem dX6_kindOfStroke_5 : decode cX6_kindOfStroke 5 = .ok (.iconst (-1), 1) := by decide +kernel
theorem dX6_kindOfStroke_6 : decode cX6_kindOfStroke 6 = .ok (.ireturn, 1) := by decide +kernel
theorem dX6_kindOfStroke_7 : decode cX6_kindOfStroke 7 = .ok (.iload_n 1, 1) := by decide +kernel
theorem dX6_kindOfStroke_8 : decode cX6_kindOfStroke 8 = .ok (.aload_n 0, 1) := by decide +kernel
theorem dX6_kindOfStroke_9 : decode cX6_kindOfStroke 9 = .ok (.getfield 35, 3) := by decide +kernel
theorem dX6_kindOfStroke_12 : decode cX6_kindOfStroke 12 = .ok (.invokevirtual 218, 3) := by decide +kernel
theorem dX6_kindOfStroke_15 : decode cX6_kindOfStroke 15 = .ok (.if_icmp .ne 5, 3) := by decide +kernel
theorem dX6_kindOfStroke_18 : decode cX6_kindOfStroke 18 = .ok (.iconst 0, 1) := by decide +kernel
theorem dX6_kindOfStroke_19 : decode cX6_kindOfStroke 19 = .ok (.ireturn, 1) := by decide +kernel
theorem dX6_kindOfStroke_20 : decode cX6_kindOfStroke 20 = .ok (.iload_n 1, 1) := by decide +kernel
theorem dX6_kindOfStroke_21 : decode cX6_kindOfStroke 21 = .ok (.aload_n 0, 1) := by decide +kernel
theorem dX6_kindOfStroke_22 : decode cX6_kindOfStroke 22 = .ok (.getfield 35, 3) := by decide +kernel
theorem dX6_kindOfStroke_25 : decode cX6_kindOfStroke 25 = .ok (.aload_n 0, 1) := by decide +kernel
theorem dX6_kindOfStroke_26 : decode cX6_kindOfStroke 26 = .ok (.getfield 35, 3) := by decide +kernel
theorem dX6_kindOfStroke_29 : decode cX6_kindOfStroke 29 = .ok (.getfield 124, 3) := by decide +kernel
theorem dX6_kindOfStroke_32 : decode cX6_kindOfStroke 32 = .ok (.iconst 1, 1) := by decide +kernel
theorem dX6_kindOfStroke_33 : decode cX6_kindOfStroke 33 = .ok (.iadd, 1) := by decide +kernel
theorem dX6_kindOfStroke_34 : decode cX6_kindOfStroke 34 = .ok (.invokevirtual 121, 3) := by decide +kernel
theorem dX6_kindOfStroke_37 : decode cX6_kindOfStroke 37 = .ok (.if_icmp .ne 5, 3) := by decide +kernel
theorem dX6_kindOfStroke_40 : decode cX6_kindOfStroke 40 = .ok (.iconst 1, 1) := by decide +kernel
theorem dX6_kindOfStroke_41 : decode cX6_kindOfStroke 41 = .ok (.ireturn, 1) := by decide +kernel
theorem dX6_kindOfStroke_42 : decode cX6_kindOfStroke 42 = .ok (.aload_n 0, 1) := by decide +kernel
theorem dX6_kindOfStroke_43 : decode cX6_kindOfStroke 43 = .ok (.getfield 10, 3) := by decide +kernel
theorem dX6_kindOfStroke_46 : decode cX6_kindOfStroke 46 = .ok (.iload_n 1, 1) := by decide +kernel
theorem dX6_kindOfStroke_47 : decode cX6_kindOfStroke 47 = .ok (.iload_n 2, 1) := by decide +kernel
theorem dX6_kindOfStroke_48 : decode cX6_kindOfStroke 48 = .ok (.invokevirtual 85, 3) := by decide +kernel
theorem dX6_kindOfStroke_51 : decode cX6_kindOfStroke 51 = .ok (.ifCond .eq 5, 3) := by decide +kernel
theorem dX6_kindOfStroke_54 : decode cX6_kindOfStroke 54 = .ok (.iconst 2, 1) := by decide +kernel
theorem dX6_kindOfStroke_55 : decode cX6_kindOfStroke 55 = .ok (.ireturn, 1) := by decide +kernel
theorem dX6_kindOfStroke_56 : decode cX6_kindOfStroke 56 = .ok (.iload_n 1, 1) := by decide +kernel
theorem dX6_kindOfStroke_57 : decode cX6_kindOfStroke 57 = .ok (.aload_n 0, 1) := by decide +kernel
theorem dX6_kindOfStroke_58 : decode cX6_kindOfStroke 58 = .ok (.getfield 10, 3) := by decide +kernel
theorem dX6_kindOfStroke_61 : decode cX6_kindOfStroke 61 = .ok (.iload_n 2, 1) := by decide +kernel
theorem dX6_kindOfStroke_62 : decode cX6_kindOfStroke 62 = .ok (.invokevirtual 89, 3) := by decide +kernel
theorem dX6_kindOfStroke_65 : decode cX6_kindOfStroke 65 = .ok (.if_icmp .ne 7, 3) := by decide +kernel
theorem dX6_kindOfStroke_68 : decode cX6_kindOfStroke 68 = .ok (.iconst 3, 1) := by decide +kernel
theorem dX6_kindOfStroke_69 : decode cX6_kindOfStroke 69 = .ok (.goto 4, 3) := by decide +kernel
theorem dX6_kindOfStroke_72 : decode cX6_kindOfStroke 72 = .ok (.iconst 4, 1) := by decide +kernel
theorem dX6_kindOfStroke_73 : decode cX6_kindOfStroke 73 = .ok (.ireturn, 1) := by decide +kernel
set_option maxRecDepth 20000 in
theorem ggX6_needLetter_X6_isWithin : GoodIn wsX6_needLetter wsX6_isWithin := goodIn_r _ [6] (by decide +kernel) (by decide +kernel)
set_option maxRecDepth 20000 in
theorem gX6_needLetter_X6_isWithin : GoodIn wsX6_needLetter (va_wsS RX6 66 yX6_isWithin wsX6_isWithin) := goodIn_app (goodIn_of _ (by decide +kernel)) ggX6_needLetter_X6_isWithin
theorem dX6_needLetter_0 : decode cX6_needLetter 0 = .ok (.iload_n 0, 1) := by decide +kernel
theorem dX6_needLetter_1 : decode cX6_needLetter 1 = .ok (.iconst 0, 1) := by decide +kernel
theorem dX6_needLetter_2 : decode cX6_needLetter 2 = .ok (.bipush 25, 2) := by decide +kernel
theorem dX6_needLetter_4 : decode cX6_needLetter 4 = .ok (.invokestatic 66, 3) := by decide +kernel
theorem dX6_needLetter_7 : decode cX6_needLetter 7 = .ok (.ifCond .ne 13, 3) := by decide +kernel
theorem dX6_needLetter_10 : decode cX6_needLetter 10 = .ok (.new 70, 3) := by decide +kernel
theorem dX6_needLetter_13 : decode cX6_needLetter 13 = .ok (.dup, 1) := by decide +kernel
theorem dX6_needLetter_14 : decode cX6_needLetter 14 = .ok (.ldc 221, 2) := by decide +kernel
theorem dX6_needLetter_16 : decode cX6_needLetter 16 = .ok (.invokespecial 74, 3) := by decide +kernel
theorem dX6_needLetter_19 : decode cX6_needLetter 19 = .ok (.athrow, 1) := by decide +kernel
theorem dX6_needLetter_20 : decode cX6_needLetter 20 = .ok (.return_, 1) := by decide +kernel
set_option maxRecDepth 20000 in
theorem ggX6_needMillis_X6_isWithin : GoodIn wsX6_needMillis wsX6_isWithin := goodIn_r _ [6] (by decide +kernel) (by decide +kernel)
set_option maxRecDepth 20000 in
theorem gX6_needMillis_X6_isWithin : GoodIn wsX6_needMillis (va_wsS RX6 66 yX6_isWithin wsX6_isWithin) := goodIn_app (goodIn_of _ (by decide +kernel)) ggX6_needMillis_X6_isWithin
theorem dX6_needMillis_0 : decode cX6_needMillis 0 = .ok (.iload_n 0, 1) := by decide +kernel
theorem dX6_needMillis_1 : decode cX6_needMillis 1 = .ok (.iconst 1, 1) := by decide +kernel
theorem dX6_needMillis_2 : decode cX6_needMillis 2 = .ok (.sipush 5000, 3) := by decide +kernel
theorem dX6_needMillis_5 : decode cX6_needMillis 5 = .ok (.invokestatic 66, 3) := by decide +kernel
theorem dX6_needMillis_8 : decode cX6_needMillis 8 = .ok (.ifCond .ne 13, 3) := by decide +kernel
theorem dX6_needMillis_11 : decode cX6_needMillis 11 = .ok (.new 107, 3) := by decide +kernel
theorem dX6_needMillis_14 : decode cX6_needMillis 14 = .ok (.dup, 1) := by decide +kernel
theorem dX6_needMillis_15 : decode cX6_needMillis 15 = .ok (.ldc 223, 2) := by decide +kernel
theorem dX6_needMillis_17 : decode cX6_needMillis 17 = .ok (.invokespecial 111, 3) := by decide +kernel
theorem dX6_needMillis_20 : decode cX6_needMillis 20 = .ok (.athrow, 1) := by decide +kernel
theorem dX6_needMillis_21 : decode cX6_needMillis 21 = .ok (.return_, 1) := by decide +kernel
theorem dX6_isWithin_0 : decode cX6_isWithin 0 = .ok (.iload_n 0, 1) := by decide +kernel
theorem dX6_isWithin_1 : decode cX6_isWithin 1 = .ok (.iload_n 1, 1) := by decide +kernel
theorem dX6_isWithin_2 : decode cX6_isWithin 2 = .ok (.if_icmp .lt 12, 3) := by decide +kernel
theorem dX6_isWithin_5 : decode cX6_isWithin 5 = .ok (.iload_n 0, 1) := by decide +kernel
theorem dX6_isWithin_6 : decode cX6_isWithin 6 = .ok (.iload_n 2, 1) := by decide +kernel
theorem dX6_isWithin_7 : decode cX6_isWithin 7 = .ok (.if_icmp .gt 7, 3) := by decide +kernel
theorem dX6_isWithin_10 : decode cX6_isWithin 10 = .ok (.iconst 1, 1) := by decide +kernel
theorem dX6_isWithin_11 : decode cX6_isWithin 11 = .ok (.goto 4, 3) := by decide +kernel
theorem dX6_isWithin_14 : decode cX6_isWithin 14 = .ok (.iconst 0, 1) := by decide +kernel
theorem dX6_isWithin_15 : decode cX6_isWithin 15 = .ok (.ireturn, 1) := by decide +kernel
