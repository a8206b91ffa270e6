theorem dL_cell_0 : decode cL_cell 0 = .ok (.iload_n 1, 1) := by decide +kernel
theorem dL_cell_1 : decode cL_cell 1 = .ok (.aload_n 0, 1) := by decide +kernel
theorem dL_cell_2 : decode cL_cell 2 = .ok (.arraylength, 1) := by decide +kernel
theorem dL_cell_3 : decode cL_cell 3 = .ok (.if_icmp .ge 9, 3) := by decide +kernel
theorem dL_cell_6 : decode cL_cell 6 = .ok (.aload_n 0, 1) := by decide +kernel
theorem dL_cell_7 : decode cL_cell 7 = .ok (.iload_n 1, 1) := by decide +kernel
theorem dL_cell_8 : decode cL_cell 8 = .ok (.iaload, 1) := by decide +kernel
theorem dL_cell_9 : decode cL_cell 9 = .ok (.goto 18, 3) := by decide +kernel
theorem dL_cell_12 : decode cL_cell 12 = .ok (.sipush 7919, 3) := by decide +kernel
theorem dL_cell_15 : decode cL_cell 15 = .ok (.iload_n 1, 1) := by decide +kernel
theorem dL_cell_16 : decode cL_cell 16 = .ok (.sipush 619, 3) := by decide +kernel
theorem dL_cell_19 : decode cL_cell 19 = .ok (.iadd, 1) := by decide +kernel
theorem dL_cell_20 : decode cL_cell 20 = .ok (.imul, 1) := by decide +kernel
theorem dL_cell_21 : decode cL_cell 21 = .ok (.iload_n 1, 1) := by decide +kernel
theorem dL_cell_22 : decode cL_cell 22 = .ok (.sipush 2963, 3) := by decide +kernel
theorem dL_cell_25 : decode cL_cell 25 = .ok (.iadd, 1) := by decide +kernel
theorem dL_cell_26 : decode cL_cell 26 = .ok (.imul, 1) := by decide +kernel
theorem dL_cell_27 : decode cL_cell 27 = .ok (.ireturn, 1) := by decide +kernel
theorem dL_low_0 : decode cL_low 0 = .ok (.iload_n 0, 1) := by decide +kernel
theorem dL_low_1 : decode cL_low 1 = .ok (.ldc 7, 2) := by decide +kernel
theorem dL_low_3 : decode cL_low 3 = .ok (.iand, 1) := by decide +kernel
theorem dL_low_4 : decode cL_low 4 = .ok (.iload_n 1, 1) := by decide +kernel
theorem dL_low_5 : decode cL_low 5 = .ok (.irem, 1) := by decide +kernel
theorem dL_low_6 : decode cL_low 6 = .ok (.ireturn, 1) := by decide +kernel
set_option maxRecDepth 20000 in
theorem ggL_does_X6_put : GoodIn wsL_does wsX6_put := goodIn_ca (goodIn_r _ [9, 10, 11, 12, 13, 14, 8, 15, 16, 17, 18, 19, 20, 21, 22, 23, 24, 25, 26, 27, 28, 29, 30, 31, 32, 33, 34, 35, 246, 247, 248, 249, 250, 251, 252, 253, 254, 255, 256] (by decide +kernel) (by decide +kernel)) (goodIn_sub (fun _ h => List.mem_cons_of_mem _ (List.mem_append_left _ (List.mem_append_left _ (List.mem_append_right _ h)))) (by decide +kernel))
set_option maxRecDepth 20000 in
theorem gL_does_X6_put : GoodIn wsL_does (wsV RL 8 RX6 yX6_put wsX6_put) := goodIn_app (goodIn_of _ (by decide +kernel)) ggL_does_X6_put
set_option maxRecDepth 20000 in
theorem ggL_does_X6_want : GoodIn wsL_does wsX6_want := goodIn_ca (goodIn_ca (goodIn_r _ [39, 40, 41, 42, 13, 14, 8, 15, 10, 11, 16, 17, 18, 43, 44, 45, 46, 47, 48, 49, 50, 51, 52, 53, 54, 33, 34, 29, 35, 31, 246, 247, 248, 249, 250, 251, 252, 253, 257, 258, 259, 260, 261, 262, 256] (by decide +kernel) (by decide +kernel)) (goodIn_sub (fun _ h => List.mem_cons_of_mem _ (List.mem_append_left _ (List.mem_append_right _ h))) (by decide +kernel))) (goodIn_sub (fun _ h => List.mem_cons_of_mem _ (List.mem_append_left _ (List.mem_append_left _ (List.mem_append_right _ h)))) (by decide +kernel))
set_option maxRecDepth 20000 in
theorem gL_does_X6_want : GoodIn wsL_does (wsV RL 14 RX6 yX6_want wsX6_want) := goodIn_app (goodIn_of _ (by decide +kernel)) ggL_does_X6_want
set_option maxRecDepth 20000 in
theorem ggL_does_X6_drill : GoodIn wsL_does wsX6_drill := goodIn_ca (goodIn_r _ [58, 59, 60, 61, 42, 16, 17, 8, 18, 62, 63, 64, 65, 66, 67, 68, 69, 70, 71, 72, 73, 74, 75, 76, 77, 78, 79, 80, 27, 28, 29, 30, 31, 43, 44, 45, 46, 47, 48, 49, 50, 51, 52, 53, 54, 33, 34, 35, 81, 82, 83, 84, 85, 86, 87, 88, 89, 90, 91, 92, 246, 247, 248, 249, 250, 251, 252, 253, 263, 264, 265, 266, 267, 268, 269, 270, 256, 257, 258, 259, 260, 261, 262] (by decide +kernel) (by decide +kernel)) (goodIn_sub (fun _ h => List.mem_cons_of_mem _ (List.mem_append_right _ h)) (by decide +kernel))
set_option maxRecDepth 20000 in
theorem gL_does_X6_drill : GoodIn wsL_does (wsV RL 18 RX6 yX6_drill wsX6_drill) := goodIn_app (goodIn_of _ (by decide +kernel)) ggL_does_X6_drill
set_option maxRecDepth 20000 in
theorem ggL_does_X6_stroke : GoodIn wsL_does wsX6_stroke := goodIn_ca (goodIn_ca (goodIn_ca (goodIn_r _ [96, 40, 41, 42, 97, 98, 99, 12, 100, 13, 14, 8, 15, 10, 11, 16, 17, 18, 101, 102, 103, 59, 60, 104, 105, 106, 46, 107, 48, 53, 108, 27, 28, 29, 30, 31, 109, 110, 111, 112, 113, 114, 115, 116, 117, 118, 119, 120, 121, 22, 122, 123, 124, 125, 126, 127, 128, 129, 130, 25, 26, 131, 132, 133, 134, 135, 136, 137, 138, 24, 139, 140, 141, 76, 142, 143, 79, 78, 144, 145, 146, 147, 148, 149, 33, 34, 35, 80, 150, 151, 152, 153, 154, 155, 156, 157, 89, 90, 91, 92, 158, 86, 87, 88, 159, 160, 161, 162, 163, 164, 165, 166, 167, 168, 54, 246, 247, 248, 249, 250, 251, 252, 253, 257, 258, 259, 260, 261, 262, 256, 254, 255, 265, 266, 267, 268, 269, 270] (by decide +kernel) (by decide +kernel)) (goodIn_sub (fun _ h => List.mem_cons_of_mem _ (List.mem_append_left _ (List.mem_append_right _ h))) (by decide +kernel))) (goodIn_sub (fun _ h => List.mem_cons_of_mem _ (List.mem_append_left _ (List.mem_append_left _ (List.mem_append_right _ h)))) (by decide +kernel))) (goodIn_sub (fun _ h => List.mem_cons_of_mem _ (List.mem_append_right _ h)) (by decide +kernel))
set_option maxRecDepth 20000 in
theorem gL_does_X6_stroke : GoodIn wsL_does (wsV RL 21 RX6 yX6_stroke wsX6_stroke) := goodIn_app (goodIn_of _ (by decide +kernel)) ggL_does_X6_stroke
set_option maxRecDepth 20000 in
theorem ggL_does_X6_back : GoodIn wsL_does wsX6_back := goodIn_ca (goodIn_ca (goodIn_r _ [172, 40, 41, 42, 101, 102, 8, 103, 59, 60, 16, 17, 18, 173, 174, 175, 46, 176, 118, 177, 168, 246, 247, 248, 249, 250, 251, 252, 253, 257, 258, 259, 260, 261, 262] (by decide +kernel) (by decide +kernel)) (goodIn_sub (fun _ h => List.mem_cons_of_mem _ (List.mem_append_left _ (List.mem_append_right _ h))) (by decide +kernel))) (goodIn_sub (fun _ h => List.mem_cons_of_mem _ (List.mem_append_right _ h)) (by decide +kernel))
set_option maxRecDepth 20000 in
theorem gL_does_X6_back : GoodIn wsL_does (wsV RL 25 RX6 yX6_back wsX6_back) := goodIn_app (goodIn_of _ (by decide +kernel)) ggL_does_X6_back
set_option maxRecDepth 20000 in
theorem ggL_does_X6_end : GoodIn wsL_does wsX6_end := goodIn_ca (goodIn_r _ [181, 40, 41, 182, 61, 42, 183, 184, 185, 186, 187, 188, 189, 190, 191, 65, 192, 193, 194, 195, 196, 72, 67, 68, 69, 70, 71, 197, 198, 199, 76, 200, 143, 78, 80, 27, 28, 29, 30, 31, 201, 202, 203, 204, 79, 153, 33, 34, 35, 205, 206, 207, 208, 209, 210, 211, 212, 213, 214, 215, 216, 217, 218, 219, 220, 221, 46, 222, 168, 223, 224, 225, 226, 227, 118, 117, 53, 108, 228, 229, 230, 231, 232, 233, 234, 235, 236, 237, 48, 177, 246, 247, 248, 249, 250, 251, 252, 253, 271, 272, 263, 264, 265, 266, 267, 268, 269, 270, 256, 257, 258, 259, 260, 261, 262] (by decide +kernel) (by decide +kernel)) (goodIn_sub (fun _ h => List.mem_cons_of_mem _ (List.mem_append_left _ (List.mem_append_right _ h))) (by decide +kernel))
set_option maxRecDepth 20000 in
theorem gL_does_X6_end : GoodIn wsL_does (wsV RL 28 RX6 yX6_end wsX6_end) := goodIn_app (goodIn_of _ (by decide +kernel)) ggL_does_X6_end
set_option maxRecDepth 20000 in
theorem ggL_does_L_wish : GoodIn wsL_does wsL_wish := goodIn_ca (goodIn_r _ [241, 242, 243, 244, 8, 245, 59, 60, 97, 16, 17, 18, 246, 247, 248, 249, 250, 251, 252, 253, 265, 266, 267, 268, 269, 270] (by decide +kernel) (by decide +kernel)) (goodIn_sub (fun _ h => List.mem_cons_of_mem _ (List.mem_append_right _ h)) (by decide +kernel))
set_option maxRecDepth 20000 in
theorem gL_does_L_wish : GoodIn wsL_does (va_wsS RL 32 yL_wish wsL_wish) := goodIn_app (goodIn_of _ (by decide +kernel)) ggL_does_L_wish
theorem dL_does_0 : decode cL_does 0 = .ok (.iload_n 1, 1) := by decide +kernel
theorem dL_does_1 : decode cL_does 1 = .ok (.ifCond .ne 14, 3) := by decide +kernel
theorem dL_does_4 : decode cL_does 4 = .ok (.aload_n 0, 1) := by decide +kernel
theorem dL_does_5 : decode cL_does 5 = .ok (.iload_n 2, 1) := by decide +kernel
theorem dL_does_6 : decode cL_does 6 = .ok (.iload_n 3, 1) := by decide +kernel
theorem dL_does_7 : decode cL_does 7 = .ok (.iload 4, 2) := by decide +kernel
theorem dL_does_9 : decode cL_does 9 = .ok (.invokevirtual 8, 3) := by decide +kernel
theorem dL_does_12 : decode cL_does 12 = .ok (.goto 74, 3) := by decide +kernel
theorem dL_does_15 : decode cL_does 15 = .ok (.iload_n 1, 1) := by decide +kernel
theorem dL_does_16 : decode cL_does 16 = .ok (.iconst 1, 1) := by decide +kernel
theorem dL_does_17 : decode cL_does 17 = .ok (.if_icmp .ne 11, 3) := by decide +kernel
theorem dL_does_20 : decode cL_does 20 = .ok (.aload_n 0, 1) := by decide +kernel
theorem dL_does_21 : decode cL_does 21 = .ok (.iload_n 2, 1) := by decide +kernel
theorem dL_does_22 : decode cL_does 22 = .ok (.invokevirtual 14, 3) := by decide +kernel
theorem dL_does_25 : decode cL_does 25 = .ok (.goto 61, 3) := by decide +kernel
theorem dL_does_28 : decode cL_does 28 = .ok (.iload_n 1, 1) := by decide +kernel
theorem dL_does_29 : decode cL_does 29 = .ok (.iconst 2, 1) := by decide +kernel
theorem dL_does_30 : decode cL_does 30 = .ok (.if_icmp .ne 11, 3) := by decide +kernel
theorem dL_does_33 : decode cL_does 33 = .ok (.aload_n 0, 1) := by decide +kernel
theorem dL_does_34 : decode cL_does 34 = .ok (.iload_n 2, 1) := by decide +kernel
theorem dL_does_35 : decode cL_does 35 = .ok (.invokevirtual 18, 3) := by decide +kernel
theorem dL_does_38 : decode cL_does 38 = .ok (.goto 48, 3) := by decide +kernel
theorem dL_does_41 : decode cL_does 41 = .ok (.iload_n 1, 1) := by decide +kernel
theorem dL_does_42 : decode cL_does 42 = .ok (.iconst 3, 1) := by decide +kernel
theorem dL_does_43 : decode cL_does 43 = .ok (.if_icmp .ne 12, 3) := by decide +kernel
theorem dL_does_46 : decode cL_does 46 = .ok (.aload_n 0, 1) := by decide +kernel
theorem dL_does_47 : decode cL_does 47 = .ok (.iload_n 2, 1) := by decide +kernel
theorem dL_does_48 : decode cL_does 48 = .ok (.iload_n 3, 1) := by decide +kernel
theorem dL_does_49 : decode cL_does 49 = .ok (.invokevirtual 21, 3) := by decide +kernel
theorem dL_does_52 : decode cL_does 52 = .ok (.goto 34, 3) := by decide +kernel
theorem dL_does_55 : decode cL_does 55 = .ok (.iload_n 1, 1) := by decide +kernel
theorem dL_does_56 : decode cL_does 56 = .ok (.iconst 4, 1) := by decide +kernel
theorem dL_does_57 : decode cL_does 57 = .ok (.if_icmp .ne 11, 3) := by decide +kernel
theorem dL_does_60 : decode cL_does 60 = .ok (.aload_n 0, 1) := by decide +kernel
theorem dL_does_61 : decode cL_does 61 = .ok (.iload_n 2, 1) := by decide +kernel
theorem dL_does_62 : decode cL_does 62 = .ok (.invokevirtual 25, 3) := by decide +kernel
theorem dL_does_65 : decode cL_does 65 = .ok (.goto 21, 3) := by decide +kernel
theorem dL_does_68 : decode cL_does 68 = .ok (.iload_n 1, 1) := by decide +kernel
theorem dL_does_69 : decode cL_does 69 = .ok (.iconst 5, 1) := by decide +kernel
theorem dL_does_70 : decode cL_does 70 = .ok (.if_icmp .ne 10, 3) := by decide +kernel
theorem dL_does_73 : decode cL_does 73 = .ok (.aload_n 0, 1) := by decide +kernel
theorem dL_does_74 : decode cL_does 74 = .ok (.invokevirtual 28, 3) := by decide +kernel
theorem dL_does_77 : decode cL_does 77 = .ok (.goto 9, 3) := by decide +kernel
theorem dL_does_80 : decode cL_does 80 = .ok (.aload_n 0, 1) := by decide +kernel
theorem dL_does_81 : decode cL_does 81 = .ok (.iload_n 2, 1) := by decide +kernel
theorem dL_does_82 : decode cL_does 82 = .ok (.iload_n 3, 1) := by decide +kernel
theorem dL_does_83 : decode cL_does 83 = .ok (.invokestatic 32, 3) := by decide +kernel
theorem dL_does_86 : decode cL_does 86 = .ok (.ireturn, 1) := by decide +kernel
theorem dL_does_87 : decode cL_does 87 = .ok (.astore 5, 2) := by decide +kernel
theorem dL_does_89 : decode cL_does 89 = .ok (.ldc 40, 2) := by decide +kernel
theorem dL_does_91 : decode cL_does 91 = .ok (.ireturn, 1) := by decide +kernel
theorem dL_does_92 : decode cL_does 92 = .ok (.astore 5, 2) := by decide +kernel
theorem dL_does_94 : decode cL_does 94 = .ok (.ldc 40, 2) := by decide +kernel
theorem dL_does_96 : decode cL_does 96 = .ok (.ireturn, 1) := by decide +kernel
theorem dL_does_97 : decode cL_does 97 = .ok (.astore 5, 2) := by decide +kernel
theorem dL_does_99 : decode cL_does 99 = .ok (.ldc 40, 2) := by decide +kernel
theorem dL_does_101 : decode cL_does 101 = .ok (.ireturn, 1) := by decide +kernel
set_option maxRecDepth 20000 in
theorem ggL_wish_X6_wish : GoodIn wsL_wish wsX6_wish := goodIn_ca (goodIn_r _ [5, 6, 7, 8, 9, 10, 4, 11, 12, 13, 14, 15, 16, 17, 18, 19, 20, 21, 22, 23, 24, 25] (by decide +kernel) (by decide +kernel)) (goodIn_sub (fun _ h => List.mem_cons_of_mem _ (List.mem_append_right _ h)) (by decide +kernel))
set_option maxRecDepth 20000 in
theorem gL_wish_X6_wish : GoodIn wsL_wish (wsV RL 45 RX6 yX6_wish wsX6_wish) := goodIn_app (goodIn_of _ (by decide +kernel)) ggL_wish_X6_wish
theorem dL_wish_0 : decode cL_wish 0 = .ok (.aload_n 0, 1) := by decide +kernel
theorem dL_wish_1 : decode cL_wish 1 = .ok (.iload_n 1, 1) := by decide +kernel
theorem dL_wish_2 : decode cL_wish 2 = .ok (.iload_n 2, 1) := by decide +kernel
theorem dL_wish_3 : decode cL_wish 3 = .ok (.invokevirtual 45, 3) := by decide +kernel
theorem dL_wish_6 : decode cL_wish 6 = .ok (.iconst 0, 1) := by decide +kernel
theorem dL_wish_7 : decode cL_wish 7 = .ok (.ireturn, 1) := by decide +kernel
set_option maxRecDepth 20000 in
theorem ggL_wantedAt_X6_wantedAt : GoodIn wsL_wantedAt wsX6_wantedAt := goodIn_ca (goodIn_r _ [7, 8, 9, 10, 11, 12, 6, 13, 14, 15, 16, 17, 18, 19, 20, 21, 22, 23, 24, 25, 26, 27, 28, 29, 30, 31, 32, 33, 34, 35, 36, 37, 38, 39, 40, 41] (by decide +kernel) (by decide +kernel)) (goodIn_sub (fun _ h => List.mem_cons_of_mem _ (List.mem_append_right _ h)) (by decide +kernel))
set_option maxRecDepth 20000 in
theorem gL_wantedAt_X6_wantedAt : GoodIn wsL_wantedAt (wsV RL 48 RX6 yX6_wantedAt wsX6_wantedAt) := goodIn_app (goodIn_of _ (by decide +kernel)) ggL_wantedAt_X6_wantedAt
theorem dL_wantedAt_0 : decode cL_wantedAt 0 = .ok (.aload_n 0, 1) := by decide +kernel
theorem dL_wantedAt_1 : decode cL_wantedAt 1 = .ok (.iload_n 1, 1) := by decide +kernel
theorem dL_wantedAt_2 : decode cL_wantedAt 2 = .ok (.invokevirtual 48, 3) := by decide +kernel
theorem dL_wantedAt_5 : decode cL_wantedAt 5 = .ok (.ireturn, 1) := by decide +kernel
theorem dL_wantedAt_6 : decode cL_wantedAt 6 = .ok (.astore_n 2, 1) := by decide +kernel
theorem dL_wantedAt_7 : decode cL_wantedAt 7 = .ok (.ldc 40, 2) := by decide +kernel
theorem dL_wantedAt_9 : decode cL_wantedAt 9 = .ok (.ireturn, 1) := by decide +kernel
set_option maxRecDepth 20000 in
theorem ggL_speedOf_X6_speedOf : GoodIn wsL_speedOf wsX6_speedOf := goodIn_ca (goodIn_r _ [7, 8, 9, 10, 11, 12, 6, 13, 14, 15, 16, 17, 18, 19, 20, 21, 22, 23, 24, 25, 26, 27, 28, 29, 30] (by decide +kernel) (by decide +kernel)) (goodIn_sub (fun _ h => List.mem_cons_of_mem _ (List.mem_append_right _ h)) (by decide +kernel))
set_option maxRecDepth 20000 in
theorem gL_speedOf_X6_speedOf : GoodIn wsL_speedOf (wsV RL 51 RX6 yX6_speedOf wsX6_speedOf) := goodIn_app (goodIn_of _ (by decide +kernel)) ggL_speedOf_X6_speedOf
theorem dL_speedOf_0 : decode cL_speedOf 0 = .ok (.aload_n 0, 1) := by decide +kernel
theorem dL_speedOf_1 : decode cL_speedOf 1 = .ok (.iload_n 1, 1) := by decide +kernel
theorem dL_speedOf_2 : decode cL_speedOf 2 = .ok (.invokevirtual 51, 3) := by decide +kernel
theorem dL_speedOf_5 : decode cL_speedOf 5 = .ok (.ireturn, 1) := by decide +kernel
theorem dL_speedOf_6 : decode cL_speedOf 6 = .ok (.astore_n 2, 1) := by decide +kernel
theorem dL_speedOf_7 : decode cL_speedOf 7 = .ok (.ldc 40, 2) := by decide +kernel
theorem dL_speedOf_9 : decode cL_speedOf 9 = .ok (.ireturn, 1) := by decide +kernel
set_option maxRecDepth 20000 in
theorem ggL_act_L_low : GoodIn wsL_act wsL_low := goodIn_r _ [4, 5] (by decide +kernel) (by decide +kernel)
set_option maxRecDepth 20000 in
theorem gL_act_L_low : GoodIn wsL_act (va_wsS RL 54 yL_low wsL_low) := goodIn_app (goodIn_of _ (by decide +kernel)) ggL_act_L_low
set_option maxRecDepth 20000 in
theorem ggL_act_L_does : GoodIn wsL_act wsL_does := goodIn_ca (goodIn_ca (goodIn_ca (goodIn_r _ [8, 9, 10, 11, 12, 13, 14, 15, 16, 17, 18, 19, 20, 21, 22, 23, 24, 25, 26, 27, 28, 29, 30, 31, 32, 33, 34, 35, 36, 37, 38, 39, 40, 41, 42, 43, 44, 45, 46, 47, 48, 49, 50, 51, 52, 53, 54, 55, 56, 57, 58, 59, 60, 61, 62, 63, 64, 65, 66, 67, 68, 69, 70, 71, 72, 73, 74, 75, 76, 77, 78, 79, 80, 81, 82, 83, 84, 85, 86, 87, 88, 89, 90, 91, 92, 93, 94, 95, 96, 97, 98, 99, 100, 101, 102, 103, 104, 105, 106, 107, 108, 109, 110, 111, 112, 113, 114, 115, 116, 117, 118, 119, 120, 121, 122, 123, 124, 125, 126, 127, 128, 129, 130, 131, 132, 133, 134, 135, 136, 137, 138, 139, 140, 141, 142, 143, 144, 145, 146, 147, 148, 149, 150, 151, 152, 153, 154, 155, 156, 157, 158, 159, 160, 161, 162, 163, 164, 165, 166, 167, 168, 169, 170, 171, 172, 173, 174, 175, 176, 177, 178, 179, 180, 181, 182, 183, 184, 185, 186, 187, 188, 189, 190, 191, 192, 193, 194, 195, 196, 197, 198, 199, 200, 201, 202, 203, 204, 205, 206, 207, 208, 209, 210, 211, 212, 213, 214, 215, 216, 217, 218, 219, 220, 221, 222, 223, 224, 225, 226, 227, 228, 229, 230, 231, 232, 233, 234, 235, 236, 237, 238, 239, 240, 241, 242, 243, 244, 245, 246, 247, 3, 248, 249, 250, 251, 252, 273, 274, 275, 276, 277, 278, 279, 280, 281, 282, 283, 284, 285, 286, 287, 288, 289, 290, 291, 292, 293, 294, 295, 296, 297, 298, 299] (by decide +kernel) (by decide +kernel)) (goodIn_sub (fun _ h => List.mem_cons_of_mem _ (List.mem_append_left _ (List.mem_append_left _ (List.mem_append_right _ h)))) (by decide +kernel))) (goodIn_sub (fun _ h => List.mem_cons_of_mem _ (List.mem_append_left _ (List.mem_append_right _ h))) (by decide +kernel))) (goodIn_sub (fun _ h => List.mem_cons_of_mem _ (List.mem_append_right _ h)) (by decide +kernel))
set_option maxRecDepth 20000 in
theorem gL_act_L_does : GoodIn wsL_act (va_wsS RL 57 yL_does wsL_does) := goodIn_app (goodIn_of _ (by decide +kernel)) ggL_act_L_does
set_option maxRecDepth 20000 in
theorem ggL_act_X6_position : GoodIn wsL_act wsX6_position := goodIn_r _ [256, 50, 273, 274, 275, 276, 277, 278, 279, 280, 284, 285, 286, 287, 288, 289] (by decide +kernel) (by decide +kernel)
set_option maxRecDepth 20000 in
theorem gL_act_X6_position : GoodIn wsL_act (wsV RL 61 RX6 yX6_position wsX6_position) := goodIn_app (goodIn_of _ (by decide +kernel)) ggL_act_X6_position
set_option maxRecDepth 20000 in
theorem ggL_act_X6_wanted : GoodIn wsL_act wsX6_wanted := goodIn_r _ [260, 50, 273, 274, 275, 276, 277, 278, 279, 280, 284, 285, 286, 287, 288, 289] (by decide +kernel) (by decide +kernel)
set_option maxRecDepth 20000 in
theorem gL_act_X6_wanted : GoodIn wsL_act (wsV RL 64 RX6 yX6_wanted wsX6_wanted) := goodIn_app (goodIn_of _ (by decide +kernel)) ggL_act_X6_wanted
set_option maxRecDepth 20000 in
theorem ggL_act_X6_wantedAt : GoodIn wsL_act wsX6_wantedAt := goodIn_ca (goodIn_r _ [264, 18, 19, 50, 24, 25, 16, 26, 112, 113, 114, 54, 115, 56, 61, 116, 35, 36, 37, 38, 39, 273, 274, 275, 276, 277, 278, 279, 280, 284, 285, 286, 287, 288, 289, 283] (by decide +kernel) (by decide +kernel)) (goodIn_sub (fun _ h => List.mem_cons_of_mem _ (List.mem_append_left _ (List.mem_append_left _ (List.mem_append_right _ h)))) (by decide +kernel))
set_option maxRecDepth 20000 in
theorem gL_act_X6_wantedAt : GoodIn wsL_act (wsV RL 48 RX6 yX6_wantedAt wsX6_wantedAt) := goodIn_app (goodIn_of _ (by decide +kernel)) ggL_act_X6_wantedAt
set_option maxRecDepth 20000 in
theorem ggL_act_X6_endDay : GoodIn wsL_act wsX6_endDay := goodIn_r _ [268, 108, 105, 269, 270, 271, 84, 272, 151, 88, 35, 36, 37, 38, 39, 161, 41, 42, 43, 273, 274, 275, 276, 277, 278, 279, 280, 292, 293, 294, 295, 296, 297, 283] (by decide +kernel) (by decide +kernel)
set_option maxRecDepth 20000 in
theorem gL_act_X6_endDay : GoodIn wsL_act (wsV RL 67 RX6 yX6_endDay wsX6_endDay) := goodIn_app (goodIn_of _ (by decide +kernel)) ggL_act_X6_endDay
theorem dL_act_0 : decode cL_act 0 = .ok (.iload_n 1, 1) := by decide +kernel
theorem dL_act_1 : decode cL_act 1 = .ok (.bipush 24, 2) := by decide +kernel
theorem dL_act_3 : decode cL_act 3 = .ok (.ishr, 1) := by decide +kernel
theorem dL_act_4 : decode cL_act 4 = .ok (.bipush 8, 2) := by decide +kernel
theorem dL_act_6 : decode cL_act 6 = .ok (.invokestatic 54, 3) := by decide +kernel
theorem dL_act_9 : decode cL_act 9 = .ok (.ifCond .ne 7, 3) := by decide +kernel
theorem dL_act_12 : decode cL_act 12 = .ok (.iconst 1, 1) := by decide +kernel
theorem dL_act_13 : decode cL_act 13 = .ok (.goto 4, 3) := by decide +kernel
theorem dL_act_16 : decode cL_act 16 = .ok (.iconst 0, 1) := by decide +kernel
theorem dL_act_17 : decode cL_act 17 = .ok (.istore_n 2, 1) := by decide +kernel
theorem dL_act_18 : decode cL_act 18 = .ok (.iload_n 1, 1) := by decide +kernel
theorem dL_act_19 : decode cL_act 19 = .ok (.bipush 36, 2) := by decide +kernel
theorem dL_act_21 : decode cL_act 21 = .ok (.invokestatic 54, 3) := by decide +kernel
theorem dL_act_24 : decode cL_act 24 = .ok (.istore_n 3, 1) := by decide +kernel
theorem dL_act_25 : decode cL_act 25 = .ok (.iload_n 2, 1) := by decide +kernel
theorem dL_act_26 : decode cL_act 26 = .ok (.ifCond .eq 17, 3) := by decide +kernel
theorem dL_act_29 : decode cL_act 29 = .ok (.iload_n 1, 1) := by decide +kernel
theorem dL_act_30 : decode cL_act 30 = .ok (.bipush 6, 2) := by decide +kernel
theorem dL_act_32 : decode cL_act 32 = .ok (.ishr, 1) := by decide +kernel
theorem dL_act_33 : decode cL_act 33 = .ok (.bipush 30, 2) := by decide +kernel
theorem dL_act_35 : decode cL_act 35 = .ok (.invokestatic 54, 3) := by decide +kernel
theorem dL_act_38 : decode cL_act 38 = .ok (.iconst 2, 1) := by decide +kernel
theorem dL_act_39 : decode cL_act 39 = .ok (.isub, 1) := by decide +kernel
theorem dL_act_40 : decode cL_act 40 = .ok (.goto 26, 3) := by decide +kernel
theorem dL_act_43 : decode cL_act 43 = .ok (.iload_n 1, 1) := by decide +kernel
theorem dL_act_44 : decode cL_act 44 = .ok (.bipush 6, 2) := by decide +kernel
theorem dL_act_46 : decode cL_act 46 = .ok (.ishr, 1) := by decide +kernel
theorem dL_act_47 : decode cL_act 47 = .ok (.iload_n 1, 1) := by decide +kernel
theorem dL_act_48 : decode cL_act 48 = .ok (.bipush 18, 2) := by decide +kernel
theorem dL_act_50 : decode cL_act 50 = .ok (.ishr, 1) := by decide +kernel
theorem dL_act_51 : decode cL_act 51 = .ok (.iconst 3, 1) := by decide +kernel
theorem dL_act_52 : decode cL_act 52 = .ok (.iand, 1) := by decide +kernel
theorem dL_act_53 : decode cL_act 53 = .ok (.ifCond .ne 8, 3) := by decide +kernel
theorem dL_act_56 : decode cL_act 56 = .ok (.bipush 26, 2) := by decide +kernel
theorem dL_act_58 : decode cL_act 58 = .ok (.goto 5, 3) := by decide +kernel
theorem dL_act_61 : decode cL_act 61 = .ok (.bipush 6, 2) := by decide +kernel
theorem dL_act_63 : decode cL_act 63 = .ok (.invokestatic 54, 3) := by decide +kernel
theorem dL_act_66 : decode cL_act 66 = .ok (.istore 4, 2) := by decide +kernel
theorem dL_act_68 : decode cL_act 68 = .ok (.iload_n 2, 1) := by decide +kernel
theorem dL_act_69 : decode cL_act 69 = .ok (.ifCond .eq 16, 3) := by decide +kernel
theorem dL_act_72 : decode cL_act 72 = .ok (.iload_n 1, 1) := by decide +kernel
theorem dL_act_73 : decode cL_act 73 = .ok (.bipush 9, 2) := by decide +kernel
theorem dL_act_75 : decode cL_act 75 = .ok (.ishr, 1) := by decide +kernel
theorem dL_act_76 : decode cL_act 76 = .ok (.sipush 5400, 3) := by decide +kernel
theorem dL_act_79 : decode cL_act 79 = .ok (.invokestatic 54, 3) := by decide +kernel
theorem dL_act_82 : decode cL_act 82 = .ok (.goto 30, 3) := by decide +kernel
theorem dL_act_85 : decode cL_act 85 = .ok (.iconst 1, 1) := by decide +kernel
theorem dL_act_86 : decode cL_act 86 = .ok (.iload_n 1, 1) := by decide +kernel
theorem dL_act_87 : decode cL_act 87 = .ok (.bipush 9, 2) := by decide +kernel
theorem dL_act_89 : decode cL_act 89 = .ok (.ishr, 1) := by decide +kernel
theorem dL_act_90 : decode cL_act 90 = .ok (.iload_n 1, 1) := by decide +kernel
theorem dL_act_91 : decode cL_act 91 = .ok (.bipush 19, 2) := by decide +kernel
theorem dL_act_93 : decode cL_act 93 = .ok (.ishr, 1) := by decide +kernel
theorem dL_act_94 : decode cL_act 94 = .ok (.iconst 1, 1) := by decide +kernel
theorem dL_act_95 : decode cL_act 95 = .ok (.iand, 1) := by decide +kernel
theorem dL_act_96 : decode cL_act 96 = .ok (.ifCond .ne 9, 3) := by decide +kernel
theorem dL_act_99 : decode cL_act 99 = .ok (.sipush 5000, 3) := by decide +kernel
theorem dL_act_102 : decode cL_act 102 = .ok (.goto 6, 3) := by decide +kernel
theorem dL_act_105 : decode cL_act 105 = .ok (.sipush 250, 3) := by decide +kernel
theorem dL_act_108 : decode cL_act 108 = .ok (.invokestatic 54, 3) := by decide +kernel
theorem dL_act_111 : decode cL_act 111 = .ok (.iadd, 1) := by decide +kernel
theorem dL_act_112 : decode cL_act 112 = .ok (.istore 5, 2) := by decide +kernel
theorem dL_act_114 : decode cL_act 114 = .ok (.iload_n 3, 1) := by decide +kernel
theorem dL_act_115 : decode cL_act 115 = .ok (.bipush 6, 2) := by decide +kernel
theorem dL_act_117 : decode cL_act 117 = .ok (.if_icmp .ge 13, 3) := by decide +kernel
theorem dL_act_120 : decode cL_act 120 = .ok (.aload_n 0, 1) := by decide +kernel
theorem dL_act_121 : decode cL_act 121 = .ok (.iconst 1, 1) := by decide +kernel
theorem dL_act_122 : decode cL_act 122 = .ok (.iload 4, 2) := by decide +kernel
theorem dL_act_124 : decode cL_act 124 = .ok (.iconst 0, 1) := by decide +kernel
theorem dL_act_125 : decode cL_act 125 = .ok (.iconst 0, 1) := by decide +kernel
theorem dL_act_126 : decode cL_act 126 = .ok (.invokestatic 57, 3) := by decide +kernel
theorem dL_act_129 : decode cL_act 129 = .ok (.ireturn, 1) := by decide +kernel
theorem dL_act_130 : decode cL_act 130 = .ok (.iload_n 3, 1) := by decide +kernel
theorem dL_act_131 : decode cL_act 131 = .ok (.bipush 20, 2) := by decide +kernel
theorem dL_act_133 : decode cL_act 133 = .ok (.if_icmp .ge 57, 3) := by decide +kernel
theorem dL_act_136 : decode cL_act 136 = .ok (.iload_n 1, 1) := by decide +kernel
theorem dL_act_137 : decode cL_act 137 = .ok (.bipush 16, 2) := by decide +kernel
theorem dL_act_139 : decode cL_act 139 = .ok (.ishr, 1) := by decide +kernel
theorem dL_act_140 : decode cL_act 140 = .ok (.iconst 3, 1) := by decide +kernel
theorem dL_act_141 : decode cL_act 141 = .ok (.iand, 1) := by decide +kernel
theorem dL_act_142 : decode cL_act 142 = .ok (.ifCond .le 18, 3) := by decide +kernel
theorem dL_act_145 : decode cL_act 145 = .ok (.aload_n 0, 1) := by decide +kernel
theorem dL_act_146 : decode cL_act 146 = .ok (.invokevirtual 61, 3) := by decide +kernel
theorem dL_act_149 : decode cL_act 149 = .ok (.aload_n 0, 1) := by decide +kernel
theorem dL_act_150 : decode cL_act 150 = .ok (.invokevirtual 64, 3) := by decide +kernel
theorem dL_act_153 : decode cL_act 153 = .ok (.if_icmp .ge 7, 3) := by decide +kernel
theorem dL_act_156 : decode cL_act 156 = .ok (.iconst 1, 1) := by decide +kernel
theorem dL_act_157 : decode cL_act 157 = .ok (.goto 4, 3) := by decide +kernel
theorem dL_act_160 : decode cL_act 160 = .ok (.iconst 0, 1) := by decide +kernel
theorem dL_act_161 : decode cL_act 161 = .ok (.istore 6, 2) := by decide +kernel
theorem dL_act_163 : decode cL_act 163 = .ok (.aload_n 0, 1) := by decide +kernel
theorem dL_act_164 : decode cL_act 164 = .ok (.iconst 3, 1) := by decide +kernel
theorem dL_act_165 : decode cL_act 165 = .ok (.iload 6, 2) := by decide +kernel
theorem dL_act_167 : decode cL_act 167 = .ok (.ifCond .eq 14, 3) := by decide +kernel
theorem dL_act_170 : decode cL_act 170 = .ok (.aload_n 0, 1) := by decide +kernel
theorem dL_act_171 : decode cL_act 171 = .ok (.aload_n 0, 1) := by decide +kernel
theorem dL_act_172 : decode cL_act 172 = .ok (.invokevirtual 61, 3) := by decide +kernel
theorem dL_act_175 : decode cL_act 175 = .ok (.invokevirtual 48, 3) := by decide +kernel
theorem dL_act_178 : decode cL_act 178 = .ok (.goto 5, 3) := by decide +kernel
theorem dL_act_181 : decode cL_act 181 = .ok (.iload 4, 2) := by decide +kernel
theorem dL_act_183 : decode cL_act 183 = .ok (.iload 5, 2) := by decide +kernel
theorem dL_act_185 : decode cL_act 185 = .ok (.iconst 0, 1) := by decide +kernel
theorem dL_act_186 : decode cL_act 186 = .ok (.invokestatic 57, 3) := by decide +kernel
theorem dL_act_189 : decode cL_act 189 = .ok (.ireturn, 1) := by decide +kernel
theorem dL_act_190 : decode cL_act 190 = .ok (.iload_n 3, 1) := by decide +kernel
theorem dL_act_191 : decode cL_act 191 = .ok (.bipush 23, 2) := by decide +kernel
theorem dL_act_193 : decode cL_act 193 = .ok (.if_icmp .ge 13, 3) := by decide +kernel
theorem dL_act_196 : decode cL_act 196 = .ok (.aload_n 0, 1) := by decide +kernel
theorem dL_act_197 : decode cL_act 197 = .ok (.iconst 4, 1) := by decide +kernel
theorem dL_act_198 : decode cL_act 198 = .ok (.iload 5, 2) := by decide +kernel
theorem dL_act_200 : decode cL_act 200 = .ok (.iconst 0, 1) := by decide +kernel
theorem dL_act_201 : decode cL_act 201 = .ok (.iconst 0, 1) := by decide +kernel
theorem dL_act_202 : decode cL_act 202 = .ok (.invokestatic 57, 3) := by decide +kernel
theorem dL_act_205 : decode cL_act 205 = .ok (.ireturn, 1) := by decide +kernel
theorem dL_act_206 : decode cL_act 206 = .ok (.iload_n 3, 1) := by decide +kernel
theorem dL_act_207 : decode cL_act 207 = .ok (.bipush 25, 2) := by decide +kernel
theorem dL_act_209 : decode cL_act 209 = .ok (.if_icmp .ge 38, 3) := by decide +kernel
theorem dL_act_212 : decode cL_act 212 = .ok (.aload_n 0, 1) := by decide +kernel
theorem dL_act_213 : decode cL_act 213 = .ok (.iconst 2, 1) := by decide +kernel
theorem dL_act_214 : decode cL_act 214 = .ok (.iload_n 2, 1) := by decide +kernel
theorem dL_act_215 : decode cL_act 215 = .ok (.ifCond .eq 15, 3) := by decide +kernel
theorem dL_act_218 : decode cL_act 218 = .ok (.iload_n 1, 1) := by decide +kernel
theorem dL_act_219 : decode cL_act 219 = .ok (.bipush 6, 2) := by decide +kernel
theorem dL_act_221 : decode cL_act 221 = .ok (.ishr, 1) := by decide +kernel
theorem dL_act_222 : decode cL_act 222 = .ok (.bipush 45, 2) := by decide +kernel
theorem dL_act_224 : decode cL_act 224 = .ok (.invokestatic 54, 3) := by decide +kernel
theorem dL_act_227 : decode cL_act 227 = .ok (.goto 14, 3) := by decide +kernel
theorem dL_act_230 : decode cL_act 230 = .ok (.iconst 1, 1) := by decide +kernel
theorem dL_act_231 : decode cL_act 231 = .ok (.iload_n 1, 1) := by decide +kernel
theorem dL_act_232 : decode cL_act 232 = .ok (.bipush 6, 2) := by decide +kernel
theorem dL_act_234 : decode cL_act 234 = .ok (.ishr, 1) := by decide +kernel
theorem dL_act_235 : decode cL_act 235 = .ok (.bipush 8, 2) := by decide +kernel
theorem dL_act_237 : decode cL_act 237 = .ok (.invokestatic 54, 3) := by decide +kernel
theorem dL_act_240 : decode cL_act 240 = .ok (.iadd, 1) := by decide +kernel
theorem dL_act_241 : decode cL_act 241 = .ok (.iconst 0, 1) := by decide +kernel
theorem dL_act_242 : decode cL_act 242 = .ok (.iconst 0, 1) := by decide +kernel
theorem dL_act_243 : decode cL_act 243 = .ok (.invokestatic 57, 3) := by decide +kernel
theorem dL_act_246 : decode cL_act 246 = .ok (.ireturn, 1) := by decide +kernel
theorem dL_act_247 : decode cL_act 247 = .ok (.iload_n 3, 1) := by decide +kernel
theorem dL_act_248 : decode cL_act 248 = .ok (.bipush 30, 2) := by decide +kernel
theorem dL_act_250 : decode cL_act 250 = .ok (.if_icmp .ge 12, 3) := by decide +kernel
theorem dL_act_253 : decode cL_act 253 = .ok (.aload_n 0, 1) := by decide +kernel
theorem dL_act_254 : decode cL_act 254 = .ok (.iconst 5, 1) := by decide +kernel
theorem dL_act_255 : decode cL_act 255 = .ok (.iconst 0, 1) := by decide +kernel
theorem dL_act_256 : decode cL_act 256 = .ok (.iconst 0, 1) := by decide +kernel
theorem dL_act_257 : decode cL_act 257 = .ok (.iconst 0, 1) := by decide +kernel
theorem dL_act_258 : decode cL_act 258 = .ok (.invokestatic 57, 3) := by decide +kernel
theorem dL_act_261 : decode cL_act 261 = .ok (.ireturn, 1) := by decide +kernel
theorem dL_act_262 : decode cL_act 262 = .ok (.iload_n 3, 1) := by decide +kernel
theorem dL_act_263 : decode cL_act 263 = .ok (.bipush 32, 2) := by decide +kernel
theorem dL_act_265 : decode cL_act 265 = .ok (.if_icmp .ge 45, 3) := by decide +kernel
theorem dL_act_268 : decode cL_act 268 = .ok (.aload_n 0, 1) := by decide +kernel
theorem dL_act_269 : decode cL_act 269 = .ok (.iconst 0, 1) := by decide +kernel
theorem dL_act_270 : decode cL_act 270 = .ok (.iload 4, 2) := by decide +kernel
theorem dL_act_272 : decode cL_act 272 = .ok (.iload_n 1, 1) := by decide +kernel
theorem dL_act_273 : decode cL_act 273 = .ok (.bipush 10, 2) := by decide +kernel
theorem dL_act_275 : decode cL_act 275 = .ok (.ishr, 1) := by decide +kernel
theorem dL_act_276 : decode cL_act 276 = .ok (.iload_n 2, 1) := by decide +kernel
theorem dL_act_277 : decode cL_act 277 = .ok (.ifCond .eq 8, 3) := by decide +kernel
theorem dL_act_280 : decode cL_act 280 = .ok (.bipush 12, 2) := by decide +kernel
theorem dL_act_282 : decode cL_act 282 = .ok (.goto 5, 3) := by decide +kernel
theorem dL_act_285 : decode cL_act 285 = .ok (.bipush 10, 2) := by decide +kernel
theorem dL_act_287 : decode cL_act 287 = .ok (.invokestatic 54, 3) := by decide +kernel
theorem dL_act_290 : decode cL_act 290 = .ok (.iload_n 1, 1) := by decide +kernel
theorem dL_act_291 : decode cL_act 291 = .ok (.bipush 14, 2) := by decide +kernel
theorem dL_act_293 : decode cL_act 293 = .ok (.ishr, 1) := by decide +kernel
theorem dL_act_294 : decode cL_act 294 = .ok (.iload_n 2, 1) := by decide +kernel
theorem dL_act_295 : decode cL_act 295 = .ok (.ifCond .eq 7, 3) := by decide +kernel
theorem dL_act_298 : decode cL_act 298 = .ok (.iconst 5, 1) := by decide +kernel
theorem dL_act_299 : decode cL_act 299 = .ok (.goto 4, 3) := by decide +kernel
theorem dL_act_302 : decode cL_act 302 = .ok (.iconst 3, 1) := by decide +kernel
theorem dL_act_303 : decode cL_act 303 = .ok (.invokestatic 54, 3) := by decide +kernel
theorem dL_act_306 : decode cL_act 306 = .ok (.invokestatic 57, 3) := by decide +kernel
theorem dL_act_309 : decode cL_act 309 = .ok (.ireturn, 1) := by decide +kernel
theorem dL_act_310 : decode cL_act 310 = .ok (.iload_n 3, 1) := by decide +kernel
theorem dL_act_311 : decode cL_act 311 = .ok (.bipush 35, 2) := by decide +kernel
theorem dL_act_313 : decode cL_act 313 = .ok (.if_icmp .ge 47, 3) := by decide +kernel
theorem dL_act_316 : decode cL_act 316 = .ok (.aload_n 0, 1) := by decide +kernel
theorem dL_act_317 : decode cL_act 317 = .ok (.bipush 6, 2) := by decide +kernel
theorem dL_act_319 : decode cL_act 319 = .ok (.iload_n 3, 1) := by decide +kernel
theorem dL_act_320 : decode cL_act 320 = .ok (.bipush 32, 2) := by decide +kernel
theorem dL_act_322 : decode cL_act 322 = .ok (.if_icmp .ne 9, 3) := by decide +kernel
theorem dL_act_325 : decode cL_act 325 = .ok (.sipush 5000, 3) := by decide +kernel
theorem dL_act_328 : decode cL_act 328 = .ok (.goto 5, 3) := by decide +kernel
theorem dL_act_331 : decode cL_act 331 = .ok (.iload 5, 2) := by decide +kernel
theorem dL_act_333 : decode cL_act 333 = .ok (.iload_n 1, 1) := by decide +kernel
theorem dL_act_334 : decode cL_act 334 = .ok (.bipush 6, 2) := by decide +kernel
theorem dL_act_336 : decode cL_act 336 = .ok (.ishr, 1) := by decide +kernel
theorem dL_act_337 : decode cL_act 337 = .ok (.iload_n 2, 1) := by decide +kernel
theorem dL_act_338 : decode cL_act 338 = .ok (.ifCond .eq 9, 3) := by decide +kernel
theorem dL_act_341 : decode cL_act 341 = .ok (.sipush 11000, 3) := by decide +kernel
theorem dL_act_344 : decode cL_act 344 = .ok (.goto 6, 3) := by decide +kernel
theorem dL_act_347 : decode cL_act 347 = .ok (.sipush 10001, 3) := by decide +kernel
theorem dL_act_350 : decode cL_act 350 = .ok (.invokestatic 54, 3) := by decide +kernel
theorem dL_act_353 : decode cL_act 353 = .ok (.iconst 0, 1) := by decide +kernel
theorem dL_act_354 : decode cL_act 354 = .ok (.invokestatic 57, 3) := by decide +kernel
theorem dL_act_357 : decode cL_act 357 = .ok (.goto 7, 3) := by decide +kernel
theorem dL_act_360 : decode cL_act 360 = .ok (.aload_n 0, 1) := by decide +kernel
theorem dL_act_361 : decode cL_act 361 = .ok (.invokevirtual 67, 3) := by decide +kernel
theorem dL_act_364 : decode cL_act 364 = .ok (.ireturn, 1) := by decide +kernel
set_option maxRecDepth 20000 in
theorem ggL_areAlike_X6_wanted : GoodIn wsL_areAlike wsX6_wanted := goodIn_r _ [5, 6, 149, 150, 151, 152, 153, 154, 155, 156, 157, 158, 159, 160, 161, 162] (by decide +kernel) (by decide +kernel)
set_option maxRecDepth 20000 in
theorem gL_areAlike_X6_wanted : GoodIn wsL_areAlike (wsV RL 64 RX6 yX6_wanted wsX6_wanted) := goodIn_app (goodIn_of _ (by decide +kernel)) ggL_areAlike_X6_wanted
set_option maxRecDepth 20000 in
theorem ggL_areAlike_X6_position : GoodIn wsL_areAlike wsX6_position := goodIn_r _ [10, 6, 149, 150, 151, 152, 153, 154, 155, 156, 157, 158, 159, 160, 161, 162] (by decide +kernel) (by decide +kernel)
set_option maxRecDepth 20000 in
theorem gL_areAlike_X6_position : GoodIn wsL_areAlike (wsV RL 61 RX6 yX6_position wsX6_position) := goodIn_app (goodIn_of _ (by decide +kernel)) ggL_areAlike_X6_position
set_option maxRecDepth 20000 in
theorem ggL_areAlike_X6_speed : GoodIn wsL_areAlike wsX6_speed := goodIn_r _ [14, 6, 15, 16, 17, 18, 19, 20, 21, 22, 23, 24, 25, 26, 27, 28, 29, 30, 31, 32, 33, 34, 149, 150, 151, 152, 153, 154, 155, 156, 157, 158, 159, 160, 161, 162, 163] (by decide +kernel) (by decide +kernel)
set_option maxRecDepth 20000 in
theorem gL_areAlike_X6_speed : GoodIn wsL_areAlike (wsV RL 70 RX6 yX6_speed wsX6_speed) := goodIn_app (goodIn_of _ (by decide +kernel)) ggL_areAlike_X6_speed
set_option maxRecDepth 20000 in
theorem ggL_areAlike_X6_mended : GoodIn wsL_areAlike wsX6_mended := goodIn_r _ [38, 6, 149, 150, 151, 152, 153, 154, 155, 156, 157, 158, 159, 160, 161, 162] (by decide +kernel) (by decide +kernel)
set_option maxRecDepth 20000 in
theorem gL_areAlike_X6_mended : GoodIn wsL_areAlike (wsV RL 73 RX6 yX6_mended wsX6_mended) := goodIn_app (goodIn_of _ (by decide +kernel)) ggL_areAlike_X6_mended
set_option maxRecDepth 20000 in
theorem ggL_areAlike_X6_lessons : GoodIn wsL_areAlike wsX6_lessons := goodIn_r _ [42, 43, 149, 150, 151, 152, 153, 154, 155, 156, 164, 165] (by decide +kernel) (by decide +kernel)
set_option maxRecDepth 20000 in
theorem gL_areAlike_X6_lessons : GoodIn wsL_areAlike (wsV RL 76 RX6 yX6_lessons wsX6_lessons) := goodIn_app (goodIn_of _ (by decide +kernel)) ggL_areAlike_X6_lessons
set_option maxRecDepth 20000 in
theorem ggL_areAlike_X6_strokes : GoodIn wsL_areAlike wsX6_strokes := goodIn_r _ [47, 48, 149, 150, 151, 152, 153, 154, 155, 156] (by decide +kernel) (by decide +kernel)
set_option maxRecDepth 20000 in
theorem gL_areAlike_X6_strokes : GoodIn wsL_areAlike (wsV RL 79 RX6 yX6_strokes wsX6_strokes) := goodIn_app (goodIn_of _ (by decide +kernel)) ggL_areAlike_X6_strokes
set_option maxRecDepth 20000 in
theorem ggL_areAlike_X6_falls : GoodIn wsL_areAlike wsX6_falls := goodIn_r _ [52, 43, 53, 54, 55, 56, 57, 58, 59, 60, 30, 31, 32, 33, 34, 149, 150, 151, 152, 153, 154, 155, 156, 164, 165, 163] (by decide +kernel) (by decide +kernel)
set_option maxRecDepth 20000 in
theorem gL_areAlike_X6_falls : GoodIn wsL_areAlike (wsV RL 82 RX6 yX6_falls wsX6_falls) := goodIn_app (goodIn_of _ (by decide +kernel)) ggL_areAlike_X6_falls
set_option maxRecDepth 20000 in
theorem ggL_areAlike_X6_count : GoodIn wsL_areAlike wsX6_count := goodIn_ca (goodIn_r _ [64, 65, 66, 67, 4, 68, 69, 70, 71, 72, 73, 74, 30, 31, 32, 33, 34, 149, 150, 151, 152, 153, 154, 155, 156, 166, 167, 168, 169, 170, 171, 163] (by decide +kernel) (by decide +kernel)) (goodIn_sub (fun _ h => List.mem_cons_of_mem _ (List.mem_append_left _ (List.mem_append_right _ h))) (by decide +kernel))
set_option maxRecDepth 20000 in
theorem gL_areAlike_X6_count : GoodIn wsL_areAlike (wsV RL 85 RX6 yX6_count wsX6_count) := goodIn_app (goodIn_of _ (by decide +kernel)) ggL_areAlike_X6_count
set_option maxRecDepth 20000 in
theorem ggL_areAlike_X6_time : GoodIn wsL_areAlike wsX6_time := goodIn_ca (goodIn_r _ [78, 65, 66, 67, 4, 68, 69, 70, 71, 72, 73, 74, 30, 31, 32, 33, 34, 149, 150, 151, 152, 153, 154, 155, 156, 166, 167, 168, 169, 170, 171, 163] (by decide +kernel) (by decide +kernel)) (goodIn_sub (fun _ h => List.mem_cons_of_mem _ (List.mem_append_left _ (List.mem_append_right _ h))) (by decide +kernel))
set_option maxRecDepth 20000 in
theorem gL_areAlike_X6_time : GoodIn wsL_areAlike (wsV RL 88 RX6 yX6_time wsX6_time) := goodIn_app (goodIn_of _ (by decide +kernel)) ggL_areAlike_X6_time
set_option maxRecDepth 20000 in
theorem ggL_areAlike_X6_share : GoodIn wsL_areAlike wsX6_share := goodIn_ca (goodIn_r _ [82, 65, 66, 67, 4, 68, 69, 70, 71, 72, 73, 74, 30, 31, 32, 33, 34, 149, 150, 151, 152, 153, 154, 155, 156, 166, 167, 168, 169, 170, 171, 163] (by decide +kernel) (by decide +kernel)) (goodIn_sub (fun _ h => List.mem_cons_of_mem _ (List.mem_append_left _ (List.mem_append_right _ h))) (by decide +kernel))
set_option maxRecDepth 20000 in
theorem gL_areAlike_X6_share : GoodIn wsL_areAlike (wsV RL 91 RX6 yX6_share wsX6_share) := goodIn_app (goodIn_of _ (by decide +kernel)) ggL_areAlike_X6_share
set_option maxRecDepth 20000 in
theorem ggL_areAlike_X6_isIn : GoodIn wsL_areAlike wsX6_isIn := goodIn_ca (goodIn_r _ [86, 87, 66, 67, 4, 68, 69, 70, 71, 72, 73, 88, 89, 90, 91, 92, 93, 149, 150, 151, 152, 153, 154, 155, 156, 172, 173] (by decide +kernel) (by decide +kernel)) (goodIn_sub (fun _ h => List.mem_cons_of_mem _ (List.mem_append_left _ (List.mem_append_right _ h))) (by decide +kernel))
set_option maxRecDepth 20000 in
theorem gL_areAlike_X6_isIn : GoodIn wsL_areAlike (wsV RL 94 RX6 yX6_isIn wsX6_isIn) := goodIn_app (goodIn_of _ (by decide +kernel)) ggL_areAlike_X6_isIn
set_option maxRecDepth 20000 in
theorem ggL_areAlike_X6_finger : GoodIn wsL_areAlike wsX6_finger := goodIn_ca (goodIn_r _ [97, 98, 66, 67, 4, 68, 69, 70, 71, 72, 73, 99, 100, 101, 102, 103, 104, 105, 106, 107, 108, 109, 30, 31, 32, 33, 34, 149, 150, 151, 152, 153, 154, 155, 156, 174, 175, 163] (by decide +kernel) (by decide +kernel)) (goodIn_sub (fun _ h => List.mem_cons_of_mem _ (List.mem_append_left _ (List.mem_append_right _ h))) (by decide +kernel))
set_option maxRecDepth 20000 in
theorem gL_areAlike_X6_finger : GoodIn wsL_areAlike (wsV RL 98 RX6 yX6_finger wsX6_finger) := goodIn_app (goodIn_of _ (by decide +kernel)) ggL_areAlike_X6_finger
set_option maxRecDepth 20000 in
theorem ggL_areAlike_X6_mirror : GoodIn wsL_areAlike wsX6_mirror := goodIn_ca (goodIn_r _ [113, 98, 66, 67, 4, 68, 69, 70, 71, 72, 73, 114, 115, 116, 102, 117, 118, 119, 120, 121, 122, 108, 109, 30, 31, 32, 33, 34, 104, 105, 106, 107, 149, 150, 151, 152, 153, 154, 155, 156, 174, 175, 163] (by decide +kernel) (by decide +kernel)) (goodIn_sub (fun _ h => List.mem_cons_of_mem _ (List.mem_append_left _ (List.mem_append_right _ h))) (by decide +kernel))
set_option maxRecDepth 20000 in
theorem gL_areAlike_X6_mirror : GoodIn wsL_areAlike (wsV RL 101 RX6 yX6_mirror wsX6_mirror) := goodIn_app (goodIn_of _ (by decide +kernel)) ggL_areAlike_X6_mirror
set_option maxRecDepth 20000 in
theorem ggL_areAlike_X6_pairTime : GoodIn wsL_areAlike wsX6_pairTime := goodIn_ca (goodIn_r _ [126, 65, 66, 67, 4, 68, 69, 70, 71, 72, 73, 127, 128, 129, 130, 131, 132, 133, 134, 135, 136, 30, 31, 32, 33, 34, 149, 150, 151, 152, 153, 154, 155, 156, 166, 167, 168, 169, 170, 171, 163] (by decide +kernel) (by decide +kernel)) (goodIn_sub (fun _ h => List.mem_cons_of_mem _ (List.mem_append_left _ (List.mem_append_right _ h))) (by decide +kernel))
set_option maxRecDepth 20000 in
theorem gL_areAlike_X6_pairTime : GoodIn wsL_areAlike (wsV RL 104 RX6 yX6_pairTime wsX6_pairTime) := goodIn_app (goodIn_of _ (by decide +kernel)) ggL_areAlike_X6_pairTime
set_option maxRecDepth 20000 in
theorem ggL_areAlike_X6_errorsOf : GoodIn wsL_areAlike wsX6_errorsOf := goodIn_ca (goodIn_r _ [140, 141, 142, 143, 71, 72, 4, 73, 74, 30, 31, 32, 33, 34, 149, 150, 151, 152, 153, 154, 155, 156, 163] (by decide +kernel) (by decide +kernel)) (goodIn_sub (fun _ h => List.mem_cons_of_mem _ (List.mem_append_right _ h)) (by decide +kernel))
set_option maxRecDepth 20000 in
theorem gL_areAlike_X6_errorsOf : GoodIn wsL_areAlike (wsV RL 107 RX6 yX6_errorsOf wsX6_errorsOf) := goodIn_app (goodIn_of _ (by decide +kernel)) ggL_areAlike_X6_errorsOf
set_option maxRecDepth 20000 in
theorem ggL_areAlike_X6_errors : GoodIn wsL_areAlike wsX6_errors := goodIn_ca (goodIn_r _ [147, 141, 142, 148, 71, 72, 4, 73, 74, 30, 31, 32, 33, 34, 149, 150, 151, 152, 153, 154, 155, 156, 163] (by decide +kernel) (by decide +kernel)) (goodIn_sub (fun _ h => List.mem_cons_of_mem _ (List.mem_append_right _ h)) (by decide +kernel))
set_option maxRecDepth 20000 in
theorem gL_areAlike_X6_errors : GoodIn wsL_areAlike (wsV RL 110 RX6 yX6_errors wsX6_errors) := goodIn_app (goodIn_of _ (by decide +kernel)) ggL_areAlike_X6_errors
theorem dL_areAlike_0 : decode cL_areAlike 0 = .ok (.aload_n 0, 1) := by decide +kernel
theorem dL_areAlike_1 : decode cL_areAlike 1 = .ok (.invokevirtual 64, 3) := by decide +kernel
theorem dL_areAlike_4 : decode cL_areAlike 4 = .ok (.aload_n 1, 1) := by decide +kernel
theorem dL_areAlike_5 : decode cL_areAlike 5 = .ok (.invokevirtual 64, 3) := by decide +kernel
theorem dL_areAlike_8 : decode cL_areAlike 8 = .ok (.if_icmp .ne 73, 3) := by decide +kernel
theorem dL_areAlike_11 : decode cL_areAlike 11 = .ok (.aload_n 0, 1) := by decide +kernel
theorem dL_areAlike_12 : decode cL_areAlike 12 = .ok (.invokevirtual 61, 3) := by decide +kernel
theorem dL_areAlike_15 : decode cL_areAlike 15 = .ok (.aload_n 1, 1) := by decide +kernel
theorem dL_areAlike_16 : decode cL_areAlike 16 = .ok (.invokevirtual 61, 3) := by decide +kernel
theorem dL_areAlike_19 : decode cL_areAlike 19 = .ok (.if_icmp .ne 62, 3) := by decide +kernel
theorem dL_areAlike_22 : decode cL_areAlike 22 = .ok (.aload_n 0, 1) := by decide +kernel
theorem dL_areAlike_23 : decode cL_areAlike 23 = .ok (.invokevirtual 70, 3) := by decide +kernel
theorem dL_areAlike_26 : decode cL_areAlike 26 = .ok (.aload_n 1, 1) := by decide +kernel
theorem dL_areAlike_27 : decode cL_areAlike 27 = .ok (.invokevirtual 70, 3) := by decide +kernel
theorem dL_areAlike_30 : decode cL_areAlike 30 = .ok (.if_icmp .ne 51, 3) := by decide +kernel
theorem dL_areAlike_33 : decode cL_areAlike 33 = .ok (.aload_n 0, 1) := by decide +kernel
theorem dL_areAlike_34 : decode cL_areAlike 34 = .ok (.invokevirtual 73, 3) := by decide +kernel
theorem dL_areAlike_37 : decode cL_areAlike 37 = .ok (.aload_n 1, 1) := by decide +kernel
theorem dL_areAlike_38 : decode cL_areAlike 38 = .ok (.invokevirtual 73, 3) := by decide +kernel
theorem dL_areAlike_41 : decode cL_areAlike 41 = .ok (.if_icmp .ne 40, 3) := by decide +kernel
theorem dL_areAlike_44 : decode cL_areAlike 44 = .ok (.aload_n 0, 1) := by decide +kernel
theorem dL_areAlike_45 : decode cL_areAlike 45 = .ok (.invokevirtual 76, 3) := by decide +kernel
theorem dL_areAlike_48 : decode cL_areAlike 48 = .ok (.aload_n 1, 1) := by decide +kernel
theorem dL_areAlike_49 : decode cL_areAlike 49 = .ok (.invokevirtual 76, 3) := by decide +kernel
theorem dL_areAlike_52 : decode cL_areAlike 52 = .ok (.if_icmp .ne 29, 3) := by decide +kernel
theorem dL_areAlike_55 : decode cL_areAlike 55 = .ok (.aload_n 0, 1) := by decide +kernel
theorem dL_areAlike_56 : decode cL_areAlike 56 = .ok (.invokevirtual 79, 3) := by decide +kernel
theorem dL_areAlike_59 : decode cL_areAlike 59 = .ok (.aload_n 1, 1) := by decide +kernel
theorem dL_areAlike_60 : decode cL_areAlike 60 = .ok (.invokevirtual 79, 3) := by decide +kernel
theorem dL_areAlike_63 : decode cL_areAlike 63 = .ok (.if_icmp .ne 18, 3) := by decide +kernel
theorem dL_areAlike_66 : decode cL_areAlike 66 = .ok (.aload_n 0, 1) := by decide +kernel
theorem dL_areAlike_67 : decode cL_areAlike 67 = .ok (.invokevirtual 82, 3) := by decide +kernel
theorem dL_areAlike_70 : decode cL_areAlike 70 = .ok (.aload_n 1, 1) := by decide +kernel
theorem dL_areAlike_71 : decode cL_areAlike 71 = .ok (.invokevirtual 82, 3) := by decide +kernel
theorem dL_areAlike_74 : decode cL_areAlike 74 = .ok (.if_icmp .ne 7, 3) := by decide +kernel
theorem dL_areAlike_77 : decode cL_areAlike 77 = .ok (.iconst 1, 1) := by decide +kernel
theorem dL_areAlike_78 : decode cL_areAlike 78 = .ok (.goto 4, 3) := by decide +kernel
theorem dL_areAlike_81 : decode cL_areAlike 81 = .ok (.iconst 0, 1) := by decide +kernel
theorem dL_areAlike_82 : decode cL_areAlike 82 = .ok (.istore_n 2, 1) := by decide +kernel
theorem dL_areAlike_83 : decode cL_areAlike 83 = .ok (.iconst 0, 1) := by decide +kernel
theorem dL_areAlike_84 : decode cL_areAlike 84 = .ok (.istore_n 3, 1) := by decide +kernel
theorem dL_areAlike_85 : decode cL_areAlike 85 = .ok (.iload_n 3, 1) := by decide +kernel
theorem dL_areAlike_86 : decode cL_areAlike 86 = .ok (.bipush 26, 2) := by decide +kernel
theorem dL_areAlike_88 : decode cL_areAlike 88 = .ok (.if_icmp .ge 112, 3) := by decide +kernel
theorem dL_areAlike_91 : decode cL_areAlike 91 = .ok (.iload_n 2, 1) := by decide +kernel
theorem dL_areAlike_92 : decode cL_areAlike 92 = .ok (.ifCond .eq 108, 3) := by decide +kernel
theorem dL_areAlike_95 : decode cL_areAlike 95 = .ok (.aload_n 0, 1) := by decide +kernel
theorem dL_areAlike_96 : decode cL_areAlike 96 = .ok (.iload_n 3, 1) := by decide +kernel
theorem dL_areAlike_97 : decode cL_areAlike 97 = .ok (.invokevirtual 85, 3) := by decide +kernel
theorem dL_areAlike_100 : decode cL_areAlike 100 = .ok (.aload_n 1, 1) := by decide +kernel
theorem dL_areAlike_101 : decode cL_areAlike 101 = .ok (.iload_n 3, 1) := by decide +kernel
theorem dL_areAlike_102 : decode cL_areAlike 102 = .ok (.invokevirtual 85, 3) := by decide +kernel
theorem dL_areAlike_105 : decode cL_areAlike 105 = .ok (.if_icmp .ne 87, 3) := by decide +kernel
theorem dL_areAlike_108 : decode cL_areAlike 108 = .ok (.aload_n 0, 1) := by decide +kernel
theorem dL_areAlike_109 : decode cL_areAlike 109 = .ok (.iload_n 3, 1) := by decide +kernel
theorem dL_areAlike_110 : decode cL_areAlike 110 = .ok (.invokevirtual 88, 3) := by decide +kernel
theorem dL_areAlike_113 : decode cL_areAlike 113 = .ok (.aload_n 1, 1) := by decide +kernel
theorem dL_areAlike_114 : decode cL_areAlike 114 = .ok (.iload_n 3, 1) := by decide +kernel
theorem dL_areAlike_115 : decode cL_areAlike 115 = .ok (.invokevirtual 88, 3) := by decide +kernel
theorem dL_areAlike_118 : decode cL_areAlike 118 = .ok (.if_icmp .ne 74, 3) := by decide +kernel
theorem dL_areAlike_121 : decode cL_areAlike 121 = .ok (.aload_n 0, 1) := by decide +kernel
theorem dL_areAlike_122 : decode cL_areAlike 122 = .ok (.iload_n 3, 1) := by decide +kernel
theorem dL_areAlike_123 : decode cL_areAlike 123 = .ok (.invokevirtual 91, 3) := by decide +kernel
theorem dL_areAlike_126 : decode cL_areAlike 126 = .ok (.aload_n 1, 1) := by decide +kernel
theorem dL_areAlike_127 : decode cL_areAlike 127 = .ok (.iload_n 3, 1) := by decide +kernel
theorem dL_areAlike_128 : decode cL_areAlike 128 = .ok (.invokevirtual 91, 3) := by decide +kernel
theorem dL_areAlike_131 : decode cL_areAlike 131 = .ok (.if_icmp .ne 61, 3) := by decide +kernel
theorem dL_areAlike_134 : decode cL_areAlike 134 = .ok (.aload_n 0, 1) := by decide +kernel
theorem dL_areAlike_135 : decode cL_areAlike 135 = .ok (.iload_n 3, 1) := by decide +kernel
theorem dL_areAlike_136 : decode cL_areAlike 136 = .ok (.invokevirtual 94, 3) := by decide +kernel
theorem dL_areAlike_139 : decode cL_areAlike 139 = .ok (.aload_n 1, 1) := by decide +kernel
theorem dL_areAlike_140 : decode cL_areAlike 140 = .ok (.iload_n 3, 1) := by decide +kernel
theorem dL_areAlike_141 : decode cL_areAlike 141 = .ok (.invokevirtual 94, 3) := by decide +kernel
theorem dL_areAlike_144 : decode cL_areAlike 144 = .ok (.if_icmp .ne 48, 3) := by decide +kernel
theorem dL_areAlike_147 : decode cL_areAlike 147 = .ok (.aload_n 0, 1) := by decide +kernel
theorem dL_areAlike_148 : decode cL_areAlike 148 = .ok (.iload_n 3, 1) := by decide +kernel
theorem dL_areAlike_149 : decode cL_areAlike 149 = .ok (.invokevirtual 98, 3) := by decide +kernel
theorem dL_areAlike_152 : decode cL_areAlike 152 = .ok (.aload_n 1, 1) := by decide +kernel
theorem dL_areAlike_153 : decode cL_areAlike 153 = .ok (.iload_n 3, 1) := by decide +kernel
theorem dL_areAlike_154 : decode cL_areAlike 154 = .ok (.invokevirtual 98, 3) := by decide +kernel
theorem dL_areAlike_157 : decode cL_areAlike 157 = .ok (.if_icmp .ne 35, 3) := by decide +kernel
theorem dL_areAlike_160 : decode cL_areAlike 160 = .ok (.aload_n 0, 1) := by decide +kernel
theorem dL_areAlike_161 : decode cL_areAlike 161 = .ok (.iload_n 3, 1) := by decide +kernel
theorem dL_areAlike_162 : decode cL_areAlike 162 = .ok (.invokevirtual 101, 3) := by decide +kernel
theorem dL_areAlike_165 : decode cL_areAlike 165 = .ok (.aload_n 1, 1) := by decide +kernel
theorem dL_areAlike_166 : decode cL_areAlike 166 = .ok (.iload_n 3, 1) := by decide +kernel
theorem dL_areAlike_167 : decode cL_areAlike 167 = .ok (.invokevirtual 101, 3) := by decide +kernel
theorem dL_areAlike_170 : decode cL_areAlike 170 = .ok (.if_icmp .ne 22, 3) := by decide +kernel
theorem dL_areAlike_173 : decode cL_areAlike 173 = .ok (.aload_n 0, 1) := by decide +kernel
theorem dL_areAlike_174 : decode cL_areAlike 174 = .ok (.iload_n 3, 1) := by decide +kernel
theorem dL_areAlike_175 : decode cL_areAlike 175 = .ok (.iconst 1, 1) := by decide +kernel
theorem dL_areAlike_176 : decode cL_areAlike 176 = .ok (.invokevirtual 104, 3) := by decide +kernel
theorem dL_areAlike_179 : decode cL_areAlike 179 = .ok (.aload_n 1, 1) := by decide +kernel
theorem dL_areAlike_180 : decode cL_areAlike 180 = .ok (.iload_n 3, 1) := by decide +kernel
theorem dL_areAlike_181 : decode cL_areAlike 181 = .ok (.iconst 1, 1) := by decide +kernel
theorem dL_areAlike_182 : decode cL_areAlike 182 = .ok (.invokevirtual 104, 3) := by decide +kernel
theorem dL_areAlike_185 : decode cL_areAlike 185 = .ok (.if_icmp .ne 7, 3) := by decide +kernel
theorem dL_areAlike_188 : decode cL_areAlike 188 = .ok (.iconst 1, 1) := by decide +kernel
theorem dL_areAlike_189 : decode cL_areAlike 189 = .ok (.goto 4, 3) := by decide +kernel
theorem dL_areAlike_192 : decode cL_areAlike 192 = .ok (.iconst 0, 1) := by decide +kernel
theorem dL_areAlike_193 : decode cL_areAlike 193 = .ok (.istore_n 2, 1) := by decide +kernel
theorem dL_areAlike_194 : decode cL_areAlike 194 = .ok (.iinc 3 1, 3) := by decide +kernel
theorem dL_areAlike_197 : decode cL_areAlike 197 = .ok (.goto (-112), 3) := by decide +kernel
theorem dL_areAlike_200 : decode cL_areAlike 200 = .ok (.iconst 0, 1) := by decide +kernel
theorem dL_areAlike_201 : decode cL_areAlike 201 = .ok (.istore_n 3, 1) := by decide +kernel
theorem dL_areAlike_202 : decode cL_areAlike 202 = .ok (.iload_n 3, 1) := by decide +kernel
theorem dL_areAlike_203 : decode cL_areAlike 203 = .ok (.bipush 8, 2) := by decide +kernel
theorem dL_areAlike_205 : decode cL_areAlike 205 = .ok (.if_icmp .ge 50, 3) := by decide +kernel
theorem dL_areAlike_208 : decode cL_areAlike 208 = .ok (.iload_n 2, 1) := by decide +kernel
theorem dL_areAlike_209 : decode cL_areAlike 209 = .ok (.ifCond .eq 46, 3) := by decide +kernel
theorem dL_areAlike_212 : decode cL_areAlike 212 = .ok (.aload_n 0, 1) := by decide +kernel
theorem dL_areAlike_213 : decode cL_areAlike 213 = .ok (.iload_n 3, 1) := by decide +kernel
theorem dL_areAlike_214 : decode cL_areAlike 214 = .ok (.invokevirtual 107, 3) := by decide +kernel
theorem dL_areAlike_217 : decode cL_areAlike 217 = .ok (.aload_n 1, 1) := by decide +kernel
theorem dL_areAlike_218 : decode cL_areAlike 218 = .ok (.iload_n 3, 1) := by decide +kernel
theorem dL_areAlike_219 : decode cL_areAlike 219 = .ok (.invokevirtual 107, 3) := by decide +kernel
theorem dL_areAlike_222 : decode cL_areAlike 222 = .ok (.if_icmp .ne 25, 3) := by decide +kernel
theorem dL_areAlike_225 : decode cL_areAlike 225 = .ok (.iload_n 3, 1) := by decide +kernel
theorem dL_areAlike_226 : decode cL_areAlike 226 = .ok (.iconst 4, 1) := by decide +kernel
theorem dL_areAlike_227 : decode cL_areAlike 227 = .ok (.if_icmp .gt 16, 3) := by decide +kernel
theorem dL_areAlike_230 : decode cL_areAlike 230 = .ok (.aload_n 0, 1) := by decide +kernel
theorem dL_areAlike_231 : decode cL_areAlike 231 = .ok (.iload_n 3, 1) := by decide +kernel
theorem dL_areAlike_232 : decode cL_areAlike 232 = .ok (.invokevirtual 110, 3) := by decide +kernel
theorem dL_areAlike_235 : decode cL_areAlike 235 = .ok (.aload_n 1, 1) := by decide +kernel
theorem dL_areAlike_236 : decode cL_areAlike 236 = .ok (.iload_n 3, 1) := by decide +kernel
theorem dL_areAlike_237 : decode cL_areAlike 237 = .ok (.invokevirtual 110, 3) := by decide +kernel
theorem dL_areAlike_240 : decode cL_areAlike 240 = .ok (.if_icmp .ne 7, 3) := by decide +kernel
theorem dL_areAlike_243 : decode cL_areAlike 243 = .ok (.iconst 1, 1) := by decide +kernel
theorem dL_areAlike_244 : decode cL_areAlike 244 = .ok (.goto 4, 3) := by decide +kernel
theorem dL_areAlike_247 : decode cL_areAlike 247 = .ok (.iconst 0, 1) := by decide +kernel
theorem dL_areAlike_248 : decode cL_areAlike 248 = .ok (.istore_n 2, 1) := by decide +kernel
theorem dL_areAlike_249 : decode cL_areAlike 249 = .ok (.iinc 3 1, 3) := by decide +kernel
theorem dL_areAlike_252 : decode cL_areAlike 252 = .ok (.goto (-50), 3) := by decide +kernel
theorem dL_areAlike_255 : decode cL_areAlike 255 = .ok (.iload_n 2, 1) := by decide +kernel
theorem dL_areAlike_256 : decode cL_areAlike 256 = .ok (.ireturn, 1) := by decide +kernel
set_option maxRecDepth 20000 in
theorem ggL_isBoardSo_X6_mirror : GoodIn wsL_isBoardSo wsX6_mirror := goodIn_ca (goodIn_r _ [5, 6, 7, 8, 4, 9, 10, 11, 12, 13, 14, 15, 16, 17, 18, 19, 20, 21, 22, 23, 24, 25, 26, 27, 28, 29, 30, 31, 32, 33, 34, 35, 56, 57, 58, 59, 60, 61, 62, 63, 64, 65, 66] (by decide +kernel) (by decide +kernel)) (goodIn_sub (fun _ h => List.mem_cons_of_mem _ (List.mem_append_right _ h)) (by decide +kernel))
set_option maxRecDepth 20000 in
theorem gL_isBoardSo_X6_mirror : GoodIn wsL_isBoardSo (wsV RL 101 RX6 yX6_mirror wsX6_mirror) := goodIn_app (goodIn_of _ (by decide +kernel)) ggL_isBoardSo_X6_mirror
set_option maxRecDepth 20000 in
theorem ggL_isBoardSo_X6_finger : GoodIn wsL_isBoardSo wsX6_finger := goodIn_ca (goodIn_r _ [39, 6, 7, 8, 4, 9, 10, 11, 12, 13, 14, 40, 41, 42, 18, 43, 32, 33, 34, 35, 25, 26, 27, 28, 29, 30, 31, 56, 57, 58, 59, 60, 61, 62, 63, 64, 65, 66] (by decide +kernel) (by decide +kernel)) (goodIn_sub (fun _ h => List.mem_cons_of_mem _ (List.mem_append_right _ h)) (by decide +kernel))
set_option maxRecDepth 20000 in
theorem gL_isBoardSo_X6_finger : GoodIn wsL_isBoardSo (wsV RL 98 RX6 yX6_finger wsX6_finger) := goodIn_app (goodIn_of _ (by decide +kernel)) ggL_isBoardSo_X6_finger
set_option maxRecDepth 20000 in
theorem ggL_isBoardSo_X6_areBeside : GoodIn wsL_isBoardSo wsX6_areBeside := goodIn_ca (goodIn_r _ [47, 6, 7, 8, 4, 9, 10, 11, 12, 13, 14, 48, 49, 50, 18, 51, 52, 53, 54, 55, 32, 33, 34, 35, 25, 26, 27, 28, 29, 30, 31, 21, 22, 23, 24, 56, 57, 58, 59, 60, 61, 62, 63, 64, 65, 66] (by decide +kernel) (by decide +kernel)) (goodIn_sub (fun _ h => List.mem_cons_of_mem _ (List.mem_append_right _ h)) (by decide +kernel))
set_option maxRecDepth 20000 in
theorem gL_isBoardSo_X6_areBeside : GoodIn wsL_isBoardSo (wsV RL 113 RX6 yX6_areBeside wsX6_areBeside) := goodIn_app (goodIn_of _ (by decide +kernel)) ggL_isBoardSo_X6_areBeside
theorem dL_isBoardSo_0 : decode cL_isBoardSo 0 = .ok (.iconst 1, 1) := by decide +kernel
theorem dL_isBoardSo_1 : decode cL_isBoardSo 1 = .ok (.istore_n 1, 1) := by decide +kernel
theorem dL_isBoardSo_2 : decode cL_isBoardSo 2 = .ok (.iconst 0, 1) := by decide +kernel
theorem dL_isBoardSo_3 : decode cL_isBoardSo 3 = .ok (.istore_n 2, 1) := by decide +kernel
theorem dL_isBoardSo_4 : decode cL_isBoardSo 4 = .ok (.iload_n 2, 1) := by decide +kernel
theorem dL_isBoardSo_5 : decode cL_isBoardSo 5 = .ok (.bipush 26, 2) := by decide +kernel
theorem dL_isBoardSo_7 : decode cL_isBoardSo 7 = .ok (.if_icmp .ge 180, 3) := by decide +kernel
theorem dL_isBoardSo_10 : decode cL_isBoardSo 10 = .ok (.iload_n 1, 1) := by decide +kernel
theorem dL_isBoardSo_11 : decode cL_isBoardSo 11 = .ok (.ifCond .eq 176, 3) := by decide +kernel
theorem dL_isBoardSo_14 : decode cL_isBoardSo 14 = .ok (.aload_n 0, 1) := by decide +kernel
theorem dL_isBoardSo_15 : decode cL_isBoardSo 15 = .ok (.iload_n 2, 1) := by decide +kernel
theorem dL_isBoardSo_16 : decode cL_isBoardSo 16 = .ok (.invokevirtual 101, 3) := by decide +kernel
theorem dL_isBoardSo_19 : decode cL_isBoardSo 19 = .ok (.istore_n 3, 1) := by decide +kernel
theorem dL_isBoardSo_20 : decode cL_isBoardSo 20 = .ok (.iload_n 3, 1) := by decide +kernel
theorem dL_isBoardSo_21 : decode cL_isBoardSo 21 = .ok (.iconst (-1), 1) := by decide +kernel
theorem dL_isBoardSo_22 : decode cL_isBoardSo 22 = .ok (.if_icmp .lt 74, 3) := by decide +kernel
theorem dL_isBoardSo_25 : decode cL_isBoardSo 25 = .ok (.iload_n 3, 1) := by decide +kernel
theorem dL_isBoardSo_26 : decode cL_isBoardSo 26 = .ok (.iload_n 2, 1) := by decide +kernel
theorem dL_isBoardSo_27 : decode cL_isBoardSo 27 = .ok (.if_icmp .eq 69, 3) := by decide +kernel
theorem dL_isBoardSo_30 : decode cL_isBoardSo 30 = .ok (.iload_n 3, 1) := by decide +kernel
theorem dL_isBoardSo_31 : decode cL_isBoardSo 31 = .ok (.bipush 26, 2) := by decide +kernel
theorem dL_isBoardSo_33 : decode cL_isBoardSo 33 = .ok (.if_icmp .ge 63, 3) := by decide +kernel
theorem dL_isBoardSo_36 : decode cL_isBoardSo 36 = .ok (.aload_n 0, 1) := by decide +kernel
theorem dL_isBoardSo_37 : decode cL_isBoardSo 37 = .ok (.iload_n 2, 1) := by decide +kernel
theorem dL_isBoardSo_38 : decode cL_isBoardSo 38 = .ok (.invokevirtual 98, 3) := by decide +kernel
theorem dL_isBoardSo_41 : decode cL_isBoardSo 41 = .ok (.ifCond .lt 55, 3) := by decide +kernel
theorem dL_isBoardSo_44 : decode cL_isBoardSo 44 = .ok (.aload_n 0, 1) := by decide +kernel
theorem dL_isBoardSo_45 : decode cL_isBoardSo 45 = .ok (.iload_n 2, 1) := by decide +kernel
theorem dL_isBoardSo_46 : decode cL_isBoardSo 46 = .ok (.invokevirtual 98, 3) := by decide +kernel
theorem dL_isBoardSo_49 : decode cL_isBoardSo 49 = .ok (.bipush 8, 2) := by decide +kernel
theorem dL_isBoardSo_51 : decode cL_isBoardSo 51 = .ok (.if_icmp .ge 45, 3) := by decide +kernel
theorem dL_isBoardSo_54 : decode cL_isBoardSo 54 = .ok (.aload_n 0, 1) := by decide +kernel
theorem dL_isBoardSo_55 : decode cL_isBoardSo 55 = .ok (.iload_n 2, 1) := by decide +kernel
theorem dL_isBoardSo_56 : decode cL_isBoardSo 56 = .ok (.iload_n 2, 1) := by decide +kernel
theorem dL_isBoardSo_57 : decode cL_isBoardSo 57 = .ok (.invokevirtual 113, 3) := by decide +kernel
theorem dL_isBoardSo_60 : decode cL_isBoardSo 60 = .ok (.ifCond .eq 36, 3) := by decide +kernel
theorem dL_isBoardSo_63 : decode cL_isBoardSo 63 = .ok (.iload_n 3, 1) := by decide +kernel
theorem dL_isBoardSo_64 : decode cL_isBoardSo 64 = .ok (.ifCond .lt 28, 3) := by decide +kernel
theorem dL_isBoardSo_67 : decode cL_isBoardSo 67 = .ok (.aload_n 0, 1) := by decide +kernel
theorem dL_isBoardSo_68 : decode cL_isBoardSo 68 = .ok (.iload_n 3, 1) := by decide +kernel
theorem dL_isBoardSo_69 : decode cL_isBoardSo 69 = .ok (.invokevirtual 101, 3) := by decide +kernel
theorem dL_isBoardSo_72 : decode cL_isBoardSo 72 = .ok (.iload_n 2, 1) := by decide +kernel
theorem dL_isBoardSo_73 : decode cL_isBoardSo 73 = .ok (.if_icmp .ne 23, 3) := by decide +kernel
theorem dL_isBoardSo_76 : decode cL_isBoardSo 76 = .ok (.aload_n 0, 1) := by decide +kernel
theorem dL_isBoardSo_77 : decode cL_isBoardSo 77 = .ok (.iload_n 3, 1) := by decide +kernel
theorem dL_isBoardSo_78 : decode cL_isBoardSo 78 = .ok (.invokevirtual 98, 3) := by decide +kernel
theorem dL_isBoardSo_81 : decode cL_isBoardSo 81 = .ok (.aload_n 0, 1) := by decide +kernel
theorem dL_isBoardSo_82 : decode cL_isBoardSo 82 = .ok (.iload_n 2, 1) := by decide +kernel
theorem dL_isBoardSo_83 : decode cL_isBoardSo 83 = .ok (.invokevirtual 98, 3) := by decide +kernel
theorem dL_isBoardSo_86 : decode cL_isBoardSo 86 = .ok (.iadd, 1) := by decide +kernel
theorem dL_isBoardSo_87 : decode cL_isBoardSo 87 = .ok (.bipush 7, 2) := by decide +kernel
theorem dL_isBoardSo_89 : decode cL_isBoardSo 89 = .ok (.if_icmp .ne 7, 3) := by decide +kernel
theorem dL_isBoardSo_92 : decode cL_isBoardSo 92 = .ok (.iconst 1, 1) := by decide +kernel
theorem dL_isBoardSo_93 : decode cL_isBoardSo 93 = .ok (.goto 4, 3) := by decide +kernel
theorem dL_isBoardSo_96 : decode cL_isBoardSo 96 = .ok (.iconst 0, 1) := by decide +kernel
theorem dL_isBoardSo_97 : decode cL_isBoardSo 97 = .ok (.istore_n 1, 1) := by decide +kernel
theorem dL_isBoardSo_98 : decode cL_isBoardSo 98 = .ok (.iconst 0, 1) := by decide +kernel
theorem dL_isBoardSo_99 : decode cL_isBoardSo 99 = .ok (.istore 4, 2) := by decide +kernel
theorem dL_isBoardSo_101 : decode cL_isBoardSo 101 = .ok (.iconst 0, 1) := by decide +kernel
theorem dL_isBoardSo_102 : decode cL_isBoardSo 102 = .ok (.istore 5, 2) := by decide +kernel
theorem dL_isBoardSo_104 : decode cL_isBoardSo 104 = .ok (.iload 5, 2) := by decide +kernel
theorem dL_isBoardSo_106 : decode cL_isBoardSo 106 = .ok (.bipush 26, 2) := by decide +kernel
theorem dL_isBoardSo_108 : decode cL_isBoardSo 108 = .ok (.if_icmp .ge 56, 3) := by decide +kernel
theorem dL_isBoardSo_111 : decode cL_isBoardSo 111 = .ok (.iload_n 1, 1) := by decide +kernel
theorem dL_isBoardSo_112 : decode cL_isBoardSo 112 = .ok (.ifCond .eq 52, 3) := by decide +kernel
theorem dL_isBoardSo_115 : decode cL_isBoardSo 115 = .ok (.iload 4, 2) := by decide +kernel
theorem dL_isBoardSo_117 : decode cL_isBoardSo 117 = .ok (.aload_n 0, 1) := by decide +kernel
theorem dL_isBoardSo_118 : decode cL_isBoardSo 118 = .ok (.iload_n 2, 1) := by decide +kernel
theorem dL_isBoardSo_119 : decode cL_isBoardSo 119 = .ok (.iload 5, 2) := by decide +kernel
theorem dL_isBoardSo_121 : decode cL_isBoardSo 121 = .ok (.invokevirtual 113, 3) := by decide +kernel
theorem dL_isBoardSo_124 : decode cL_isBoardSo 124 = .ok (.ifCond .eq 7, 3) := by decide +kernel
theorem dL_isBoardSo_127 : decode cL_isBoardSo 127 = .ok (.iconst 1, 1) := by decide +kernel
theorem dL_isBoardSo_128 : decode cL_isBoardSo 128 = .ok (.goto 4, 3) := by decide +kernel
theorem dL_isBoardSo_131 : decode cL_isBoardSo 131 = .ok (.iconst 0, 1) := by decide +kernel
theorem dL_isBoardSo_132 : decode cL_isBoardSo 132 = .ok (.iadd, 1) := by decide +kernel
theorem dL_isBoardSo_133 : decode cL_isBoardSo 133 = .ok (.istore 4, 2) := by decide +kernel
theorem dL_isBoardSo_135 : decode cL_isBoardSo 135 = .ok (.aload_n 0, 1) := by decide +kernel
theorem dL_isBoardSo_136 : decode cL_isBoardSo 136 = .ok (.iload_n 2, 1) := by decide +kernel
theorem dL_isBoardSo_137 : decode cL_isBoardSo 137 = .ok (.iload 5, 2) := by decide +kernel
theorem dL_isBoardSo_139 : decode cL_isBoardSo 139 = .ok (.invokevirtual 113, 3) := by decide +kernel
theorem dL_isBoardSo_142 : decode cL_isBoardSo 142 = .ok (.aload_n 0, 1) := by decide +kernel
theorem dL_isBoardSo_143 : decode cL_isBoardSo 143 = .ok (.iload 5, 2) := by decide +kernel
theorem dL_isBoardSo_145 : decode cL_isBoardSo 145 = .ok (.iload_n 2, 1) := by decide +kernel
theorem dL_isBoardSo_146 : decode cL_isBoardSo 146 = .ok (.invokevirtual 113, 3) := by decide +kernel
theorem dL_isBoardSo_149 : decode cL_isBoardSo 149 = .ok (.if_icmp .ne 7, 3) := by decide +kernel
theorem dL_isBoardSo_152 : decode cL_isBoardSo 152 = .ok (.iconst 1, 1) := by decide +kernel
theorem dL_isBoardSo_153 : decode cL_isBoardSo 153 = .ok (.goto 4, 3) := by decide +kernel
theorem dL_isBoardSo_156 : decode cL_isBoardSo 156 = .ok (.iconst 0, 1) := by decide +kernel
theorem dL_isBoardSo_157 : decode cL_isBoardSo 157 = .ok (.istore_n 1, 1) := by decide +kernel
theorem dL_isBoardSo_158 : decode cL_isBoardSo 158 = .ok (.iinc 5 1, 3) := by decide +kernel
theorem dL_isBoardSo_161 : decode cL_isBoardSo 161 = .ok (.goto (-57), 3) := by decide +kernel
theorem dL_isBoardSo_164 : decode cL_isBoardSo 164 = .ok (.iload_n 1, 1) := by decide +kernel
theorem dL_isBoardSo_165 : decode cL_isBoardSo 165 = .ok (.ifCond .eq 14, 3) := by decide +kernel
theorem dL_isBoardSo_168 : decode cL_isBoardSo 168 = .ok (.iload 4, 2) := by decide +kernel
theorem dL_isBoardSo_170 : decode cL_isBoardSo 170 = .ok (.bipush 9, 2) := by decide +kernel
theorem dL_isBoardSo_172 : decode cL_isBoardSo 172 = .ok (.if_icmp .gt 7, 3) := by decide +kernel
theorem dL_isBoardSo_175 : decode cL_isBoardSo 175 = .ok (.iconst 1, 1) := by decide +kernel
theorem dL_isBoardSo_176 : decode cL_isBoardSo 176 = .ok (.goto 4, 3) := by decide +kernel
theorem dL_isBoardSo_179 : decode cL_isBoardSo 179 = .ok (.iconst 0, 1) := by decide +kernel
theorem dL_isBoardSo_180 : decode cL_isBoardSo 180 = .ok (.istore_n 1, 1) := by decide +kernel
theorem dL_isBoardSo_181 : decode cL_isBoardSo 181 = .ok (.iinc 2 1, 3) := by decide +kernel
theorem dL_isBoardSo_184 : decode cL_isBoardSo 184 = .ok (.goto (-180), 3) := by decide +kernel
theorem dL_isBoardSo_187 : decode cL_isBoardSo 187 = .ok (.iload_n 1, 1) := by decide +kernel
theorem dL_isBoardSo_188 : decode cL_isBoardSo 188 = .ok (.ireturn, 1) := by decide +kernel
set_option maxRecDepth 20000 in
theorem ggL_areFiguresSo_X6_weakest : GoodIn wsL_areFiguresSo wsX6_weakest := goodIn_r _ [5, 6, 7, 8, 9, 10, 11, 12, 13, 14, 15, 16, 17, 18, 19, 20, 21, 22, 23, 24, 25, 26, 27, 28, 29, 30, 58, 59, 60, 61, 62, 63, 64, 65, 66, 67, 68, 69, 70, 71, 72, 73, 74] (by decide +kernel) (by decide +kernel)
set_option maxRecDepth 20000 in
theorem gL_areFiguresSo_X6_weakest : GoodIn wsL_areFiguresSo (wsV RL 117 RX6 yX6_weakest wsX6_weakest) := goodIn_app (goodIn_of _ (by decide +kernel)) ggL_areFiguresSo_X6_weakest
set_option maxRecDepth 20000 in
theorem ggL_areFiguresSo_X6_isIn : GoodIn wsL_areFiguresSo wsX6_isIn := goodIn_ca (goodIn_r _ [34, 6, 35, 36, 4, 37, 38, 39, 40, 41, 42, 43, 14, 15, 10, 16, 17, 58, 59, 60, 61, 62, 63, 64, 65, 66, 67] (by decide +kernel) (by decide +kernel)) (goodIn_sub (fun _ h => List.mem_cons_of_mem _ (List.mem_append_right _ h)) (by decide +kernel))
set_option maxRecDepth 20000 in
theorem gL_areFiguresSo_X6_isIn : GoodIn wsL_areFiguresSo (wsV RL 94 RX6 yX6_isIn wsX6_isIn) := goodIn_app (goodIn_of _ (by decide +kernel)) ggL_areFiguresSo_X6_isIn
set_option maxRecDepth 20000 in
theorem ggL_areFiguresSo_X6_share : GoodIn wsL_areFiguresSo wsX6_share := goodIn_ca (goodIn_r _ [47, 48, 35, 36, 4, 37, 38, 39, 40, 41, 42, 49, 26, 27, 28, 29, 30, 58, 59, 60, 61, 62, 63, 64, 65, 68, 69, 70, 71, 72, 73, 74] (by decide +kernel) (by decide +kernel)) (goodIn_sub (fun _ h => List.mem_cons_of_mem _ (List.mem_append_right _ h)) (by decide +kernel))
set_option maxRecDepth 20000 in
theorem gL_areFiguresSo_X6_share : GoodIn wsL_areFiguresSo (wsV RL 91 RX6 yX6_share wsX6_share) := goodIn_app (goodIn_of _ (by decide +kernel)) ggL_areFiguresSo_X6_share
set_option maxRecDepth 20000 in
theorem ggL_areFiguresSo_X6_time : GoodIn wsL_areFiguresSo wsX6_time := goodIn_ca (goodIn_r _ [53, 48, 35, 36, 4, 37, 38, 39, 40, 41, 42, 49, 26, 27, 28, 29, 30, 58, 59, 60, 61, 62, 63, 64, 65, 68, 69, 70, 71, 72, 73, 74] (by decide +kernel) (by decide +kernel)) (goodIn_sub (fun _ h => List.mem_cons_of_mem _ (List.mem_append_right _ h)) (by decide +kernel))
set_option maxRecDepth 20000 in
theorem gL_areFiguresSo_X6_time : GoodIn wsL_areFiguresSo (wsV RL 88 RX6 yX6_time wsX6_time) := goodIn_app (goodIn_of _ (by decide +kernel)) ggL_areFiguresSo_X6_time
set_option maxRecDepth 20000 in
theorem ggL_areFiguresSo_X6_count : GoodIn wsL_areFiguresSo wsX6_count := goodIn_ca (goodIn_r _ [57, 48, 35, 36, 4, 37, 38, 39, 40, 41, 42, 49, 26, 27, 28, 29, 30, 58, 59, 60, 61, 62, 63, 64, 65, 68, 69, 70, 71, 72, 73, 74] (by decide +kernel) (by decide +kernel)) (goodIn_sub (fun _ h => List.mem_cons_of_mem _ (List.mem_append_right _ h)) (by decide +kernel))
set_option maxRecDepth 20000 in
theorem gL_areFiguresSo_X6_count : GoodIn wsL_areFiguresSo (wsV RL 85 RX6 yX6_count wsX6_count) := goodIn_app (goodIn_of _ (by decide +kernel)) ggL_areFiguresSo_X6_count
theorem dL_areFiguresSo_0 : decode cL_areFiguresSo 0 = .ok (.aload_n 0, 1) := by decide +kernel
theorem dL_areFiguresSo_1 : decode cL_areFiguresSo 1 = .ok (.invokevirtual 117, 3) := by decide +kernel
theorem dL_areFiguresSo_4 : decode cL_areFiguresSo 4 = .ok (.istore_n 1, 1) := by decide +kernel
theorem dL_areFiguresSo_5 : decode cL_areFiguresSo 5 = .ok (.aload_n 0, 1) := by decide +kernel
theorem dL_areFiguresSo_6 : decode cL_areFiguresSo 6 = .ok (.iload_n 1, 1) := by decide +kernel
theorem dL_areFiguresSo_7 : decode cL_areFiguresSo 7 = .ok (.invokevirtual 94, 3) := by decide +kernel
theorem dL_areFiguresSo_10 : decode cL_areFiguresSo 10 = .ok (.ifCond .eq 39, 3) := by decide +kernel
theorem dL_areFiguresSo_13 : decode cL_areFiguresSo 13 = .ok (.aload_n 0, 1) := by decide +kernel
theorem dL_areFiguresSo_14 : decode cL_areFiguresSo 14 = .ok (.iconst 0, 1) := by decide +kernel
theorem dL_areFiguresSo_15 : decode cL_areFiguresSo 15 = .ok (.invokevirtual 94, 3) := by decide +kernel
theorem dL_areFiguresSo_18 : decode cL_areFiguresSo 18 = .ok (.ifCond .eq 31, 3) := by decide +kernel
theorem dL_areFiguresSo_21 : decode cL_areFiguresSo 21 = .ok (.aload_n 0, 1) := by decide +kernel
theorem dL_areFiguresSo_22 : decode cL_areFiguresSo 22 = .ok (.iconst 1, 1) := by decide +kernel
theorem dL_areFiguresSo_23 : decode cL_areFiguresSo 23 = .ok (.invokevirtual 94, 3) := by decide +kernel
theorem dL_areFiguresSo_26 : decode cL_areFiguresSo 26 = .ok (.ifCond .eq 23, 3) := by decide +kernel
theorem dL_areFiguresSo_29 : decode cL_areFiguresSo 29 = .ok (.aload_n 0, 1) := by decide +kernel
theorem dL_areFiguresSo_30 : decode cL_areFiguresSo 30 = .ok (.iconst 2, 1) := by decide +kernel
theorem dL_areFiguresSo_31 : decode cL_areFiguresSo 31 = .ok (.invokevirtual 94, 3) := by decide +kernel
theorem dL_areFiguresSo_34 : decode cL_areFiguresSo 34 = .ok (.ifCond .eq 15, 3) := by decide +kernel
theorem dL_areFiguresSo_37 : decode cL_areFiguresSo 37 = .ok (.aload_n 0, 1) := by decide +kernel
theorem dL_areFiguresSo_38 : decode cL_areFiguresSo 38 = .ok (.iconst 3, 1) := by decide +kernel
theorem dL_areFiguresSo_39 : decode cL_areFiguresSo 39 = .ok (.invokevirtual 94, 3) := by decide +kernel
theorem dL_areFiguresSo_42 : decode cL_areFiguresSo 42 = .ok (.ifCond .eq 7, 3) := by decide +kernel
theorem dL_areFiguresSo_45 : decode cL_areFiguresSo 45 = .ok (.iconst 1, 1) := by decide +kernel
theorem dL_areFiguresSo_46 : decode cL_areFiguresSo 46 = .ok (.goto 4, 3) := by decide +kernel
theorem dL_areFiguresSo_49 : decode cL_areFiguresSo 49 = .ok (.iconst 0, 1) := by decide +kernel
theorem dL_areFiguresSo_50 : decode cL_areFiguresSo 50 = .ok (.istore_n 2, 1) := by decide +kernel
theorem dL_areFiguresSo_51 : decode cL_areFiguresSo 51 = .ok (.iconst 0, 1) := by decide +kernel
theorem dL_areFiguresSo_52 : decode cL_areFiguresSo 52 = .ok (.istore_n 3, 1) := by decide +kernel
theorem dL_areFiguresSo_53 : decode cL_areFiguresSo 53 = .ok (.iload_n 3, 1) := by decide +kernel
theorem dL_areFiguresSo_54 : decode cL_areFiguresSo 54 = .ok (.bipush 26, 2) := by decide +kernel
theorem dL_areFiguresSo_56 : decode cL_areFiguresSo 56 = .ok (.if_icmp .ge 125, 3) := by decide +kernel
theorem dL_areFiguresSo_59 : decode cL_areFiguresSo 59 = .ok (.iload_n 2, 1) := by decide +kernel
theorem dL_areFiguresSo_60 : decode cL_areFiguresSo 60 = .ok (.ifCond .eq 121, 3) := by decide +kernel
theorem dL_areFiguresSo_63 : decode cL_areFiguresSo 63 = .ok (.aload_n 0, 1) := by decide +kernel
theorem dL_areFiguresSo_64 : decode cL_areFiguresSo 64 = .ok (.iload_n 3, 1) := by decide +kernel
theorem dL_areFiguresSo_65 : decode cL_areFiguresSo 65 = .ok (.invokevirtual 91, 3) := by decide +kernel
theorem dL_areFiguresSo_68 : decode cL_areFiguresSo 68 = .ok (.istore 4, 2) := by decide +kernel
theorem dL_areFiguresSo_70 : decode cL_areFiguresSo 70 = .ok (.iload 4, 2) := by decide +kernel
theorem dL_areFiguresSo_72 : decode cL_areFiguresSo 72 = .ok (.ifCond .lt 101, 3) := by decide +kernel
theorem dL_areFiguresSo_75 : decode cL_areFiguresSo 75 = .ok (.iload 4, 2) := by decide +kernel
theorem dL_areFiguresSo_77 : decode cL_areFiguresSo 77 = .ok (.sipush 10000, 3) := by decide +kernel
theorem dL_areFiguresSo_80 : decode cL_areFiguresSo 80 = .ok (.if_icmp .ge 93, 3) := by decide +kernel
theorem dL_areFiguresSo_83 : decode cL_areFiguresSo 83 = .ok (.aload_n 0, 1) := by decide +kernel
theorem dL_areFiguresSo_84 : decode cL_areFiguresSo 84 = .ok (.iload_n 3, 1) := by decide +kernel
theorem dL_areFiguresSo_85 : decode cL_areFiguresSo 85 = .ok (.invokevirtual 88, 3) := by decide +kernel
theorem dL_areFiguresSo_88 : decode cL_areFiguresSo 88 = .ok (.ifCond .le 85, 3) := by decide +kernel
theorem dL_areFiguresSo_91 : decode cL_areFiguresSo 91 = .ok (.aload_n 0, 1) := by decide +kernel
theorem dL_areFiguresSo_92 : decode cL_areFiguresSo 92 = .ok (.iload_n 3, 1) := by decide +kernel
theorem dL_areFiguresSo_93 : decode cL_areFiguresSo 93 = .ok (.invokevirtual 88, 3) := by decide +kernel
theorem dL_areFiguresSo_96 : decode cL_areFiguresSo 96 = .ok (.sipush 5000, 3) := by decide +kernel
theorem dL_areFiguresSo_99 : decode cL_areFiguresSo 99 = .ok (.if_icmp .gt 74, 3) := by decide +kernel
theorem dL_areFiguresSo_102 : decode cL_areFiguresSo 102 = .ok (.aload_n 0, 1) := by decide +kernel
theorem dL_areFiguresSo_103 : decode cL_areFiguresSo 103 = .ok (.iload_n 3, 1) := by decide +kernel
theorem dL_areFiguresSo_104 : decode cL_areFiguresSo 104 = .ok (.invokevirtual 85, 3) := by decide +kernel
theorem dL_areFiguresSo_107 : decode cL_areFiguresSo 107 = .ok (.ifCond .lt 66, 3) := by decide +kernel
theorem dL_areFiguresSo_110 : decode cL_areFiguresSo 110 = .ok (.aload_n 0, 1) := by decide +kernel
theorem dL_areFiguresSo_111 : decode cL_areFiguresSo 111 = .ok (.iload_n 3, 1) := by decide +kernel
theorem dL_areFiguresSo_112 : decode cL_areFiguresSo 112 = .ok (.invokevirtual 94, 3) := by decide +kernel
theorem dL_areFiguresSo_115 : decode cL_areFiguresSo 115 = .ok (.ifCond .eq 54, 3) := by decide +kernel
theorem dL_areFiguresSo_118 : decode cL_areFiguresSo 118 = .ok (.iload 4, 2) := by decide +kernel
theorem dL_areFiguresSo_120 : decode cL_areFiguresSo 120 = .ok (.aload_n 0, 1) := by decide +kernel
theorem dL_areFiguresSo_121 : decode cL_areFiguresSo 121 = .ok (.iload_n 1, 1) := by decide +kernel
theorem dL_areFiguresSo_122 : decode cL_areFiguresSo 122 = .ok (.invokevirtual 91, 3) := by decide +kernel
theorem dL_areFiguresSo_125 : decode cL_areFiguresSo 125 = .ok (.if_icmp .lt 44, 3) := by decide +kernel
theorem dL_areFiguresSo_128 : decode cL_areFiguresSo 128 = .ok (.iload 4, 2) := by decide +kernel
theorem dL_areFiguresSo_130 : decode cL_areFiguresSo 130 = .ok (.aload_n 0, 1) := by decide +kernel
theorem dL_areFiguresSo_131 : decode cL_areFiguresSo 131 = .ok (.iload_n 1, 1) := by decide +kernel
theorem dL_areFiguresSo_132 : decode cL_areFiguresSo 132 = .ok (.invokevirtual 91, 3) := by decide +kernel
theorem dL_areFiguresSo_135 : decode cL_areFiguresSo 135 = .ok (.if_icmp .ne 38, 3) := by decide +kernel
theorem dL_areFiguresSo_138 : decode cL_areFiguresSo 138 = .ok (.aload_n 0, 1) := by decide +kernel
theorem dL_areFiguresSo_139 : decode cL_areFiguresSo 139 = .ok (.iload_n 3, 1) := by decide +kernel
theorem dL_areFiguresSo_140 : decode cL_areFiguresSo 140 = .ok (.invokevirtual 88, 3) := by decide +kernel
theorem dL_areFiguresSo_143 : decode cL_areFiguresSo 143 = .ok (.aload_n 0, 1) := by decide +kernel
theorem dL_areFiguresSo_144 : decode cL_areFiguresSo 144 = .ok (.iload_n 1, 1) := by decide +kernel
theorem dL_areFiguresSo_145 : decode cL_areFiguresSo 145 = .ok (.invokevirtual 88, 3) := by decide +kernel
theorem dL_areFiguresSo_148 : decode cL_areFiguresSo 148 = .ok (.if_icmp .lt 21, 3) := by decide +kernel
theorem dL_areFiguresSo_151 : decode cL_areFiguresSo 151 = .ok (.aload_n 0, 1) := by decide +kernel
theorem dL_areFiguresSo_152 : decode cL_areFiguresSo 152 = .ok (.iload_n 3, 1) := by decide +kernel
theorem dL_areFiguresSo_153 : decode cL_areFiguresSo 153 = .ok (.invokevirtual 88, 3) := by decide +kernel
theorem dL_areFiguresSo_156 : decode cL_areFiguresSo 156 = .ok (.aload_n 0, 1) := by decide +kernel
theorem dL_areFiguresSo_157 : decode cL_areFiguresSo 157 = .ok (.iload_n 1, 1) := by decide +kernel
theorem dL_areFiguresSo_158 : decode cL_areFiguresSo 158 = .ok (.invokevirtual 88, 3) := by decide +kernel
theorem dL_areFiguresSo_161 : decode cL_areFiguresSo 161 = .ok (.if_icmp .ne 12, 3) := by decide +kernel
theorem dL_areFiguresSo_164 : decode cL_areFiguresSo 164 = .ok (.iload_n 1, 1) := by decide +kernel
theorem dL_areFiguresSo_165 : decode cL_areFiguresSo 165 = .ok (.iload_n 3, 1) := by decide +kernel
theorem dL_areFiguresSo_166 : decode cL_areFiguresSo 166 = .ok (.if_icmp .gt 7, 3) := by decide +kernel
theorem dL_areFiguresSo_169 : decode cL_areFiguresSo 169 = .ok (.iconst 1, 1) := by decide +kernel
theorem dL_areFiguresSo_170 : decode cL_areFiguresSo 170 = .ok (.goto 4, 3) := by decide +kernel
theorem dL_areFiguresSo_173 : decode cL_areFiguresSo 173 = .ok (.iconst 0, 1) := by decide +kernel
theorem dL_areFiguresSo_174 : decode cL_areFiguresSo 174 = .ok (.istore_n 2, 1) := by decide +kernel
theorem dL_areFiguresSo_175 : decode cL_areFiguresSo 175 = .ok (.iinc 3 1, 3) := by decide +kernel
theorem dL_areFiguresSo_178 : decode cL_areFiguresSo 178 = .ok (.goto (-125), 3) := by decide +kernel
theorem dL_areFiguresSo_181 : decode cL_areFiguresSo 181 = .ok (.iload_n 2, 1) := by decide +kernel
theorem dL_areFiguresSo_182 : decode cL_areFiguresSo 182 = .ok (.ireturn, 1) := by decide +kernel
set_option maxRecDepth 20000 in
theorem ggL_isLessonSo_X6_errorsOf : GoodIn wsL_isLessonSo wsX6_errorsOf := goodIn_ca (goodIn_r _ [6, 7, 8, 9, 10, 11, 5, 12, 13, 14, 15, 16, 17, 18, 96, 97, 98, 99, 100, 101, 102, 103, 104] (by decide +kernel) (by decide +kernel)) (goodIn_sub (fun _ h => List.mem_cons_of_mem _ (List.mem_append_left _ (List.mem_append_right _ h))) (by decide +kernel))
set_option maxRecDepth 20000 in
theorem gL_isLessonSo_X6_errorsOf : GoodIn wsL_isLessonSo (wsV RL 107 RX6 yX6_errorsOf wsX6_errorsOf) := goodIn_app (goodIn_of _ (by decide +kernel)) ggL_isLessonSo_X6_errorsOf
set_option maxRecDepth 20000 in
theorem ggL_isLessonSo_X6_errors : GoodIn wsL_isLessonSo wsX6_errors := goodIn_ca (goodIn_r _ [22, 7, 8, 23, 10, 11, 5, 12, 13, 14, 15, 16, 17, 18, 96, 97, 98, 99, 100, 101, 102, 103, 104] (by decide +kernel) (by decide +kernel)) (goodIn_sub (fun _ h => List.mem_cons_of_mem _ (List.mem_append_left _ (List.mem_append_right _ h))) (by decide +kernel))
set_option maxRecDepth 20000 in
theorem gL_isLessonSo_X6_errors : GoodIn wsL_isLessonSo (wsV RL 110 RX6 yX6_errors wsX6_errors) := goodIn_app (goodIn_of _ (by decide +kernel)) ggL_isLessonSo_X6_errors
set_option maxRecDepth 20000 in
theorem ggL_isLessonSo_X6_position : GoodIn wsL_isLessonSo wsX6_position := goodIn_r _ [27, 28, 96, 97, 98, 99, 100, 101, 102, 103, 105, 106, 107, 108, 109, 110] (by decide +kernel) (by decide +kernel)
set_option maxRecDepth 20000 in
theorem gL_isLessonSo_X6_position : GoodIn wsL_isLessonSo (wsV RL 61 RX6 yX6_position wsX6_position) := goodIn_app (goodIn_of _ (by decide +kernel)) ggL_isLessonSo_X6_position
set_option maxRecDepth 20000 in
theorem ggL_isLessonSo_X6_wanted : GoodIn wsL_isLessonSo wsX6_wanted := goodIn_r _ [32, 28, 96, 97, 98, 99, 100, 101, 102, 103, 105, 106, 107, 108, 109, 110] (by decide +kernel) (by decide +kernel)
set_option maxRecDepth 20000 in
theorem gL_isLessonSo_X6_wanted : GoodIn wsL_isLessonSo (wsV RL 64 RX6 yX6_wanted wsX6_wanted) := goodIn_app (goodIn_of _ (by decide +kernel)) ggL_isLessonSo_X6_wanted
set_option maxRecDepth 20000 in
theorem ggL_isLessonSo_L_wantedAt : GoodIn wsL_isLessonSo wsL_wantedAt := goodIn_ca (goodIn_r _ [36, 37, 1, 38, 39, 40, 5, 41, 42, 43, 28, 10, 11, 12, 44, 45, 46, 47, 48, 49, 50, 51, 14, 15, 16, 17, 18, 96, 97, 98, 99, 100, 101, 102, 103, 105, 106, 107, 108, 109, 110, 104] (by decide +kernel) (by decide +kernel)) (goodIn_sub (fun _ h => List.mem_cons_of_mem _ (List.mem_append_right _ h)) (by decide +kernel))
set_option maxRecDepth 20000 in
theorem gL_isLessonSo_L_wantedAt : GoodIn wsL_isLessonSo (va_wsS RL 120 yL_wantedAt wsL_wantedAt) := goodIn_app (goodIn_of _ (by decide +kernel)) ggL_isLessonSo_L_wantedAt
set_option maxRecDepth 20000 in
theorem ggL_isLessonSo_X6_speed : GoodIn wsL_isLessonSo wsX6_speed := goodIn_r _ [55, 28, 56, 57, 58, 47, 59, 60, 61, 62, 63, 64, 65, 66, 67, 50, 51, 14, 15, 16, 17, 18, 96, 97, 98, 99, 100, 101, 102, 103, 105, 106, 107, 108, 109, 110, 104] (by decide +kernel) (by decide +kernel)
set_option maxRecDepth 20000 in
theorem gL_isLessonSo_X6_speed : GoodIn wsL_isLessonSo (wsV RL 70 RX6 yX6_speed wsX6_speed) := goodIn_app (goodIn_of _ (by decide +kernel)) ggL_isLessonSo_X6_speed
set_option maxRecDepth 20000 in
theorem ggL_isLessonSo_X6_mended : GoodIn wsL_isLessonSo wsX6_mended := goodIn_r _ [71, 28, 96, 97, 98, 99, 100, 101, 102, 103, 105, 106, 107, 108, 109, 110] (by decide +kernel) (by decide +kernel)
set_option maxRecDepth 20000 in
theorem gL_isLessonSo_X6_mended : GoodIn wsL_isLessonSo (wsV RL 73 RX6 yX6_mended wsX6_mended) := goodIn_app (goodIn_of _ (by decide +kernel)) ggL_isLessonSo_X6_mended
set_option maxRecDepth 20000 in
theorem ggL_isLessonSo_X6_falls : GoodIn wsL_isLessonSo wsX6_falls := goodIn_r _ [75, 76, 77, 78, 79, 80, 81, 82, 83, 84, 14, 15, 16, 17, 18, 96, 97, 98, 99, 100, 101, 102, 103, 111, 112, 104] (by decide +kernel) (by decide +kernel)
set_option maxRecDepth 20000 in
theorem gL_isLessonSo_X6_falls : GoodIn wsL_isLessonSo (wsV RL 82 RX6 yX6_falls wsX6_falls) := goodIn_app (goodIn_of _ (by decide +kernel)) ggL_isLessonSo_X6_falls
set_option maxRecDepth 20000 in
theorem ggL_isLessonSo_X6_lessons : GoodIn wsL_isLessonSo wsX6_lessons := goodIn_r _ [88, 76, 96, 97, 98, 99, 100, 101, 102, 103, 111, 112] (by decide +kernel) (by decide +kernel)
set_option maxRecDepth 20000 in
theorem gL_isLessonSo_X6_lessons : GoodIn wsL_isLessonSo (wsV RL 76 RX6 yX6_lessons wsX6_lessons) := goodIn_app (goodIn_of _ (by decide +kernel)) ggL_isLessonSo_X6_lessons
set_option maxRecDepth 20000 in
theorem ggL_isLessonSo_L_speedOf : GoodIn wsL_isLessonSo wsL_speedOf := goodIn_ca (goodIn_r _ [91, 37, 1, 92, 93, 94, 5, 95, 42, 43, 76, 10, 11, 12, 13, 14, 15, 16, 17, 18, 96, 97, 98, 99, 100, 101, 102, 103, 111, 112, 104] (by decide +kernel) (by decide +kernel)) (goodIn_sub (fun _ h => List.mem_cons_of_mem _ (List.mem_append_right _ h)) (by decide +kernel))
set_option maxRecDepth 20000 in
theorem gL_isLessonSo_L_speedOf : GoodIn wsL_isLessonSo (va_wsS RL 123 yL_speedOf wsL_speedOf) := goodIn_app (goodIn_of _ (by decide +kernel)) ggL_isLessonSo_L_speedOf
theorem dL_isLessonSo_0 : decode cL_isLessonSo 0 = .ok (.iconst 0, 1) := by decide +kernel
theorem dL_isLessonSo_1 : decode cL_isLessonSo 1 = .ok (.istore_n 1, 1) := by decide +kernel
theorem dL_isLessonSo_2 : decode cL_isLessonSo 2 = .ok (.iconst 0, 1) := by decide +kernel
theorem dL_isLessonSo_3 : decode cL_isLessonSo 3 = .ok (.istore_n 2, 1) := by decide +kernel
theorem dL_isLessonSo_4 : decode cL_isLessonSo 4 = .ok (.iload_n 2, 1) := by decide +kernel
theorem dL_isLessonSo_5 : decode cL_isLessonSo 5 = .ok (.bipush 8, 2) := by decide +kernel
theorem dL_isLessonSo_7 : decode cL_isLessonSo 7 = .ok (.if_icmp .ge 32, 3) := by decide +kernel
theorem dL_isLessonSo_10 : decode cL_isLessonSo 10 = .ok (.iload_n 1, 1) := by decide +kernel
theorem dL_isLessonSo_11 : decode cL_isLessonSo 11 = .ok (.aload_n 0, 1) := by decide +kernel
theorem dL_isLessonSo_12 : decode cL_isLessonSo 12 = .ok (.iload_n 2, 1) := by decide +kernel
theorem dL_isLessonSo_13 : decode cL_isLessonSo 13 = .ok (.invokevirtual 107, 3) := by decide +kernel
theorem dL_isLessonSo_16 : decode cL_isLessonSo 16 = .ok (.iload_n 2, 1) := by decide +kernel
theorem dL_isLessonSo_17 : decode cL_isLessonSo 17 = .ok (.iconst 5, 1) := by decide +kernel
theorem dL_isLessonSo_18 : decode cL_isLessonSo 18 = .ok (.if_icmp .ge 11, 3) := by decide +kernel
theorem dL_isLessonSo_21 : decode cL_isLessonSo 21 = .ok (.aload_n 0, 1) := by decide +kernel
theorem dL_isLessonSo_22 : decode cL_isLessonSo 22 = .ok (.iload_n 2, 1) := by decide +kernel
theorem dL_isLessonSo_23 : decode cL_isLessonSo 23 = .ok (.invokevirtual 110, 3) := by decide +kernel
theorem dL_isLessonSo_26 : decode cL_isLessonSo 26 = .ok (.goto 4, 3) := by decide +kernel
theorem dL_isLessonSo_29 : decode cL_isLessonSo 29 = .ok (.iconst 0, 1) := by decide +kernel
theorem dL_isLessonSo_30 : decode cL_isLessonSo 30 = .ok (.isub, 1) := by decide +kernel
theorem dL_isLessonSo_31 : decode cL_isLessonSo 31 = .ok (.iadd, 1) := by decide +kernel
theorem dL_isLessonSo_32 : decode cL_isLessonSo 32 = .ok (.istore_n 1, 1) := by decide +kernel
theorem dL_isLessonSo_33 : decode cL_isLessonSo 33 = .ok (.iinc 2 1, 3) := by decide +kernel
theorem dL_isLessonSo_36 : decode cL_isLessonSo 36 = .ok (.goto (-32), 3) := by decide +kernel
theorem dL_isLessonSo_39 : decode cL_isLessonSo 39 = .ok (.iload_n 1, 1) := by decide +kernel
theorem dL_isLessonSo_40 : decode cL_isLessonSo 40 = .ok (.ifCond .ne 109, 3) := by decide +kernel
theorem dL_isLessonSo_43 : decode cL_isLessonSo 43 = .ok (.aload_n 0, 1) := by decide +kernel
theorem dL_isLessonSo_44 : decode cL_isLessonSo 44 = .ok (.invokevirtual 61, 3) := by decide +kernel
theorem dL_isLessonSo_47 : decode cL_isLessonSo 47 = .ok (.ifCond .lt 102, 3) := by decide +kernel
theorem dL_isLessonSo_50 : decode cL_isLessonSo 50 = .ok (.aload_n 0, 1) := by decide +kernel
theorem dL_isLessonSo_51 : decode cL_isLessonSo 51 = .ok (.invokevirtual 61, 3) := by decide +kernel
theorem dL_isLessonSo_54 : decode cL_isLessonSo 54 = .ok (.aload_n 0, 1) := by decide +kernel
theorem dL_isLessonSo_55 : decode cL_isLessonSo 55 = .ok (.invokevirtual 64, 3) := by decide +kernel
theorem dL_isLessonSo_58 : decode cL_isLessonSo 58 = .ok (.if_icmp .gt 91, 3) := by decide +kernel
theorem dL_isLessonSo_61 : decode cL_isLessonSo 61 = .ok (.aload_n 0, 1) := by decide +kernel
theorem dL_isLessonSo_62 : decode cL_isLessonSo 62 = .ok (.invokevirtual 64, 3) := by decide +kernel
theorem dL_isLessonSo_65 : decode cL_isLessonSo 65 = .ok (.bipush 40, 2) := by decide +kernel
theorem dL_isLessonSo_67 : decode cL_isLessonSo 67 = .ok (.if_icmp .gt 82, 3) := by decide +kernel
theorem dL_isLessonSo_70 : decode cL_isLessonSo 70 = .ok (.aload_n 0, 1) := by decide +kernel
theorem dL_isLessonSo_71 : decode cL_isLessonSo 71 = .ok (.aload_n 0, 1) := by decide +kernel
theorem dL_isLessonSo_72 : decode cL_isLessonSo 72 = .ok (.invokevirtual 64, 3) := by decide +kernel
theorem dL_isLessonSo_75 : decode cL_isLessonSo 75 = .ok (.invokestatic 120, 3) := by decide +kernel
theorem dL_isLessonSo_78 : decode cL_isLessonSo 78 = .ok (.ldc 40, 2) := by decide +kernel
theorem dL_isLessonSo_80 : decode cL_isLessonSo 80 = .ok (.if_icmp .ne 69, 3) := by decide +kernel
theorem dL_isLessonSo_83 : decode cL_isLessonSo 83 = .ok (.aload_n 0, 1) := by decide +kernel
theorem dL_isLessonSo_84 : decode cL_isLessonSo 84 = .ok (.iconst (-1), 1) := by decide +kernel
theorem dL_isLessonSo_85 : decode cL_isLessonSo 85 = .ok (.invokestatic 120, 3) := by decide +kernel
theorem dL_isLessonSo_88 : decode cL_isLessonSo 88 = .ok (.ldc 40, 2) := by decide +kernel
theorem dL_isLessonSo_90 : decode cL_isLessonSo 90 = .ok (.if_icmp .ne 59, 3) := by decide +kernel
theorem dL_isLessonSo_93 : decode cL_isLessonSo 93 = .ok (.aload_n 0, 1) := by decide +kernel
theorem dL_isLessonSo_94 : decode cL_isLessonSo 94 = .ok (.invokevirtual 70, 3) := by decide +kernel
theorem dL_isLessonSo_97 : decode cL_isLessonSo 97 = .ok (.ifCond .lt 52, 3) := by decide +kernel
theorem dL_isLessonSo_100 : decode cL_isLessonSo 100 = .ok (.aload_n 0, 1) := by decide +kernel
theorem dL_isLessonSo_101 : decode cL_isLessonSo 101 = .ok (.invokevirtual 73, 3) := by decide +kernel
theorem dL_isLessonSo_104 : decode cL_isLessonSo 104 = .ok (.ifCond .lt 45, 3) := by decide +kernel
theorem dL_isLessonSo_107 : decode cL_isLessonSo 107 = .ok (.aload_n 0, 1) := by decide +kernel
theorem dL_isLessonSo_108 : decode cL_isLessonSo 108 = .ok (.invokevirtual 82, 3) := by decide +kernel
theorem dL_isLessonSo_111 : decode cL_isLessonSo 111 = .ok (.ifCond .lt 38, 3) := by decide +kernel
theorem dL_isLessonSo_114 : decode cL_isLessonSo 114 = .ok (.aload_n 0, 1) := by decide +kernel
theorem dL_isLessonSo_115 : decode cL_isLessonSo 115 = .ok (.invokevirtual 76, 3) := by decide +kernel
theorem dL_isLessonSo_118 : decode cL_isLessonSo 118 = .ok (.ifCond .eq 14, 3) := by decide +kernel
theorem dL_isLessonSo_121 : decode cL_isLessonSo 121 = .ok (.aload_n 0, 1) := by decide +kernel
theorem dL_isLessonSo_122 : decode cL_isLessonSo 122 = .ok (.invokevirtual 82, 3) := by decide +kernel
theorem dL_isLessonSo_125 : decode cL_isLessonSo 125 = .ok (.aload_n 0, 1) := by decide +kernel
theorem dL_isLessonSo_126 : decode cL_isLessonSo 126 = .ok (.invokevirtual 76, 3) := by decide +kernel
theorem dL_isLessonSo_129 : decode cL_isLessonSo 129 = .ok (.if_icmp .ge 20, 3) := by decide +kernel
theorem dL_isLessonSo_132 : decode cL_isLessonSo 132 = .ok (.aload_n 0, 1) := by decide +kernel
theorem dL_isLessonSo_133 : decode cL_isLessonSo 133 = .ok (.aload_n 0, 1) := by decide +kernel
theorem dL_isLessonSo_134 : decode cL_isLessonSo 134 = .ok (.invokevirtual 76, 3) := by decide +kernel
theorem dL_isLessonSo_137 : decode cL_isLessonSo 137 = .ok (.invokestatic 123, 3) := by decide +kernel
theorem dL_isLessonSo_140 : decode cL_isLessonSo 140 = .ok (.ldc 40, 2) := by decide +kernel
theorem dL_isLessonSo_142 : decode cL_isLessonSo 142 = .ok (.if_icmp .ne 7, 3) := by decide +kernel
theorem dL_isLessonSo_145 : decode cL_isLessonSo 145 = .ok (.iconst 1, 1) := by decide +kernel
theorem dL_isLessonSo_146 : decode cL_isLessonSo 146 = .ok (.goto 4, 3) := by decide +kernel
theorem dL_isLessonSo_149 : decode cL_isLessonSo 149 = .ok (.iconst 0, 1) := by decide +kernel
theorem dL_isLessonSo_150 : decode cL_isLessonSo 150 = .ok (.istore_n 2, 1) := by decide +kernel
theorem dL_isLessonSo_151 : decode cL_isLessonSo 151 = .ok (.aload_n 0, 1) := by decide +kernel
theorem dL_isLessonSo_152 : decode cL_isLessonSo 152 = .ok (.invokevirtual 82, 3) := by decide +kernel
theorem dL_isLessonSo_155 : decode cL_isLessonSo 155 = .ok (.istore_n 3, 1) := by decide +kernel
theorem dL_isLessonSo_156 : decode cL_isLessonSo 156 = .ok (.iconst 0, 1) := by decide +kernel
theorem dL_isLessonSo_157 : decode cL_isLessonSo 157 = .ok (.istore 4, 2) := by decide +kernel
theorem dL_isLessonSo_159 : decode cL_isLessonSo 159 = .ok (.iload 4, 2) := by decide +kernel
theorem dL_isLessonSo_161 : decode cL_isLessonSo 161 = .ok (.iload_n 3, 1) := by decide +kernel
theorem dL_isLessonSo_162 : decode cL_isLessonSo 162 = .ok (.if_icmp .ge 48, 3) := by decide +kernel
theorem dL_isLessonSo_165 : decode cL_isLessonSo 165 = .ok (.iload_n 2, 1) := by decide +kernel
theorem dL_isLessonSo_166 : decode cL_isLessonSo 166 = .ok (.ifCond .eq 44, 3) := by decide +kernel
theorem dL_isLessonSo_169 : decode cL_isLessonSo 169 = .ok (.aload_n 0, 1) := by decide +kernel
theorem dL_isLessonSo_170 : decode cL_isLessonSo 170 = .ok (.aload_n 0, 1) := by decide +kernel
theorem dL_isLessonSo_171 : decode cL_isLessonSo 171 = .ok (.invokevirtual 76, 3) := by decide +kernel
theorem dL_isLessonSo_174 : decode cL_isLessonSo 174 = .ok (.iconst 1, 1) := by decide +kernel
theorem dL_isLessonSo_175 : decode cL_isLessonSo 175 = .ok (.isub, 1) := by decide +kernel
theorem dL_isLessonSo_176 : decode cL_isLessonSo 176 = .ok (.iload 4, 2) := by decide +kernel
theorem dL_isLessonSo_178 : decode cL_isLessonSo 178 = .ok (.isub, 1) := by decide +kernel
theorem dL_isLessonSo_179 : decode cL_isLessonSo 179 = .ok (.invokestatic 123, 3) := by decide +kernel
theorem dL_isLessonSo_182 : decode cL_isLessonSo 182 = .ok (.aload_n 0, 1) := by decide +kernel
theorem dL_isLessonSo_183 : decode cL_isLessonSo 183 = .ok (.aload_n 0, 1) := by decide +kernel
theorem dL_isLessonSo_184 : decode cL_isLessonSo 184 = .ok (.invokevirtual 76, 3) := by decide +kernel
theorem dL_isLessonSo_187 : decode cL_isLessonSo 187 = .ok (.iconst 2, 1) := by decide +kernel
theorem dL_isLessonSo_188 : decode cL_isLessonSo 188 = .ok (.isub, 1) := by decide +kernel
theorem dL_isLessonSo_189 : decode cL_isLessonSo 189 = .ok (.iload 4, 2) := by decide +kernel
theorem dL_isLessonSo_191 : decode cL_isLessonSo 191 = .ok (.isub, 1) := by decide +kernel
theorem dL_isLessonSo_192 : decode cL_isLessonSo 192 = .ok (.invokestatic 123, 3) := by decide +kernel
theorem dL_isLessonSo_195 : decode cL_isLessonSo 195 = .ok (.if_icmp .ge 7, 3) := by decide +kernel
theorem dL_isLessonSo_198 : decode cL_isLessonSo 198 = .ok (.iconst 1, 1) := by decide +kernel
theorem dL_isLessonSo_199 : decode cL_isLessonSo 199 = .ok (.goto 4, 3) := by decide +kernel
theorem dL_isLessonSo_202 : decode cL_isLessonSo 202 = .ok (.iconst 0, 1) := by decide +kernel
theorem dL_isLessonSo_203 : decode cL_isLessonSo 203 = .ok (.istore_n 2, 1) := by decide +kernel
theorem dL_isLessonSo_204 : decode cL_isLessonSo 204 = .ok (.iinc 4 1, 3) := by decide +kernel
theorem dL_isLessonSo_207 : decode cL_isLessonSo 207 = .ok (.goto (-48), 3) := by decide +kernel
theorem dL_isLessonSo_210 : decode cL_isLessonSo 210 = .ok (.iload_n 2, 1) := by decide +kernel
theorem dL_isLessonSo_211 : decode cL_isLessonSo 211 = .ok (.ifCond .eq 44, 3) := by decide +kernel
theorem dL_isLessonSo_214 : decode cL_isLessonSo 214 = .ok (.aload_n 0, 1) := by decide +kernel
theorem dL_isLessonSo_215 : decode cL_isLessonSo 215 = .ok (.invokevirtual 76, 3) := by decide +kernel
theorem dL_isLessonSo_218 : decode cL_isLessonSo 218 = .ok (.iload_n 3, 1) := by decide +kernel
theorem dL_isLessonSo_219 : decode cL_isLessonSo 219 = .ok (.iconst 2, 1) := by decide +kernel
theorem dL_isLessonSo_220 : decode cL_isLessonSo 220 = .ok (.iadd, 1) := by decide +kernel
theorem dL_isLessonSo_221 : decode cL_isLessonSo 221 = .ok (.if_icmp .lt 30, 3) := by decide +kernel
theorem dL_isLessonSo_224 : decode cL_isLessonSo 224 = .ok (.aload_n 0, 1) := by decide +kernel
theorem dL_isLessonSo_225 : decode cL_isLessonSo 225 = .ok (.aload_n 0, 1) := by decide +kernel
theorem dL_isLessonSo_226 : decode cL_isLessonSo 226 = .ok (.invokevirtual 76, 3) := by decide +kernel
theorem dL_isLessonSo_229 : decode cL_isLessonSo 229 = .ok (.iconst 1, 1) := by decide +kernel
theorem dL_isLessonSo_230 : decode cL_isLessonSo 230 = .ok (.isub, 1) := by decide +kernel
theorem dL_isLessonSo_231 : decode cL_isLessonSo 231 = .ok (.iload_n 3, 1) := by decide +kernel
theorem dL_isLessonSo_232 : decode cL_isLessonSo 232 = .ok (.isub, 1) := by decide +kernel
theorem dL_isLessonSo_233 : decode cL_isLessonSo 233 = .ok (.invokestatic 123, 3) := by decide +kernel
theorem dL_isLessonSo_236 : decode cL_isLessonSo 236 = .ok (.aload_n 0, 1) := by decide +kernel
theorem dL_isLessonSo_237 : decode cL_isLessonSo 237 = .ok (.aload_n 0, 1) := by decide +kernel
theorem dL_isLessonSo_238 : decode cL_isLessonSo 238 = .ok (.invokevirtual 76, 3) := by decide +kernel
theorem dL_isLessonSo_241 : decode cL_isLessonSo 241 = .ok (.iconst 2, 1) := by decide +kernel
theorem dL_isLessonSo_242 : decode cL_isLessonSo 242 = .ok (.isub, 1) := by decide +kernel
theorem dL_isLessonSo_243 : decode cL_isLessonSo 243 = .ok (.iload_n 3, 1) := by decide +kernel
theorem dL_isLessonSo_244 : decode cL_isLessonSo 244 = .ok (.isub, 1) := by decide +kernel
theorem dL_isLessonSo_245 : decode cL_isLessonSo 245 = .ok (.invokestatic 123, 3) := by decide +kernel
theorem dL_isLessonSo_248 : decode cL_isLessonSo 248 = .ok (.if_icmp .lt 7, 3) := by decide +kernel
theorem dL_isLessonSo_251 : decode cL_isLessonSo 251 = .ok (.iconst 1, 1) := by decide +kernel
theorem dL_isLessonSo_252 : decode cL_isLessonSo 252 = .ok (.goto 4, 3) := by decide +kernel
theorem dL_isLessonSo_255 : decode cL_isLessonSo 255 = .ok (.iconst 0, 1) := by decide +kernel
theorem dL_isLessonSo_256 : decode cL_isLessonSo 256 = .ok (.ireturn, 1) := by decide +kernel
set_option maxRecDepth 20000 in
theorem ggL_isStrokeSo_X6_position : GoodIn wsL_isStrokeSo wsX6_position := goodIn_r _ [6, 7, 293, 294, 295, 296, 297, 298, 299, 300, 301, 302, 303, 304, 305, 306] (by decide +kernel) (by decide +kernel)
set_option maxRecDepth 20000 in
theorem gL_isStrokeSo_X6_position : GoodIn wsL_isStrokeSo (wsV RL 61 RX6 yX6_position wsX6_position) := goodIn_app (goodIn_of _ (by decide +kernel)) ggL_isStrokeSo_X6_position
set_option maxRecDepth 20000 in
theorem ggL_isStrokeSo_L_wantedAt : GoodIn wsL_isStrokeSo wsL_wantedAt := goodIn_ca (goodIn_r _ [11, 12, 1, 13, 14, 15, 5, 16, 17, 18, 7, 19, 20, 21, 22, 23, 24, 25, 26, 27, 28, 29, 30, 31, 32, 33, 34, 293, 294, 295, 296, 297, 298, 299, 300, 301, 302, 303, 304, 305, 306, 307] (by decide +kernel) (by decide +kernel)) (goodIn_sub (fun _ h => List.mem_cons_of_mem _ (List.mem_append_left _ (List.mem_append_left _ (List.mem_append_right _ h)))) (by decide +kernel))
set_option maxRecDepth 20000 in
theorem gL_isStrokeSo_L_wantedAt : GoodIn wsL_isStrokeSo (va_wsS RL 120 yL_wantedAt wsL_wantedAt) := goodIn_app (goodIn_of _ (by decide +kernel)) ggL_isStrokeSo_L_wantedAt
set_option maxRecDepth 20000 in
theorem ggL_isStrokeSo_X6_errors : GoodIn wsL_isStrokeSo wsX6_errors := goodIn_ca (goodIn_r _ [38, 39, 40, 41, 19, 20, 5, 21, 42, 30, 31, 32, 33, 34, 293, 294, 295, 296, 297, 298, 299, 300, 307] (by decide +kernel) (by decide +kernel)) (goodIn_sub (fun _ h => List.mem_cons_of_mem _ (List.mem_append_left _ (List.mem_append_right _ h))) (by decide +kernel))
set_option maxRecDepth 20000 in
theorem gL_isStrokeSo_X6_errors : GoodIn wsL_isStrokeSo (wsV RL 110 RX6 yX6_errors wsX6_errors) := goodIn_app (goodIn_of _ (by decide +kernel)) ggL_isStrokeSo_X6_errors
set_option maxRecDepth 20000 in
theorem ggL_isStrokeSo_L_does : GoodIn wsL_isStrokeSo wsL_does := goodIn_ca (goodIn_ca (goodIn_ca (goodIn_r _ [45, 12, 46, 47, 1, 48, 49, 50, 5, 51, 17, 18, 52, 53, 54, 55, 19, 20, 21, 56, 57, 58, 59, 60, 61, 62, 63, 30, 31, 32, 33, 34, 64, 65, 66, 67, 68, 69, 70, 71, 72, 73, 7, 74, 75, 76, 25, 77, 27, 78, 79, 80, 81, 28, 82, 83, 84, 85, 86, 39, 40, 87, 88, 89, 90, 91, 92, 93, 94, 95, 96, 97, 98, 99, 100, 101, 102, 103, 104, 105, 106, 107, 108, 109, 110, 111, 112, 113, 114, 115, 116, 117, 118, 119, 120, 121, 122, 123, 41, 124, 125, 126, 127, 128, 22, 23, 24, 26, 29, 129, 130, 131, 132, 133, 134, 135, 136, 137, 138, 139, 140, 141, 142, 143, 144, 145, 146, 147, 148, 149, 150, 151, 152, 153, 154, 155, 156, 157, 158, 159, 160, 161, 162, 163, 164, 165, 166, 167, 168, 169, 170, 171, 172, 173, 174, 175, 176, 177, 178, 179, 180, 181, 182, 183, 184, 185, 186, 187, 188, 189, 190, 191, 192, 193, 194, 195, 196, 197, 198, 199, 200, 201, 202, 203, 204, 205, 206, 207, 208, 209, 210, 211, 212, 213, 214, 215, 216, 217, 218, 219, 220, 221, 222, 223, 224, 225, 226, 227, 228, 229, 230, 231, 232, 233, 234, 235, 236, 237, 238, 239, 240, 241, 242, 243, 244, 245, 246, 247, 248, 249, 250, 251, 252, 253, 254, 255, 256, 257, 258, 259, 10, 260, 261, 262, 263, 264, 293, 294, 295, 296, 297, 298, 299, 300, 308, 309, 307, 301, 302, 303, 304, 305, 306, 310, 311, 312, 313, 314, 315, 316, 317, 318, 319] (by decide +kernel) (by decide +kernel)) (goodIn_sub (fun _ h => List.mem_cons_of_mem _ (List.mem_append_left _ (List.mem_append_left _ (List.mem_append_right _ h)))) (by decide +kernel))) (goodIn_sub (fun _ h => List.mem_cons_of_mem _ (List.mem_append_right _ h)) (by decide +kernel))) (goodIn_sub (fun _ h => List.mem_cons_of_mem _ (List.mem_append_left _ (List.mem_append_right _ h))) (by decide +kernel))
set_option maxRecDepth 20000 in
theorem gL_isStrokeSo_L_does : GoodIn wsL_isStrokeSo (va_wsS RL 57 yL_does wsL_does) := goodIn_app (goodIn_of _ (by decide +kernel)) ggL_isStrokeSo_L_does
set_option maxRecDepth 20000 in
theorem ggL_isStrokeSo_X6_count : GoodIn wsL_isStrokeSo wsX6_count := goodIn_ca (goodIn_r _ [268, 123, 53, 54, 5, 55, 17, 18, 19, 20, 21, 42, 30, 31, 32, 33, 34, 293, 294, 295, 296, 297, 298, 299, 300, 312, 313, 314, 315, 316, 317, 307] (by decide +kernel) (by decide +kernel)) (goodIn_sub (fun _ h => List.mem_cons_of_mem _ (List.mem_append_left _ (List.mem_append_left _ (List.mem_append_right _ h)))) (by decide +kernel))
set_option maxRecDepth 20000 in
theorem gL_isStrokeSo_X6_count : GoodIn wsL_isStrokeSo (wsV RL 85 RX6 yX6_count wsX6_count) := goodIn_app (goodIn_of _ (by decide +kernel)) ggL_isStrokeSo_X6_count
set_option maxRecDepth 20000 in
theorem ggL_isStrokeSo_X6_time : GoodIn wsL_isStrokeSo wsX6_time := goodIn_ca (goodIn_r _ [272, 123, 53, 54, 5, 55, 17, 18, 19, 20, 21, 42, 30, 31, 32, 33, 34, 293, 294, 295, 296, 297, 298, 299, 300, 312, 313, 314, 315, 316, 317, 307] (by decide +kernel) (by decide +kernel)) (goodIn_sub (fun _ h => List.mem_cons_of_mem _ (List.mem_append_left _ (List.mem_append_left _ (List.mem_append_right _ h)))) (by decide +kernel))
set_option maxRecDepth 20000 in
theorem gL_isStrokeSo_X6_time : GoodIn wsL_isStrokeSo (wsV RL 88 RX6 yX6_time wsX6_time) := goodIn_app (goodIn_of _ (by decide +kernel)) ggL_isStrokeSo_X6_time
set_option maxRecDepth 20000 in
theorem ggL_isStrokeSo_X6_share : GoodIn wsL_isStrokeSo wsX6_share := goodIn_ca (goodIn_r _ [276, 123, 53, 54, 5, 55, 17, 18, 19, 20, 21, 42, 30, 31, 32, 33, 34, 293, 294, 295, 296, 297, 298, 299, 300, 312, 313, 314, 315, 316, 317, 307] (by decide +kernel) (by decide +kernel)) (goodIn_sub (fun _ h => List.mem_cons_of_mem _ (List.mem_append_left _ (List.mem_append_left _ (List.mem_append_right _ h)))) (by decide +kernel))
set_option maxRecDepth 20000 in
theorem gL_isStrokeSo_X6_share : GoodIn wsL_isStrokeSo (wsV RL 91 RX6 yX6_share wsX6_share) := goodIn_app (goodIn_of _ (by decide +kernel)) ggL_isStrokeSo_X6_share
set_option maxRecDepth 20000 in
theorem ggL_isStrokeSo_X6_strokes : GoodIn wsL_isStrokeSo wsX6_strokes := goodIn_r _ [280, 125, 293, 294, 295, 296, 297, 298, 299, 300] (by decide +kernel) (by decide +kernel)
set_option maxRecDepth 20000 in
theorem gL_isStrokeSo_X6_strokes : GoodIn wsL_isStrokeSo (wsV RL 79 RX6 yX6_strokes wsX6_strokes) := goodIn_app (goodIn_of _ (by decide +kernel)) ggL_isStrokeSo_X6_strokes
set_option maxRecDepth 20000 in
theorem ggL_isStrokeSo_X6_mended : GoodIn wsL_isStrokeSo wsX6_mended := goodIn_r _ [284, 7, 293, 294, 295, 296, 297, 298, 299, 300, 301, 302, 303, 304, 305, 306] (by decide +kernel) (by decide +kernel)
set_option maxRecDepth 20000 in
theorem gL_isStrokeSo_X6_mended : GoodIn wsL_isStrokeSo (wsV RL 73 RX6 yX6_mended wsX6_mended) := goodIn_app (goodIn_of _ (by decide +kernel)) ggL_isStrokeSo_X6_mended
set_option maxRecDepth 20000 in
theorem ggL_isStrokeSo_X6_stroke : GoodIn wsL_isStrokeSo wsX6_stroke := goodIn_ca (goodIn_ca (goodIn_ca (goodIn_r _ [122, 72, 73, 7, 123, 41, 124, 52, 125, 53, 54, 5, 55, 17, 18, 19, 20, 21, 126, 127, 128, 39, 40, 22, 23, 24, 25, 26, 27, 28, 29, 30, 31, 32, 33, 34, 129, 130, 131, 132, 133, 134, 135, 136, 137, 138, 139, 140, 141, 59, 142, 143, 144, 145, 146, 147, 148, 149, 150, 62, 63, 151, 152, 153, 154, 155, 156, 157, 158, 61, 159, 160, 161, 102, 162, 163, 105, 104, 164, 165, 166, 167, 168, 169, 65, 66, 67, 106, 170, 171, 172, 173, 174, 175, 176, 177, 115, 116, 117, 118, 178, 112, 113, 114, 179, 180, 181, 182, 183, 184, 185, 186, 187, 188, 82, 293, 294, 295, 296, 297, 298, 299, 300, 301, 302, 303, 304, 305, 306, 307, 308, 309, 312, 313, 314, 315, 316, 317] (by decide +kernel) (by decide +kernel)) (goodIn_sub (fun _ h => List.mem_cons_of_mem _ (List.mem_append_right _ h)) (by decide +kernel))) (goodIn_sub (fun _ h => List.mem_cons_of_mem _ (List.mem_append_left _ (List.mem_append_left _ (List.mem_append_right _ h)))) (by decide +kernel))) (goodIn_sub (fun _ h => List.mem_cons_of_mem _ (List.mem_append_left _ (List.mem_append_right _ h))) (by decide +kernel))
set_option maxRecDepth 20000 in
theorem gL_isStrokeSo_X6_stroke : GoodIn wsL_isStrokeSo (wsV RL 21 RX6 yX6_stroke wsX6_stroke) := goodIn_app (goodIn_of _ (by decide +kernel)) ggL_isStrokeSo_X6_stroke
set_option maxRecDepth 20000 in
theorem ggL_isStrokeSo_X6_areBeside : GoodIn wsL_isStrokeSo wsX6_areBeside := goodIn_ca (goodIn_r _ [288, 52, 53, 54, 5, 55, 17, 18, 19, 20, 21, 139, 140, 141, 59, 142, 143, 144, 145, 146, 147, 148, 149, 150, 62, 63, 30, 31, 32, 33, 34, 151, 152, 153, 154, 293, 294, 295, 296, 297, 298, 299, 300, 308, 309, 307] (by decide +kernel) (by decide +kernel)) (goodIn_sub (fun _ h => List.mem_cons_of_mem _ (List.mem_append_left _ (List.mem_append_left _ (List.mem_append_right _ h)))) (by decide +kernel))
set_option maxRecDepth 20000 in
theorem gL_isStrokeSo_X6_areBeside : GoodIn wsL_isStrokeSo (wsV RL 113 RX6 yX6_areBeside wsX6_areBeside) := goodIn_app (goodIn_of _ (by decide +kernel)) ggL_isStrokeSo_X6_areBeside
set_option maxRecDepth 20000 in
theorem ggL_isStrokeSo_X6_mirror : GoodIn wsL_isStrokeSo wsX6_mirror := goodIn_ca (goodIn_r _ [292, 52, 53, 54, 5, 55, 17, 18, 19, 20, 21, 155, 156, 157, 59, 158, 61, 151, 152, 153, 154, 62, 63, 30, 31, 32, 33, 34, 147, 148, 149, 150, 293, 294, 295, 296, 297, 298, 299, 300, 308, 309, 307] (by decide +kernel) (by decide +kernel)) (goodIn_sub (fun _ h => List.mem_cons_of_mem _ (List.mem_append_left _ (List.mem_append_left _ (List.mem_append_right _ h)))) (by decide +kernel))
set_option maxRecDepth 20000 in
theorem gL_isStrokeSo_X6_mirror : GoodIn wsL_isStrokeSo (wsV RL 101 RX6 yX6_mirror wsX6_mirror) := goodIn_app (goodIn_of _ (by decide +kernel)) ggL_isStrokeSo_X6_mirror
set_option maxRecDepth 20000 in
theorem ggL_isStrokeSo_X6_back : GoodIn wsL_isStrokeSo wsX6_back := goodIn_ca (goodIn_ca (goodIn_r _ [192, 72, 73, 7, 126, 127, 5, 128, 39, 40, 19, 20, 21, 193, 194, 195, 25, 196, 138, 197, 188, 293, 294, 295, 296, 297, 298, 299, 300, 301, 302, 303, 304, 305, 306] (by decide +kernel) (by decide +kernel)) (goodIn_sub (fun _ h => List.mem_cons_of_mem _ (List.mem_append_right _ h)) (by decide +kernel))) (goodIn_sub (fun _ h => List.mem_cons_of_mem _ (List.mem_append_left _ (List.mem_append_right _ h))) (by decide +kernel))
set_option maxRecDepth 20000 in
theorem gL_isStrokeSo_X6_back : GoodIn wsL_isStrokeSo (wsV RL 25 RX6 yX6_back wsX6_back) := goodIn_app (goodIn_of _ (by decide +kernel)) ggL_isStrokeSo_X6_back
theorem dL_isStrokeSo_0 : decode cL_isStrokeSo 0 = .ok (.aload_n 0, 1) := by decide +kernel
theorem dL_isStrokeSo_1 : decode cL_isStrokeSo 1 = .ok (.invokevirtual 61, 3) := by decide +kernel
theorem dL_isStrokeSo_4 : decode cL_isStrokeSo 4 = .ok (.istore 4, 2) := by decide +kernel
theorem dL_isStrokeSo_6 : decode cL_isStrokeSo 6 = .ok (.aload_n 0, 1) := by decide +kernel
theorem dL_isStrokeSo_7 : decode cL_isStrokeSo 7 = .ok (.iload 4, 2) := by decide +kernel
theorem dL_isStrokeSo_9 : decode cL_isStrokeSo 9 = .ok (.invokestatic 120, 3) := by decide +kernel
theorem dL_isStrokeSo_12 : decode cL_isStrokeSo 12 = .ok (.istore 5, 2) := by decide +kernel
theorem dL_isStrokeSo_14 : decode cL_isStrokeSo 14 = .ok (.aload_n 0, 1) := by decide +kernel
theorem dL_isStrokeSo_15 : decode cL_isStrokeSo 15 = .ok (.iconst 0, 1) := by decide +kernel
theorem dL_isStrokeSo_16 : decode cL_isStrokeSo 16 = .ok (.invokevirtual 110, 3) := by decide +kernel
theorem dL_isStrokeSo_19 : decode cL_isStrokeSo 19 = .ok (.aload_n 0, 1) := by decide +kernel
theorem dL_isStrokeSo_20 : decode cL_isStrokeSo 20 = .ok (.iconst 1, 1) := by decide +kernel
theorem dL_isStrokeSo_21 : decode cL_isStrokeSo 21 = .ok (.invokevirtual 110, 3) := by decide +kernel
theorem dL_isStrokeSo_24 : decode cL_isStrokeSo 24 = .ok (.iadd, 1) := by decide +kernel
theorem dL_isStrokeSo_25 : decode cL_isStrokeSo 25 = .ok (.aload_n 0, 1) := by decide +kernel
theorem dL_isStrokeSo_26 : decode cL_isStrokeSo 26 = .ok (.iconst 2, 1) := by decide +kernel
theorem dL_isStrokeSo_27 : decode cL_isStrokeSo 27 = .ok (.invokevirtual 110, 3) := by decide +kernel
theorem dL_isStrokeSo_30 : decode cL_isStrokeSo 30 = .ok (.iadd, 1) := by decide +kernel
theorem dL_isStrokeSo_31 : decode cL_isStrokeSo 31 = .ok (.aload_n 0, 1) := by decide +kernel
theorem dL_isStrokeSo_32 : decode cL_isStrokeSo 32 = .ok (.iconst 3, 1) := by decide +kernel
theorem dL_isStrokeSo_33 : decode cL_isStrokeSo 33 = .ok (.invokevirtual 110, 3) := by decide +kernel
theorem dL_isStrokeSo_36 : decode cL_isStrokeSo 36 = .ok (.iadd, 1) := by decide +kernel
theorem dL_isStrokeSo_37 : decode cL_isStrokeSo 37 = .ok (.aload_n 0, 1) := by decide +kernel
theorem dL_isStrokeSo_38 : decode cL_isStrokeSo 38 = .ok (.iconst 4, 1) := by decide +kernel
theorem dL_isStrokeSo_39 : decode cL_isStrokeSo 39 = .ok (.invokevirtual 110, 3) := by decide +kernel
theorem dL_isStrokeSo_42 : decode cL_isStrokeSo 42 = .ok (.iadd, 1) := by decide +kernel
theorem dL_isStrokeSo_43 : decode cL_isStrokeSo 43 = .ok (.istore 6, 2) := by decide +kernel
theorem dL_isStrokeSo_45 : decode cL_isStrokeSo 45 = .ok (.iload 5, 2) := by decide +kernel
theorem dL_isStrokeSo_47 : decode cL_isStrokeSo 47 = .ok (.ldc 40, 2) := by decide +kernel
theorem dL_isStrokeSo_49 : decode cL_isStrokeSo 49 = .ok (.if_icmp .ne 22, 3) := by decide +kernel
theorem dL_isStrokeSo_52 : decode cL_isStrokeSo 52 = .ok (.aload_n 0, 1) := by decide +kernel
theorem dL_isStrokeSo_53 : decode cL_isStrokeSo 53 = .ok (.iconst 3, 1) := by decide +kernel
theorem dL_isStrokeSo_54 : decode cL_isStrokeSo 54 = .ok (.iload_n 2, 1) := by decide +kernel
theorem dL_isStrokeSo_55 : decode cL_isStrokeSo 55 = .ok (.iload_n 3, 1) := by decide +kernel
theorem dL_isStrokeSo_56 : decode cL_isStrokeSo 56 = .ok (.iconst 0, 1) := by decide +kernel
theorem dL_isStrokeSo_57 : decode cL_isStrokeSo 57 = .ok (.invokestatic 57, 3) := by decide +kernel
theorem dL_isStrokeSo_60 : decode cL_isStrokeSo 60 = .ok (.ldc 40, 2) := by decide +kernel
theorem dL_isStrokeSo_62 : decode cL_isStrokeSo 62 = .ok (.if_icmp .ne 7, 3) := by decide +kernel
theorem dL_isStrokeSo_65 : decode cL_isStrokeSo 65 = .ok (.iconst 1, 1) := by decide +kernel
theorem dL_isStrokeSo_66 : decode cL_isStrokeSo 66 = .ok (.goto 4, 3) := by decide +kernel
theorem dL_isStrokeSo_69 : decode cL_isStrokeSo 69 = .ok (.iconst 0, 1) := by decide +kernel
theorem dL_isStrokeSo_70 : decode cL_isStrokeSo 70 = .ok (.ireturn, 1) := by decide +kernel
theorem dL_isStrokeSo_71 : decode cL_isStrokeSo 71 = .ok (.aload_n 0, 1) := by decide +kernel
theorem dL_isStrokeSo_72 : decode cL_isStrokeSo 72 = .ok (.iload 5, 2) := by decide +kernel
theorem dL_isStrokeSo_74 : decode cL_isStrokeSo 74 = .ok (.invokevirtual 85, 3) := by decide +kernel
theorem dL_isStrokeSo_77 : decode cL_isStrokeSo 77 = .ok (.istore 7, 2) := by decide +kernel
theorem dL_isStrokeSo_79 : decode cL_isStrokeSo 79 = .ok (.aload_n 0, 1) := by decide +kernel
theorem dL_isStrokeSo_80 : decode cL_isStrokeSo 80 = .ok (.iload 5, 2) := by decide +kernel
theorem dL_isStrokeSo_82 : decode cL_isStrokeSo 82 = .ok (.invokevirtual 88, 3) := by decide +kernel
theorem dL_isStrokeSo_85 : decode cL_isStrokeSo 85 = .ok (.istore 8, 2) := by decide +kernel
theorem dL_isStrokeSo_87 : decode cL_isStrokeSo 87 = .ok (.aload_n 0, 1) := by decide +kernel
theorem dL_isStrokeSo_88 : decode cL_isStrokeSo 88 = .ok (.iload 5, 2) := by decide +kernel
theorem dL_isStrokeSo_90 : decode cL_isStrokeSo 90 = .ok (.invokevirtual 91, 3) := by decide +kernel
theorem dL_isStrokeSo_93 : decode cL_isStrokeSo 93 = .ok (.istore 9, 2) := by decide +kernel
theorem dL_isStrokeSo_95 : decode cL_isStrokeSo 95 = .ok (.aload_n 0, 1) := by decide +kernel
theorem dL_isStrokeSo_96 : decode cL_isStrokeSo 96 = .ok (.invokevirtual 79, 3) := by decide +kernel
theorem dL_isStrokeSo_99 : decode cL_isStrokeSo 99 = .ok (.istore 10, 2) := by decide +kernel
theorem dL_isStrokeSo_101 : decode cL_isStrokeSo 101 = .ok (.aload_n 0, 1) := by decide +kernel
theorem dL_isStrokeSo_102 : decode cL_isStrokeSo 102 = .ok (.invokevirtual 73, 3) := by decide +kernel
theorem dL_isStrokeSo_105 : decode cL_isStrokeSo 105 = .ok (.istore 11, 2) := by decide +kernel
theorem dL_isStrokeSo_107 : decode cL_isStrokeSo 107 = .ok (.aload_n 0, 1) := by decide +kernel
theorem dL_isStrokeSo_108 : decode cL_isStrokeSo 108 = .ok (.iload_n 2, 1) := by decide +kernel
theorem dL_isStrokeSo_109 : decode cL_isStrokeSo 109 = .ok (.iload_n 3, 1) := by decide +kernel
theorem dL_isStrokeSo_110 : decode cL_isStrokeSo 110 = .ok (.invokevirtual 21, 3) := by decide +kernel
theorem dL_isStrokeSo_113 : decode cL_isStrokeSo 113 = .ok (.istore 12, 2) := by decide +kernel
theorem dL_isStrokeSo_115 : decode cL_isStrokeSo 115 = .ok (.aload_n 1, 1) := by decide +kernel
theorem dL_isStrokeSo_116 : decode cL_isStrokeSo 116 = .ok (.iload_n 2, 1) := by decide +kernel
theorem dL_isStrokeSo_117 : decode cL_isStrokeSo 117 = .ok (.iload_n 3, 1) := by decide +kernel
theorem dL_isStrokeSo_118 : decode cL_isStrokeSo 118 = .ok (.invokevirtual 21, 3) := by decide +kernel
theorem dL_isStrokeSo_121 : decode cL_isStrokeSo 121 = .ok (.iload 12, 2) := by decide +kernel
theorem dL_isStrokeSo_123 : decode cL_isStrokeSo 123 = .ok (.if_icmp .ne 95, 3) := by decide +kernel
theorem dL_isStrokeSo_126 : decode cL_isStrokeSo 126 = .ok (.iload 12, 2) := by decide +kernel
theorem dL_isStrokeSo_128 : decode cL_isStrokeSo 128 = .ok (.iconst (-1), 1) := by decide +kernel
theorem dL_isStrokeSo_129 : decode cL_isStrokeSo 129 = .ok (.if_icmp .lt 89, 3) := by decide +kernel
theorem dL_isStrokeSo_132 : decode cL_isStrokeSo 132 = .ok (.iload 12, 2) := by decide +kernel
theorem dL_isStrokeSo_134 : decode cL_isStrokeSo 134 = .ok (.iconst 5, 1) := by decide +kernel
theorem dL_isStrokeSo_135 : decode cL_isStrokeSo 135 = .ok (.if_icmp .ge 83, 3) := by decide +kernel
theorem dL_isStrokeSo_138 : decode cL_isStrokeSo 138 = .ok (.iload 12, 2) := by decide +kernel
theorem dL_isStrokeSo_140 : decode cL_isStrokeSo 140 = .ok (.ifCond .ge 7, 3) := by decide +kernel
theorem dL_isStrokeSo_143 : decode cL_isStrokeSo 143 = .ok (.iconst 1, 1) := by decide +kernel
theorem dL_isStrokeSo_144 : decode cL_isStrokeSo 144 = .ok (.goto 4, 3) := by decide +kernel
theorem dL_isStrokeSo_147 : decode cL_isStrokeSo 147 = .ok (.iconst 0, 1) := by decide +kernel
theorem dL_isStrokeSo_148 : decode cL_isStrokeSo 148 = .ok (.iload_n 2, 1) := by decide +kernel
theorem dL_isStrokeSo_149 : decode cL_isStrokeSo 149 = .ok (.iload 5, 2) := by decide +kernel
theorem dL_isStrokeSo_151 : decode cL_isStrokeSo 151 = .ok (.if_icmp .ne 7, 3) := by decide +kernel
theorem dL_isStrokeSo_154 : decode cL_isStrokeSo 154 = .ok (.iconst 1, 1) := by decide +kernel
theorem dL_isStrokeSo_155 : decode cL_isStrokeSo 155 = .ok (.goto 4, 3) := by decide +kernel
theorem dL_isStrokeSo_158 : decode cL_isStrokeSo 158 = .ok (.iconst 0, 1) := by decide +kernel
theorem dL_isStrokeSo_159 : decode cL_isStrokeSo 159 = .ok (.if_icmp .ne 59, 3) := by decide +kernel
theorem dL_isStrokeSo_162 : decode cL_isStrokeSo 162 = .ok (.aload_n 0, 1) := by decide +kernel
theorem dL_isStrokeSo_163 : decode cL_isStrokeSo 163 = .ok (.invokevirtual 61, 3) := by decide +kernel
theorem dL_isStrokeSo_166 : decode cL_isStrokeSo 166 = .ok (.iload 4, 2) := by decide +kernel
theorem dL_isStrokeSo_168 : decode cL_isStrokeSo 168 = .ok (.iconst 1, 1) := by decide +kernel
theorem dL_isStrokeSo_169 : decode cL_isStrokeSo 169 = .ok (.iadd, 1) := by decide +kernel
theorem dL_isStrokeSo_170 : decode cL_isStrokeSo 170 = .ok (.if_icmp .ne 48, 3) := by decide +kernel
theorem dL_isStrokeSo_173 : decode cL_isStrokeSo 173 = .ok (.aload_n 0, 1) := by decide +kernel
theorem dL_isStrokeSo_174 : decode cL_isStrokeSo 174 = .ok (.invokevirtual 79, 3) := by decide +kernel
theorem dL_isStrokeSo_177 : decode cL_isStrokeSo 177 = .ok (.iload 10, 2) := by decide +kernel
theorem dL_isStrokeSo_179 : decode cL_isStrokeSo 179 = .ok (.iconst 1, 1) := by decide +kernel
theorem dL_isStrokeSo_180 : decode cL_isStrokeSo 180 = .ok (.iadd, 1) := by decide +kernel
theorem dL_isStrokeSo_181 : decode cL_isStrokeSo 181 = .ok (.if_icmp .ne 37, 3) := by decide +kernel
theorem dL_isStrokeSo_184 : decode cL_isStrokeSo 184 = .ok (.aload_n 0, 1) := by decide +kernel
theorem dL_isStrokeSo_185 : decode cL_isStrokeSo 185 = .ok (.iload 5, 2) := by decide +kernel
theorem dL_isStrokeSo_187 : decode cL_isStrokeSo 187 = .ok (.invokevirtual 85, 3) := by decide +kernel
theorem dL_isStrokeSo_190 : decode cL_isStrokeSo 190 = .ok (.iload 7, 2) := by decide +kernel
theorem dL_isStrokeSo_192 : decode cL_isStrokeSo 192 = .ok (.iconst 1, 1) := by decide +kernel
theorem dL_isStrokeSo_193 : decode cL_isStrokeSo 193 = .ok (.iadd, 1) := by decide +kernel
theorem dL_isStrokeSo_194 : decode cL_isStrokeSo 194 = .ok (.if_icmp .ne 24, 3) := by decide +kernel
theorem dL_isStrokeSo_197 : decode cL_isStrokeSo 197 = .ok (.aload_n 0, 1) := by decide +kernel
theorem dL_isStrokeSo_198 : decode cL_isStrokeSo 198 = .ok (.iload 5, 2) := by decide +kernel
theorem dL_isStrokeSo_200 : decode cL_isStrokeSo 200 = .ok (.invokevirtual 88, 3) := by decide +kernel
theorem dL_isStrokeSo_203 : decode cL_isStrokeSo 203 = .ok (.iconst 3, 1) := by decide +kernel
theorem dL_isStrokeSo_204 : decode cL_isStrokeSo 204 = .ok (.iload 8, 2) := by decide +kernel
theorem dL_isStrokeSo_206 : decode cL_isStrokeSo 206 = .ok (.imul, 1) := by decide +kernel
theorem dL_isStrokeSo_207 : decode cL_isStrokeSo 207 = .ok (.iload_n 3, 1) := by decide +kernel
theorem dL_isStrokeSo_208 : decode cL_isStrokeSo 208 = .ok (.iadd, 1) := by decide +kernel
theorem dL_isStrokeSo_209 : decode cL_isStrokeSo 209 = .ok (.iconst 4, 1) := by decide +kernel
theorem dL_isStrokeSo_210 : decode cL_isStrokeSo 210 = .ok (.idiv, 1) := by decide +kernel
theorem dL_isStrokeSo_211 : decode cL_isStrokeSo 211 = .ok (.if_icmp .ne 7, 3) := by decide +kernel
theorem dL_isStrokeSo_214 : decode cL_isStrokeSo 214 = .ok (.iconst 1, 1) := by decide +kernel
theorem dL_isStrokeSo_215 : decode cL_isStrokeSo 215 = .ok (.goto 4, 3) := by decide +kernel
theorem dL_isStrokeSo_218 : decode cL_isStrokeSo 218 = .ok (.iconst 0, 1) := by decide +kernel
theorem dL_isStrokeSo_219 : decode cL_isStrokeSo 219 = .ok (.istore 13, 2) := by decide +kernel
theorem dL_isStrokeSo_221 : decode cL_isStrokeSo 221 = .ok (.iload 13, 2) := by decide +kernel
theorem dL_isStrokeSo_223 : decode cL_isStrokeSo 223 = .ok (.ifCond .eq 114, 3) := by decide +kernel
theorem dL_isStrokeSo_226 : decode cL_isStrokeSo 226 = .ok (.aload_n 0, 1) := by decide +kernel
theorem dL_isStrokeSo_227 : decode cL_isStrokeSo 227 = .ok (.iload 5, 2) := by decide +kernel
theorem dL_isStrokeSo_229 : decode cL_isStrokeSo 229 = .ok (.invokevirtual 91, 3) := by decide +kernel
theorem dL_isStrokeSo_232 : decode cL_isStrokeSo 232 = .ok (.bipush 7, 2) := by decide +kernel
theorem dL_isStrokeSo_234 : decode cL_isStrokeSo 234 = .ok (.iload 9, 2) := by decide +kernel
theorem dL_isStrokeSo_236 : decode cL_isStrokeSo 236 = .ok (.imul, 1) := by decide +kernel
theorem dL_isStrokeSo_237 : decode cL_isStrokeSo 237 = .ok (.iload 12, 2) := by decide +kernel
theorem dL_isStrokeSo_239 : decode cL_isStrokeSo 239 = .ok (.ifCond .ge 7, 3) := by decide +kernel
theorem dL_isStrokeSo_242 : decode cL_isStrokeSo 242 = .ok (.iconst 0, 1) := by decide +kernel
theorem dL_isStrokeSo_243 : decode cL_isStrokeSo 243 = .ok (.goto 6, 3) := by decide +kernel
theorem dL_isStrokeSo_246 : decode cL_isStrokeSo 246 = .ok (.sipush 10000, 3) := by decide +kernel
theorem dL_isStrokeSo_249 : decode cL_isStrokeSo 249 = .ok (.iadd, 1) := by decide +kernel
theorem dL_isStrokeSo_250 : decode cL_isStrokeSo 250 = .ok (.bipush 8, 2) := by decide +kernel
theorem dL_isStrokeSo_252 : decode cL_isStrokeSo 252 = .ok (.idiv, 1) := by decide +kernel
theorem dL_isStrokeSo_253 : decode cL_isStrokeSo 253 = .ok (.if_icmp .ne 84, 3) := by decide +kernel
theorem dL_isStrokeSo_256 : decode cL_isStrokeSo 256 = .ok (.aload_n 0, 1) := by decide +kernel
theorem dL_isStrokeSo_257 : decode cL_isStrokeSo 257 = .ok (.iconst 0, 1) := by decide +kernel
theorem dL_isStrokeSo_258 : decode cL_isStrokeSo 258 = .ok (.invokevirtual 110, 3) := by decide +kernel
theorem dL_isStrokeSo_261 : decode cL_isStrokeSo 261 = .ok (.aload_n 0, 1) := by decide +kernel
theorem dL_isStrokeSo_262 : decode cL_isStrokeSo 262 = .ok (.iconst 1, 1) := by decide +kernel
theorem dL_isStrokeSo_263 : decode cL_isStrokeSo 263 = .ok (.invokevirtual 110, 3) := by decide +kernel
theorem dL_isStrokeSo_266 : decode cL_isStrokeSo 266 = .ok (.iadd, 1) := by decide +kernel
theorem dL_isStrokeSo_267 : decode cL_isStrokeSo 267 = .ok (.aload_n 0, 1) := by decide +kernel
theorem dL_isStrokeSo_268 : decode cL_isStrokeSo 268 = .ok (.iconst 2, 1) := by decide +kernel
theorem dL_isStrokeSo_269 : decode cL_isStrokeSo 269 = .ok (.invokevirtual 110, 3) := by decide +kernel
theorem dL_isStrokeSo_272 : decode cL_isStrokeSo 272 = .ok (.iadd, 1) := by decide +kernel
theorem dL_isStrokeSo_273 : decode cL_isStrokeSo 273 = .ok (.aload_n 0, 1) := by decide +kernel
theorem dL_isStrokeSo_274 : decode cL_isStrokeSo 274 = .ok (.iconst 3, 1) := by decide +kernel
theorem dL_isStrokeSo_275 : decode cL_isStrokeSo 275 = .ok (.invokevirtual 110, 3) := by decide +kernel
theorem dL_isStrokeSo_278 : decode cL_isStrokeSo 278 = .ok (.iadd, 1) := by decide +kernel
theorem dL_isStrokeSo_279 : decode cL_isStrokeSo 279 = .ok (.aload_n 0, 1) := by decide +kernel
theorem dL_isStrokeSo_280 : decode cL_isStrokeSo 280 = .ok (.iconst 4, 1) := by decide +kernel
theorem dL_isStrokeSo_281 : decode cL_isStrokeSo 281 = .ok (.invokevirtual 110, 3) := by decide +kernel
theorem dL_isStrokeSo_284 : decode cL_isStrokeSo 284 = .ok (.iadd, 1) := by decide +kernel
theorem dL_isStrokeSo_285 : decode cL_isStrokeSo 285 = .ok (.iload 6, 2) := by decide +kernel
theorem dL_isStrokeSo_287 : decode cL_isStrokeSo 287 = .ok (.iload 12, 2) := by decide +kernel
theorem dL_isStrokeSo_289 : decode cL_isStrokeSo 289 = .ok (.ifCond .ge 7, 3) := by decide +kernel
theorem dL_isStrokeSo_292 : decode cL_isStrokeSo 292 = .ok (.iconst 0, 1) := by decide +kernel
theorem dL_isStrokeSo_293 : decode cL_isStrokeSo 293 = .ok (.goto 4, 3) := by decide +kernel
theorem dL_isStrokeSo_296 : decode cL_isStrokeSo 296 = .ok (.iconst 1, 1) := by decide +kernel
theorem dL_isStrokeSo_297 : decode cL_isStrokeSo 297 = .ok (.iadd, 1) := by decide +kernel
theorem dL_isStrokeSo_298 : decode cL_isStrokeSo 298 = .ok (.if_icmp .ne 39, 3) := by decide +kernel
theorem dL_isStrokeSo_301 : decode cL_isStrokeSo 301 = .ok (.iload 12, 2) := by decide +kernel
theorem dL_isStrokeSo_303 : decode cL_isStrokeSo 303 = .ok (.iconst 2, 1) := by decide +kernel
theorem dL_isStrokeSo_304 : decode cL_isStrokeSo 304 = .ok (.if_icmp .ne 13, 3) := by decide +kernel
theorem dL_isStrokeSo_307 : decode cL_isStrokeSo 307 = .ok (.aload_n 0, 1) := by decide +kernel
theorem dL_isStrokeSo_308 : decode cL_isStrokeSo 308 = .ok (.iload_n 2, 1) := by decide +kernel
theorem dL_isStrokeSo_309 : decode cL_isStrokeSo 309 = .ok (.iload 5, 2) := by decide +kernel
theorem dL_isStrokeSo_311 : decode cL_isStrokeSo 311 = .ok (.invokevirtual 113, 3) := by decide +kernel
theorem dL_isStrokeSo_314 : decode cL_isStrokeSo 314 = .ok (.ifCond .eq 23, 3) := by decide +kernel
theorem dL_isStrokeSo_317 : decode cL_isStrokeSo 317 = .ok (.iload 12, 2) := by decide +kernel
theorem dL_isStrokeSo_319 : decode cL_isStrokeSo 319 = .ok (.iconst 3, 1) := by decide +kernel
theorem dL_isStrokeSo_320 : decode cL_isStrokeSo 320 = .ok (.if_icmp .ne 13, 3) := by decide +kernel
theorem dL_isStrokeSo_323 : decode cL_isStrokeSo 323 = .ok (.aload_n 0, 1) := by decide +kernel
theorem dL_isStrokeSo_324 : decode cL_isStrokeSo 324 = .ok (.iload 5, 2) := by decide +kernel
theorem dL_isStrokeSo_326 : decode cL_isStrokeSo 326 = .ok (.invokevirtual 101, 3) := by decide +kernel
theorem dL_isStrokeSo_329 : decode cL_isStrokeSo 329 = .ok (.iload_n 2, 1) := by decide +kernel
theorem dL_isStrokeSo_330 : decode cL_isStrokeSo 330 = .ok (.if_icmp .ne 7, 3) := by decide +kernel
theorem dL_isStrokeSo_333 : decode cL_isStrokeSo 333 = .ok (.iconst 1, 1) := by decide +kernel
theorem dL_isStrokeSo_334 : decode cL_isStrokeSo 334 = .ok (.goto 4, 3) := by decide +kernel
theorem dL_isStrokeSo_337 : decode cL_isStrokeSo 337 = .ok (.iconst 0, 1) := by decide +kernel
theorem dL_isStrokeSo_338 : decode cL_isStrokeSo 338 = .ok (.istore 13, 2) := by decide +kernel
theorem dL_isStrokeSo_340 : decode cL_isStrokeSo 340 = .ok (.iload 13, 2) := by decide +kernel
theorem dL_isStrokeSo_342 : decode cL_isStrokeSo 342 = .ok (.ifCond .eq 62, 3) := by decide +kernel
theorem dL_isStrokeSo_345 : decode cL_isStrokeSo 345 = .ok (.aload_n 0, 1) := by decide +kernel
theorem dL_isStrokeSo_346 : decode cL_isStrokeSo 346 = .ok (.iload_n 3, 1) := by decide +kernel
theorem dL_isStrokeSo_347 : decode cL_isStrokeSo 347 = .ok (.invokevirtual 25, 3) := by decide +kernel
theorem dL_isStrokeSo_350 : decode cL_isStrokeSo 350 = .ok (.iload 4, 2) := by decide +kernel
theorem dL_isStrokeSo_352 : decode cL_isStrokeSo 352 = .ok (.if_icmp .ne 52, 3) := by decide +kernel
theorem dL_isStrokeSo_355 : decode cL_isStrokeSo 355 = .ok (.aload_n 1, 1) := by decide +kernel
theorem dL_isStrokeSo_356 : decode cL_isStrokeSo 356 = .ok (.iload_n 3, 1) := by decide +kernel
theorem dL_isStrokeSo_357 : decode cL_isStrokeSo 357 = .ok (.invokevirtual 25, 3) := by decide +kernel
theorem dL_isStrokeSo_360 : decode cL_isStrokeSo 360 = .ok (.iload 4, 2) := by decide +kernel
theorem dL_isStrokeSo_362 : decode cL_isStrokeSo 362 = .ok (.if_icmp .ne 42, 3) := by decide +kernel
theorem dL_isStrokeSo_365 : decode cL_isStrokeSo 365 = .ok (.aload_n 0, 1) := by decide +kernel
theorem dL_isStrokeSo_366 : decode cL_isStrokeSo 366 = .ok (.invokevirtual 73, 3) := by decide +kernel
theorem dL_isStrokeSo_369 : decode cL_isStrokeSo 369 = .ok (.iload 11, 2) := by decide +kernel
theorem dL_isStrokeSo_371 : decode cL_isStrokeSo 371 = .ok (.iconst 1, 1) := by decide +kernel
theorem dL_isStrokeSo_372 : decode cL_isStrokeSo 372 = .ok (.iadd, 1) := by decide +kernel
theorem dL_isStrokeSo_373 : decode cL_isStrokeSo 373 = .ok (.if_icmp .ne 31, 3) := by decide +kernel
theorem dL_isStrokeSo_376 : decode cL_isStrokeSo 376 = .ok (.aload_n 0, 1) := by decide +kernel
theorem dL_isStrokeSo_377 : decode cL_isStrokeSo 377 = .ok (.iload 5, 2) := by decide +kernel
theorem dL_isStrokeSo_379 : decode cL_isStrokeSo 379 = .ok (.invokevirtual 85, 3) := by decide +kernel
theorem dL_isStrokeSo_382 : decode cL_isStrokeSo 382 = .ok (.iload 7, 2) := by decide +kernel
theorem dL_isStrokeSo_384 : decode cL_isStrokeSo 384 = .ok (.iconst 1, 1) := by decide +kernel
theorem dL_isStrokeSo_385 : decode cL_isStrokeSo 385 = .ok (.iadd, 1) := by decide +kernel
theorem dL_isStrokeSo_386 : decode cL_isStrokeSo 386 = .ok (.if_icmp .ne 18, 3) := by decide +kernel
theorem dL_isStrokeSo_389 : decode cL_isStrokeSo 389 = .ok (.aload_n 0, 1) := by decide +kernel
theorem dL_isStrokeSo_390 : decode cL_isStrokeSo 390 = .ok (.invokevirtual 79, 3) := by decide +kernel
theorem dL_isStrokeSo_393 : decode cL_isStrokeSo 393 = .ok (.iload 10, 2) := by decide +kernel
theorem dL_isStrokeSo_395 : decode cL_isStrokeSo 395 = .ok (.iconst 1, 1) := by decide +kernel
theorem dL_isStrokeSo_396 : decode cL_isStrokeSo 396 = .ok (.iadd, 1) := by decide +kernel
theorem dL_isStrokeSo_397 : decode cL_isStrokeSo 397 = .ok (.if_icmp .ne 7, 3) := by decide +kernel
theorem dL_isStrokeSo_400 : decode cL_isStrokeSo 400 = .ok (.iconst 1, 1) := by decide +kernel
theorem dL_isStrokeSo_401 : decode cL_isStrokeSo 401 = .ok (.goto 4, 3) := by decide +kernel
theorem dL_isStrokeSo_404 : decode cL_isStrokeSo 404 = .ok (.iconst 0, 1) := by decide +kernel
theorem dL_isStrokeSo_405 : decode cL_isStrokeSo 405 = .ok (.ireturn, 1) := by decide +kernel
set_option maxRecDepth 20000 in
theorem ggL_law_X6_init : GoodIn wsL_law wsX6_init := goodIn_r _ [6, 7, 8, 9, 10, 11, 12, 13, 14, 15, 16, 17, 18, 19, 20, 21, 22, 23, 24, 25, 26, 27, 28, 29, 30, 31, 32, 33, 34, 35, 36, 37, 38, 39, 40, 41, 42, 43, 44, 45, 46, 47, 48, 49, 50, 51, 52, 53, 54, 55, 56, 57, 58, 59, 60, 61, 62, 63, 64, 65, 66, 67, 68, 69, 70, 71, 72, 73, 74, 75, 76, 77, 78, 79, 80, 81, 82, 83, 84, 85, 86, 87, 88, 89, 90, 91, 92, 93, 94, 95, 96, 97, 441, 442, 433, 434, 435, 436, 437, 438, 439, 440, 443, 444, 445, 446, 447, 448, 449, 450, 451, 452, 453, 454, 455, 456, 457, 458, 459] (by decide +kernel) (by decide +kernel)
set_option maxRecDepth 20000 in
theorem gL_law_X6_init : GoodIn wsL_law (wsX6_init) := ggL_law_X6_init
set_option maxRecDepth 20000 in
theorem ggL_law_L_cell : GoodIn wsL_law wsL_cell := goodIn_r _ [101] (by decide +kernel) (by decide +kernel)
set_option maxRecDepth 20000 in
theorem gL_law_L_cell : GoodIn wsL_law (va_wsS RL 126 yL_cell wsL_cell) := goodIn_app (goodIn_of _ (by decide +kernel)) ggL_law_L_cell
set_option maxRecDepth 20000 in
theorem ggL_law_L_act : GoodIn wsL_law wsL_act := goodIn_ca (goodIn_ca (goodIn_ca (goodIn_r _ [104, 105, 106, 100, 107, 108, 109, 110, 111, 112, 113, 114, 3, 115, 116, 117, 2, 118, 119, 120, 13, 121, 122, 123, 124, 125, 126, 127, 128, 129, 12, 130, 42, 41, 131, 132, 133, 32, 134, 52, 57, 58, 59, 60, 135, 136, 137, 138, 139, 140, 25, 141, 142, 143, 24, 144, 85, 145, 146, 147, 148, 83, 149, 150, 151, 152, 153, 154, 155, 21, 156, 157, 158, 20, 159, 78, 160, 161, 162, 163, 77, 164, 165, 166, 16, 167, 67, 66, 168, 169, 170, 171, 172, 173, 174, 175, 176, 68, 177, 178, 179, 180, 181, 182, 183, 17, 33, 34, 35, 184, 185, 186, 187, 188, 189, 190, 191, 192, 193, 194, 195, 196, 197, 198, 199, 84, 86, 200, 201, 202, 203, 204, 205, 49, 206, 207, 208, 209, 210, 211, 212, 213, 214, 215, 216, 217, 218, 219, 220, 221, 222, 65, 223, 224, 225, 226, 227, 228, 229, 230, 231, 232, 233, 234, 235, 236, 237, 238, 239, 240, 241, 242, 243, 244, 245, 246, 88, 247, 248, 249, 250, 251, 252, 253, 254, 87, 255, 256, 257, 258, 29, 259, 260, 261, 28, 262, 95, 263, 264, 265, 266, 267, 268, 269, 270, 271, 272, 273, 274, 275, 276, 277, 278, 279, 280, 281, 282, 283, 284, 285, 286, 69, 70, 287, 288, 289, 290, 291, 292, 293, 294, 295, 296, 297, 298, 299, 300, 301, 302, 303, 94, 304, 305, 306, 307, 308, 309, 310, 311, 312, 313, 314, 315, 316, 317, 318, 319, 320, 321, 322, 323, 324, 325, 326, 327, 328, 329, 330, 331, 332, 333, 334, 335, 433, 434, 435, 436, 437, 438, 439, 440, 441, 442, 459, 451, 452, 453, 454, 455, 456, 449, 450, 443, 444, 445, 446, 447, 448, 457, 458] (by decide +kernel) (by decide +kernel)) (goodIn_sub (fun _ h => List.mem_append_left _ (List.mem_append_left _ (List.mem_append_right _ h))) (by decide +kernel))) (goodIn_sub (fun _ h => List.mem_append_left _ (List.mem_append_right _ h)) (by decide +kernel))) (goodIn_sub (fun _ h => List.mem_append_right _ h) (by decide +kernel))
set_option maxRecDepth 20000 in
theorem gL_law_L_act : GoodIn wsL_law (va_wsS RL 130 yL_act wsL_act) := goodIn_app (goodIn_of _ (by decide +kernel)) ggL_law_L_act
set_option maxRecDepth 20000 in
theorem ggL_law_L_areAlike : GoodIn wsL_law wsL_areAlike := goodIn_ca (goodIn_ca (goodIn_r _ [338, 320, 321, 322, 2, 323, 25, 316, 317, 318, 319, 339, 340, 341, 342, 291, 292, 293, 24, 294, 88, 295, 296, 297, 298, 299, 86, 84, 83, 191, 132, 133, 32, 134, 52, 343, 344, 345, 346, 347, 348, 349, 350, 29, 351, 352, 353, 354, 35, 355, 356, 357, 358, 359, 360, 361, 28, 362, 95, 94, 363, 364, 365, 366, 367, 17, 121, 122, 123, 119, 120, 124, 125, 126, 368, 369, 370, 371, 372, 373, 374, 375, 376, 377, 378, 379, 380, 21, 381, 161, 162, 20, 163, 77, 382, 383, 384, 385, 13, 239, 240, 241, 12, 242, 207, 208, 209, 210, 41, 131, 386, 387, 388, 389, 215, 216, 217, 218, 42, 211, 212, 213, 214, 390, 391, 392, 393, 394, 174, 175, 16, 176, 68, 177, 178, 179, 168, 395, 396, 397, 398, 154, 155, 34, 399, 400, 401, 402, 33, 433, 434, 435, 436, 437, 438, 439, 440, 451, 452, 453, 454, 455, 456, 459, 457, 458, 443, 444, 445, 446, 447, 448, 449, 450, 441, 442] (by decide +kernel) (by decide +kernel)) (goodIn_sub (fun _ h => List.mem_append_left _ (List.mem_append_left _ (List.mem_append_right _ h))) (by decide +kernel))) (goodIn_sub (fun _ h => List.mem_append_right _ h) (by decide +kernel))
set_option maxRecDepth 20000 in
theorem gL_law_L_areAlike : GoodIn wsL_law (va_wsS RL 133 yL_areAlike wsL_areAlike) := goodIn_app (goodIn_of _ (by decide +kernel)) ggL_law_L_areAlike
set_option maxRecDepth 20000 in
theorem ggL_law_L_areFiguresSo : GoodIn wsL_law wsL_areFiguresSo := goodIn_ca (goodIn_r _ [405, 406, 407, 408, 2, 409, 21, 156, 157, 158, 20, 159, 78, 160, 161, 162, 163, 77, 164, 165, 166, 16, 167, 67, 66, 168, 132, 133, 32, 134, 52, 377, 378, 379, 380, 121, 122, 123, 119, 120, 124, 125, 126, 381, 373, 374, 375, 376, 17, 368, 369, 370, 371, 372, 364, 365, 366, 367, 433, 434, 435, 436, 437, 438, 439, 440, 449, 450, 443, 444, 445, 446, 447, 448, 459] (by decide +kernel) (by decide +kernel)) (goodIn_sub (fun _ h => List.mem_append_left _ (List.mem_append_left _ (List.mem_append_right _ h))) (by decide +kernel))
set_option maxRecDepth 20000 in
theorem gL_law_L_areFiguresSo : GoodIn wsL_law (va_wsS RL 137 yL_areFiguresSo wsL_areFiguresSo) := goodIn_app (goodIn_of _ (by decide +kernel)) ggL_law_L_areFiguresSo
set_option maxRecDepth 20000 in
theorem ggL_law_L_isLessonSo : GoodIn wsL_law wsL_isLessonSo := goodIn_ca (goodIn_ca (goodIn_r _ [412, 3, 395, 396, 397, 2, 398, 154, 155, 34, 124, 125, 126, 368, 132, 133, 32, 134, 52, 399, 400, 401, 402, 33, 316, 317, 318, 319, 25, 320, 321, 322, 323, 413, 414, 100, 415, 112, 324, 325, 326, 327, 119, 120, 187, 188, 189, 24, 190, 85, 83, 191, 339, 340, 341, 342, 291, 292, 293, 294, 88, 295, 296, 297, 298, 299, 86, 84, 343, 344, 345, 346, 355, 356, 357, 358, 29, 359, 360, 361, 28, 362, 95, 94, 363, 347, 348, 349, 350, 416, 417, 418, 419, 420, 421, 422, 433, 434, 435, 436, 437, 438, 439, 440, 459, 451, 452, 453, 454, 455, 456, 457, 458] (by decide +kernel) (by decide +kernel)) (goodIn_sub (fun _ h => List.mem_append_right _ h) (by decide +kernel))) (goodIn_sub (fun _ h => List.mem_append_left _ (List.mem_append_left _ (List.mem_append_right _ h))) (by decide +kernel))
set_option maxRecDepth 20000 in
theorem gL_law_L_isLessonSo : GoodIn wsL_law (va_wsS RL 141 yL_isLessonSo wsL_isLessonSo) := goodIn_app (goodIn_of _ (by decide +kernel)) ggL_law_L_isLessonSo
set_option maxRecDepth 20000 in
theorem ggL_law_L_isBoardSo : GoodIn wsL_law wsL_isBoardSo := goodIn_ca (goodIn_r _ [425, 386, 387, 388, 2, 389, 13, 121, 122, 123, 119, 120, 124, 125, 126, 215, 216, 217, 12, 218, 42, 211, 212, 213, 214, 41, 131, 132, 133, 32, 134, 52, 207, 208, 209, 210, 382, 383, 384, 385, 239, 240, 241, 242, 426, 427, 428, 429, 200, 201, 202, 203, 204, 205, 49, 206, 433, 434, 435, 436, 437, 438, 439, 440, 441, 442, 459] (by decide +kernel) (by decide +kernel)) (goodIn_sub (fun _ h => List.mem_append_left _ (List.mem_append_left _ (List.mem_append_right _ h))) (by decide +kernel))
set_option maxRecDepth 20000 in
theorem gL_law_L_isBoardSo : GoodIn wsL_law (va_wsS RL 144 yL_isBoardSo wsL_isBoardSo) := goodIn_app (goodIn_of _ (by decide +kernel)) ggL_law_L_isBoardSo
set_option maxRecDepth 20000 in
theorem ggL_law_L_low : GoodIn wsL_law wsL_low := goodIn_r _ [107, 108] (by decide +kernel) (by decide +kernel)
set_option maxRecDepth 20000 in
theorem gL_law_L_low : GoodIn wsL_law (va_wsS RL 54 yL_low wsL_low) := goodIn_app (goodIn_of _ (by decide +kernel)) ggL_law_L_low
set_option maxRecDepth 20000 in
theorem ggL_law_L_isStrokeSo : GoodIn wsL_law wsL_isStrokeSo := goodIn_ca (goodIn_ca (goodIn_ca (goodIn_r _ [432, 3, 316, 317, 318, 2, 319, 25, 413, 414, 100, 415, 112, 324, 325, 326, 327, 119, 120, 124, 125, 126, 187, 188, 189, 24, 190, 85, 83, 191, 132, 133, 32, 134, 52, 399, 400, 401, 402, 154, 155, 33, 368, 109, 110, 111, 113, 114, 115, 116, 117, 118, 13, 121, 122, 123, 127, 128, 129, 12, 130, 42, 41, 131, 57, 58, 59, 60, 135, 136, 137, 138, 139, 140, 141, 142, 143, 144, 145, 146, 147, 148, 149, 150, 151, 152, 153, 21, 156, 157, 158, 20, 159, 78, 160, 161, 162, 163, 77, 164, 165, 166, 16, 167, 67, 66, 168, 169, 170, 171, 172, 173, 174, 175, 176, 68, 177, 178, 179, 180, 181, 182, 183, 17, 34, 35, 184, 185, 186, 192, 193, 194, 195, 196, 197, 198, 199, 84, 86, 200, 201, 202, 203, 204, 205, 49, 206, 207, 208, 209, 210, 211, 212, 213, 214, 215, 216, 217, 218, 219, 220, 221, 222, 65, 223, 224, 225, 226, 227, 228, 229, 230, 231, 232, 233, 234, 235, 236, 237, 238, 239, 240, 241, 242, 243, 244, 245, 246, 88, 247, 248, 249, 250, 251, 252, 253, 254, 87, 255, 256, 257, 258, 29, 259, 260, 261, 28, 262, 95, 263, 264, 265, 266, 267, 268, 269, 270, 271, 272, 273, 274, 275, 276, 277, 278, 279, 280, 281, 282, 283, 284, 285, 286, 69, 70, 287, 288, 289, 290, 291, 292, 293, 294, 295, 296, 297, 298, 299, 300, 301, 302, 303, 94, 304, 305, 306, 307, 308, 309, 310, 311, 312, 313, 314, 315, 364, 365, 366, 367, 369, 370, 371, 372, 373, 374, 375, 376, 351, 352, 353, 354, 343, 344, 345, 346, 426, 427, 428, 429, 386, 387, 388, 389, 433, 434, 435, 436, 437, 438, 439, 440, 451, 452, 453, 454, 455, 456, 459, 441, 442, 449, 450, 443, 444, 445, 446, 447, 448, 457, 458] (by decide +kernel) (by decide +kernel)) (goodIn_sub (fun _ h => List.mem_append_left _ (List.mem_append_left _ (List.mem_append_right _ h))) (by decide +kernel))) (goodIn_sub (fun _ h => List.mem_append_right _ h) (by decide +kernel))) (goodIn_sub (fun _ h => List.mem_append_left _ (List.mem_append_right _ h)) (by decide +kernel))
set_option maxRecDepth 20000 in
theorem gL_law_L_isStrokeSo : GoodIn wsL_law (va_wsS RL 147 yL_isStrokeSo wsL_isStrokeSo) := goodIn_app (goodIn_of _ (by decide +kernel)) ggL_law_L_isStrokeSo
theorem dL_law_0 : decode cL_law 0 = .ok (.new 9, 3) := by decide +kernel
theorem dL_law_3 : decode cL_law 3 = .ok (.dup, 1) := by decide +kernel
theorem dL_law_4 : decode cL_law 4 = .ok (.invokespecial 125, 3) := by decide +kernel
theorem dL_law_7 : decode cL_law 7 = .ok (.astore_n 1, 1) := by decide +kernel
theorem dL_law_8 : decode cL_law 8 = .ok (.new 9, 3) := by decide +kernel
theorem dL_law_11 : decode cL_law 11 = .ok (.dup, 1) := by decide +kernel
theorem dL_law_12 : decode cL_law 12 = .ok (.invokespecial 125, 3) := by decide +kernel
theorem dL_law_15 : decode cL_law 15 = .ok (.astore_n 2, 1) := by decide +kernel
theorem dL_law_16 : decode cL_law 16 = .ok (.iconst 0, 1) := by decide +kernel
theorem dL_law_17 : decode cL_law 17 = .ok (.istore_n 3, 1) := by decide +kernel
theorem dL_law_18 : decode cL_law 18 = .ok (.iload_n 3, 1) := by decide +kernel
theorem dL_law_19 : decode cL_law 19 = .ok (.bipush 120, 2) := by decide +kernel
theorem dL_law_21 : decode cL_law 21 = .ok (.if_icmp .ge 157, 3) := by decide +kernel
theorem dL_law_24 : decode cL_law 24 = .ok (.aload_n 0, 1) := by decide +kernel
theorem dL_law_25 : decode cL_law 25 = .ok (.iload_n 3, 1) := by decide +kernel
theorem dL_law_26 : decode cL_law 26 = .ok (.bipush 61, 2) := by decide +kernel
theorem dL_law_28 : decode cL_law 28 = .ok (.irem, 1) := by decide +kernel
theorem dL_law_29 : decode cL_law 29 = .ok (.invokestatic 126, 3) := by decide +kernel
theorem dL_law_32 : decode cL_law 32 = .ok (.sipush 1097, 3) := by decide +kernel
theorem dL_law_35 : decode cL_law 35 = .ok (.iload_n 3, 1) := by decide +kernel
theorem dL_law_36 : decode cL_law 36 = .ok (.bipush 61, 2) := by decide +kernel
theorem dL_law_38 : decode cL_law 38 = .ok (.idiv, 1) := by decide +kernel
theorem dL_law_39 : decode cL_law 39 = .ok (.imul, 1) := by decide +kernel
theorem dL_law_40 : decode cL_law 40 = .ok (.iadd, 1) := by decide +kernel
theorem dL_law_41 : decode cL_law 41 = .ok (.istore 4, 2) := by decide +kernel
theorem dL_law_43 : decode cL_law 43 = .ok (.aload_n 1, 1) := by decide +kernel
theorem dL_law_44 : decode cL_law 44 = .ok (.iload 4, 2) := by decide +kernel
theorem dL_law_46 : decode cL_law 46 = .ok (.invokestatic 130, 3) := by decide +kernel
theorem dL_law_49 : decode cL_law 49 = .ok (.istore 5, 2) := by decide +kernel
theorem dL_law_51 : decode cL_law 51 = .ok (.iload 5, 2) := by decide +kernel
theorem dL_law_53 : decode cL_law 53 = .ok (.ldc 40, 2) := by decide +kernel
theorem dL_law_55 : decode cL_law 55 = .ok (.if_icmp .eq 14, 3) := by decide +kernel
theorem dL_law_58 : decode cL_law 58 = .ok (.aload_n 2, 1) := by decide +kernel
theorem dL_law_59 : decode cL_law 59 = .ok (.iload 4, 2) := by decide +kernel
theorem dL_law_61 : decode cL_law 61 = .ok (.invokestatic 130, 3) := by decide +kernel
theorem dL_law_64 : decode cL_law 64 = .ok (.iload 5, 2) := by decide +kernel
theorem dL_law_66 : decode cL_law 66 = .ok (.if_icmp .ne 63, 3) := by decide +kernel
theorem dL_law_69 : decode cL_law 69 = .ok (.iload_n 3, 1) := by decide +kernel
theorem dL_law_70 : decode cL_law 70 = .ok (.bipush 6, 2) := by decide +kernel
theorem dL_law_72 : decode cL_law 72 = .ok (.irem, 1) := by decide +kernel
theorem dL_law_73 : decode cL_law 73 = .ok (.iconst 3, 1) := by decide +kernel
theorem dL_law_74 : decode cL_law 74 = .ok (.if_icmp .ne 11, 3) := by decide +kernel
theorem dL_law_77 : decode cL_law 77 = .ok (.aload_n 1, 1) := by decide +kernel
theorem dL_law_78 : decode cL_law 78 = .ok (.aload_n 2, 1) := by decide +kernel
theorem dL_law_79 : decode cL_law 79 = .ok (.invokestatic 133, 3) := by decide +kernel
theorem dL_law_82 : decode cL_law 82 = .ok (.ifCond .eq 47, 3) := by decide +kernel
theorem dL_law_85 : decode cL_law 85 = .ok (.iload_n 3, 1) := by decide +kernel
theorem dL_law_86 : decode cL_law 86 = .ok (.iconst 5, 1) := by decide +kernel
theorem dL_law_87 : decode cL_law 87 = .ok (.irem, 1) := by decide +kernel
theorem dL_law_88 : decode cL_law 88 = .ok (.iconst 2, 1) := by decide +kernel
theorem dL_law_89 : decode cL_law 89 = .ok (.if_icmp .ne 10, 3) := by decide +kernel
theorem dL_law_92 : decode cL_law 92 = .ok (.aload_n 1, 1) := by decide +kernel
theorem dL_law_93 : decode cL_law 93 = .ok (.invokestatic 137, 3) := by decide +kernel
theorem dL_law_96 : decode cL_law 96 = .ok (.ifCond .eq 33, 3) := by decide +kernel
theorem dL_law_99 : decode cL_law 99 = .ok (.iload_n 3, 1) := by decide +kernel
theorem dL_law_100 : decode cL_law 100 = .ok (.iconst 4, 1) := by decide +kernel
theorem dL_law_101 : decode cL_law 101 = .ok (.irem, 1) := by decide +kernel
theorem dL_law_102 : decode cL_law 102 = .ok (.iconst 1, 1) := by decide +kernel
theorem dL_law_103 : decode cL_law 103 = .ok (.if_icmp .ne 10, 3) := by decide +kernel
theorem dL_law_106 : decode cL_law 106 = .ok (.aload_n 1, 1) := by decide +kernel
theorem dL_law_107 : decode cL_law 107 = .ok (.invokestatic 141, 3) := by decide +kernel
theorem dL_law_110 : decode cL_law 110 = .ok (.ifCond .eq 19, 3) := by decide +kernel
theorem dL_law_113 : decode cL_law 113 = .ok (.iload_n 3, 1) := by decide +kernel
theorem dL_law_114 : decode cL_law 114 = .ok (.bipush 30, 2) := by decide +kernel
theorem dL_law_116 : decode cL_law 116 = .ok (.irem, 1) := by decide +kernel
theorem dL_law_117 : decode cL_law 117 = .ok (.bipush 20, 2) := by decide +kernel
theorem dL_law_119 : decode cL_law 119 = .ok (.if_icmp .ne 12, 3) := by decide +kernel
theorem dL_law_122 : decode cL_law 122 = .ok (.aload_n 1, 1) := by decide +kernel
theorem dL_law_123 : decode cL_law 123 = .ok (.invokestatic 144, 3) := by decide +kernel
theorem dL_law_126 : decode cL_law 126 = .ok (.ifCond .ne 5, 3) := by decide +kernel
theorem dL_law_129 : decode cL_law 129 = .ok (.iconst 0, 1) := by decide +kernel
theorem dL_law_130 : decode cL_law 130 = .ok (.ireturn, 1) := by decide +kernel
theorem dL_law_131 : decode cL_law 131 = .ok (.iload_n 3, 1) := by decide +kernel
theorem dL_law_132 : decode cL_law 132 = .ok (.bipush 7, 2) := by decide +kernel
theorem dL_law_134 : decode cL_law 134 = .ok (.irem, 1) := by decide +kernel
theorem dL_law_135 : decode cL_law 135 = .ok (.iconst 5, 1) := by decide +kernel
theorem dL_law_136 : decode cL_law 136 = .ok (.if_icmp .ne 36, 3) := by decide +kernel
theorem dL_law_139 : decode cL_law 139 = .ok (.aload_n 1, 1) := by decide +kernel
theorem dL_law_140 : decode cL_law 140 = .ok (.aload_n 2, 1) := by decide +kernel
theorem dL_law_141 : decode cL_law 141 = .ok (.iload 4, 2) := by decide +kernel
theorem dL_law_143 : decode cL_law 143 = .ok (.bipush 6, 2) := by decide +kernel
theorem dL_law_145 : decode cL_law 145 = .ok (.ishr, 1) := by decide +kernel
theorem dL_law_146 : decode cL_law 146 = .ok (.bipush 26, 2) := by decide +kernel
theorem dL_law_148 : decode cL_law 148 = .ok (.invokestatic 54, 3) := by decide +kernel
theorem dL_law_151 : decode cL_law 151 = .ok (.iconst 1, 1) := by decide +kernel
theorem dL_law_152 : decode cL_law 152 = .ok (.iload 4, 2) := by decide +kernel
theorem dL_law_154 : decode cL_law 154 = .ok (.bipush 8, 2) := by decide +kernel
theorem dL_law_156 : decode cL_law 156 = .ok (.ishr, 1) := by decide +kernel
theorem dL_law_157 : decode cL_law 157 = .ok (.sipush 5000, 3) := by decide +kernel
theorem dL_law_160 : decode cL_law 160 = .ok (.invokestatic 54, 3) := by decide +kernel
theorem dL_law_163 : decode cL_law 163 = .ok (.iadd, 1) := by decide +kernel
theorem dL_law_164 : decode cL_law 164 = .ok (.invokestatic 147, 3) := by decide +kernel
theorem dL_law_167 : decode cL_law 167 = .ok (.ifCond .ne 5, 3) := by decide +kernel
theorem dL_law_170 : decode cL_law 170 = .ok (.iconst 0, 1) := by decide +kernel
theorem dL_law_171 : decode cL_law 171 = .ok (.ireturn, 1) := by decide +kernel
theorem dL_law_172 : decode cL_law 172 = .ok (.iinc 3 1, 3) := by decide +kernel
theorem dL_law_175 : decode cL_law 175 = .ok (.goto (-157), 3) := by decide +kernel
theorem dL_law_178 : decode cL_law 178 = .ok (.aload_n 1, 1) := by decide +kernel
theorem dL_law_179 : decode cL_law 179 = .ok (.aload_n 2, 1) := by decide +kernel
theorem dL_law_180 : decode cL_law 180 = .ok (.invokestatic 133, 3) := by decide +kernel
theorem dL_law_183 : decode cL_law 183 = .ok (.ifCond .eq 28, 3) := by decide +kernel
theorem dL_law_186 : decode cL_law 186 = .ok (.aload_n 1, 1) := by decide +kernel
theorem dL_law_187 : decode cL_law 187 = .ok (.invokestatic 144, 3) := by decide +kernel
theorem dL_law_190 : decode cL_law 190 = .ok (.ifCond .eq 21, 3) := by decide +kernel
theorem dL_law_193 : decode cL_law 193 = .ok (.aload_n 1, 1) := by decide +kernel
theorem dL_law_194 : decode cL_law 194 = .ok (.invokestatic 137, 3) := by decide +kernel
theorem dL_law_197 : decode cL_law 197 = .ok (.ifCond .eq 14, 3) := by decide +kernel
theorem dL_law_200 : decode cL_law 200 = .ok (.aload_n 1, 1) := by decide +kernel
theorem dL_law_201 : decode cL_law 201 = .ok (.invokestatic 141, 3) := by decide +kernel
theorem dL_law_204 : decode cL_law 204 = .ok (.ifCond .eq 7, 3) := by decide +kernel
theorem dL_law_207 : decode cL_law 207 = .ok (.iconst 1, 1) := by decide +kernel
theorem dL_law_208 : decode cL_law 208 = .ok (.goto 4, 3) := by decide +kernel
theorem dL_law_211 : decode cL_law 211 = .ok (.iconst 0, 1) := by decide +kernel
theorem dL_law_212 : decode cL_law 212 = .ok (.ireturn, 1) := by decide +kernel
