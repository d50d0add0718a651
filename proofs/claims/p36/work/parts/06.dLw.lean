theorem dL_cell_0 : decode cL_cell 0 = .ok (.iload_n 1, 1) := by decide +kernel
theorem dL_cell_1 : decode cL_cell 1 = .ok (.aload_n 0, 1) := by decide +kernel
theorem dL_cell_2 : decode cL_cell 2 = .ok (.arraylength, 1) := by decide +kernel
theorem dL_cell_3 : decode cL_cell 3 = .ok (.if_icmp .ge 9, 3) := by decide +kernel
theorem dL_cell_6 : decode cL_cell 6 = .ok (.aload_n 0, 1) := by decide +kernel
theorem dL_cell_7 : decode cL_cell 7 = .ok (.iload_n 1, 1) := by decide +kernel
theorem dL_cell_8 : decode cL_cell 8 = .ok (.iaload, 1) := by decide +kernel
theorem dL_cell_9 : decode cL_cell 9 = .ok (.goto 18, 3) := by decide +kernel
theorem dL_cell_12 : decode cL_cell 12 = .ok (.sipush 7919, 3) := by decide +kernel
theorem dL_cell_15 : decode cL_cell 15 = .ok (.iload_n 1, 1) := by decide +kernel
theorem dL_cell_16 : decode cL_cell 16 = .ok (.sipush 197, 3) := by decide +kernel
theorem dL_cell_19 : decode cL_cell 19 = .ok (.iadd, 1) := by decide +kernel
theorem dL_cell_20 : decode cL_cell 20 = .ok (.imul, 1) := by decide +kernel
theorem dL_cell_21 : decode cL_cell 21 = .ok (.iload_n 1, 1) := by decide +kernel
theorem dL_cell_22 : decode cL_cell 22 = .ok (.sipush 2399, 3) := by decide +kernel
theorem dL_cell_25 : decode cL_cell 25 = .ok (.iadd, 1) := by decide +kernel
theorem dL_cell_26 : decode cL_cell 26 = .ok (.imul, 1) := by decide +kernel
theorem dL_cell_27 : decode cL_cell 27 = .ok (.ireturn, 1) := by decide +kernel
theorem dL_low_0 : decode cL_low 0 = .ok (.iload_n 0, 1) := by decide +kernel
theorem dL_low_1 : decode cL_low 1 = .ok (.ldc 7, 2) := by decide +kernel
theorem dL_low_3 : decode cL_low 3 = .ok (.iand, 1) := by decide +kernel
theorem dL_low_4 : decode cL_low 4 = .ok (.iload_n 1, 1) := by decide +kernel
theorem dL_low_5 : decode cL_low 5 = .ok (.irem, 1) := by decide +kernel
theorem dL_low_6 : decode cL_low 6 = .ok (.ireturn, 1) := by decide +kernel
set_option maxRecDepth 20000 in
theorem ggL_append_X4_append : GoodIn wsL_append wsX4_append := goodIn_ca (goodIn_ca (goodIn_ca (goodIn_r _ [9, 10, 11, 12, 13, 14, 15, 16, 17, 8, 18, 19, 20, 21, 22, 23, 24, 25, 26, 27, 28, 29, 30, 31, 32, 33, 34, 35, 36, 37, 38, 39, 40, 41, 42, 43, 44, 45, 46] (by decide +kernel) (by decide +kernel)) (goodIn_sub (fun _ h => List.mem_cons_of_mem _ (List.mem_append_left _ (List.mem_append_left _ (List.mem_append_right _ h)))) (by decide +kernel))) (goodIn_sub (fun _ h => List.mem_cons_of_mem _ (List.mem_append_left _ (List.mem_append_right _ h))) (by decide +kernel))) (goodIn_sub (fun _ h => List.mem_cons_of_mem _ (List.mem_append_right _ h)) (by decide +kernel))
set_option maxRecDepth 20000 in
theorem gL_append_X4_append : GoodIn wsL_append (wsV RL 8 RX4 yX4_append wsX4_append) := goodIn_app (goodIn_of _ (by decide +kernel)) ggL_append_X4_append
theorem dL_append_0 : decode cL_append 0 = .ok (.aload_n 0, 1) := by decide +kernel
theorem dL_append_1 : decode cL_append 1 = .ok (.iload_n 1, 1) := by decide +kernel
theorem dL_append_2 : decode cL_append 2 = .ok (.iload_n 2, 1) := by decide +kernel
theorem dL_append_3 : decode cL_append 3 = .ok (.iload_n 3, 1) := by decide +kernel
theorem dL_append_4 : decode cL_append 4 = .ok (.invokevirtual 8, 3) := by decide +kernel
theorem dL_append_7 : decode cL_append 7 = .ok (.ireturn, 1) := by decide +kernel
theorem dL_append_8 : decode cL_append 8 = .ok (.astore 4, 2) := by decide +kernel
theorem dL_append_10 : decode cL_append 10 = .ok (.ldc 16, 2) := by decide +kernel
theorem dL_append_12 : decode cL_append 12 = .ok (.ireturn, 1) := by decide +kernel
theorem dL_append_13 : decode cL_append 13 = .ok (.astore 4, 2) := by decide +kernel
theorem dL_append_15 : decode cL_append 15 = .ok (.ldc 16, 2) := by decide +kernel
theorem dL_append_17 : decode cL_append 17 = .ok (.ireturn, 1) := by decide +kernel
theorem dL_append_18 : decode cL_append 18 = .ok (.astore 4, 2) := by decide +kernel
theorem dL_append_20 : decode cL_append 20 = .ok (.ldc 16, 2) := by decide +kernel
theorem dL_append_22 : decode cL_append 22 = .ok (.ireturn, 1) := by decide +kernel
set_option maxRecDepth 20000 in
theorem ggL_does_X4_read : GoodIn wsL_does wsX4_read := goodIn_ca (goodIn_ca (goodIn_r _ [8, 9, 10, 11, 12, 7, 13, 14, 15, 16, 17, 18, 19, 20, 21, 22, 23, 24, 25, 26, 27, 28, 29, 30, 31, 32, 33, 34, 35, 36, 37, 38, 39, 40, 41, 42, 43, 44, 45, 46, 47, 48, 49, 50, 51, 52, 53, 54, 55, 56, 57, 58, 59, 60, 61, 62, 63, 209, 210, 211, 212, 213, 214, 215, 216, 217, 218, 219, 220, 221, 222, 223, 224, 225, 226, 227, 228, 229, 230, 231] (by decide +kernel) (by decide +kernel)) (goodIn_sub (fun _ h => List.mem_cons_of_mem _ (List.mem_append_left _ (List.mem_append_right _ h))) (by decide +kernel))) (goodIn_sub (fun _ h => List.mem_cons_of_mem _ (List.mem_append_right _ h)) (by decide +kernel))
set_option maxRecDepth 20000 in
theorem gL_does_X4_read : GoodIn wsL_does (wsV RL 21 RX4 yX4_read wsX4_read) := goodIn_app (goodIn_of _ (by decide +kernel)) ggL_does_X4_read
set_option maxRecDepth 20000 in
theorem ggL_does_X4_sendBarrier : GoodIn wsL_does wsX4_sendBarrier := goodIn_ca (goodIn_ca (goodIn_r _ [67, 9, 10, 68, 20, 69, 38, 24, 11, 12, 7, 13, 14, 15, 70, 71, 72, 73, 42, 43, 44, 45, 46, 47, 48, 49, 50, 51, 52, 53, 54, 59, 60, 61, 62, 63, 74, 75, 76, 77, 78, 79, 80, 81, 209, 210, 211, 212, 213, 214, 215, 216, 217, 218, 219, 220, 221, 222, 223, 224, 225, 226, 229, 230, 231] (by decide +kernel) (by decide +kernel)) (goodIn_sub (fun _ h => List.mem_cons_of_mem _ (List.mem_append_left _ (List.mem_append_right _ h))) (by decide +kernel))) (goodIn_sub (fun _ h => List.mem_cons_of_mem _ (List.mem_append_right _ h)) (by decide +kernel))
set_option maxRecDepth 20000 in
theorem gL_does_X4_sendBarrier : GoodIn wsL_does (wsV RL 25 RX4 yX4_sendBarrier wsX4_sendBarrier) := goodIn_app (goodIn_of _ (by decide +kernel)) ggL_does_X4_sendBarrier
set_option maxRecDepth 20000 in
theorem ggL_does_X4_take : GoodIn wsL_does wsX4_take := goodIn_ca (goodIn_ca (goodIn_r _ [85, 9, 10, 24, 86, 87, 88, 7, 89, 14, 15, 38, 11, 12, 13, 90, 91, 92, 45, 93, 47, 48, 49, 50, 51, 52, 53, 54, 94, 95, 96, 97, 98, 99, 100, 101, 102, 68, 103, 104, 105, 106, 63, 31, 32, 33, 107, 108, 109, 110, 111, 112, 113, 114, 115, 116, 117, 118, 119, 120, 121, 122, 123, 124, 125, 126, 127, 128, 129, 130, 131, 132, 133, 134, 135, 136, 137, 138, 139, 140, 141, 142, 34, 35, 36, 37, 39, 40, 41, 143, 144, 145, 146, 147, 148, 149, 150, 151, 152, 153, 154, 155, 156, 157, 158, 159, 160, 161, 162, 163, 164, 165, 166, 167, 168, 20, 169, 170, 171, 172, 173, 174, 175, 176, 77, 177, 178, 80, 209, 210, 211, 212, 213, 214, 215, 216, 217, 218, 219, 220, 221, 222, 229, 230, 231, 232, 233, 223, 224, 225, 226] (by decide +kernel) (by decide +kernel)) (goodIn_sub (fun _ h => List.mem_cons_of_mem _ (List.mem_append_left _ (List.mem_append_right _ h))) (by decide +kernel))) (goodIn_sub (fun _ h => List.mem_cons_of_mem _ (List.mem_append_right _ h)) (by decide +kernel))
set_option maxRecDepth 20000 in
theorem gL_does_X4_take : GoodIn wsL_does (wsV RL 28 RX4 yX4_take wsX4_take) := goodIn_app (goodIn_of _ (by decide +kernel)) ggL_does_X4_take
set_option maxRecDepth 20000 in
theorem ggL_does_X4_commit : GoodIn wsL_does wsX4_commit := goodIn_ca (goodIn_ca (goodIn_r _ [182, 9, 10, 86, 87, 88, 7, 89, 14, 15, 38, 183, 184, 185, 186, 142, 169, 187, 188, 189, 190, 141, 191, 147, 148, 149, 150, 116, 151, 34, 35, 36, 37, 39, 40, 41, 117, 118, 119, 120, 121, 122, 123, 152, 153, 154, 155, 209, 210, 211, 212, 213, 214, 215, 216, 217, 218, 219, 220, 221, 222, 232, 233] (by decide +kernel) (by decide +kernel)) (goodIn_sub (fun _ h => List.mem_cons_of_mem _ (List.mem_append_left _ (List.mem_append_right _ h))) (by decide +kernel))) (goodIn_sub (fun _ h => List.mem_cons_of_mem _ (List.mem_append_right _ h)) (by decide +kernel))
set_option maxRecDepth 20000 in
theorem gL_does_X4_commit : GoodIn wsL_does (wsV RL 32 RX4 yX4_commit wsX4_commit) := goodIn_app (goodIn_of _ (by decide +kernel)) ggL_does_X4_commit
set_option maxRecDepth 20000 in
theorem ggL_does_X4_beginCheckpoint : GoodIn wsL_does wsX4_beginCheckpoint := goodIn_ca (goodIn_r _ [195, 9, 10, 68, 196, 20, 197, 198, 199, 7, 200, 38, 142, 201, 202, 203, 77, 204, 79, 209, 210, 211, 212, 213, 214, 215, 216, 217, 218, 219, 220, 221, 222, 223, 224, 225, 226] (by decide +kernel) (by decide +kernel)) (goodIn_sub (fun _ h => List.mem_cons_of_mem _ (List.mem_append_left _ (List.mem_append_right _ h))) (by decide +kernel))
set_option maxRecDepth 20000 in
theorem gL_does_X4_beginCheckpoint : GoodIn wsL_does (wsV RL 35 RX4 yX4_beginCheckpoint wsX4_beginCheckpoint) := goodIn_app (goodIn_of _ (by decide +kernel)) ggL_does_X4_beginCheckpoint
set_option maxRecDepth 20000 in
theorem ggL_does_X4_abandon : GoodIn wsL_does wsX4_abandon := goodIn_ca (goodIn_r _ [208, 9, 10, 68, 38, 24, 142, 141, 115, 156, 157, 158, 45, 159, 98, 52, 53, 54, 147, 148, 149, 7, 150, 116, 151, 34, 35, 36, 37, 39, 40, 41, 117, 118, 119, 120, 121, 122, 123, 152, 153, 154, 155, 209, 210, 211, 212, 213, 214, 215, 216, 217, 218, 219, 220, 221, 222, 229, 230, 231, 232, 233] (by decide +kernel) (by decide +kernel)) (goodIn_sub (fun _ h => List.mem_cons_of_mem _ (List.mem_append_left _ (List.mem_append_right _ h))) (by decide +kernel))
set_option maxRecDepth 20000 in
theorem gL_does_X4_abandon : GoodIn wsL_does (wsV RL 39 RX4 yX4_abandon wsX4_abandon) := goodIn_app (goodIn_of _ (by decide +kernel)) ggL_does_X4_abandon
theorem dL_does_0 : decode cL_does 0 = .ok (.iload_n 1, 1) := by decide +kernel
theorem dL_does_1 : decode cL_does 1 = .ok (.ifCond .ne 11, 3) := by decide +kernel
theorem dL_does_4 : decode cL_does 4 = .ok (.aload_n 0, 1) := by decide +kernel
theorem dL_does_5 : decode cL_does 5 = .ok (.iload_n 2, 1) := by decide +kernel
theorem dL_does_6 : decode cL_does 6 = .ok (.invokevirtual 21, 3) := by decide +kernel
theorem dL_does_9 : decode cL_does 9 = .ok (.goto 59, 3) := by decide +kernel
theorem dL_does_12 : decode cL_does 12 = .ok (.iload_n 1, 1) := by decide +kernel
theorem dL_does_13 : decode cL_does 13 = .ok (.iconst 1, 1) := by decide +kernel
theorem dL_does_14 : decode cL_does 14 = .ok (.if_icmp .ne 11, 3) := by decide +kernel
theorem dL_does_17 : decode cL_does 17 = .ok (.aload_n 0, 1) := by decide +kernel
theorem dL_does_18 : decode cL_does 18 = .ok (.iload_n 2, 1) := by decide +kernel
theorem dL_does_19 : decode cL_does 19 = .ok (.invokevirtual 25, 3) := by decide +kernel
theorem dL_does_22 : decode cL_does 22 = .ok (.goto 46, 3) := by decide +kernel
theorem dL_does_25 : decode cL_does 25 = .ok (.iload_n 1, 1) := by decide +kernel
theorem dL_does_26 : decode cL_does 26 = .ok (.iconst 2, 1) := by decide +kernel
theorem dL_does_27 : decode cL_does 27 = .ok (.if_icmp .ne 12, 3) := by decide +kernel
theorem dL_does_30 : decode cL_does 30 = .ok (.aload_n 0, 1) := by decide +kernel
theorem dL_does_31 : decode cL_does 31 = .ok (.iload_n 2, 1) := by decide +kernel
theorem dL_does_32 : decode cL_does 32 = .ok (.iload_n 3, 1) := by decide +kernel
theorem dL_does_33 : decode cL_does 33 = .ok (.invokevirtual 28, 3) := by decide +kernel
theorem dL_does_36 : decode cL_does 36 = .ok (.goto 32, 3) := by decide +kernel
theorem dL_does_39 : decode cL_does 39 = .ok (.iload_n 1, 1) := by decide +kernel
theorem dL_does_40 : decode cL_does 40 = .ok (.iconst 3, 1) := by decide +kernel
theorem dL_does_41 : decode cL_does 41 = .ok (.if_icmp .ne 11, 3) := by decide +kernel
theorem dL_does_44 : decode cL_does 44 = .ok (.aload_n 0, 1) := by decide +kernel
theorem dL_does_45 : decode cL_does 45 = .ok (.iload_n 2, 1) := by decide +kernel
theorem dL_does_46 : decode cL_does 46 = .ok (.invokevirtual 32, 3) := by decide +kernel
theorem dL_does_49 : decode cL_does 49 = .ok (.goto 19, 3) := by decide +kernel
theorem dL_does_52 : decode cL_does 52 = .ok (.iload_n 1, 1) := by decide +kernel
theorem dL_does_53 : decode cL_does 53 = .ok (.iconst 4, 1) := by decide +kernel
theorem dL_does_54 : decode cL_does 54 = .ok (.if_icmp .ne 10, 3) := by decide +kernel
theorem dL_does_57 : decode cL_does 57 = .ok (.aload_n 0, 1) := by decide +kernel
theorem dL_does_58 : decode cL_does 58 = .ok (.invokevirtual 35, 3) := by decide +kernel
theorem dL_does_61 : decode cL_does 61 = .ok (.goto 7, 3) := by decide +kernel
theorem dL_does_64 : decode cL_does 64 = .ok (.aload_n 0, 1) := by decide +kernel
theorem dL_does_65 : decode cL_does 65 = .ok (.invokevirtual 39, 3) := by decide +kernel
theorem dL_does_68 : decode cL_does 68 = .ok (.ireturn, 1) := by decide +kernel
theorem dL_does_69 : decode cL_does 69 = .ok (.astore 4, 2) := by decide +kernel
theorem dL_does_71 : decode cL_does 71 = .ok (.ldc 16, 2) := by decide +kernel
theorem dL_does_73 : decode cL_does 73 = .ok (.ireturn, 1) := by decide +kernel
theorem dL_does_74 : decode cL_does 74 = .ok (.astore 4, 2) := by decide +kernel
theorem dL_does_76 : decode cL_does 76 = .ok (.ldc 16, 2) := by decide +kernel
theorem dL_does_78 : decode cL_does 78 = .ok (.ireturn, 1) := by decide +kernel
set_option maxRecDepth 20000 in
theorem ggL_goes_X4_pump : GoodIn wsL_goes wsX4_pump := goodIn_ca (goodIn_r _ [7, 8, 9, 10, 11, 12, 6, 13, 14, 15, 16, 17, 18, 19, 20, 21, 22, 23, 24, 25, 26, 27, 28, 29, 30, 31, 32, 33, 34, 35, 36, 37, 38, 39, 40, 41, 42, 43, 44, 45, 46, 47, 48, 49, 50, 51, 52, 53, 54, 55, 56, 57, 58, 59, 60, 61, 62, 63, 64, 65, 66, 67, 68, 69, 70, 71, 72, 73, 74, 75, 76, 77, 78, 79, 80, 81, 82, 83, 84, 85, 86, 87, 88, 89, 90, 91, 92, 93, 94, 95, 96, 97, 98, 99, 100, 101, 102, 103, 104, 105, 106, 107, 108, 109, 110, 111, 112, 113, 114, 115, 116, 117, 118, 119, 120, 121, 122, 123, 124, 125, 126, 127, 128, 129, 130, 131, 132, 133, 134, 135, 136, 137, 138, 139, 140, 141, 142, 143, 144, 145, 146, 147, 148, 149, 150, 151, 152, 153, 154, 155, 156, 157, 189, 190, 191, 192, 193, 194, 195, 196, 197, 198, 199, 200, 201, 202, 203, 204, 205, 206, 207, 208, 209, 210, 211, 212, 213] (by decide +kernel) (by decide +kernel)) (goodIn_sub (fun _ h => List.mem_cons_of_mem _ (List.mem_append_right _ h)) (by decide +kernel))
set_option maxRecDepth 20000 in
theorem gL_goes_X4_pump : GoodIn wsL_goes (wsV RL 42 RX4 yX4_pump wsX4_pump) := goodIn_app (goodIn_of _ (by decide +kernel)) ggL_goes_X4_pump
set_option maxRecDepth 20000 in
theorem ggL_goes_X4_rescale : GoodIn wsL_goes wsX4_rescale := goodIn_ca (goodIn_r _ [161, 8, 9, 36, 37, 38, 6, 39, 162, 163, 164, 165, 119, 79, 92, 118, 22, 18, 91, 145, 166, 167, 168, 169, 146, 170, 171, 172, 173, 174, 124, 125, 126, 127, 93, 128, 32, 33, 34, 35, 94, 95, 96, 97, 98, 99, 100, 129, 130, 131, 132, 175, 176, 177, 178, 179, 180, 181, 182, 43, 183, 49, 74, 184, 185, 186, 154, 187, 188, 156, 147, 148, 149, 150, 189, 190, 191, 192, 193, 194, 195, 196, 197, 198, 199, 200, 201, 202, 212, 213, 209, 210, 211, 203, 204, 205, 206] (by decide +kernel) (by decide +kernel)) (goodIn_sub (fun _ h => List.mem_cons_of_mem _ (List.mem_append_right _ h)) (by decide +kernel))
set_option maxRecDepth 20000 in
theorem gL_goes_X4_rescale : GoodIn wsL_goes (wsV RL 45 RX4 yX4_rescale wsX4_rescale) := goodIn_app (goodIn_of _ (by decide +kernel)) ggL_goes_X4_rescale
theorem dL_goes_0 : decode cL_goes 0 = .ok (.iload_n 1, 1) := by decide +kernel
theorem dL_goes_1 : decode cL_goes 1 = .ok (.ifCond .ne 11, 3) := by decide +kernel
theorem dL_goes_4 : decode cL_goes 4 = .ok (.aload_n 0, 1) := by decide +kernel
theorem dL_goes_5 : decode cL_goes 5 = .ok (.iload_n 2, 1) := by decide +kernel
theorem dL_goes_6 : decode cL_goes 6 = .ok (.invokevirtual 42, 3) := by decide +kernel
theorem dL_goes_9 : decode cL_goes 9 = .ok (.goto 8, 3) := by decide +kernel
theorem dL_goes_12 : decode cL_goes 12 = .ok (.aload_n 0, 1) := by decide +kernel
theorem dL_goes_13 : decode cL_goes 13 = .ok (.iload_n 2, 1) := by decide +kernel
theorem dL_goes_14 : decode cL_goes 14 = .ok (.invokevirtual 45, 3) := by decide +kernel
theorem dL_goes_17 : decode cL_goes 17 = .ok (.ireturn, 1) := by decide +kernel
theorem dL_goes_18 : decode cL_goes 18 = .ok (.astore_n 3, 1) := by decide +kernel
theorem dL_goes_19 : decode cL_goes 19 = .ok (.ldc 16, 2) := by decide +kernel
theorem dL_goes_21 : decode cL_goes 21 = .ok (.ireturn, 1) := by decide +kernel
set_option maxRecDepth 20000 in
theorem ggL_act_L_low : GoodIn wsL_act wsL_low := goodIn_r _ [4, 5] (by decide +kernel) (by decide +kernel)
set_option maxRecDepth 20000 in
theorem gL_act_L_low : GoodIn wsL_act (va_wsS RL 48 yL_low wsL_low) := goodIn_app (goodIn_of _ (by decide +kernel)) ggL_act_L_low
set_option maxRecDepth 20000 in
theorem ggL_act_X4_workers : GoodIn wsL_act wsX4_workers := goodIn_r _ [10, 11, 279, 280, 281, 282, 283, 284, 285, 286, 287, 288, 289, 290, 291, 292] (by decide +kernel) (by decide +kernel)
set_option maxRecDepth 20000 in
theorem gL_act_X4_workers : GoodIn wsL_act (wsV RL 53 RX4 yX4_workers wsX4_workers) := goodIn_app (goodIn_of _ (by decide +kernel)) ggL_act_X4_workers
set_option maxRecDepth 20000 in
theorem ggL_act_L_append : GoodIn wsL_act wsL_append := goodIn_ca (goodIn_ca (goodIn_ca (goodIn_r _ [14, 15, 16, 17, 18, 19, 20, 21, 9, 22, 23, 24, 25, 26, 27, 28, 29, 30, 31, 32, 33, 34, 35, 36, 37, 38, 39, 40, 41, 42, 43, 279, 280, 281, 282, 283, 284, 285, 286, 287, 288, 289, 290, 291, 292, 293, 294] (by decide +kernel) (by decide +kernel)) (goodIn_sub (fun _ h => List.mem_cons_of_mem _ (List.mem_append_left _ (List.mem_append_left _ (List.mem_append_right _ h)))) (by decide +kernel))) (goodIn_sub (fun _ h => List.mem_cons_of_mem _ (List.mem_append_left _ (List.mem_append_right _ h))) (by decide +kernel))) (goodIn_sub (fun _ h => List.mem_cons_of_mem _ (List.mem_append_right _ h)) (by decide +kernel))
set_option maxRecDepth 20000 in
theorem gL_act_L_append : GoodIn wsL_act (va_wsS RL 56 yL_append wsL_append) := goodIn_app (goodIn_of _ (by decide +kernel)) ggL_act_L_append
set_option maxRecDepth 20000 in
theorem ggL_act_L_does : GoodIn wsL_act wsL_does := goodIn_ca (goodIn_ca (goodIn_r _ [46, 15, 17, 18, 47, 48, 49, 9, 50, 25, 26, 29, 30, 31, 32, 33, 51, 52, 53, 54, 55, 56, 27, 28, 57, 58, 59, 60, 40, 61, 43, 62, 63, 64, 65, 66, 67, 68, 11, 69, 70, 71, 72, 73, 74, 75, 76, 77, 78, 79, 80, 81, 82, 83, 84, 85, 86, 87, 88, 89, 90, 91, 92, 93, 94, 95, 96, 97, 98, 99, 100, 101, 102, 103, 104, 105, 106, 107, 108, 109, 110, 111, 112, 113, 114, 115, 116, 117, 118, 119, 120, 121, 122, 123, 124, 125, 126, 127, 128, 129, 130, 131, 132, 133, 134, 135, 136, 137, 138, 139, 140, 141, 142, 143, 144, 145, 146, 147, 148, 149, 150, 151, 152, 153, 154, 155, 156, 157, 158, 159, 160, 161, 162, 163, 164, 165, 166, 167, 168, 169, 170, 171, 172, 173, 174, 175, 176, 177, 178, 179, 180, 181, 182, 183, 184, 185, 186, 187, 188, 189, 190, 191, 192, 193, 194, 195, 196, 197, 198, 199, 200, 201, 202, 203, 204, 205, 206, 207, 208, 209, 210, 211, 212, 213, 214, 215, 216, 217, 218, 219, 220, 221, 222, 223, 224, 225, 226, 227, 228, 229, 230, 231, 232, 233, 234, 235, 236, 237, 238, 279, 280, 281, 282, 283, 284, 285, 286, 287, 288, 289, 290, 291, 292, 295, 296, 297, 298, 293, 294, 299, 300, 301, 302, 303] (by decide +kernel) (by decide +kernel)) (goodIn_sub (fun _ h => List.mem_cons_of_mem _ (List.mem_append_left _ (List.mem_append_right _ h))) (by decide +kernel))) (goodIn_sub (fun _ h => List.mem_cons_of_mem _ (List.mem_append_right _ h)) (by decide +kernel))
set_option maxRecDepth 20000 in
theorem gL_act_L_does : GoodIn wsL_act (va_wsS RL 59 yL_does wsL_does) := goodIn_app (goodIn_of _ (by decide +kernel)) ggL_act_L_does
set_option maxRecDepth 20000 in
theorem ggL_act_L_goes : GoodIn wsL_act wsL_goes := goodIn_ca (goodIn_r _ [241, 16, 18, 242, 243, 244, 9, 245, 23, 24, 246, 247, 248, 249, 51, 52, 53, 54, 55, 56, 27, 28, 57, 58, 59, 60, 40, 61, 43, 62, 63, 64, 65, 66, 67, 68, 11, 69, 70, 71, 72, 73, 74, 75, 76, 77, 78, 79, 80, 81, 82, 83, 84, 85, 86, 87, 88, 89, 90, 91, 92, 93, 250, 251, 252, 253, 120, 121, 122, 123, 124, 125, 126, 127, 128, 129, 130, 131, 132, 98, 133, 134, 135, 136, 137, 138, 139, 140, 141, 142, 143, 144, 145, 146, 147, 148, 149, 150, 151, 152, 153, 154, 155, 156, 157, 158, 159, 160, 161, 162, 163, 164, 165, 166, 167, 168, 169, 170, 171, 172, 173, 174, 175, 176, 177, 178, 179, 180, 181, 182, 183, 184, 185, 186, 187, 188, 189, 190, 191, 192, 193, 194, 195, 196, 197, 198, 199, 200, 201, 202, 203, 204, 205, 206, 107, 207, 208, 110, 254, 255, 256, 257, 258, 259, 260, 261, 213, 214, 215, 216, 217, 218, 219, 220, 221, 262, 263, 264, 265, 266, 267, 268, 269, 270, 271, 272, 273, 274, 111, 279, 280, 281, 282, 283, 284, 285, 286, 287, 288, 289, 290, 291, 292, 295, 296, 297, 298, 293, 294, 299, 300, 301, 302, 303] (by decide +kernel) (by decide +kernel)) (goodIn_sub (fun _ h => List.mem_cons_of_mem _ (List.mem_append_left _ (List.mem_append_left _ (List.mem_append_right _ h)))) (by decide +kernel))
set_option maxRecDepth 20000 in
theorem gL_act_L_goes : GoodIn wsL_act (va_wsS RL 62 yL_goes wsL_goes) := goodIn_app (goodIn_of _ (by decide +kernel)) ggL_act_L_goes
set_option maxRecDepth 20000 in
theorem ggL_act_X4_crash : GoodIn wsL_act wsX4_crash := goodIn_r _ [278, 11, 199, 258, 259, 260, 9, 261, 172, 98, 145, 171, 57, 55, 144, 198, 213, 214, 215, 216, 217, 218, 219, 220, 221, 177, 178, 179, 180, 146, 181, 65, 66, 67, 68, 69, 70, 71, 147, 148, 149, 150, 151, 152, 153, 182, 183, 184, 185, 262, 263, 264, 265, 266, 267, 268, 269, 75, 270, 81, 128, 271, 272, 273, 107, 274, 111, 208, 200, 201, 202, 203, 279, 280, 281, 282, 283, 284, 285, 286, 287, 288, 289, 290, 291, 292, 302, 303, 299, 300, 301, 295, 296, 297, 298] (by decide +kernel) (by decide +kernel)
set_option maxRecDepth 20000 in
theorem gL_act_X4_crash : GoodIn wsL_act (wsV RL 66 RX4 yX4_crash wsX4_crash) := goodIn_app (goodIn_of _ (by decide +kernel)) ggL_act_X4_crash
theorem dL_act_0 : decode cL_act 0 = .ok (.iload_n 1, 1) := by decide +kernel
theorem dL_act_1 : decode cL_act 1 = .ok (.bipush 24, 2) := by decide +kernel
theorem dL_act_3 : decode cL_act 3 = .ok (.ishr, 1) := by decide +kernel
theorem dL_act_4 : decode cL_act 4 = .ok (.bipush 8, 2) := by decide +kernel
theorem dL_act_6 : decode cL_act 6 = .ok (.invokestatic 48, 3) := by decide +kernel
theorem dL_act_9 : decode cL_act 9 = .ok (.ifCond .ne 7, 3) := by decide +kernel
theorem dL_act_12 : decode cL_act 12 = .ok (.iconst 1, 1) := by decide +kernel
theorem dL_act_13 : decode cL_act 13 = .ok (.goto 4, 3) := by decide +kernel
theorem dL_act_16 : decode cL_act 16 = .ok (.iconst 0, 1) := by decide +kernel
theorem dL_act_17 : decode cL_act 17 = .ok (.istore_n 2, 1) := by decide +kernel
theorem dL_act_18 : decode cL_act 18 = .ok (.iload_n 1, 1) := by decide +kernel
theorem dL_act_19 : decode cL_act 19 = .ok (.iconst 5, 1) := by decide +kernel
theorem dL_act_20 : decode cL_act 20 = .ok (.ishr, 1) := by decide +kernel
theorem dL_act_21 : decode cL_act 21 = .ok (.iload_n 2, 1) := by decide +kernel
theorem dL_act_22 : decode cL_act 22 = .ok (.ifCond .eq 8, 3) := by decide +kernel
theorem dL_act_25 : decode cL_act 25 = .ok (.bipush 6, 2) := by decide +kernel
theorem dL_act_27 : decode cL_act 27 = .ok (.goto 4, 3) := by decide +kernel
theorem dL_act_30 : decode cL_act 30 = .ok (.iconst 4, 1) := by decide +kernel
theorem dL_act_31 : decode cL_act 31 = .ok (.invokestatic 48, 3) := by decide +kernel
theorem dL_act_34 : decode cL_act 34 = .ok (.istore_n 3, 1) := by decide +kernel
theorem dL_act_35 : decode cL_act 35 = .ok (.iload_n 1, 1) := by decide +kernel
theorem dL_act_36 : decode cL_act 36 = .ok (.bipush 8, 2) := by decide +kernel
theorem dL_act_38 : decode cL_act 38 = .ok (.ishr, 1) := by decide +kernel
theorem dL_act_39 : decode cL_act 39 = .ok (.iload_n 2, 1) := by decide +kernel
theorem dL_act_40 : decode cL_act 40 = .ok (.ifCond .eq 8, 3) := by decide +kernel
theorem dL_act_43 : decode cL_act 43 = .ok (.bipush 6, 2) := by decide +kernel
theorem dL_act_45 : decode cL_act 45 = .ok (.goto 7, 3) := by decide +kernel
theorem dL_act_48 : decode cL_act 48 = .ok (.aload_n 0, 1) := by decide +kernel
theorem dL_act_49 : decode cL_act 49 = .ok (.invokevirtual 53, 3) := by decide +kernel
theorem dL_act_52 : decode cL_act 52 = .ok (.invokestatic 48, 3) := by decide +kernel
theorem dL_act_55 : decode cL_act 55 = .ok (.istore 4, 2) := by decide +kernel
theorem dL_act_57 : decode cL_act 57 = .ok (.iload_n 1, 1) := by decide +kernel
theorem dL_act_58 : decode cL_act 58 = .ok (.bipush 30, 2) := by decide +kernel
theorem dL_act_60 : decode cL_act 60 = .ok (.invokestatic 48, 3) := by decide +kernel
theorem dL_act_63 : decode cL_act 63 = .ok (.istore 5, 2) := by decide +kernel
theorem dL_act_65 : decode cL_act 65 = .ok (.iload 5, 2) := by decide +kernel
theorem dL_act_67 : decode cL_act 67 = .ok (.bipush 8, 2) := by decide +kernel
theorem dL_act_69 : decode cL_act 69 = .ok (.if_icmp .ge 54, 3) := by decide +kernel
theorem dL_act_72 : decode cL_act 72 = .ok (.aload_n 0, 1) := by decide +kernel
theorem dL_act_73 : decode cL_act 73 = .ok (.iload_n 3, 1) := by decide +kernel
theorem dL_act_74 : decode cL_act 74 = .ok (.iload_n 1, 1) := by decide +kernel
theorem dL_act_75 : decode cL_act 75 = .ok (.bipush 7, 2) := by decide +kernel
theorem dL_act_77 : decode cL_act 77 = .ok (.ishr, 1) := by decide +kernel
theorem dL_act_78 : decode cL_act 78 = .ok (.iload_n 2, 1) := by decide +kernel
theorem dL_act_79 : decode cL_act 79 = .ok (.ifCond .eq 8, 3) := by decide +kernel
theorem dL_act_82 : decode cL_act 82 = .ok (.bipush 40, 2) := by decide +kernel
theorem dL_act_84 : decode cL_act 84 = .ok (.goto 5, 3) := by decide +kernel
theorem dL_act_87 : decode cL_act 87 = .ok (.bipush 32, 2) := by decide +kernel
theorem dL_act_89 : decode cL_act 89 = .ok (.invokestatic 48, 3) := by decide +kernel
theorem dL_act_92 : decode cL_act 92 = .ok (.iload_n 2, 1) := by decide +kernel
theorem dL_act_93 : decode cL_act 93 = .ok (.ifCond .eq 15, 3) := by decide +kernel
theorem dL_act_96 : decode cL_act 96 = .ok (.iload_n 1, 1) := by decide +kernel
theorem dL_act_97 : decode cL_act 97 = .ok (.bipush 12, 2) := by decide +kernel
theorem dL_act_99 : decode cL_act 99 = .ok (.ishr, 1) := by decide +kernel
theorem dL_act_100 : decode cL_act 100 = .ok (.bipush 120, 2) := by decide +kernel
theorem dL_act_102 : decode cL_act 102 = .ok (.invokestatic 48, 3) := by decide +kernel
theorem dL_act_105 : decode cL_act 105 = .ok (.goto 14, 3) := by decide +kernel
theorem dL_act_108 : decode cL_act 108 = .ok (.iconst 1, 1) := by decide +kernel
theorem dL_act_109 : decode cL_act 109 = .ok (.iload_n 1, 1) := by decide +kernel
theorem dL_act_110 : decode cL_act 110 = .ok (.bipush 12, 2) := by decide +kernel
theorem dL_act_112 : decode cL_act 112 = .ok (.ishr, 1) := by decide +kernel
theorem dL_act_113 : decode cL_act 113 = .ok (.bipush 100, 2) := by decide +kernel
theorem dL_act_115 : decode cL_act 115 = .ok (.invokestatic 48, 3) := by decide +kernel
theorem dL_act_118 : decode cL_act 118 = .ok (.iadd, 1) := by decide +kernel
theorem dL_act_119 : decode cL_act 119 = .ok (.invokestatic 56, 3) := by decide +kernel
theorem dL_act_122 : decode cL_act 122 = .ok (.ireturn, 1) := by decide +kernel
theorem dL_act_123 : decode cL_act 123 = .ok (.iload 5, 2) := by decide +kernel
theorem dL_act_125 : decode cL_act 125 = .ok (.bipush 13, 2) := by decide +kernel
theorem dL_act_127 : decode cL_act 127 = .ok (.if_icmp .ge 11, 3) := by decide +kernel
theorem dL_act_130 : decode cL_act 130 = .ok (.aload_n 0, 1) := by decide +kernel
theorem dL_act_131 : decode cL_act 131 = .ok (.iconst 0, 1) := by decide +kernel
theorem dL_act_132 : decode cL_act 132 = .ok (.iload_n 3, 1) := by decide +kernel
theorem dL_act_133 : decode cL_act 133 = .ok (.iconst 0, 1) := by decide +kernel
theorem dL_act_134 : decode cL_act 134 = .ok (.invokestatic 59, 3) := by decide +kernel
theorem dL_act_137 : decode cL_act 137 = .ok (.ireturn, 1) := by decide +kernel
theorem dL_act_138 : decode cL_act 138 = .ok (.iload 5, 2) := by decide +kernel
theorem dL_act_140 : decode cL_act 140 = .ok (.bipush 17, 2) := by decide +kernel
theorem dL_act_142 : decode cL_act 142 = .ok (.if_icmp .ge 11, 3) := by decide +kernel
theorem dL_act_145 : decode cL_act 145 = .ok (.aload_n 0, 1) := by decide +kernel
theorem dL_act_146 : decode cL_act 146 = .ok (.iconst 1, 1) := by decide +kernel
theorem dL_act_147 : decode cL_act 147 = .ok (.iload_n 3, 1) := by decide +kernel
theorem dL_act_148 : decode cL_act 148 = .ok (.iconst 0, 1) := by decide +kernel
theorem dL_act_149 : decode cL_act 149 = .ok (.invokestatic 59, 3) := by decide +kernel
theorem dL_act_152 : decode cL_act 152 = .ok (.ireturn, 1) := by decide +kernel
theorem dL_act_153 : decode cL_act 153 = .ok (.iload 5, 2) := by decide +kernel
theorem dL_act_155 : decode cL_act 155 = .ok (.bipush 22, 2) := by decide +kernel
theorem dL_act_157 : decode cL_act 157 = .ok (.if_icmp .ge 12, 3) := by decide +kernel
theorem dL_act_160 : decode cL_act 160 = .ok (.aload_n 0, 1) := by decide +kernel
theorem dL_act_161 : decode cL_act 161 = .ok (.iconst 2, 1) := by decide +kernel
theorem dL_act_162 : decode cL_act 162 = .ok (.iload 4, 2) := by decide +kernel
theorem dL_act_164 : decode cL_act 164 = .ok (.iload_n 3, 1) := by decide +kernel
theorem dL_act_165 : decode cL_act 165 = .ok (.invokestatic 59, 3) := by decide +kernel
theorem dL_act_168 : decode cL_act 168 = .ok (.ireturn, 1) := by decide +kernel
theorem dL_act_169 : decode cL_act 169 = .ok (.iload 5, 2) := by decide +kernel
theorem dL_act_171 : decode cL_act 171 = .ok (.bipush 24, 2) := by decide +kernel
theorem dL_act_173 : decode cL_act 173 = .ok (.if_icmp .ge 12, 3) := by decide +kernel
theorem dL_act_176 : decode cL_act 176 = .ok (.aload_n 0, 1) := by decide +kernel
theorem dL_act_177 : decode cL_act 177 = .ok (.iconst 3, 1) := by decide +kernel
theorem dL_act_178 : decode cL_act 178 = .ok (.iload 4, 2) := by decide +kernel
theorem dL_act_180 : decode cL_act 180 = .ok (.iconst 0, 1) := by decide +kernel
theorem dL_act_181 : decode cL_act 181 = .ok (.invokestatic 59, 3) := by decide +kernel
theorem dL_act_184 : decode cL_act 184 = .ok (.ireturn, 1) := by decide +kernel
theorem dL_act_185 : decode cL_act 185 = .ok (.iload 5, 2) := by decide +kernel
theorem dL_act_187 : decode cL_act 187 = .ok (.bipush 26, 2) := by decide +kernel
theorem dL_act_189 : decode cL_act 189 = .ok (.if_icmp .ge 11, 3) := by decide +kernel
theorem dL_act_192 : decode cL_act 192 = .ok (.aload_n 0, 1) := by decide +kernel
theorem dL_act_193 : decode cL_act 193 = .ok (.iconst 4, 1) := by decide +kernel
theorem dL_act_194 : decode cL_act 194 = .ok (.iconst 0, 1) := by decide +kernel
theorem dL_act_195 : decode cL_act 195 = .ok (.iconst 0, 1) := by decide +kernel
theorem dL_act_196 : decode cL_act 196 = .ok (.invokestatic 59, 3) := by decide +kernel
theorem dL_act_199 : decode cL_act 199 = .ok (.ireturn, 1) := by decide +kernel
theorem dL_act_200 : decode cL_act 200 = .ok (.iload 5, 2) := by decide +kernel
theorem dL_act_202 : decode cL_act 202 = .ok (.bipush 28, 2) := by decide +kernel
theorem dL_act_204 : decode cL_act 204 = .ok (.if_icmp .ge 35, 3) := by decide +kernel
theorem dL_act_207 : decode cL_act 207 = .ok (.aload_n 0, 1) := by decide +kernel
theorem dL_act_208 : decode cL_act 208 = .ok (.iconst 0, 1) := by decide +kernel
theorem dL_act_209 : decode cL_act 209 = .ok (.iload_n 2, 1) := by decide +kernel
theorem dL_act_210 : decode cL_act 210 = .ok (.ifCond .eq 15, 3) := by decide +kernel
theorem dL_act_213 : decode cL_act 213 = .ok (.iload_n 1, 1) := by decide +kernel
theorem dL_act_214 : decode cL_act 214 = .ok (.bipush 6, 2) := by decide +kernel
theorem dL_act_216 : decode cL_act 216 = .ok (.ishr, 1) := by decide +kernel
theorem dL_act_217 : decode cL_act 217 = .ok (.bipush 30, 2) := by decide +kernel
theorem dL_act_219 : decode cL_act 219 = .ok (.invokestatic 48, 3) := by decide +kernel
theorem dL_act_222 : decode cL_act 222 = .ok (.goto 13, 3) := by decide +kernel
theorem dL_act_225 : decode cL_act 225 = .ok (.iconst 1, 1) := by decide +kernel
theorem dL_act_226 : decode cL_act 226 = .ok (.iload_n 1, 1) := by decide +kernel
theorem dL_act_227 : decode cL_act 227 = .ok (.bipush 6, 2) := by decide +kernel
theorem dL_act_229 : decode cL_act 229 = .ok (.ishr, 1) := by decide +kernel
theorem dL_act_230 : decode cL_act 230 = .ok (.iconst 4, 1) := by decide +kernel
theorem dL_act_231 : decode cL_act 231 = .ok (.invokestatic 48, 3) := by decide +kernel
theorem dL_act_234 : decode cL_act 234 = .ok (.iadd, 1) := by decide +kernel
theorem dL_act_235 : decode cL_act 235 = .ok (.invokestatic 62, 3) := by decide +kernel
theorem dL_act_238 : decode cL_act 238 = .ok (.ireturn, 1) := by decide +kernel
theorem dL_act_239 : decode cL_act 239 = .ok (.iload 5, 2) := by decide +kernel
theorem dL_act_241 : decode cL_act 241 = .ok (.bipush 28, 2) := by decide +kernel
theorem dL_act_243 : decode cL_act 243 = .ok (.if_icmp .ne 31, 3) := by decide +kernel
theorem dL_act_246 : decode cL_act 246 = .ok (.iload_n 1, 1) := by decide +kernel
theorem dL_act_247 : decode cL_act 247 = .ok (.bipush 9, 2) := by decide +kernel
theorem dL_act_249 : decode cL_act 249 = .ok (.ishr, 1) := by decide +kernel
theorem dL_act_250 : decode cL_act 250 = .ok (.iconst 2, 1) := by decide +kernel
theorem dL_act_251 : decode cL_act 251 = .ok (.invokestatic 48, 3) := by decide +kernel
theorem dL_act_254 : decode cL_act 254 = .ok (.ifCond .ne 13, 3) := by decide +kernel
theorem dL_act_257 : decode cL_act 257 = .ok (.aload_n 0, 1) := by decide +kernel
theorem dL_act_258 : decode cL_act 258 = .ok (.iconst 5, 1) := by decide +kernel
theorem dL_act_259 : decode cL_act 259 = .ok (.iconst 0, 1) := by decide +kernel
theorem dL_act_260 : decode cL_act 260 = .ok (.iconst 0, 1) := by decide +kernel
theorem dL_act_261 : decode cL_act 261 = .ok (.invokestatic 59, 3) := by decide +kernel
theorem dL_act_264 : decode cL_act 264 = .ok (.goto 62, 3) := by decide +kernel
theorem dL_act_267 : decode cL_act 267 = .ok (.aload_n 0, 1) := by decide +kernel
theorem dL_act_268 : decode cL_act 268 = .ok (.invokevirtual 66, 3) := by decide +kernel
theorem dL_act_271 : decode cL_act 271 = .ok (.goto 55, 3) := by decide +kernel
theorem dL_act_274 : decode cL_act 274 = .ok (.iload_n 1, 1) := by decide +kernel
theorem dL_act_275 : decode cL_act 275 = .ok (.bipush 10, 2) := by decide +kernel
theorem dL_act_277 : decode cL_act 277 = .ok (.ishr, 1) := by decide +kernel
theorem dL_act_278 : decode cL_act 278 = .ok (.iconst 3, 1) := by decide +kernel
theorem dL_act_279 : decode cL_act 279 = .ok (.invokestatic 48, 3) := by decide +kernel
theorem dL_act_282 : decode cL_act 282 = .ok (.ifCond .ne 37, 3) := by decide +kernel
theorem dL_act_285 : decode cL_act 285 = .ok (.aload_n 0, 1) := by decide +kernel
theorem dL_act_286 : decode cL_act 286 = .ok (.iconst 1, 1) := by decide +kernel
theorem dL_act_287 : decode cL_act 287 = .ok (.iload_n 2, 1) := by decide +kernel
theorem dL_act_288 : decode cL_act 288 = .ok (.ifCond .eq 15, 3) := by decide +kernel
theorem dL_act_291 : decode cL_act 291 = .ok (.iload_n 1, 1) := by decide +kernel
theorem dL_act_292 : decode cL_act 292 = .ok (.bipush 6, 2) := by decide +kernel
theorem dL_act_294 : decode cL_act 294 = .ok (.ishr, 1) := by decide +kernel
theorem dL_act_295 : decode cL_act 295 = .ok (.bipush 8, 2) := by decide +kernel
theorem dL_act_297 : decode cL_act 297 = .ok (.invokestatic 48, 3) := by decide +kernel
theorem dL_act_300 : decode cL_act 300 = .ok (.goto 13, 3) := by decide +kernel
theorem dL_act_303 : decode cL_act 303 = .ok (.iconst 1, 1) := by decide +kernel
theorem dL_act_304 : decode cL_act 304 = .ok (.iload_n 1, 1) := by decide +kernel
theorem dL_act_305 : decode cL_act 305 = .ok (.bipush 6, 2) := by decide +kernel
theorem dL_act_307 : decode cL_act 307 = .ok (.ishr, 1) := by decide +kernel
theorem dL_act_308 : decode cL_act 308 = .ok (.iconst 4, 1) := by decide +kernel
theorem dL_act_309 : decode cL_act 309 = .ok (.invokestatic 48, 3) := by decide +kernel
theorem dL_act_312 : decode cL_act 312 = .ok (.iadd, 1) := by decide +kernel
theorem dL_act_313 : decode cL_act 313 = .ok (.invokestatic 62, 3) := by decide +kernel
theorem dL_act_316 : decode cL_act 316 = .ok (.goto 10, 3) := by decide +kernel
theorem dL_act_319 : decode cL_act 319 = .ok (.aload_n 0, 1) := by decide +kernel
theorem dL_act_320 : decode cL_act 320 = .ok (.iconst 4, 1) := by decide +kernel
theorem dL_act_321 : decode cL_act 321 = .ok (.iconst 0, 1) := by decide +kernel
theorem dL_act_322 : decode cL_act 322 = .ok (.iconst 0, 1) := by decide +kernel
theorem dL_act_323 : decode cL_act 323 = .ok (.invokestatic 59, 3) := by decide +kernel
theorem dL_act_326 : decode cL_act 326 = .ok (.ireturn, 1) := by decide +kernel
set_option maxRecDepth 20000 in
theorem ggL_areAlike_X4_workers : GoodIn wsL_areAlike wsX4_workers := goodIn_r _ [5, 6, 116, 117, 118, 119, 120, 121, 122, 123, 124, 125, 126, 127, 128, 129] (by decide +kernel) (by decide +kernel)
set_option maxRecDepth 20000 in
theorem gL_areAlike_X4_workers : GoodIn wsL_areAlike (wsV RL 53 RX4 yX4_workers wsX4_workers) := goodIn_app (goodIn_of _ (by decide +kernel)) ggL_areAlike_X4_workers
set_option maxRecDepth 20000 in
theorem ggL_areAlike_X4_underWay : GoodIn wsL_areAlike wsX4_underWay := goodIn_r _ [10, 11, 116, 117, 118, 119, 120, 121, 122, 123, 124, 125, 126, 127, 128, 129] (by decide +kernel) (by decide +kernel)
set_option maxRecDepth 20000 in
theorem gL_areAlike_X4_underWay : GoodIn wsL_areAlike (wsV RL 69 RX4 yX4_underWay wsX4_underWay) := goodIn_app (goodIn_of _ (by decide +kernel)) ggL_areAlike_X4_underWay
set_option maxRecDepth 20000 in
theorem ggL_areAlike_X4_complete : GoodIn wsL_areAlike wsX4_complete := goodIn_r _ [15, 16, 116, 117, 118, 119, 120, 121, 122, 123, 124, 125, 126, 127, 128, 129] (by decide +kernel) (by decide +kernel)
set_option maxRecDepth 20000 in
theorem gL_areAlike_X4_complete : GoodIn wsL_areAlike (wsV RL 72 RX4 yX4_complete wsX4_complete) := goodIn_app (goodIn_of _ (by decide +kernel)) ggL_areAlike_X4_complete
set_option maxRecDepth 20000 in
theorem ggL_areAlike_X4_committed : GoodIn wsL_areAlike wsX4_committed := goodIn_r _ [20, 21, 22, 116, 117, 118, 119, 120, 121, 122, 123, 124, 125, 126, 127, 128, 129, 130, 131] (by decide +kernel) (by decide +kernel)
set_option maxRecDepth 20000 in
theorem gL_areAlike_X4_committed : GoodIn wsL_areAlike (wsV RL 75 RX4 yX4_committed wsX4_committed) := goodIn_app (goodIn_of _ (by decide +kernel)) ggL_areAlike_X4_committed
set_option maxRecDepth 20000 in
theorem ggL_areAlike_X4_events : GoodIn wsL_areAlike wsX4_events := goodIn_ca (goodIn_r _ [26, 27, 28, 29, 30, 4, 31, 32, 33, 116, 117, 118, 119, 120, 121, 122, 123, 124, 125, 126, 127, 128, 129, 132, 133] (by decide +kernel) (by decide +kernel)) (goodIn_sub (fun _ h => List.mem_cons_of_mem _ (List.mem_append_right _ h)) (by decide +kernel))
set_option maxRecDepth 20000 in
theorem gL_areAlike_X4_events : GoodIn wsL_areAlike (wsV RL 78 RX4 yX4_events wsX4_events) := goodIn_app (goodIn_of _ (by decide +kernel)) ggL_areAlike_X4_events
set_option maxRecDepth 20000 in
theorem ggL_areAlike_X4_offset : GoodIn wsL_areAlike wsX4_offset := goodIn_ca (goodIn_r _ [37, 38, 39, 29, 30, 4, 31, 32, 33, 116, 117, 118, 119, 120, 121, 122, 123, 124, 125, 126, 127, 128, 129, 134, 135, 136, 137] (by decide +kernel) (by decide +kernel)) (goodIn_sub (fun _ h => List.mem_cons_of_mem _ (List.mem_append_right _ h)) (by decide +kernel))
set_option maxRecDepth 20000 in
theorem gL_areAlike_X4_offset : GoodIn wsL_areAlike (wsV RL 81 RX4 yX4_offset wsX4_offset) := goodIn_app (goodIn_of _ (by decide +kernel)) ggL_areAlike_X4_offset
set_option maxRecDepth 20000 in
theorem ggL_areAlike_X4_hasSent : GoodIn wsL_areAlike wsX4_hasSent := goodIn_ca (goodIn_r _ [43, 11, 38, 44, 29, 30, 4, 31, 32, 33, 116, 117, 118, 119, 120, 121, 122, 123, 124, 125, 126, 127, 128, 129, 134, 135, 136, 137] (by decide +kernel) (by decide +kernel)) (goodIn_sub (fun _ h => List.mem_cons_of_mem _ (List.mem_append_right _ h)) (by decide +kernel))
set_option maxRecDepth 20000 in
theorem gL_areAlike_X4_hasSent : GoodIn wsL_areAlike (wsV RL 84 RX4 yX4_hasSent wsX4_hasSent) := goodIn_app (goodIn_of _ (by decide +kernel)) ggL_areAlike_X4_hasSent
set_option maxRecDepth 20000 in
theorem ggL_areAlike_X4_keptOffset : GoodIn wsL_areAlike wsX4_keptOffset := goodIn_ca (goodIn_r _ [48, 38, 49, 29, 30, 4, 31, 32, 33, 116, 117, 118, 119, 120, 121, 122, 123, 124, 125, 126, 127, 128, 129, 134, 135, 136, 137] (by decide +kernel) (by decide +kernel)) (goodIn_sub (fun _ h => List.mem_cons_of_mem _ (List.mem_append_right _ h)) (by decide +kernel))
set_option maxRecDepth 20000 in
theorem gL_areAlike_X4_keptOffset : GoodIn wsL_areAlike (wsV RL 88 RX4 yX4_keptOffset wsX4_keptOffset) := goodIn_app (goodIn_of _ (by decide +kernel)) ggL_areAlike_X4_keptOffset
set_option maxRecDepth 20000 in
theorem ggL_areAlike_X4_queued : GoodIn wsL_areAlike wsX4_queued := goodIn_ca (goodIn_r _ [53, 54, 29, 30, 4, 31, 32, 33, 55, 56, 57, 58, 6, 59, 60, 61, 62, 63, 64, 65, 66, 67, 116, 117, 118, 119, 120, 121, 122, 123, 124, 125, 126, 127, 128, 129, 138, 139, 140] (by decide +kernel) (by decide +kernel)) (goodIn_sub (fun _ h => List.mem_cons_of_mem _ (List.mem_append_right _ h)) (by decide +kernel))
set_option maxRecDepth 20000 in
theorem gL_areAlike_X4_queued : GoodIn wsL_areAlike (wsV RL 91 RX4 yX4_queued wsX4_queued) := goodIn_app (goodIn_of _ (by decide +kernel)) ggL_areAlike_X4_queued
set_option maxRecDepth 20000 in
theorem ggL_areAlike_X4_isBlocked : GoodIn wsL_areAlike wsX4_isBlocked := goodIn_ca (goodIn_r _ [71, 54, 29, 30, 4, 31, 32, 33, 55, 56, 57, 58, 6, 72, 73, 74, 62, 75, 76, 65, 66, 67, 116, 117, 118, 119, 120, 121, 122, 123, 124, 125, 126, 127, 128, 129, 138, 139, 140] (by decide +kernel) (by decide +kernel)) (goodIn_sub (fun _ h => List.mem_cons_of_mem _ (List.mem_append_right _ h)) (by decide +kernel))
set_option maxRecDepth 20000 in
theorem gL_areAlike_X4_isBlocked : GoodIn wsL_areAlike (wsV RL 94 RX4 yX4_isBlocked wsX4_isBlocked) := goodIn_app (goodIn_of _ (by decide +kernel)) ggL_areAlike_X4_isBlocked
set_option maxRecDepth 20000 in
theorem ggL_areAlike_X4_open : GoodIn wsL_areAlike wsX4_open := goodIn_ca (goodIn_r _ [80, 81, 22, 55, 56, 57, 4, 58, 32, 33, 6, 82, 83, 84, 85, 86, 87, 88, 116, 117, 118, 119, 120, 121, 122, 123, 124, 125, 126, 127, 128, 129, 130, 131] (by decide +kernel) (by decide +kernel)) (goodIn_sub (fun _ h => List.mem_cons_of_mem _ (List.mem_append_right _ h)) (by decide +kernel))
set_option maxRecDepth 20000 in
theorem gL_areAlike_X4_open : GoodIn wsL_areAlike (wsV RL 98 RX4 yX4_open wsX4_open) := goodIn_app (goodIn_of _ (by decide +kernel)) ggL_areAlike_X4_open
set_option maxRecDepth 20000 in
theorem ggL_areAlike_X4_sealed : GoodIn wsL_areAlike wsX4_sealed := goodIn_ca (goodIn_r _ [92, 93, 55, 56, 57, 4, 58, 32, 33, 6, 116, 117, 118, 119, 120, 121, 122, 123, 124, 125, 126, 127, 128, 129] (by decide +kernel) (by decide +kernel)) (goodIn_sub (fun _ h => List.mem_cons_of_mem _ (List.mem_append_right _ h)) (by decide +kernel))
set_option maxRecDepth 20000 in
theorem gL_areAlike_X4_sealed : GoodIn wsL_areAlike (wsV RL 101 RX4 yX4_sealed wsX4_sealed) := goodIn_app (goodIn_of _ (by decide +kernel)) ggL_areAlike_X4_sealed
set_option maxRecDepth 20000 in
theorem ggL_areAlike_X4_count : GoodIn wsL_areAlike wsX4_count := goodIn_ca (goodIn_r _ [97, 98, 22, 99, 100, 4, 101, 32, 33, 116, 117, 118, 119, 120, 121, 122, 123, 124, 125, 126, 127, 128, 129, 130, 131] (by decide +kernel) (by decide +kernel)) (goodIn_sub (fun _ h => List.mem_cons_of_mem _ (List.mem_append_right _ h)) (by decide +kernel))
set_option maxRecDepth 20000 in
theorem gL_areAlike_X4_count : GoodIn wsL_areAlike (wsV RL 104 RX4 yX4_count wsX4_count) := goodIn_app (goodIn_of _ (by decide +kernel)) ggL_areAlike_X4_count
set_option maxRecDepth 20000 in
theorem ggL_areAlike_X4_sum : GoodIn wsL_areAlike wsX4_sum := goodIn_ca (goodIn_r _ [105, 98, 106, 99, 100, 4, 101, 32, 33, 116, 117, 118, 119, 120, 121, 122, 123, 124, 125, 126, 127, 128, 129, 130, 131] (by decide +kernel) (by decide +kernel)) (goodIn_sub (fun _ h => List.mem_cons_of_mem _ (List.mem_append_right _ h)) (by decide +kernel))
set_option maxRecDepth 20000 in
theorem gL_areAlike_X4_sum : GoodIn wsL_areAlike (wsV RL 107 RX4 yX4_sum wsX4_sum) := goodIn_app (goodIn_of _ (by decide +kernel)) ggL_areAlike_X4_sum
set_option maxRecDepth 20000 in
theorem ggL_areAlike_X4_committedSum : GoodIn wsL_areAlike wsX4_committedSum := goodIn_ca (goodIn_r _ [110, 21, 106, 99, 100, 4, 101, 32, 33, 116, 117, 118, 119, 120, 121, 122, 123, 124, 125, 126, 127, 128, 129, 130, 131] (by decide +kernel) (by decide +kernel)) (goodIn_sub (fun _ h => List.mem_cons_of_mem _ (List.mem_append_right _ h)) (by decide +kernel))
set_option maxRecDepth 20000 in
theorem gL_areAlike_X4_committedSum : GoodIn wsL_areAlike (wsV RL 110 RX4 yX4_committedSum wsX4_committedSum) := goodIn_app (goodIn_of _ (by decide +kernel)) ggL_areAlike_X4_committedSum
set_option maxRecDepth 20000 in
theorem ggL_areAlike_X4_keptSum : GoodIn wsL_areAlike wsX4_keptSum := goodIn_ca (goodIn_r _ [114, 115, 106, 99, 100, 4, 101, 32, 33, 116, 117, 118, 119, 120, 121, 122, 123, 124, 125, 126, 127, 128, 129, 130, 131] (by decide +kernel) (by decide +kernel)) (goodIn_sub (fun _ h => List.mem_cons_of_mem _ (List.mem_append_right _ h)) (by decide +kernel))
set_option maxRecDepth 20000 in
theorem gL_areAlike_X4_keptSum : GoodIn wsL_areAlike (wsV RL 113 RX4 yX4_keptSum wsX4_keptSum) := goodIn_app (goodIn_of _ (by decide +kernel)) ggL_areAlike_X4_keptSum
theorem dL_areAlike_0 : decode cL_areAlike 0 = .ok (.aload_n 0, 1) := by decide +kernel
theorem dL_areAlike_1 : decode cL_areAlike 1 = .ok (.invokevirtual 53, 3) := by decide +kernel
theorem dL_areAlike_4 : decode cL_areAlike 4 = .ok (.aload_n 1, 1) := by decide +kernel
theorem dL_areAlike_5 : decode cL_areAlike 5 = .ok (.invokevirtual 53, 3) := by decide +kernel
theorem dL_areAlike_8 : decode cL_areAlike 8 = .ok (.if_icmp .ne 40, 3) := by decide +kernel
theorem dL_areAlike_11 : decode cL_areAlike 11 = .ok (.aload_n 0, 1) := by decide +kernel
theorem dL_areAlike_12 : decode cL_areAlike 12 = .ok (.invokevirtual 69, 3) := by decide +kernel
theorem dL_areAlike_15 : decode cL_areAlike 15 = .ok (.aload_n 1, 1) := by decide +kernel
theorem dL_areAlike_16 : decode cL_areAlike 16 = .ok (.invokevirtual 69, 3) := by decide +kernel
theorem dL_areAlike_19 : decode cL_areAlike 19 = .ok (.if_icmp .ne 29, 3) := by decide +kernel
theorem dL_areAlike_22 : decode cL_areAlike 22 = .ok (.aload_n 0, 1) := by decide +kernel
theorem dL_areAlike_23 : decode cL_areAlike 23 = .ok (.invokevirtual 72, 3) := by decide +kernel
theorem dL_areAlike_26 : decode cL_areAlike 26 = .ok (.aload_n 1, 1) := by decide +kernel
theorem dL_areAlike_27 : decode cL_areAlike 27 = .ok (.invokevirtual 72, 3) := by decide +kernel
theorem dL_areAlike_30 : decode cL_areAlike 30 = .ok (.if_icmp .ne 18, 3) := by decide +kernel
theorem dL_areAlike_33 : decode cL_areAlike 33 = .ok (.aload_n 0, 1) := by decide +kernel
theorem dL_areAlike_34 : decode cL_areAlike 34 = .ok (.invokevirtual 75, 3) := by decide +kernel
theorem dL_areAlike_37 : decode cL_areAlike 37 = .ok (.aload_n 1, 1) := by decide +kernel
theorem dL_areAlike_38 : decode cL_areAlike 38 = .ok (.invokevirtual 75, 3) := by decide +kernel
theorem dL_areAlike_41 : decode cL_areAlike 41 = .ok (.if_icmp .ne 7, 3) := by decide +kernel
theorem dL_areAlike_44 : decode cL_areAlike 44 = .ok (.iconst 1, 1) := by decide +kernel
theorem dL_areAlike_45 : decode cL_areAlike 45 = .ok (.goto 4, 3) := by decide +kernel
theorem dL_areAlike_48 : decode cL_areAlike 48 = .ok (.iconst 0, 1) := by decide +kernel
theorem dL_areAlike_49 : decode cL_areAlike 49 = .ok (.istore_n 2, 1) := by decide +kernel
theorem dL_areAlike_50 : decode cL_areAlike 50 = .ok (.iconst 0, 1) := by decide +kernel
theorem dL_areAlike_51 : decode cL_areAlike 51 = .ok (.istore_n 3, 1) := by decide +kernel
theorem dL_areAlike_52 : decode cL_areAlike 52 = .ok (.iload_n 3, 1) := by decide +kernel
theorem dL_areAlike_53 : decode cL_areAlike 53 = .ok (.iconst 4, 1) := by decide +kernel
theorem dL_areAlike_54 : decode cL_areAlike 54 = .ok (.if_icmp .ge 163, 3) := by decide +kernel
theorem dL_areAlike_57 : decode cL_areAlike 57 = .ok (.iload_n 2, 1) := by decide +kernel
theorem dL_areAlike_58 : decode cL_areAlike 58 = .ok (.ifCond .eq 159, 3) := by decide +kernel
theorem dL_areAlike_61 : decode cL_areAlike 61 = .ok (.aload_n 0, 1) := by decide +kernel
theorem dL_areAlike_62 : decode cL_areAlike 62 = .ok (.iload_n 3, 1) := by decide +kernel
theorem dL_areAlike_63 : decode cL_areAlike 63 = .ok (.invokevirtual 78, 3) := by decide +kernel
theorem dL_areAlike_66 : decode cL_areAlike 66 = .ok (.aload_n 1, 1) := by decide +kernel
theorem dL_areAlike_67 : decode cL_areAlike 67 = .ok (.iload_n 3, 1) := by decide +kernel
theorem dL_areAlike_68 : decode cL_areAlike 68 = .ok (.invokevirtual 78, 3) := by decide +kernel
theorem dL_areAlike_71 : decode cL_areAlike 71 = .ok (.if_icmp .ne 46, 3) := by decide +kernel
theorem dL_areAlike_74 : decode cL_areAlike 74 = .ok (.aload_n 0, 1) := by decide +kernel
theorem dL_areAlike_75 : decode cL_areAlike 75 = .ok (.iload_n 3, 1) := by decide +kernel
theorem dL_areAlike_76 : decode cL_areAlike 76 = .ok (.invokevirtual 81, 3) := by decide +kernel
theorem dL_areAlike_79 : decode cL_areAlike 79 = .ok (.aload_n 1, 1) := by decide +kernel
theorem dL_areAlike_80 : decode cL_areAlike 80 = .ok (.iload_n 3, 1) := by decide +kernel
theorem dL_areAlike_81 : decode cL_areAlike 81 = .ok (.invokevirtual 81, 3) := by decide +kernel
theorem dL_areAlike_84 : decode cL_areAlike 84 = .ok (.if_icmp .ne 33, 3) := by decide +kernel
theorem dL_areAlike_87 : decode cL_areAlike 87 = .ok (.aload_n 0, 1) := by decide +kernel
theorem dL_areAlike_88 : decode cL_areAlike 88 = .ok (.iload_n 3, 1) := by decide +kernel
theorem dL_areAlike_89 : decode cL_areAlike 89 = .ok (.invokevirtual 84, 3) := by decide +kernel
theorem dL_areAlike_92 : decode cL_areAlike 92 = .ok (.aload_n 1, 1) := by decide +kernel
theorem dL_areAlike_93 : decode cL_areAlike 93 = .ok (.iload_n 3, 1) := by decide +kernel
theorem dL_areAlike_94 : decode cL_areAlike 94 = .ok (.invokevirtual 84, 3) := by decide +kernel
theorem dL_areAlike_97 : decode cL_areAlike 97 = .ok (.if_icmp .ne 20, 3) := by decide +kernel
theorem dL_areAlike_100 : decode cL_areAlike 100 = .ok (.aload_n 0, 1) := by decide +kernel
theorem dL_areAlike_101 : decode cL_areAlike 101 = .ok (.iload_n 3, 1) := by decide +kernel
theorem dL_areAlike_102 : decode cL_areAlike 102 = .ok (.invokevirtual 88, 3) := by decide +kernel
theorem dL_areAlike_105 : decode cL_areAlike 105 = .ok (.aload_n 1, 1) := by decide +kernel
theorem dL_areAlike_106 : decode cL_areAlike 106 = .ok (.iload_n 3, 1) := by decide +kernel
theorem dL_areAlike_107 : decode cL_areAlike 107 = .ok (.invokevirtual 88, 3) := by decide +kernel
theorem dL_areAlike_110 : decode cL_areAlike 110 = .ok (.if_icmp .ne 7, 3) := by decide +kernel
theorem dL_areAlike_113 : decode cL_areAlike 113 = .ok (.iconst 1, 1) := by decide +kernel
theorem dL_areAlike_114 : decode cL_areAlike 114 = .ok (.goto 4, 3) := by decide +kernel
theorem dL_areAlike_117 : decode cL_areAlike 117 = .ok (.iconst 0, 1) := by decide +kernel
theorem dL_areAlike_118 : decode cL_areAlike 118 = .ok (.istore_n 2, 1) := by decide +kernel
theorem dL_areAlike_119 : decode cL_areAlike 119 = .ok (.iconst 0, 1) := by decide +kernel
theorem dL_areAlike_120 : decode cL_areAlike 120 = .ok (.istore 4, 2) := by decide +kernel
theorem dL_areAlike_122 : decode cL_areAlike 122 = .ok (.iload 4, 2) := by decide +kernel
theorem dL_areAlike_124 : decode cL_areAlike 124 = .ok (.aload_n 0, 1) := by decide +kernel
theorem dL_areAlike_125 : decode cL_areAlike 125 = .ok (.invokevirtual 53, 3) := by decide +kernel
theorem dL_areAlike_128 : decode cL_areAlike 128 = .ok (.if_icmp .ge 83, 3) := by decide +kernel
theorem dL_areAlike_131 : decode cL_areAlike 131 = .ok (.iload_n 2, 1) := by decide +kernel
theorem dL_areAlike_132 : decode cL_areAlike 132 = .ok (.ifCond .eq 79, 3) := by decide +kernel
theorem dL_areAlike_135 : decode cL_areAlike 135 = .ok (.aload_n 0, 1) := by decide +kernel
theorem dL_areAlike_136 : decode cL_areAlike 136 = .ok (.iload_n 3, 1) := by decide +kernel
theorem dL_areAlike_137 : decode cL_areAlike 137 = .ok (.iload 4, 2) := by decide +kernel
theorem dL_areAlike_139 : decode cL_areAlike 139 = .ok (.invokevirtual 91, 3) := by decide +kernel
theorem dL_areAlike_142 : decode cL_areAlike 142 = .ok (.aload_n 1, 1) := by decide +kernel
theorem dL_areAlike_143 : decode cL_areAlike 143 = .ok (.iload_n 3, 1) := by decide +kernel
theorem dL_areAlike_144 : decode cL_areAlike 144 = .ok (.iload 4, 2) := by decide +kernel
theorem dL_areAlike_146 : decode cL_areAlike 146 = .ok (.invokevirtual 91, 3) := by decide +kernel
theorem dL_areAlike_149 : decode cL_areAlike 149 = .ok (.if_icmp .ne 54, 3) := by decide +kernel
theorem dL_areAlike_152 : decode cL_areAlike 152 = .ok (.aload_n 0, 1) := by decide +kernel
theorem dL_areAlike_153 : decode cL_areAlike 153 = .ok (.iload_n 3, 1) := by decide +kernel
theorem dL_areAlike_154 : decode cL_areAlike 154 = .ok (.iload 4, 2) := by decide +kernel
theorem dL_areAlike_156 : decode cL_areAlike 156 = .ok (.invokevirtual 94, 3) := by decide +kernel
theorem dL_areAlike_159 : decode cL_areAlike 159 = .ok (.aload_n 1, 1) := by decide +kernel
theorem dL_areAlike_160 : decode cL_areAlike 160 = .ok (.iload_n 3, 1) := by decide +kernel
theorem dL_areAlike_161 : decode cL_areAlike 161 = .ok (.iload 4, 2) := by decide +kernel
theorem dL_areAlike_163 : decode cL_areAlike 163 = .ok (.invokevirtual 94, 3) := by decide +kernel
theorem dL_areAlike_166 : decode cL_areAlike 166 = .ok (.if_icmp .ne 37, 3) := by decide +kernel
theorem dL_areAlike_169 : decode cL_areAlike 169 = .ok (.aload_n 0, 1) := by decide +kernel
theorem dL_areAlike_170 : decode cL_areAlike 170 = .ok (.iload 4, 2) := by decide +kernel
theorem dL_areAlike_172 : decode cL_areAlike 172 = .ok (.invokevirtual 98, 3) := by decide +kernel
theorem dL_areAlike_175 : decode cL_areAlike 175 = .ok (.aload_n 1, 1) := by decide +kernel
theorem dL_areAlike_176 : decode cL_areAlike 176 = .ok (.iload 4, 2) := by decide +kernel
theorem dL_areAlike_178 : decode cL_areAlike 178 = .ok (.invokevirtual 98, 3) := by decide +kernel
theorem dL_areAlike_181 : decode cL_areAlike 181 = .ok (.if_icmp .ne 22, 3) := by decide +kernel
theorem dL_areAlike_184 : decode cL_areAlike 184 = .ok (.aload_n 0, 1) := by decide +kernel
theorem dL_areAlike_185 : decode cL_areAlike 185 = .ok (.iload 4, 2) := by decide +kernel
theorem dL_areAlike_187 : decode cL_areAlike 187 = .ok (.invokevirtual 101, 3) := by decide +kernel
theorem dL_areAlike_190 : decode cL_areAlike 190 = .ok (.aload_n 1, 1) := by decide +kernel
theorem dL_areAlike_191 : decode cL_areAlike 191 = .ok (.iload 4, 2) := by decide +kernel
theorem dL_areAlike_193 : decode cL_areAlike 193 = .ok (.invokevirtual 101, 3) := by decide +kernel
theorem dL_areAlike_196 : decode cL_areAlike 196 = .ok (.if_icmp .ne 7, 3) := by decide +kernel
theorem dL_areAlike_199 : decode cL_areAlike 199 = .ok (.iconst 1, 1) := by decide +kernel
theorem dL_areAlike_200 : decode cL_areAlike 200 = .ok (.goto 4, 3) := by decide +kernel
theorem dL_areAlike_203 : decode cL_areAlike 203 = .ok (.iconst 0, 1) := by decide +kernel
theorem dL_areAlike_204 : decode cL_areAlike 204 = .ok (.istore_n 2, 1) := by decide +kernel
theorem dL_areAlike_205 : decode cL_areAlike 205 = .ok (.iinc 4 1, 3) := by decide +kernel
theorem dL_areAlike_208 : decode cL_areAlike 208 = .ok (.goto (-86), 3) := by decide +kernel
theorem dL_areAlike_211 : decode cL_areAlike 211 = .ok (.iinc 3 1, 3) := by decide +kernel
theorem dL_areAlike_214 : decode cL_areAlike 214 = .ok (.goto (-162), 3) := by decide +kernel
theorem dL_areAlike_217 : decode cL_areAlike 217 = .ok (.iconst 0, 1) := by decide +kernel
theorem dL_areAlike_218 : decode cL_areAlike 218 = .ok (.istore_n 3, 1) := by decide +kernel
theorem dL_areAlike_219 : decode cL_areAlike 219 = .ok (.iload_n 3, 1) := by decide +kernel
theorem dL_areAlike_220 : decode cL_areAlike 220 = .ok (.bipush 32, 2) := by decide +kernel
theorem dL_areAlike_222 : decode cL_areAlike 222 = .ok (.if_icmp .ge 71, 3) := by decide +kernel
theorem dL_areAlike_225 : decode cL_areAlike 225 = .ok (.iload_n 2, 1) := by decide +kernel
theorem dL_areAlike_226 : decode cL_areAlike 226 = .ok (.ifCond .eq 67, 3) := by decide +kernel
theorem dL_areAlike_229 : decode cL_areAlike 229 = .ok (.aload_n 0, 1) := by decide +kernel
theorem dL_areAlike_230 : decode cL_areAlike 230 = .ok (.iload_n 3, 1) := by decide +kernel
theorem dL_areAlike_231 : decode cL_areAlike 231 = .ok (.invokevirtual 104, 3) := by decide +kernel
theorem dL_areAlike_234 : decode cL_areAlike 234 = .ok (.aload_n 1, 1) := by decide +kernel
theorem dL_areAlike_235 : decode cL_areAlike 235 = .ok (.iload_n 3, 1) := by decide +kernel
theorem dL_areAlike_236 : decode cL_areAlike 236 = .ok (.invokevirtual 104, 3) := by decide +kernel
theorem dL_areAlike_239 : decode cL_areAlike 239 = .ok (.if_icmp .ne 46, 3) := by decide +kernel
theorem dL_areAlike_242 : decode cL_areAlike 242 = .ok (.aload_n 0, 1) := by decide +kernel
theorem dL_areAlike_243 : decode cL_areAlike 243 = .ok (.iload_n 3, 1) := by decide +kernel
theorem dL_areAlike_244 : decode cL_areAlike 244 = .ok (.invokevirtual 107, 3) := by decide +kernel
theorem dL_areAlike_247 : decode cL_areAlike 247 = .ok (.aload_n 1, 1) := by decide +kernel
theorem dL_areAlike_248 : decode cL_areAlike 248 = .ok (.iload_n 3, 1) := by decide +kernel
theorem dL_areAlike_249 : decode cL_areAlike 249 = .ok (.invokevirtual 107, 3) := by decide +kernel
theorem dL_areAlike_252 : decode cL_areAlike 252 = .ok (.if_icmp .ne 33, 3) := by decide +kernel
theorem dL_areAlike_255 : decode cL_areAlike 255 = .ok (.aload_n 0, 1) := by decide +kernel
theorem dL_areAlike_256 : decode cL_areAlike 256 = .ok (.iload_n 3, 1) := by decide +kernel
theorem dL_areAlike_257 : decode cL_areAlike 257 = .ok (.invokevirtual 110, 3) := by decide +kernel
theorem dL_areAlike_260 : decode cL_areAlike 260 = .ok (.aload_n 1, 1) := by decide +kernel
theorem dL_areAlike_261 : decode cL_areAlike 261 = .ok (.iload_n 3, 1) := by decide +kernel
theorem dL_areAlike_262 : decode cL_areAlike 262 = .ok (.invokevirtual 110, 3) := by decide +kernel
theorem dL_areAlike_265 : decode cL_areAlike 265 = .ok (.if_icmp .ne 20, 3) := by decide +kernel
theorem dL_areAlike_268 : decode cL_areAlike 268 = .ok (.aload_n 0, 1) := by decide +kernel
theorem dL_areAlike_269 : decode cL_areAlike 269 = .ok (.iload_n 3, 1) := by decide +kernel
theorem dL_areAlike_270 : decode cL_areAlike 270 = .ok (.invokevirtual 113, 3) := by decide +kernel
theorem dL_areAlike_273 : decode cL_areAlike 273 = .ok (.aload_n 1, 1) := by decide +kernel
theorem dL_areAlike_274 : decode cL_areAlike 274 = .ok (.iload_n 3, 1) := by decide +kernel
theorem dL_areAlike_275 : decode cL_areAlike 275 = .ok (.invokevirtual 113, 3) := by decide +kernel
theorem dL_areAlike_278 : decode cL_areAlike 278 = .ok (.if_icmp .ne 7, 3) := by decide +kernel
theorem dL_areAlike_281 : decode cL_areAlike 281 = .ok (.iconst 1, 1) := by decide +kernel
theorem dL_areAlike_282 : decode cL_areAlike 282 = .ok (.goto 4, 3) := by decide +kernel
theorem dL_areAlike_285 : decode cL_areAlike 285 = .ok (.iconst 0, 1) := by decide +kernel
theorem dL_areAlike_286 : decode cL_areAlike 286 = .ok (.istore_n 2, 1) := by decide +kernel
theorem dL_areAlike_287 : decode cL_areAlike 287 = .ok (.iinc 3 1, 3) := by decide +kernel
theorem dL_areAlike_290 : decode cL_areAlike 290 = .ok (.goto (-71), 3) := by decide +kernel
theorem dL_areAlike_293 : decode cL_areAlike 293 = .ok (.iload_n 2, 1) := by decide +kernel
theorem dL_areAlike_294 : decode cL_areAlike 294 = .ok (.ireturn, 1) := by decide +kernel
set_option maxRecDepth 20000 in
theorem ggL_areSumsSo_X4_keptOffset : GoodIn wsL_areSumsSo wsX4_keptOffset := goodIn_ca (goodIn_r _ [5, 6, 7, 8, 9, 4, 10, 11, 12, 113, 114, 115, 116, 117, 118, 119, 120, 121, 122, 123, 124, 125, 126, 127, 128, 129, 130] (by decide +kernel) (by decide +kernel)) (goodIn_sub (fun _ h => List.mem_cons_of_mem _ (List.mem_append_right _ h)) (by decide +kernel))
set_option maxRecDepth 20000 in
theorem gL_areSumsSo_X4_keptOffset : GoodIn wsL_areSumsSo (wsV RL 88 RX4 yX4_keptOffset wsX4_keptOffset) := goodIn_app (goodIn_of _ (by decide +kernel)) ggL_areSumsSo_X4_keptOffset
set_option maxRecDepth 20000 in
theorem ggL_areSumsSo_X4_eventAt : GoodIn wsL_areSumsSo wsX4_eventAt := goodIn_ca (goodIn_r _ [16, 11, 12, 17, 18, 8, 9, 4, 10, 19, 20, 21, 22, 23, 24, 113, 114, 115, 116, 117, 118, 119, 120, 121, 122, 123, 124, 125, 126, 131, 132] (by decide +kernel) (by decide +kernel)) (goodIn_sub (fun _ h => List.mem_cons_of_mem _ (List.mem_append_right _ h)) (by decide +kernel))
set_option maxRecDepth 20000 in
theorem gL_areSumsSo_X4_eventAt : GoodIn wsL_areSumsSo (wsV RL 116 RX4 yX4_eventAt wsX4_eventAt) := goodIn_app (goodIn_of _ (by decide +kernel)) ggL_areSumsSo_X4_eventAt
set_option maxRecDepth 20000 in
theorem ggL_areSumsSo_X4_count : GoodIn wsL_areSumsSo wsX4_count := goodIn_ca (goodIn_r _ [28, 29, 30, 31, 32, 4, 33, 11, 12, 113, 114, 115, 116, 117, 118, 119, 120, 121, 122, 123, 124, 125, 126, 133, 134] (by decide +kernel) (by decide +kernel)) (goodIn_sub (fun _ h => List.mem_cons_of_mem _ (List.mem_append_right _ h)) (by decide +kernel))
set_option maxRecDepth 20000 in
theorem gL_areSumsSo_X4_count : GoodIn wsL_areSumsSo (wsV RL 104 RX4 yX4_count wsX4_count) := goodIn_app (goodIn_of _ (by decide +kernel)) ggL_areSumsSo_X4_count
set_option maxRecDepth 20000 in
theorem ggL_areSumsSo_X4_sum : GoodIn wsL_areSumsSo wsX4_sum := goodIn_ca (goodIn_r _ [37, 29, 38, 31, 32, 4, 33, 11, 12, 113, 114, 115, 116, 117, 118, 119, 120, 121, 122, 123, 124, 125, 126, 133, 134] (by decide +kernel) (by decide +kernel)) (goodIn_sub (fun _ h => List.mem_cons_of_mem _ (List.mem_append_right _ h)) (by decide +kernel))
set_option maxRecDepth 20000 in
theorem gL_areSumsSo_X4_sum : GoodIn wsL_areSumsSo (wsV RL 107 RX4 yX4_sum wsX4_sum) := goodIn_app (goodIn_of _ (by decide +kernel)) ggL_areSumsSo_X4_sum
set_option maxRecDepth 20000 in
theorem ggL_areSumsSo_X4_sumInChannels : GoodIn wsL_areSumsSo wsX4_sumInChannels := goodIn_ca (goodIn_r _ [42, 43, 31, 32, 4, 33, 11, 12, 44, 45, 46, 47, 48, 49, 50, 51, 52, 53, 54, 113, 114, 115, 116, 117, 118, 119, 120, 121, 122, 123, 124, 125, 126, 135, 136, 137] (by decide +kernel) (by decide +kernel)) (goodIn_sub (fun _ h => List.mem_cons_of_mem _ (List.mem_append_right _ h)) (by decide +kernel))
set_option maxRecDepth 20000 in
theorem gL_areSumsSo_X4_sumInChannels : GoodIn wsL_areSumsSo (wsV RL 119 RX4 yX4_sumInChannels wsX4_sumInChannels) := goodIn_app (goodIn_of _ (by decide +kernel)) ggL_areSumsSo_X4_sumInChannels
set_option maxRecDepth 20000 in
theorem ggL_areSumsSo_X4_readSum : GoodIn wsL_areSumsSo wsX4_readSum := goodIn_ca (goodIn_r _ [58, 17, 6, 59, 31, 32, 4, 33, 11, 12, 60, 61, 62, 22, 63, 64, 20, 21, 23, 24, 51, 52, 53, 54, 113, 114, 115, 116, 117, 118, 119, 120, 121, 122, 123, 124, 125, 126, 127, 128, 129, 130, 131, 132] (by decide +kernel) (by decide +kernel)) (goodIn_sub (fun _ h => List.mem_cons_of_mem _ (List.mem_append_right _ h)) (by decide +kernel))
set_option maxRecDepth 20000 in
theorem gL_areSumsSo_X4_readSum : GoodIn wsL_areSumsSo (wsV RL 122 RX4 yX4_readSum wsX4_readSum) := goodIn_app (goodIn_of _ (by decide +kernel)) ggL_areSumsSo_X4_readSum
set_option maxRecDepth 20000 in
theorem ggL_areSumsSo_X4_keptSum : GoodIn wsL_areSumsSo wsX4_keptSum := goodIn_ca (goodIn_r _ [68, 69, 38, 31, 32, 4, 33, 11, 12, 113, 114, 115, 116, 117, 118, 119, 120, 121, 122, 123, 124, 125, 126, 133, 134] (by decide +kernel) (by decide +kernel)) (goodIn_sub (fun _ h => List.mem_cons_of_mem _ (List.mem_append_right _ h)) (by decide +kernel))
set_option maxRecDepth 20000 in
theorem gL_areSumsSo_X4_keptSum : GoodIn wsL_areSumsSo (wsV RL 113 RX4 yX4_keptSum wsX4_keptSum) := goodIn_app (goodIn_of _ (by decide +kernel)) ggL_areSumsSo_X4_keptSum
set_option maxRecDepth 20000 in
theorem ggL_areSumsSo_X4_committedSum : GoodIn wsL_areSumsSo wsX4_committedSum := goodIn_ca (goodIn_r _ [73, 74, 38, 31, 32, 4, 33, 11, 12, 113, 114, 115, 116, 117, 118, 119, 120, 121, 122, 123, 124, 125, 126, 133, 134] (by decide +kernel) (by decide +kernel)) (goodIn_sub (fun _ h => List.mem_cons_of_mem _ (List.mem_append_right _ h)) (by decide +kernel))
set_option maxRecDepth 20000 in
theorem gL_areSumsSo_X4_committedSum : GoodIn wsL_areSumsSo (wsV RL 110 RX4 yX4_committedSum wsX4_committedSum) := goodIn_app (goodIn_of _ (by decide +kernel)) ggL_areSumsSo_X4_committedSum
set_option maxRecDepth 20000 in
theorem ggL_areSumsSo_X4_committedCount : GoodIn wsL_areSumsSo wsX4_committedCount := goodIn_ca (goodIn_r _ [78, 74, 30, 31, 32, 4, 33, 11, 12, 113, 114, 115, 116, 117, 118, 119, 120, 121, 122, 123, 124, 125, 126, 133, 134] (by decide +kernel) (by decide +kernel)) (goodIn_sub (fun _ h => List.mem_cons_of_mem _ (List.mem_append_right _ h)) (by decide +kernel))
set_option maxRecDepth 20000 in
theorem gL_areSumsSo_X4_committedCount : GoodIn wsL_areSumsSo (wsV RL 125 RX4 yX4_committedCount wsX4_committedCount) := goodIn_app (goodIn_of _ (by decide +kernel)) ggL_areSumsSo_X4_committedCount
set_option maxRecDepth 20000 in
theorem ggL_areSumsSo_X4_workerOf : GoodIn wsL_areSumsSo wsX4_workerOf := goodIn_ca (goodIn_r _ [82, 31, 32, 4, 33, 11, 12, 83, 84, 85, 86, 87, 88, 89, 90, 113, 114, 115, 116, 117, 118, 119, 120, 121, 122, 123, 124, 125, 126] (by decide +kernel) (by decide +kernel)) (goodIn_sub (fun _ h => List.mem_cons_of_mem _ (List.mem_append_right _ h)) (by decide +kernel))
set_option maxRecDepth 20000 in
theorem gL_areSumsSo_X4_workerOf : GoodIn wsL_areSumsSo (wsV RL 128 RX4 yX4_workerOf wsX4_workerOf) := goodIn_app (goodIn_of _ (by decide +kernel)) ggL_areSumsSo_X4_workerOf
set_option maxRecDepth 20000 in
theorem ggL_areSumsSo_X4_workers : GoodIn wsL_areSumsSo wsX4_workers := goodIn_r _ [94, 87, 113, 114, 115, 116, 117, 118, 119, 120, 121, 122, 123, 124, 125, 126] (by decide +kernel) (by decide +kernel)
set_option maxRecDepth 20000 in
theorem gL_areSumsSo_X4_workers : GoodIn wsL_areSumsSo (wsV RL 53 RX4 yX4_workers wsX4_workers) := goodIn_app (goodIn_of _ (by decide +kernel)) ggL_areSumsSo_X4_workers
set_option maxRecDepth 20000 in
theorem ggL_areSumsSo_X4_open : GoodIn wsL_areSumsSo wsX4_open := goodIn_ca (goodIn_r _ [98, 99, 30, 100, 101, 102, 4, 103, 11, 12, 87, 83, 84, 85, 86, 88, 89, 90, 113, 114, 115, 116, 117, 118, 119, 120, 121, 122, 123, 124, 125, 126, 133, 134] (by decide +kernel) (by decide +kernel)) (goodIn_sub (fun _ h => List.mem_cons_of_mem _ (List.mem_append_right _ h)) (by decide +kernel))
set_option maxRecDepth 20000 in
theorem gL_areSumsSo_X4_open : GoodIn wsL_areSumsSo (wsV RL 98 RX4 yX4_open wsX4_open) := goodIn_app (goodIn_of _ (by decide +kernel)) ggL_areSumsSo_X4_open
set_option maxRecDepth 20000 in
theorem ggL_areSumsSo_X4_sealed : GoodIn wsL_areSumsSo wsX4_sealed := goodIn_ca (goodIn_r _ [107, 108, 100, 101, 102, 4, 103, 11, 12, 87, 113, 114, 115, 116, 117, 118, 119, 120, 121, 122, 123, 124, 125, 126] (by decide +kernel) (by decide +kernel)) (goodIn_sub (fun _ h => List.mem_cons_of_mem _ (List.mem_append_right _ h)) (by decide +kernel))
set_option maxRecDepth 20000 in
theorem gL_areSumsSo_X4_sealed : GoodIn wsL_areSumsSo (wsV RL 101 RX4 yX4_sealed wsX4_sealed) := goodIn_app (goodIn_of _ (by decide +kernel)) ggL_areSumsSo_X4_sealed
set_option maxRecDepth 20000 in
theorem ggL_areSumsSo_X4_committed : GoodIn wsL_areSumsSo wsX4_committed := goodIn_r _ [112, 74, 30, 113, 114, 115, 116, 117, 118, 119, 120, 121, 122, 123, 124, 125, 126, 133, 134] (by decide +kernel) (by decide +kernel)
set_option maxRecDepth 20000 in
theorem gL_areSumsSo_X4_committed : GoodIn wsL_areSumsSo (wsV RL 75 RX4 yX4_committed wsX4_committed) := goodIn_app (goodIn_of _ (by decide +kernel)) ggL_areSumsSo_X4_committed
theorem dL_areSumsSo_0 : decode cL_areSumsSo 0 = .ok (.iconst 0, 1) := by decide +kernel
theorem dL_areSumsSo_1 : decode cL_areSumsSo 1 = .ok (.istore_n 1, 1) := by decide +kernel
theorem dL_areSumsSo_2 : decode cL_areSumsSo 2 = .ok (.iconst 0, 1) := by decide +kernel
theorem dL_areSumsSo_3 : decode cL_areSumsSo 3 = .ok (.istore_n 2, 1) := by decide +kernel
theorem dL_areSumsSo_4 : decode cL_areSumsSo 4 = .ok (.iconst 0, 1) := by decide +kernel
theorem dL_areSumsSo_5 : decode cL_areSumsSo 5 = .ok (.istore_n 3, 1) := by decide +kernel
theorem dL_areSumsSo_6 : decode cL_areSumsSo 6 = .ok (.iconst 0, 1) := by decide +kernel
theorem dL_areSumsSo_7 : decode cL_areSumsSo 7 = .ok (.istore 4, 2) := by decide +kernel
theorem dL_areSumsSo_9 : decode cL_areSumsSo 9 = .ok (.iload 4, 2) := by decide +kernel
theorem dL_areSumsSo_11 : decode cL_areSumsSo 11 = .ok (.bipush 32, 2) := by decide +kernel
theorem dL_areSumsSo_13 : decode cL_areSumsSo 13 = .ok (.if_icmp .ge 210, 3) := by decide +kernel
theorem dL_areSumsSo_16 : decode cL_areSumsSo 16 = .ok (.iconst 0, 1) := by decide +kernel
theorem dL_areSumsSo_17 : decode cL_areSumsSo 17 = .ok (.istore 5, 2) := by decide +kernel
theorem dL_areSumsSo_19 : decode cL_areSumsSo 19 = .ok (.iconst 0, 1) := by decide +kernel
theorem dL_areSumsSo_20 : decode cL_areSumsSo 20 = .ok (.istore 6, 2) := by decide +kernel
theorem dL_areSumsSo_22 : decode cL_areSumsSo 22 = .ok (.iload 6, 2) := by decide +kernel
theorem dL_areSumsSo_24 : decode cL_areSumsSo 24 = .ok (.iconst 4, 1) := by decide +kernel
theorem dL_areSumsSo_25 : decode cL_areSumsSo 25 = .ok (.if_icmp .ge 67, 3) := by decide +kernel
theorem dL_areSumsSo_28 : decode cL_areSumsSo 28 = .ok (.iconst 0, 1) := by decide +kernel
theorem dL_areSumsSo_29 : decode cL_areSumsSo 29 = .ok (.istore 7, 2) := by decide +kernel
theorem dL_areSumsSo_31 : decode cL_areSumsSo 31 = .ok (.iload 7, 2) := by decide +kernel
theorem dL_areSumsSo_33 : decode cL_areSumsSo 33 = .ok (.aload_n 0, 1) := by decide +kernel
theorem dL_areSumsSo_34 : decode cL_areSumsSo 34 = .ok (.iload 6, 2) := by decide +kernel
theorem dL_areSumsSo_36 : decode cL_areSumsSo 36 = .ok (.invokevirtual 88, 3) := by decide +kernel
theorem dL_areSumsSo_39 : decode cL_areSumsSo 39 = .ok (.if_icmp .ge 47, 3) := by decide +kernel
theorem dL_areSumsSo_42 : decode cL_areSumsSo 42 = .ok (.iload 5, 2) := by decide +kernel
theorem dL_areSumsSo_44 : decode cL_areSumsSo 44 = .ok (.aload_n 0, 1) := by decide +kernel
theorem dL_areSumsSo_45 : decode cL_areSumsSo 45 = .ok (.iload 6, 2) := by decide +kernel
theorem dL_areSumsSo_47 : decode cL_areSumsSo 47 = .ok (.iload 7, 2) := by decide +kernel
theorem dL_areSumsSo_49 : decode cL_areSumsSo 49 = .ok (.invokevirtual 116, 3) := by decide +kernel
theorem dL_areSumsSo_52 : decode cL_areSumsSo 52 = .ok (.sipush 1000, 3) := by decide +kernel
theorem dL_areSumsSo_55 : decode cL_areSumsSo 55 = .ok (.idiv, 1) := by decide +kernel
theorem dL_areSumsSo_56 : decode cL_areSumsSo 56 = .ok (.iload 4, 2) := by decide +kernel
theorem dL_areSumsSo_58 : decode cL_areSumsSo 58 = .ok (.if_icmp .ne 18, 3) := by decide +kernel
theorem dL_areSumsSo_61 : decode cL_areSumsSo 61 = .ok (.aload_n 0, 1) := by decide +kernel
theorem dL_areSumsSo_62 : decode cL_areSumsSo 62 = .ok (.iload 6, 2) := by decide +kernel
theorem dL_areSumsSo_64 : decode cL_areSumsSo 64 = .ok (.iload 7, 2) := by decide +kernel
theorem dL_areSumsSo_66 : decode cL_areSumsSo 66 = .ok (.invokevirtual 116, 3) := by decide +kernel
theorem dL_areSumsSo_69 : decode cL_areSumsSo 69 = .ok (.sipush 1000, 3) := by decide +kernel
theorem dL_areSumsSo_72 : decode cL_areSumsSo 72 = .ok (.irem, 1) := by decide +kernel
theorem dL_areSumsSo_73 : decode cL_areSumsSo 73 = .ok (.goto 4, 3) := by decide +kernel
theorem dL_areSumsSo_76 : decode cL_areSumsSo 76 = .ok (.iconst 0, 1) := by decide +kernel
theorem dL_areSumsSo_77 : decode cL_areSumsSo 77 = .ok (.iadd, 1) := by decide +kernel
theorem dL_areSumsSo_78 : decode cL_areSumsSo 78 = .ok (.istore 5, 2) := by decide +kernel
theorem dL_areSumsSo_80 : decode cL_areSumsSo 80 = .ok (.iinc 7 1, 3) := by decide +kernel
theorem dL_areSumsSo_83 : decode cL_areSumsSo 83 = .ok (.goto (-52), 3) := by decide +kernel
theorem dL_areSumsSo_86 : decode cL_areSumsSo 86 = .ok (.iinc 6 1, 3) := by decide +kernel
theorem dL_areSumsSo_89 : decode cL_areSumsSo 89 = .ok (.goto (-67), 3) := by decide +kernel
theorem dL_areSumsSo_92 : decode cL_areSumsSo 92 = .ok (.iload_n 1, 1) := by decide +kernel
theorem dL_areSumsSo_93 : decode cL_areSumsSo 93 = .ok (.aload_n 0, 1) := by decide +kernel
theorem dL_areSumsSo_94 : decode cL_areSumsSo 94 = .ok (.iload 4, 2) := by decide +kernel
theorem dL_areSumsSo_96 : decode cL_areSumsSo 96 = .ok (.invokevirtual 104, 3) := by decide +kernel
theorem dL_areSumsSo_99 : decode cL_areSumsSo 99 = .ok (.iadd, 1) := by decide +kernel
theorem dL_areSumsSo_100 : decode cL_areSumsSo 100 = .ok (.istore_n 1, 1) := by decide +kernel
theorem dL_areSumsSo_101 : decode cL_areSumsSo 101 = .ok (.aload_n 0, 1) := by decide +kernel
theorem dL_areSumsSo_102 : decode cL_areSumsSo 102 = .ok (.iload 4, 2) := by decide +kernel
theorem dL_areSumsSo_104 : decode cL_areSumsSo 104 = .ok (.invokevirtual 107, 3) := by decide +kernel
theorem dL_areSumsSo_107 : decode cL_areSumsSo 107 = .ok (.aload_n 0, 1) := by decide +kernel
theorem dL_areSumsSo_108 : decode cL_areSumsSo 108 = .ok (.iload 4, 2) := by decide +kernel
theorem dL_areSumsSo_110 : decode cL_areSumsSo 110 = .ok (.invokevirtual 119, 3) := by decide +kernel
theorem dL_areSumsSo_113 : decode cL_areSumsSo 113 = .ok (.iadd, 1) := by decide +kernel
theorem dL_areSumsSo_114 : decode cL_areSumsSo 114 = .ok (.aload_n 0, 1) := by decide +kernel
theorem dL_areSumsSo_115 : decode cL_areSumsSo 115 = .ok (.iload 4, 2) := by decide +kernel
theorem dL_areSumsSo_117 : decode cL_areSumsSo 117 = .ok (.invokevirtual 122, 3) := by decide +kernel
theorem dL_areSumsSo_120 : decode cL_areSumsSo 120 = .ok (.if_icmp .ne 95, 3) := by decide +kernel
theorem dL_areSumsSo_123 : decode cL_areSumsSo 123 = .ok (.aload_n 0, 1) := by decide +kernel
theorem dL_areSumsSo_124 : decode cL_areSumsSo 124 = .ok (.iload 4, 2) := by decide +kernel
theorem dL_areSumsSo_126 : decode cL_areSumsSo 126 = .ok (.invokevirtual 113, 3) := by decide +kernel
theorem dL_areSumsSo_129 : decode cL_areSumsSo 129 = .ok (.iload 5, 2) := by decide +kernel
theorem dL_areSumsSo_131 : decode cL_areSumsSo 131 = .ok (.if_icmp .ne 84, 3) := by decide +kernel
theorem dL_areSumsSo_134 : decode cL_areSumsSo 134 = .ok (.aload_n 0, 1) := by decide +kernel
theorem dL_areSumsSo_135 : decode cL_areSumsSo 135 = .ok (.iload 4, 2) := by decide +kernel
theorem dL_areSumsSo_137 : decode cL_areSumsSo 137 = .ok (.invokevirtual 110, 3) := by decide +kernel
theorem dL_areSumsSo_140 : decode cL_areSumsSo 140 = .ok (.aload_n 0, 1) := by decide +kernel
theorem dL_areSumsSo_141 : decode cL_areSumsSo 141 = .ok (.iload 4, 2) := by decide +kernel
theorem dL_areSumsSo_143 : decode cL_areSumsSo 143 = .ok (.invokevirtual 107, 3) := by decide +kernel
theorem dL_areSumsSo_146 : decode cL_areSumsSo 146 = .ok (.if_icmp .gt 69, 3) := by decide +kernel
theorem dL_areSumsSo_149 : decode cL_areSumsSo 149 = .ok (.aload_n 0, 1) := by decide +kernel
theorem dL_areSumsSo_150 : decode cL_areSumsSo 150 = .ok (.iload 4, 2) := by decide +kernel
theorem dL_areSumsSo_152 : decode cL_areSumsSo 152 = .ok (.invokevirtual 125, 3) := by decide +kernel
theorem dL_areSumsSo_155 : decode cL_areSumsSo 155 = .ok (.aload_n 0, 1) := by decide +kernel
theorem dL_areSumsSo_156 : decode cL_areSumsSo 156 = .ok (.iload 4, 2) := by decide +kernel
theorem dL_areSumsSo_158 : decode cL_areSumsSo 158 = .ok (.invokevirtual 104, 3) := by decide +kernel
theorem dL_areSumsSo_161 : decode cL_areSumsSo 161 = .ok (.if_icmp .gt 54, 3) := by decide +kernel
theorem dL_areSumsSo_164 : decode cL_areSumsSo 164 = .ok (.aload_n 0, 1) := by decide +kernel
theorem dL_areSumsSo_165 : decode cL_areSumsSo 165 = .ok (.iload 4, 2) := by decide +kernel
theorem dL_areSumsSo_167 : decode cL_areSumsSo 167 = .ok (.invokevirtual 107, 3) := by decide +kernel
theorem dL_areSumsSo_170 : decode cL_areSumsSo 170 = .ok (.aload_n 0, 1) := by decide +kernel
theorem dL_areSumsSo_171 : decode cL_areSumsSo 171 = .ok (.iload 4, 2) := by decide +kernel
theorem dL_areSumsSo_173 : decode cL_areSumsSo 173 = .ok (.invokevirtual 104, 3) := by decide +kernel
theorem dL_areSumsSo_176 : decode cL_areSumsSo 176 = .ok (.if_icmp .lt 39, 3) := by decide +kernel
theorem dL_areSumsSo_179 : decode cL_areSumsSo 179 = .ok (.aload_n 0, 1) := by decide +kernel
theorem dL_areSumsSo_180 : decode cL_areSumsSo 180 = .ok (.iload 4, 2) := by decide +kernel
theorem dL_areSumsSo_182 : decode cL_areSumsSo 182 = .ok (.invokevirtual 107, 3) := by decide +kernel
theorem dL_areSumsSo_185 : decode cL_areSumsSo 185 = .ok (.bipush 100, 2) := by decide +kernel
theorem dL_areSumsSo_187 : decode cL_areSumsSo 187 = .ok (.aload_n 0, 1) := by decide +kernel
theorem dL_areSumsSo_188 : decode cL_areSumsSo 188 = .ok (.iload 4, 2) := by decide +kernel
theorem dL_areSumsSo_190 : decode cL_areSumsSo 190 = .ok (.invokevirtual 104, 3) := by decide +kernel
theorem dL_areSumsSo_193 : decode cL_areSumsSo 193 = .ok (.imul, 1) := by decide +kernel
theorem dL_areSumsSo_194 : decode cL_areSumsSo 194 = .ok (.if_icmp .gt 21, 3) := by decide +kernel
theorem dL_areSumsSo_197 : decode cL_areSumsSo 197 = .ok (.aload_n 0, 1) := by decide +kernel
theorem dL_areSumsSo_198 : decode cL_areSumsSo 198 = .ok (.iload 4, 2) := by decide +kernel
theorem dL_areSumsSo_200 : decode cL_areSumsSo 200 = .ok (.invokevirtual 128, 3) := by decide +kernel
theorem dL_areSumsSo_203 : decode cL_areSumsSo 203 = .ok (.aload_n 0, 1) := by decide +kernel
theorem dL_areSumsSo_204 : decode cL_areSumsSo 204 = .ok (.iload 4, 2) := by decide +kernel
theorem dL_areSumsSo_206 : decode cL_areSumsSo 206 = .ok (.bipush 8, 2) := by decide +kernel
theorem dL_areSumsSo_208 : decode cL_areSumsSo 208 = .ok (.irem, 1) := by decide +kernel
theorem dL_areSumsSo_209 : decode cL_areSumsSo 209 = .ok (.invokevirtual 128, 3) := by decide +kernel
theorem dL_areSumsSo_212 : decode cL_areSumsSo 212 = .ok (.if_icmp .eq 5, 3) := by decide +kernel
theorem dL_areSumsSo_215 : decode cL_areSumsSo 215 = .ok (.iconst 0, 1) := by decide +kernel
theorem dL_areSumsSo_216 : decode cL_areSumsSo 216 = .ok (.ireturn, 1) := by decide +kernel
theorem dL_areSumsSo_217 : decode cL_areSumsSo 217 = .ok (.iinc 4 1, 3) := by decide +kernel
theorem dL_areSumsSo_220 : decode cL_areSumsSo 220 = .ok (.goto (-211), 3) := by decide +kernel
theorem dL_areSumsSo_223 : decode cL_areSumsSo 223 = .ok (.iconst 0, 1) := by decide +kernel
theorem dL_areSumsSo_224 : decode cL_areSumsSo 224 = .ok (.istore 4, 2) := by decide +kernel
theorem dL_areSumsSo_226 : decode cL_areSumsSo 226 = .ok (.iload 4, 2) := by decide +kernel
theorem dL_areSumsSo_228 : decode cL_areSumsSo 228 = .ok (.aload_n 0, 1) := by decide +kernel
theorem dL_areSumsSo_229 : decode cL_areSumsSo 229 = .ok (.invokevirtual 53, 3) := by decide +kernel
theorem dL_areSumsSo_232 : decode cL_areSumsSo 232 = .ok (.if_icmp .ge 37, 3) := by decide +kernel
theorem dL_areSumsSo_235 : decode cL_areSumsSo 235 = .ok (.iload_n 2, 1) := by decide +kernel
theorem dL_areSumsSo_236 : decode cL_areSumsSo 236 = .ok (.aload_n 0, 1) := by decide +kernel
theorem dL_areSumsSo_237 : decode cL_areSumsSo 237 = .ok (.iload 4, 2) := by decide +kernel
theorem dL_areSumsSo_239 : decode cL_areSumsSo 239 = .ok (.invokevirtual 98, 3) := by decide +kernel
theorem dL_areSumsSo_242 : decode cL_areSumsSo 242 = .ok (.iadd, 1) := by decide +kernel
theorem dL_areSumsSo_243 : decode cL_areSumsSo 243 = .ok (.istore_n 2, 1) := by decide +kernel
theorem dL_areSumsSo_244 : decode cL_areSumsSo 244 = .ok (.iload_n 3, 1) := by decide +kernel
theorem dL_areSumsSo_245 : decode cL_areSumsSo 245 = .ok (.ifCond .ne 12, 3) := by decide +kernel
theorem dL_areSumsSo_248 : decode cL_areSumsSo 248 = .ok (.aload_n 0, 1) := by decide +kernel
theorem dL_areSumsSo_249 : decode cL_areSumsSo 249 = .ok (.iload 4, 2) := by decide +kernel
theorem dL_areSumsSo_251 : decode cL_areSumsSo 251 = .ok (.invokevirtual 101, 3) := by decide +kernel
theorem dL_areSumsSo_254 : decode cL_areSumsSo 254 = .ok (.ifCond .lt 7, 3) := by decide +kernel
theorem dL_areSumsSo_257 : decode cL_areSumsSo 257 = .ok (.iconst 1, 1) := by decide +kernel
theorem dL_areSumsSo_258 : decode cL_areSumsSo 258 = .ok (.goto 4, 3) := by decide +kernel
theorem dL_areSumsSo_261 : decode cL_areSumsSo 261 = .ok (.iconst 0, 1) := by decide +kernel
theorem dL_areSumsSo_262 : decode cL_areSumsSo 262 = .ok (.istore_n 3, 1) := by decide +kernel
theorem dL_areSumsSo_263 : decode cL_areSumsSo 263 = .ok (.iinc 4 1, 3) := by decide +kernel
theorem dL_areSumsSo_266 : decode cL_areSumsSo 266 = .ok (.goto (-40), 3) := by decide +kernel
theorem dL_areSumsSo_269 : decode cL_areSumsSo 269 = .ok (.aload_n 0, 1) := by decide +kernel
theorem dL_areSumsSo_270 : decode cL_areSumsSo 270 = .ok (.invokevirtual 75, 3) := by decide +kernel
theorem dL_areSumsSo_273 : decode cL_areSumsSo 273 = .ok (.iload_n 2, 1) := by decide +kernel
theorem dL_areSumsSo_274 : decode cL_areSumsSo 274 = .ok (.iadd, 1) := by decide +kernel
theorem dL_areSumsSo_275 : decode cL_areSumsSo 275 = .ok (.iload_n 1, 1) := by decide +kernel
theorem dL_areSumsSo_276 : decode cL_areSumsSo 276 = .ok (.if_icmp .gt 21, 3) := by decide +kernel
theorem dL_areSumsSo_279 : decode cL_areSumsSo 279 = .ok (.iload_n 3, 1) := by decide +kernel
theorem dL_areSumsSo_280 : decode cL_areSumsSo 280 = .ok (.ifCond .ne 13, 3) := by decide +kernel
theorem dL_areSumsSo_283 : decode cL_areSumsSo 283 = .ok (.aload_n 0, 1) := by decide +kernel
theorem dL_areSumsSo_284 : decode cL_areSumsSo 284 = .ok (.invokevirtual 75, 3) := by decide +kernel
theorem dL_areSumsSo_287 : decode cL_areSumsSo 287 = .ok (.iload_n 2, 1) := by decide +kernel
theorem dL_areSumsSo_288 : decode cL_areSumsSo 288 = .ok (.iadd, 1) := by decide +kernel
theorem dL_areSumsSo_289 : decode cL_areSumsSo 289 = .ok (.iload_n 1, 1) := by decide +kernel
theorem dL_areSumsSo_290 : decode cL_areSumsSo 290 = .ok (.if_icmp .ne 7, 3) := by decide +kernel
theorem dL_areSumsSo_293 : decode cL_areSumsSo 293 = .ok (.iconst 1, 1) := by decide +kernel
theorem dL_areSumsSo_294 : decode cL_areSumsSo 294 = .ok (.goto 4, 3) := by decide +kernel
theorem dL_areSumsSo_297 : decode cL_areSumsSo 297 = .ok (.iconst 0, 1) := by decide +kernel
theorem dL_areSumsSo_298 : decode cL_areSumsSo 298 = .ok (.ireturn, 1) := by decide +kernel
set_option maxRecDepth 20000 in
theorem ggL_areChannelsSo_X4_workers : GoodIn wsL_areChannelsSo wsX4_workers := goodIn_r _ [5, 6, 104, 105, 106, 107, 108, 109, 110, 111, 112, 113, 114, 115, 116, 117] (by decide +kernel) (by decide +kernel)
set_option maxRecDepth 20000 in
theorem gL_areChannelsSo_X4_workers : GoodIn wsL_areChannelsSo (wsV RL 53 RX4 yX4_workers wsX4_workers) := goodIn_app (goodIn_of _ (by decide +kernel)) ggL_areChannelsSo_X4_workers
set_option maxRecDepth 20000 in
theorem ggL_areChannelsSo_X4_queued : GoodIn wsL_areChannelsSo wsX4_queued := goodIn_ca (goodIn_r _ [10, 11, 12, 13, 4, 14, 15, 16, 17, 18, 19, 20, 6, 21, 22, 23, 24, 25, 26, 27, 28, 29, 104, 105, 106, 107, 108, 109, 110, 111, 112, 113, 114, 115, 116, 117, 118, 119, 120] (by decide +kernel) (by decide +kernel)) (goodIn_sub (fun _ h => List.mem_cons_of_mem _ (List.mem_append_right _ h)) (by decide +kernel))
set_option maxRecDepth 20000 in
theorem gL_areChannelsSo_X4_queued : GoodIn wsL_areChannelsSo (wsV RL 91 RX4 yX4_queued wsX4_queued) := goodIn_app (goodIn_of _ (by decide +kernel)) ggL_areChannelsSo_X4_queued
set_option maxRecDepth 20000 in
theorem ggL_areChannelsSo_X4_itemAt : GoodIn wsL_areChannelsSo wsX4_itemAt := goodIn_ca (goodIn_r _ [33, 15, 16, 11, 12, 13, 4, 14, 17, 18, 19, 20, 6, 21, 22, 23, 24, 25, 26, 27, 28, 29, 34, 35, 36, 37, 38, 104, 105, 106, 107, 108, 109, 110, 111, 112, 113, 114, 115, 116, 117, 118, 119, 120] (by decide +kernel) (by decide +kernel)) (goodIn_sub (fun _ h => List.mem_cons_of_mem _ (List.mem_append_right _ h)) (by decide +kernel))
set_option maxRecDepth 20000 in
theorem gL_areChannelsSo_X4_itemAt : GoodIn wsL_areChannelsSo (wsV RL 131 RX4 yX4_itemAt wsX4_itemAt) := goodIn_app (goodIn_of _ (by decide +kernel)) ggL_areChannelsSo_X4_itemAt
set_option maxRecDepth 20000 in
theorem ggL_areChannelsSo_X4_underWay : GoodIn wsL_areChannelsSo wsX4_underWay := goodIn_r _ [42, 43, 104, 105, 106, 107, 108, 109, 110, 111, 112, 113, 114, 115, 116, 117] (by decide +kernel) (by decide +kernel)
set_option maxRecDepth 20000 in
theorem gL_areChannelsSo_X4_underWay : GoodIn wsL_areChannelsSo (wsV RL 69 RX4 yX4_underWay wsX4_underWay) := goodIn_app (goodIn_of _ (by decide +kernel)) ggL_areChannelsSo_X4_underWay
set_option maxRecDepth 20000 in
theorem ggL_areChannelsSo_X4_offset : GoodIn wsL_areChannelsSo wsX4_offset := goodIn_ca (goodIn_r _ [47, 48, 49, 12, 13, 4, 14, 15, 16, 104, 105, 106, 107, 108, 109, 110, 111, 112, 113, 114, 115, 116, 117, 121, 122, 123, 124] (by decide +kernel) (by decide +kernel)) (goodIn_sub (fun _ h => List.mem_cons_of_mem _ (List.mem_append_right _ h)) (by decide +kernel))
set_option maxRecDepth 20000 in
theorem gL_areChannelsSo_X4_offset : GoodIn wsL_areChannelsSo (wsV RL 81 RX4 yX4_offset wsX4_offset) := goodIn_app (goodIn_of _ (by decide +kernel)) ggL_areChannelsSo_X4_offset
set_option maxRecDepth 20000 in
theorem ggL_areChannelsSo_X4_eventAt : GoodIn wsL_areChannelsSo wsX4_eventAt := goodIn_ca (goodIn_r _ [53, 15, 16, 54, 55, 12, 13, 4, 14, 56, 57, 58, 59, 60, 61, 104, 105, 106, 107, 108, 109, 110, 111, 112, 113, 114, 115, 116, 117, 125, 126] (by decide +kernel) (by decide +kernel)) (goodIn_sub (fun _ h => List.mem_cons_of_mem _ (List.mem_append_right _ h)) (by decide +kernel))
set_option maxRecDepth 20000 in
theorem gL_areChannelsSo_X4_eventAt : GoodIn wsL_areChannelsSo (wsV RL 116 RX4 yX4_eventAt wsX4_eventAt) := goodIn_app (goodIn_of _ (by decide +kernel)) ggL_areChannelsSo_X4_eventAt
set_option maxRecDepth 20000 in
theorem ggL_areChannelsSo_X4_workerOf : GoodIn wsL_areChannelsSo wsX4_workerOf := goodIn_ca (goodIn_r _ [65, 66, 67, 4, 68, 15, 16, 69, 70, 71, 72, 6, 73, 74, 75, 104, 105, 106, 107, 108, 109, 110, 111, 112, 113, 114, 115, 116, 117] (by decide +kernel) (by decide +kernel)) (goodIn_sub (fun _ h => List.mem_cons_of_mem _ (List.mem_append_right _ h)) (by decide +kernel))
set_option maxRecDepth 20000 in
theorem gL_areChannelsSo_X4_workerOf : GoodIn wsL_areChannelsSo (wsV RL 128 RX4 yX4_workerOf wsX4_workerOf) := goodIn_app (goodIn_of _ (by decide +kernel)) ggL_areChannelsSo_X4_workerOf
set_option maxRecDepth 20000 in
theorem ggL_areChannelsSo_X4_isBlocked : GoodIn wsL_areChannelsSo wsX4_isBlocked := goodIn_ca (goodIn_r _ [79, 11, 12, 13, 4, 14, 15, 16, 17, 18, 19, 20, 6, 80, 81, 82, 24, 83, 84, 27, 28, 29, 104, 105, 106, 107, 108, 109, 110, 111, 112, 113, 114, 115, 116, 117, 118, 119, 120] (by decide +kernel) (by decide +kernel)) (goodIn_sub (fun _ h => List.mem_cons_of_mem _ (List.mem_append_right _ h)) (by decide +kernel))
set_option maxRecDepth 20000 in
theorem gL_areChannelsSo_X4_isBlocked : GoodIn wsL_areChannelsSo (wsV RL 94 RX4 yX4_isBlocked wsX4_isBlocked) := goodIn_app (goodIn_of _ (by decide +kernel)) ggL_areChannelsSo_X4_isBlocked
set_option maxRecDepth 20000 in
theorem ggL_areChannelsSo_X4_hasSent : GoodIn wsL_areChannelsSo wsX4_hasSent := goodIn_ca (goodIn_r _ [88, 43, 48, 89, 12, 13, 4, 14, 15, 16, 104, 105, 106, 107, 108, 109, 110, 111, 112, 113, 114, 115, 116, 117, 121, 122, 123, 124] (by decide +kernel) (by decide +kernel)) (goodIn_sub (fun _ h => List.mem_cons_of_mem _ (List.mem_append_right _ h)) (by decide +kernel))
set_option maxRecDepth 20000 in
theorem gL_areChannelsSo_X4_hasSent : GoodIn wsL_areChannelsSo (wsV RL 84 RX4 yX4_hasSent wsX4_hasSent) := goodIn_app (goodIn_of _ (by decide +kernel)) ggL_areChannelsSo_X4_hasSent
set_option maxRecDepth 20000 in
theorem ggL_areChannelsSo_X4_groupsOf : GoodIn wsL_areChannelsSo wsX4_groupsOf := goodIn_ca (goodIn_r _ [93, 6, 17, 18, 19, 4, 20, 15, 16, 73, 74, 75, 104, 105, 106, 107, 108, 109, 110, 111, 112, 113, 114, 115, 116, 117] (by decide +kernel) (by decide +kernel)) (goodIn_sub (fun _ h => List.mem_cons_of_mem _ (List.mem_append_right _ h)) (by decide +kernel))
set_option maxRecDepth 20000 in
theorem gL_areChannelsSo_X4_groupsOf : GoodIn wsL_areChannelsSo (wsV RL 134 RX4 yX4_groupsOf wsX4_groupsOf) := goodIn_app (goodIn_of _ (by decide +kernel)) ggL_areChannelsSo_X4_groupsOf
set_option maxRecDepth 20000 in
theorem ggL_areChannelsSo_X4_sealed : GoodIn wsL_areChannelsSo wsX4_sealed := goodIn_ca (goodIn_r _ [97, 98, 17, 18, 19, 4, 20, 15, 16, 6, 104, 105, 106, 107, 108, 109, 110, 111, 112, 113, 114, 115, 116, 117] (by decide +kernel) (by decide +kernel)) (goodIn_sub (fun _ h => List.mem_cons_of_mem _ (List.mem_append_right _ h)) (by decide +kernel))
set_option maxRecDepth 20000 in
theorem gL_areChannelsSo_X4_sealed : GoodIn wsL_areChannelsSo (wsV RL 101 RX4 yX4_sealed wsX4_sealed) := goodIn_app (goodIn_of _ (by decide +kernel)) ggL_areChannelsSo_X4_sealed
set_option maxRecDepth 20000 in
theorem ggL_areChannelsSo_X4_complete : GoodIn wsL_areChannelsSo wsX4_complete := goodIn_r _ [102, 103, 104, 105, 106, 107, 108, 109, 110, 111, 112, 113, 114, 115, 116, 117] (by decide +kernel) (by decide +kernel)
set_option maxRecDepth 20000 in
theorem gL_areChannelsSo_X4_complete : GoodIn wsL_areChannelsSo (wsV RL 72 RX4 yX4_complete wsX4_complete) := goodIn_app (goodIn_of _ (by decide +kernel)) ggL_areChannelsSo_X4_complete
theorem dL_areChannelsSo_0 : decode cL_areChannelsSo 0 = .ok (.iconst 0, 1) := by decide +kernel
theorem dL_areChannelsSo_1 : decode cL_areChannelsSo 1 = .ok (.istore_n 1, 1) := by decide +kernel
theorem dL_areChannelsSo_2 : decode cL_areChannelsSo 2 = .ok (.iconst 0, 1) := by decide +kernel
theorem dL_areChannelsSo_3 : decode cL_areChannelsSo 3 = .ok (.istore_n 2, 1) := by decide +kernel
theorem dL_areChannelsSo_4 : decode cL_areChannelsSo 4 = .ok (.iload_n 2, 1) := by decide +kernel
theorem dL_areChannelsSo_5 : decode cL_areChannelsSo 5 = .ok (.aload_n 0, 1) := by decide +kernel
theorem dL_areChannelsSo_6 : decode cL_areChannelsSo 6 = .ok (.invokevirtual 53, 3) := by decide +kernel
theorem dL_areChannelsSo_9 : decode cL_areChannelsSo 9 = .ok (.if_icmp .ge 334, 3) := by decide +kernel
theorem dL_areChannelsSo_12 : decode cL_areChannelsSo 12 = .ok (.iconst 0, 1) := by decide +kernel
theorem dL_areChannelsSo_13 : decode cL_areChannelsSo 13 = .ok (.istore_n 3, 1) := by decide +kernel
theorem dL_areChannelsSo_14 : decode cL_areChannelsSo 14 = .ok (.iconst 0, 1) := by decide +kernel
theorem dL_areChannelsSo_15 : decode cL_areChannelsSo 15 = .ok (.istore 4, 2) := by decide +kernel
theorem dL_areChannelsSo_17 : decode cL_areChannelsSo 17 = .ok (.iload 4, 2) := by decide +kernel
theorem dL_areChannelsSo_19 : decode cL_areChannelsSo 19 = .ok (.iconst 4, 1) := by decide +kernel
theorem dL_areChannelsSo_20 : decode cL_areChannelsSo 20 = .ok (.if_icmp .ge 241, 3) := by decide +kernel
theorem dL_areChannelsSo_23 : decode cL_areChannelsSo 23 = .ok (.iconst 0, 1) := by decide +kernel
theorem dL_areChannelsSo_24 : decode cL_areChannelsSo 24 = .ok (.istore 5, 2) := by decide +kernel
theorem dL_areChannelsSo_26 : decode cL_areChannelsSo 26 = .ok (.iconst 0, 1) := by decide +kernel
theorem dL_areChannelsSo_27 : decode cL_areChannelsSo 27 = .ok (.istore 6, 2) := by decide +kernel
theorem dL_areChannelsSo_29 : decode cL_areChannelsSo 29 = .ok (.iconst 0, 1) := by decide +kernel
theorem dL_areChannelsSo_30 : decode cL_areChannelsSo 30 = .ok (.istore 7, 2) := by decide +kernel
theorem dL_areChannelsSo_32 : decode cL_areChannelsSo 32 = .ok (.iload 7, 2) := by decide +kernel
theorem dL_areChannelsSo_34 : decode cL_areChannelsSo 34 = .ok (.aload_n 0, 1) := by decide +kernel
theorem dL_areChannelsSo_35 : decode cL_areChannelsSo 35 = .ok (.iload 4, 2) := by decide +kernel
theorem dL_areChannelsSo_37 : decode cL_areChannelsSo 37 = .ok (.iload_n 2, 1) := by decide +kernel
theorem dL_areChannelsSo_38 : decode cL_areChannelsSo 38 = .ok (.invokevirtual 91, 3) := by decide +kernel
theorem dL_areChannelsSo_41 : decode cL_areChannelsSo 41 = .ok (.if_icmp .ge 132, 3) := by decide +kernel
theorem dL_areChannelsSo_44 : decode cL_areChannelsSo 44 = .ok (.aload_n 0, 1) := by decide +kernel
theorem dL_areChannelsSo_45 : decode cL_areChannelsSo 45 = .ok (.iload 4, 2) := by decide +kernel
theorem dL_areChannelsSo_47 : decode cL_areChannelsSo 47 = .ok (.iload_n 2, 1) := by decide +kernel
theorem dL_areChannelsSo_48 : decode cL_areChannelsSo 48 = .ok (.iload 7, 2) := by decide +kernel
theorem dL_areChannelsSo_50 : decode cL_areChannelsSo 50 = .ok (.invokevirtual 131, 3) := by decide +kernel
theorem dL_areChannelsSo_53 : decode cL_areChannelsSo 53 = .ok (.istore 8, 2) := by decide +kernel
theorem dL_areChannelsSo_55 : decode cL_areChannelsSo 55 = .ok (.iload 5, 2) := by decide +kernel
theorem dL_areChannelsSo_57 : decode cL_areChannelsSo 57 = .ok (.iload 8, 2) := by decide +kernel
theorem dL_areChannelsSo_59 : decode cL_areChannelsSo 59 = .ok (.ifCond .ge 17, 3) := by decide +kernel
theorem dL_areChannelsSo_62 : decode cL_areChannelsSo 62 = .ok (.iload 8, 2) := by decide +kernel
theorem dL_areChannelsSo_64 : decode cL_areChannelsSo 64 = .ok (.aload_n 0, 1) := by decide +kernel
theorem dL_areChannelsSo_65 : decode cL_areChannelsSo 65 = .ok (.invokevirtual 69, 3) := by decide +kernel
theorem dL_areChannelsSo_68 : decode cL_areChannelsSo 68 = .ok (.ineg, 1) := by decide +kernel
theorem dL_areChannelsSo_69 : decode cL_areChannelsSo 69 = .ok (.if_icmp .ne 7, 3) := by decide +kernel
theorem dL_areChannelsSo_72 : decode cL_areChannelsSo 72 = .ok (.iconst 1, 1) := by decide +kernel
theorem dL_areChannelsSo_73 : decode cL_areChannelsSo 73 = .ok (.goto 4, 3) := by decide +kernel
theorem dL_areChannelsSo_76 : decode cL_areChannelsSo 76 = .ok (.iconst 0, 1) := by decide +kernel
theorem dL_areChannelsSo_77 : decode cL_areChannelsSo 77 = .ok (.iadd, 1) := by decide +kernel
theorem dL_areChannelsSo_78 : decode cL_areChannelsSo 78 = .ok (.istore 5, 2) := by decide +kernel
theorem dL_areChannelsSo_80 : decode cL_areChannelsSo 80 = .ok (.iload 8, 2) := by decide +kernel
theorem dL_areChannelsSo_82 : decode cL_areChannelsSo 82 = .ok (.ifCond .le 33, 3) := by decide +kernel
theorem dL_areChannelsSo_85 : decode cL_areChannelsSo 85 = .ok (.iload 6, 2) := by decide +kernel
theorem dL_areChannelsSo_87 : decode cL_areChannelsSo 87 = .ok (.aload_n 0, 1) := by decide +kernel
theorem dL_areChannelsSo_88 : decode cL_areChannelsSo 88 = .ok (.iload 4, 2) := by decide +kernel
theorem dL_areChannelsSo_90 : decode cL_areChannelsSo 90 = .ok (.invokevirtual 81, 3) := by decide +kernel
theorem dL_areChannelsSo_93 : decode cL_areChannelsSo 93 = .ok (.if_icmp .ge 22, 3) := by decide +kernel
theorem dL_areChannelsSo_96 : decode cL_areChannelsSo 96 = .ok (.aload_n 0, 1) := by decide +kernel
theorem dL_areChannelsSo_97 : decode cL_areChannelsSo 97 = .ok (.iload 4, 2) := by decide +kernel
theorem dL_areChannelsSo_99 : decode cL_areChannelsSo 99 = .ok (.iload 6, 2) := by decide +kernel
theorem dL_areChannelsSo_101 : decode cL_areChannelsSo 101 = .ok (.invokevirtual 116, 3) := by decide +kernel
theorem dL_areChannelsSo_104 : decode cL_areChannelsSo 104 = .ok (.iload 8, 2) := by decide +kernel
theorem dL_areChannelsSo_106 : decode cL_areChannelsSo 106 = .ok (.if_icmp .eq 9, 3) := by decide +kernel
theorem dL_areChannelsSo_109 : decode cL_areChannelsSo 109 = .ok (.iinc 6 1, 3) := by decide +kernel
theorem dL_areChannelsSo_112 : decode cL_areChannelsSo 112 = .ok (.goto (-32), 3) := by decide +kernel
theorem dL_areChannelsSo_115 : decode cL_areChannelsSo 115 = .ok (.iload 8, 2) := by decide +kernel
theorem dL_areChannelsSo_117 : decode cL_areChannelsSo 117 = .ok (.ifCond .eq 33, 3) := by decide +kernel
theorem dL_areChannelsSo_120 : decode cL_areChannelsSo 120 = .ok (.iload 8, 2) := by decide +kernel
theorem dL_areChannelsSo_122 : decode cL_areChannelsSo 122 = .ok (.ifCond .le 30, 3) := by decide +kernel
theorem dL_areChannelsSo_125 : decode cL_areChannelsSo 125 = .ok (.iload 6, 2) := by decide +kernel
theorem dL_areChannelsSo_127 : decode cL_areChannelsSo 127 = .ok (.aload_n 0, 1) := by decide +kernel
theorem dL_areChannelsSo_128 : decode cL_areChannelsSo 128 = .ok (.iload 4, 2) := by decide +kernel
theorem dL_areChannelsSo_130 : decode cL_areChannelsSo 130 = .ok (.invokevirtual 81, 3) := by decide +kernel
theorem dL_areChannelsSo_133 : decode cL_areChannelsSo 133 = .ok (.if_icmp .eq 17, 3) := by decide +kernel
theorem dL_areChannelsSo_136 : decode cL_areChannelsSo 136 = .ok (.aload_n 0, 1) := by decide +kernel
theorem dL_areChannelsSo_137 : decode cL_areChannelsSo 137 = .ok (.iload 8, 2) := by decide +kernel
theorem dL_areChannelsSo_139 : decode cL_areChannelsSo 139 = .ok (.sipush 1000, 3) := by decide +kernel
theorem dL_areChannelsSo_142 : decode cL_areChannelsSo 142 = .ok (.idiv, 1) := by decide +kernel
theorem dL_areChannelsSo_143 : decode cL_areChannelsSo 143 = .ok (.invokevirtual 128, 3) := by decide +kernel
theorem dL_areChannelsSo_146 : decode cL_areChannelsSo 146 = .ok (.iload_n 2, 1) := by decide +kernel
theorem dL_areChannelsSo_147 : decode cL_areChannelsSo 147 = .ok (.if_icmp .eq 5, 3) := by decide +kernel
theorem dL_areChannelsSo_150 : decode cL_areChannelsSo 150 = .ok (.iconst 0, 1) := by decide +kernel
theorem dL_areChannelsSo_151 : decode cL_areChannelsSo 151 = .ok (.ireturn, 1) := by decide +kernel
theorem dL_areChannelsSo_152 : decode cL_areChannelsSo 152 = .ok (.iload 6, 2) := by decide +kernel
theorem dL_areChannelsSo_154 : decode cL_areChannelsSo 154 = .ok (.iload 8, 2) := by decide +kernel
theorem dL_areChannelsSo_156 : decode cL_areChannelsSo 156 = .ok (.ifCond .le 7, 3) := by decide +kernel
theorem dL_areChannelsSo_159 : decode cL_areChannelsSo 159 = .ok (.iconst 1, 1) := by decide +kernel
theorem dL_areChannelsSo_160 : decode cL_areChannelsSo 160 = .ok (.goto 4, 3) := by decide +kernel
theorem dL_areChannelsSo_163 : decode cL_areChannelsSo 163 = .ok (.iconst 0, 1) := by decide +kernel
theorem dL_areChannelsSo_164 : decode cL_areChannelsSo 164 = .ok (.iadd, 1) := by decide +kernel
theorem dL_areChannelsSo_165 : decode cL_areChannelsSo 165 = .ok (.istore 6, 2) := by decide +kernel
theorem dL_areChannelsSo_167 : decode cL_areChannelsSo 167 = .ok (.iinc 7 1, 3) := by decide +kernel
theorem dL_areChannelsSo_170 : decode cL_areChannelsSo 170 = .ok (.goto (-138), 3) := by decide +kernel
theorem dL_areChannelsSo_173 : decode cL_areChannelsSo 173 = .ok (.iload_n 3, 1) := by decide +kernel
theorem dL_areChannelsSo_174 : decode cL_areChannelsSo 174 = .ok (.aload_n 0, 1) := by decide +kernel
theorem dL_areChannelsSo_175 : decode cL_areChannelsSo 175 = .ok (.iload 4, 2) := by decide +kernel
theorem dL_areChannelsSo_177 : decode cL_areChannelsSo 177 = .ok (.iload_n 2, 1) := by decide +kernel
theorem dL_areChannelsSo_178 : decode cL_areChannelsSo 178 = .ok (.invokevirtual 94, 3) := by decide +kernel
theorem dL_areChannelsSo_181 : decode cL_areChannelsSo 181 = .ok (.ifCond .eq 7, 3) := by decide +kernel
theorem dL_areChannelsSo_184 : decode cL_areChannelsSo 184 = .ok (.iconst 1, 1) := by decide +kernel
theorem dL_areChannelsSo_185 : decode cL_areChannelsSo 185 = .ok (.goto 4, 3) := by decide +kernel
theorem dL_areChannelsSo_188 : decode cL_areChannelsSo 188 = .ok (.iconst 0, 1) := by decide +kernel
theorem dL_areChannelsSo_189 : decode cL_areChannelsSo 189 = .ok (.iadd, 1) := by decide +kernel
theorem dL_areChannelsSo_190 : decode cL_areChannelsSo 190 = .ok (.istore_n 3, 1) := by decide +kernel
theorem dL_areChannelsSo_191 : decode cL_areChannelsSo 191 = .ok (.aload_n 0, 1) := by decide +kernel
theorem dL_areChannelsSo_192 : decode cL_areChannelsSo 192 = .ok (.iload 4, 2) := by decide +kernel
theorem dL_areChannelsSo_194 : decode cL_areChannelsSo 194 = .ok (.iload_n 2, 1) := by decide +kernel
theorem dL_areChannelsSo_195 : decode cL_areChannelsSo 195 = .ok (.invokevirtual 91, 3) := by decide +kernel
theorem dL_areChannelsSo_198 : decode cL_areChannelsSo 198 = .ok (.bipush 8, 2) := by decide +kernel
theorem dL_areChannelsSo_200 : decode cL_areChannelsSo 200 = .ok (.if_icmp .gt 53, 3) := by decide +kernel
theorem dL_areChannelsSo_203 : decode cL_areChannelsSo 203 = .ok (.iload 5, 2) := by decide +kernel
theorem dL_areChannelsSo_205 : decode cL_areChannelsSo 205 = .ok (.aload_n 0, 1) := by decide +kernel
theorem dL_areChannelsSo_206 : decode cL_areChannelsSo 206 = .ok (.invokevirtual 69, 3) := by decide +kernel
theorem dL_areChannelsSo_209 : decode cL_areChannelsSo 209 = .ok (.ifCond .lt 16, 3) := by decide +kernel
theorem dL_areChannelsSo_212 : decode cL_areChannelsSo 212 = .ok (.aload_n 0, 1) := by decide +kernel
theorem dL_areChannelsSo_213 : decode cL_areChannelsSo 213 = .ok (.iload 4, 2) := by decide +kernel
theorem dL_areChannelsSo_215 : decode cL_areChannelsSo 215 = .ok (.invokevirtual 84, 3) := by decide +kernel
theorem dL_areChannelsSo_218 : decode cL_areChannelsSo 218 = .ok (.ifCond .eq 7, 3) := by decide +kernel
theorem dL_areChannelsSo_221 : decode cL_areChannelsSo 221 = .ok (.iconst 1, 1) := by decide +kernel
theorem dL_areChannelsSo_222 : decode cL_areChannelsSo 222 = .ok (.goto 4, 3) := by decide +kernel
theorem dL_areChannelsSo_225 : decode cL_areChannelsSo 225 = .ok (.iconst 0, 1) := by decide +kernel
theorem dL_areChannelsSo_226 : decode cL_areChannelsSo 226 = .ok (.if_icmp .gt 27, 3) := by decide +kernel
theorem dL_areChannelsSo_229 : decode cL_areChannelsSo 229 = .ok (.aload_n 0, 1) := by decide +kernel
theorem dL_areChannelsSo_230 : decode cL_areChannelsSo 230 = .ok (.iload 4, 2) := by decide +kernel
theorem dL_areChannelsSo_232 : decode cL_areChannelsSo 232 = .ok (.iload_n 2, 1) := by decide +kernel
theorem dL_areChannelsSo_233 : decode cL_areChannelsSo 233 = .ok (.invokevirtual 94, 3) := by decide +kernel
theorem dL_areChannelsSo_236 : decode cL_areChannelsSo 236 = .ok (.ifCond .eq 19, 3) := by decide +kernel
theorem dL_areChannelsSo_239 : decode cL_areChannelsSo 239 = .ok (.iload 5, 2) := by decide +kernel
theorem dL_areChannelsSo_241 : decode cL_areChannelsSo 241 = .ok (.ifCond .gt 12, 3) := by decide +kernel
theorem dL_areChannelsSo_244 : decode cL_areChannelsSo 244 = .ok (.aload_n 0, 1) := by decide +kernel
theorem dL_areChannelsSo_245 : decode cL_areChannelsSo 245 = .ok (.iload 4, 2) := by decide +kernel
theorem dL_areChannelsSo_247 : decode cL_areChannelsSo 247 = .ok (.invokevirtual 84, 3) := by decide +kernel
theorem dL_areChannelsSo_250 : decode cL_areChannelsSo 250 = .ok (.ifCond .ne 5, 3) := by decide +kernel
theorem dL_areChannelsSo_253 : decode cL_areChannelsSo 253 = .ok (.iconst 0, 1) := by decide +kernel
theorem dL_areChannelsSo_254 : decode cL_areChannelsSo 254 = .ok (.ireturn, 1) := by decide +kernel
theorem dL_areChannelsSo_255 : decode cL_areChannelsSo 255 = .ok (.iinc 4 1, 3) := by decide +kernel
theorem dL_areChannelsSo_258 : decode cL_areChannelsSo 258 = .ok (.goto (-241), 3) := by decide +kernel
theorem dL_areChannelsSo_261 : decode cL_areChannelsSo 261 = .ok (.iload_n 1, 1) := by decide +kernel
theorem dL_areChannelsSo_262 : decode cL_areChannelsSo 262 = .ok (.aload_n 0, 1) := by decide +kernel
theorem dL_areChannelsSo_263 : decode cL_areChannelsSo 263 = .ok (.iload_n 2, 1) := by decide +kernel
theorem dL_areChannelsSo_264 : decode cL_areChannelsSo 264 = .ok (.invokevirtual 134, 3) := by decide +kernel
theorem dL_areChannelsSo_267 : decode cL_areChannelsSo 267 = .ok (.bipush 10, 2) := by decide +kernel
theorem dL_areChannelsSo_269 : decode cL_areChannelsSo 269 = .ok (.irem, 1) := by decide +kernel
theorem dL_areChannelsSo_270 : decode cL_areChannelsSo 270 = .ok (.iadd, 1) := by decide +kernel
theorem dL_areChannelsSo_271 : decode cL_areChannelsSo 271 = .ok (.istore_n 1, 1) := by decide +kernel
theorem dL_areChannelsSo_272 : decode cL_areChannelsSo 272 = .ok (.iload_n 3, 1) := by decide +kernel
theorem dL_areChannelsSo_273 : decode cL_areChannelsSo 273 = .ok (.iconst 3, 1) := by decide +kernel
theorem dL_areChannelsSo_274 : decode cL_areChannelsSo 274 = .ok (.if_icmp .gt 61, 3) := by decide +kernel
theorem dL_areChannelsSo_277 : decode cL_areChannelsSo 277 = .ok (.aload_n 0, 1) := by decide +kernel
theorem dL_areChannelsSo_278 : decode cL_areChannelsSo 278 = .ok (.invokevirtual 69, 3) := by decide +kernel
theorem dL_areChannelsSo_281 : decode cL_areChannelsSo 281 = .ok (.ifCond .lt 27, 3) := by decide +kernel
theorem dL_areChannelsSo_284 : decode cL_areChannelsSo 284 = .ok (.aload_n 0, 1) := by decide +kernel
theorem dL_areChannelsSo_285 : decode cL_areChannelsSo 285 = .ok (.iload_n 2, 1) := by decide +kernel
theorem dL_areChannelsSo_286 : decode cL_areChannelsSo 286 = .ok (.invokevirtual 101, 3) := by decide +kernel
theorem dL_areChannelsSo_289 : decode cL_areChannelsSo 289 = .ok (.ifCond .lt 19, 3) := by decide +kernel
theorem dL_areChannelsSo_292 : decode cL_areChannelsSo 292 = .ok (.iload_n 3, 1) := by decide +kernel
theorem dL_areChannelsSo_293 : decode cL_areChannelsSo 293 = .ok (.ifCond .gt 42, 3) := by decide +kernel
theorem dL_areChannelsSo_296 : decode cL_areChannelsSo 296 = .ok (.aload_n 0, 1) := by decide +kernel
theorem dL_areChannelsSo_297 : decode cL_areChannelsSo 297 = .ok (.iload_n 2, 1) := by decide +kernel
theorem dL_areChannelsSo_298 : decode cL_areChannelsSo 298 = .ok (.invokevirtual 101, 3) := by decide +kernel
theorem dL_areChannelsSo_301 : decode cL_areChannelsSo 301 = .ok (.aload_n 0, 1) := by decide +kernel
theorem dL_areChannelsSo_302 : decode cL_areChannelsSo 302 = .ok (.invokevirtual 69, 3) := by decide +kernel
theorem dL_areChannelsSo_305 : decode cL_areChannelsSo 305 = .ok (.if_icmp .ne 30, 3) := by decide +kernel
theorem dL_areChannelsSo_308 : decode cL_areChannelsSo 308 = .ok (.aload_n 0, 1) := by decide +kernel
theorem dL_areChannelsSo_309 : decode cL_areChannelsSo 309 = .ok (.invokevirtual 69, 3) := by decide +kernel
theorem dL_areChannelsSo_312 : decode cL_areChannelsSo 312 = .ok (.ifCond .ge 25, 3) := by decide +kernel
theorem dL_areChannelsSo_315 : decode cL_areChannelsSo 315 = .ok (.aload_n 0, 1) := by decide +kernel
theorem dL_areChannelsSo_316 : decode cL_areChannelsSo 316 = .ok (.iload_n 2, 1) := by decide +kernel
theorem dL_areChannelsSo_317 : decode cL_areChannelsSo 317 = .ok (.invokevirtual 101, 3) := by decide +kernel
theorem dL_areChannelsSo_320 : decode cL_areChannelsSo 320 = .ok (.ifCond .lt 17, 3) := by decide +kernel
theorem dL_areChannelsSo_323 : decode cL_areChannelsSo 323 = .ok (.aload_n 0, 1) := by decide +kernel
theorem dL_areChannelsSo_324 : decode cL_areChannelsSo 324 = .ok (.iload_n 2, 1) := by decide +kernel
theorem dL_areChannelsSo_325 : decode cL_areChannelsSo 325 = .ok (.invokevirtual 101, 3) := by decide +kernel
theorem dL_areChannelsSo_328 : decode cL_areChannelsSo 328 = .ok (.aload_n 0, 1) := by decide +kernel
theorem dL_areChannelsSo_329 : decode cL_areChannelsSo 329 = .ok (.invokevirtual 72, 3) := by decide +kernel
theorem dL_areChannelsSo_332 : decode cL_areChannelsSo 332 = .ok (.if_icmp .eq 5, 3) := by decide +kernel
theorem dL_areChannelsSo_335 : decode cL_areChannelsSo 335 = .ok (.iconst 0, 1) := by decide +kernel
theorem dL_areChannelsSo_336 : decode cL_areChannelsSo 336 = .ok (.ireturn, 1) := by decide +kernel
theorem dL_areChannelsSo_337 : decode cL_areChannelsSo 337 = .ok (.iinc 2 1, 3) := by decide +kernel
theorem dL_areChannelsSo_340 : decode cL_areChannelsSo 340 = .ok (.goto (-336), 3) := by decide +kernel
theorem dL_areChannelsSo_343 : decode cL_areChannelsSo 343 = .ok (.iload_n 1, 1) := by decide +kernel
theorem dL_areChannelsSo_344 : decode cL_areChannelsSo 344 = .ok (.bipush 8, 2) := by decide +kernel
theorem dL_areChannelsSo_346 : decode cL_areChannelsSo 346 = .ok (.if_icmp .ne 31, 3) := by decide +kernel
theorem dL_areChannelsSo_349 : decode cL_areChannelsSo 349 = .ok (.aload_n 0, 1) := by decide +kernel
theorem dL_areChannelsSo_350 : decode cL_areChannelsSo 350 = .ok (.invokevirtual 72, 3) := by decide +kernel
theorem dL_areChannelsSo_353 : decode cL_areChannelsSo 353 = .ok (.aload_n 0, 1) := by decide +kernel
theorem dL_areChannelsSo_354 : decode cL_areChannelsSo 354 = .ok (.invokevirtual 69, 3) := by decide +kernel
theorem dL_areChannelsSo_357 : decode cL_areChannelsSo 357 = .ok (.ifCond .ge 9, 3) := by decide +kernel
theorem dL_areChannelsSo_360 : decode cL_areChannelsSo 360 = .ok (.sipush 1000, 3) := by decide +kernel
theorem dL_areChannelsSo_363 : decode cL_areChannelsSo 363 = .ok (.goto 7, 3) := by decide +kernel
theorem dL_areChannelsSo_366 : decode cL_areChannelsSo 366 = .ok (.aload_n 0, 1) := by decide +kernel
theorem dL_areChannelsSo_367 : decode cL_areChannelsSo 367 = .ok (.invokevirtual 69, 3) := by decide +kernel
theorem dL_areChannelsSo_370 : decode cL_areChannelsSo 370 = .ok (.if_icmp .ge 7, 3) := by decide +kernel
theorem dL_areChannelsSo_373 : decode cL_areChannelsSo 373 = .ok (.iconst 1, 1) := by decide +kernel
theorem dL_areChannelsSo_374 : decode cL_areChannelsSo 374 = .ok (.goto 4, 3) := by decide +kernel
theorem dL_areChannelsSo_377 : decode cL_areChannelsSo 377 = .ok (.iconst 0, 1) := by decide +kernel
theorem dL_areChannelsSo_378 : decode cL_areChannelsSo 378 = .ok (.ireturn, 1) := by decide +kernel
