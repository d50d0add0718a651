set_option maxRecDepth 20000 in
theorem ggL_append_X4_append : GoodIn wsL_append wsX4_append := goodIn_ca (goodIn_ca (goodIn_ca (goodIn_r _ [8, 9, 10, 11, 12, 13, 14, 15, 16, 7, 17, 18, 19, 20, 21, 22, 23, 24, 25, 26, 27, 28, 29, 30, 31, 32, 33, 34, 35, 36, 37, 38, 39, 40, 41, 42, 43, 44, 45] (by decide +kernel) (by decide +kernel)) (goodIn_sub (fun _ h => List.mem_cons_of_mem _ (List.mem_append_left _ (List.mem_append_left _ (List.mem_append_right _ h)))) (by decide +kernel))) (goodIn_sub (fun _ h => List.mem_cons_of_mem _ (List.mem_append_left _ (List.mem_append_right _ h))) (by decide +kernel))) (goodIn_sub (fun _ h => List.mem_cons_of_mem _ (List.mem_append_right _ h)) (by decide +kernel))
set_option maxRecDepth 20000 in
theorem gL_append_X4_append : GoodIn wsL_append (wsV RL 7 RX4 yX4_append wsX4_append) := goodIn_app (goodIn_of _ (by decide +kernel)) ggL_append_X4_append
theorem dL_append_0 : decode cL_append 0 = .ok (.aload 4, 2) := by decide +kernel
theorem dL_append_2 : decode cL_append 2 = .ok (.iconst 0, 1) := by decide +kernel
theorem dL_append_3 : decode cL_append 3 = .ok (.aload_n 0, 1) := by decide +kernel
theorem dL_append_4 : decode cL_append 4 = .ok (.iload_n 1, 1) := by decide +kernel
theorem dL_append_5 : decode cL_append 5 = .ok (.iload_n 2, 1) := by decide +kernel
theorem dL_append_6 : decode cL_append 6 = .ok (.iload_n 3, 1) := by decide +kernel
theorem dL_append_7 : decode cL_append 7 = .ok (.invokevirtual 7, 3) := by decide +kernel
theorem dL_append_10 : decode cL_append 10 = .ok (.i2l, 1) := by decide +kernel
theorem dL_append_11 : decode cL_append 11 = .ok (.lastore, 1) := by decide +kernel
theorem dL_append_12 : decode cL_append 12 = .ok (.goto 15, 3) := by decide +kernel
theorem dL_append_15 : decode cL_append 15 = .ok (.astore 5, 2) := by decide +kernel
theorem dL_append_17 : decode cL_append 17 = .ok (.iconst 1, 1) := by decide +kernel
theorem dL_append_18 : decode cL_append 18 = .ok (.ireturn, 1) := by decide +kernel
theorem dL_append_19 : decode cL_append 19 = .ok (.astore 5, 2) := by decide +kernel
theorem dL_append_21 : decode cL_append 21 = .ok (.iconst 2, 1) := by decide +kernel
theorem dL_append_22 : decode cL_append 22 = .ok (.ireturn, 1) := by decide +kernel
theorem dL_append_23 : decode cL_append 23 = .ok (.astore 5, 2) := by decide +kernel
theorem dL_append_25 : decode cL_append 25 = .ok (.iconst 3, 1) := by decide +kernel
theorem dL_append_26 : decode cL_append 26 = .ok (.ireturn, 1) := by decide +kernel
theorem dL_append_27 : decode cL_append 27 = .ok (.iconst 0, 1) := by decide +kernel
theorem dL_append_28 : decode cL_append 28 = .ok (.ireturn, 1) := by decide +kernel
set_option maxRecDepth 20000 in
theorem ggL_read_X4_read : GoodIn wsL_read wsX4_read := goodIn_ca (goodIn_ca (goodIn_r _ [7, 8, 9, 10, 11, 6, 12, 13, 14, 15, 16, 17, 18, 19, 20, 21, 22, 23, 24, 25, 26, 27, 28, 29, 30, 31, 32, 33, 34, 35, 36, 37, 38, 39, 40, 41, 42, 43, 44, 45, 46, 47, 48, 49, 50, 51, 52, 53, 54, 55, 56, 57, 58, 59, 60, 61, 62, 63, 64, 65, 66, 67, 68, 69, 70, 71, 72, 73, 74, 75, 76, 77, 78, 79, 80, 81, 82, 83, 84, 85] (by decide +kernel) (by decide +kernel)) (goodIn_sub (fun _ h => List.mem_cons_of_mem _ (List.mem_append_left _ (List.mem_append_right _ h))) (by decide +kernel))) (goodIn_sub (fun _ h => List.mem_cons_of_mem _ (List.mem_append_right _ h)) (by decide +kernel))
set_option maxRecDepth 20000 in
theorem gL_read_X4_read : GoodIn wsL_read (wsV RL 19 RX4 yX4_read wsX4_read) := goodIn_app (goodIn_of _ (by decide +kernel)) ggL_read_X4_read
theorem dL_read_0 : decode cL_read 0 = .ok (.aload_n 2, 1) := by decide +kernel
theorem dL_read_1 : decode cL_read 1 = .ok (.iconst 0, 1) := by decide +kernel
theorem dL_read_2 : decode cL_read 2 = .ok (.aload_n 0, 1) := by decide +kernel
theorem dL_read_3 : decode cL_read 3 = .ok (.iload_n 1, 1) := by decide +kernel
theorem dL_read_4 : decode cL_read 4 = .ok (.invokevirtual 19, 3) := by decide +kernel
theorem dL_read_7 : decode cL_read 7 = .ok (.i2l, 1) := by decide +kernel
theorem dL_read_8 : decode cL_read 8 = .ok (.lastore, 1) := by decide +kernel
theorem dL_read_9 : decode cL_read 9 = .ok (.goto 9, 3) := by decide +kernel
theorem dL_read_12 : decode cL_read 12 = .ok (.astore_n 3, 1) := by decide +kernel
theorem dL_read_13 : decode cL_read 13 = .ok (.iconst 1, 1) := by decide +kernel
theorem dL_read_14 : decode cL_read 14 = .ok (.ireturn, 1) := by decide +kernel
theorem dL_read_15 : decode cL_read 15 = .ok (.astore_n 3, 1) := by decide +kernel
theorem dL_read_16 : decode cL_read 16 = .ok (.iconst 2, 1) := by decide +kernel
theorem dL_read_17 : decode cL_read 17 = .ok (.ireturn, 1) := by decide +kernel
theorem dL_read_18 : decode cL_read 18 = .ok (.iconst 0, 1) := by decide +kernel
theorem dL_read_19 : decode cL_read 19 = .ok (.ireturn, 1) := by decide +kernel
set_option maxRecDepth 20000 in
theorem ggL_sendBarrier_X4_sendBarrier : GoodIn wsL_sendBarrier wsX4_sendBarrier := goodIn_ca (goodIn_ca (goodIn_r _ [7, 8, 9, 10, 11, 12, 13, 14, 15, 16, 6, 17, 18, 19, 20, 21, 22, 23, 24, 25, 26, 27, 28, 29, 30, 31, 32, 33, 34, 35, 36, 37, 38, 39, 40, 41, 42, 43, 44, 45, 46, 47, 48, 49, 50, 51, 52, 53, 54, 55, 56, 57, 58, 59, 60, 61, 62, 63, 64, 65, 66, 67, 68, 69, 70] (by decide +kernel) (by decide +kernel)) (goodIn_sub (fun _ h => List.mem_cons_of_mem _ (List.mem_append_left _ (List.mem_append_right _ h))) (by decide +kernel))) (goodIn_sub (fun _ h => List.mem_cons_of_mem _ (List.mem_append_right _ h)) (by decide +kernel))
set_option maxRecDepth 20000 in
theorem gL_sendBarrier_X4_sendBarrier : GoodIn wsL_sendBarrier (wsV RL 23 RX4 yX4_sendBarrier wsX4_sendBarrier) := goodIn_app (goodIn_of _ (by decide +kernel)) ggL_sendBarrier_X4_sendBarrier
theorem dL_sendBarrier_0 : decode cL_sendBarrier 0 = .ok (.aload_n 2, 1) := by decide +kernel
theorem dL_sendBarrier_1 : decode cL_sendBarrier 1 = .ok (.iconst 0, 1) := by decide +kernel
theorem dL_sendBarrier_2 : decode cL_sendBarrier 2 = .ok (.aload_n 0, 1) := by decide +kernel
theorem dL_sendBarrier_3 : decode cL_sendBarrier 3 = .ok (.iload_n 1, 1) := by decide +kernel
theorem dL_sendBarrier_4 : decode cL_sendBarrier 4 = .ok (.invokevirtual 23, 3) := by decide +kernel
theorem dL_sendBarrier_7 : decode cL_sendBarrier 7 = .ok (.i2l, 1) := by decide +kernel
theorem dL_sendBarrier_8 : decode cL_sendBarrier 8 = .ok (.lastore, 1) := by decide +kernel
theorem dL_sendBarrier_9 : decode cL_sendBarrier 9 = .ok (.goto 9, 3) := by decide +kernel
theorem dL_sendBarrier_12 : decode cL_sendBarrier 12 = .ok (.astore_n 3, 1) := by decide +kernel
theorem dL_sendBarrier_13 : decode cL_sendBarrier 13 = .ok (.iconst 1, 1) := by decide +kernel
theorem dL_sendBarrier_14 : decode cL_sendBarrier 14 = .ok (.ireturn, 1) := by decide +kernel
theorem dL_sendBarrier_15 : decode cL_sendBarrier 15 = .ok (.astore_n 3, 1) := by decide +kernel
theorem dL_sendBarrier_16 : decode cL_sendBarrier 16 = .ok (.iconst 2, 1) := by decide +kernel
theorem dL_sendBarrier_17 : decode cL_sendBarrier 17 = .ok (.ireturn, 1) := by decide +kernel
theorem dL_sendBarrier_18 : decode cL_sendBarrier 18 = .ok (.iconst 0, 1) := by decide +kernel
theorem dL_sendBarrier_19 : decode cL_sendBarrier 19 = .ok (.ireturn, 1) := by decide +kernel
set_option maxRecDepth 20000 in
theorem ggL_take_X4_take : GoodIn wsL_take wsX4_take := goodIn_ca (goodIn_ca (goodIn_r _ [7, 8, 9, 10, 11, 12, 13, 6, 14, 15, 16, 17, 18, 19, 20, 21, 22, 23, 24, 25, 26, 27, 28, 29, 30, 31, 32, 33, 34, 35, 36, 37, 38, 39, 40, 41, 42, 43, 44, 45, 46, 47, 48, 49, 50, 51, 52, 53, 54, 55, 56, 57, 58, 59, 60, 61, 62, 63, 64, 65, 66, 67, 68, 69, 70, 71, 72, 73, 74, 75, 76, 77, 78, 79, 80, 81, 82, 83, 84, 85, 86, 87, 88, 89, 90, 91, 92, 93, 94, 95, 96, 97, 98, 99, 100, 101, 102, 103, 104, 105, 106, 107, 108, 109, 110, 111, 112, 113, 114, 115, 116, 117, 118, 119, 120, 121, 122, 123, 124, 125, 126, 127, 128, 129, 130, 131, 132, 133, 134, 135, 136, 137, 138, 139, 140, 141, 142, 143, 144, 145, 146, 147, 148, 149, 150, 151, 152, 153, 154, 155, 156] (by decide +kernel) (by decide +kernel)) (goodIn_sub (fun _ h => List.mem_cons_of_mem _ (List.mem_append_left _ (List.mem_append_right _ h))) (by decide +kernel))) (goodIn_sub (fun _ h => List.mem_cons_of_mem _ (List.mem_append_right _ h)) (by decide +kernel))
set_option maxRecDepth 20000 in
theorem gL_take_X4_take : GoodIn wsL_take (wsV RL 26 RX4 yX4_take wsX4_take) := goodIn_app (goodIn_of _ (by decide +kernel)) ggL_take_X4_take
theorem dL_take_0 : decode cL_take 0 = .ok (.aload_n 3, 1) := by decide +kernel
theorem dL_take_1 : decode cL_take 1 = .ok (.iconst 0, 1) := by decide +kernel
theorem dL_take_2 : decode cL_take 2 = .ok (.aload_n 0, 1) := by decide +kernel
theorem dL_take_3 : decode cL_take 3 = .ok (.iload_n 1, 1) := by decide +kernel
theorem dL_take_4 : decode cL_take 4 = .ok (.iload_n 2, 1) := by decide +kernel
theorem dL_take_5 : decode cL_take 5 = .ok (.invokevirtual 26, 3) := by decide +kernel
theorem dL_take_8 : decode cL_take 8 = .ok (.i2l, 1) := by decide +kernel
theorem dL_take_9 : decode cL_take 9 = .ok (.lastore, 1) := by decide +kernel
theorem dL_take_10 : decode cL_take 10 = .ok (.goto 11, 3) := by decide +kernel
theorem dL_take_13 : decode cL_take 13 = .ok (.astore 4, 2) := by decide +kernel
theorem dL_take_15 : decode cL_take 15 = .ok (.iconst 1, 1) := by decide +kernel
theorem dL_take_16 : decode cL_take 16 = .ok (.ireturn, 1) := by decide +kernel
theorem dL_take_17 : decode cL_take 17 = .ok (.astore 4, 2) := by decide +kernel
theorem dL_take_19 : decode cL_take 19 = .ok (.iconst 2, 1) := by decide +kernel
theorem dL_take_20 : decode cL_take 20 = .ok (.ireturn, 1) := by decide +kernel
theorem dL_take_21 : decode cL_take 21 = .ok (.iconst 0, 1) := by decide +kernel
theorem dL_take_22 : decode cL_take 22 = .ok (.ireturn, 1) := by decide +kernel
set_option maxRecDepth 20000 in
theorem ggL_pump_X4_pump : GoodIn wsL_pump wsX4_pump := goodIn_ca (goodIn_r _ [6, 7, 8, 9, 10, 11, 5, 12, 13, 14, 15, 16, 17, 18, 19, 20, 21, 22, 23, 24, 25, 26, 27, 28, 29, 30, 31, 32, 33, 34, 35, 36, 37, 38, 39, 40, 41, 42, 43, 44, 45, 46, 47, 48, 49, 50, 51, 52, 53, 54, 55, 56, 57, 58, 59, 60, 61, 62, 63, 64, 65, 66, 67, 68, 69, 70, 71, 72, 73, 74, 75, 76, 77, 78, 79, 80, 81, 82, 83, 84, 85, 86, 87, 88, 89, 90, 91, 92, 93, 94, 95, 96, 97, 98, 99, 100, 101, 102, 103, 104, 105, 106, 107, 108, 109, 110, 111, 112, 113, 114, 115, 116, 117, 118, 119, 120, 121, 122, 123, 124, 125, 126, 127, 128, 129, 130, 131, 132, 133, 134, 135, 136, 137, 138, 139, 140, 141, 142, 143, 144, 145, 146, 147, 148, 149, 150, 151, 152, 153, 154, 155, 156, 157, 158, 159, 160, 161, 162, 163, 164, 165, 166, 167, 168, 169, 170, 171, 172, 173, 174, 175, 176, 177, 178, 179, 180, 181] (by decide +kernel) (by decide +kernel)) (goodIn_sub (fun _ h => List.mem_cons_of_mem _ (List.mem_append_right _ h)) (by decide +kernel))
set_option maxRecDepth 20000 in
theorem gL_pump_X4_pump : GoodIn wsL_pump (wsV RL 30 RX4 yX4_pump wsX4_pump) := goodIn_app (goodIn_of _ (by decide +kernel)) ggL_pump_X4_pump
theorem dL_pump_0 : decode cL_pump 0 = .ok (.aload_n 2, 1) := by decide +kernel
theorem dL_pump_1 : decode cL_pump 1 = .ok (.iconst 0, 1) := by decide +kernel
theorem dL_pump_2 : decode cL_pump 2 = .ok (.aload_n 0, 1) := by decide +kernel
theorem dL_pump_3 : decode cL_pump 3 = .ok (.iload_n 1, 1) := by decide +kernel
theorem dL_pump_4 : decode cL_pump 4 = .ok (.invokevirtual 30, 3) := by decide +kernel
theorem dL_pump_7 : decode cL_pump 7 = .ok (.i2l, 1) := by decide +kernel
theorem dL_pump_8 : decode cL_pump 8 = .ok (.lastore, 1) := by decide +kernel
theorem dL_pump_9 : decode cL_pump 9 = .ok (.goto 6, 3) := by decide +kernel
theorem dL_pump_12 : decode cL_pump 12 = .ok (.astore_n 3, 1) := by decide +kernel
theorem dL_pump_13 : decode cL_pump 13 = .ok (.iconst 1, 1) := by decide +kernel
theorem dL_pump_14 : decode cL_pump 14 = .ok (.ireturn, 1) := by decide +kernel
theorem dL_pump_15 : decode cL_pump 15 = .ok (.iconst 0, 1) := by decide +kernel
theorem dL_pump_16 : decode cL_pump 16 = .ok (.ireturn, 1) := by decide +kernel
set_option maxRecDepth 20000 in
theorem ggL_commit_X4_commit : GoodIn wsL_commit wsX4_commit := goodIn_ca (goodIn_ca (goodIn_r _ [7, 8, 9, 10, 11, 12, 6, 13, 14, 15, 16, 17, 18, 19, 20, 21, 22, 23, 24, 25, 26, 27, 28, 29, 30, 31, 32, 33, 34, 35, 36, 37, 38, 39, 40, 41, 42, 43, 44, 45, 46, 47, 48, 49, 50, 51, 52, 53, 54, 55, 56, 57, 58, 59, 60, 61, 62, 63, 64, 65, 66, 67, 68] (by decide +kernel) (by decide +kernel)) (goodIn_sub (fun _ h => List.mem_cons_of_mem _ (List.mem_append_left _ (List.mem_append_right _ h))) (by decide +kernel))) (goodIn_sub (fun _ h => List.mem_cons_of_mem _ (List.mem_append_right _ h)) (by decide +kernel))
set_option maxRecDepth 20000 in
theorem gL_commit_X4_commit : GoodIn wsL_commit (wsV RL 33 RX4 yX4_commit wsX4_commit) := goodIn_app (goodIn_of _ (by decide +kernel)) ggL_commit_X4_commit
theorem dL_commit_0 : decode cL_commit 0 = .ok (.aload_n 2, 1) := by decide +kernel
theorem dL_commit_1 : decode cL_commit 1 = .ok (.iconst 0, 1) := by decide +kernel
theorem dL_commit_2 : decode cL_commit 2 = .ok (.aload_n 0, 1) := by decide +kernel
theorem dL_commit_3 : decode cL_commit 3 = .ok (.iload_n 1, 1) := by decide +kernel
theorem dL_commit_4 : decode cL_commit 4 = .ok (.invokevirtual 33, 3) := by decide +kernel
theorem dL_commit_7 : decode cL_commit 7 = .ok (.i2l, 1) := by decide +kernel
theorem dL_commit_8 : decode cL_commit 8 = .ok (.lastore, 1) := by decide +kernel
theorem dL_commit_9 : decode cL_commit 9 = .ok (.goto 9, 3) := by decide +kernel
theorem dL_commit_12 : decode cL_commit 12 = .ok (.astore_n 3, 1) := by decide +kernel
theorem dL_commit_13 : decode cL_commit 13 = .ok (.iconst 1, 1) := by decide +kernel
theorem dL_commit_14 : decode cL_commit 14 = .ok (.ireturn, 1) := by decide +kernel
theorem dL_commit_15 : decode cL_commit 15 = .ok (.astore_n 3, 1) := by decide +kernel
theorem dL_commit_16 : decode cL_commit 16 = .ok (.iconst 2, 1) := by decide +kernel
theorem dL_commit_17 : decode cL_commit 17 = .ok (.ireturn, 1) := by decide +kernel
theorem dL_commit_18 : decode cL_commit 18 = .ok (.iconst 0, 1) := by decide +kernel
theorem dL_commit_19 : decode cL_commit 19 = .ok (.ireturn, 1) := by decide +kernel
set_option maxRecDepth 20000 in
theorem ggL_beginCheckpoint_X4_beginCheckpoint : GoodIn wsL_beginCheckpoint wsX4_beginCheckpoint := goodIn_ca (goodIn_r _ [6, 7, 8, 9, 10, 11, 12, 13, 14, 5, 15, 16, 17, 18, 19, 20, 21, 22, 23, 24, 25, 26, 27, 28, 29, 30, 31, 32, 33, 34, 35, 36, 37, 38, 39, 40, 41] (by decide +kernel) (by decide +kernel)) (goodIn_sub (fun _ h => List.mem_cons_of_mem _ (List.mem_append_right _ h)) (by decide +kernel))
set_option maxRecDepth 20000 in
theorem gL_beginCheckpoint_X4_beginCheckpoint : GoodIn wsL_beginCheckpoint (wsV RL 36 RX4 yX4_beginCheckpoint wsX4_beginCheckpoint) := goodIn_app (goodIn_of _ (by decide +kernel)) ggL_beginCheckpoint_X4_beginCheckpoint
theorem dL_beginCheckpoint_0 : decode cL_beginCheckpoint 0 = .ok (.aload_n 1, 1) := by decide +kernel
theorem dL_beginCheckpoint_1 : decode cL_beginCheckpoint 1 = .ok (.iconst 0, 1) := by decide +kernel
theorem dL_beginCheckpoint_2 : decode cL_beginCheckpoint 2 = .ok (.aload_n 0, 1) := by decide +kernel
theorem dL_beginCheckpoint_3 : decode cL_beginCheckpoint 3 = .ok (.invokevirtual 36, 3) := by decide +kernel
theorem dL_beginCheckpoint_6 : decode cL_beginCheckpoint 6 = .ok (.i2l, 1) := by decide +kernel
theorem dL_beginCheckpoint_7 : decode cL_beginCheckpoint 7 = .ok (.lastore, 1) := by decide +kernel
theorem dL_beginCheckpoint_8 : decode cL_beginCheckpoint 8 = .ok (.goto 6, 3) := by decide +kernel
theorem dL_beginCheckpoint_11 : decode cL_beginCheckpoint 11 = .ok (.astore_n 2, 1) := by decide +kernel
theorem dL_beginCheckpoint_12 : decode cL_beginCheckpoint 12 = .ok (.iconst 1, 1) := by decide +kernel
theorem dL_beginCheckpoint_13 : decode cL_beginCheckpoint 13 = .ok (.ireturn, 1) := by decide +kernel
theorem dL_beginCheckpoint_14 : decode cL_beginCheckpoint 14 = .ok (.iconst 0, 1) := by decide +kernel
theorem dL_beginCheckpoint_15 : decode cL_beginCheckpoint 15 = .ok (.ireturn, 1) := by decide +kernel
set_option maxRecDepth 20000 in
theorem ggL_abandon_X4_abandon : GoodIn wsL_abandon wsX4_abandon := goodIn_ca (goodIn_r _ [6, 7, 8, 9, 10, 11, 12, 13, 14, 15, 16, 17, 18, 19, 20, 21, 22, 23, 24, 25, 26, 5, 27, 28, 29, 30, 31, 32, 33, 34, 35, 36, 37, 38, 39, 40, 41, 42, 43, 44, 45, 46, 47, 48, 49, 50, 51, 52, 53, 54, 55, 56, 57, 58, 59, 60, 61, 62, 63, 64, 65, 66] (by decide +kernel) (by decide +kernel)) (goodIn_sub (fun _ h => List.mem_cons_of_mem _ (List.mem_append_right _ h)) (by decide +kernel))
set_option maxRecDepth 20000 in
theorem gL_abandon_X4_abandon : GoodIn wsL_abandon (wsV RL 40 RX4 yX4_abandon wsX4_abandon) := goodIn_app (goodIn_of _ (by decide +kernel)) ggL_abandon_X4_abandon
theorem dL_abandon_0 : decode cL_abandon 0 = .ok (.aload_n 1, 1) := by decide +kernel
theorem dL_abandon_1 : decode cL_abandon 1 = .ok (.iconst 0, 1) := by decide +kernel
theorem dL_abandon_2 : decode cL_abandon 2 = .ok (.aload_n 0, 1) := by decide +kernel
theorem dL_abandon_3 : decode cL_abandon 3 = .ok (.invokevirtual 40, 3) := by decide +kernel
theorem dL_abandon_6 : decode cL_abandon 6 = .ok (.i2l, 1) := by decide +kernel
theorem dL_abandon_7 : decode cL_abandon 7 = .ok (.lastore, 1) := by decide +kernel
theorem dL_abandon_8 : decode cL_abandon 8 = .ok (.goto 6, 3) := by decide +kernel
theorem dL_abandon_11 : decode cL_abandon 11 = .ok (.astore_n 2, 1) := by decide +kernel
theorem dL_abandon_12 : decode cL_abandon 12 = .ok (.iconst 1, 1) := by decide +kernel
theorem dL_abandon_13 : decode cL_abandon 13 = .ok (.ireturn, 1) := by decide +kernel
theorem dL_abandon_14 : decode cL_abandon 14 = .ok (.iconst 0, 1) := by decide +kernel
theorem dL_abandon_15 : decode cL_abandon 15 = .ok (.ireturn, 1) := by decide +kernel
set_option maxRecDepth 20000 in
theorem ggL_rescale_X4_rescale : GoodIn wsL_rescale wsX4_rescale := goodIn_ca (goodIn_r _ [6, 7, 8, 9, 10, 11, 5, 12, 13, 14, 15, 16, 17, 18, 19, 20, 21, 22, 23, 24, 25, 26, 27, 28, 29, 30, 31, 32, 33, 34, 35, 36, 37, 38, 39, 40, 41, 42, 43, 44, 45, 46, 47, 48, 49, 50, 51, 52, 53, 54, 55, 56, 57, 58, 59, 60, 61, 62, 63, 64, 65, 66, 67, 68, 69, 70, 71, 72, 73, 74, 75, 76, 77, 78, 79, 80, 81, 82, 83, 84, 85, 86, 87, 88, 89, 90, 91, 92, 93, 94, 95, 96, 97, 98, 99, 100, 101] (by decide +kernel) (by decide +kernel)) (goodIn_sub (fun _ h => List.mem_cons_of_mem _ (List.mem_append_right _ h)) (by decide +kernel))
set_option maxRecDepth 20000 in
theorem gL_rescale_X4_rescale : GoodIn wsL_rescale (wsV RL 43 RX4 yX4_rescale wsX4_rescale) := goodIn_app (goodIn_of _ (by decide +kernel)) ggL_rescale_X4_rescale
theorem dL_rescale_0 : decode cL_rescale 0 = .ok (.aload_n 2, 1) := by decide +kernel
theorem dL_rescale_1 : decode cL_rescale 1 = .ok (.iconst 0, 1) := by decide +kernel
theorem dL_rescale_2 : decode cL_rescale 2 = .ok (.aload_n 0, 1) := by decide +kernel
theorem dL_rescale_3 : decode cL_rescale 3 = .ok (.iload_n 1, 1) := by decide +kernel
theorem dL_rescale_4 : decode cL_rescale 4 = .ok (.invokevirtual 43, 3) := by decide +kernel
theorem dL_rescale_7 : decode cL_rescale 7 = .ok (.i2l, 1) := by decide +kernel
theorem dL_rescale_8 : decode cL_rescale 8 = .ok (.lastore, 1) := by decide +kernel
theorem dL_rescale_9 : decode cL_rescale 9 = .ok (.goto 6, 3) := by decide +kernel
theorem dL_rescale_12 : decode cL_rescale 12 = .ok (.astore_n 3, 1) := by decide +kernel
theorem dL_rescale_13 : decode cL_rescale 13 = .ok (.iconst 1, 1) := by decide +kernel
theorem dL_rescale_14 : decode cL_rescale 14 = .ok (.ireturn, 1) := by decide +kernel
theorem dL_rescale_15 : decode cL_rescale 15 = .ok (.iconst 0, 1) := by decide +kernel
theorem dL_rescale_16 : decode cL_rescale 16 = .ok (.ireturn, 1) := by decide +kernel
set_option maxRecDepth 20000 in
theorem ggL_events_X4_events : GoodIn wsL_events wsX4_events := goodIn_ca (goodIn_r _ [6, 7, 8, 9, 10, 5, 11, 12, 13, 14, 15, 16, 17, 18, 19, 20, 21, 22, 23, 24, 25, 26, 27, 28, 29] (by decide +kernel) (by decide +kernel)) (goodIn_sub (fun _ h => List.mem_cons_of_mem _ (List.mem_append_right _ h)) (by decide +kernel))
set_option maxRecDepth 20000 in
theorem gL_events_X4_events : GoodIn wsL_events (wsV RL 46 RX4 yX4_events wsX4_events) := goodIn_app (goodIn_of _ (by decide +kernel)) ggL_events_X4_events
theorem dL_events_0 : decode cL_events 0 = .ok (.aload_n 2, 1) := by decide +kernel
theorem dL_events_1 : decode cL_events 1 = .ok (.iconst 0, 1) := by decide +kernel
theorem dL_events_2 : decode cL_events 2 = .ok (.aload_n 0, 1) := by decide +kernel
theorem dL_events_3 : decode cL_events 3 = .ok (.iload_n 1, 1) := by decide +kernel
theorem dL_events_4 : decode cL_events 4 = .ok (.invokevirtual 46, 3) := by decide +kernel
theorem dL_events_7 : decode cL_events 7 = .ok (.i2l, 1) := by decide +kernel
theorem dL_events_8 : decode cL_events 8 = .ok (.lastore, 1) := by decide +kernel
theorem dL_events_9 : decode cL_events 9 = .ok (.goto 6, 3) := by decide +kernel
theorem dL_events_12 : decode cL_events 12 = .ok (.astore_n 3, 1) := by decide +kernel
theorem dL_events_13 : decode cL_events 13 = .ok (.iconst 1, 1) := by decide +kernel
theorem dL_events_14 : decode cL_events 14 = .ok (.ireturn, 1) := by decide +kernel
theorem dL_events_15 : decode cL_events 15 = .ok (.iconst 0, 1) := by decide +kernel
theorem dL_events_16 : decode cL_events 16 = .ok (.ireturn, 1) := by decide +kernel
set_option maxRecDepth 20000 in
theorem ggL_offset_X4_offset : GoodIn wsL_offset wsX4_offset := goodIn_ca (goodIn_r _ [6, 7, 8, 9, 10, 5, 11, 12, 13, 14, 15, 16, 17, 18, 19, 20, 21, 22, 23, 24, 25, 26, 27, 28, 29, 30, 31] (by decide +kernel) (by decide +kernel)) (goodIn_sub (fun _ h => List.mem_cons_of_mem _ (List.mem_append_right _ h)) (by decide +kernel))
set_option maxRecDepth 20000 in
theorem gL_offset_X4_offset : GoodIn wsL_offset (wsV RL 49 RX4 yX4_offset wsX4_offset) := goodIn_app (goodIn_of _ (by decide +kernel)) ggL_offset_X4_offset
theorem dL_offset_0 : decode cL_offset 0 = .ok (.aload_n 2, 1) := by decide +kernel
theorem dL_offset_1 : decode cL_offset 1 = .ok (.iconst 0, 1) := by decide +kernel
theorem dL_offset_2 : decode cL_offset 2 = .ok (.aload_n 0, 1) := by decide +kernel
theorem dL_offset_3 : decode cL_offset 3 = .ok (.iload_n 1, 1) := by decide +kernel
theorem dL_offset_4 : decode cL_offset 4 = .ok (.invokevirtual 49, 3) := by decide +kernel
theorem dL_offset_7 : decode cL_offset 7 = .ok (.i2l, 1) := by decide +kernel
theorem dL_offset_8 : decode cL_offset 8 = .ok (.lastore, 1) := by decide +kernel
theorem dL_offset_9 : decode cL_offset 9 = .ok (.goto 6, 3) := by decide +kernel
theorem dL_offset_12 : decode cL_offset 12 = .ok (.astore_n 3, 1) := by decide +kernel
theorem dL_offset_13 : decode cL_offset 13 = .ok (.iconst 1, 1) := by decide +kernel
theorem dL_offset_14 : decode cL_offset 14 = .ok (.ireturn, 1) := by decide +kernel
theorem dL_offset_15 : decode cL_offset 15 = .ok (.iconst 0, 1) := by decide +kernel
theorem dL_offset_16 : decode cL_offset 16 = .ok (.ireturn, 1) := by decide +kernel
set_option maxRecDepth 20000 in
theorem ggL_eventAt_X4_eventAt : GoodIn wsL_eventAt wsX4_eventAt := goodIn_ca (goodIn_r _ [6, 7, 8, 9, 10, 11, 12, 5, 13, 14, 15, 16, 17, 18, 19, 20, 21, 22, 23, 24, 25, 26, 27, 28, 29, 30, 31, 32, 33, 34, 35] (by decide +kernel) (by decide +kernel)) (goodIn_sub (fun _ h => List.mem_cons_of_mem _ (List.mem_append_right _ h)) (by decide +kernel))
set_option maxRecDepth 20000 in
theorem gL_eventAt_X4_eventAt : GoodIn wsL_eventAt (wsV RL 52 RX4 yX4_eventAt wsX4_eventAt) := goodIn_app (goodIn_of _ (by decide +kernel)) ggL_eventAt_X4_eventAt
theorem dL_eventAt_0 : decode cL_eventAt 0 = .ok (.aload_n 3, 1) := by decide +kernel
theorem dL_eventAt_1 : decode cL_eventAt 1 = .ok (.iconst 0, 1) := by decide +kernel
theorem dL_eventAt_2 : decode cL_eventAt 2 = .ok (.aload_n 0, 1) := by decide +kernel
theorem dL_eventAt_3 : decode cL_eventAt 3 = .ok (.iload_n 1, 1) := by decide +kernel
theorem dL_eventAt_4 : decode cL_eventAt 4 = .ok (.iload_n 2, 1) := by decide +kernel
theorem dL_eventAt_5 : decode cL_eventAt 5 = .ok (.invokevirtual 52, 3) := by decide +kernel
theorem dL_eventAt_8 : decode cL_eventAt 8 = .ok (.i2l, 1) := by decide +kernel
theorem dL_eventAt_9 : decode cL_eventAt 9 = .ok (.lastore, 1) := by decide +kernel
theorem dL_eventAt_10 : decode cL_eventAt 10 = .ok (.goto 7, 3) := by decide +kernel
theorem dL_eventAt_13 : decode cL_eventAt 13 = .ok (.astore 4, 2) := by decide +kernel
theorem dL_eventAt_15 : decode cL_eventAt 15 = .ok (.iconst 1, 1) := by decide +kernel
theorem dL_eventAt_16 : decode cL_eventAt 16 = .ok (.ireturn, 1) := by decide +kernel
theorem dL_eventAt_17 : decode cL_eventAt 17 = .ok (.iconst 0, 1) := by decide +kernel
theorem dL_eventAt_18 : decode cL_eventAt 18 = .ok (.ireturn, 1) := by decide +kernel
set_option maxRecDepth 20000 in
theorem ggL_queued_X4_queued : GoodIn wsL_queued wsX4_queued := goodIn_ca (goodIn_r _ [6, 7, 8, 9, 5, 10, 11, 12, 13, 14, 15, 16, 17, 18, 19, 20, 21, 22, 23, 24, 25, 26, 27, 28, 29, 30, 31, 32, 33, 34, 35, 36, 37, 38, 39, 40, 41, 42, 43] (by decide +kernel) (by decide +kernel)) (goodIn_sub (fun _ h => List.mem_cons_of_mem _ (List.mem_append_right _ h)) (by decide +kernel))
set_option maxRecDepth 20000 in
theorem gL_queued_X4_queued : GoodIn wsL_queued (wsV RL 55 RX4 yX4_queued wsX4_queued) := goodIn_app (goodIn_of _ (by decide +kernel)) ggL_queued_X4_queued
theorem dL_queued_0 : decode cL_queued 0 = .ok (.aload_n 3, 1) := by decide +kernel
theorem dL_queued_1 : decode cL_queued 1 = .ok (.iconst 0, 1) := by decide +kernel
theorem dL_queued_2 : decode cL_queued 2 = .ok (.aload_n 0, 1) := by decide +kernel
theorem dL_queued_3 : decode cL_queued 3 = .ok (.iload_n 1, 1) := by decide +kernel
theorem dL_queued_4 : decode cL_queued 4 = .ok (.iload_n 2, 1) := by decide +kernel
theorem dL_queued_5 : decode cL_queued 5 = .ok (.invokevirtual 55, 3) := by decide +kernel
theorem dL_queued_8 : decode cL_queued 8 = .ok (.i2l, 1) := by decide +kernel
theorem dL_queued_9 : decode cL_queued 9 = .ok (.lastore, 1) := by decide +kernel
theorem dL_queued_10 : decode cL_queued 10 = .ok (.goto 7, 3) := by decide +kernel
theorem dL_queued_13 : decode cL_queued 13 = .ok (.astore 4, 2) := by decide +kernel
theorem dL_queued_15 : decode cL_queued 15 = .ok (.iconst 1, 1) := by decide +kernel
theorem dL_queued_16 : decode cL_queued 16 = .ok (.ireturn, 1) := by decide +kernel
theorem dL_queued_17 : decode cL_queued 17 = .ok (.iconst 0, 1) := by decide +kernel
theorem dL_queued_18 : decode cL_queued 18 = .ok (.ireturn, 1) := by decide +kernel
set_option maxRecDepth 20000 in
theorem ggL_itemAt_X4_itemAt : GoodIn wsL_itemAt wsX4_itemAt := goodIn_ca (goodIn_r _ [6, 7, 8, 9, 10, 11, 5, 12, 13, 14, 15, 16, 17, 18, 19, 20, 21, 22, 23, 24, 25, 26, 27, 28, 29, 30, 31, 32, 33, 34, 35, 36, 37, 38, 39, 40, 41, 42, 43, 44, 45, 46, 47, 48] (by decide +kernel) (by decide +kernel)) (goodIn_sub (fun _ h => List.mem_cons_of_mem _ (List.mem_append_right _ h)) (by decide +kernel))
set_option maxRecDepth 20000 in
theorem gL_itemAt_X4_itemAt : GoodIn wsL_itemAt (wsV RL 58 RX4 yX4_itemAt wsX4_itemAt) := goodIn_app (goodIn_of _ (by decide +kernel)) ggL_itemAt_X4_itemAt
theorem dL_itemAt_0 : decode cL_itemAt 0 = .ok (.aload 4, 2) := by decide +kernel
theorem dL_itemAt_2 : decode cL_itemAt 2 = .ok (.iconst 0, 1) := by decide +kernel
theorem dL_itemAt_3 : decode cL_itemAt 3 = .ok (.aload_n 0, 1) := by decide +kernel
theorem dL_itemAt_4 : decode cL_itemAt 4 = .ok (.iload_n 1, 1) := by decide +kernel
theorem dL_itemAt_5 : decode cL_itemAt 5 = .ok (.iload_n 2, 1) := by decide +kernel
theorem dL_itemAt_6 : decode cL_itemAt 6 = .ok (.iload_n 3, 1) := by decide +kernel
theorem dL_itemAt_7 : decode cL_itemAt 7 = .ok (.invokevirtual 58, 3) := by decide +kernel
theorem dL_itemAt_10 : decode cL_itemAt 10 = .ok (.i2l, 1) := by decide +kernel
theorem dL_itemAt_11 : decode cL_itemAt 11 = .ok (.lastore, 1) := by decide +kernel
theorem dL_itemAt_12 : decode cL_itemAt 12 = .ok (.goto 7, 3) := by decide +kernel
theorem dL_itemAt_15 : decode cL_itemAt 15 = .ok (.astore 5, 2) := by decide +kernel
theorem dL_itemAt_17 : decode cL_itemAt 17 = .ok (.iconst 1, 1) := by decide +kernel
theorem dL_itemAt_18 : decode cL_itemAt 18 = .ok (.ireturn, 1) := by decide +kernel
theorem dL_itemAt_19 : decode cL_itemAt 19 = .ok (.iconst 0, 1) := by decide +kernel
theorem dL_itemAt_20 : decode cL_itemAt 20 = .ok (.ireturn, 1) := by decide +kernel
set_option maxRecDepth 20000 in
theorem ggL_isBlocked_X4_isBlocked : GoodIn wsL_isBlocked wsX4_isBlocked := goodIn_ca (goodIn_r _ [6, 7, 8, 9, 5, 10, 11, 12, 13, 14, 15, 16, 17, 18, 19, 20, 21, 22, 23, 24, 25, 26, 27, 28, 29, 30, 31, 32, 33, 34, 35, 36, 37, 38, 39, 40, 41, 42, 43] (by decide +kernel) (by decide +kernel)) (goodIn_sub (fun _ h => List.mem_cons_of_mem _ (List.mem_append_right _ h)) (by decide +kernel))
set_option maxRecDepth 20000 in
theorem gL_isBlocked_X4_isBlocked : GoodIn wsL_isBlocked (wsV RL 61 RX4 yX4_isBlocked wsX4_isBlocked) := goodIn_app (goodIn_of _ (by decide +kernel)) ggL_isBlocked_X4_isBlocked
theorem dL_isBlocked_0 : decode cL_isBlocked 0 = .ok (.aload_n 3, 1) := by decide +kernel
theorem dL_isBlocked_1 : decode cL_isBlocked 1 = .ok (.iconst 0, 1) := by decide +kernel
theorem dL_isBlocked_2 : decode cL_isBlocked 2 = .ok (.aload_n 0, 1) := by decide +kernel
theorem dL_isBlocked_3 : decode cL_isBlocked 3 = .ok (.iload_n 1, 1) := by decide +kernel
theorem dL_isBlocked_4 : decode cL_isBlocked 4 = .ok (.iload_n 2, 1) := by decide +kernel
theorem dL_isBlocked_5 : decode cL_isBlocked 5 = .ok (.invokevirtual 61, 3) := by decide +kernel
theorem dL_isBlocked_8 : decode cL_isBlocked 8 = .ok (.ifCond .eq 7, 3) := by decide +kernel
theorem dL_isBlocked_11 : decode cL_isBlocked 11 = .ok (.lconst 1, 1) := by decide +kernel
theorem dL_isBlocked_12 : decode cL_isBlocked 12 = .ok (.goto 4, 3) := by decide +kernel
theorem dL_isBlocked_15 : decode cL_isBlocked 15 = .ok (.lconst 0, 1) := by decide +kernel
theorem dL_isBlocked_16 : decode cL_isBlocked 16 = .ok (.lastore, 1) := by decide +kernel
theorem dL_isBlocked_17 : decode cL_isBlocked 17 = .ok (.goto 7, 3) := by decide +kernel
theorem dL_isBlocked_20 : decode cL_isBlocked 20 = .ok (.astore 4, 2) := by decide +kernel
theorem dL_isBlocked_22 : decode cL_isBlocked 22 = .ok (.iconst 1, 1) := by decide +kernel
theorem dL_isBlocked_23 : decode cL_isBlocked 23 = .ok (.ireturn, 1) := by decide +kernel
theorem dL_isBlocked_24 : decode cL_isBlocked 24 = .ok (.iconst 0, 1) := by decide +kernel
theorem dL_isBlocked_25 : decode cL_isBlocked 25 = .ok (.ireturn, 1) := by decide +kernel
set_option maxRecDepth 20000 in
theorem ggL_workerOf_X4_workerOf : GoodIn wsL_workerOf wsX4_workerOf := goodIn_ca (goodIn_r _ [6, 7, 8, 5, 9, 10, 11, 12, 13, 14, 15, 16, 17, 18, 19, 20, 21, 22, 23, 24, 25, 26, 27, 28, 29, 30, 31, 32, 33] (by decide +kernel) (by decide +kernel)) (goodIn_sub (fun _ h => List.mem_cons_of_mem _ (List.mem_append_right _ h)) (by decide +kernel))
set_option maxRecDepth 20000 in
theorem gL_workerOf_X4_workerOf : GoodIn wsL_workerOf (wsV RL 65 RX4 yX4_workerOf wsX4_workerOf) := goodIn_app (goodIn_of _ (by decide +kernel)) ggL_workerOf_X4_workerOf
theorem dL_workerOf_0 : decode cL_workerOf 0 = .ok (.aload_n 2, 1) := by decide +kernel
theorem dL_workerOf_1 : decode cL_workerOf 1 = .ok (.iconst 0, 1) := by decide +kernel
theorem dL_workerOf_2 : decode cL_workerOf 2 = .ok (.aload_n 0, 1) := by decide +kernel
theorem dL_workerOf_3 : decode cL_workerOf 3 = .ok (.iload_n 1, 1) := by decide +kernel
theorem dL_workerOf_4 : decode cL_workerOf 4 = .ok (.invokevirtual 65, 3) := by decide +kernel
theorem dL_workerOf_7 : decode cL_workerOf 7 = .ok (.i2l, 1) := by decide +kernel
theorem dL_workerOf_8 : decode cL_workerOf 8 = .ok (.lastore, 1) := by decide +kernel
theorem dL_workerOf_9 : decode cL_workerOf 9 = .ok (.goto 6, 3) := by decide +kernel
theorem dL_workerOf_12 : decode cL_workerOf 12 = .ok (.astore_n 3, 1) := by decide +kernel
theorem dL_workerOf_13 : decode cL_workerOf 13 = .ok (.iconst 1, 1) := by decide +kernel
theorem dL_workerOf_14 : decode cL_workerOf 14 = .ok (.ireturn, 1) := by decide +kernel
theorem dL_workerOf_15 : decode cL_workerOf 15 = .ok (.iconst 0, 1) := by decide +kernel
theorem dL_workerOf_16 : decode cL_workerOf 16 = .ok (.ireturn, 1) := by decide +kernel
set_option maxRecDepth 20000 in
theorem ggL_groupsOf_X4_groupsOf : GoodIn wsL_groupsOf wsX4_groupsOf := goodIn_ca (goodIn_r _ [6, 7, 8, 9, 10, 5, 11, 12, 13, 14, 15, 16, 17, 18, 19, 20, 21, 22, 23, 24, 25, 26, 27, 28, 29, 30] (by decide +kernel) (by decide +kernel)) (goodIn_sub (fun _ h => List.mem_cons_of_mem _ (List.mem_append_right _ h)) (by decide +kernel))
set_option maxRecDepth 20000 in
theorem gL_groupsOf_X4_groupsOf : GoodIn wsL_groupsOf (wsV RL 68 RX4 yX4_groupsOf wsX4_groupsOf) := goodIn_app (goodIn_of _ (by decide +kernel)) ggL_groupsOf_X4_groupsOf
theorem dL_groupsOf_0 : decode cL_groupsOf 0 = .ok (.aload_n 2, 1) := by decide +kernel
theorem dL_groupsOf_1 : decode cL_groupsOf 1 = .ok (.iconst 0, 1) := by decide +kernel
theorem dL_groupsOf_2 : decode cL_groupsOf 2 = .ok (.aload_n 0, 1) := by decide +kernel
theorem dL_groupsOf_3 : decode cL_groupsOf 3 = .ok (.iload_n 1, 1) := by decide +kernel
theorem dL_groupsOf_4 : decode cL_groupsOf 4 = .ok (.invokevirtual 68, 3) := by decide +kernel
theorem dL_groupsOf_7 : decode cL_groupsOf 7 = .ok (.i2l, 1) := by decide +kernel
theorem dL_groupsOf_8 : decode cL_groupsOf 8 = .ok (.lastore, 1) := by decide +kernel
theorem dL_groupsOf_9 : decode cL_groupsOf 9 = .ok (.goto 6, 3) := by decide +kernel
theorem dL_groupsOf_12 : decode cL_groupsOf 12 = .ok (.astore_n 3, 1) := by decide +kernel
theorem dL_groupsOf_13 : decode cL_groupsOf 13 = .ok (.iconst 1, 1) := by decide +kernel
theorem dL_groupsOf_14 : decode cL_groupsOf 14 = .ok (.ireturn, 1) := by decide +kernel
theorem dL_groupsOf_15 : decode cL_groupsOf 15 = .ok (.iconst 0, 1) := by decide +kernel
theorem dL_groupsOf_16 : decode cL_groupsOf 16 = .ok (.ireturn, 1) := by decide +kernel
set_option maxRecDepth 20000 in
theorem ggL_count_X4_count : GoodIn wsL_count wsX4_count := goodIn_ca (goodIn_r _ [6, 7, 8, 9, 10, 5, 11, 12, 13, 14, 15, 16, 17, 18, 19, 20, 21, 22, 23, 24, 25, 26, 27, 28, 29] (by decide +kernel) (by decide +kernel)) (goodIn_sub (fun _ h => List.mem_cons_of_mem _ (List.mem_append_right _ h)) (by decide +kernel))
set_option maxRecDepth 20000 in
theorem gL_count_X4_count : GoodIn wsL_count (wsV RL 71 RX4 yX4_count wsX4_count) := goodIn_app (goodIn_of _ (by decide +kernel)) ggL_count_X4_count
theorem dL_count_0 : decode cL_count 0 = .ok (.aload_n 2, 1) := by decide +kernel
theorem dL_count_1 : decode cL_count 1 = .ok (.iconst 0, 1) := by decide +kernel
theorem dL_count_2 : decode cL_count 2 = .ok (.aload_n 0, 1) := by decide +kernel
theorem dL_count_3 : decode cL_count 3 = .ok (.iload_n 1, 1) := by decide +kernel
theorem dL_count_4 : decode cL_count 4 = .ok (.invokevirtual 71, 3) := by decide +kernel
theorem dL_count_7 : decode cL_count 7 = .ok (.i2l, 1) := by decide +kernel
theorem dL_count_8 : decode cL_count 8 = .ok (.lastore, 1) := by decide +kernel
theorem dL_count_9 : decode cL_count 9 = .ok (.goto 6, 3) := by decide +kernel
theorem dL_count_12 : decode cL_count 12 = .ok (.astore_n 3, 1) := by decide +kernel
theorem dL_count_13 : decode cL_count 13 = .ok (.iconst 1, 1) := by decide +kernel
theorem dL_count_14 : decode cL_count 14 = .ok (.ireturn, 1) := by decide +kernel
theorem dL_count_15 : decode cL_count 15 = .ok (.iconst 0, 1) := by decide +kernel
theorem dL_count_16 : decode cL_count 16 = .ok (.ireturn, 1) := by decide +kernel
set_option maxRecDepth 20000 in
theorem ggL_sum_X4_sum : GoodIn wsL_sum wsX4_sum := goodIn_ca (goodIn_r _ [6, 7, 8, 9, 10, 5, 11, 12, 13, 14, 15, 16, 17, 18, 19, 20, 21, 22, 23, 24, 25, 26, 27, 28, 29] (by decide +kernel) (by decide +kernel)) (goodIn_sub (fun _ h => List.mem_cons_of_mem _ (List.mem_append_right _ h)) (by decide +kernel))
set_option maxRecDepth 20000 in
theorem gL_sum_X4_sum : GoodIn wsL_sum (wsV RL 74 RX4 yX4_sum wsX4_sum) := goodIn_app (goodIn_of _ (by decide +kernel)) ggL_sum_X4_sum
theorem dL_sum_0 : decode cL_sum 0 = .ok (.aload_n 2, 1) := by decide +kernel
theorem dL_sum_1 : decode cL_sum 1 = .ok (.iconst 0, 1) := by decide +kernel
theorem dL_sum_2 : decode cL_sum 2 = .ok (.aload_n 0, 1) := by decide +kernel
theorem dL_sum_3 : decode cL_sum 3 = .ok (.iload_n 1, 1) := by decide +kernel
theorem dL_sum_4 : decode cL_sum 4 = .ok (.invokevirtual 74, 3) := by decide +kernel
theorem dL_sum_7 : decode cL_sum 7 = .ok (.i2l, 1) := by decide +kernel
theorem dL_sum_8 : decode cL_sum 8 = .ok (.lastore, 1) := by decide +kernel
theorem dL_sum_9 : decode cL_sum 9 = .ok (.goto 6, 3) := by decide +kernel
theorem dL_sum_12 : decode cL_sum 12 = .ok (.astore_n 3, 1) := by decide +kernel
theorem dL_sum_13 : decode cL_sum 13 = .ok (.iconst 1, 1) := by decide +kernel
theorem dL_sum_14 : decode cL_sum 14 = .ok (.ireturn, 1) := by decide +kernel
theorem dL_sum_15 : decode cL_sum 15 = .ok (.iconst 0, 1) := by decide +kernel
theorem dL_sum_16 : decode cL_sum 16 = .ok (.ireturn, 1) := by decide +kernel
set_option maxRecDepth 20000 in
theorem ggL_open_X4_open : GoodIn wsL_open wsX4_open := goodIn_ca (goodIn_r _ [6, 7, 8, 9, 10, 11, 5, 12, 13, 14, 15, 16, 17, 18, 19, 20, 21, 22, 23, 24, 25, 26, 27, 28, 29, 30, 31, 32, 33, 34, 35, 36, 37, 38] (by decide +kernel) (by decide +kernel)) (goodIn_sub (fun _ h => List.mem_cons_of_mem _ (List.mem_append_right _ h)) (by decide +kernel))
set_option maxRecDepth 20000 in
theorem gL_open_X4_open : GoodIn wsL_open (wsV RL 77 RX4 yX4_open wsX4_open) := goodIn_app (goodIn_of _ (by decide +kernel)) ggL_open_X4_open
theorem dL_open_0 : decode cL_open 0 = .ok (.aload_n 2, 1) := by decide +kernel
theorem dL_open_1 : decode cL_open 1 = .ok (.iconst 0, 1) := by decide +kernel
theorem dL_open_2 : decode cL_open 2 = .ok (.aload_n 0, 1) := by decide +kernel
theorem dL_open_3 : decode cL_open 3 = .ok (.iload_n 1, 1) := by decide +kernel
theorem dL_open_4 : decode cL_open 4 = .ok (.invokevirtual 77, 3) := by decide +kernel
theorem dL_open_7 : decode cL_open 7 = .ok (.i2l, 1) := by decide +kernel
theorem dL_open_8 : decode cL_open 8 = .ok (.lastore, 1) := by decide +kernel
theorem dL_open_9 : decode cL_open 9 = .ok (.goto 6, 3) := by decide +kernel
theorem dL_open_12 : decode cL_open 12 = .ok (.astore_n 3, 1) := by decide +kernel
theorem dL_open_13 : decode cL_open 13 = .ok (.iconst 1, 1) := by decide +kernel
theorem dL_open_14 : decode cL_open 14 = .ok (.ireturn, 1) := by decide +kernel
theorem dL_open_15 : decode cL_open 15 = .ok (.iconst 0, 1) := by decide +kernel
theorem dL_open_16 : decode cL_open 16 = .ok (.ireturn, 1) := by decide +kernel
set_option maxRecDepth 20000 in
theorem ggL_sealed_X4_sealed : GoodIn wsL_sealed wsX4_sealed := goodIn_ca (goodIn_r _ [6, 7, 8, 9, 10, 5, 11, 12, 13, 14, 15, 16, 17, 18, 19, 20, 21, 22, 23, 24, 25, 26, 27, 28] (by decide +kernel) (by decide +kernel)) (goodIn_sub (fun _ h => List.mem_cons_of_mem _ (List.mem_append_right _ h)) (by decide +kernel))
set_option maxRecDepth 20000 in
theorem gL_sealed_X4_sealed : GoodIn wsL_sealed (wsV RL 80 RX4 yX4_sealed wsX4_sealed) := goodIn_app (goodIn_of _ (by decide +kernel)) ggL_sealed_X4_sealed
theorem dL_sealed_0 : decode cL_sealed 0 = .ok (.aload_n 2, 1) := by decide +kernel
theorem dL_sealed_1 : decode cL_sealed 1 = .ok (.iconst 0, 1) := by decide +kernel
theorem dL_sealed_2 : decode cL_sealed 2 = .ok (.aload_n 0, 1) := by decide +kernel
theorem dL_sealed_3 : decode cL_sealed 3 = .ok (.iload_n 1, 1) := by decide +kernel
theorem dL_sealed_4 : decode cL_sealed 4 = .ok (.invokevirtual 80, 3) := by decide +kernel
theorem dL_sealed_7 : decode cL_sealed 7 = .ok (.i2l, 1) := by decide +kernel
theorem dL_sealed_8 : decode cL_sealed 8 = .ok (.lastore, 1) := by decide +kernel
theorem dL_sealed_9 : decode cL_sealed 9 = .ok (.goto 6, 3) := by decide +kernel
theorem dL_sealed_12 : decode cL_sealed 12 = .ok (.astore_n 3, 1) := by decide +kernel
theorem dL_sealed_13 : decode cL_sealed 13 = .ok (.iconst 1, 1) := by decide +kernel
theorem dL_sealed_14 : decode cL_sealed 14 = .ok (.ireturn, 1) := by decide +kernel
theorem dL_sealed_15 : decode cL_sealed 15 = .ok (.iconst 0, 1) := by decide +kernel
theorem dL_sealed_16 : decode cL_sealed 16 = .ok (.ireturn, 1) := by decide +kernel
set_option maxRecDepth 20000 in
theorem ggL_hasSent_X4_hasSent : GoodIn wsL_hasSent wsX4_hasSent := goodIn_ca (goodIn_r _ [6, 7, 8, 9, 10, 11, 5, 12, 13, 14, 15, 16, 17, 18, 19, 20, 21, 22, 23, 24, 25, 26, 27, 28, 29, 30, 31, 32] (by decide +kernel) (by decide +kernel)) (goodIn_sub (fun _ h => List.mem_cons_of_mem _ (List.mem_append_right _ h)) (by decide +kernel))
set_option maxRecDepth 20000 in
theorem gL_hasSent_X4_hasSent : GoodIn wsL_hasSent (wsV RL 83 RX4 yX4_hasSent wsX4_hasSent) := goodIn_app (goodIn_of _ (by decide +kernel)) ggL_hasSent_X4_hasSent
theorem dL_hasSent_0 : decode cL_hasSent 0 = .ok (.aload_n 2, 1) := by decide +kernel
theorem dL_hasSent_1 : decode cL_hasSent 1 = .ok (.iconst 0, 1) := by decide +kernel
theorem dL_hasSent_2 : decode cL_hasSent 2 = .ok (.aload_n 0, 1) := by decide +kernel
theorem dL_hasSent_3 : decode cL_hasSent 3 = .ok (.iload_n 1, 1) := by decide +kernel
theorem dL_hasSent_4 : decode cL_hasSent 4 = .ok (.invokevirtual 83, 3) := by decide +kernel
theorem dL_hasSent_7 : decode cL_hasSent 7 = .ok (.ifCond .eq 7, 3) := by decide +kernel
theorem dL_hasSent_10 : decode cL_hasSent 10 = .ok (.lconst 1, 1) := by decide +kernel
theorem dL_hasSent_11 : decode cL_hasSent 11 = .ok (.goto 4, 3) := by decide +kernel
theorem dL_hasSent_14 : decode cL_hasSent 14 = .ok (.lconst 0, 1) := by decide +kernel
theorem dL_hasSent_15 : decode cL_hasSent 15 = .ok (.lastore, 1) := by decide +kernel
theorem dL_hasSent_16 : decode cL_hasSent 16 = .ok (.goto 6, 3) := by decide +kernel
theorem dL_hasSent_19 : decode cL_hasSent 19 = .ok (.astore_n 3, 1) := by decide +kernel
theorem dL_hasSent_20 : decode cL_hasSent 20 = .ok (.iconst 1, 1) := by decide +kernel
theorem dL_hasSent_21 : decode cL_hasSent 21 = .ok (.ireturn, 1) := by decide +kernel
theorem dL_hasSent_22 : decode cL_hasSent 22 = .ok (.iconst 0, 1) := by decide +kernel
theorem dL_hasSent_23 : decode cL_hasSent 23 = .ok (.ireturn, 1) := by decide +kernel
set_option maxRecDepth 20000 in
theorem ggL_keptOffset_X4_keptOffset : GoodIn wsL_keptOffset wsX4_keptOffset := goodIn_ca (goodIn_r _ [6, 7, 8, 9, 10, 5, 11, 12, 13, 14, 15, 16, 17, 18, 19, 20, 21, 22, 23, 24, 25, 26, 27, 28, 29, 30, 31] (by decide +kernel) (by decide +kernel)) (goodIn_sub (fun _ h => List.mem_cons_of_mem _ (List.mem_append_right _ h)) (by decide +kernel))
set_option maxRecDepth 20000 in
theorem gL_keptOffset_X4_keptOffset : GoodIn wsL_keptOffset (wsV RL 87 RX4 yX4_keptOffset wsX4_keptOffset) := goodIn_app (goodIn_of _ (by decide +kernel)) ggL_keptOffset_X4_keptOffset
theorem dL_keptOffset_0 : decode cL_keptOffset 0 = .ok (.aload_n 2, 1) := by decide +kernel
theorem dL_keptOffset_1 : decode cL_keptOffset 1 = .ok (.iconst 0, 1) := by decide +kernel
theorem dL_keptOffset_2 : decode cL_keptOffset 2 = .ok (.aload_n 0, 1) := by decide +kernel
theorem dL_keptOffset_3 : decode cL_keptOffset 3 = .ok (.iload_n 1, 1) := by decide +kernel
theorem dL_keptOffset_4 : decode cL_keptOffset 4 = .ok (.invokevirtual 87, 3) := by decide +kernel
theorem dL_keptOffset_7 : decode cL_keptOffset 7 = .ok (.i2l, 1) := by decide +kernel
theorem dL_keptOffset_8 : decode cL_keptOffset 8 = .ok (.lastore, 1) := by decide +kernel
theorem dL_keptOffset_9 : decode cL_keptOffset 9 = .ok (.goto 6, 3) := by decide +kernel
theorem dL_keptOffset_12 : decode cL_keptOffset 12 = .ok (.astore_n 3, 1) := by decide +kernel
theorem dL_keptOffset_13 : decode cL_keptOffset 13 = .ok (.iconst 1, 1) := by decide +kernel
theorem dL_keptOffset_14 : decode cL_keptOffset 14 = .ok (.ireturn, 1) := by decide +kernel
theorem dL_keptOffset_15 : decode cL_keptOffset 15 = .ok (.iconst 0, 1) := by decide +kernel
theorem dL_keptOffset_16 : decode cL_keptOffset 16 = .ok (.ireturn, 1) := by decide +kernel
set_option maxRecDepth 20000 in
theorem ggL_keptSum_X4_keptSum : GoodIn wsL_keptSum wsX4_keptSum := goodIn_ca (goodIn_r _ [6, 7, 8, 9, 10, 5, 11, 12, 13, 14, 15, 16, 17, 18, 19, 20, 21, 22, 23, 24, 25, 26, 27, 28, 29] (by decide +kernel) (by decide +kernel)) (goodIn_sub (fun _ h => List.mem_cons_of_mem _ (List.mem_append_right _ h)) (by decide +kernel))
set_option maxRecDepth 20000 in
theorem gL_keptSum_X4_keptSum : GoodIn wsL_keptSum (wsV RL 90 RX4 yX4_keptSum wsX4_keptSum) := goodIn_app (goodIn_of _ (by decide +kernel)) ggL_keptSum_X4_keptSum
theorem dL_keptSum_0 : decode cL_keptSum 0 = .ok (.aload_n 2, 1) := by decide +kernel
theorem dL_keptSum_1 : decode cL_keptSum 1 = .ok (.iconst 0, 1) := by decide +kernel
theorem dL_keptSum_2 : decode cL_keptSum 2 = .ok (.aload_n 0, 1) := by decide +kernel
theorem dL_keptSum_3 : decode cL_keptSum 3 = .ok (.iload_n 1, 1) := by decide +kernel
theorem dL_keptSum_4 : decode cL_keptSum 4 = .ok (.invokevirtual 90, 3) := by decide +kernel
theorem dL_keptSum_7 : decode cL_keptSum 7 = .ok (.i2l, 1) := by decide +kernel
theorem dL_keptSum_8 : decode cL_keptSum 8 = .ok (.lastore, 1) := by decide +kernel
theorem dL_keptSum_9 : decode cL_keptSum 9 = .ok (.goto 6, 3) := by decide +kernel
theorem dL_keptSum_12 : decode cL_keptSum 12 = .ok (.astore_n 3, 1) := by decide +kernel
theorem dL_keptSum_13 : decode cL_keptSum 13 = .ok (.iconst 1, 1) := by decide +kernel
theorem dL_keptSum_14 : decode cL_keptSum 14 = .ok (.ireturn, 1) := by decide +kernel
theorem dL_keptSum_15 : decode cL_keptSum 15 = .ok (.iconst 0, 1) := by decide +kernel
theorem dL_keptSum_16 : decode cL_keptSum 16 = .ok (.ireturn, 1) := by decide +kernel
set_option maxRecDepth 20000 in
theorem ggL_committedCount_X4_committedCount : GoodIn wsL_committedCount wsX4_committedCount := goodIn_ca (goodIn_r _ [6, 7, 8, 9, 10, 5, 11, 12, 13, 14, 15, 16, 17, 18, 19, 20, 21, 22, 23, 24, 25, 26, 27, 28, 29] (by decide +kernel) (by decide +kernel)) (goodIn_sub (fun _ h => List.mem_cons_of_mem _ (List.mem_append_right _ h)) (by decide +kernel))
set_option maxRecDepth 20000 in
theorem gL_committedCount_X4_committedCount : GoodIn wsL_committedCount (wsV RL 93 RX4 yX4_committedCount wsX4_committedCount) := goodIn_app (goodIn_of _ (by decide +kernel)) ggL_committedCount_X4_committedCount
theorem dL_committedCount_0 : decode cL_committedCount 0 = .ok (.aload_n 2, 1) := by decide +kernel
theorem dL_committedCount_1 : decode cL_committedCount 1 = .ok (.iconst 0, 1) := by decide +kernel
theorem dL_committedCount_2 : decode cL_committedCount 2 = .ok (.aload_n 0, 1) := by decide +kernel
theorem dL_committedCount_3 : decode cL_committedCount 3 = .ok (.iload_n 1, 1) := by decide +kernel
theorem dL_committedCount_4 : decode cL_committedCount 4 = .ok (.invokevirtual 93, 3) := by decide +kernel
theorem dL_committedCount_7 : decode cL_committedCount 7 = .ok (.i2l, 1) := by decide +kernel
theorem dL_committedCount_8 : decode cL_committedCount 8 = .ok (.lastore, 1) := by decide +kernel
theorem dL_committedCount_9 : decode cL_committedCount 9 = .ok (.goto 6, 3) := by decide +kernel
theorem dL_committedCount_12 : decode cL_committedCount 12 = .ok (.astore_n 3, 1) := by decide +kernel
theorem dL_committedCount_13 : decode cL_committedCount 13 = .ok (.iconst 1, 1) := by decide +kernel
theorem dL_committedCount_14 : decode cL_committedCount 14 = .ok (.ireturn, 1) := by decide +kernel
theorem dL_committedCount_15 : decode cL_committedCount 15 = .ok (.iconst 0, 1) := by decide +kernel
theorem dL_committedCount_16 : decode cL_committedCount 16 = .ok (.ireturn, 1) := by decide +kernel
set_option maxRecDepth 20000 in
theorem ggL_committedSum_X4_committedSum : GoodIn wsL_committedSum wsX4_committedSum := goodIn_ca (goodIn_r _ [6, 7, 8, 9, 10, 5, 11, 12, 13, 14, 15, 16, 17, 18, 19, 20, 21, 22, 23, 24, 25, 26, 27, 28, 29] (by decide +kernel) (by decide +kernel)) (goodIn_sub (fun _ h => List.mem_cons_of_mem _ (List.mem_append_right _ h)) (by decide +kernel))
set_option maxRecDepth 20000 in
theorem gL_committedSum_X4_committedSum : GoodIn wsL_committedSum (wsV RL 96 RX4 yX4_committedSum wsX4_committedSum) := goodIn_app (goodIn_of _ (by decide +kernel)) ggL_committedSum_X4_committedSum
theorem dL_committedSum_0 : decode cL_committedSum 0 = .ok (.aload_n 2, 1) := by decide +kernel
theorem dL_committedSum_1 : decode cL_committedSum 1 = .ok (.iconst 0, 1) := by decide +kernel
theorem dL_committedSum_2 : decode cL_committedSum 2 = .ok (.aload_n 0, 1) := by decide +kernel
theorem dL_committedSum_3 : decode cL_committedSum 3 = .ok (.iload_n 1, 1) := by decide +kernel
theorem dL_committedSum_4 : decode cL_committedSum 4 = .ok (.invokevirtual 96, 3) := by decide +kernel
theorem dL_committedSum_7 : decode cL_committedSum 7 = .ok (.i2l, 1) := by decide +kernel
theorem dL_committedSum_8 : decode cL_committedSum 8 = .ok (.lastore, 1) := by decide +kernel
theorem dL_committedSum_9 : decode cL_committedSum 9 = .ok (.goto 6, 3) := by decide +kernel
theorem dL_committedSum_12 : decode cL_committedSum 12 = .ok (.astore_n 3, 1) := by decide +kernel
theorem dL_committedSum_13 : decode cL_committedSum 13 = .ok (.iconst 1, 1) := by decide +kernel
theorem dL_committedSum_14 : decode cL_committedSum 14 = .ok (.ireturn, 1) := by decide +kernel
theorem dL_committedSum_15 : decode cL_committedSum 15 = .ok (.iconst 0, 1) := by decide +kernel
theorem dL_committedSum_16 : decode cL_committedSum 16 = .ok (.ireturn, 1) := by decide +kernel
set_option maxRecDepth 20000 in
theorem ggL_readSum_X4_readSum : GoodIn wsL_readSum wsX4_readSum := goodIn_ca (goodIn_r _ [6, 7, 8, 9, 10, 11, 5, 12, 13, 14, 15, 16, 17, 18, 19, 20, 21, 22, 23, 24, 25, 26, 27, 28, 29, 30, 31, 32, 33, 34, 35, 36, 37, 38, 39, 40, 41, 42, 43, 44, 45, 46, 47, 48] (by decide +kernel) (by decide +kernel)) (goodIn_sub (fun _ h => List.mem_cons_of_mem _ (List.mem_append_right _ h)) (by decide +kernel))
set_option maxRecDepth 20000 in
theorem gL_readSum_X4_readSum : GoodIn wsL_readSum (wsV RL 99 RX4 yX4_readSum wsX4_readSum) := goodIn_app (goodIn_of _ (by decide +kernel)) ggL_readSum_X4_readSum
theorem dL_readSum_0 : decode cL_readSum 0 = .ok (.aload_n 2, 1) := by decide +kernel
theorem dL_readSum_1 : decode cL_readSum 1 = .ok (.iconst 0, 1) := by decide +kernel
theorem dL_readSum_2 : decode cL_readSum 2 = .ok (.aload_n 0, 1) := by decide +kernel
theorem dL_readSum_3 : decode cL_readSum 3 = .ok (.iload_n 1, 1) := by decide +kernel
theorem dL_readSum_4 : decode cL_readSum 4 = .ok (.invokevirtual 99, 3) := by decide +kernel
theorem dL_readSum_7 : decode cL_readSum 7 = .ok (.i2l, 1) := by decide +kernel
theorem dL_readSum_8 : decode cL_readSum 8 = .ok (.lastore, 1) := by decide +kernel
theorem dL_readSum_9 : decode cL_readSum 9 = .ok (.goto 6, 3) := by decide +kernel
theorem dL_readSum_12 : decode cL_readSum 12 = .ok (.astore_n 3, 1) := by decide +kernel
theorem dL_readSum_13 : decode cL_readSum 13 = .ok (.iconst 1, 1) := by decide +kernel
theorem dL_readSum_14 : decode cL_readSum 14 = .ok (.ireturn, 1) := by decide +kernel
theorem dL_readSum_15 : decode cL_readSum 15 = .ok (.iconst 0, 1) := by decide +kernel
theorem dL_readSum_16 : decode cL_readSum 16 = .ok (.ireturn, 1) := by decide +kernel
set_option maxRecDepth 20000 in
theorem ggL_sumInChannels_X4_sumInChannels : GoodIn wsL_sumInChannels wsX4_sumInChannels := goodIn_ca (goodIn_r _ [6, 7, 8, 9, 5, 10, 11, 12, 13, 14, 15, 16, 17, 18, 19, 20, 21, 22, 23, 24, 25, 26, 27, 28, 29, 30, 31, 32, 33, 34, 35, 36, 37, 38, 39, 40] (by decide +kernel) (by decide +kernel)) (goodIn_sub (fun _ h => List.mem_cons_of_mem _ (List.mem_append_right _ h)) (by decide +kernel))
set_option maxRecDepth 20000 in
theorem gL_sumInChannels_X4_sumInChannels : GoodIn wsL_sumInChannels (wsV RL 102 RX4 yX4_sumInChannels wsX4_sumInChannels) := goodIn_app (goodIn_of _ (by decide +kernel)) ggL_sumInChannels_X4_sumInChannels
theorem dL_sumInChannels_0 : decode cL_sumInChannels 0 = .ok (.aload_n 2, 1) := by decide +kernel
theorem dL_sumInChannels_1 : decode cL_sumInChannels 1 = .ok (.iconst 0, 1) := by decide +kernel
theorem dL_sumInChannels_2 : decode cL_sumInChannels 2 = .ok (.aload_n 0, 1) := by decide +kernel
theorem dL_sumInChannels_3 : decode cL_sumInChannels 3 = .ok (.iload_n 1, 1) := by decide +kernel
theorem dL_sumInChannels_4 : decode cL_sumInChannels 4 = .ok (.invokevirtual 102, 3) := by decide +kernel
theorem dL_sumInChannels_7 : decode cL_sumInChannels 7 = .ok (.i2l, 1) := by decide +kernel
theorem dL_sumInChannels_8 : decode cL_sumInChannels 8 = .ok (.lastore, 1) := by decide +kernel
theorem dL_sumInChannels_9 : decode cL_sumInChannels 9 = .ok (.goto 6, 3) := by decide +kernel
theorem dL_sumInChannels_12 : decode cL_sumInChannels 12 = .ok (.astore_n 3, 1) := by decide +kernel
theorem dL_sumInChannels_13 : decode cL_sumInChannels 13 = .ok (.iconst 1, 1) := by decide +kernel
theorem dL_sumInChannels_14 : decode cL_sumInChannels 14 = .ok (.ireturn, 1) := by decide +kernel
theorem dL_sumInChannels_15 : decode cL_sumInChannels 15 = .ok (.iconst 0, 1) := by decide +kernel
theorem dL_sumInChannels_16 : decode cL_sumInChannels 16 = .ok (.ireturn, 1) := by decide +kernel
