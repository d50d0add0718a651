set_option maxRecDepth 20000 in
theorem ggX4_init_X1_init : GoodIn wsX4_init wsX1_init := goodIn_r _ [32, 33, 2, 3, 25, 34, 35, 55, 56] (by decide +kernel) (by decide +kernel)
set_option maxRecDepth 20000 in
theorem gX4_init_X1_init_n9 : GoodIn wsX4_init (wsX1_init) := ggX4_init_X1_init
set_option maxRecDepth 20000 in
theorem ggX4_init_X2_init : GoodIn wsX4_init wsX2_init := goodIn_r _ [37, 38, 2, 3, 25, 39, 40, 41, 42, 43, 71, 72, 73, 74] (by decide +kernel) (by decide +kernel)
set_option maxRecDepth 20000 in
theorem gX4_init_X2_init_n18 : GoodIn wsX4_init (wsX2_init) := ggX4_init_X2_init
set_option maxRecDepth 20000 in
theorem ggX4_init_X0_init : GoodIn wsX4_init wsX0_init := goodIn_r _ [45, 46, 2, 3, 25, 47, 48, 41, 49, 75, 76, 77] (by decide +kernel) (by decide +kernel)
set_option maxRecDepth 20000 in
theorem gX4_init_X0_init_n25 : GoodIn wsX4_init (wsX0_init) := ggX4_init_X0_init
set_option maxRecDepth 20000 in
theorem ggX4_init_X3_init : GoodIn wsX4_init wsX3_init := goodIn_r _ [51, 52, 2, 3, 25, 53, 54, 78, 79] (by decide +kernel) (by decide +kernel)
set_option maxRecDepth 20000 in
theorem gX4_init_X3_init_n32 : GoodIn wsX4_init (wsX3_init) := ggX4_init_X3_init
theorem dX4_init_0 : decode cX4_init 0 = .ok (.aload_n 0, 1) := by decide +kernel
theorem dX4_init_1 : decode cX4_init 1 = .ok (.invokespecial 1, 3) := by decide +kernel
theorem dX4_init_4 : decode cX4_init 4 = .ok (.aload_n 0, 1) := by decide +kernel
theorem dX4_init_5 : decode cX4_init 5 = .ok (.new 7, 3) := by decide +kernel
theorem dX4_init_8 : decode cX4_init 8 = .ok (.dup, 1) := by decide +kernel
theorem dX4_init_9 : decode cX4_init 9 = .ok (.invokespecial 9, 3) := by decide +kernel
theorem dX4_init_12 : decode cX4_init 12 = .ok (.putfield 10, 3) := by decide +kernel
theorem dX4_init_15 : decode cX4_init 15 = .ok (.aload_n 0, 1) := by decide +kernel
theorem dX4_init_16 : decode cX4_init 16 = .ok (.new 16, 3) := by decide +kernel
theorem dX4_init_19 : decode cX4_init 19 = .ok (.dup, 1) := by decide +kernel
theorem dX4_init_20 : decode cX4_init 20 = .ok (.invokespecial 18, 3) := by decide +kernel
theorem dX4_init_23 : decode cX4_init 23 = .ok (.putfield 19, 3) := by decide +kernel
theorem dX4_init_26 : decode cX4_init 26 = .ok (.aload_n 0, 1) := by decide +kernel
theorem dX4_init_27 : decode cX4_init 27 = .ok (.new 23, 3) := by decide +kernel
theorem dX4_init_30 : decode cX4_init 30 = .ok (.dup, 1) := by decide +kernel
theorem dX4_init_31 : decode cX4_init 31 = .ok (.invokespecial 25, 3) := by decide +kernel
theorem dX4_init_34 : decode cX4_init 34 = .ok (.putfield 26, 3) := by decide +kernel
theorem dX4_init_37 : decode cX4_init 37 = .ok (.aload_n 0, 1) := by decide +kernel
theorem dX4_init_38 : decode cX4_init 38 = .ok (.new 30, 3) := by decide +kernel
theorem dX4_init_41 : decode cX4_init 41 = .ok (.dup, 1) := by decide +kernel
theorem dX4_init_42 : decode cX4_init 42 = .ok (.invokespecial 32, 3) := by decide +kernel
theorem dX4_init_45 : decode cX4_init 45 = .ok (.putfield 33, 3) := by decide +kernel
theorem dX4_init_48 : decode cX4_init 48 = .ok (.aload_n 0, 1) := by decide +kernel
theorem dX4_init_49 : decode cX4_init 49 = .ok (.new 30, 3) := by decide +kernel
theorem dX4_init_52 : decode cX4_init 52 = .ok (.dup, 1) := by decide +kernel
theorem dX4_init_53 : decode cX4_init 53 = .ok (.invokespecial 32, 3) := by decide +kernel
theorem dX4_init_56 : decode cX4_init 56 = .ok (.putfield 37, 3) := by decide +kernel
theorem dX4_init_59 : decode cX4_init 59 = .ok (.aload_n 0, 1) := by decide +kernel
theorem dX4_init_60 : decode cX4_init 60 = .ok (.new 30, 3) := by decide +kernel
theorem dX4_init_63 : decode cX4_init 63 = .ok (.dup, 1) := by decide +kernel
theorem dX4_init_64 : decode cX4_init 64 = .ok (.invokespecial 32, 3) := by decide +kernel
theorem dX4_init_67 : decode cX4_init 67 = .ok (.putfield 40, 3) := by decide +kernel
theorem dX4_init_70 : decode cX4_init 70 = .ok (.aload_n 0, 1) := by decide +kernel
theorem dX4_init_71 : decode cX4_init 71 = .ok (.new 30, 3) := by decide +kernel
theorem dX4_init_74 : decode cX4_init 74 = .ok (.dup, 1) := by decide +kernel
theorem dX4_init_75 : decode cX4_init 75 = .ok (.invokespecial 32, 3) := by decide +kernel
theorem dX4_init_78 : decode cX4_init 78 = .ok (.putfield 43, 3) := by decide +kernel
theorem dX4_init_81 : decode cX4_init 81 = .ok (.aload_n 0, 1) := by decide +kernel
theorem dX4_init_82 : decode cX4_init 82 = .ok (.new 30, 3) := by decide +kernel
theorem dX4_init_85 : decode cX4_init 85 = .ok (.dup, 1) := by decide +kernel
theorem dX4_init_86 : decode cX4_init 86 = .ok (.invokespecial 32, 3) := by decide +kernel
theorem dX4_init_89 : decode cX4_init 89 = .ok (.putfield 46, 3) := by decide +kernel
theorem dX4_init_92 : decode cX4_init 92 = .ok (.aload_n 0, 1) := by decide +kernel
theorem dX4_init_93 : decode cX4_init 93 = .ok (.new 30, 3) := by decide +kernel
theorem dX4_init_96 : decode cX4_init 96 = .ok (.dup, 1) := by decide +kernel
theorem dX4_init_97 : decode cX4_init 97 = .ok (.invokespecial 32, 3) := by decide +kernel
theorem dX4_init_100 : decode cX4_init 100 = .ok (.putfield 49, 3) := by decide +kernel
theorem dX4_init_103 : decode cX4_init 103 = .ok (.aload_n 0, 1) := by decide +kernel
theorem dX4_init_104 : decode cX4_init 104 = .ok (.iconst 4, 1) := by decide +kernel
theorem dX4_init_105 : decode cX4_init 105 = .ok (.newarray .int, 2) := by decide +kernel
theorem dX4_init_107 : decode cX4_init 107 = .ok (.putfield 52, 3) := by decide +kernel
theorem dX4_init_110 : decode cX4_init 110 = .ok (.aload_n 0, 1) := by decide +kernel
theorem dX4_init_111 : decode cX4_init 111 = .ok (.iconst 2, 1) := by decide +kernel
theorem dX4_init_112 : decode cX4_init 112 = .ok (.putfield 56, 3) := by decide +kernel
theorem dX4_init_115 : decode cX4_init 115 = .ok (.aload_n 0, 1) := by decide +kernel
theorem dX4_init_116 : decode cX4_init 116 = .ok (.iconst 0, 1) := by decide +kernel
theorem dX4_init_117 : decode cX4_init 117 = .ok (.putfield 60, 3) := by decide +kernel
theorem dX4_init_120 : decode cX4_init 120 = .ok (.aload_n 0, 1) := by decide +kernel
theorem dX4_init_121 : decode cX4_init 121 = .ok (.iconst (-1), 1) := by decide +kernel
theorem dX4_init_122 : decode cX4_init 122 = .ok (.putfield 63, 3) := by decide +kernel
theorem dX4_init_125 : decode cX4_init 125 = .ok (.aload_n 0, 1) := by decide +kernel
theorem dX4_init_126 : decode cX4_init 126 = .ok (.iconst (-1), 1) := by decide +kernel
theorem dX4_init_127 : decode cX4_init 127 = .ok (.putfield 66, 3) := by decide +kernel
theorem dX4_init_130 : decode cX4_init 130 = .ok (.iconst 0, 1) := by decide +kernel
theorem dX4_init_131 : decode cX4_init 131 = .ok (.istore_n 1, 1) := by decide +kernel
theorem dX4_init_132 : decode cX4_init 132 = .ok (.iload_n 1, 1) := by decide +kernel
theorem dX4_init_133 : decode cX4_init 133 = .ok (.iconst 4, 1) := by decide +kernel
theorem dX4_init_134 : decode cX4_init 134 = .ok (.if_icmp .ge 16, 3) := by decide +kernel
theorem dX4_init_137 : decode cX4_init 137 = .ok (.aload_n 0, 1) := by decide +kernel
theorem dX4_init_138 : decode cX4_init 138 = .ok (.getfield 52, 3) := by decide +kernel
theorem dX4_init_141 : decode cX4_init 141 = .ok (.iload_n 1, 1) := by decide +kernel
theorem dX4_init_142 : decode cX4_init 142 = .ok (.iconst (-1), 1) := by decide +kernel
theorem dX4_init_143 : decode cX4_init 143 = .ok (.iastore, 1) := by decide +kernel
theorem dX4_init_144 : decode cX4_init 144 = .ok (.iinc 1 1, 3) := by decide +kernel
theorem dX4_init_147 : decode cX4_init 147 = .ok (.goto (-15), 3) := by decide +kernel
theorem dX4_init_150 : decode cX4_init 150 = .ok (.return_, 1) := by decide +kernel
set_option maxRecDepth 20000 in
theorem ggX4_append_X4_requirePartition : GoodIn wsX4_append wsX4_requirePartition := goodIn_ca (goodIn_r _ [10, 11, 12] (by decide +kernel) (by decide +kernel)) (goodIn_sub (fun _ h => List.mem_cons_of_mem _ (List.mem_append_right _ h)) (by decide +kernel))
set_option maxRecDepth 20000 in
theorem gX4_append_X4_requirePartition : GoodIn wsX4_append (va_wsS RX4 69 yX4_requirePartition wsX4_requirePartition) := goodIn_app (goodIn_of _ (by decide +kernel)) ggX4_append_X4_requirePartition
set_option maxRecDepth 20000 in
theorem ggX4_append_X4_requireKey : GoodIn wsX4_append wsX4_requireKey := goodIn_ca (goodIn_r _ [15, 11, 12] (by decide +kernel) (by decide +kernel)) (goodIn_sub (fun _ h => List.mem_cons_of_mem _ (List.mem_append_right _ h)) (by decide +kernel))
set_option maxRecDepth 20000 in
theorem gX4_append_X4_requireKey : GoodIn wsX4_append (va_wsS RX4 73 yX4_requireKey wsX4_requireKey) := goodIn_app (goodIn_of _ (by decide +kernel)) ggX4_append_X4_requireKey
set_option maxRecDepth 20000 in
theorem ggX4_append_X1_add : GoodIn wsX4_append wsX1_add := goodIn_r _ [20, 21, 22, 37, 38] (by decide +kernel) (by decide +kernel)
set_option maxRecDepth 20000 in
theorem gX4_append_X1_add : GoodIn wsX4_append (wsV RX4 91 RX1 yX1_add wsX1_add) := goodIn_app (goodIn_of _ (by decide +kernel)) ggX4_append_X1_add
theorem dX4_append_0 : decode cX4_append 0 = .ok (.iload_n 1, 1) := by decide +kernel
theorem dX4_append_1 : decode cX4_append 1 = .ok (.invokestatic 69, 3) := by decide +kernel
theorem dX4_append_4 : decode cX4_append 4 = .ok (.iload_n 2, 1) := by decide +kernel
theorem dX4_append_5 : decode cX4_append 5 = .ok (.invokestatic 73, 3) := by decide +kernel
theorem dX4_append_8 : decode cX4_append 8 = .ok (.iload_n 3, 1) := by decide +kernel
theorem dX4_append_9 : decode cX4_append 9 = .ok (.iconst 1, 1) := by decide +kernel
theorem dX4_append_10 : decode cX4_append 10 = .ok (.if_icmp .lt 9, 3) := by decide +kernel
theorem dX4_append_13 : decode cX4_append 13 = .ok (.iload_n 3, 1) := by decide +kernel
theorem dX4_append_14 : decode cX4_append 14 = .ok (.bipush 100, 2) := by decide +kernel
theorem dX4_append_16 : decode cX4_append 16 = .ok (.if_icmp .le 13, 3) := by decide +kernel
theorem dX4_append_19 : decode cX4_append 19 = .ok (.new 76, 3) := by decide +kernel
theorem dX4_append_22 : decode cX4_append 22 = .ok (.dup, 1) := by decide +kernel
theorem dX4_append_23 : decode cX4_append 23 = .ok (.ldc 78, 2) := by decide +kernel
theorem dX4_append_25 : decode cX4_append 25 = .ok (.invokespecial 80, 3) := by decide +kernel
theorem dX4_append_28 : decode cX4_append 28 = .ok (.athrow, 1) := by decide +kernel
theorem dX4_append_29 : decode cX4_append 29 = .ok (.aload_n 0, 1) := by decide +kernel
theorem dX4_append_30 : decode cX4_append 30 = .ok (.getfield 10, 3) := by decide +kernel
theorem dX4_append_33 : decode cX4_append 33 = .ok (.getfield 83, 3) := by decide +kernel
theorem dX4_append_36 : decode cX4_append 36 = .ok (.iload_n 1, 1) := by decide +kernel
theorem dX4_append_37 : decode cX4_append 37 = .ok (.iaload, 1) := by decide +kernel
theorem dX4_append_38 : decode cX4_append 38 = .ok (.bipush 60, 2) := by decide +kernel
theorem dX4_append_40 : decode cX4_append 40 = .ok (.if_icmp .lt 13, 3) := by decide +kernel
theorem dX4_append_43 : decode cX4_append 43 = .ok (.new 86, 3) := by decide +kernel
theorem dX4_append_46 : decode cX4_append 46 = .ok (.dup, 1) := by decide +kernel
theorem dX4_append_47 : decode cX4_append 47 = .ok (.ldc 88, 2) := by decide +kernel
theorem dX4_append_49 : decode cX4_append 49 = .ok (.invokespecial 90, 3) := by decide +kernel
theorem dX4_append_52 : decode cX4_append 52 = .ok (.athrow, 1) := by decide +kernel
theorem dX4_append_53 : decode cX4_append 53 = .ok (.aload_n 0, 1) := by decide +kernel
theorem dX4_append_54 : decode cX4_append 54 = .ok (.getfield 10, 3) := by decide +kernel
theorem dX4_append_57 : decode cX4_append 57 = .ok (.iload_n 1, 1) := by decide +kernel
theorem dX4_append_58 : decode cX4_append 58 = .ok (.iload_n 2, 1) := by decide +kernel
theorem dX4_append_59 : decode cX4_append 59 = .ok (.sipush 1000, 3) := by decide +kernel
theorem dX4_append_62 : decode cX4_append 62 = .ok (.imul, 1) := by decide +kernel
theorem dX4_append_63 : decode cX4_append 63 = .ok (.iload_n 3, 1) := by decide +kernel
theorem dX4_append_64 : decode cX4_append 64 = .ok (.iadd, 1) := by decide +kernel
theorem dX4_append_65 : decode cX4_append 65 = .ok (.invokevirtual 91, 3) := by decide +kernel
theorem dX4_append_68 : decode cX4_append 68 = .ok (.ireturn, 1) := by decide +kernel
set_option maxRecDepth 20000 in
theorem ggX4_read_X4_requirePartition : GoodIn wsX4_read wsX4_requirePartition := goodIn_ca (goodIn_r _ [6, 7, 8] (by decide +kernel) (by decide +kernel)) (goodIn_sub (fun _ h => List.mem_cons_of_mem _ (List.mem_append_right _ h)) (by decide +kernel))
set_option maxRecDepth 20000 in
theorem gX4_read_X4_requirePartition : GoodIn wsX4_read (va_wsS RX4 69 yX4_requirePartition wsX4_requirePartition) := goodIn_app (goodIn_of _ (by decide +kernel)) ggX4_read_X4_requirePartition
set_option maxRecDepth 20000 in
theorem ggX4_read_X4_canReadFrom : GoodIn wsX4_read wsX4_canReadFrom := goodIn_r _ [12, 13, 14, 15, 16, 17, 18, 19, 20, 21, 22, 23, 24, 25, 5, 26, 27, 28, 29, 30, 31, 32, 33, 34, 35, 36, 37, 38, 39, 40, 41, 42, 43, 44, 45, 46, 47, 57, 58, 59, 60, 61, 62, 63, 64, 65, 66, 67, 68, 69, 70, 71, 72, 73, 74, 75, 76, 77, 78, 79] (by decide +kernel) (by decide +kernel)
set_option maxRecDepth 20000 in
theorem gX4_read_X4_canReadFrom : GoodIn wsX4_read (wsV RX4 95 RX4 yX4_canReadFrom wsX4_canReadFrom) := goodIn_app (goodIn_of _ (by decide +kernel)) ggX4_read_X4_canReadFrom
set_option maxRecDepth 20000 in
theorem ggX4_read_X4_readFrom : GoodIn wsX4_read wsX4_readFrom := goodIn_r _ [51, 15, 13, 14, 17, 18, 19, 20, 21, 22, 23, 24, 25, 5, 26, 27, 28, 29, 30, 31, 32, 33, 34, 52, 53, 54, 38, 55, 56, 44, 45, 46, 47, 57, 58, 59, 60, 61, 62, 63, 64, 65, 66, 67, 68, 69, 70, 71, 72, 73, 74, 75, 76, 77, 78, 79] (by decide +kernel) (by decide +kernel)
set_option maxRecDepth 20000 in
theorem gX4_read_X4_readFrom : GoodIn wsX4_read (wsV RX4 101 RX4 yX4_readFrom wsX4_readFrom) := goodIn_app (goodIn_of _ (by decide +kernel)) ggX4_read_X4_readFrom
theorem dX4_read_0 : decode cX4_read 0 = .ok (.iload_n 1, 1) := by decide +kernel
theorem dX4_read_1 : decode cX4_read 1 = .ok (.invokestatic 69, 3) := by decide +kernel
theorem dX4_read_4 : decode cX4_read 4 = .ok (.aload_n 0, 1) := by decide +kernel
theorem dX4_read_5 : decode cX4_read 5 = .ok (.iload_n 1, 1) := by decide +kernel
theorem dX4_read_6 : decode cX4_read 6 = .ok (.invokevirtual 95, 3) := by decide +kernel
theorem dX4_read_9 : decode cX4_read 9 = .ok (.ifCond .ne 13, 3) := by decide +kernel
theorem dX4_read_12 : decode cX4_read 12 = .ok (.new 86, 3) := by decide +kernel
theorem dX4_read_15 : decode cX4_read 15 = .ok (.dup, 1) := by decide +kernel
theorem dX4_read_16 : decode cX4_read 16 = .ok (.ldc 99, 2) := by decide +kernel
theorem dX4_read_18 : decode cX4_read 18 = .ok (.invokespecial 90, 3) := by decide +kernel
theorem dX4_read_21 : decode cX4_read 21 = .ok (.athrow, 1) := by decide +kernel
theorem dX4_read_22 : decode cX4_read 22 = .ok (.aload_n 0, 1) := by decide +kernel
theorem dX4_read_23 : decode cX4_read 23 = .ok (.iload_n 1, 1) := by decide +kernel
theorem dX4_read_24 : decode cX4_read 24 = .ok (.invokevirtual 101, 3) := by decide +kernel
theorem dX4_read_27 : decode cX4_read 27 = .ok (.ireturn, 1) := by decide +kernel
set_option maxRecDepth 20000 in
theorem ggX4_sendBarrier_X4_requirePartition : GoodIn wsX4_sendBarrier wsX4_requirePartition := goodIn_ca (goodIn_r _ [11, 12, 13] (by decide +kernel) (by decide +kernel)) (goodIn_sub (fun _ h => List.mem_cons_of_mem _ (List.mem_append_right _ h)) (by decide +kernel))
set_option maxRecDepth 20000 in
theorem gX4_sendBarrier_X4_requirePartition : GoodIn wsX4_sendBarrier (va_wsS RX4 69 yX4_requirePartition wsX4_requirePartition) := goodIn_app (goodIn_of _ (by decide +kernel)) ggX4_sendBarrier_X4_requirePartition
set_option maxRecDepth 20000 in
theorem ggX4_sendBarrier_X4_hasRoomInAllChannels : GoodIn wsX4_sendBarrier wsX4_hasRoomInAllChannels := goodIn_r _ [17, 6, 7, 18, 19, 20, 21, 22, 23, 24, 25, 26, 27, 28, 29, 30, 44, 45, 46, 47, 48, 49, 50, 51, 52, 53, 54, 55, 56, 57, 62, 63, 64] (by decide +kernel) (by decide +kernel)
set_option maxRecDepth 20000 in
theorem gX4_sendBarrier_X4_hasRoomInAllChannels : GoodIn wsX4_sendBarrier (wsV RX4 111 RX4 yX4_hasRoomInAllChannels wsX4_hasRoomInAllChannels) := goodIn_app (goodIn_of _ (by decide +kernel)) ggX4_sendBarrier_X4_hasRoomInAllChannels
set_option maxRecDepth 20000 in
theorem ggX4_sendBarrier_X0_put : GoodIn wsX4_sendBarrier wsX0_put := goodIn_r _ [34, 35, 27, 28, 29, 21, 30, 62, 63, 64] (by decide +kernel) (by decide +kernel)
set_option maxRecDepth 20000 in
theorem gX4_sendBarrier_X0_put : GoodIn wsX4_sendBarrier (wsV RX4 116 RX0 yX0_put wsX0_put) := goodIn_app (goodIn_of _ (by decide +kernel)) ggX4_sendBarrier_X0_put
set_option maxRecDepth 20000 in
theorem ggX4_sendBarrier_X2_keepForBarrier : GoodIn wsX4_sendBarrier wsX2_keepForBarrier := goodIn_r _ [40, 41, 42, 43, 58, 59, 60, 61] (by decide +kernel) (by decide +kernel)
set_option maxRecDepth 20000 in
theorem gX4_sendBarrier_X2_keepForBarrier : GoodIn wsX4_sendBarrier (wsV RX4 120 RX2 yX2_keepForBarrier wsX2_keepForBarrier) := goodIn_app (goodIn_of _ (by decide +kernel)) ggX4_sendBarrier_X2_keepForBarrier
theorem dX4_sendBarrier_0 : decode cX4_sendBarrier 0 = .ok (.iload_n 1, 1) := by decide +kernel
theorem dX4_sendBarrier_1 : decode cX4_sendBarrier 1 = .ok (.invokestatic 69, 3) := by decide +kernel
theorem dX4_sendBarrier_4 : decode cX4_sendBarrier 4 = .ok (.aload_n 0, 1) := by decide +kernel
theorem dX4_sendBarrier_5 : decode cX4_sendBarrier 5 = .ok (.getfield 63, 3) := by decide +kernel
theorem dX4_sendBarrier_8 : decode cX4_sendBarrier 8 = .ok (.iconst (-1), 1) := by decide +kernel
theorem dX4_sendBarrier_9 : decode cX4_sendBarrier 9 = .ok (.if_icmp .eq 15, 3) := by decide +kernel
theorem dX4_sendBarrier_12 : decode cX4_sendBarrier 12 = .ok (.aload_n 0, 1) := by decide +kernel
theorem dX4_sendBarrier_13 : decode cX4_sendBarrier 13 = .ok (.getfield 19, 3) := by decide +kernel
theorem dX4_sendBarrier_16 : decode cX4_sendBarrier 16 = .ok (.getfield 105, 3) := by decide +kernel
theorem dX4_sendBarrier_19 : decode cX4_sendBarrier 19 = .ok (.iload_n 1, 1) := by decide +kernel
theorem dX4_sendBarrier_20 : decode cX4_sendBarrier 20 = .ok (.baload, 1) := by decide +kernel
theorem dX4_sendBarrier_21 : decode cX4_sendBarrier 21 = .ok (.ifCond .eq 13, 3) := by decide +kernel
theorem dX4_sendBarrier_24 : decode cX4_sendBarrier 24 = .ok (.new 86, 3) := by decide +kernel
theorem dX4_sendBarrier_27 : decode cX4_sendBarrier 27 = .ok (.dup, 1) := by decide +kernel
theorem dX4_sendBarrier_28 : decode cX4_sendBarrier 28 = .ok (.ldc 109, 2) := by decide +kernel
theorem dX4_sendBarrier_30 : decode cX4_sendBarrier 30 = .ok (.invokespecial 90, 3) := by decide +kernel
theorem dX4_sendBarrier_33 : decode cX4_sendBarrier 33 = .ok (.athrow, 1) := by decide +kernel
theorem dX4_sendBarrier_34 : decode cX4_sendBarrier 34 = .ok (.aload_n 0, 1) := by decide +kernel
theorem dX4_sendBarrier_35 : decode cX4_sendBarrier 35 = .ok (.iload_n 1, 1) := by decide +kernel
theorem dX4_sendBarrier_36 : decode cX4_sendBarrier 36 = .ok (.invokevirtual 111, 3) := by decide +kernel
theorem dX4_sendBarrier_39 : decode cX4_sendBarrier 39 = .ok (.ifCond .ne 13, 3) := by decide +kernel
theorem dX4_sendBarrier_42 : decode cX4_sendBarrier 42 = .ok (.new 86, 3) := by decide +kernel
theorem dX4_sendBarrier_45 : decode cX4_sendBarrier 45 = .ok (.dup, 1) := by decide +kernel
theorem dX4_sendBarrier_46 : decode cX4_sendBarrier 46 = .ok (.ldc 114, 2) := by decide +kernel
theorem dX4_sendBarrier_48 : decode cX4_sendBarrier 48 = .ok (.invokespecial 90, 3) := by decide +kernel
theorem dX4_sendBarrier_51 : decode cX4_sendBarrier 51 = .ok (.athrow, 1) := by decide +kernel
theorem dX4_sendBarrier_52 : decode cX4_sendBarrier 52 = .ok (.iconst 0, 1) := by decide +kernel
theorem dX4_sendBarrier_53 : decode cX4_sendBarrier 53 = .ok (.istore_n 2, 1) := by decide +kernel
theorem dX4_sendBarrier_54 : decode cX4_sendBarrier 54 = .ok (.iload_n 2, 1) := by decide +kernel
theorem dX4_sendBarrier_55 : decode cX4_sendBarrier 55 = .ok (.aload_n 0, 1) := by decide +kernel
theorem dX4_sendBarrier_56 : decode cX4_sendBarrier 56 = .ok (.getfield 56, 3) := by decide +kernel
theorem dX4_sendBarrier_59 : decode cX4_sendBarrier 59 = .ok (.if_icmp .ge 23, 3) := by decide +kernel
theorem dX4_sendBarrier_62 : decode cX4_sendBarrier 62 = .ok (.aload_n 0, 1) := by decide +kernel
theorem dX4_sendBarrier_63 : decode cX4_sendBarrier 63 = .ok (.getfield 26, 3) := by decide +kernel
theorem dX4_sendBarrier_66 : decode cX4_sendBarrier 66 = .ok (.iload_n 1, 1) := by decide +kernel
theorem dX4_sendBarrier_67 : decode cX4_sendBarrier 67 = .ok (.iload_n 2, 1) := by decide +kernel
theorem dX4_sendBarrier_68 : decode cX4_sendBarrier 68 = .ok (.aload_n 0, 1) := by decide +kernel
theorem dX4_sendBarrier_69 : decode cX4_sendBarrier 69 = .ok (.getfield 63, 3) := by decide +kernel
theorem dX4_sendBarrier_72 : decode cX4_sendBarrier 72 = .ok (.ineg, 1) := by decide +kernel
theorem dX4_sendBarrier_73 : decode cX4_sendBarrier 73 = .ok (.invokevirtual 116, 3) := by decide +kernel
theorem dX4_sendBarrier_76 : decode cX4_sendBarrier 76 = .ok (.iinc 2 1, 3) := by decide +kernel
theorem dX4_sendBarrier_79 : decode cX4_sendBarrier 79 = .ok (.goto (-25), 3) := by decide +kernel
theorem dX4_sendBarrier_82 : decode cX4_sendBarrier 82 = .ok (.aload_n 0, 1) := by decide +kernel
theorem dX4_sendBarrier_83 : decode cX4_sendBarrier 83 = .ok (.getfield 19, 3) := by decide +kernel
theorem dX4_sendBarrier_86 : decode cX4_sendBarrier 86 = .ok (.iload_n 1, 1) := by decide +kernel
theorem dX4_sendBarrier_87 : decode cX4_sendBarrier 87 = .ok (.invokevirtual 120, 3) := by decide +kernel
theorem dX4_sendBarrier_90 : decode cX4_sendBarrier 90 = .ok (.ireturn, 1) := by decide +kernel
set_option maxRecDepth 20000 in
theorem ggX4_take_X4_requireWorker : GoodIn wsX4_take wsX4_requireWorker := goodIn_ca (goodIn_r _ [8, 9, 10, 11, 128, 129, 130, 131, 132, 133, 134, 135, 136, 137, 138, 139, 140, 141] (by decide +kernel) (by decide +kernel)) (goodIn_sub (fun _ h => List.mem_cons_of_mem _ (List.mem_append_right _ h)) (by decide +kernel))
set_option maxRecDepth 20000 in
theorem gX4_take_X4_requireWorker : GoodIn wsX4_take (wsV RX4 123 RX4 yX4_requireWorker wsX4_requireWorker) := goodIn_app (goodIn_of _ (by decide +kernel)) ggX4_take_X4_requireWorker
set_option maxRecDepth 20000 in
theorem ggX4_take_X4_requirePartition : GoodIn wsX4_take wsX4_requirePartition := goodIn_ca (goodIn_r _ [14, 9, 10] (by decide +kernel) (by decide +kernel)) (goodIn_sub (fun _ h => List.mem_cons_of_mem _ (List.mem_append_right _ h)) (by decide +kernel))
set_option maxRecDepth 20000 in
theorem gX4_take_X4_requirePartition : GoodIn wsX4_take (va_wsS RX4 69 yX4_requirePartition wsX4_requirePartition) := goodIn_app (goodIn_of _ (by decide +kernel)) ggX4_take_X4_requirePartition
set_option maxRecDepth 20000 in
theorem ggX4_take_X0_canGive : GoodIn wsX4_take wsX0_canGive := goodIn_r _ [19, 20, 21, 22, 18, 23, 24, 25, 26, 27, 28, 29, 30, 31, 32, 142, 143, 144] (by decide +kernel) (by decide +kernel)
set_option maxRecDepth 20000 in
theorem gX4_take_X0_canGive : GoodIn wsX4_take (wsV RX4 126 RX0 yX0_canGive wsX0_canGive) := goodIn_app (goodIn_of _ (by decide +kernel)) ggX4_take_X0_canGive
set_option maxRecDepth 20000 in
theorem ggX4_take_X4_takeFrom : GoodIn wsX4_take wsX4_takeFrom := goodIn_r _ [36, 3, 37, 38, 39, 40, 18, 41, 42, 24, 25, 26, 27, 43, 44, 7, 45, 46, 47, 48, 49, 50, 51, 52, 53, 54, 55, 56, 57, 58, 59, 60, 61, 62, 63, 64, 65, 66, 67, 68, 69, 70, 32, 71, 72, 73, 74, 28, 29, 30, 31, 75, 76, 77, 78, 79, 80, 81, 82, 83, 84, 85, 11, 86, 87, 88, 89, 90, 91, 92, 93, 94, 95, 96, 97, 98, 99, 100, 101, 102, 103, 104, 105, 106, 107, 108, 109, 110, 111, 112, 113, 114, 115, 116, 117, 118, 119, 120, 121, 122, 123, 124, 125, 126, 127, 128, 129, 130, 131, 132, 133, 134, 135, 136, 137, 138, 139, 140, 141, 142, 143, 144, 145, 146, 147, 148, 149, 150] (by decide +kernel) (by decide +kernel)
set_option maxRecDepth 20000 in
theorem gX4_take_X4_takeFrom : GoodIn wsX4_take (wsV RX4 132 RX4 yX4_takeFrom wsX4_takeFrom) := goodIn_app (goodIn_of _ (by decide +kernel)) ggX4_take_X4_takeFrom
theorem dX4_take_0 : decode cX4_take 0 = .ok (.aload_n 0, 1) := by decide +kernel
theorem dX4_take_1 : decode cX4_take 1 = .ok (.iload_n 1, 1) := by decide +kernel
theorem dX4_take_2 : decode cX4_take 2 = .ok (.invokevirtual 123, 3) := by decide +kernel
theorem dX4_take_5 : decode cX4_take 5 = .ok (.iload_n 2, 1) := by decide +kernel
theorem dX4_take_6 : decode cX4_take 6 = .ok (.invokestatic 69, 3) := by decide +kernel
theorem dX4_take_9 : decode cX4_take 9 = .ok (.aload_n 0, 1) := by decide +kernel
theorem dX4_take_10 : decode cX4_take 10 = .ok (.getfield 26, 3) := by decide +kernel
theorem dX4_take_13 : decode cX4_take 13 = .ok (.iload_n 2, 1) := by decide +kernel
theorem dX4_take_14 : decode cX4_take 14 = .ok (.iload_n 1, 1) := by decide +kernel
theorem dX4_take_15 : decode cX4_take 15 = .ok (.invokevirtual 126, 3) := by decide +kernel
theorem dX4_take_18 : decode cX4_take 18 = .ok (.ifCond .ne 13, 3) := by decide +kernel
theorem dX4_take_21 : decode cX4_take 21 = .ok (.new 86, 3) := by decide +kernel
theorem dX4_take_24 : decode cX4_take 24 = .ok (.dup, 1) := by decide +kernel
theorem dX4_take_25 : decode cX4_take 25 = .ok (.ldc 130, 2) := by decide +kernel
theorem dX4_take_27 : decode cX4_take 27 = .ok (.invokespecial 90, 3) := by decide +kernel
theorem dX4_take_30 : decode cX4_take 30 = .ok (.athrow, 1) := by decide +kernel
theorem dX4_take_31 : decode cX4_take 31 = .ok (.aload_n 0, 1) := by decide +kernel
theorem dX4_take_32 : decode cX4_take 32 = .ok (.iload_n 2, 1) := by decide +kernel
theorem dX4_take_33 : decode cX4_take 33 = .ok (.iload_n 1, 1) := by decide +kernel
theorem dX4_take_34 : decode cX4_take 34 = .ok (.invokevirtual 132, 3) := by decide +kernel
theorem dX4_take_37 : decode cX4_take 37 = .ok (.ireturn, 1) := by decide +kernel
set_option maxRecDepth 20000 in
theorem ggX4_pump_X4_readRound : GoodIn wsX4_pump wsX4_readRound := goodIn_r _ [7, 8, 9, 10, 6, 11, 12, 13, 14, 15, 16, 17, 18, 19, 20, 21, 22, 23, 24, 25, 26, 27, 28, 29, 30, 31, 32, 33, 34, 35, 36, 37, 38, 39, 40, 41, 42, 43, 44, 45, 46, 47, 48, 49, 50, 51, 52, 53, 54, 55, 152, 153, 154, 155, 156, 157, 158, 159, 160, 161, 162, 163, 164, 165, 166, 167, 168, 169, 170, 171, 172, 173, 174] (by decide +kernel) (by decide +kernel)
set_option maxRecDepth 20000 in
theorem gX4_pump_X4_readRound : GoodIn wsX4_pump (wsV RX4 137 RX4 yX4_readRound wsX4_readRound) := goodIn_app (goodIn_of _ (by decide +kernel)) ggX4_pump_X4_readRound
set_option maxRecDepth 20000 in
theorem ggX4_pump_X4_takeRound : GoodIn wsX4_pump wsX4_takeRound := goodIn_r _ [59, 30, 16, 60, 61, 62, 37, 63, 39, 40, 41, 42, 43, 44, 45, 46, 64, 65, 66, 67, 68, 69, 70, 71, 6, 72, 73, 74, 75, 76, 77, 55, 23, 24, 25, 78, 79, 80, 81, 82, 83, 84, 85, 86, 87, 88, 89, 90, 91, 92, 93, 94, 95, 96, 97, 98, 99, 100, 101, 102, 103, 104, 105, 106, 107, 108, 109, 110, 111, 112, 113, 26, 27, 28, 29, 31, 32, 33, 114, 115, 116, 117, 118, 119, 120, 121, 122, 123, 124, 125, 126, 127, 128, 129, 130, 131, 132, 133, 134, 135, 136, 137, 138, 139, 12, 140, 141, 142, 143, 144, 145, 146, 147, 148, 149, 150, 151, 152, 153, 154, 155, 156, 157, 158, 159, 160, 161, 162, 163, 164, 165, 172, 173, 174, 175, 176, 166, 167, 168, 169] (by decide +kernel) (by decide +kernel)
set_option maxRecDepth 20000 in
theorem gX4_pump_X4_takeRound : GoodIn wsX4_pump (wsV RX4 141 RX4 yX4_takeRound wsX4_takeRound) := goodIn_app (goodIn_of _ (by decide +kernel)) ggX4_pump_X4_takeRound
theorem dX4_pump_0 : decode cX4_pump 0 = .ok (.iload_n 1, 1) := by decide +kernel
theorem dX4_pump_1 : decode cX4_pump 1 = .ok (.iconst 1, 1) := by decide +kernel
theorem dX4_pump_2 : decode cX4_pump 2 = .ok (.if_icmp .lt 9, 3) := by decide +kernel
theorem dX4_pump_5 : decode cX4_pump 5 = .ok (.iload_n 1, 1) := by decide +kernel
theorem dX4_pump_6 : decode cX4_pump 6 = .ok (.bipush 20, 2) := by decide +kernel
theorem dX4_pump_8 : decode cX4_pump 8 = .ok (.if_icmp .le 13, 3) := by decide +kernel
theorem dX4_pump_11 : decode cX4_pump 11 = .ok (.new 76, 3) := by decide +kernel
theorem dX4_pump_14 : decode cX4_pump 14 = .ok (.dup, 1) := by decide +kernel
theorem dX4_pump_15 : decode cX4_pump 15 = .ok (.ldc 135, 2) := by decide +kernel
theorem dX4_pump_17 : decode cX4_pump 17 = .ok (.invokespecial 80, 3) := by decide +kernel
theorem dX4_pump_20 : decode cX4_pump 20 = .ok (.athrow, 1) := by decide +kernel
theorem dX4_pump_21 : decode cX4_pump 21 = .ok (.iconst 0, 1) := by decide +kernel
theorem dX4_pump_22 : decode cX4_pump 22 = .ok (.istore_n 2, 1) := by decide +kernel
theorem dX4_pump_23 : decode cX4_pump 23 = .ok (.iconst 0, 1) := by decide +kernel
theorem dX4_pump_24 : decode cX4_pump 24 = .ok (.istore_n 3, 1) := by decide +kernel
theorem dX4_pump_25 : decode cX4_pump 25 = .ok (.iload_n 3, 1) := by decide +kernel
theorem dX4_pump_26 : decode cX4_pump 26 = .ok (.iload_n 1, 1) := by decide +kernel
theorem dX4_pump_27 : decode cX4_pump 27 = .ok (.if_icmp .ge 23, 3) := by decide +kernel
theorem dX4_pump_30 : decode cX4_pump 30 = .ok (.iload_n 2, 1) := by decide +kernel
theorem dX4_pump_31 : decode cX4_pump 31 = .ok (.aload_n 0, 1) := by decide +kernel
theorem dX4_pump_32 : decode cX4_pump 32 = .ok (.invokevirtual 137, 3) := by decide +kernel
theorem dX4_pump_35 : decode cX4_pump 35 = .ok (.iadd, 1) := by decide +kernel
theorem dX4_pump_36 : decode cX4_pump 36 = .ok (.istore_n 2, 1) := by decide +kernel
theorem dX4_pump_37 : decode cX4_pump 37 = .ok (.iload_n 2, 1) := by decide +kernel
theorem dX4_pump_38 : decode cX4_pump 38 = .ok (.aload_n 0, 1) := by decide +kernel
theorem dX4_pump_39 : decode cX4_pump 39 = .ok (.invokevirtual 141, 3) := by decide +kernel
theorem dX4_pump_42 : decode cX4_pump 42 = .ok (.iadd, 1) := by decide +kernel
theorem dX4_pump_43 : decode cX4_pump 43 = .ok (.istore_n 2, 1) := by decide +kernel
theorem dX4_pump_44 : decode cX4_pump 44 = .ok (.iinc 3 1, 3) := by decide +kernel
theorem dX4_pump_47 : decode cX4_pump 47 = .ok (.goto (-22), 3) := by decide +kernel
theorem dX4_pump_50 : decode cX4_pump 50 = .ok (.iload_n 2, 1) := by decide +kernel
theorem dX4_pump_51 : decode cX4_pump 51 = .ok (.ireturn, 1) := by decide +kernel
set_option maxRecDepth 20000 in
theorem ggX4_commit_X4_requireWorker : GoodIn wsX4_commit wsX4_requireWorker := goodIn_ca (goodIn_r _ [7, 8, 9, 10, 47, 48, 49, 50, 51, 52, 53, 54, 55, 56, 57, 58, 59, 60] (by decide +kernel) (by decide +kernel)) (goodIn_sub (fun _ h => List.mem_cons_of_mem _ (List.mem_append_right _ h)) (by decide +kernel))
set_option maxRecDepth 20000 in
theorem gX4_commit_X4_requireWorker : GoodIn wsX4_commit (wsV RX4 123 RX4 yX4_requireWorker wsX4_requireWorker) := goodIn_app (goodIn_of _ (by decide +kernel)) ggX4_commit_X4_requireWorker
set_option maxRecDepth 20000 in
theorem ggX4_commit_X4_isReadyToCommit : GoodIn wsX4_commit wsX4_isReadyToCommit := goodIn_r _ [14, 15, 16, 47, 48, 49, 50, 51, 52, 53, 54, 55, 56, 57, 58, 59, 60] (by decide +kernel) (by decide +kernel)
set_option maxRecDepth 20000 in
theorem gX4_commit_X4_isReadyToCommit : GoodIn wsX4_commit (wsV RX4 144 RX4 yX4_isReadyToCommit wsX4_isReadyToCommit) := goodIn_app (goodIn_of _ (by decide +kernel)) ggX4_commit_X4_isReadyToCommit
set_option maxRecDepth 20000 in
theorem ggX4_commit_X4_commitSealed : GoodIn wsX4_commit wsX4_commitSealed := goodIn_r _ [20, 15, 21, 22, 23, 24, 25, 6, 26, 27, 28, 29, 30, 31, 32, 10, 33, 34, 35, 36, 37, 38, 39, 40, 41, 42, 43, 44, 45, 46, 47, 48, 49, 50, 51, 52, 53, 54, 55, 56, 57, 58, 59, 60, 61, 62] (by decide +kernel) (by decide +kernel)
set_option maxRecDepth 20000 in
theorem gX4_commit_X4_commitSealed : GoodIn wsX4_commit (wsV RX4 149 RX4 yX4_commitSealed wsX4_commitSealed) := goodIn_app (goodIn_of _ (by decide +kernel)) ggX4_commit_X4_commitSealed
theorem dX4_commit_0 : decode cX4_commit 0 = .ok (.aload_n 0, 1) := by decide +kernel
theorem dX4_commit_1 : decode cX4_commit 1 = .ok (.iload_n 1, 1) := by decide +kernel
theorem dX4_commit_2 : decode cX4_commit 2 = .ok (.invokevirtual 123, 3) := by decide +kernel
theorem dX4_commit_5 : decode cX4_commit 5 = .ok (.aload_n 0, 1) := by decide +kernel
theorem dX4_commit_6 : decode cX4_commit 6 = .ok (.iload_n 1, 1) := by decide +kernel
theorem dX4_commit_7 : decode cX4_commit 7 = .ok (.invokevirtual 144, 3) := by decide +kernel
theorem dX4_commit_10 : decode cX4_commit 10 = .ok (.ifCond .ne 13, 3) := by decide +kernel
theorem dX4_commit_13 : decode cX4_commit 13 = .ok (.new 86, 3) := by decide +kernel
theorem dX4_commit_16 : decode cX4_commit 16 = .ok (.dup, 1) := by decide +kernel
theorem dX4_commit_17 : decode cX4_commit 17 = .ok (.ldc 147, 2) := by decide +kernel
theorem dX4_commit_19 : decode cX4_commit 19 = .ok (.invokespecial 90, 3) := by decide +kernel
theorem dX4_commit_22 : decode cX4_commit 22 = .ok (.athrow, 1) := by decide +kernel
theorem dX4_commit_23 : decode cX4_commit 23 = .ok (.aload_n 0, 1) := by decide +kernel
theorem dX4_commit_24 : decode cX4_commit 24 = .ok (.iload_n 1, 1) := by decide +kernel
theorem dX4_commit_25 : decode cX4_commit 25 = .ok (.invokevirtual 149, 3) := by decide +kernel
theorem dX4_commit_28 : decode cX4_commit 28 = .ok (.ireturn, 1) := by decide +kernel
set_option maxRecDepth 20000 in
theorem ggX4_beginCheckpoint_X4_hasAnySealed : GoodIn wsX4_beginCheckpoint wsX4_hasAnySealed := goodIn_r _ [10, 11, 12, 19, 20, 21, 22, 23, 24, 25, 26, 27, 28, 29, 30, 31, 32] (by decide +kernel) (by decide +kernel)
set_option maxRecDepth 20000 in
theorem gX4_beginCheckpoint_X4_hasAnySealed : GoodIn wsX4_beginCheckpoint (wsV RX4 152 RX4 yX4_hasAnySealed wsX4_hasAnySealed) := goodIn_app (goodIn_of _ (by decide +kernel)) ggX4_beginCheckpoint_X4_hasAnySealed
set_option maxRecDepth 20000 in
theorem ggX4_beginCheckpoint_X2_forgetBarriers : GoodIn wsX4_beginCheckpoint wsX2_forgetBarriers := goodIn_r _ [17, 18, 33, 34, 35, 36] (by decide +kernel) (by decide +kernel)
set_option maxRecDepth 20000 in
theorem gX4_beginCheckpoint_X2_forgetBarriers : GoodIn wsX4_beginCheckpoint (wsV RX4 158 RX2 yX2_forgetBarriers wsX2_forgetBarriers) := goodIn_app (goodIn_of _ (by decide +kernel)) ggX4_beginCheckpoint_X2_forgetBarriers
theorem dX4_beginCheckpoint_0 : decode cX4_beginCheckpoint 0 = .ok (.aload_n 0, 1) := by decide +kernel
theorem dX4_beginCheckpoint_1 : decode cX4_beginCheckpoint 1 = .ok (.getfield 63, 3) := by decide +kernel
theorem dX4_beginCheckpoint_4 : decode cX4_beginCheckpoint 4 = .ok (.iconst (-1), 1) := by decide +kernel
theorem dX4_beginCheckpoint_5 : decode cX4_beginCheckpoint 5 = .ok (.if_icmp .ne 10, 3) := by decide +kernel
theorem dX4_beginCheckpoint_8 : decode cX4_beginCheckpoint 8 = .ok (.aload_n 0, 1) := by decide +kernel
theorem dX4_beginCheckpoint_9 : decode cX4_beginCheckpoint 9 = .ok (.invokevirtual 152, 3) := by decide +kernel
theorem dX4_beginCheckpoint_12 : decode cX4_beginCheckpoint 12 = .ok (.ifCond .eq 13, 3) := by decide +kernel
theorem dX4_beginCheckpoint_15 : decode cX4_beginCheckpoint 15 = .ok (.new 86, 3) := by decide +kernel
theorem dX4_beginCheckpoint_18 : decode cX4_beginCheckpoint 18 = .ok (.dup, 1) := by decide +kernel
theorem dX4_beginCheckpoint_19 : decode cX4_beginCheckpoint 19 = .ok (.ldc 156, 2) := by decide +kernel
theorem dX4_beginCheckpoint_21 : decode cX4_beginCheckpoint 21 = .ok (.invokespecial 90, 3) := by decide +kernel
theorem dX4_beginCheckpoint_24 : decode cX4_beginCheckpoint 24 = .ok (.athrow, 1) := by decide +kernel
theorem dX4_beginCheckpoint_25 : decode cX4_beginCheckpoint 25 = .ok (.aload_n 0, 1) := by decide +kernel
theorem dX4_beginCheckpoint_26 : decode cX4_beginCheckpoint 26 = .ok (.dup, 1) := by decide +kernel
theorem dX4_beginCheckpoint_27 : decode cX4_beginCheckpoint 27 = .ok (.getfield 60, 3) := by decide +kernel
theorem dX4_beginCheckpoint_30 : decode cX4_beginCheckpoint 30 = .ok (.iconst 1, 1) := by decide +kernel
theorem dX4_beginCheckpoint_31 : decode cX4_beginCheckpoint 31 = .ok (.iadd, 1) := by decide +kernel
theorem dX4_beginCheckpoint_32 : decode cX4_beginCheckpoint 32 = .ok (.putfield 60, 3) := by decide +kernel
theorem dX4_beginCheckpoint_35 : decode cX4_beginCheckpoint 35 = .ok (.aload_n 0, 1) := by decide +kernel
theorem dX4_beginCheckpoint_36 : decode cX4_beginCheckpoint 36 = .ok (.aload_n 0, 1) := by decide +kernel
theorem dX4_beginCheckpoint_37 : decode cX4_beginCheckpoint 37 = .ok (.getfield 60, 3) := by decide +kernel
theorem dX4_beginCheckpoint_40 : decode cX4_beginCheckpoint 40 = .ok (.putfield 63, 3) := by decide +kernel
theorem dX4_beginCheckpoint_43 : decode cX4_beginCheckpoint 43 = .ok (.aload_n 0, 1) := by decide +kernel
theorem dX4_beginCheckpoint_44 : decode cX4_beginCheckpoint 44 = .ok (.getfield 19, 3) := by decide +kernel
theorem dX4_beginCheckpoint_47 : decode cX4_beginCheckpoint 47 = .ok (.invokevirtual 158, 3) := by decide +kernel
theorem dX4_beginCheckpoint_50 : decode cX4_beginCheckpoint 50 = .ok (.aload_n 0, 1) := by decide +kernel
theorem dX4_beginCheckpoint_51 : decode cX4_beginCheckpoint 51 = .ok (.getfield 63, 3) := by decide +kernel
theorem dX4_beginCheckpoint_54 : decode cX4_beginCheckpoint 54 = .ok (.ireturn, 1) := by decide +kernel
set_option maxRecDepth 20000 in
theorem ggX4_abandon_X0_unblockAll : GoodIn wsX4_abandon wsX0_unblockAll := goodIn_r _ [13, 14, 15, 16, 12, 17, 57, 58, 59] (by decide +kernel) (by decide +kernel)
set_option maxRecDepth 20000 in
theorem gX4_abandon_X0_unblockAll : GoodIn wsX4_abandon (wsV RX4 163 RX0 yX0_unblockAll wsX0_unblockAll) := goodIn_app (goodIn_of _ (by decide +kernel)) ggX4_abandon_X0_unblockAll
set_option maxRecDepth 20000 in
theorem ggX4_abandon_X4_moveTallies : GoodIn wsX4_abandon wsX4_moveTallies := goodIn_r _ [22, 23, 24, 25, 26, 27, 21, 28, 4, 29, 30, 31, 32, 33, 34, 35, 36, 37, 38, 39, 40, 41, 42, 60, 61, 43, 44, 45, 46, 47, 48, 49, 50, 51, 52, 53, 54, 55, 56] (by decide +kernel) (by decide +kernel)
set_option maxRecDepth 20000 in
theorem gX4_abandon_X4_moveTallies : GoodIn wsX4_abandon (wsV RX4 166 RX4 yX4_moveTallies wsX4_moveTallies) := goodIn_app (goodIn_of _ (by decide +kernel)) ggX4_abandon_X4_moveTallies
theorem dX4_abandon_0 : decode cX4_abandon 0 = .ok (.aload_n 0, 1) := by decide +kernel
theorem dX4_abandon_1 : decode cX4_abandon 1 = .ok (.getfield 63, 3) := by decide +kernel
theorem dX4_abandon_4 : decode cX4_abandon 4 = .ok (.iconst (-1), 1) := by decide +kernel
theorem dX4_abandon_5 : decode cX4_abandon 5 = .ok (.if_icmp .ne 13, 3) := by decide +kernel
theorem dX4_abandon_8 : decode cX4_abandon 8 = .ok (.new 86, 3) := by decide +kernel
theorem dX4_abandon_11 : decode cX4_abandon 11 = .ok (.dup, 1) := by decide +kernel
theorem dX4_abandon_12 : decode cX4_abandon 12 = .ok (.ldc 161, 2) := by decide +kernel
theorem dX4_abandon_14 : decode cX4_abandon 14 = .ok (.invokespecial 90, 3) := by decide +kernel
theorem dX4_abandon_17 : decode cX4_abandon 17 = .ok (.athrow, 1) := by decide +kernel
theorem dX4_abandon_18 : decode cX4_abandon 18 = .ok (.aload_n 0, 1) := by decide +kernel
theorem dX4_abandon_19 : decode cX4_abandon 19 = .ok (.getfield 63, 3) := by decide +kernel
theorem dX4_abandon_22 : decode cX4_abandon 22 = .ok (.istore_n 1, 1) := by decide +kernel
theorem dX4_abandon_23 : decode cX4_abandon 23 = .ok (.iconst 0, 1) := by decide +kernel
theorem dX4_abandon_24 : decode cX4_abandon 24 = .ok (.istore_n 2, 1) := by decide +kernel
theorem dX4_abandon_25 : decode cX4_abandon 25 = .ok (.iload_n 2, 1) := by decide +kernel
theorem dX4_abandon_26 : decode cX4_abandon 26 = .ok (.aload_n 0, 1) := by decide +kernel
theorem dX4_abandon_27 : decode cX4_abandon 27 = .ok (.getfield 56, 3) := by decide +kernel
theorem dX4_abandon_30 : decode cX4_abandon 30 = .ok (.if_icmp .ge 48, 3) := by decide +kernel
theorem dX4_abandon_33 : decode cX4_abandon 33 = .ok (.aload_n 0, 1) := by decide +kernel
theorem dX4_abandon_34 : decode cX4_abandon 34 = .ok (.getfield 26, 3) := by decide +kernel
theorem dX4_abandon_37 : decode cX4_abandon 37 = .ok (.iload_n 2, 1) := by decide +kernel
theorem dX4_abandon_38 : decode cX4_abandon 38 = .ok (.invokevirtual 163, 3) := by decide +kernel
theorem dX4_abandon_41 : decode cX4_abandon 41 = .ok (.aload_n 0, 1) := by decide +kernel
theorem dX4_abandon_42 : decode cX4_abandon 42 = .ok (.getfield 52, 3) := by decide +kernel
theorem dX4_abandon_45 : decode cX4_abandon 45 = .ok (.iload_n 2, 1) := by decide +kernel
theorem dX4_abandon_46 : decode cX4_abandon 46 = .ok (.iaload, 1) := by decide +kernel
theorem dX4_abandon_47 : decode cX4_abandon 47 = .ok (.iload_n 1, 1) := by decide +kernel
theorem dX4_abandon_48 : decode cX4_abandon 48 = .ok (.if_icmp .ne 24, 3) := by decide +kernel
theorem dX4_abandon_51 : decode cX4_abandon 51 = .ok (.aload_n 0, 1) := by decide +kernel
theorem dX4_abandon_52 : decode cX4_abandon 52 = .ok (.aload_n 0, 1) := by decide +kernel
theorem dX4_abandon_53 : decode cX4_abandon 53 = .ok (.getfield 40, 3) := by decide +kernel
theorem dX4_abandon_56 : decode cX4_abandon 56 = .ok (.aload_n 0, 1) := by decide +kernel
theorem dX4_abandon_57 : decode cX4_abandon 57 = .ok (.getfield 37, 3) := by decide +kernel
theorem dX4_abandon_60 : decode cX4_abandon 60 = .ok (.iload_n 2, 1) := by decide +kernel
theorem dX4_abandon_61 : decode cX4_abandon 61 = .ok (.invokevirtual 166, 3) := by decide +kernel
theorem dX4_abandon_64 : decode cX4_abandon 64 = .ok (.pop, 1) := by decide +kernel
theorem dX4_abandon_65 : decode cX4_abandon 65 = .ok (.aload_n 0, 1) := by decide +kernel
theorem dX4_abandon_66 : decode cX4_abandon 66 = .ok (.getfield 52, 3) := by decide +kernel
theorem dX4_abandon_69 : decode cX4_abandon 69 = .ok (.iload_n 2, 1) := by decide +kernel
theorem dX4_abandon_70 : decode cX4_abandon 70 = .ok (.iconst (-1), 1) := by decide +kernel
theorem dX4_abandon_71 : decode cX4_abandon 71 = .ok (.iastore, 1) := by decide +kernel
theorem dX4_abandon_72 : decode cX4_abandon 72 = .ok (.iinc 2 1, 3) := by decide +kernel
theorem dX4_abandon_75 : decode cX4_abandon 75 = .ok (.goto (-50), 3) := by decide +kernel
theorem dX4_abandon_78 : decode cX4_abandon 78 = .ok (.aload_n 0, 1) := by decide +kernel
theorem dX4_abandon_79 : decode cX4_abandon 79 = .ok (.iconst (-1), 1) := by decide +kernel
theorem dX4_abandon_80 : decode cX4_abandon 80 = .ok (.putfield 63, 3) := by decide +kernel
theorem dX4_abandon_83 : decode cX4_abandon 83 = .ok (.iload_n 1, 1) := by decide +kernel
theorem dX4_abandon_84 : decode cX4_abandon 84 = .ok (.ireturn, 1) := by decide +kernel
set_option maxRecDepth 20000 in
theorem ggX4_crash_X4_startAgain : GoodIn wsX4_crash wsX4_startAgain := goodIn_r _ [7, 1, 8, 9, 10, 11, 12, 13, 14, 15, 16, 17, 18, 6, 19, 2, 20, 21, 22, 23, 24, 25, 26, 27, 28, 29, 30, 31, 32, 33, 34, 35, 36, 37, 38, 39, 40, 41, 42, 43, 44, 45, 46, 47, 48, 49, 50, 51, 52, 53, 54, 55, 56, 57, 58, 59, 60, 61, 62, 63, 64, 65, 66, 67, 68, 69, 70, 71, 72, 73, 74, 75, 76, 77, 78, 79, 80, 81, 82, 83, 84, 85, 86, 87, 88, 89, 90, 91, 92, 93, 94] (by decide +kernel) (by decide +kernel)
set_option maxRecDepth 20000 in
theorem gX4_crash_X4_startAgain : GoodIn wsX4_crash (wsV RX4 170 RX4 yX4_startAgain wsX4_startAgain) := goodIn_app (goodIn_of _ (by decide +kernel)) ggX4_crash_X4_startAgain
theorem dX4_crash_0 : decode cX4_crash 0 = .ok (.aload_n 0, 1) := by decide +kernel
theorem dX4_crash_1 : decode cX4_crash 1 = .ok (.aload_n 0, 1) := by decide +kernel
theorem dX4_crash_2 : decode cX4_crash 2 = .ok (.getfield 56, 3) := by decide +kernel
theorem dX4_crash_5 : decode cX4_crash 5 = .ok (.invokevirtual 170, 3) := by decide +kernel
theorem dX4_crash_8 : decode cX4_crash 8 = .ok (.aload_n 0, 1) := by decide +kernel
theorem dX4_crash_9 : decode cX4_crash 9 = .ok (.getfield 66, 3) := by decide +kernel
theorem dX4_crash_12 : decode cX4_crash 12 = .ok (.iconst (-1), 1) := by decide +kernel
theorem dX4_crash_13 : decode cX4_crash 13 = .ok (.if_icmp .ne 7, 3) := by decide +kernel
theorem dX4_crash_16 : decode cX4_crash 16 = .ok (.iconst 0, 1) := by decide +kernel
theorem dX4_crash_17 : decode cX4_crash 17 = .ok (.goto 7, 3) := by decide +kernel
theorem dX4_crash_20 : decode cX4_crash 20 = .ok (.aload_n 0, 1) := by decide +kernel
theorem dX4_crash_21 : decode cX4_crash 21 = .ok (.getfield 66, 3) := by decide +kernel
theorem dX4_crash_24 : decode cX4_crash 24 = .ok (.ireturn, 1) := by decide +kernel
set_option maxRecDepth 20000 in
theorem ggX4_rescale_X4_ownerOfGroup : GoodIn wsX4_rescale wsX4_ownerOfGroup := goodIn_r _ [7] (by decide +kernel) (by decide +kernel)
set_option maxRecDepth 20000 in
theorem gX4_rescale_X4_ownerOfGroup : GoodIn wsX4_rescale (va_wsS RX4 175 yX4_ownerOfGroup wsX4_ownerOfGroup) := goodIn_app (goodIn_of _ (by decide +kernel)) ggX4_rescale_X4_ownerOfGroup
set_option maxRecDepth 20000 in
theorem ggX4_rescale_X4_startAgain : GoodIn wsX4_rescale wsX4_startAgain := goodIn_r _ [11, 3, 12, 13, 14, 15, 16, 17, 18, 19, 20, 21, 22, 6, 23, 24, 25, 26, 27, 28, 29, 30, 31, 32, 33, 34, 35, 36, 37, 38, 39, 4, 5, 7, 40, 41, 42, 43, 44, 45, 46, 47, 48, 49, 50, 51, 52, 53, 54, 55, 56, 57, 58, 59, 60, 61, 62, 63, 64, 65, 66, 67, 68, 69, 70, 71, 72, 73, 74, 75, 76, 77, 78, 79, 80, 81, 82, 83, 84, 85, 86, 87, 88, 89, 90, 91, 92, 93, 94, 95, 96] (by decide +kernel) (by decide +kernel)
set_option maxRecDepth 20000 in
theorem gX4_rescale_X4_startAgain : GoodIn wsX4_rescale (wsV RX4 170 RX4 yX4_startAgain wsX4_startAgain) := goodIn_app (goodIn_of _ (by decide +kernel)) ggX4_rescale_X4_startAgain
theorem dX4_rescale_0 : decode cX4_rescale 0 = .ok (.iload_n 1, 1) := by decide +kernel
theorem dX4_rescale_1 : decode cX4_rescale 1 = .ok (.iconst 1, 1) := by decide +kernel
theorem dX4_rescale_2 : decode cX4_rescale 2 = .ok (.if_icmp .lt 8, 3) := by decide +kernel
theorem dX4_rescale_5 : decode cX4_rescale 5 = .ok (.iload_n 1, 1) := by decide +kernel
theorem dX4_rescale_6 : decode cX4_rescale 6 = .ok (.iconst 4, 1) := by decide +kernel
theorem dX4_rescale_7 : decode cX4_rescale 7 = .ok (.if_icmp .le 13, 3) := by decide +kernel
theorem dX4_rescale_10 : decode cX4_rescale 10 = .ok (.new 76, 3) := by decide +kernel
theorem dX4_rescale_13 : decode cX4_rescale 13 = .ok (.dup, 1) := by decide +kernel
theorem dX4_rescale_14 : decode cX4_rescale 14 = .ok (.ldc 173, 2) := by decide +kernel
theorem dX4_rescale_16 : decode cX4_rescale 16 = .ok (.invokespecial 80, 3) := by decide +kernel
theorem dX4_rescale_19 : decode cX4_rescale 19 = .ok (.athrow, 1) := by decide +kernel
theorem dX4_rescale_20 : decode cX4_rescale 20 = .ok (.iconst 0, 1) := by decide +kernel
theorem dX4_rescale_21 : decode cX4_rescale 21 = .ok (.istore_n 2, 1) := by decide +kernel
theorem dX4_rescale_22 : decode cX4_rescale 22 = .ok (.iconst 0, 1) := by decide +kernel
theorem dX4_rescale_23 : decode cX4_rescale 23 = .ok (.istore_n 3, 1) := by decide +kernel
theorem dX4_rescale_24 : decode cX4_rescale 24 = .ok (.iload_n 3, 1) := by decide +kernel
theorem dX4_rescale_25 : decode cX4_rescale 25 = .ok (.bipush 8, 2) := by decide +kernel
theorem dX4_rescale_27 : decode cX4_rescale 27 = .ok (.if_icmp .ge 28, 3) := by decide +kernel
theorem dX4_rescale_30 : decode cX4_rescale 30 = .ok (.iload_n 3, 1) := by decide +kernel
theorem dX4_rescale_31 : decode cX4_rescale 31 = .ok (.iload_n 1, 1) := by decide +kernel
theorem dX4_rescale_32 : decode cX4_rescale 32 = .ok (.invokestatic 175, 3) := by decide +kernel
theorem dX4_rescale_35 : decode cX4_rescale 35 = .ok (.iload_n 3, 1) := by decide +kernel
theorem dX4_rescale_36 : decode cX4_rescale 36 = .ok (.aload_n 0, 1) := by decide +kernel
theorem dX4_rescale_37 : decode cX4_rescale 37 = .ok (.getfield 56, 3) := by decide +kernel
theorem dX4_rescale_40 : decode cX4_rescale 40 = .ok (.invokestatic 175, 3) := by decide +kernel
theorem dX4_rescale_43 : decode cX4_rescale 43 = .ok (.if_icmp .eq 6, 3) := by decide +kernel
theorem dX4_rescale_46 : decode cX4_rescale 46 = .ok (.iinc 2 1, 3) := by decide +kernel
theorem dX4_rescale_49 : decode cX4_rescale 49 = .ok (.iinc 3 1, 3) := by decide +kernel
theorem dX4_rescale_52 : decode cX4_rescale 52 = .ok (.goto (-28), 3) := by decide +kernel
theorem dX4_rescale_55 : decode cX4_rescale 55 = .ok (.aload_n 0, 1) := by decide +kernel
theorem dX4_rescale_56 : decode cX4_rescale 56 = .ok (.iload_n 1, 1) := by decide +kernel
theorem dX4_rescale_57 : decode cX4_rescale 57 = .ok (.invokevirtual 170, 3) := by decide +kernel
theorem dX4_rescale_60 : decode cX4_rescale 60 = .ok (.iload_n 2, 1) := by decide +kernel
theorem dX4_rescale_61 : decode cX4_rescale 61 = .ok (.ireturn, 1) := by decide +kernel
set_option maxRecDepth 20000 in
theorem ggX4_events_X4_requirePartition : GoodIn wsX4_events wsX4_requirePartition := goodIn_ca (goodIn_r _ [6, 7, 8] (by decide +kernel) (by decide +kernel)) (goodIn_sub (fun _ h => List.mem_cons_of_mem _ (List.mem_append_right _ h)) (by decide +kernel))
set_option maxRecDepth 20000 in
theorem gX4_events_X4_requirePartition : GoodIn wsX4_events (va_wsS RX4 69 yX4_requirePartition wsX4_requirePartition) := goodIn_app (goodIn_of _ (by decide +kernel)) ggX4_events_X4_requirePartition
theorem dX4_events_0 : decode cX4_events 0 = .ok (.iload_n 1, 1) := by decide +kernel
theorem dX4_events_1 : decode cX4_events 1 = .ok (.invokestatic 69, 3) := by decide +kernel
theorem dX4_events_4 : decode cX4_events 4 = .ok (.aload_n 0, 1) := by decide +kernel
theorem dX4_events_5 : decode cX4_events 5 = .ok (.getfield 10, 3) := by decide +kernel
theorem dX4_events_8 : decode cX4_events 8 = .ok (.getfield 83, 3) := by decide +kernel
theorem dX4_events_11 : decode cX4_events 11 = .ok (.iload_n 1, 1) := by decide +kernel
theorem dX4_events_12 : decode cX4_events 12 = .ok (.iaload, 1) := by decide +kernel
theorem dX4_events_13 : decode cX4_events 13 = .ok (.ireturn, 1) := by decide +kernel
set_option maxRecDepth 20000 in
theorem ggX4_offset_X4_requirePartition : GoodIn wsX4_offset wsX4_requirePartition := goodIn_ca (goodIn_r _ [6, 7, 8] (by decide +kernel) (by decide +kernel)) (goodIn_sub (fun _ h => List.mem_cons_of_mem _ (List.mem_append_right _ h)) (by decide +kernel))
set_option maxRecDepth 20000 in
theorem gX4_offset_X4_requirePartition : GoodIn wsX4_offset (va_wsS RX4 69 yX4_requirePartition wsX4_requirePartition) := goodIn_app (goodIn_of _ (by decide +kernel)) ggX4_offset_X4_requirePartition
theorem dX4_offset_0 : decode cX4_offset 0 = .ok (.iload_n 1, 1) := by decide +kernel
theorem dX4_offset_1 : decode cX4_offset 1 = .ok (.invokestatic 69, 3) := by decide +kernel
theorem dX4_offset_4 : decode cX4_offset 4 = .ok (.aload_n 0, 1) := by decide +kernel
theorem dX4_offset_5 : decode cX4_offset 5 = .ok (.getfield 19, 3) := by decide +kernel
theorem dX4_offset_8 : decode cX4_offset 8 = .ok (.getfield 178, 3) := by decide +kernel
theorem dX4_offset_11 : decode cX4_offset 11 = .ok (.iload_n 1, 1) := by decide +kernel
theorem dX4_offset_12 : decode cX4_offset 12 = .ok (.iaload, 1) := by decide +kernel
theorem dX4_offset_13 : decode cX4_offset 13 = .ok (.ireturn, 1) := by decide +kernel
set_option maxRecDepth 20000 in
theorem ggX4_eventAt_X4_requirePartition : GoodIn wsX4_eventAt wsX4_requirePartition := goodIn_ca (goodIn_r _ [8, 1, 2] (by decide +kernel) (by decide +kernel)) (goodIn_sub (fun _ h => List.mem_cons_of_mem _ (List.mem_append_right _ h)) (by decide +kernel))
set_option maxRecDepth 20000 in
theorem gX4_eventAt_X4_requirePartition : GoodIn wsX4_eventAt (va_wsS RX4 69 yX4_requirePartition wsX4_requirePartition) := goodIn_app (goodIn_of _ (by decide +kernel)) ggX4_eventAt_X4_requirePartition
set_option maxRecDepth 20000 in
theorem ggX4_eventAt_X1_get : GoodIn wsX4_eventAt wsX1_get := goodIn_r _ [13, 14, 29, 30] (by decide +kernel) (by decide +kernel)
set_option maxRecDepth 20000 in
theorem gX4_eventAt_X1_get : GoodIn wsX4_eventAt (wsV RX4 186 RX1 yX1_get wsX1_get) := goodIn_app (goodIn_of _ (by decide +kernel)) ggX4_eventAt_X1_get
theorem dX4_eventAt_0 : decode cX4_eventAt 0 = .ok (.iload_n 1, 1) := by decide +kernel
theorem dX4_eventAt_1 : decode cX4_eventAt 1 = .ok (.invokestatic 69, 3) := by decide +kernel
theorem dX4_eventAt_4 : decode cX4_eventAt 4 = .ok (.iload_n 2, 1) := by decide +kernel
theorem dX4_eventAt_5 : decode cX4_eventAt 5 = .ok (.ifCond .lt 16, 3) := by decide +kernel
theorem dX4_eventAt_8 : decode cX4_eventAt 8 = .ok (.iload_n 2, 1) := by decide +kernel
theorem dX4_eventAt_9 : decode cX4_eventAt 9 = .ok (.aload_n 0, 1) := by decide +kernel
theorem dX4_eventAt_10 : decode cX4_eventAt 10 = .ok (.getfield 10, 3) := by decide +kernel
theorem dX4_eventAt_13 : decode cX4_eventAt 13 = .ok (.getfield 83, 3) := by decide +kernel
theorem dX4_eventAt_16 : decode cX4_eventAt 16 = .ok (.iload_n 1, 1) := by decide +kernel
theorem dX4_eventAt_17 : decode cX4_eventAt 17 = .ok (.iaload, 1) := by decide +kernel
theorem dX4_eventAt_18 : decode cX4_eventAt 18 = .ok (.if_icmp .lt 13, 3) := by decide +kernel
theorem dX4_eventAt_21 : decode cX4_eventAt 21 = .ok (.new 181, 3) := by decide +kernel
theorem dX4_eventAt_24 : decode cX4_eventAt 24 = .ok (.dup, 1) := by decide +kernel
theorem dX4_eventAt_25 : decode cX4_eventAt 25 = .ok (.ldc 183, 2) := by decide +kernel
theorem dX4_eventAt_27 : decode cX4_eventAt 27 = .ok (.invokespecial 185, 3) := by decide +kernel
theorem dX4_eventAt_30 : decode cX4_eventAt 30 = .ok (.athrow, 1) := by decide +kernel
theorem dX4_eventAt_31 : decode cX4_eventAt 31 = .ok (.aload_n 0, 1) := by decide +kernel
theorem dX4_eventAt_32 : decode cX4_eventAt 32 = .ok (.getfield 10, 3) := by decide +kernel
theorem dX4_eventAt_35 : decode cX4_eventAt 35 = .ok (.iload_n 1, 1) := by decide +kernel
theorem dX4_eventAt_36 : decode cX4_eventAt 36 = .ok (.iload_n 2, 1) := by decide +kernel
theorem dX4_eventAt_37 : decode cX4_eventAt 37 = .ok (.invokevirtual 186, 3) := by decide +kernel
theorem dX4_eventAt_40 : decode cX4_eventAt 40 = .ok (.ireturn, 1) := by decide +kernel
set_option maxRecDepth 20000 in
theorem ggX4_queued_X4_requirePartition : GoodIn wsX4_queued wsX4_requirePartition := goodIn_ca (goodIn_r _ [5, 6, 7] (by decide +kernel) (by decide +kernel)) (goodIn_sub (fun _ h => List.mem_cons_of_mem _ (List.mem_append_right _ h)) (by decide +kernel))
set_option maxRecDepth 20000 in
theorem gX4_queued_X4_requirePartition : GoodIn wsX4_queued (va_wsS RX4 69 yX4_requirePartition wsX4_requirePartition) := goodIn_app (goodIn_of _ (by decide +kernel)) ggX4_queued_X4_requirePartition
set_option maxRecDepth 20000 in
theorem ggX4_queued_X4_requireWorker : GoodIn wsX4_queued wsX4_requireWorker := goodIn_ca (goodIn_r _ [11, 6, 7, 12, 22, 23, 24, 25, 26, 27, 28, 29, 30, 31, 32, 33, 34, 35] (by decide +kernel) (by decide +kernel)) (goodIn_sub (fun _ h => List.mem_cons_of_mem _ (List.mem_append_right _ h)) (by decide +kernel))
set_option maxRecDepth 20000 in
theorem gX4_queued_X4_requireWorker : GoodIn wsX4_queued (wsV RX4 123 RX4 yX4_requireWorker wsX4_requireWorker) := goodIn_app (goodIn_of _ (by decide +kernel)) ggX4_queued_X4_requireWorker
set_option maxRecDepth 20000 in
theorem ggX4_queued_X0_size : GoodIn wsX4_queued wsX0_size := goodIn_r _ [17, 18, 19, 20, 16, 21, 36, 37, 38] (by decide +kernel) (by decide +kernel)
set_option maxRecDepth 20000 in
theorem gX4_queued_X0_size : GoodIn wsX4_queued (wsV RX4 189 RX0 yX0_size wsX0_size) := goodIn_app (goodIn_of _ (by decide +kernel)) ggX4_queued_X0_size
theorem dX4_queued_0 : decode cX4_queued 0 = .ok (.iload_n 1, 1) := by decide +kernel
theorem dX4_queued_1 : decode cX4_queued 1 = .ok (.invokestatic 69, 3) := by decide +kernel
theorem dX4_queued_4 : decode cX4_queued 4 = .ok (.aload_n 0, 1) := by decide +kernel
theorem dX4_queued_5 : decode cX4_queued 5 = .ok (.iload_n 2, 1) := by decide +kernel
theorem dX4_queued_6 : decode cX4_queued 6 = .ok (.invokevirtual 123, 3) := by decide +kernel
theorem dX4_queued_9 : decode cX4_queued 9 = .ok (.aload_n 0, 1) := by decide +kernel
theorem dX4_queued_10 : decode cX4_queued 10 = .ok (.getfield 26, 3) := by decide +kernel
theorem dX4_queued_13 : decode cX4_queued 13 = .ok (.iload_n 1, 1) := by decide +kernel
theorem dX4_queued_14 : decode cX4_queued 14 = .ok (.iload_n 2, 1) := by decide +kernel
theorem dX4_queued_15 : decode cX4_queued 15 = .ok (.invokevirtual 189, 3) := by decide +kernel
theorem dX4_queued_18 : decode cX4_queued 18 = .ok (.ireturn, 1) := by decide +kernel
set_option maxRecDepth 20000 in
theorem ggX4_itemAt_X4_requirePartition : GoodIn wsX4_itemAt wsX4_requirePartition := goodIn_ca (goodIn_r _ [7, 1, 2] (by decide +kernel) (by decide +kernel)) (goodIn_sub (fun _ h => List.mem_cons_of_mem _ (List.mem_append_right _ h)) (by decide +kernel))
set_option maxRecDepth 20000 in
theorem gX4_itemAt_X4_requirePartition : GoodIn wsX4_itemAt (va_wsS RX4 69 yX4_requirePartition wsX4_requirePartition) := goodIn_app (goodIn_of _ (by decide +kernel)) ggX4_itemAt_X4_requirePartition
set_option maxRecDepth 20000 in
theorem ggX4_itemAt_X4_requireWorker : GoodIn wsX4_itemAt wsX4_requireWorker := goodIn_ca (goodIn_r _ [11, 1, 2, 12, 27, 28, 29, 30, 31, 32, 33, 34, 35, 36, 37, 38, 39, 40] (by decide +kernel) (by decide +kernel)) (goodIn_sub (fun _ h => List.mem_cons_of_mem _ (List.mem_append_right _ h)) (by decide +kernel))
set_option maxRecDepth 20000 in
theorem gX4_itemAt_X4_requireWorker : GoodIn wsX4_itemAt (wsV RX4 123 RX4 yX4_requireWorker wsX4_requireWorker) := goodIn_app (goodIn_of _ (by decide +kernel)) ggX4_itemAt_X4_requireWorker
set_option maxRecDepth 20000 in
theorem ggX4_itemAt_X0_size : GoodIn wsX4_itemAt wsX0_size := goodIn_r _ [17, 18, 19, 20, 16, 21, 41, 42, 43] (by decide +kernel) (by decide +kernel)
set_option maxRecDepth 20000 in
theorem gX4_itemAt_X0_size : GoodIn wsX4_itemAt (wsV RX4 189 RX0 yX0_size wsX0_size) := goodIn_app (goodIn_of _ (by decide +kernel)) ggX4_itemAt_X0_size
set_option maxRecDepth 20000 in
theorem ggX4_itemAt_X0_get : GoodIn wsX4_itemAt wsX0_get := goodIn_r _ [25, 26, 19, 20, 16, 21, 41, 42, 43] (by decide +kernel) (by decide +kernel)
set_option maxRecDepth 20000 in
theorem gX4_itemAt_X0_get : GoodIn wsX4_itemAt (wsV RX4 194 RX0 yX0_get wsX0_get) := goodIn_app (goodIn_of _ (by decide +kernel)) ggX4_itemAt_X0_get
theorem dX4_itemAt_0 : decode cX4_itemAt 0 = .ok (.iload_n 1, 1) := by decide +kernel
theorem dX4_itemAt_1 : decode cX4_itemAt 1 = .ok (.invokestatic 69, 3) := by decide +kernel
theorem dX4_itemAt_4 : decode cX4_itemAt 4 = .ok (.aload_n 0, 1) := by decide +kernel
theorem dX4_itemAt_5 : decode cX4_itemAt 5 = .ok (.iload_n 2, 1) := by decide +kernel
theorem dX4_itemAt_6 : decode cX4_itemAt 6 = .ok (.invokevirtual 123, 3) := by decide +kernel
theorem dX4_itemAt_9 : decode cX4_itemAt 9 = .ok (.iload_n 3, 1) := by decide +kernel
theorem dX4_itemAt_10 : decode cX4_itemAt 10 = .ok (.ifCond .lt 16, 3) := by decide +kernel
theorem dX4_itemAt_13 : decode cX4_itemAt 13 = .ok (.iload_n 3, 1) := by decide +kernel
theorem dX4_itemAt_14 : decode cX4_itemAt 14 = .ok (.aload_n 0, 1) := by decide +kernel
theorem dX4_itemAt_15 : decode cX4_itemAt 15 = .ok (.getfield 26, 3) := by decide +kernel
theorem dX4_itemAt_18 : decode cX4_itemAt 18 = .ok (.iload_n 1, 1) := by decide +kernel
theorem dX4_itemAt_19 : decode cX4_itemAt 19 = .ok (.iload_n 2, 1) := by decide +kernel
theorem dX4_itemAt_20 : decode cX4_itemAt 20 = .ok (.invokevirtual 189, 3) := by decide +kernel
theorem dX4_itemAt_23 : decode cX4_itemAt 23 = .ok (.if_icmp .lt 13, 3) := by decide +kernel
theorem dX4_itemAt_26 : decode cX4_itemAt 26 = .ok (.new 181, 3) := by decide +kernel
theorem dX4_itemAt_29 : decode cX4_itemAt 29 = .ok (.dup, 1) := by decide +kernel
theorem dX4_itemAt_30 : decode cX4_itemAt 30 = .ok (.ldc 192, 2) := by decide +kernel
theorem dX4_itemAt_32 : decode cX4_itemAt 32 = .ok (.invokespecial 185, 3) := by decide +kernel
theorem dX4_itemAt_35 : decode cX4_itemAt 35 = .ok (.athrow, 1) := by decide +kernel
theorem dX4_itemAt_36 : decode cX4_itemAt 36 = .ok (.aload_n 0, 1) := by decide +kernel
theorem dX4_itemAt_37 : decode cX4_itemAt 37 = .ok (.getfield 26, 3) := by decide +kernel
theorem dX4_itemAt_40 : decode cX4_itemAt 40 = .ok (.iload_n 1, 1) := by decide +kernel
theorem dX4_itemAt_41 : decode cX4_itemAt 41 = .ok (.iload_n 2, 1) := by decide +kernel
theorem dX4_itemAt_42 : decode cX4_itemAt 42 = .ok (.iload_n 3, 1) := by decide +kernel
theorem dX4_itemAt_43 : decode cX4_itemAt 43 = .ok (.invokevirtual 194, 3) := by decide +kernel
theorem dX4_itemAt_46 : decode cX4_itemAt 46 = .ok (.ireturn, 1) := by decide +kernel
set_option maxRecDepth 20000 in
theorem ggX4_isBlocked_X4_requirePartition : GoodIn wsX4_isBlocked wsX4_requirePartition := goodIn_ca (goodIn_r _ [5, 6, 7] (by decide +kernel) (by decide +kernel)) (goodIn_sub (fun _ h => List.mem_cons_of_mem _ (List.mem_append_right _ h)) (by decide +kernel))
set_option maxRecDepth 20000 in
theorem gX4_isBlocked_X4_requirePartition : GoodIn wsX4_isBlocked (va_wsS RX4 69 yX4_requirePartition wsX4_requirePartition) := goodIn_app (goodIn_of _ (by decide +kernel)) ggX4_isBlocked_X4_requirePartition
set_option maxRecDepth 20000 in
theorem ggX4_isBlocked_X4_requireWorker : GoodIn wsX4_isBlocked wsX4_requireWorker := goodIn_ca (goodIn_r _ [11, 6, 7, 12, 22, 23, 24, 25, 26, 27, 28, 29, 30, 31, 32, 33, 34, 35] (by decide +kernel) (by decide +kernel)) (goodIn_sub (fun _ h => List.mem_cons_of_mem _ (List.mem_append_right _ h)) (by decide +kernel))
set_option maxRecDepth 20000 in
theorem gX4_isBlocked_X4_requireWorker : GoodIn wsX4_isBlocked (wsV RX4 123 RX4 yX4_requireWorker wsX4_requireWorker) := goodIn_app (goodIn_of _ (by decide +kernel)) ggX4_isBlocked_X4_requireWorker
set_option maxRecDepth 20000 in
theorem ggX4_isBlocked_X0_isShut : GoodIn wsX4_isBlocked wsX0_isShut := goodIn_r _ [17, 18, 19, 20, 16, 21, 36, 37, 38] (by decide +kernel) (by decide +kernel)
set_option maxRecDepth 20000 in
theorem gX4_isBlocked_X0_isShut : GoodIn wsX4_isBlocked (wsV RX4 197 RX0 yX0_isShut wsX0_isShut) := goodIn_app (goodIn_of _ (by decide +kernel)) ggX4_isBlocked_X0_isShut
theorem dX4_isBlocked_0 : decode cX4_isBlocked 0 = .ok (.iload_n 1, 1) := by decide +kernel
theorem dX4_isBlocked_1 : decode cX4_isBlocked 1 = .ok (.invokestatic 69, 3) := by decide +kernel
theorem dX4_isBlocked_4 : decode cX4_isBlocked 4 = .ok (.aload_n 0, 1) := by decide +kernel
theorem dX4_isBlocked_5 : decode cX4_isBlocked 5 = .ok (.iload_n 2, 1) := by decide +kernel
theorem dX4_isBlocked_6 : decode cX4_isBlocked 6 = .ok (.invokevirtual 123, 3) := by decide +kernel
theorem dX4_isBlocked_9 : decode cX4_isBlocked 9 = .ok (.aload_n 0, 1) := by decide +kernel
theorem dX4_isBlocked_10 : decode cX4_isBlocked 10 = .ok (.getfield 26, 3) := by decide +kernel
theorem dX4_isBlocked_13 : decode cX4_isBlocked 13 = .ok (.iload_n 1, 1) := by decide +kernel
theorem dX4_isBlocked_14 : decode cX4_isBlocked 14 = .ok (.iload_n 2, 1) := by decide +kernel
theorem dX4_isBlocked_15 : decode cX4_isBlocked 15 = .ok (.invokevirtual 197, 3) := by decide +kernel
theorem dX4_isBlocked_18 : decode cX4_isBlocked 18 = .ok (.ireturn, 1) := by decide +kernel
theorem dX4_workers_0 : decode cX4_workers 0 = .ok (.aload_n 0, 1) := by decide +kernel
theorem dX4_workers_1 : decode cX4_workers 1 = .ok (.getfield 56, 3) := by decide +kernel
theorem dX4_workers_4 : decode cX4_workers 4 = .ok (.ireturn, 1) := by decide +kernel
set_option maxRecDepth 20000 in
theorem ggX4_workerOf_X4_requireKey : GoodIn wsX4_workerOf wsX4_requireKey := goodIn_ca (goodIn_r _ [4, 5, 6] (by decide +kernel) (by decide +kernel)) (goodIn_sub (fun _ h => List.mem_cons_of_mem _ (List.mem_append_right _ h)) (by decide +kernel))
set_option maxRecDepth 20000 in
theorem gX4_workerOf_X4_requireKey : GoodIn wsX4_workerOf (va_wsS RX4 73 yX4_requireKey wsX4_requireKey) := goodIn_app (goodIn_of _ (by decide +kernel)) ggX4_workerOf_X4_requireKey
set_option maxRecDepth 20000 in
theorem ggX4_workerOf_X4_ownerOfKey : GoodIn wsX4_workerOf wsX4_ownerOfKey := goodIn_r _ [10, 11, 12, 13, 3, 14, 15, 16, 17, 18, 19, 20, 21, 22, 23, 24, 25, 26, 27, 28] (by decide +kernel) (by decide +kernel)
set_option maxRecDepth 20000 in
theorem gX4_workerOf_X4_ownerOfKey : GoodIn wsX4_workerOf (wsV RX4 200 RX4 yX4_ownerOfKey wsX4_ownerOfKey) := goodIn_app (goodIn_of _ (by decide +kernel)) ggX4_workerOf_X4_ownerOfKey
theorem dX4_workerOf_0 : decode cX4_workerOf 0 = .ok (.iload_n 1, 1) := by decide +kernel
theorem dX4_workerOf_1 : decode cX4_workerOf 1 = .ok (.invokestatic 73, 3) := by decide +kernel
theorem dX4_workerOf_4 : decode cX4_workerOf 4 = .ok (.aload_n 0, 1) := by decide +kernel
theorem dX4_workerOf_5 : decode cX4_workerOf 5 = .ok (.iload_n 1, 1) := by decide +kernel
theorem dX4_workerOf_6 : decode cX4_workerOf 6 = .ok (.invokevirtual 200, 3) := by decide +kernel
theorem dX4_workerOf_9 : decode cX4_workerOf 9 = .ok (.ireturn, 1) := by decide +kernel
set_option maxRecDepth 20000 in
theorem ggX4_groupsOf_X4_requireWorker : GoodIn wsX4_groupsOf wsX4_requireWorker := goodIn_ca (goodIn_r _ [6, 7, 8, 1, 12, 13, 14, 15, 16, 17, 18, 19, 20, 21, 22, 23, 24, 25] (by decide +kernel) (by decide +kernel)) (goodIn_sub (fun _ h => List.mem_cons_of_mem _ (List.mem_append_right _ h)) (by decide +kernel))
set_option maxRecDepth 20000 in
theorem gX4_groupsOf_X4_requireWorker : GoodIn wsX4_groupsOf (wsV RX4 123 RX4 yX4_requireWorker wsX4_requireWorker) := goodIn_app (goodIn_of _ (by decide +kernel)) ggX4_groupsOf_X4_requireWorker
set_option maxRecDepth 20000 in
theorem ggX4_groupsOf_X4_ownerOfGroup : GoodIn wsX4_groupsOf wsX4_ownerOfGroup := goodIn_r _ [11] (by decide +kernel) (by decide +kernel)
set_option maxRecDepth 20000 in
theorem gX4_groupsOf_X4_ownerOfGroup : GoodIn wsX4_groupsOf (va_wsS RX4 175 yX4_ownerOfGroup wsX4_ownerOfGroup) := goodIn_app (goodIn_of _ (by decide +kernel)) ggX4_groupsOf_X4_ownerOfGroup
theorem dX4_groupsOf_0 : decode cX4_groupsOf 0 = .ok (.aload_n 0, 1) := by decide +kernel
theorem dX4_groupsOf_1 : decode cX4_groupsOf 1 = .ok (.iload_n 1, 1) := by decide +kernel
theorem dX4_groupsOf_2 : decode cX4_groupsOf 2 = .ok (.invokevirtual 123, 3) := by decide +kernel
theorem dX4_groupsOf_5 : decode cX4_groupsOf 5 = .ok (.bipush 8, 2) := by decide +kernel
theorem dX4_groupsOf_7 : decode cX4_groupsOf 7 = .ok (.istore_n 2, 1) := by decide +kernel
theorem dX4_groupsOf_8 : decode cX4_groupsOf 8 = .ok (.iconst 0, 1) := by decide +kernel
theorem dX4_groupsOf_9 : decode cX4_groupsOf 9 = .ok (.istore_n 3, 1) := by decide +kernel
theorem dX4_groupsOf_10 : decode cX4_groupsOf 10 = .ok (.bipush 7, 2) := by decide +kernel
theorem dX4_groupsOf_12 : decode cX4_groupsOf 12 = .ok (.istore 4, 2) := by decide +kernel
theorem dX4_groupsOf_14 : decode cX4_groupsOf 14 = .ok (.iload 4, 2) := by decide +kernel
theorem dX4_groupsOf_16 : decode cX4_groupsOf 16 = .ok (.ifCond .lt 28, 3) := by decide +kernel
theorem dX4_groupsOf_19 : decode cX4_groupsOf 19 = .ok (.iload 4, 2) := by decide +kernel
theorem dX4_groupsOf_21 : decode cX4_groupsOf 21 = .ok (.aload_n 0, 1) := by decide +kernel
theorem dX4_groupsOf_22 : decode cX4_groupsOf 22 = .ok (.getfield 56, 3) := by decide +kernel
theorem dX4_groupsOf_25 : decode cX4_groupsOf 25 = .ok (.invokestatic 175, 3) := by decide +kernel
theorem dX4_groupsOf_28 : decode cX4_groupsOf 28 = .ok (.iload_n 1, 1) := by decide +kernel
theorem dX4_groupsOf_29 : decode cX4_groupsOf 29 = .ok (.if_icmp .ne 9, 3) := by decide +kernel
theorem dX4_groupsOf_32 : decode cX4_groupsOf 32 = .ok (.iload 4, 2) := by decide +kernel
theorem dX4_groupsOf_34 : decode cX4_groupsOf 34 = .ok (.istore_n 2, 1) := by decide +kernel
theorem dX4_groupsOf_35 : decode cX4_groupsOf 35 = .ok (.iinc 3 1, 3) := by decide +kernel
theorem dX4_groupsOf_38 : decode cX4_groupsOf 38 = .ok (.iinc 4 (-1), 3) := by decide +kernel
theorem dX4_groupsOf_41 : decode cX4_groupsOf 41 = .ok (.goto (-27), 3) := by decide +kernel
theorem dX4_groupsOf_44 : decode cX4_groupsOf 44 = .ok (.bipush 10, 2) := by decide +kernel
theorem dX4_groupsOf_46 : decode cX4_groupsOf 46 = .ok (.iload_n 2, 1) := by decide +kernel
theorem dX4_groupsOf_47 : decode cX4_groupsOf 47 = .ok (.imul, 1) := by decide +kernel
theorem dX4_groupsOf_48 : decode cX4_groupsOf 48 = .ok (.iload_n 3, 1) := by decide +kernel
theorem dX4_groupsOf_49 : decode cX4_groupsOf 49 = .ok (.iadd, 1) := by decide +kernel
theorem dX4_groupsOf_50 : decode cX4_groupsOf 50 = .ok (.ireturn, 1) := by decide +kernel
set_option maxRecDepth 20000 in
theorem ggX4_count_X4_requireKey : GoodIn wsX4_count wsX4_requireKey := goodIn_ca (goodIn_r _ [6, 7, 8] (by decide +kernel) (by decide +kernel)) (goodIn_sub (fun _ h => List.mem_cons_of_mem _ (List.mem_append_right _ h)) (by decide +kernel))
set_option maxRecDepth 20000 in
theorem gX4_count_X4_requireKey : GoodIn wsX4_count (va_wsS RX4 73 yX4_requireKey wsX4_requireKey) := goodIn_app (goodIn_of _ (by decide +kernel)) ggX4_count_X4_requireKey
theorem dX4_count_0 : decode cX4_count 0 = .ok (.iload_n 1, 1) := by decide +kernel
theorem dX4_count_1 : decode cX4_count 1 = .ok (.invokestatic 73, 3) := by decide +kernel
theorem dX4_count_4 : decode cX4_count 4 = .ok (.aload_n 0, 1) := by decide +kernel
theorem dX4_count_5 : decode cX4_count 5 = .ok (.getfield 33, 3) := by decide +kernel
theorem dX4_count_8 : decode cX4_count 8 = .ok (.getfield 203, 3) := by decide +kernel
theorem dX4_count_11 : decode cX4_count 11 = .ok (.iload_n 1, 1) := by decide +kernel
theorem dX4_count_12 : decode cX4_count 12 = .ok (.iaload, 1) := by decide +kernel
theorem dX4_count_13 : decode cX4_count 13 = .ok (.ireturn, 1) := by decide +kernel
set_option maxRecDepth 20000 in
theorem ggX4_sum_X4_requireKey : GoodIn wsX4_sum wsX4_requireKey := goodIn_ca (goodIn_r _ [6, 7, 8] (by decide +kernel) (by decide +kernel)) (goodIn_sub (fun _ h => List.mem_cons_of_mem _ (List.mem_append_right _ h)) (by decide +kernel))
set_option maxRecDepth 20000 in
theorem gX4_sum_X4_requireKey : GoodIn wsX4_sum (va_wsS RX4 73 yX4_requireKey wsX4_requireKey) := goodIn_app (goodIn_of _ (by decide +kernel)) ggX4_sum_X4_requireKey
theorem dX4_sum_0 : decode cX4_sum 0 = .ok (.iload_n 1, 1) := by decide +kernel
theorem dX4_sum_1 : decode cX4_sum 1 = .ok (.invokestatic 73, 3) := by decide +kernel
theorem dX4_sum_4 : decode cX4_sum 4 = .ok (.aload_n 0, 1) := by decide +kernel
theorem dX4_sum_5 : decode cX4_sum 5 = .ok (.getfield 33, 3) := by decide +kernel
theorem dX4_sum_8 : decode cX4_sum 8 = .ok (.getfield 206, 3) := by decide +kernel
theorem dX4_sum_11 : decode cX4_sum 11 = .ok (.iload_n 1, 1) := by decide +kernel
theorem dX4_sum_12 : decode cX4_sum 12 = .ok (.iaload, 1) := by decide +kernel
theorem dX4_sum_13 : decode cX4_sum 13 = .ok (.ireturn, 1) := by decide +kernel
set_option maxRecDepth 20000 in
theorem ggX4_open_X4_requireWorker : GoodIn wsX4_open wsX4_requireWorker := goodIn_ca (goodIn_r _ [7, 8, 9, 10, 18, 19, 20, 21, 22, 23, 24, 25, 26, 27, 28, 29, 30, 31] (by decide +kernel) (by decide +kernel)) (goodIn_sub (fun _ h => List.mem_cons_of_mem _ (List.mem_append_right _ h)) (by decide +kernel))
set_option maxRecDepth 20000 in
theorem gX4_open_X4_requireWorker : GoodIn wsX4_open (wsV RX4 123 RX4 yX4_requireWorker wsX4_requireWorker) := goodIn_app (goodIn_of _ (by decide +kernel)) ggX4_open_X4_requireWorker
set_option maxRecDepth 20000 in
theorem ggX4_open_X4_ownerOfKey : GoodIn wsX4_open wsX4_ownerOfKey := goodIn_r _ [14, 10, 15, 16, 6, 17, 18, 19, 20, 21, 22, 23, 24, 25, 26, 27, 28, 29, 30, 31] (by decide +kernel) (by decide +kernel)
set_option maxRecDepth 20000 in
theorem gX4_open_X4_ownerOfKey : GoodIn wsX4_open (wsV RX4 200 RX4 yX4_ownerOfKey wsX4_ownerOfKey) := goodIn_app (goodIn_of _ (by decide +kernel)) ggX4_open_X4_ownerOfKey
theorem dX4_open_0 : decode cX4_open 0 = .ok (.aload_n 0, 1) := by decide +kernel
theorem dX4_open_1 : decode cX4_open 1 = .ok (.iload_n 1, 1) := by decide +kernel
theorem dX4_open_2 : decode cX4_open 2 = .ok (.invokevirtual 123, 3) := by decide +kernel
theorem dX4_open_5 : decode cX4_open 5 = .ok (.iconst 0, 1) := by decide +kernel
theorem dX4_open_6 : decode cX4_open 6 = .ok (.istore_n 2, 1) := by decide +kernel
theorem dX4_open_7 : decode cX4_open 7 = .ok (.iconst 0, 1) := by decide +kernel
theorem dX4_open_8 : decode cX4_open 8 = .ok (.istore_n 3, 1) := by decide +kernel
theorem dX4_open_9 : decode cX4_open 9 = .ok (.iload_n 3, 1) := by decide +kernel
theorem dX4_open_10 : decode cX4_open 10 = .ok (.bipush 32, 2) := by decide +kernel
theorem dX4_open_12 : decode cX4_open 12 = .ok (.if_icmp .ge 30, 3) := by decide +kernel
theorem dX4_open_15 : decode cX4_open 15 = .ok (.aload_n 0, 1) := by decide +kernel
theorem dX4_open_16 : decode cX4_open 16 = .ok (.iload_n 3, 1) := by decide +kernel
theorem dX4_open_17 : decode cX4_open 17 = .ok (.invokevirtual 200, 3) := by decide +kernel
theorem dX4_open_20 : decode cX4_open 20 = .ok (.iload_n 1, 1) := by decide +kernel
theorem dX4_open_21 : decode cX4_open 21 = .ok (.if_icmp .ne 15, 3) := by decide +kernel
theorem dX4_open_24 : decode cX4_open 24 = .ok (.iload_n 2, 1) := by decide +kernel
theorem dX4_open_25 : decode cX4_open 25 = .ok (.aload_n 0, 1) := by decide +kernel
theorem dX4_open_26 : decode cX4_open 26 = .ok (.getfield 37, 3) := by decide +kernel
theorem dX4_open_29 : decode cX4_open 29 = .ok (.getfield 203, 3) := by decide +kernel
theorem dX4_open_32 : decode cX4_open 32 = .ok (.iload_n 3, 1) := by decide +kernel
theorem dX4_open_33 : decode cX4_open 33 = .ok (.iaload, 1) := by decide +kernel
theorem dX4_open_34 : decode cX4_open 34 = .ok (.iadd, 1) := by decide +kernel
theorem dX4_open_35 : decode cX4_open 35 = .ok (.istore_n 2, 1) := by decide +kernel
theorem dX4_open_36 : decode cX4_open 36 = .ok (.iinc 3 1, 3) := by decide +kernel
theorem dX4_open_39 : decode cX4_open 39 = .ok (.goto (-30), 3) := by decide +kernel
theorem dX4_open_42 : decode cX4_open 42 = .ok (.iload_n 2, 1) := by decide +kernel
theorem dX4_open_43 : decode cX4_open 43 = .ok (.ireturn, 1) := by decide +kernel
set_option maxRecDepth 20000 in
theorem ggX4_sealed_X4_requireWorker : GoodIn wsX4_sealed wsX4_requireWorker := goodIn_ca (goodIn_r _ [6, 7, 8, 9, 10, 11, 12, 13, 14, 15, 16, 17, 18, 19, 20, 21, 22, 23] (by decide +kernel) (by decide +kernel)) (goodIn_sub (fun _ h => List.mem_cons_of_mem _ (List.mem_append_right _ h)) (by decide +kernel))
set_option maxRecDepth 20000 in
theorem gX4_sealed_X4_requireWorker : GoodIn wsX4_sealed (wsV RX4 123 RX4 yX4_requireWorker wsX4_requireWorker) := goodIn_app (goodIn_of _ (by decide +kernel)) ggX4_sealed_X4_requireWorker
theorem dX4_sealed_0 : decode cX4_sealed 0 = .ok (.aload_n 0, 1) := by decide +kernel
theorem dX4_sealed_1 : decode cX4_sealed 1 = .ok (.iload_n 1, 1) := by decide +kernel
theorem dX4_sealed_2 : decode cX4_sealed 2 = .ok (.invokevirtual 123, 3) := by decide +kernel
theorem dX4_sealed_5 : decode cX4_sealed 5 = .ok (.aload_n 0, 1) := by decide +kernel
theorem dX4_sealed_6 : decode cX4_sealed 6 = .ok (.getfield 52, 3) := by decide +kernel
theorem dX4_sealed_9 : decode cX4_sealed 9 = .ok (.iload_n 1, 1) := by decide +kernel
theorem dX4_sealed_10 : decode cX4_sealed 10 = .ok (.iaload, 1) := by decide +kernel
theorem dX4_sealed_11 : decode cX4_sealed 11 = .ok (.ireturn, 1) := by decide +kernel
theorem dX4_underWay_0 : decode cX4_underWay 0 = .ok (.aload_n 0, 1) := by decide +kernel
theorem dX4_underWay_1 : decode cX4_underWay 1 = .ok (.getfield 63, 3) := by decide +kernel
theorem dX4_underWay_4 : decode cX4_underWay 4 = .ok (.ireturn, 1) := by decide +kernel
theorem dX4_complete_0 : decode cX4_complete 0 = .ok (.aload_n 0, 1) := by decide +kernel
theorem dX4_complete_1 : decode cX4_complete 1 = .ok (.getfield 66, 3) := by decide +kernel
theorem dX4_complete_4 : decode cX4_complete 4 = .ok (.ireturn, 1) := by decide +kernel
set_option maxRecDepth 20000 in
theorem ggX4_hasSent_X4_requirePartition : GoodIn wsX4_hasSent wsX4_requirePartition := goodIn_ca (goodIn_r _ [7, 8, 9] (by decide +kernel) (by decide +kernel)) (goodIn_sub (fun _ h => List.mem_cons_of_mem _ (List.mem_append_right _ h)) (by decide +kernel))
set_option maxRecDepth 20000 in
theorem gX4_hasSent_X4_requirePartition : GoodIn wsX4_hasSent (va_wsS RX4 69 yX4_requirePartition wsX4_requirePartition) := goodIn_app (goodIn_of _ (by decide +kernel)) ggX4_hasSent_X4_requirePartition
theorem dX4_hasSent_0 : decode cX4_hasSent 0 = .ok (.iload_n 1, 1) := by decide +kernel
theorem dX4_hasSent_1 : decode cX4_hasSent 1 = .ok (.invokestatic 69, 3) := by decide +kernel
theorem dX4_hasSent_4 : decode cX4_hasSent 4 = .ok (.aload_n 0, 1) := by decide +kernel
theorem dX4_hasSent_5 : decode cX4_hasSent 5 = .ok (.getfield 63, 3) := by decide +kernel
theorem dX4_hasSent_8 : decode cX4_hasSent 8 = .ok (.iconst (-1), 1) := by decide +kernel
theorem dX4_hasSent_9 : decode cX4_hasSent 9 = .ok (.if_icmp .eq 19, 3) := by decide +kernel
theorem dX4_hasSent_12 : decode cX4_hasSent 12 = .ok (.aload_n 0, 1) := by decide +kernel
theorem dX4_hasSent_13 : decode cX4_hasSent 13 = .ok (.getfield 19, 3) := by decide +kernel
theorem dX4_hasSent_16 : decode cX4_hasSent 16 = .ok (.getfield 105, 3) := by decide +kernel
theorem dX4_hasSent_19 : decode cX4_hasSent 19 = .ok (.iload_n 1, 1) := by decide +kernel
theorem dX4_hasSent_20 : decode cX4_hasSent 20 = .ok (.baload, 1) := by decide +kernel
theorem dX4_hasSent_21 : decode cX4_hasSent 21 = .ok (.ifCond .eq 7, 3) := by decide +kernel
theorem dX4_hasSent_24 : decode cX4_hasSent 24 = .ok (.iconst 1, 1) := by decide +kernel
theorem dX4_hasSent_25 : decode cX4_hasSent 25 = .ok (.goto 4, 3) := by decide +kernel
theorem dX4_hasSent_28 : decode cX4_hasSent 28 = .ok (.iconst 0, 1) := by decide +kernel
theorem dX4_hasSent_29 : decode cX4_hasSent 29 = .ok (.ireturn, 1) := by decide +kernel
set_option maxRecDepth 20000 in
theorem ggX4_keptOffset_X4_requirePartition : GoodIn wsX4_keptOffset wsX4_requirePartition := goodIn_ca (goodIn_r _ [6, 7, 8] (by decide +kernel) (by decide +kernel)) (goodIn_sub (fun _ h => List.mem_cons_of_mem _ (List.mem_append_right _ h)) (by decide +kernel))
set_option maxRecDepth 20000 in
theorem gX4_keptOffset_X4_requirePartition : GoodIn wsX4_keptOffset (va_wsS RX4 69 yX4_requirePartition wsX4_requirePartition) := goodIn_app (goodIn_of _ (by decide +kernel)) ggX4_keptOffset_X4_requirePartition
theorem dX4_keptOffset_0 : decode cX4_keptOffset 0 = .ok (.iload_n 1, 1) := by decide +kernel
theorem dX4_keptOffset_1 : decode cX4_keptOffset 1 = .ok (.invokestatic 69, 3) := by decide +kernel
theorem dX4_keptOffset_4 : decode cX4_keptOffset 4 = .ok (.aload_n 0, 1) := by decide +kernel
theorem dX4_keptOffset_5 : decode cX4_keptOffset 5 = .ok (.getfield 19, 3) := by decide +kernel
theorem dX4_keptOffset_8 : decode cX4_keptOffset 8 = .ok (.getfield 209, 3) := by decide +kernel
theorem dX4_keptOffset_11 : decode cX4_keptOffset 11 = .ok (.iload_n 1, 1) := by decide +kernel
theorem dX4_keptOffset_12 : decode cX4_keptOffset 12 = .ok (.iaload, 1) := by decide +kernel
theorem dX4_keptOffset_13 : decode cX4_keptOffset 13 = .ok (.ireturn, 1) := by decide +kernel
set_option maxRecDepth 20000 in
theorem ggX4_keptSum_X4_requireKey : GoodIn wsX4_keptSum wsX4_requireKey := goodIn_ca (goodIn_r _ [6, 7, 8] (by decide +kernel) (by decide +kernel)) (goodIn_sub (fun _ h => List.mem_cons_of_mem _ (List.mem_append_right _ h)) (by decide +kernel))
set_option maxRecDepth 20000 in
theorem gX4_keptSum_X4_requireKey : GoodIn wsX4_keptSum (va_wsS RX4 73 yX4_requireKey wsX4_requireKey) := goodIn_app (goodIn_of _ (by decide +kernel)) ggX4_keptSum_X4_requireKey
theorem dX4_keptSum_0 : decode cX4_keptSum 0 = .ok (.iload_n 1, 1) := by decide +kernel
theorem dX4_keptSum_1 : decode cX4_keptSum 1 = .ok (.invokestatic 73, 3) := by decide +kernel
theorem dX4_keptSum_4 : decode cX4_keptSum 4 = .ok (.aload_n 0, 1) := by decide +kernel
theorem dX4_keptSum_5 : decode cX4_keptSum 5 = .ok (.getfield 46, 3) := by decide +kernel
theorem dX4_keptSum_8 : decode cX4_keptSum 8 = .ok (.getfield 206, 3) := by decide +kernel
theorem dX4_keptSum_11 : decode cX4_keptSum 11 = .ok (.iload_n 1, 1) := by decide +kernel
theorem dX4_keptSum_12 : decode cX4_keptSum 12 = .ok (.iaload, 1) := by decide +kernel
theorem dX4_keptSum_13 : decode cX4_keptSum 13 = .ok (.ireturn, 1) := by decide +kernel
set_option maxRecDepth 20000 in
theorem ggX4_committedCount_X4_requireKey : GoodIn wsX4_committedCount wsX4_requireKey := goodIn_ca (goodIn_r _ [6, 7, 8] (by decide +kernel) (by decide +kernel)) (goodIn_sub (fun _ h => List.mem_cons_of_mem _ (List.mem_append_right _ h)) (by decide +kernel))
set_option maxRecDepth 20000 in
theorem gX4_committedCount_X4_requireKey : GoodIn wsX4_committedCount (va_wsS RX4 73 yX4_requireKey wsX4_requireKey) := goodIn_app (goodIn_of _ (by decide +kernel)) ggX4_committedCount_X4_requireKey
theorem dX4_committedCount_0 : decode cX4_committedCount 0 = .ok (.iload_n 1, 1) := by decide +kernel
theorem dX4_committedCount_1 : decode cX4_committedCount 1 = .ok (.invokestatic 73, 3) := by decide +kernel
theorem dX4_committedCount_4 : decode cX4_committedCount 4 = .ok (.aload_n 0, 1) := by decide +kernel
theorem dX4_committedCount_5 : decode cX4_committedCount 5 = .ok (.getfield 49, 3) := by decide +kernel
theorem dX4_committedCount_8 : decode cX4_committedCount 8 = .ok (.getfield 203, 3) := by decide +kernel
theorem dX4_committedCount_11 : decode cX4_committedCount 11 = .ok (.iload_n 1, 1) := by decide +kernel
theorem dX4_committedCount_12 : decode cX4_committedCount 12 = .ok (.iaload, 1) := by decide +kernel
theorem dX4_committedCount_13 : decode cX4_committedCount 13 = .ok (.ireturn, 1) := by decide +kernel
set_option maxRecDepth 20000 in
theorem ggX4_committedSum_X4_requireKey : GoodIn wsX4_committedSum wsX4_requireKey := goodIn_ca (goodIn_r _ [6, 7, 8] (by decide +kernel) (by decide +kernel)) (goodIn_sub (fun _ h => List.mem_cons_of_mem _ (List.mem_append_right _ h)) (by decide +kernel))
set_option maxRecDepth 20000 in
theorem gX4_committedSum_X4_requireKey : GoodIn wsX4_committedSum (va_wsS RX4 73 yX4_requireKey wsX4_requireKey) := goodIn_app (goodIn_of _ (by decide +kernel)) ggX4_committedSum_X4_requireKey
theorem dX4_committedSum_0 : decode cX4_committedSum 0 = .ok (.iload_n 1, 1) := by decide +kernel
theorem dX4_committedSum_1 : decode cX4_committedSum 1 = .ok (.invokestatic 73, 3) := by decide +kernel
theorem dX4_committedSum_4 : decode cX4_committedSum 4 = .ok (.aload_n 0, 1) := by decide +kernel
theorem dX4_committedSum_5 : decode cX4_committedSum 5 = .ok (.getfield 49, 3) := by decide +kernel
theorem dX4_committedSum_8 : decode cX4_committedSum 8 = .ok (.getfield 206, 3) := by decide +kernel
theorem dX4_committedSum_11 : decode cX4_committedSum 11 = .ok (.iload_n 1, 1) := by decide +kernel
theorem dX4_committedSum_12 : decode cX4_committedSum 12 = .ok (.iaload, 1) := by decide +kernel
theorem dX4_committedSum_13 : decode cX4_committedSum 13 = .ok (.ireturn, 1) := by decide +kernel
theorem dX4_committed_0 : decode cX4_committed 0 = .ok (.iconst 0, 1) := by decide +kernel
theorem dX4_committed_1 : decode cX4_committed 1 = .ok (.istore_n 1, 1) := by decide +kernel
theorem dX4_committed_2 : decode cX4_committed 2 = .ok (.iconst 0, 1) := by decide +kernel
theorem dX4_committed_3 : decode cX4_committed 3 = .ok (.istore_n 2, 1) := by decide +kernel
theorem dX4_committed_4 : decode cX4_committed 4 = .ok (.iload_n 2, 1) := by decide +kernel
theorem dX4_committed_5 : decode cX4_committed 5 = .ok (.bipush 32, 2) := by decide +kernel
theorem dX4_committed_7 : decode cX4_committed 7 = .ok (.if_icmp .ge 21, 3) := by decide +kernel
theorem dX4_committed_10 : decode cX4_committed 10 = .ok (.iload_n 1, 1) := by decide +kernel
theorem dX4_committed_11 : decode cX4_committed 11 = .ok (.aload_n 0, 1) := by decide +kernel
theorem dX4_committed_12 : decode cX4_committed 12 = .ok (.getfield 49, 3) := by decide +kernel
theorem dX4_committed_15 : decode cX4_committed 15 = .ok (.getfield 203, 3) := by decide +kernel
theorem dX4_committed_18 : decode cX4_committed 18 = .ok (.iload_n 2, 1) := by decide +kernel
theorem dX4_committed_19 : decode cX4_committed 19 = .ok (.iaload, 1) := by decide +kernel
theorem dX4_committed_20 : decode cX4_committed 20 = .ok (.iadd, 1) := by decide +kernel
theorem dX4_committed_21 : decode cX4_committed 21 = .ok (.istore_n 1, 1) := by decide +kernel
theorem dX4_committed_22 : decode cX4_committed 22 = .ok (.iinc 2 1, 3) := by decide +kernel
theorem dX4_committed_25 : decode cX4_committed 25 = .ok (.goto (-21), 3) := by decide +kernel
theorem dX4_committed_28 : decode cX4_committed 28 = .ok (.iload_n 1, 1) := by decide +kernel
theorem dX4_committed_29 : decode cX4_committed 29 = .ok (.ireturn, 1) := by decide +kernel
set_option maxRecDepth 20000 in
theorem ggX4_readSum_X4_requireKey : GoodIn wsX4_readSum wsX4_requireKey := goodIn_ca (goodIn_r _ [7, 8, 9] (by decide +kernel) (by decide +kernel)) (goodIn_sub (fun _ h => List.mem_cons_of_mem _ (List.mem_append_right _ h)) (by decide +kernel))
set_option maxRecDepth 20000 in
theorem gX4_readSum_X4_requireKey : GoodIn wsX4_readSum (va_wsS RX4 73 yX4_requireKey wsX4_requireKey) := goodIn_app (goodIn_of _ (by decide +kernel)) ggX4_readSum_X4_requireKey
set_option maxRecDepth 20000 in
theorem ggX4_readSum_X1_sumAhead : GoodIn wsX4_readSum wsX1_sumAhead := goodIn_r _ [14, 15, 16, 17, 13, 18, 19, 20, 6, 21, 22, 23, 42, 43] (by decide +kernel) (by decide +kernel)
set_option maxRecDepth 20000 in
theorem gX4_readSum_X1_sumAhead : GoodIn wsX4_readSum (wsV RX4 211 RX1 yX1_sumAhead wsX1_sumAhead) := goodIn_app (goodIn_of _ (by decide +kernel)) ggX4_readSum_X1_sumAhead
theorem dX4_readSum_0 : decode cX4_readSum 0 = .ok (.iload_n 1, 1) := by decide +kernel
theorem dX4_readSum_1 : decode cX4_readSum 1 = .ok (.invokestatic 73, 3) := by decide +kernel
theorem dX4_readSum_4 : decode cX4_readSum 4 = .ok (.iconst 0, 1) := by decide +kernel
theorem dX4_readSum_5 : decode cX4_readSum 5 = .ok (.istore_n 2, 1) := by decide +kernel
theorem dX4_readSum_6 : decode cX4_readSum 6 = .ok (.iconst 0, 1) := by decide +kernel
theorem dX4_readSum_7 : decode cX4_readSum 7 = .ok (.istore_n 3, 1) := by decide +kernel
theorem dX4_readSum_8 : decode cX4_readSum 8 = .ok (.iload_n 3, 1) := by decide +kernel
theorem dX4_readSum_9 : decode cX4_readSum 9 = .ok (.iconst 4, 1) := by decide +kernel
theorem dX4_readSum_10 : decode cX4_readSum 10 = .ok (.if_icmp .ge 30, 3) := by decide +kernel
theorem dX4_readSum_13 : decode cX4_readSum 13 = .ok (.iload_n 2, 1) := by decide +kernel
theorem dX4_readSum_14 : decode cX4_readSum 14 = .ok (.aload_n 0, 1) := by decide +kernel
theorem dX4_readSum_15 : decode cX4_readSum 15 = .ok (.getfield 10, 3) := by decide +kernel
theorem dX4_readSum_18 : decode cX4_readSum 18 = .ok (.iload_n 3, 1) := by decide +kernel
theorem dX4_readSum_19 : decode cX4_readSum 19 = .ok (.aload_n 0, 1) := by decide +kernel
theorem dX4_readSum_20 : decode cX4_readSum 20 = .ok (.getfield 19, 3) := by decide +kernel
theorem dX4_readSum_23 : decode cX4_readSum 23 = .ok (.getfield 178, 3) := by decide +kernel
theorem dX4_readSum_26 : decode cX4_readSum 26 = .ok (.iload_n 3, 1) := by decide +kernel
theorem dX4_readSum_27 : decode cX4_readSum 27 = .ok (.iaload, 1) := by decide +kernel
theorem dX4_readSum_28 : decode cX4_readSum 28 = .ok (.iload_n 1, 1) := by decide +kernel
theorem dX4_readSum_29 : decode cX4_readSum 29 = .ok (.invokevirtual 211, 3) := by decide +kernel
theorem dX4_readSum_32 : decode cX4_readSum 32 = .ok (.iadd, 1) := by decide +kernel
theorem dX4_readSum_33 : decode cX4_readSum 33 = .ok (.istore_n 2, 1) := by decide +kernel
theorem dX4_readSum_34 : decode cX4_readSum 34 = .ok (.iinc 3 1, 3) := by decide +kernel
theorem dX4_readSum_37 : decode cX4_readSum 37 = .ok (.goto (-29), 3) := by decide +kernel
theorem dX4_readSum_40 : decode cX4_readSum 40 = .ok (.iload_n 2, 1) := by decide +kernel
theorem dX4_readSum_41 : decode cX4_readSum 41 = .ok (.ireturn, 1) := by decide +kernel
set_option maxRecDepth 20000 in
theorem ggX4_sumInChannels_X4_requireKey : GoodIn wsX4_sumInChannels wsX4_requireKey := goodIn_ca (goodIn_r _ [5, 6, 7] (by decide +kernel) (by decide +kernel)) (goodIn_sub (fun _ h => List.mem_cons_of_mem _ (List.mem_append_right _ h)) (by decide +kernel))
set_option maxRecDepth 20000 in
theorem gX4_sumInChannels_X4_requireKey : GoodIn wsX4_sumInChannels (va_wsS RX4 73 yX4_requireKey wsX4_requireKey) := goodIn_app (goodIn_of _ (by decide +kernel)) ggX4_sumInChannels_X4_requireKey
set_option maxRecDepth 20000 in
theorem ggX4_sumInChannels_X0_sumOfKey : GoodIn wsX4_sumInChannels wsX0_sumOfKey := goodIn_r _ [12, 13, 14, 15, 4, 16, 17, 18, 33, 34, 35] (by decide +kernel) (by decide +kernel)
set_option maxRecDepth 20000 in
theorem gX4_sumInChannels_X0_sumOfKey : GoodIn wsX4_sumInChannels (wsV RX4 214 RX0 yX0_sumOfKey wsX0_sumOfKey) := goodIn_app (goodIn_of _ (by decide +kernel)) ggX4_sumInChannels_X0_sumOfKey
theorem dX4_sumInChannels_0 : decode cX4_sumInChannels 0 = .ok (.iload_n 1, 1) := by decide +kernel
theorem dX4_sumInChannels_1 : decode cX4_sumInChannels 1 = .ok (.invokestatic 73, 3) := by decide +kernel
theorem dX4_sumInChannels_4 : decode cX4_sumInChannels 4 = .ok (.aload_n 0, 1) := by decide +kernel
theorem dX4_sumInChannels_5 : decode cX4_sumInChannels 5 = .ok (.getfield 26, 3) := by decide +kernel
theorem dX4_sumInChannels_8 : decode cX4_sumInChannels 8 = .ok (.iload_n 1, 1) := by decide +kernel
theorem dX4_sumInChannels_9 : decode cX4_sumInChannels 9 = .ok (.invokevirtual 214, 3) := by decide +kernel
theorem dX4_sumInChannels_12 : decode cX4_sumInChannels 12 = .ok (.ireturn, 1) := by decide +kernel
theorem dX4_requirePartition_0 : decode cX4_requirePartition 0 = .ok (.iload_n 0, 1) := by decide +kernel
theorem dX4_requirePartition_1 : decode cX4_requirePartition 1 = .ok (.ifCond .lt 8, 3) := by decide +kernel
theorem dX4_requirePartition_4 : decode cX4_requirePartition 4 = .ok (.iload_n 0, 1) := by decide +kernel
theorem dX4_requirePartition_5 : decode cX4_requirePartition 5 = .ok (.iconst 4, 1) := by decide +kernel
theorem dX4_requirePartition_6 : decode cX4_requirePartition 6 = .ok (.if_icmp .lt 13, 3) := by decide +kernel
theorem dX4_requirePartition_9 : decode cX4_requirePartition 9 = .ok (.new 181, 3) := by decide +kernel
theorem dX4_requirePartition_12 : decode cX4_requirePartition 12 = .ok (.dup, 1) := by decide +kernel
theorem dX4_requirePartition_13 : decode cX4_requirePartition 13 = .ok (.ldc 217, 2) := by decide +kernel
theorem dX4_requirePartition_15 : decode cX4_requirePartition 15 = .ok (.invokespecial 185, 3) := by decide +kernel
theorem dX4_requirePartition_18 : decode cX4_requirePartition 18 = .ok (.athrow, 1) := by decide +kernel
theorem dX4_requirePartition_19 : decode cX4_requirePartition 19 = .ok (.return_, 1) := by decide +kernel
theorem dX4_requireKey_0 : decode cX4_requireKey 0 = .ok (.iload_n 0, 1) := by decide +kernel
theorem dX4_requireKey_1 : decode cX4_requireKey 1 = .ok (.ifCond .lt 9, 3) := by decide +kernel
theorem dX4_requireKey_4 : decode cX4_requireKey 4 = .ok (.iload_n 0, 1) := by decide +kernel
theorem dX4_requireKey_5 : decode cX4_requireKey 5 = .ok (.bipush 32, 2) := by decide +kernel
theorem dX4_requireKey_7 : decode cX4_requireKey 7 = .ok (.if_icmp .lt 13, 3) := by decide +kernel
theorem dX4_requireKey_10 : decode cX4_requireKey 10 = .ok (.new 181, 3) := by decide +kernel
theorem dX4_requireKey_13 : decode cX4_requireKey 13 = .ok (.dup, 1) := by decide +kernel
theorem dX4_requireKey_14 : decode cX4_requireKey 14 = .ok (.ldc 219, 2) := by decide +kernel
theorem dX4_requireKey_16 : decode cX4_requireKey 16 = .ok (.invokespecial 185, 3) := by decide +kernel
theorem dX4_requireKey_19 : decode cX4_requireKey 19 = .ok (.athrow, 1) := by decide +kernel
theorem dX4_requireKey_20 : decode cX4_requireKey 20 = .ok (.return_, 1) := by decide +kernel
theorem dX4_requireWorker_0 : decode cX4_requireWorker 0 = .ok (.iload_n 1, 1) := by decide +kernel
theorem dX4_requireWorker_1 : decode cX4_requireWorker 1 = .ok (.ifCond .lt 11, 3) := by decide +kernel
theorem dX4_requireWorker_4 : decode cX4_requireWorker 4 = .ok (.iload_n 1, 1) := by decide +kernel
theorem dX4_requireWorker_5 : decode cX4_requireWorker 5 = .ok (.aload_n 0, 1) := by decide +kernel
theorem dX4_requireWorker_6 : decode cX4_requireWorker 6 = .ok (.getfield 56, 3) := by decide +kernel
theorem dX4_requireWorker_9 : decode cX4_requireWorker 9 = .ok (.if_icmp .lt 13, 3) := by decide +kernel
theorem dX4_requireWorker_12 : decode cX4_requireWorker 12 = .ok (.new 181, 3) := by decide +kernel
theorem dX4_requireWorker_15 : decode cX4_requireWorker 15 = .ok (.dup, 1) := by decide +kernel
theorem dX4_requireWorker_16 : decode cX4_requireWorker 16 = .ok (.ldc 221, 2) := by decide +kernel
theorem dX4_requireWorker_18 : decode cX4_requireWorker 18 = .ok (.invokespecial 185, 3) := by decide +kernel
theorem dX4_requireWorker_21 : decode cX4_requireWorker 21 = .ok (.athrow, 1) := by decide +kernel
theorem dX4_requireWorker_22 : decode cX4_requireWorker 22 = .ok (.return_, 1) := by decide +kernel
theorem dX4_keyOf_0 : decode cX4_keyOf 0 = .ok (.iload_n 0, 1) := by decide +kernel
theorem dX4_keyOf_1 : decode cX4_keyOf 1 = .ok (.sipush 1000, 3) := by decide +kernel
theorem dX4_keyOf_4 : decode cX4_keyOf 4 = .ok (.idiv, 1) := by decide +kernel
theorem dX4_keyOf_5 : decode cX4_keyOf 5 = .ok (.ireturn, 1) := by decide +kernel
theorem dX4_valueOf_0 : decode cX4_valueOf 0 = .ok (.iload_n 0, 1) := by decide +kernel
theorem dX4_valueOf_1 : decode cX4_valueOf 1 = .ok (.sipush 1000, 3) := by decide +kernel
theorem dX4_valueOf_4 : decode cX4_valueOf 4 = .ok (.irem, 1) := by decide +kernel
theorem dX4_valueOf_5 : decode cX4_valueOf 5 = .ok (.ireturn, 1) := by decide +kernel
theorem dX4_ownerOfGroup_0 : decode cX4_ownerOfGroup 0 = .ok (.iload_n 0, 1) := by decide +kernel
theorem dX4_ownerOfGroup_1 : decode cX4_ownerOfGroup 1 = .ok (.iload_n 1, 1) := by decide +kernel
theorem dX4_ownerOfGroup_2 : decode cX4_ownerOfGroup 2 = .ok (.imul, 1) := by decide +kernel
theorem dX4_ownerOfGroup_3 : decode cX4_ownerOfGroup 3 = .ok (.bipush 8, 2) := by decide +kernel
theorem dX4_ownerOfGroup_5 : decode cX4_ownerOfGroup 5 = .ok (.idiv, 1) := by decide +kernel
theorem dX4_ownerOfGroup_6 : decode cX4_ownerOfGroup 6 = .ok (.ireturn, 1) := by decide +kernel
set_option maxRecDepth 20000 in
theorem ggX4_ownerOfKey_X4_ownerOfGroup : GoodIn wsX4_ownerOfKey wsX4_ownerOfGroup := goodIn_r _ [5] (by decide +kernel) (by decide +kernel)
set_option maxRecDepth 20000 in
theorem gX4_ownerOfKey_X4_ownerOfGroup : GoodIn wsX4_ownerOfKey (va_wsS RX4 175 yX4_ownerOfGroup wsX4_ownerOfGroup) := goodIn_app (goodIn_of _ (by decide +kernel)) ggX4_ownerOfKey_X4_ownerOfGroup
theorem dX4_ownerOfKey_0 : decode cX4_ownerOfKey 0 = .ok (.iload_n 1, 1) := by decide +kernel
theorem dX4_ownerOfKey_1 : decode cX4_ownerOfKey 1 = .ok (.bipush 8, 2) := by decide +kernel
theorem dX4_ownerOfKey_3 : decode cX4_ownerOfKey 3 = .ok (.irem, 1) := by decide +kernel
theorem dX4_ownerOfKey_4 : decode cX4_ownerOfKey 4 = .ok (.aload_n 0, 1) := by decide +kernel
theorem dX4_ownerOfKey_5 : decode cX4_ownerOfKey 5 = .ok (.getfield 56, 3) := by decide +kernel
theorem dX4_ownerOfKey_8 : decode cX4_ownerOfKey 8 = .ok (.invokestatic 175, 3) := by decide +kernel
theorem dX4_ownerOfKey_11 : decode cX4_ownerOfKey 11 = .ok (.ireturn, 1) := by decide +kernel
set_option maxRecDepth 20000 in
theorem ggX4_canReadFrom_X1_get : GoodIn wsX4_canReadFrom wsX1_get := goodIn_r _ [10, 11, 55, 56] (by decide +kernel) (by decide +kernel)
set_option maxRecDepth 20000 in
theorem gX4_canReadFrom_X1_get : GoodIn wsX4_canReadFrom (wsV RX4 186 RX1 yX1_get wsX1_get) := goodIn_app (goodIn_of _ (by decide +kernel)) ggX4_canReadFrom_X1_get
set_option maxRecDepth 20000 in
theorem ggX4_canReadFrom_X4_keyOf : GoodIn wsX4_canReadFrom wsX4_keyOf := goodIn_r _ [15] (by decide +kernel) (by decide +kernel)
set_option maxRecDepth 20000 in
theorem gX4_canReadFrom_X4_keyOf : GoodIn wsX4_canReadFrom (va_wsS RX4 223 yX4_keyOf wsX4_keyOf) := goodIn_app (goodIn_of _ (by decide +kernel)) ggX4_canReadFrom_X4_keyOf
set_option maxRecDepth 20000 in
theorem ggX4_canReadFrom_X4_ownerOfKey : GoodIn wsX4_canReadFrom wsX4_ownerOfKey := goodIn_r _ [19, 20, 21, 22, 14, 23, 37, 38, 39, 40, 41, 42, 43, 44, 45, 46, 47, 48, 49, 50] (by decide +kernel) (by decide +kernel)
set_option maxRecDepth 20000 in
theorem gX4_canReadFrom_X4_ownerOfKey : GoodIn wsX4_canReadFrom (wsV RX4 200 RX4 yX4_ownerOfKey wsX4_ownerOfKey) := goodIn_app (goodIn_of _ (by decide +kernel)) ggX4_canReadFrom_X4_ownerOfKey
set_option maxRecDepth 20000 in
theorem ggX4_canReadFrom_X0_hasRoom : GoodIn wsX4_canReadFrom wsX0_hasRoom := goodIn_r _ [28, 29, 30, 31, 27, 32, 33, 34, 35, 36, 57, 58, 59] (by decide +kernel) (by decide +kernel)
set_option maxRecDepth 20000 in
theorem gX4_canReadFrom_X0_hasRoom : GoodIn wsX4_canReadFrom (wsV RX4 226 RX0 yX0_hasRoom wsX0_hasRoom) := goodIn_app (goodIn_of _ (by decide +kernel)) ggX4_canReadFrom_X0_hasRoom
theorem dX4_canReadFrom_0 : decode cX4_canReadFrom 0 = .ok (.aload_n 0, 1) := by decide +kernel
theorem dX4_canReadFrom_1 : decode cX4_canReadFrom 1 = .ok (.getfield 19, 3) := by decide +kernel
theorem dX4_canReadFrom_4 : decode cX4_canReadFrom 4 = .ok (.getfield 178, 3) := by decide +kernel
theorem dX4_canReadFrom_7 : decode cX4_canReadFrom 7 = .ok (.iload_n 1, 1) := by decide +kernel
theorem dX4_canReadFrom_8 : decode cX4_canReadFrom 8 = .ok (.iaload, 1) := by decide +kernel
theorem dX4_canReadFrom_9 : decode cX4_canReadFrom 9 = .ok (.istore_n 2, 1) := by decide +kernel
theorem dX4_canReadFrom_10 : decode cX4_canReadFrom 10 = .ok (.iload_n 2, 1) := by decide +kernel
theorem dX4_canReadFrom_11 : decode cX4_canReadFrom 11 = .ok (.aload_n 0, 1) := by decide +kernel
theorem dX4_canReadFrom_12 : decode cX4_canReadFrom 12 = .ok (.getfield 10, 3) := by decide +kernel
theorem dX4_canReadFrom_15 : decode cX4_canReadFrom 15 = .ok (.getfield 83, 3) := by decide +kernel
theorem dX4_canReadFrom_18 : decode cX4_canReadFrom 18 = .ok (.iload_n 1, 1) := by decide +kernel
theorem dX4_canReadFrom_19 : decode cX4_canReadFrom 19 = .ok (.iaload, 1) := by decide +kernel
theorem dX4_canReadFrom_20 : decode cX4_canReadFrom 20 = .ok (.if_icmp .lt 5, 3) := by decide +kernel
theorem dX4_canReadFrom_23 : decode cX4_canReadFrom 23 = .ok (.iconst 0, 1) := by decide +kernel
theorem dX4_canReadFrom_24 : decode cX4_canReadFrom 24 = .ok (.ireturn, 1) := by decide +kernel
theorem dX4_canReadFrom_25 : decode cX4_canReadFrom 25 = .ok (.aload_n 0, 1) := by decide +kernel
theorem dX4_canReadFrom_26 : decode cX4_canReadFrom 26 = .ok (.getfield 10, 3) := by decide +kernel
theorem dX4_canReadFrom_29 : decode cX4_canReadFrom 29 = .ok (.iload_n 1, 1) := by decide +kernel
theorem dX4_canReadFrom_30 : decode cX4_canReadFrom 30 = .ok (.iload_n 2, 1) := by decide +kernel
theorem dX4_canReadFrom_31 : decode cX4_canReadFrom 31 = .ok (.invokevirtual 186, 3) := by decide +kernel
theorem dX4_canReadFrom_34 : decode cX4_canReadFrom 34 = .ok (.istore_n 3, 1) := by decide +kernel
theorem dX4_canReadFrom_35 : decode cX4_canReadFrom 35 = .ok (.aload_n 0, 1) := by decide +kernel
theorem dX4_canReadFrom_36 : decode cX4_canReadFrom 36 = .ok (.getfield 26, 3) := by decide +kernel
theorem dX4_canReadFrom_39 : decode cX4_canReadFrom 39 = .ok (.iload_n 1, 1) := by decide +kernel
theorem dX4_canReadFrom_40 : decode cX4_canReadFrom 40 = .ok (.aload_n 0, 1) := by decide +kernel
theorem dX4_canReadFrom_41 : decode cX4_canReadFrom 41 = .ok (.iload_n 3, 1) := by decide +kernel
theorem dX4_canReadFrom_42 : decode cX4_canReadFrom 42 = .ok (.invokestatic 223, 3) := by decide +kernel
theorem dX4_canReadFrom_45 : decode cX4_canReadFrom 45 = .ok (.invokevirtual 200, 3) := by decide +kernel
theorem dX4_canReadFrom_48 : decode cX4_canReadFrom 48 = .ok (.invokevirtual 226, 3) := by decide +kernel
theorem dX4_canReadFrom_51 : decode cX4_canReadFrom 51 = .ok (.ireturn, 1) := by decide +kernel
set_option maxRecDepth 20000 in
theorem ggX4_readFrom_X1_get : GoodIn wsX4_readFrom wsX1_get := goodIn_r _ [9, 10, 51, 52] (by decide +kernel) (by decide +kernel)
set_option maxRecDepth 20000 in
theorem gX4_readFrom_X1_get : GoodIn wsX4_readFrom (wsV RX4 186 RX1 yX1_get wsX1_get) := goodIn_app (goodIn_of _ (by decide +kernel)) ggX4_readFrom_X1_get
set_option maxRecDepth 20000 in
theorem ggX4_readFrom_X4_keyOf : GoodIn wsX4_readFrom wsX4_keyOf := goodIn_r _ [14] (by decide +kernel) (by decide +kernel)
set_option maxRecDepth 20000 in
theorem gX4_readFrom_X4_keyOf : GoodIn wsX4_readFrom (va_wsS RX4 223 yX4_keyOf wsX4_keyOf) := goodIn_app (goodIn_of _ (by decide +kernel)) ggX4_readFrom_X4_keyOf
set_option maxRecDepth 20000 in
theorem ggX4_readFrom_X4_ownerOfKey : GoodIn wsX4_readFrom wsX4_ownerOfKey := goodIn_r _ [18, 19, 20, 21, 13, 22, 33, 34, 35, 36, 37, 38, 39, 40, 41, 42, 43, 44, 45, 46] (by decide +kernel) (by decide +kernel)
set_option maxRecDepth 20000 in
theorem gX4_readFrom_X4_ownerOfKey : GoodIn wsX4_readFrom (wsV RX4 200 RX4 yX4_ownerOfKey wsX4_ownerOfKey) := goodIn_app (goodIn_of _ (by decide +kernel)) ggX4_readFrom_X4_ownerOfKey
set_option maxRecDepth 20000 in
theorem ggX4_readFrom_X0_put : GoodIn wsX4_readFrom wsX0_put := goodIn_r _ [27, 28, 29, 30, 31, 26, 32, 53, 54, 55] (by decide +kernel) (by decide +kernel)
set_option maxRecDepth 20000 in
theorem gX4_readFrom_X0_put : GoodIn wsX4_readFrom (wsV RX4 116 RX0 yX0_put wsX0_put) := goodIn_app (goodIn_of _ (by decide +kernel)) ggX4_readFrom_X0_put
theorem dX4_readFrom_0 : decode cX4_readFrom 0 = .ok (.aload_n 0, 1) := by decide +kernel
theorem dX4_readFrom_1 : decode cX4_readFrom 1 = .ok (.getfield 10, 3) := by decide +kernel
theorem dX4_readFrom_4 : decode cX4_readFrom 4 = .ok (.iload_n 1, 1) := by decide +kernel
theorem dX4_readFrom_5 : decode cX4_readFrom 5 = .ok (.aload_n 0, 1) := by decide +kernel
theorem dX4_readFrom_6 : decode cX4_readFrom 6 = .ok (.getfield 19, 3) := by decide +kernel
theorem dX4_readFrom_9 : decode cX4_readFrom 9 = .ok (.getfield 178, 3) := by decide +kernel
theorem dX4_readFrom_12 : decode cX4_readFrom 12 = .ok (.iload_n 1, 1) := by decide +kernel
theorem dX4_readFrom_13 : decode cX4_readFrom 13 = .ok (.iaload, 1) := by decide +kernel
theorem dX4_readFrom_14 : decode cX4_readFrom 14 = .ok (.invokevirtual 186, 3) := by decide +kernel
theorem dX4_readFrom_17 : decode cX4_readFrom 17 = .ok (.istore_n 2, 1) := by decide +kernel
theorem dX4_readFrom_18 : decode cX4_readFrom 18 = .ok (.aload_n 0, 1) := by decide +kernel
theorem dX4_readFrom_19 : decode cX4_readFrom 19 = .ok (.iload_n 2, 1) := by decide +kernel
theorem dX4_readFrom_20 : decode cX4_readFrom 20 = .ok (.invokestatic 223, 3) := by decide +kernel
theorem dX4_readFrom_23 : decode cX4_readFrom 23 = .ok (.invokevirtual 200, 3) := by decide +kernel
theorem dX4_readFrom_26 : decode cX4_readFrom 26 = .ok (.istore_n 3, 1) := by decide +kernel
theorem dX4_readFrom_27 : decode cX4_readFrom 27 = .ok (.aload_n 0, 1) := by decide +kernel
theorem dX4_readFrom_28 : decode cX4_readFrom 28 = .ok (.getfield 26, 3) := by decide +kernel
theorem dX4_readFrom_31 : decode cX4_readFrom 31 = .ok (.iload_n 1, 1) := by decide +kernel
theorem dX4_readFrom_32 : decode cX4_readFrom 32 = .ok (.iload_n 3, 1) := by decide +kernel
theorem dX4_readFrom_33 : decode cX4_readFrom 33 = .ok (.iload_n 2, 1) := by decide +kernel
theorem dX4_readFrom_34 : decode cX4_readFrom 34 = .ok (.invokevirtual 116, 3) := by decide +kernel
theorem dX4_readFrom_37 : decode cX4_readFrom 37 = .ok (.aload_n 0, 1) := by decide +kernel
theorem dX4_readFrom_38 : decode cX4_readFrom 38 = .ok (.getfield 19, 3) := by decide +kernel
theorem dX4_readFrom_41 : decode cX4_readFrom 41 = .ok (.getfield 178, 3) := by decide +kernel
theorem dX4_readFrom_44 : decode cX4_readFrom 44 = .ok (.iload_n 1, 1) := by decide +kernel
theorem dX4_readFrom_45 : decode cX4_readFrom 45 = .ok (.dup2, 1) := by decide +kernel
theorem dX4_readFrom_46 : decode cX4_readFrom 46 = .ok (.iaload, 1) := by decide +kernel
theorem dX4_readFrom_47 : decode cX4_readFrom 47 = .ok (.iconst 1, 1) := by decide +kernel
theorem dX4_readFrom_48 : decode cX4_readFrom 48 = .ok (.iadd, 1) := by decide +kernel
theorem dX4_readFrom_49 : decode cX4_readFrom 49 = .ok (.iastore, 1) := by decide +kernel
theorem dX4_readFrom_50 : decode cX4_readFrom 50 = .ok (.iload_n 3, 1) := by decide +kernel
theorem dX4_readFrom_51 : decode cX4_readFrom 51 = .ok (.ireturn, 1) := by decide +kernel
set_option maxRecDepth 20000 in
theorem ggX4_hasRoomInAllChannels_X0_hasRoom : GoodIn wsX4_hasRoomInAllChannels wsX0_hasRoom := goodIn_r _ [7, 8, 9, 10, 6, 11, 12, 13, 14, 15, 30, 31, 32] (by decide +kernel) (by decide +kernel)
set_option maxRecDepth 20000 in
theorem gX4_hasRoomInAllChannels_X0_hasRoom : GoodIn wsX4_hasRoomInAllChannels (wsV RX4 226 RX0 yX0_hasRoom wsX0_hasRoom) := goodIn_app (goodIn_of _ (by decide +kernel)) ggX4_hasRoomInAllChannels_X0_hasRoom
theorem dX4_hasRoomInAllChannels_0 : decode cX4_hasRoomInAllChannels 0 = .ok (.iconst 0, 1) := by decide +kernel
theorem dX4_hasRoomInAllChannels_1 : decode cX4_hasRoomInAllChannels 1 = .ok (.istore_n 2, 1) := by decide +kernel
theorem dX4_hasRoomInAllChannels_2 : decode cX4_hasRoomInAllChannels 2 = .ok (.iload_n 2, 1) := by decide +kernel
theorem dX4_hasRoomInAllChannels_3 : decode cX4_hasRoomInAllChannels 3 = .ok (.aload_n 0, 1) := by decide +kernel
theorem dX4_hasRoomInAllChannels_4 : decode cX4_hasRoomInAllChannels 4 = .ok (.getfield 56, 3) := by decide +kernel
theorem dX4_hasRoomInAllChannels_7 : decode cX4_hasRoomInAllChannels 7 = .ok (.if_icmp .ge 23, 3) := by decide +kernel
theorem dX4_hasRoomInAllChannels_10 : decode cX4_hasRoomInAllChannels 10 = .ok (.aload_n 0, 1) := by decide +kernel
theorem dX4_hasRoomInAllChannels_11 : decode cX4_hasRoomInAllChannels 11 = .ok (.getfield 26, 3) := by decide +kernel
theorem dX4_hasRoomInAllChannels_14 : decode cX4_hasRoomInAllChannels 14 = .ok (.iload_n 1, 1) := by decide +kernel
theorem dX4_hasRoomInAllChannels_15 : decode cX4_hasRoomInAllChannels 15 = .ok (.iload_n 2, 1) := by decide +kernel
theorem dX4_hasRoomInAllChannels_16 : decode cX4_hasRoomInAllChannels 16 = .ok (.invokevirtual 226, 3) := by decide +kernel
theorem dX4_hasRoomInAllChannels_19 : decode cX4_hasRoomInAllChannels 19 = .ok (.ifCond .ne 5, 3) := by decide +kernel
theorem dX4_hasRoomInAllChannels_22 : decode cX4_hasRoomInAllChannels 22 = .ok (.iconst 0, 1) := by decide +kernel
theorem dX4_hasRoomInAllChannels_23 : decode cX4_hasRoomInAllChannels 23 = .ok (.ireturn, 1) := by decide +kernel
theorem dX4_hasRoomInAllChannels_24 : decode cX4_hasRoomInAllChannels 24 = .ok (.iinc 2 1, 3) := by decide +kernel
theorem dX4_hasRoomInAllChannels_27 : decode cX4_hasRoomInAllChannels 27 = .ok (.goto (-25), 3) := by decide +kernel
theorem dX4_hasRoomInAllChannels_30 : decode cX4_hasRoomInAllChannels 30 = .ok (.iconst 1, 1) := by decide +kernel
theorem dX4_hasRoomInAllChannels_31 : decode cX4_hasRoomInAllChannels 31 = .ok (.ireturn, 1) := by decide +kernel
set_option maxRecDepth 20000 in
theorem ggX4_takeFrom_X0_removeFirst : GoodIn wsX4_takeFrom wsX0_removeFirst := goodIn_r _ [7, 8, 9, 10, 11, 6, 12, 119, 120, 121] (by decide +kernel) (by decide +kernel)
set_option maxRecDepth 20000 in
theorem gX4_takeFrom_X0_removeFirst : GoodIn wsX4_takeFrom (wsV RX4 229 RX0 yX0_removeFirst wsX0_removeFirst) := goodIn_app (goodIn_of _ (by decide +kernel)) ggX4_takeFrom_X0_removeFirst
set_option maxRecDepth 20000 in
theorem ggX4_takeFrom_X4_keyOf : GoodIn wsX4_takeFrom wsX4_keyOf := goodIn_r _ [16] (by decide +kernel) (by decide +kernel)
set_option maxRecDepth 20000 in
theorem gX4_takeFrom_X4_keyOf : GoodIn wsX4_takeFrom (va_wsS RX4 223 yX4_keyOf wsX4_keyOf) := goodIn_app (goodIn_of _ (by decide +kernel)) ggX4_takeFrom_X4_keyOf
set_option maxRecDepth 20000 in
theorem ggX4_takeFrom_X4_valueOf : GoodIn wsX4_takeFrom wsX4_valueOf := goodIn_r _ [19] (by decide +kernel) (by decide +kernel)
set_option maxRecDepth 20000 in
theorem gX4_takeFrom_X4_valueOf : GoodIn wsX4_takeFrom (va_wsS RX4 232 yX4_valueOf wsX4_valueOf) := goodIn_app (goodIn_of _ (by decide +kernel)) ggX4_takeFrom_X4_valueOf
set_option maxRecDepth 20000 in
theorem ggX4_takeFrom_X4_takeEvent : GoodIn wsX4_takeFrom wsX4_takeEvent := goodIn_r _ [23, 24, 25, 26, 27, 28, 29, 30, 31, 32, 33, 105, 106, 107, 108, 109, 110, 111, 112, 113, 114, 115, 116, 117, 118, 122, 123] (by decide +kernel) (by decide +kernel)
set_option maxRecDepth 20000 in
theorem gX4_takeFrom_X4_takeEvent : GoodIn wsX4_takeFrom (wsV RX4 235 RX4 yX4_takeEvent wsX4_takeEvent) := goodIn_app (goodIn_of _ (by decide +kernel)) ggX4_takeFrom_X4_takeEvent
set_option maxRecDepth 20000 in
theorem ggX4_takeFrom_X4_takeBarrier : GoodIn wsX4_takeFrom wsX4_takeBarrier := goodIn_r _ [37, 1, 38, 39, 40, 6, 41, 42, 10, 11, 12, 43, 44, 45, 46, 47, 48, 49, 50, 51, 52, 53, 15, 54, 55, 24, 25, 56, 57, 2, 58, 59, 60, 61, 62, 63, 64, 65, 66, 67, 68, 30, 69, 32, 33, 70, 71, 72, 73, 26, 74, 27, 28, 29, 31, 75, 76, 77, 78, 79, 80, 81, 82, 83, 84, 85, 86, 87, 88, 89, 90, 91, 92, 93, 94, 95, 96, 97, 98, 99, 100, 101, 102, 103, 104, 105, 106, 107, 108, 109, 110, 111, 112, 113, 114, 115, 116, 117, 118, 119, 120, 121, 122, 123, 124, 125, 126, 127] (by decide +kernel) (by decide +kernel)
set_option maxRecDepth 20000 in
theorem gX4_takeFrom_X4_takeBarrier : GoodIn wsX4_takeFrom (wsV RX4 238 RX4 yX4_takeBarrier wsX4_takeBarrier) := goodIn_app (goodIn_of _ (by decide +kernel)) ggX4_takeFrom_X4_takeBarrier
theorem dX4_takeFrom_0 : decode cX4_takeFrom 0 = .ok (.aload_n 0, 1) := by decide +kernel
theorem dX4_takeFrom_1 : decode cX4_takeFrom 1 = .ok (.getfield 26, 3) := by decide +kernel
theorem dX4_takeFrom_4 : decode cX4_takeFrom 4 = .ok (.iload_n 1, 1) := by decide +kernel
theorem dX4_takeFrom_5 : decode cX4_takeFrom 5 = .ok (.iload_n 2, 1) := by decide +kernel
theorem dX4_takeFrom_6 : decode cX4_takeFrom 6 = .ok (.invokevirtual 229, 3) := by decide +kernel
theorem dX4_takeFrom_9 : decode cX4_takeFrom 9 = .ok (.istore_n 3, 1) := by decide +kernel
theorem dX4_takeFrom_10 : decode cX4_takeFrom 10 = .ok (.iload_n 3, 1) := by decide +kernel
theorem dX4_takeFrom_11 : decode cX4_takeFrom 11 = .ok (.ifCond .le 16, 3) := by decide +kernel
theorem dX4_takeFrom_14 : decode cX4_takeFrom 14 = .ok (.aload_n 0, 1) := by decide +kernel
theorem dX4_takeFrom_15 : decode cX4_takeFrom 15 = .ok (.iload_n 3, 1) := by decide +kernel
theorem dX4_takeFrom_16 : decode cX4_takeFrom 16 = .ok (.invokestatic 223, 3) := by decide +kernel
theorem dX4_takeFrom_19 : decode cX4_takeFrom 19 = .ok (.iload_n 3, 1) := by decide +kernel
theorem dX4_takeFrom_20 : decode cX4_takeFrom 20 = .ok (.invokestatic 232, 3) := by decide +kernel
theorem dX4_takeFrom_23 : decode cX4_takeFrom 23 = .ok (.invokevirtual 235, 3) := by decide +kernel
theorem dX4_takeFrom_26 : decode cX4_takeFrom 26 = .ok (.ireturn, 1) := by decide +kernel
theorem dX4_takeFrom_27 : decode cX4_takeFrom 27 = .ok (.iload_n 3, 1) := by decide +kernel
theorem dX4_takeFrom_28 : decode cX4_takeFrom 28 = .ok (.ineg, 1) := by decide +kernel
theorem dX4_takeFrom_29 : decode cX4_takeFrom 29 = .ok (.aload_n 0, 1) := by decide +kernel
theorem dX4_takeFrom_30 : decode cX4_takeFrom 30 = .ok (.getfield 63, 3) := by decide +kernel
theorem dX4_takeFrom_33 : decode cX4_takeFrom 33 = .ok (.if_icmp .ne 9, 3) := by decide +kernel
theorem dX4_takeFrom_36 : decode cX4_takeFrom 36 = .ok (.aload_n 0, 1) := by decide +kernel
theorem dX4_takeFrom_37 : decode cX4_takeFrom 37 = .ok (.iload_n 1, 1) := by decide +kernel
theorem dX4_takeFrom_38 : decode cX4_takeFrom 38 = .ok (.iload_n 2, 1) := by decide +kernel
theorem dX4_takeFrom_39 : decode cX4_takeFrom 39 = .ok (.invokevirtual 238, 3) := by decide +kernel
theorem dX4_takeFrom_42 : decode cX4_takeFrom 42 = .ok (.iconst 0, 1) := by decide +kernel
theorem dX4_takeFrom_43 : decode cX4_takeFrom 43 = .ok (.ireturn, 1) := by decide +kernel
set_option maxRecDepth 20000 in
theorem ggX4_takeEvent_X3_add : GoodIn wsX4_takeEvent wsX3_add := goodIn_r _ [8, 9, 10, 25, 26] (by decide +kernel) (by decide +kernel)
set_option maxRecDepth 20000 in
theorem gX4_takeEvent_X3_add : GoodIn wsX4_takeEvent (wsV RX4 242 RX3 yX3_add wsX3_add) := goodIn_app (goodIn_of _ (by decide +kernel)) ggX4_takeEvent_X3_add
theorem dX4_takeEvent_0 : decode cX4_takeEvent 0 = .ok (.aload_n 0, 1) := by decide +kernel
theorem dX4_takeEvent_1 : decode cX4_takeEvent 1 = .ok (.getfield 33, 3) := by decide +kernel
theorem dX4_takeEvent_4 : decode cX4_takeEvent 4 = .ok (.iload_n 1, 1) := by decide +kernel
theorem dX4_takeEvent_5 : decode cX4_takeEvent 5 = .ok (.iconst 1, 1) := by decide +kernel
theorem dX4_takeEvent_6 : decode cX4_takeEvent 6 = .ok (.iload_n 2, 1) := by decide +kernel
theorem dX4_takeEvent_7 : decode cX4_takeEvent 7 = .ok (.invokevirtual 242, 3) := by decide +kernel
theorem dX4_takeEvent_10 : decode cX4_takeEvent 10 = .ok (.aload_n 0, 1) := by decide +kernel
theorem dX4_takeEvent_11 : decode cX4_takeEvent 11 = .ok (.getfield 37, 3) := by decide +kernel
theorem dX4_takeEvent_14 : decode cX4_takeEvent 14 = .ok (.iload_n 1, 1) := by decide +kernel
theorem dX4_takeEvent_15 : decode cX4_takeEvent 15 = .ok (.iconst 1, 1) := by decide +kernel
theorem dX4_takeEvent_16 : decode cX4_takeEvent 16 = .ok (.iload_n 2, 1) := by decide +kernel
theorem dX4_takeEvent_17 : decode cX4_takeEvent 17 = .ok (.invokevirtual 242, 3) := by decide +kernel
theorem dX4_takeEvent_20 : decode cX4_takeEvent 20 = .ok (.aload_n 0, 1) := by decide +kernel
theorem dX4_takeEvent_21 : decode cX4_takeEvent 21 = .ok (.getfield 33, 3) := by decide +kernel
theorem dX4_takeEvent_24 : decode cX4_takeEvent 24 = .ok (.getfield 203, 3) := by decide +kernel
theorem dX4_takeEvent_27 : decode cX4_takeEvent 27 = .ok (.iload_n 1, 1) := by decide +kernel
theorem dX4_takeEvent_28 : decode cX4_takeEvent 28 = .ok (.iaload, 1) := by decide +kernel
theorem dX4_takeEvent_29 : decode cX4_takeEvent 29 = .ok (.ireturn, 1) := by decide +kernel
set_option maxRecDepth 20000 in
theorem ggX4_takeBarrier_X0_block : GoodIn wsX4_takeBarrier wsX0_block := goodIn_r _ [6, 7, 8, 9, 5, 10, 99, 100, 101] (by decide +kernel) (by decide +kernel)
set_option maxRecDepth 20000 in
theorem gX4_takeBarrier_X0_block : GoodIn wsX4_takeBarrier (wsV RX4 244 RX0 yX0_block wsX0_block) := goodIn_app (goodIn_of _ (by decide +kernel)) ggX4_takeBarrier_X0_block
set_option maxRecDepth 20000 in
theorem ggX4_takeBarrier_X0_areAllBlocked : GoodIn wsX4_takeBarrier wsX0_areAllBlocked := goodIn_r _ [14, 15, 16, 17, 5, 18, 7, 8, 9, 10, 99, 100, 101] (by decide +kernel) (by decide +kernel)
set_option maxRecDepth 20000 in
theorem gX4_takeBarrier_X0_areAllBlocked : GoodIn wsX4_takeBarrier (wsV RX4 247 RX0 yX0_areAllBlocked wsX0_areAllBlocked) := goodIn_app (goodIn_of _ (by decide +kernel)) ggX4_takeBarrier_X0_areAllBlocked
set_option maxRecDepth 20000 in
theorem ggX4_takeBarrier_X4_sealTransaction : GoodIn wsX4_takeBarrier wsX4_sealTransaction := goodIn_r _ [23, 24, 25, 26, 27, 28, 29, 1, 30, 31, 32, 22, 33, 34, 35, 36, 37, 38, 39, 40, 41, 42, 43, 44, 45, 46, 47, 48, 49, 50, 51, 52, 53, 54, 55, 56, 57, 58, 59, 60, 61, 5, 62, 7, 8, 9, 10, 63, 64, 65, 66, 67, 68, 69, 70, 71, 72, 73, 74, 75, 76, 77, 78, 79, 80, 81, 82, 83, 84, 85, 86, 87, 88, 89, 90, 91, 92, 93, 94, 95, 96, 97, 98, 102, 103, 99, 100, 101, 104, 105, 106, 107] (by decide +kernel) (by decide +kernel)
set_option maxRecDepth 20000 in
theorem gX4_takeBarrier_X4_sealTransaction : GoodIn wsX4_takeBarrier (wsV RX4 250 RX4 yX4_sealTransaction wsX4_sealTransaction) := goodIn_app (goodIn_of _ (by decide +kernel)) ggX4_takeBarrier_X4_sealTransaction
theorem dX4_takeBarrier_0 : decode cX4_takeBarrier 0 = .ok (.aload_n 0, 1) := by decide +kernel
theorem dX4_takeBarrier_1 : decode cX4_takeBarrier 1 = .ok (.getfield 26, 3) := by decide +kernel
theorem dX4_takeBarrier_4 : decode cX4_takeBarrier 4 = .ok (.iload_n 1, 1) := by decide +kernel
theorem dX4_takeBarrier_5 : decode cX4_takeBarrier 5 = .ok (.iload_n 2, 1) := by decide +kernel
theorem dX4_takeBarrier_6 : decode cX4_takeBarrier 6 = .ok (.invokevirtual 244, 3) := by decide +kernel
theorem dX4_takeBarrier_9 : decode cX4_takeBarrier 9 = .ok (.aload_n 0, 1) := by decide +kernel
theorem dX4_takeBarrier_10 : decode cX4_takeBarrier 10 = .ok (.getfield 26, 3) := by decide +kernel
theorem dX4_takeBarrier_13 : decode cX4_takeBarrier 13 = .ok (.iload_n 2, 1) := by decide +kernel
theorem dX4_takeBarrier_14 : decode cX4_takeBarrier 14 = .ok (.invokevirtual 247, 3) := by decide +kernel
theorem dX4_takeBarrier_17 : decode cX4_takeBarrier 17 = .ok (.ifCond .eq 8, 3) := by decide +kernel
theorem dX4_takeBarrier_20 : decode cX4_takeBarrier 20 = .ok (.aload_n 0, 1) := by decide +kernel
theorem dX4_takeBarrier_21 : decode cX4_takeBarrier 21 = .ok (.iload_n 2, 1) := by decide +kernel
theorem dX4_takeBarrier_22 : decode cX4_takeBarrier 22 = .ok (.invokevirtual 250, 3) := by decide +kernel
theorem dX4_takeBarrier_25 : decode cX4_takeBarrier 25 = .ok (.return_, 1) := by decide +kernel
set_option maxRecDepth 20000 in
theorem ggX4_readRound_X4_canReadFrom : GoodIn wsX4_readRound wsX4_canReadFrom := goodIn_r _ [5, 6, 7, 8, 9, 10, 11, 12, 13, 14, 15, 16, 17, 18, 4, 19, 20, 21, 22, 23, 24, 25, 26, 27, 28, 29, 30, 31, 32, 33, 34, 35, 36, 37, 38, 39, 40, 50, 51, 52, 53, 54, 55, 56, 57, 58, 59, 60, 61, 62, 63, 64, 65, 66, 67, 68, 69, 70, 71, 72] (by decide +kernel) (by decide +kernel)
set_option maxRecDepth 20000 in
theorem gX4_readRound_X4_canReadFrom : GoodIn wsX4_readRound (wsV RX4 95 RX4 yX4_canReadFrom wsX4_canReadFrom) := goodIn_app (goodIn_of _ (by decide +kernel)) ggX4_readRound_X4_canReadFrom
set_option maxRecDepth 20000 in
theorem ggX4_readRound_X4_readFrom : GoodIn wsX4_readRound wsX4_readFrom := goodIn_r _ [44, 8, 6, 7, 10, 11, 12, 13, 14, 15, 16, 17, 18, 4, 19, 20, 21, 22, 23, 24, 25, 26, 27, 45, 46, 47, 31, 48, 49, 37, 38, 39, 40, 50, 51, 52, 53, 54, 55, 56, 57, 58, 59, 60, 61, 62, 63, 64, 65, 66, 67, 68, 69, 70, 71, 72] (by decide +kernel) (by decide +kernel)
set_option maxRecDepth 20000 in
theorem gX4_readRound_X4_readFrom : GoodIn wsX4_readRound (wsV RX4 101 RX4 yX4_readFrom wsX4_readFrom) := goodIn_app (goodIn_of _ (by decide +kernel)) ggX4_readRound_X4_readFrom
theorem dX4_readRound_0 : decode cX4_readRound 0 = .ok (.iconst 0, 1) := by decide +kernel
theorem dX4_readRound_1 : decode cX4_readRound 1 = .ok (.istore_n 1, 1) := by decide +kernel
theorem dX4_readRound_2 : decode cX4_readRound 2 = .ok (.iconst 0, 1) := by decide +kernel
theorem dX4_readRound_3 : decode cX4_readRound 3 = .ok (.istore_n 2, 1) := by decide +kernel
theorem dX4_readRound_4 : decode cX4_readRound 4 = .ok (.iload_n 2, 1) := by decide +kernel
theorem dX4_readRound_5 : decode cX4_readRound 5 = .ok (.iconst 4, 1) := by decide +kernel
theorem dX4_readRound_6 : decode cX4_readRound 6 = .ok (.if_icmp .ge 26, 3) := by decide +kernel
theorem dX4_readRound_9 : decode cX4_readRound 9 = .ok (.aload_n 0, 1) := by decide +kernel
theorem dX4_readRound_10 : decode cX4_readRound 10 = .ok (.iload_n 2, 1) := by decide +kernel
theorem dX4_readRound_11 : decode cX4_readRound 11 = .ok (.invokevirtual 95, 3) := by decide +kernel
theorem dX4_readRound_14 : decode cX4_readRound 14 = .ok (.ifCond .eq 12, 3) := by decide +kernel
theorem dX4_readRound_17 : decode cX4_readRound 17 = .ok (.aload_n 0, 1) := by decide +kernel
theorem dX4_readRound_18 : decode cX4_readRound 18 = .ok (.iload_n 2, 1) := by decide +kernel
theorem dX4_readRound_19 : decode cX4_readRound 19 = .ok (.invokevirtual 101, 3) := by decide +kernel
theorem dX4_readRound_22 : decode cX4_readRound 22 = .ok (.pop, 1) := by decide +kernel
theorem dX4_readRound_23 : decode cX4_readRound 23 = .ok (.iinc 1 1, 3) := by decide +kernel
theorem dX4_readRound_26 : decode cX4_readRound 26 = .ok (.iinc 2 1, 3) := by decide +kernel
theorem dX4_readRound_29 : decode cX4_readRound 29 = .ok (.goto (-25), 3) := by decide +kernel
theorem dX4_readRound_32 : decode cX4_readRound 32 = .ok (.iload_n 1, 1) := by decide +kernel
theorem dX4_readRound_33 : decode cX4_readRound 33 = .ok (.ireturn, 1) := by decide +kernel
set_option maxRecDepth 20000 in
theorem ggX4_takeRound_X0_canGive : GoodIn wsX4_takeRound wsX0_canGive := goodIn_r _ [7, 8, 9, 10, 6, 11, 12, 13, 14, 15, 16, 17, 18, 19, 20, 131, 132, 133] (by decide +kernel) (by decide +kernel)
set_option maxRecDepth 20000 in
theorem gX4_takeRound_X0_canGive : GoodIn wsX4_takeRound (wsV RX4 126 RX0 yX0_canGive wsX0_canGive) := goodIn_app (goodIn_of _ (by decide +kernel)) ggX4_takeRound_X0_canGive
set_option maxRecDepth 20000 in
theorem ggX4_takeRound_X4_takeFrom : GoodIn wsX4_takeRound wsX4_takeFrom := goodIn_r _ [25, 2, 26, 27, 28, 29, 6, 30, 31, 12, 13, 14, 15, 32, 33, 24, 34, 35, 36, 37, 38, 39, 40, 41, 42, 43, 44, 45, 46, 47, 48, 49, 50, 51, 52, 53, 54, 55, 56, 57, 58, 59, 20, 60, 61, 62, 63, 16, 17, 18, 19, 64, 65, 66, 67, 68, 69, 70, 71, 72, 73, 74, 1, 75, 76, 77, 78, 79, 80, 81, 82, 83, 84, 85, 86, 87, 88, 89, 90, 91, 92, 93, 94, 95, 96, 97, 98, 99, 100, 101, 102, 103, 104, 105, 106, 107, 108, 109, 110, 111, 112, 113, 114, 115, 116, 117, 118, 119, 120, 121, 122, 123, 124, 125, 126, 127, 128, 129, 130, 131, 132, 133, 134, 135, 136, 137, 138, 139] (by decide +kernel) (by decide +kernel)
set_option maxRecDepth 20000 in
theorem gX4_takeRound_X4_takeFrom : GoodIn wsX4_takeRound (wsV RX4 132 RX4 yX4_takeFrom wsX4_takeFrom) := goodIn_app (goodIn_of _ (by decide +kernel)) ggX4_takeRound_X4_takeFrom
theorem dX4_takeRound_0 : decode cX4_takeRound 0 = .ok (.iconst 0, 1) := by decide +kernel
theorem dX4_takeRound_1 : decode cX4_takeRound 1 = .ok (.istore_n 1, 1) := by decide +kernel
theorem dX4_takeRound_2 : decode cX4_takeRound 2 = .ok (.iconst 0, 1) := by decide +kernel
theorem dX4_takeRound_3 : decode cX4_takeRound 3 = .ok (.istore_n 2, 1) := by decide +kernel
theorem dX4_takeRound_4 : decode cX4_takeRound 4 = .ok (.iload_n 2, 1) := by decide +kernel
theorem dX4_takeRound_5 : decode cX4_takeRound 5 = .ok (.aload_n 0, 1) := by decide +kernel
theorem dX4_takeRound_6 : decode cX4_takeRound 6 = .ok (.getfield 56, 3) := by decide +kernel
theorem dX4_takeRound_9 : decode cX4_takeRound 9 = .ok (.if_icmp .ge 44, 3) := by decide +kernel
theorem dX4_takeRound_12 : decode cX4_takeRound 12 = .ok (.iconst 0, 1) := by decide +kernel
theorem dX4_takeRound_13 : decode cX4_takeRound 13 = .ok (.istore_n 3, 1) := by decide +kernel
theorem dX4_takeRound_14 : decode cX4_takeRound 14 = .ok (.iload_n 3, 1) := by decide +kernel
theorem dX4_takeRound_15 : decode cX4_takeRound 15 = .ok (.iconst 4, 1) := by decide +kernel
theorem dX4_takeRound_16 : decode cX4_takeRound 16 = .ok (.if_icmp .ge 31, 3) := by decide +kernel
theorem dX4_takeRound_19 : decode cX4_takeRound 19 = .ok (.aload_n 0, 1) := by decide +kernel
theorem dX4_takeRound_20 : decode cX4_takeRound 20 = .ok (.getfield 26, 3) := by decide +kernel
theorem dX4_takeRound_23 : decode cX4_takeRound 23 = .ok (.iload_n 3, 1) := by decide +kernel
theorem dX4_takeRound_24 : decode cX4_takeRound 24 = .ok (.iload_n 2, 1) := by decide +kernel
theorem dX4_takeRound_25 : decode cX4_takeRound 25 = .ok (.invokevirtual 126, 3) := by decide +kernel
theorem dX4_takeRound_28 : decode cX4_takeRound 28 = .ok (.ifCond .eq 13, 3) := by decide +kernel
theorem dX4_takeRound_31 : decode cX4_takeRound 31 = .ok (.aload_n 0, 1) := by decide +kernel
theorem dX4_takeRound_32 : decode cX4_takeRound 32 = .ok (.iload_n 3, 1) := by decide +kernel
theorem dX4_takeRound_33 : decode cX4_takeRound 33 = .ok (.iload_n 2, 1) := by decide +kernel
theorem dX4_takeRound_34 : decode cX4_takeRound 34 = .ok (.invokevirtual 132, 3) := by decide +kernel
theorem dX4_takeRound_37 : decode cX4_takeRound 37 = .ok (.pop, 1) := by decide +kernel
theorem dX4_takeRound_38 : decode cX4_takeRound 38 = .ok (.iinc 1 1, 3) := by decide +kernel
theorem dX4_takeRound_41 : decode cX4_takeRound 41 = .ok (.iinc 3 1, 3) := by decide +kernel
theorem dX4_takeRound_44 : decode cX4_takeRound 44 = .ok (.goto (-30), 3) := by decide +kernel
theorem dX4_takeRound_47 : decode cX4_takeRound 47 = .ok (.iinc 2 1, 3) := by decide +kernel
theorem dX4_takeRound_50 : decode cX4_takeRound 50 = .ok (.goto (-46), 3) := by decide +kernel
theorem dX4_takeRound_53 : decode cX4_takeRound 53 = .ok (.iload_n 1, 1) := by decide +kernel
theorem dX4_takeRound_54 : decode cX4_takeRound 54 = .ok (.ireturn, 1) := by decide +kernel
set_option maxRecDepth 20000 in
theorem ggX4_sealTransaction_X4_ownerOfKey : GoodIn wsX4_sealTransaction wsX4_ownerOfKey := goodIn_r _ [12, 13, 14, 15, 11, 16, 69, 70, 71, 72, 73, 74, 75, 76, 77, 78, 79, 80, 81, 82] (by decide +kernel) (by decide +kernel)
set_option maxRecDepth 20000 in
theorem gX4_sealTransaction_X4_ownerOfKey : GoodIn wsX4_sealTransaction (wsV RX4 200 RX4 yX4_ownerOfKey wsX4_ownerOfKey) := goodIn_app (goodIn_of _ (by decide +kernel)) ggX4_sealTransaction_X4_ownerOfKey
set_option maxRecDepth 20000 in
theorem ggX4_sealTransaction_X3_copyKey : GoodIn wsX4_sealTransaction wsX3_copyKey := goodIn_r _ [21, 22, 23, 83, 84] (by decide +kernel) (by decide +kernel)
set_option maxRecDepth 20000 in
theorem gX4_sealTransaction_X3_copyKey : GoodIn wsX4_sealTransaction (wsV RX4 253 RX3 yX3_copyKey wsX3_copyKey) := goodIn_app (goodIn_of _ (by decide +kernel)) ggX4_sealTransaction_X3_copyKey
set_option maxRecDepth 20000 in
theorem ggX4_sealTransaction_X4_moveTallies : GoodIn wsX4_sealTransaction wsX4_moveTallies := goodIn_r _ [27, 28, 29, 8, 9, 10, 11, 12, 13, 14, 15, 16, 30, 31, 32, 20, 33, 22, 23, 34, 35, 36, 37, 83, 84, 69, 70, 71, 72, 73, 74, 75, 76, 77, 78, 79, 80, 81, 82] (by decide +kernel) (by decide +kernel)
set_option maxRecDepth 20000 in
theorem gX4_sealTransaction_X4_moveTallies : GoodIn wsX4_sealTransaction (wsV RX4 166 RX4 yX4_moveTallies wsX4_moveTallies) := goodIn_app (goodIn_of _ (by decide +kernel)) ggX4_sealTransaction_X4_moveTallies
set_option maxRecDepth 20000 in
theorem ggX4_sealTransaction_X0_unblockAll : GoodIn wsX4_sealTransaction wsX0_unblockAll := goodIn_r _ [42, 43, 44, 45, 41, 46, 85, 86, 87] (by decide +kernel) (by decide +kernel)
set_option maxRecDepth 20000 in
theorem gX4_sealTransaction_X0_unblockAll : GoodIn wsX4_sealTransaction (wsV RX4 163 RX0 yX0_unblockAll wsX0_unblockAll) := goodIn_app (goodIn_of _ (by decide +kernel)) ggX4_sealTransaction_X0_unblockAll
set_option maxRecDepth 20000 in
theorem ggX4_sealTransaction_X4_haveAllSealed : GoodIn wsX4_sealTransaction wsX4_haveAllSealed := goodIn_r _ [50, 13, 5, 69, 70, 71, 72, 73, 74, 75, 76, 77, 78, 79, 80, 81, 82] (by decide +kernel) (by decide +kernel)
set_option maxRecDepth 20000 in
theorem gX4_sealTransaction_X4_haveAllSealed : GoodIn wsX4_sealTransaction (wsV RX4 257 RX4 yX4_haveAllSealed wsX4_haveAllSealed) := goodIn_app (goodIn_of _ (by decide +kernel)) ggX4_sealTransaction_X4_haveAllSealed
set_option maxRecDepth 20000 in
theorem ggX4_sealTransaction_X4_completeCheckpoint : GoodIn wsX4_sealTransaction wsX4_completeCheckpoint := goodIn_r _ [54, 55, 1, 56, 6, 57, 58, 59, 60, 20, 61, 22, 23, 62, 63, 64, 65, 66, 67, 68, 69, 70, 71, 72, 73, 74, 75, 76, 77, 78, 79, 80, 81, 82, 83, 84, 88, 89, 90, 91] (by decide +kernel) (by decide +kernel)
set_option maxRecDepth 20000 in
theorem gX4_sealTransaction_X4_completeCheckpoint : GoodIn wsX4_sealTransaction (wsV RX4 260 RX4 yX4_completeCheckpoint wsX4_completeCheckpoint) := goodIn_app (goodIn_of _ (by decide +kernel)) ggX4_sealTransaction_X4_completeCheckpoint
theorem dX4_sealTransaction_0 : decode cX4_sealTransaction 0 = .ok (.iconst 0, 1) := by decide +kernel
theorem dX4_sealTransaction_1 : decode cX4_sealTransaction 1 = .ok (.istore_n 2, 1) := by decide +kernel
theorem dX4_sealTransaction_2 : decode cX4_sealTransaction 2 = .ok (.iload_n 2, 1) := by decide +kernel
theorem dX4_sealTransaction_3 : decode cX4_sealTransaction 3 = .ok (.bipush 32, 2) := by decide +kernel
theorem dX4_sealTransaction_5 : decode cX4_sealTransaction 5 = .ok (.if_icmp .ge 30, 3) := by decide +kernel
theorem dX4_sealTransaction_8 : decode cX4_sealTransaction 8 = .ok (.aload_n 0, 1) := by decide +kernel
theorem dX4_sealTransaction_9 : decode cX4_sealTransaction 9 = .ok (.iload_n 2, 1) := by decide +kernel
theorem dX4_sealTransaction_10 : decode cX4_sealTransaction 10 = .ok (.invokevirtual 200, 3) := by decide +kernel
theorem dX4_sealTransaction_13 : decode cX4_sealTransaction 13 = .ok (.iload_n 1, 1) := by decide +kernel
theorem dX4_sealTransaction_14 : decode cX4_sealTransaction 14 = .ok (.if_icmp .ne 15, 3) := by decide +kernel
theorem dX4_sealTransaction_17 : decode cX4_sealTransaction 17 = .ok (.aload_n 0, 1) := by decide +kernel
theorem dX4_sealTransaction_18 : decode cX4_sealTransaction 18 = .ok (.getfield 43, 3) := by decide +kernel
theorem dX4_sealTransaction_21 : decode cX4_sealTransaction 21 = .ok (.aload_n 0, 1) := by decide +kernel
theorem dX4_sealTransaction_22 : decode cX4_sealTransaction 22 = .ok (.getfield 33, 3) := by decide +kernel
theorem dX4_sealTransaction_25 : decode cX4_sealTransaction 25 = .ok (.iload_n 2, 1) := by decide +kernel
theorem dX4_sealTransaction_26 : decode cX4_sealTransaction 26 = .ok (.invokevirtual 253, 3) := by decide +kernel
theorem dX4_sealTransaction_29 : decode cX4_sealTransaction 29 = .ok (.iinc 2 1, 3) := by decide +kernel
theorem dX4_sealTransaction_32 : decode cX4_sealTransaction 32 = .ok (.goto (-30), 3) := by decide +kernel
theorem dX4_sealTransaction_35 : decode cX4_sealTransaction 35 = .ok (.aload_n 0, 1) := by decide +kernel
theorem dX4_sealTransaction_36 : decode cX4_sealTransaction 36 = .ok (.aload_n 0, 1) := by decide +kernel
theorem dX4_sealTransaction_37 : decode cX4_sealTransaction 37 = .ok (.getfield 37, 3) := by decide +kernel
theorem dX4_sealTransaction_40 : decode cX4_sealTransaction 40 = .ok (.aload_n 0, 1) := by decide +kernel
theorem dX4_sealTransaction_41 : decode cX4_sealTransaction 41 = .ok (.getfield 40, 3) := by decide +kernel
theorem dX4_sealTransaction_44 : decode cX4_sealTransaction 44 = .ok (.iload_n 1, 1) := by decide +kernel
theorem dX4_sealTransaction_45 : decode cX4_sealTransaction 45 = .ok (.invokevirtual 166, 3) := by decide +kernel
theorem dX4_sealTransaction_48 : decode cX4_sealTransaction 48 = .ok (.pop, 1) := by decide +kernel
theorem dX4_sealTransaction_49 : decode cX4_sealTransaction 49 = .ok (.aload_n 0, 1) := by decide +kernel
theorem dX4_sealTransaction_50 : decode cX4_sealTransaction 50 = .ok (.getfield 52, 3) := by decide +kernel
theorem dX4_sealTransaction_53 : decode cX4_sealTransaction 53 = .ok (.iload_n 1, 1) := by decide +kernel
theorem dX4_sealTransaction_54 : decode cX4_sealTransaction 54 = .ok (.aload_n 0, 1) := by decide +kernel
theorem dX4_sealTransaction_55 : decode cX4_sealTransaction 55 = .ok (.getfield 63, 3) := by decide +kernel
theorem dX4_sealTransaction_58 : decode cX4_sealTransaction 58 = .ok (.iastore, 1) := by decide +kernel
theorem dX4_sealTransaction_59 : decode cX4_sealTransaction 59 = .ok (.aload_n 0, 1) := by decide +kernel
theorem dX4_sealTransaction_60 : decode cX4_sealTransaction 60 = .ok (.getfield 26, 3) := by decide +kernel
theorem dX4_sealTransaction_63 : decode cX4_sealTransaction 63 = .ok (.iload_n 1, 1) := by decide +kernel
theorem dX4_sealTransaction_64 : decode cX4_sealTransaction 64 = .ok (.invokevirtual 163, 3) := by decide +kernel
theorem dX4_sealTransaction_67 : decode cX4_sealTransaction 67 = .ok (.aload_n 0, 1) := by decide +kernel
theorem dX4_sealTransaction_68 : decode cX4_sealTransaction 68 = .ok (.invokevirtual 257, 3) := by decide +kernel
theorem dX4_sealTransaction_71 : decode cX4_sealTransaction 71 = .ok (.ifCond .eq 7, 3) := by decide +kernel
theorem dX4_sealTransaction_74 : decode cX4_sealTransaction 74 = .ok (.aload_n 0, 1) := by decide +kernel
theorem dX4_sealTransaction_75 : decode cX4_sealTransaction 75 = .ok (.invokevirtual 260, 3) := by decide +kernel
theorem dX4_sealTransaction_78 : decode cX4_sealTransaction 78 = .ok (.return_, 1) := by decide +kernel
set_option maxRecDepth 20000 in
theorem ggX4_completeCheckpoint_X3_copyAll : GoodIn wsX4_completeCheckpoint wsX3_copyAll := goodIn_r _ [10, 11, 12, 34, 35] (by decide +kernel) (by decide +kernel)
set_option maxRecDepth 20000 in
theorem gX4_completeCheckpoint_X3_copyAll : GoodIn wsX4_completeCheckpoint (wsV RX4 263 RX3 yX3_copyAll wsX3_copyAll) := goodIn_app (goodIn_of _ (by decide +kernel)) ggX4_completeCheckpoint_X3_copyAll
set_option maxRecDepth 20000 in
theorem ggX4_completeCheckpoint_X2_keepAll : GoodIn wsX4_completeCheckpoint wsX2_keepAll := goodIn_r _ [17, 18, 19, 36, 37, 38, 39] (by decide +kernel) (by decide +kernel)
set_option maxRecDepth 20000 in
theorem gX4_completeCheckpoint_X2_keepAll : GoodIn wsX4_completeCheckpoint (wsV RX4 267 RX2 yX2_keepAll wsX2_keepAll) := goodIn_app (goodIn_of _ (by decide +kernel)) ggX4_completeCheckpoint_X2_keepAll
theorem dX4_completeCheckpoint_0 : decode cX4_completeCheckpoint 0 = .ok (.aload_n 0, 1) := by decide +kernel
theorem dX4_completeCheckpoint_1 : decode cX4_completeCheckpoint 1 = .ok (.getfield 46, 3) := by decide +kernel
theorem dX4_completeCheckpoint_4 : decode cX4_completeCheckpoint 4 = .ok (.aload_n 0, 1) := by decide +kernel
theorem dX4_completeCheckpoint_5 : decode cX4_completeCheckpoint 5 = .ok (.getfield 43, 3) := by decide +kernel
theorem dX4_completeCheckpoint_8 : decode cX4_completeCheckpoint 8 = .ok (.invokevirtual 263, 3) := by decide +kernel
theorem dX4_completeCheckpoint_11 : decode cX4_completeCheckpoint 11 = .ok (.aload_n 0, 1) := by decide +kernel
theorem dX4_completeCheckpoint_12 : decode cX4_completeCheckpoint 12 = .ok (.getfield 19, 3) := by decide +kernel
theorem dX4_completeCheckpoint_15 : decode cX4_completeCheckpoint 15 = .ok (.invokevirtual 267, 3) := by decide +kernel
theorem dX4_completeCheckpoint_18 : decode cX4_completeCheckpoint 18 = .ok (.aload_n 0, 1) := by decide +kernel
theorem dX4_completeCheckpoint_19 : decode cX4_completeCheckpoint 19 = .ok (.aload_n 0, 1) := by decide +kernel
theorem dX4_completeCheckpoint_20 : decode cX4_completeCheckpoint 20 = .ok (.getfield 63, 3) := by decide +kernel
theorem dX4_completeCheckpoint_23 : decode cX4_completeCheckpoint 23 = .ok (.putfield 66, 3) := by decide +kernel
theorem dX4_completeCheckpoint_26 : decode cX4_completeCheckpoint 26 = .ok (.aload_n 0, 1) := by decide +kernel
theorem dX4_completeCheckpoint_27 : decode cX4_completeCheckpoint 27 = .ok (.iconst (-1), 1) := by decide +kernel
theorem dX4_completeCheckpoint_28 : decode cX4_completeCheckpoint 28 = .ok (.putfield 63, 3) := by decide +kernel
theorem dX4_completeCheckpoint_31 : decode cX4_completeCheckpoint 31 = .ok (.return_, 1) := by decide +kernel
theorem dX4_haveAllSealed_0 : decode cX4_haveAllSealed 0 = .ok (.iconst 0, 1) := by decide +kernel
theorem dX4_haveAllSealed_1 : decode cX4_haveAllSealed 1 = .ok (.istore_n 1, 1) := by decide +kernel
theorem dX4_haveAllSealed_2 : decode cX4_haveAllSealed 2 = .ok (.iload_n 1, 1) := by decide +kernel
theorem dX4_haveAllSealed_3 : decode cX4_haveAllSealed 3 = .ok (.aload_n 0, 1) := by decide +kernel
theorem dX4_haveAllSealed_4 : decode cX4_haveAllSealed 4 = .ok (.getfield 56, 3) := by decide +kernel
theorem dX4_haveAllSealed_7 : decode cX4_haveAllSealed 7 = .ok (.if_icmp .ge 21, 3) := by decide +kernel
theorem dX4_haveAllSealed_10 : decode cX4_haveAllSealed 10 = .ok (.aload_n 0, 1) := by decide +kernel
theorem dX4_haveAllSealed_11 : decode cX4_haveAllSealed 11 = .ok (.getfield 52, 3) := by decide +kernel
theorem dX4_haveAllSealed_14 : decode cX4_haveAllSealed 14 = .ok (.iload_n 1, 1) := by decide +kernel
theorem dX4_haveAllSealed_15 : decode cX4_haveAllSealed 15 = .ok (.iaload, 1) := by decide +kernel
theorem dX4_haveAllSealed_16 : decode cX4_haveAllSealed 16 = .ok (.iconst (-1), 1) := by decide +kernel
theorem dX4_haveAllSealed_17 : decode cX4_haveAllSealed 17 = .ok (.if_icmp .ne 5, 3) := by decide +kernel
theorem dX4_haveAllSealed_20 : decode cX4_haveAllSealed 20 = .ok (.iconst 0, 1) := by decide +kernel
theorem dX4_haveAllSealed_21 : decode cX4_haveAllSealed 21 = .ok (.ireturn, 1) := by decide +kernel
theorem dX4_haveAllSealed_22 : decode cX4_haveAllSealed 22 = .ok (.iinc 1 1, 3) := by decide +kernel
theorem dX4_haveAllSealed_25 : decode cX4_haveAllSealed 25 = .ok (.goto (-23), 3) := by decide +kernel
theorem dX4_haveAllSealed_28 : decode cX4_haveAllSealed 28 = .ok (.iconst 1, 1) := by decide +kernel
theorem dX4_haveAllSealed_29 : decode cX4_haveAllSealed 29 = .ok (.ireturn, 1) := by decide +kernel
theorem dX4_hasAnySealed_0 : decode cX4_hasAnySealed 0 = .ok (.iconst 0, 1) := by decide +kernel
theorem dX4_hasAnySealed_1 : decode cX4_hasAnySealed 1 = .ok (.istore_n 1, 1) := by decide +kernel
theorem dX4_hasAnySealed_2 : decode cX4_hasAnySealed 2 = .ok (.iload_n 1, 1) := by decide +kernel
theorem dX4_hasAnySealed_3 : decode cX4_hasAnySealed 3 = .ok (.aload_n 0, 1) := by decide +kernel
theorem dX4_hasAnySealed_4 : decode cX4_hasAnySealed 4 = .ok (.getfield 56, 3) := by decide +kernel
theorem dX4_hasAnySealed_7 : decode cX4_hasAnySealed 7 = .ok (.if_icmp .ge 21, 3) := by decide +kernel
theorem dX4_hasAnySealed_10 : decode cX4_hasAnySealed 10 = .ok (.aload_n 0, 1) := by decide +kernel
theorem dX4_hasAnySealed_11 : decode cX4_hasAnySealed 11 = .ok (.getfield 52, 3) := by decide +kernel
theorem dX4_hasAnySealed_14 : decode cX4_hasAnySealed 14 = .ok (.iload_n 1, 1) := by decide +kernel
theorem dX4_hasAnySealed_15 : decode cX4_hasAnySealed 15 = .ok (.iaload, 1) := by decide +kernel
theorem dX4_hasAnySealed_16 : decode cX4_hasAnySealed 16 = .ok (.iconst (-1), 1) := by decide +kernel
theorem dX4_hasAnySealed_17 : decode cX4_hasAnySealed 17 = .ok (.if_icmp .eq 5, 3) := by decide +kernel
theorem dX4_hasAnySealed_20 : decode cX4_hasAnySealed 20 = .ok (.iconst 1, 1) := by decide +kernel
theorem dX4_hasAnySealed_21 : decode cX4_hasAnySealed 21 = .ok (.ireturn, 1) := by decide +kernel
theorem dX4_hasAnySealed_22 : decode cX4_hasAnySealed 22 = .ok (.iinc 1 1, 3) := by decide +kernel
theorem dX4_hasAnySealed_25 : decode cX4_hasAnySealed 25 = .ok (.goto (-23), 3) := by decide +kernel
theorem dX4_hasAnySealed_28 : decode cX4_hasAnySealed 28 = .ok (.iconst 0, 1) := by decide +kernel
theorem dX4_hasAnySealed_29 : decode cX4_hasAnySealed 29 = .ok (.ireturn, 1) := by decide +kernel
theorem dX4_isReadyToCommit_0 : decode cX4_isReadyToCommit 0 = .ok (.aload_n 0, 1) := by decide +kernel
theorem dX4_isReadyToCommit_1 : decode cX4_isReadyToCommit 1 = .ok (.getfield 52, 3) := by decide +kernel
theorem dX4_isReadyToCommit_4 : decode cX4_isReadyToCommit 4 = .ok (.iload_n 1, 1) := by decide +kernel
theorem dX4_isReadyToCommit_5 : decode cX4_isReadyToCommit 5 = .ok (.iaload, 1) := by decide +kernel
theorem dX4_isReadyToCommit_6 : decode cX4_isReadyToCommit 6 = .ok (.iconst (-1), 1) := by decide +kernel
theorem dX4_isReadyToCommit_7 : decode cX4_isReadyToCommit 7 = .ok (.if_icmp .eq 20, 3) := by decide +kernel
theorem dX4_isReadyToCommit_10 : decode cX4_isReadyToCommit 10 = .ok (.aload_n 0, 1) := by decide +kernel
theorem dX4_isReadyToCommit_11 : decode cX4_isReadyToCommit 11 = .ok (.getfield 52, 3) := by decide +kernel
theorem dX4_isReadyToCommit_14 : decode cX4_isReadyToCommit 14 = .ok (.iload_n 1, 1) := by decide +kernel
theorem dX4_isReadyToCommit_15 : decode cX4_isReadyToCommit 15 = .ok (.iaload, 1) := by decide +kernel
theorem dX4_isReadyToCommit_16 : decode cX4_isReadyToCommit 16 = .ok (.aload_n 0, 1) := by decide +kernel
theorem dX4_isReadyToCommit_17 : decode cX4_isReadyToCommit 17 = .ok (.getfield 66, 3) := by decide +kernel
theorem dX4_isReadyToCommit_20 : decode cX4_isReadyToCommit 20 = .ok (.if_icmp .ne 7, 3) := by decide +kernel
theorem dX4_isReadyToCommit_23 : decode cX4_isReadyToCommit 23 = .ok (.iconst 1, 1) := by decide +kernel
theorem dX4_isReadyToCommit_24 : decode cX4_isReadyToCommit 24 = .ok (.goto 4, 3) := by decide +kernel
theorem dX4_isReadyToCommit_27 : decode cX4_isReadyToCommit 27 = .ok (.iconst 0, 1) := by decide +kernel
theorem dX4_isReadyToCommit_28 : decode cX4_isReadyToCommit 28 = .ok (.ireturn, 1) := by decide +kernel
set_option maxRecDepth 20000 in
theorem ggX4_commitSealed_X4_moveTallies : GoodIn wsX4_commitSealed wsX4_moveTallies := goodIn_r _ [8, 9, 10, 11, 12, 13, 7, 14, 15, 16, 17, 18, 19, 20, 21, 22, 23, 24, 25, 26, 27, 28, 29, 44, 45, 30, 31, 32, 33, 34, 35, 36, 37, 38, 39, 40, 41, 42, 43] (by decide +kernel) (by decide +kernel)
set_option maxRecDepth 20000 in
theorem gX4_commitSealed_X4_moveTallies : GoodIn wsX4_commitSealed (wsV RX4 166 RX4 yX4_moveTallies wsX4_moveTallies) := goodIn_app (goodIn_of _ (by decide +kernel)) ggX4_commitSealed_X4_moveTallies
theorem dX4_commitSealed_0 : decode cX4_commitSealed 0 = .ok (.aload_n 0, 1) := by decide +kernel
theorem dX4_commitSealed_1 : decode cX4_commitSealed 1 = .ok (.getfield 52, 3) := by decide +kernel
theorem dX4_commitSealed_4 : decode cX4_commitSealed 4 = .ok (.iload_n 1, 1) := by decide +kernel
theorem dX4_commitSealed_5 : decode cX4_commitSealed 5 = .ok (.iconst (-1), 1) := by decide +kernel
theorem dX4_commitSealed_6 : decode cX4_commitSealed 6 = .ok (.iastore, 1) := by decide +kernel
theorem dX4_commitSealed_7 : decode cX4_commitSealed 7 = .ok (.aload_n 0, 1) := by decide +kernel
theorem dX4_commitSealed_8 : decode cX4_commitSealed 8 = .ok (.aload_n 0, 1) := by decide +kernel
theorem dX4_commitSealed_9 : decode cX4_commitSealed 9 = .ok (.getfield 40, 3) := by decide +kernel
theorem dX4_commitSealed_12 : decode cX4_commitSealed 12 = .ok (.aload_n 0, 1) := by decide +kernel
theorem dX4_commitSealed_13 : decode cX4_commitSealed 13 = .ok (.getfield 49, 3) := by decide +kernel
theorem dX4_commitSealed_16 : decode cX4_commitSealed 16 = .ok (.iload_n 1, 1) := by decide +kernel
theorem dX4_commitSealed_17 : decode cX4_commitSealed 17 = .ok (.invokevirtual 166, 3) := by decide +kernel
theorem dX4_commitSealed_20 : decode cX4_commitSealed 20 = .ok (.ireturn, 1) := by decide +kernel
set_option maxRecDepth 20000 in
theorem ggX4_moveTallies_X4_ownerOfKey : GoodIn wsX4_moveTallies wsX4_ownerOfKey := goodIn_r _ [7, 8, 9, 10, 6, 11, 25, 26, 27, 28, 29, 30, 31, 32, 33, 34, 35, 36, 37, 38] (by decide +kernel) (by decide +kernel)
set_option maxRecDepth 20000 in
theorem gX4_moveTallies_X4_ownerOfKey : GoodIn wsX4_moveTallies (wsV RX4 200 RX4 yX4_ownerOfKey wsX4_ownerOfKey) := goodIn_app (goodIn_of _ (by decide +kernel)) ggX4_moveTallies_X4_ownerOfKey
set_option maxRecDepth 20000 in
theorem ggX4_moveTallies_X3_add : GoodIn wsX4_moveTallies wsX3_add := goodIn_r _ [16, 17, 18, 23, 24] (by decide +kernel) (by decide +kernel)
set_option maxRecDepth 20000 in
theorem gX4_moveTallies_X3_add : GoodIn wsX4_moveTallies (wsV RX4 242 RX3 yX3_add wsX3_add) := goodIn_app (goodIn_of _ (by decide +kernel)) ggX4_moveTallies_X3_add
set_option maxRecDepth 20000 in
theorem ggX4_moveTallies_X3_clearKey : GoodIn wsX4_moveTallies wsX3_clearKey := goodIn_r _ [22, 17, 18, 23, 24] (by decide +kernel) (by decide +kernel)
set_option maxRecDepth 20000 in
theorem gX4_moveTallies_X3_clearKey : GoodIn wsX4_moveTallies (wsV RX4 270 RX3 yX3_clearKey wsX3_clearKey) := goodIn_app (goodIn_of _ (by decide +kernel)) ggX4_moveTallies_X3_clearKey
theorem dX4_moveTallies_0 : decode cX4_moveTallies 0 = .ok (.iconst 0, 1) := by decide +kernel
theorem dX4_moveTallies_1 : decode cX4_moveTallies 1 = .ok (.istore 4, 2) := by decide +kernel
theorem dX4_moveTallies_3 : decode cX4_moveTallies 3 = .ok (.iconst 0, 1) := by decide +kernel
theorem dX4_moveTallies_4 : decode cX4_moveTallies 4 = .ok (.istore 5, 2) := by decide +kernel
theorem dX4_moveTallies_6 : decode cX4_moveTallies 6 = .ok (.iload 5, 2) := by decide +kernel
theorem dX4_moveTallies_8 : decode cX4_moveTallies 8 = .ok (.bipush 32, 2) := by decide +kernel
theorem dX4_moveTallies_10 : decode cX4_moveTallies 10 = .ok (.if_icmp .ge 57, 3) := by decide +kernel
theorem dX4_moveTallies_13 : decode cX4_moveTallies 13 = .ok (.aload_n 0, 1) := by decide +kernel
theorem dX4_moveTallies_14 : decode cX4_moveTallies 14 = .ok (.iload 5, 2) := by decide +kernel
theorem dX4_moveTallies_16 : decode cX4_moveTallies 16 = .ok (.invokevirtual 200, 3) := by decide +kernel
theorem dX4_moveTallies_19 : decode cX4_moveTallies 19 = .ok (.iload_n 3, 1) := by decide +kernel
theorem dX4_moveTallies_20 : decode cX4_moveTallies 20 = .ok (.if_icmp .ne 41, 3) := by decide +kernel
theorem dX4_moveTallies_23 : decode cX4_moveTallies 23 = .ok (.iload 4, 2) := by decide +kernel
theorem dX4_moveTallies_25 : decode cX4_moveTallies 25 = .ok (.aload_n 1, 1) := by decide +kernel
theorem dX4_moveTallies_26 : decode cX4_moveTallies 26 = .ok (.getfield 203, 3) := by decide +kernel
theorem dX4_moveTallies_29 : decode cX4_moveTallies 29 = .ok (.iload 5, 2) := by decide +kernel
theorem dX4_moveTallies_31 : decode cX4_moveTallies 31 = .ok (.iaload, 1) := by decide +kernel
theorem dX4_moveTallies_32 : decode cX4_moveTallies 32 = .ok (.iadd, 1) := by decide +kernel
theorem dX4_moveTallies_33 : decode cX4_moveTallies 33 = .ok (.istore 4, 2) := by decide +kernel
theorem dX4_moveTallies_35 : decode cX4_moveTallies 35 = .ok (.aload_n 2, 1) := by decide +kernel
theorem dX4_moveTallies_36 : decode cX4_moveTallies 36 = .ok (.iload 5, 2) := by decide +kernel
theorem dX4_moveTallies_38 : decode cX4_moveTallies 38 = .ok (.aload_n 1, 1) := by decide +kernel
theorem dX4_moveTallies_39 : decode cX4_moveTallies 39 = .ok (.getfield 203, 3) := by decide +kernel
theorem dX4_moveTallies_42 : decode cX4_moveTallies 42 = .ok (.iload 5, 2) := by decide +kernel
theorem dX4_moveTallies_44 : decode cX4_moveTallies 44 = .ok (.iaload, 1) := by decide +kernel
theorem dX4_moveTallies_45 : decode cX4_moveTallies 45 = .ok (.aload_n 1, 1) := by decide +kernel
theorem dX4_moveTallies_46 : decode cX4_moveTallies 46 = .ok (.getfield 206, 3) := by decide +kernel
theorem dX4_moveTallies_49 : decode cX4_moveTallies 49 = .ok (.iload 5, 2) := by decide +kernel
theorem dX4_moveTallies_51 : decode cX4_moveTallies 51 = .ok (.iaload, 1) := by decide +kernel
theorem dX4_moveTallies_52 : decode cX4_moveTallies 52 = .ok (.invokevirtual 242, 3) := by decide +kernel
theorem dX4_moveTallies_55 : decode cX4_moveTallies 55 = .ok (.aload_n 1, 1) := by decide +kernel
theorem dX4_moveTallies_56 : decode cX4_moveTallies 56 = .ok (.iload 5, 2) := by decide +kernel
theorem dX4_moveTallies_58 : decode cX4_moveTallies 58 = .ok (.invokevirtual 270, 3) := by decide +kernel
theorem dX4_moveTallies_61 : decode cX4_moveTallies 61 = .ok (.iinc 5 1, 3) := by decide +kernel
theorem dX4_moveTallies_64 : decode cX4_moveTallies 64 = .ok (.goto (-58), 3) := by decide +kernel
theorem dX4_moveTallies_67 : decode cX4_moveTallies 67 = .ok (.iload 4, 2) := by decide +kernel
theorem dX4_moveTallies_69 : decode cX4_moveTallies 69 = .ok (.ireturn, 1) := by decide +kernel
set_option maxRecDepth 20000 in
theorem ggX4_startAgain_X4_isReadyToCommit : GoodIn wsX4_startAgain wsX4_isReadyToCommit := goodIn_r _ [14, 2, 15, 68, 69, 70, 71, 72, 73, 74, 75, 76, 77, 78, 79, 80, 81] (by decide +kernel) (by decide +kernel)
set_option maxRecDepth 20000 in
theorem gX4_startAgain_X4_isReadyToCommit : GoodIn wsX4_startAgain (wsV RX4 144 RX4 yX4_isReadyToCommit wsX4_isReadyToCommit) := goodIn_app (goodIn_of _ (by decide +kernel)) ggX4_startAgain_X4_isReadyToCommit
set_option maxRecDepth 20000 in
theorem ggX4_startAgain_X4_commitSealed : GoodIn wsX4_startAgain wsX4_commitSealed := goodIn_r _ [19, 2, 5, 20, 21, 22, 23, 13, 24, 25, 26, 27, 28, 29, 30, 1, 31, 32, 33, 34, 35, 36, 37, 38, 39, 40, 41, 42, 43, 44, 68, 69, 70, 71, 72, 73, 74, 75, 76, 77, 78, 79, 80, 81, 82, 83] (by decide +kernel) (by decide +kernel)
set_option maxRecDepth 20000 in
theorem gX4_startAgain_X4_commitSealed : GoodIn wsX4_startAgain (wsV RX4 149 RX4 yX4_commitSealed wsX4_commitSealed) := goodIn_app (goodIn_of _ (by decide +kernel)) ggX4_startAgain_X4_commitSealed
set_option maxRecDepth 20000 in
theorem ggX4_startAgain_X3_clearAll : GoodIn wsX4_startAgain wsX3_clearAll := goodIn_r _ [48, 49, 42, 43, 37, 44, 39, 40, 82, 83] (by decide +kernel) (by decide +kernel)
set_option maxRecDepth 20000 in
theorem gX4_startAgain_X3_clearAll : GoodIn wsX4_startAgain (wsV RX4 273 RX3 yX3_clearAll wsX3_clearAll) := goodIn_app (goodIn_of _ (by decide +kernel)) ggX4_startAgain_X3_clearAll
set_option maxRecDepth 20000 in
theorem ggX4_startAgain_X0_clearAll : GoodIn wsX4_startAgain wsX0_clearAll := goodIn_r _ [54, 55, 56, 84, 85, 86] (by decide +kernel) (by decide +kernel)
set_option maxRecDepth 20000 in
theorem gX4_startAgain_X0_clearAll : GoodIn wsX4_startAgain (wsV RX4 276 RX0 yX0_clearAll wsX0_clearAll) := goodIn_app (goodIn_of _ (by decide +kernel)) ggX4_startAgain_X0_clearAll
set_option maxRecDepth 20000 in
theorem ggX4_startAgain_X2_returnToKept : GoodIn wsX4_startAgain wsX2_returnToKept := goodIn_r _ [61, 62, 63, 87, 88, 89, 90] (by decide +kernel) (by decide +kernel)
set_option maxRecDepth 20000 in
theorem gX4_startAgain_X2_returnToKept : GoodIn wsX4_startAgain (wsV RX4 277 RX2 yX2_returnToKept wsX2_returnToKept) := goodIn_app (goodIn_of _ (by decide +kernel)) ggX4_startAgain_X2_returnToKept
set_option maxRecDepth 20000 in
theorem ggX4_startAgain_X3_copyAll : GoodIn wsX4_startAgain wsX3_copyAll := goodIn_r _ [67, 39, 40, 82, 83] (by decide +kernel) (by decide +kernel)
set_option maxRecDepth 20000 in
theorem gX4_startAgain_X3_copyAll : GoodIn wsX4_startAgain (wsV RX4 263 RX3 yX3_copyAll wsX3_copyAll) := goodIn_app (goodIn_of _ (by decide +kernel)) ggX4_startAgain_X3_copyAll
theorem dX4_startAgain_0 : decode cX4_startAgain 0 = .ok (.iconst 0, 1) := by decide +kernel
theorem dX4_startAgain_1 : decode cX4_startAgain 1 = .ok (.istore_n 2, 1) := by decide +kernel
theorem dX4_startAgain_2 : decode cX4_startAgain 2 = .ok (.iload_n 2, 1) := by decide +kernel
theorem dX4_startAgain_3 : decode cX4_startAgain 3 = .ok (.aload_n 0, 1) := by decide +kernel
theorem dX4_startAgain_4 : decode cX4_startAgain 4 = .ok (.getfield 56, 3) := by decide +kernel
theorem dX4_startAgain_7 : decode cX4_startAgain 7 = .ok (.if_icmp .ge 30, 3) := by decide +kernel
theorem dX4_startAgain_10 : decode cX4_startAgain 10 = .ok (.aload_n 0, 1) := by decide +kernel
theorem dX4_startAgain_11 : decode cX4_startAgain 11 = .ok (.iload_n 2, 1) := by decide +kernel
theorem dX4_startAgain_12 : decode cX4_startAgain 12 = .ok (.invokevirtual 144, 3) := by decide +kernel
theorem dX4_startAgain_15 : decode cX4_startAgain 15 = .ok (.ifCond .eq 9, 3) := by decide +kernel
theorem dX4_startAgain_18 : decode cX4_startAgain 18 = .ok (.aload_n 0, 1) := by decide +kernel
theorem dX4_startAgain_19 : decode cX4_startAgain 19 = .ok (.iload_n 2, 1) := by decide +kernel
theorem dX4_startAgain_20 : decode cX4_startAgain 20 = .ok (.invokevirtual 149, 3) := by decide +kernel
theorem dX4_startAgain_23 : decode cX4_startAgain 23 = .ok (.pop, 1) := by decide +kernel
theorem dX4_startAgain_24 : decode cX4_startAgain 24 = .ok (.aload_n 0, 1) := by decide +kernel
theorem dX4_startAgain_25 : decode cX4_startAgain 25 = .ok (.getfield 52, 3) := by decide +kernel
theorem dX4_startAgain_28 : decode cX4_startAgain 28 = .ok (.iload_n 2, 1) := by decide +kernel
theorem dX4_startAgain_29 : decode cX4_startAgain 29 = .ok (.iconst (-1), 1) := by decide +kernel
theorem dX4_startAgain_30 : decode cX4_startAgain 30 = .ok (.iastore, 1) := by decide +kernel
theorem dX4_startAgain_31 : decode cX4_startAgain 31 = .ok (.iinc 2 1, 3) := by decide +kernel
theorem dX4_startAgain_34 : decode cX4_startAgain 34 = .ok (.goto (-32), 3) := by decide +kernel
theorem dX4_startAgain_37 : decode cX4_startAgain 37 = .ok (.aload_n 0, 1) := by decide +kernel
theorem dX4_startAgain_38 : decode cX4_startAgain 38 = .ok (.iconst (-1), 1) := by decide +kernel
theorem dX4_startAgain_39 : decode cX4_startAgain 39 = .ok (.putfield 63, 3) := by decide +kernel
theorem dX4_startAgain_42 : decode cX4_startAgain 42 = .ok (.aload_n 0, 1) := by decide +kernel
theorem dX4_startAgain_43 : decode cX4_startAgain 43 = .ok (.getfield 37, 3) := by decide +kernel
theorem dX4_startAgain_46 : decode cX4_startAgain 46 = .ok (.invokevirtual 273, 3) := by decide +kernel
theorem dX4_startAgain_49 : decode cX4_startAgain 49 = .ok (.aload_n 0, 1) := by decide +kernel
theorem dX4_startAgain_50 : decode cX4_startAgain 50 = .ok (.getfield 40, 3) := by decide +kernel
theorem dX4_startAgain_53 : decode cX4_startAgain 53 = .ok (.invokevirtual 273, 3) := by decide +kernel
theorem dX4_startAgain_56 : decode cX4_startAgain 56 = .ok (.aload_n 0, 1) := by decide +kernel
theorem dX4_startAgain_57 : decode cX4_startAgain 57 = .ok (.getfield 26, 3) := by decide +kernel
theorem dX4_startAgain_60 : decode cX4_startAgain 60 = .ok (.invokevirtual 276, 3) := by decide +kernel
theorem dX4_startAgain_63 : decode cX4_startAgain 63 = .ok (.aload_n 0, 1) := by decide +kernel
theorem dX4_startAgain_64 : decode cX4_startAgain 64 = .ok (.getfield 19, 3) := by decide +kernel
theorem dX4_startAgain_67 : decode cX4_startAgain 67 = .ok (.invokevirtual 277, 3) := by decide +kernel
theorem dX4_startAgain_70 : decode cX4_startAgain 70 = .ok (.aload_n 0, 1) := by decide +kernel
theorem dX4_startAgain_71 : decode cX4_startAgain 71 = .ok (.getfield 33, 3) := by decide +kernel
theorem dX4_startAgain_74 : decode cX4_startAgain 74 = .ok (.aload_n 0, 1) := by decide +kernel
theorem dX4_startAgain_75 : decode cX4_startAgain 75 = .ok (.getfield 46, 3) := by decide +kernel
theorem dX4_startAgain_78 : decode cX4_startAgain 78 = .ok (.invokevirtual 263, 3) := by decide +kernel
theorem dX4_startAgain_81 : decode cX4_startAgain 81 = .ok (.aload_n 0, 1) := by decide +kernel
theorem dX4_startAgain_82 : decode cX4_startAgain 82 = .ok (.iload_n 1, 1) := by decide +kernel
theorem dX4_startAgain_83 : decode cX4_startAgain 83 = .ok (.putfield 56, 3) := by decide +kernel
theorem dX4_startAgain_86 : decode cX4_startAgain 86 = .ok (.return_, 1) := by decide +kernel
