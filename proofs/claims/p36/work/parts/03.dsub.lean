theorem dX0_init_0 : decode cX0_init 0 = .ok (.aload_n 0, 1) := by decide +kernel
theorem dX0_init_1 : decode cX0_init 1 = .ok (.invokespecial 3, 3) := by decide +kernel
theorem dX0_init_4 : decode cX0_init 4 = .ok (.aload_n 0, 1) := by decide +kernel
theorem dX0_init_5 : decode cX0_init 5 = .ok (.sipush 128, 3) := by decide +kernel
theorem dX0_init_8 : decode cX0_init 8 = .ok (.newarray .int, 2) := by decide +kernel
theorem dX0_init_10 : decode cX0_init 10 = .ok (.putfield 9, 3) := by decide +kernel
theorem dX0_init_13 : decode cX0_init 13 = .ok (.aload_n 0, 1) := by decide +kernel
theorem dX0_init_14 : decode cX0_init 14 = .ok (.bipush 16, 2) := by decide +kernel
theorem dX0_init_16 : decode cX0_init 16 = .ok (.newarray .int, 2) := by decide +kernel
theorem dX0_init_18 : decode cX0_init 18 = .ok (.putfield 15, 3) := by decide +kernel
theorem dX0_init_21 : decode cX0_init 21 = .ok (.aload_n 0, 1) := by decide +kernel
theorem dX0_init_22 : decode cX0_init 22 = .ok (.bipush 16, 2) := by decide +kernel
theorem dX0_init_24 : decode cX0_init 24 = .ok (.newarray .boolean, 2) := by decide +kernel
theorem dX0_init_26 : decode cX0_init 26 = .ok (.putfield 18, 3) := by decide +kernel
theorem dX0_init_29 : decode cX0_init 29 = .ok (.return_, 1) := by decide +kernel
theorem dX0_channelOf_0 : decode cX0_channelOf 0 = .ok (.iload_n 0, 1) := by decide +kernel
theorem dX0_channelOf_1 : decode cX0_channelOf 1 = .ok (.iconst 4, 1) := by decide +kernel
theorem dX0_channelOf_2 : decode cX0_channelOf 2 = .ok (.imul, 1) := by decide +kernel
theorem dX0_channelOf_3 : decode cX0_channelOf 3 = .ok (.iload_n 1, 1) := by decide +kernel
theorem dX0_channelOf_4 : decode cX0_channelOf 4 = .ok (.iadd, 1) := by decide +kernel
theorem dX0_channelOf_5 : decode cX0_channelOf 5 = .ok (.ireturn, 1) := by decide +kernel
set_option maxRecDepth 20000 in
theorem ggX0_size_X0_channelOf : GoodIn wsX0_size wsX0_channelOf := goodIn_r _ [5] (by decide +kernel) (by decide +kernel)
set_option maxRecDepth 20000 in
theorem gX0_size_X0_channelOf : GoodIn wsX0_size (va_wsS RX0 22 yX0_channelOf wsX0_channelOf) := goodIn_app (goodIn_of _ (by decide +kernel)) ggX0_size_X0_channelOf
theorem dX0_size_0 : decode cX0_size 0 = .ok (.aload_n 0, 1) := by decide +kernel
theorem dX0_size_1 : decode cX0_size 1 = .ok (.getfield 15, 3) := by decide +kernel
theorem dX0_size_4 : decode cX0_size 4 = .ok (.iload_n 1, 1) := by decide +kernel
theorem dX0_size_5 : decode cX0_size 5 = .ok (.iload_n 2, 1) := by decide +kernel
theorem dX0_size_6 : decode cX0_size 6 = .ok (.invokestatic 22, 3) := by decide +kernel
theorem dX0_size_9 : decode cX0_size 9 = .ok (.iaload, 1) := by decide +kernel
theorem dX0_size_10 : decode cX0_size 10 = .ok (.ireturn, 1) := by decide +kernel
set_option maxRecDepth 20000 in
theorem ggX0_get_X0_channelOf : GoodIn wsX0_get wsX0_channelOf := goodIn_r _ [5] (by decide +kernel) (by decide +kernel)
set_option maxRecDepth 20000 in
theorem gX0_get_X0_channelOf : GoodIn wsX0_get (va_wsS RX0 22 yX0_channelOf wsX0_channelOf) := goodIn_app (goodIn_of _ (by decide +kernel)) ggX0_get_X0_channelOf
theorem dX0_get_0 : decode cX0_get 0 = .ok (.aload_n 0, 1) := by decide +kernel
theorem dX0_get_1 : decode cX0_get 1 = .ok (.getfield 9, 3) := by decide +kernel
theorem dX0_get_4 : decode cX0_get 4 = .ok (.iload_n 1, 1) := by decide +kernel
theorem dX0_get_5 : decode cX0_get 5 = .ok (.iload_n 2, 1) := by decide +kernel
theorem dX0_get_6 : decode cX0_get 6 = .ok (.invokestatic 22, 3) := by decide +kernel
theorem dX0_get_9 : decode cX0_get 9 = .ok (.bipush 8, 2) := by decide +kernel
theorem dX0_get_11 : decode cX0_get 11 = .ok (.imul, 1) := by decide +kernel
theorem dX0_get_12 : decode cX0_get 12 = .ok (.iload_n 3, 1) := by decide +kernel
theorem dX0_get_13 : decode cX0_get 13 = .ok (.iadd, 1) := by decide +kernel
theorem dX0_get_14 : decode cX0_get 14 = .ok (.iaload, 1) := by decide +kernel
theorem dX0_get_15 : decode cX0_get 15 = .ok (.ireturn, 1) := by decide +kernel
set_option maxRecDepth 20000 in
theorem ggX0_hasRoom_X0_size : GoodIn wsX0_hasRoom wsX0_size := goodIn_r _ [5, 6, 7, 8, 4, 9, 10, 11, 12] (by decide +kernel) (by decide +kernel)
set_option maxRecDepth 20000 in
theorem gX0_hasRoom_X0_size : GoodIn wsX0_hasRoom (wsV RX0 26 RX0 yX0_size wsX0_size) := goodIn_app (goodIn_of _ (by decide +kernel)) ggX0_hasRoom_X0_size
theorem dX0_hasRoom_0 : decode cX0_hasRoom 0 = .ok (.aload_n 0, 1) := by decide +kernel
theorem dX0_hasRoom_1 : decode cX0_hasRoom 1 = .ok (.iload_n 1, 1) := by decide +kernel
theorem dX0_hasRoom_2 : decode cX0_hasRoom 2 = .ok (.iload_n 2, 1) := by decide +kernel
theorem dX0_hasRoom_3 : decode cX0_hasRoom 3 = .ok (.invokevirtual 26, 3) := by decide +kernel
theorem dX0_hasRoom_6 : decode cX0_hasRoom 6 = .ok (.bipush 8, 2) := by decide +kernel
theorem dX0_hasRoom_8 : decode cX0_hasRoom 8 = .ok (.if_icmp .ge 7, 3) := by decide +kernel
theorem dX0_hasRoom_11 : decode cX0_hasRoom 11 = .ok (.iconst 1, 1) := by decide +kernel
theorem dX0_hasRoom_12 : decode cX0_hasRoom 12 = .ok (.goto 4, 3) := by decide +kernel
theorem dX0_hasRoom_15 : decode cX0_hasRoom 15 = .ok (.iconst 0, 1) := by decide +kernel
theorem dX0_hasRoom_16 : decode cX0_hasRoom 16 = .ok (.ireturn, 1) := by decide +kernel
set_option maxRecDepth 20000 in
theorem ggX0_isShut_X0_channelOf : GoodIn wsX0_isShut wsX0_channelOf := goodIn_r _ [5] (by decide +kernel) (by decide +kernel)
set_option maxRecDepth 20000 in
theorem gX0_isShut_X0_channelOf : GoodIn wsX0_isShut (va_wsS RX0 22 yX0_channelOf wsX0_channelOf) := goodIn_app (goodIn_of _ (by decide +kernel)) ggX0_isShut_X0_channelOf
theorem dX0_isShut_0 : decode cX0_isShut 0 = .ok (.aload_n 0, 1) := by decide +kernel
theorem dX0_isShut_1 : decode cX0_isShut 1 = .ok (.getfield 18, 3) := by decide +kernel
theorem dX0_isShut_4 : decode cX0_isShut 4 = .ok (.iload_n 1, 1) := by decide +kernel
theorem dX0_isShut_5 : decode cX0_isShut 5 = .ok (.iload_n 2, 1) := by decide +kernel
theorem dX0_isShut_6 : decode cX0_isShut 6 = .ok (.invokestatic 22, 3) := by decide +kernel
theorem dX0_isShut_9 : decode cX0_isShut 9 = .ok (.baload, 1) := by decide +kernel
theorem dX0_isShut_10 : decode cX0_isShut 10 = .ok (.ireturn, 1) := by decide +kernel
set_option maxRecDepth 20000 in
theorem ggX0_canGive_X0_size : GoodIn wsX0_canGive wsX0_size := goodIn_r _ [5, 6, 7, 8, 4, 9, 15, 16, 17] (by decide +kernel) (by decide +kernel)
set_option maxRecDepth 20000 in
theorem gX0_canGive_X0_size : GoodIn wsX0_canGive (wsV RX0 26 RX0 yX0_size wsX0_size) := goodIn_app (goodIn_of _ (by decide +kernel)) ggX0_canGive_X0_size
set_option maxRecDepth 20000 in
theorem ggX0_canGive_X0_isShut : GoodIn wsX0_canGive wsX0_isShut := goodIn_r _ [13, 14, 7, 8, 4, 9, 15, 16, 17] (by decide +kernel) (by decide +kernel)
set_option maxRecDepth 20000 in
theorem gX0_canGive_X0_isShut : GoodIn wsX0_canGive (wsV RX0 29 RX0 yX0_isShut wsX0_isShut) := goodIn_app (goodIn_of _ (by decide +kernel)) ggX0_canGive_X0_isShut
theorem dX0_canGive_0 : decode cX0_canGive 0 = .ok (.aload_n 0, 1) := by decide +kernel
theorem dX0_canGive_1 : decode cX0_canGive 1 = .ok (.iload_n 1, 1) := by decide +kernel
theorem dX0_canGive_2 : decode cX0_canGive 2 = .ok (.iload_n 2, 1) := by decide +kernel
theorem dX0_canGive_3 : decode cX0_canGive 3 = .ok (.invokevirtual 26, 3) := by decide +kernel
theorem dX0_canGive_6 : decode cX0_canGive 6 = .ok (.ifCond .le 16, 3) := by decide +kernel
theorem dX0_canGive_9 : decode cX0_canGive 9 = .ok (.aload_n 0, 1) := by decide +kernel
theorem dX0_canGive_10 : decode cX0_canGive 10 = .ok (.iload_n 1, 1) := by decide +kernel
theorem dX0_canGive_11 : decode cX0_canGive 11 = .ok (.iload_n 2, 1) := by decide +kernel
theorem dX0_canGive_12 : decode cX0_canGive 12 = .ok (.invokevirtual 29, 3) := by decide +kernel
theorem dX0_canGive_15 : decode cX0_canGive 15 = .ok (.ifCond .ne 7, 3) := by decide +kernel
theorem dX0_canGive_18 : decode cX0_canGive 18 = .ok (.iconst 1, 1) := by decide +kernel
theorem dX0_canGive_19 : decode cX0_canGive 19 = .ok (.goto 4, 3) := by decide +kernel
theorem dX0_canGive_22 : decode cX0_canGive 22 = .ok (.iconst 0, 1) := by decide +kernel
theorem dX0_canGive_23 : decode cX0_canGive 23 = .ok (.ireturn, 1) := by decide +kernel
set_option maxRecDepth 20000 in
theorem ggX0_put_X0_channelOf : GoodIn wsX0_put wsX0_channelOf := goodIn_r _ [6] (by decide +kernel) (by decide +kernel)
set_option maxRecDepth 20000 in
theorem gX0_put_X0_channelOf : GoodIn wsX0_put (va_wsS RX0 22 yX0_channelOf wsX0_channelOf) := goodIn_app (goodIn_of _ (by decide +kernel)) ggX0_put_X0_channelOf
theorem dX0_put_0 : decode cX0_put 0 = .ok (.iload_n 1, 1) := by decide +kernel
theorem dX0_put_1 : decode cX0_put 1 = .ok (.iload_n 2, 1) := by decide +kernel
theorem dX0_put_2 : decode cX0_put 2 = .ok (.invokestatic 22, 3) := by decide +kernel
theorem dX0_put_5 : decode cX0_put 5 = .ok (.istore 4, 2) := by decide +kernel
theorem dX0_put_7 : decode cX0_put 7 = .ok (.aload_n 0, 1) := by decide +kernel
theorem dX0_put_8 : decode cX0_put 8 = .ok (.getfield 9, 3) := by decide +kernel
theorem dX0_put_11 : decode cX0_put 11 = .ok (.iload 4, 2) := by decide +kernel
theorem dX0_put_13 : decode cX0_put 13 = .ok (.bipush 8, 2) := by decide +kernel
theorem dX0_put_15 : decode cX0_put 15 = .ok (.imul, 1) := by decide +kernel
theorem dX0_put_16 : decode cX0_put 16 = .ok (.aload_n 0, 1) := by decide +kernel
theorem dX0_put_17 : decode cX0_put 17 = .ok (.getfield 15, 3) := by decide +kernel
theorem dX0_put_20 : decode cX0_put 20 = .ok (.iload 4, 2) := by decide +kernel
theorem dX0_put_22 : decode cX0_put 22 = .ok (.iaload, 1) := by decide +kernel
theorem dX0_put_23 : decode cX0_put 23 = .ok (.iadd, 1) := by decide +kernel
theorem dX0_put_24 : decode cX0_put 24 = .ok (.iload_n 3, 1) := by decide +kernel
theorem dX0_put_25 : decode cX0_put 25 = .ok (.iastore, 1) := by decide +kernel
theorem dX0_put_26 : decode cX0_put 26 = .ok (.aload_n 0, 1) := by decide +kernel
theorem dX0_put_27 : decode cX0_put 27 = .ok (.getfield 15, 3) := by decide +kernel
theorem dX0_put_30 : decode cX0_put 30 = .ok (.iload 4, 2) := by decide +kernel
theorem dX0_put_32 : decode cX0_put 32 = .ok (.dup2, 1) := by decide +kernel
theorem dX0_put_33 : decode cX0_put 33 = .ok (.iaload, 1) := by decide +kernel
theorem dX0_put_34 : decode cX0_put 34 = .ok (.iconst 1, 1) := by decide +kernel
theorem dX0_put_35 : decode cX0_put 35 = .ok (.iadd, 1) := by decide +kernel
theorem dX0_put_36 : decode cX0_put 36 = .ok (.iastore, 1) := by decide +kernel
theorem dX0_put_37 : decode cX0_put 37 = .ok (.return_, 1) := by decide +kernel
set_option maxRecDepth 20000 in
theorem ggX0_removeFirst_X0_channelOf : GoodIn wsX0_removeFirst wsX0_channelOf := goodIn_r _ [6] (by decide +kernel) (by decide +kernel)
set_option maxRecDepth 20000 in
theorem gX0_removeFirst_X0_channelOf : GoodIn wsX0_removeFirst (va_wsS RX0 22 yX0_channelOf wsX0_channelOf) := goodIn_app (goodIn_of _ (by decide +kernel)) ggX0_removeFirst_X0_channelOf
theorem dX0_removeFirst_0 : decode cX0_removeFirst 0 = .ok (.iload_n 1, 1) := by decide +kernel
theorem dX0_removeFirst_1 : decode cX0_removeFirst 1 = .ok (.iload_n 2, 1) := by decide +kernel
theorem dX0_removeFirst_2 : decode cX0_removeFirst 2 = .ok (.invokestatic 22, 3) := by decide +kernel
theorem dX0_removeFirst_5 : decode cX0_removeFirst 5 = .ok (.istore_n 3, 1) := by decide +kernel
theorem dX0_removeFirst_6 : decode cX0_removeFirst 6 = .ok (.iload_n 3, 1) := by decide +kernel
theorem dX0_removeFirst_7 : decode cX0_removeFirst 7 = .ok (.bipush 8, 2) := by decide +kernel
theorem dX0_removeFirst_9 : decode cX0_removeFirst 9 = .ok (.imul, 1) := by decide +kernel
theorem dX0_removeFirst_10 : decode cX0_removeFirst 10 = .ok (.istore 4, 2) := by decide +kernel
theorem dX0_removeFirst_12 : decode cX0_removeFirst 12 = .ok (.aload_n 0, 1) := by decide +kernel
theorem dX0_removeFirst_13 : decode cX0_removeFirst 13 = .ok (.getfield 9, 3) := by decide +kernel
theorem dX0_removeFirst_16 : decode cX0_removeFirst 16 = .ok (.iload 4, 2) := by decide +kernel
theorem dX0_removeFirst_18 : decode cX0_removeFirst 18 = .ok (.iaload, 1) := by decide +kernel
theorem dX0_removeFirst_19 : decode cX0_removeFirst 19 = .ok (.istore 5, 2) := by decide +kernel
theorem dX0_removeFirst_21 : decode cX0_removeFirst 21 = .ok (.iconst 1, 1) := by decide +kernel
theorem dX0_removeFirst_22 : decode cX0_removeFirst 22 = .ok (.istore 6, 2) := by decide +kernel
theorem dX0_removeFirst_24 : decode cX0_removeFirst 24 = .ok (.iload 6, 2) := by decide +kernel
theorem dX0_removeFirst_26 : decode cX0_removeFirst 26 = .ok (.aload_n 0, 1) := by decide +kernel
theorem dX0_removeFirst_27 : decode cX0_removeFirst 27 = .ok (.getfield 15, 3) := by decide +kernel
theorem dX0_removeFirst_30 : decode cX0_removeFirst 30 = .ok (.iload_n 3, 1) := by decide +kernel
theorem dX0_removeFirst_31 : decode cX0_removeFirst 31 = .ok (.iaload, 1) := by decide +kernel
theorem dX0_removeFirst_32 : decode cX0_removeFirst 32 = .ok (.if_icmp .ge 31, 3) := by decide +kernel
theorem dX0_removeFirst_35 : decode cX0_removeFirst 35 = .ok (.aload_n 0, 1) := by decide +kernel
theorem dX0_removeFirst_36 : decode cX0_removeFirst 36 = .ok (.getfield 9, 3) := by decide +kernel
theorem dX0_removeFirst_39 : decode cX0_removeFirst 39 = .ok (.iload 4, 2) := by decide +kernel
theorem dX0_removeFirst_41 : decode cX0_removeFirst 41 = .ok (.iload 6, 2) := by decide +kernel
theorem dX0_removeFirst_43 : decode cX0_removeFirst 43 = .ok (.iadd, 1) := by decide +kernel
theorem dX0_removeFirst_44 : decode cX0_removeFirst 44 = .ok (.iconst 1, 1) := by decide +kernel
theorem dX0_removeFirst_45 : decode cX0_removeFirst 45 = .ok (.isub, 1) := by decide +kernel
theorem dX0_removeFirst_46 : decode cX0_removeFirst 46 = .ok (.aload_n 0, 1) := by decide +kernel
theorem dX0_removeFirst_47 : decode cX0_removeFirst 47 = .ok (.getfield 9, 3) := by decide +kernel
theorem dX0_removeFirst_50 : decode cX0_removeFirst 50 = .ok (.iload 4, 2) := by decide +kernel
theorem dX0_removeFirst_52 : decode cX0_removeFirst 52 = .ok (.iload 6, 2) := by decide +kernel
theorem dX0_removeFirst_54 : decode cX0_removeFirst 54 = .ok (.iadd, 1) := by decide +kernel
theorem dX0_removeFirst_55 : decode cX0_removeFirst 55 = .ok (.iaload, 1) := by decide +kernel
theorem dX0_removeFirst_56 : decode cX0_removeFirst 56 = .ok (.iastore, 1) := by decide +kernel
theorem dX0_removeFirst_57 : decode cX0_removeFirst 57 = .ok (.iinc 6 1, 3) := by decide +kernel
theorem dX0_removeFirst_60 : decode cX0_removeFirst 60 = .ok (.goto (-36), 3) := by decide +kernel
theorem dX0_removeFirst_63 : decode cX0_removeFirst 63 = .ok (.aload_n 0, 1) := by decide +kernel
theorem dX0_removeFirst_64 : decode cX0_removeFirst 64 = .ok (.getfield 15, 3) := by decide +kernel
theorem dX0_removeFirst_67 : decode cX0_removeFirst 67 = .ok (.iload_n 3, 1) := by decide +kernel
theorem dX0_removeFirst_68 : decode cX0_removeFirst 68 = .ok (.dup2, 1) := by decide +kernel
theorem dX0_removeFirst_69 : decode cX0_removeFirst 69 = .ok (.iaload, 1) := by decide +kernel
theorem dX0_removeFirst_70 : decode cX0_removeFirst 70 = .ok (.iconst 1, 1) := by decide +kernel
theorem dX0_removeFirst_71 : decode cX0_removeFirst 71 = .ok (.isub, 1) := by decide +kernel
theorem dX0_removeFirst_72 : decode cX0_removeFirst 72 = .ok (.iastore, 1) := by decide +kernel
theorem dX0_removeFirst_73 : decode cX0_removeFirst 73 = .ok (.iload 5, 2) := by decide +kernel
theorem dX0_removeFirst_75 : decode cX0_removeFirst 75 = .ok (.ireturn, 1) := by decide +kernel
set_option maxRecDepth 20000 in
theorem ggX0_block_X0_channelOf : GoodIn wsX0_block wsX0_channelOf := goodIn_r _ [5] (by decide +kernel) (by decide +kernel)
set_option maxRecDepth 20000 in
theorem gX0_block_X0_channelOf : GoodIn wsX0_block (va_wsS RX0 22 yX0_channelOf wsX0_channelOf) := goodIn_app (goodIn_of _ (by decide +kernel)) ggX0_block_X0_channelOf
theorem dX0_block_0 : decode cX0_block 0 = .ok (.aload_n 0, 1) := by decide +kernel
theorem dX0_block_1 : decode cX0_block 1 = .ok (.getfield 18, 3) := by decide +kernel
theorem dX0_block_4 : decode cX0_block 4 = .ok (.iload_n 1, 1) := by decide +kernel
theorem dX0_block_5 : decode cX0_block 5 = .ok (.iload_n 2, 1) := by decide +kernel
theorem dX0_block_6 : decode cX0_block 6 = .ok (.invokestatic 22, 3) := by decide +kernel
theorem dX0_block_9 : decode cX0_block 9 = .ok (.iconst 1, 1) := by decide +kernel
theorem dX0_block_10 : decode cX0_block 10 = .ok (.bastore, 1) := by decide +kernel
theorem dX0_block_11 : decode cX0_block 11 = .ok (.return_, 1) := by decide +kernel
set_option maxRecDepth 20000 in
theorem ggX0_areAllBlocked_X0_isShut : GoodIn wsX0_areAllBlocked wsX0_isShut := goodIn_r _ [5, 6, 7, 8, 4, 9, 10, 11, 12] (by decide +kernel) (by decide +kernel)
set_option maxRecDepth 20000 in
theorem gX0_areAllBlocked_X0_isShut : GoodIn wsX0_areAllBlocked (wsV RX0 29 RX0 yX0_isShut wsX0_isShut) := goodIn_app (goodIn_of _ (by decide +kernel)) ggX0_areAllBlocked_X0_isShut
theorem dX0_areAllBlocked_0 : decode cX0_areAllBlocked 0 = .ok (.iconst 0, 1) := by decide +kernel
theorem dX0_areAllBlocked_1 : decode cX0_areAllBlocked 1 = .ok (.istore_n 2, 1) := by decide +kernel
theorem dX0_areAllBlocked_2 : decode cX0_areAllBlocked 2 = .ok (.iload_n 2, 1) := by decide +kernel
theorem dX0_areAllBlocked_3 : decode cX0_areAllBlocked 3 = .ok (.iconst 4, 1) := by decide +kernel
theorem dX0_areAllBlocked_4 : decode cX0_areAllBlocked 4 = .ok (.if_icmp .ge 20, 3) := by decide +kernel
theorem dX0_areAllBlocked_7 : decode cX0_areAllBlocked 7 = .ok (.aload_n 0, 1) := by decide +kernel
theorem dX0_areAllBlocked_8 : decode cX0_areAllBlocked 8 = .ok (.iload_n 2, 1) := by decide +kernel
theorem dX0_areAllBlocked_9 : decode cX0_areAllBlocked 9 = .ok (.iload_n 1, 1) := by decide +kernel
theorem dX0_areAllBlocked_10 : decode cX0_areAllBlocked 10 = .ok (.invokevirtual 29, 3) := by decide +kernel
theorem dX0_areAllBlocked_13 : decode cX0_areAllBlocked 13 = .ok (.ifCond .ne 5, 3) := by decide +kernel
theorem dX0_areAllBlocked_16 : decode cX0_areAllBlocked 16 = .ok (.iconst 0, 1) := by decide +kernel
theorem dX0_areAllBlocked_17 : decode cX0_areAllBlocked 17 = .ok (.ireturn, 1) := by decide +kernel
theorem dX0_areAllBlocked_18 : decode cX0_areAllBlocked 18 = .ok (.iinc 2 1, 3) := by decide +kernel
theorem dX0_areAllBlocked_21 : decode cX0_areAllBlocked 21 = .ok (.goto (-19), 3) := by decide +kernel
theorem dX0_areAllBlocked_24 : decode cX0_areAllBlocked 24 = .ok (.iconst 1, 1) := by decide +kernel
theorem dX0_areAllBlocked_25 : decode cX0_areAllBlocked 25 = .ok (.ireturn, 1) := by decide +kernel
set_option maxRecDepth 20000 in
theorem ggX0_unblockAll_X0_channelOf : GoodIn wsX0_unblockAll wsX0_channelOf := goodIn_r _ [5] (by decide +kernel) (by decide +kernel)
set_option maxRecDepth 20000 in
theorem gX0_unblockAll_X0_channelOf : GoodIn wsX0_unblockAll (va_wsS RX0 22 yX0_channelOf wsX0_channelOf) := goodIn_app (goodIn_of _ (by decide +kernel)) ggX0_unblockAll_X0_channelOf
theorem dX0_unblockAll_0 : decode cX0_unblockAll 0 = .ok (.iconst 0, 1) := by decide +kernel
theorem dX0_unblockAll_1 : decode cX0_unblockAll 1 = .ok (.istore_n 2, 1) := by decide +kernel
theorem dX0_unblockAll_2 : decode cX0_unblockAll 2 = .ok (.iload_n 2, 1) := by decide +kernel
theorem dX0_unblockAll_3 : decode cX0_unblockAll 3 = .ok (.iconst 4, 1) := by decide +kernel
theorem dX0_unblockAll_4 : decode cX0_unblockAll 4 = .ok (.if_icmp .ge 20, 3) := by decide +kernel
theorem dX0_unblockAll_7 : decode cX0_unblockAll 7 = .ok (.aload_n 0, 1) := by decide +kernel
theorem dX0_unblockAll_8 : decode cX0_unblockAll 8 = .ok (.getfield 18, 3) := by decide +kernel
theorem dX0_unblockAll_11 : decode cX0_unblockAll 11 = .ok (.iload_n 2, 1) := by decide +kernel
theorem dX0_unblockAll_12 : decode cX0_unblockAll 12 = .ok (.iload_n 1, 1) := by decide +kernel
theorem dX0_unblockAll_13 : decode cX0_unblockAll 13 = .ok (.invokestatic 22, 3) := by decide +kernel
theorem dX0_unblockAll_16 : decode cX0_unblockAll 16 = .ok (.iconst 0, 1) := by decide +kernel
theorem dX0_unblockAll_17 : decode cX0_unblockAll 17 = .ok (.bastore, 1) := by decide +kernel
theorem dX0_unblockAll_18 : decode cX0_unblockAll 18 = .ok (.iinc 2 1, 3) := by decide +kernel
theorem dX0_unblockAll_21 : decode cX0_unblockAll 21 = .ok (.goto (-19), 3) := by decide +kernel
theorem dX0_unblockAll_24 : decode cX0_unblockAll 24 = .ok (.return_, 1) := by decide +kernel
theorem dX0_clearAll_0 : decode cX0_clearAll 0 = .ok (.iconst 0, 1) := by decide +kernel
theorem dX0_clearAll_1 : decode cX0_clearAll 1 = .ok (.istore_n 1, 1) := by decide +kernel
theorem dX0_clearAll_2 : decode cX0_clearAll 2 = .ok (.iload_n 1, 1) := by decide +kernel
theorem dX0_clearAll_3 : decode cX0_clearAll 3 = .ok (.bipush 16, 2) := by decide +kernel
theorem dX0_clearAll_5 : decode cX0_clearAll 5 = .ok (.if_icmp .ge 23, 3) := by decide +kernel
theorem dX0_clearAll_8 : decode cX0_clearAll 8 = .ok (.aload_n 0, 1) := by decide +kernel
theorem dX0_clearAll_9 : decode cX0_clearAll 9 = .ok (.getfield 15, 3) := by decide +kernel
theorem dX0_clearAll_12 : decode cX0_clearAll 12 = .ok (.iload_n 1, 1) := by decide +kernel
theorem dX0_clearAll_13 : decode cX0_clearAll 13 = .ok (.iconst 0, 1) := by decide +kernel
theorem dX0_clearAll_14 : decode cX0_clearAll 14 = .ok (.iastore, 1) := by decide +kernel
theorem dX0_clearAll_15 : decode cX0_clearAll 15 = .ok (.aload_n 0, 1) := by decide +kernel
theorem dX0_clearAll_16 : decode cX0_clearAll 16 = .ok (.getfield 18, 3) := by decide +kernel
theorem dX0_clearAll_19 : decode cX0_clearAll 19 = .ok (.iload_n 1, 1) := by decide +kernel
theorem dX0_clearAll_20 : decode cX0_clearAll 20 = .ok (.iconst 0, 1) := by decide +kernel
theorem dX0_clearAll_21 : decode cX0_clearAll 21 = .ok (.bastore, 1) := by decide +kernel
theorem dX0_clearAll_22 : decode cX0_clearAll 22 = .ok (.iinc 1 1, 3) := by decide +kernel
theorem dX0_clearAll_25 : decode cX0_clearAll 25 = .ok (.goto (-23), 3) := by decide +kernel
theorem dX0_clearAll_28 : decode cX0_clearAll 28 = .ok (.return_, 1) := by decide +kernel
set_option maxRecDepth 20000 in
theorem ggX0_sumOfKey_X4_keyOf : GoodIn wsX0_sumOfKey wsX4_keyOf := goodIn_r _ [5] (by decide +kernel) (by decide +kernel)
set_option maxRecDepth 20000 in
theorem gX0_sumOfKey_X4_keyOf_n33 : GoodIn wsX0_sumOfKey (wsX4_keyOf) := ggX0_sumOfKey_X4_keyOf
set_option maxRecDepth 20000 in
theorem ggX0_sumOfKey_X4_valueOf : GoodIn wsX0_sumOfKey wsX4_valueOf := goodIn_r _ [7] (by decide +kernel) (by decide +kernel)
set_option maxRecDepth 20000 in
theorem gX0_sumOfKey_X4_valueOf_n37 : GoodIn wsX0_sumOfKey (wsX4_valueOf) := ggX0_sumOfKey_X4_valueOf
theorem dX0_sumOfKey_0 : decode cX0_sumOfKey 0 = .ok (.iconst 0, 1) := by decide +kernel
theorem dX0_sumOfKey_1 : decode cX0_sumOfKey 1 = .ok (.istore_n 2, 1) := by decide +kernel
theorem dX0_sumOfKey_2 : decode cX0_sumOfKey 2 = .ok (.iconst 0, 1) := by decide +kernel
theorem dX0_sumOfKey_3 : decode cX0_sumOfKey 3 = .ok (.istore_n 3, 1) := by decide +kernel
theorem dX0_sumOfKey_4 : decode cX0_sumOfKey 4 = .ok (.iload_n 3, 1) := by decide +kernel
theorem dX0_sumOfKey_5 : decode cX0_sumOfKey 5 = .ok (.bipush 16, 2) := by decide +kernel
theorem dX0_sumOfKey_7 : decode cX0_sumOfKey 7 = .ok (.if_icmp .ge 65, 3) := by decide +kernel
theorem dX0_sumOfKey_10 : decode cX0_sumOfKey 10 = .ok (.iconst 0, 1) := by decide +kernel
theorem dX0_sumOfKey_11 : decode cX0_sumOfKey 11 = .ok (.istore 4, 2) := by decide +kernel
theorem dX0_sumOfKey_13 : decode cX0_sumOfKey 13 = .ok (.iload 4, 2) := by decide +kernel
theorem dX0_sumOfKey_15 : decode cX0_sumOfKey 15 = .ok (.aload_n 0, 1) := by decide +kernel
theorem dX0_sumOfKey_16 : decode cX0_sumOfKey 16 = .ok (.getfield 15, 3) := by decide +kernel
theorem dX0_sumOfKey_19 : decode cX0_sumOfKey 19 = .ok (.iload_n 3, 1) := by decide +kernel
theorem dX0_sumOfKey_20 : decode cX0_sumOfKey 20 = .ok (.iaload, 1) := by decide +kernel
theorem dX0_sumOfKey_21 : decode cX0_sumOfKey 21 = .ok (.if_icmp .ge 45, 3) := by decide +kernel
theorem dX0_sumOfKey_24 : decode cX0_sumOfKey 24 = .ok (.aload_n 0, 1) := by decide +kernel
theorem dX0_sumOfKey_25 : decode cX0_sumOfKey 25 = .ok (.getfield 9, 3) := by decide +kernel
theorem dX0_sumOfKey_28 : decode cX0_sumOfKey 28 = .ok (.iload_n 3, 1) := by decide +kernel
theorem dX0_sumOfKey_29 : decode cX0_sumOfKey 29 = .ok (.bipush 8, 2) := by decide +kernel
theorem dX0_sumOfKey_31 : decode cX0_sumOfKey 31 = .ok (.imul, 1) := by decide +kernel
theorem dX0_sumOfKey_32 : decode cX0_sumOfKey 32 = .ok (.iload 4, 2) := by decide +kernel
theorem dX0_sumOfKey_34 : decode cX0_sumOfKey 34 = .ok (.iadd, 1) := by decide +kernel
theorem dX0_sumOfKey_35 : decode cX0_sumOfKey 35 = .ok (.iaload, 1) := by decide +kernel
theorem dX0_sumOfKey_36 : decode cX0_sumOfKey 36 = .ok (.istore 5, 2) := by decide +kernel
theorem dX0_sumOfKey_38 : decode cX0_sumOfKey 38 = .ok (.iload 5, 2) := by decide +kernel
theorem dX0_sumOfKey_40 : decode cX0_sumOfKey 40 = .ok (.ifCond .le 20, 3) := by decide +kernel
theorem dX0_sumOfKey_43 : decode cX0_sumOfKey 43 = .ok (.iload 5, 2) := by decide +kernel
theorem dX0_sumOfKey_45 : decode cX0_sumOfKey 45 = .ok (.invokestatic 33, 3) := by decide +kernel
theorem dX0_sumOfKey_48 : decode cX0_sumOfKey 48 = .ok (.iload_n 1, 1) := by decide +kernel
theorem dX0_sumOfKey_49 : decode cX0_sumOfKey 49 = .ok (.if_icmp .ne 11, 3) := by decide +kernel
theorem dX0_sumOfKey_52 : decode cX0_sumOfKey 52 = .ok (.iload_n 2, 1) := by decide +kernel
theorem dX0_sumOfKey_53 : decode cX0_sumOfKey 53 = .ok (.iload 5, 2) := by decide +kernel
theorem dX0_sumOfKey_55 : decode cX0_sumOfKey 55 = .ok (.invokestatic 37, 3) := by decide +kernel
theorem dX0_sumOfKey_58 : decode cX0_sumOfKey 58 = .ok (.iadd, 1) := by decide +kernel
theorem dX0_sumOfKey_59 : decode cX0_sumOfKey 59 = .ok (.istore_n 2, 1) := by decide +kernel
theorem dX0_sumOfKey_60 : decode cX0_sumOfKey 60 = .ok (.iinc 4 1, 3) := by decide +kernel
theorem dX0_sumOfKey_63 : decode cX0_sumOfKey 63 = .ok (.goto (-50), 3) := by decide +kernel
theorem dX0_sumOfKey_66 : decode cX0_sumOfKey 66 = .ok (.iinc 3 1, 3) := by decide +kernel
theorem dX0_sumOfKey_69 : decode cX0_sumOfKey 69 = .ok (.goto (-65), 3) := by decide +kernel
theorem dX0_sumOfKey_72 : decode cX0_sumOfKey 72 = .ok (.iload_n 2, 1) := by decide +kernel
theorem dX0_sumOfKey_73 : decode cX0_sumOfKey 73 = .ok (.ireturn, 1) := by decide +kernel
theorem dX1_init_0 : decode cX1_init 0 = .ok (.aload_n 0, 1) := by decide +kernel
theorem dX1_init_1 : decode cX1_init 1 = .ok (.invokespecial 3, 3) := by decide +kernel
theorem dX1_init_4 : decode cX1_init 4 = .ok (.aload_n 0, 1) := by decide +kernel
theorem dX1_init_5 : decode cX1_init 5 = .ok (.iconst 4, 1) := by decide +kernel
theorem dX1_init_6 : decode cX1_init 6 = .ok (.newarray .int, 2) := by decide +kernel
theorem dX1_init_8 : decode cX1_init 8 = .ok (.putfield 9, 3) := by decide +kernel
theorem dX1_init_11 : decode cX1_init 11 = .ok (.aload_n 0, 1) := by decide +kernel
theorem dX1_init_12 : decode cX1_init 12 = .ok (.sipush 240, 3) := by decide +kernel
theorem dX1_init_15 : decode cX1_init 15 = .ok (.newarray .int, 2) := by decide +kernel
theorem dX1_init_17 : decode cX1_init 17 = .ok (.putfield 15, 3) := by decide +kernel
theorem dX1_init_20 : decode cX1_init 20 = .ok (.return_, 1) := by decide +kernel
theorem dX1_add_0 : decode cX1_add 0 = .ok (.aload_n 0, 1) := by decide +kernel
theorem dX1_add_1 : decode cX1_add 1 = .ok (.getfield 9, 3) := by decide +kernel
theorem dX1_add_4 : decode cX1_add 4 = .ok (.iload_n 1, 1) := by decide +kernel
theorem dX1_add_5 : decode cX1_add 5 = .ok (.iaload, 1) := by decide +kernel
theorem dX1_add_6 : decode cX1_add 6 = .ok (.istore_n 3, 1) := by decide +kernel
theorem dX1_add_7 : decode cX1_add 7 = .ok (.aload_n 0, 1) := by decide +kernel
theorem dX1_add_8 : decode cX1_add 8 = .ok (.getfield 15, 3) := by decide +kernel
theorem dX1_add_11 : decode cX1_add 11 = .ok (.iload_n 1, 1) := by decide +kernel
theorem dX1_add_12 : decode cX1_add 12 = .ok (.bipush 60, 2) := by decide +kernel
theorem dX1_add_14 : decode cX1_add 14 = .ok (.imul, 1) := by decide +kernel
theorem dX1_add_15 : decode cX1_add 15 = .ok (.iload_n 3, 1) := by decide +kernel
theorem dX1_add_16 : decode cX1_add 16 = .ok (.iadd, 1) := by decide +kernel
theorem dX1_add_17 : decode cX1_add 17 = .ok (.iload_n 2, 1) := by decide +kernel
theorem dX1_add_18 : decode cX1_add 18 = .ok (.iastore, 1) := by decide +kernel
theorem dX1_add_19 : decode cX1_add 19 = .ok (.aload_n 0, 1) := by decide +kernel
theorem dX1_add_20 : decode cX1_add 20 = .ok (.getfield 9, 3) := by decide +kernel
theorem dX1_add_23 : decode cX1_add 23 = .ok (.iload_n 1, 1) := by decide +kernel
theorem dX1_add_24 : decode cX1_add 24 = .ok (.iload_n 3, 1) := by decide +kernel
theorem dX1_add_25 : decode cX1_add 25 = .ok (.iconst 1, 1) := by decide +kernel
theorem dX1_add_26 : decode cX1_add 26 = .ok (.iadd, 1) := by decide +kernel
theorem dX1_add_27 : decode cX1_add 27 = .ok (.iastore, 1) := by decide +kernel
theorem dX1_add_28 : decode cX1_add 28 = .ok (.iload_n 3, 1) := by decide +kernel
theorem dX1_add_29 : decode cX1_add 29 = .ok (.ireturn, 1) := by decide +kernel
theorem dX1_get_0 : decode cX1_get 0 = .ok (.aload_n 0, 1) := by decide +kernel
theorem dX1_get_1 : decode cX1_get 1 = .ok (.getfield 15, 3) := by decide +kernel
theorem dX1_get_4 : decode cX1_get 4 = .ok (.iload_n 1, 1) := by decide +kernel
theorem dX1_get_5 : decode cX1_get 5 = .ok (.bipush 60, 2) := by decide +kernel
theorem dX1_get_7 : decode cX1_get 7 = .ok (.imul, 1) := by decide +kernel
theorem dX1_get_8 : decode cX1_get 8 = .ok (.iload_n 2, 1) := by decide +kernel
theorem dX1_get_9 : decode cX1_get 9 = .ok (.iadd, 1) := by decide +kernel
theorem dX1_get_10 : decode cX1_get 10 = .ok (.iaload, 1) := by decide +kernel
theorem dX1_get_11 : decode cX1_get 11 = .ok (.ireturn, 1) := by decide +kernel
set_option maxRecDepth 20000 in
theorem ggX1_sumAhead_X1_get : GoodIn wsX1_sumAhead wsX1_get := goodIn_r _ [5, 6, 12, 13] (by decide +kernel) (by decide +kernel)
set_option maxRecDepth 20000 in
theorem gX1_sumAhead_X1_get : GoodIn wsX1_sumAhead (wsV RX1 18 RX1 yX1_get wsX1_get) := goodIn_app (goodIn_of _ (by decide +kernel)) ggX1_sumAhead_X1_get
set_option maxRecDepth 20000 in
theorem ggX1_sumAhead_X4_keyOf : GoodIn wsX1_sumAhead wsX4_keyOf := goodIn_r _ [9] (by decide +kernel) (by decide +kernel)
set_option maxRecDepth 20000 in
theorem gX1_sumAhead_X4_keyOf_n22 : GoodIn wsX1_sumAhead (wsX4_keyOf) := ggX1_sumAhead_X4_keyOf
set_option maxRecDepth 20000 in
theorem ggX1_sumAhead_X4_valueOf : GoodIn wsX1_sumAhead wsX4_valueOf := goodIn_r _ [11] (by decide +kernel) (by decide +kernel)
set_option maxRecDepth 20000 in
theorem gX1_sumAhead_X4_valueOf_n26 : GoodIn wsX1_sumAhead (wsX4_valueOf) := ggX1_sumAhead_X4_valueOf
theorem dX1_sumAhead_0 : decode cX1_sumAhead 0 = .ok (.iconst 0, 1) := by decide +kernel
theorem dX1_sumAhead_1 : decode cX1_sumAhead 1 = .ok (.istore 4, 2) := by decide +kernel
theorem dX1_sumAhead_3 : decode cX1_sumAhead 3 = .ok (.iconst 0, 1) := by decide +kernel
theorem dX1_sumAhead_4 : decode cX1_sumAhead 4 = .ok (.istore 5, 2) := by decide +kernel
theorem dX1_sumAhead_6 : decode cX1_sumAhead 6 = .ok (.iload 5, 2) := by decide +kernel
theorem dX1_sumAhead_8 : decode cX1_sumAhead 8 = .ok (.iload_n 2, 1) := by decide +kernel
theorem dX1_sumAhead_9 : decode cX1_sumAhead 9 = .ok (.if_icmp .ge 37, 3) := by decide +kernel
theorem dX1_sumAhead_12 : decode cX1_sumAhead 12 = .ok (.aload_n 0, 1) := by decide +kernel
theorem dX1_sumAhead_13 : decode cX1_sumAhead 13 = .ok (.iload_n 1, 1) := by decide +kernel
theorem dX1_sumAhead_14 : decode cX1_sumAhead 14 = .ok (.iload 5, 2) := by decide +kernel
theorem dX1_sumAhead_16 : decode cX1_sumAhead 16 = .ok (.invokevirtual 18, 3) := by decide +kernel
theorem dX1_sumAhead_19 : decode cX1_sumAhead 19 = .ok (.istore 6, 2) := by decide +kernel
theorem dX1_sumAhead_21 : decode cX1_sumAhead 21 = .ok (.iload 6, 2) := by decide +kernel
theorem dX1_sumAhead_23 : decode cX1_sumAhead 23 = .ok (.invokestatic 22, 3) := by decide +kernel
theorem dX1_sumAhead_26 : decode cX1_sumAhead 26 = .ok (.iload_n 3, 1) := by decide +kernel
theorem dX1_sumAhead_27 : decode cX1_sumAhead 27 = .ok (.if_icmp .ne 13, 3) := by decide +kernel
theorem dX1_sumAhead_30 : decode cX1_sumAhead 30 = .ok (.iload 4, 2) := by decide +kernel
theorem dX1_sumAhead_32 : decode cX1_sumAhead 32 = .ok (.iload 6, 2) := by decide +kernel
theorem dX1_sumAhead_34 : decode cX1_sumAhead 34 = .ok (.invokestatic 26, 3) := by decide +kernel
theorem dX1_sumAhead_37 : decode cX1_sumAhead 37 = .ok (.iadd, 1) := by decide +kernel
theorem dX1_sumAhead_38 : decode cX1_sumAhead 38 = .ok (.istore 4, 2) := by decide +kernel
theorem dX1_sumAhead_40 : decode cX1_sumAhead 40 = .ok (.iinc 5 1, 3) := by decide +kernel
theorem dX1_sumAhead_43 : decode cX1_sumAhead 43 = .ok (.goto (-37), 3) := by decide +kernel
theorem dX1_sumAhead_46 : decode cX1_sumAhead 46 = .ok (.iload 4, 2) := by decide +kernel
theorem dX1_sumAhead_48 : decode cX1_sumAhead 48 = .ok (.ireturn, 1) := by decide +kernel
theorem dX2_init_0 : decode cX2_init 0 = .ok (.aload_n 0, 1) := by decide +kernel
theorem dX2_init_1 : decode cX2_init 1 = .ok (.invokespecial 3, 3) := by decide +kernel
theorem dX2_init_4 : decode cX2_init 4 = .ok (.aload_n 0, 1) := by decide +kernel
theorem dX2_init_5 : decode cX2_init 5 = .ok (.iconst 4, 1) := by decide +kernel
theorem dX2_init_6 : decode cX2_init 6 = .ok (.newarray .int, 2) := by decide +kernel
theorem dX2_init_8 : decode cX2_init 8 = .ok (.putfield 9, 3) := by decide +kernel
theorem dX2_init_11 : decode cX2_init 11 = .ok (.aload_n 0, 1) := by decide +kernel
theorem dX2_init_12 : decode cX2_init 12 = .ok (.iconst 4, 1) := by decide +kernel
theorem dX2_init_13 : decode cX2_init 13 = .ok (.newarray .int, 2) := by decide +kernel
theorem dX2_init_15 : decode cX2_init 15 = .ok (.putfield 15, 3) := by decide +kernel
theorem dX2_init_18 : decode cX2_init 18 = .ok (.aload_n 0, 1) := by decide +kernel
theorem dX2_init_19 : decode cX2_init 19 = .ok (.iconst 4, 1) := by decide +kernel
theorem dX2_init_20 : decode cX2_init 20 = .ok (.newarray .boolean, 2) := by decide +kernel
theorem dX2_init_22 : decode cX2_init 22 = .ok (.putfield 18, 3) := by decide +kernel
theorem dX2_init_25 : decode cX2_init 25 = .ok (.aload_n 0, 1) := by decide +kernel
theorem dX2_init_26 : decode cX2_init 26 = .ok (.iconst 4, 1) := by decide +kernel
theorem dX2_init_27 : decode cX2_init 27 = .ok (.newarray .int, 2) := by decide +kernel
theorem dX2_init_29 : decode cX2_init 29 = .ok (.putfield 22, 3) := by decide +kernel
theorem dX2_init_32 : decode cX2_init 32 = .ok (.return_, 1) := by decide +kernel
theorem dX2_keepForBarrier_0 : decode cX2_keepForBarrier 0 = .ok (.aload_n 0, 1) := by decide +kernel
theorem dX2_keepForBarrier_1 : decode cX2_keepForBarrier 1 = .ok (.getfield 18, 3) := by decide +kernel
theorem dX2_keepForBarrier_4 : decode cX2_keepForBarrier 4 = .ok (.iload_n 1, 1) := by decide +kernel
theorem dX2_keepForBarrier_5 : decode cX2_keepForBarrier 5 = .ok (.iconst 1, 1) := by decide +kernel
theorem dX2_keepForBarrier_6 : decode cX2_keepForBarrier 6 = .ok (.bastore, 1) := by decide +kernel
theorem dX2_keepForBarrier_7 : decode cX2_keepForBarrier 7 = .ok (.aload_n 0, 1) := by decide +kernel
theorem dX2_keepForBarrier_8 : decode cX2_keepForBarrier 8 = .ok (.getfield 22, 3) := by decide +kernel
theorem dX2_keepForBarrier_11 : decode cX2_keepForBarrier 11 = .ok (.iload_n 1, 1) := by decide +kernel
theorem dX2_keepForBarrier_12 : decode cX2_keepForBarrier 12 = .ok (.aload_n 0, 1) := by decide +kernel
theorem dX2_keepForBarrier_13 : decode cX2_keepForBarrier 13 = .ok (.getfield 9, 3) := by decide +kernel
theorem dX2_keepForBarrier_16 : decode cX2_keepForBarrier 16 = .ok (.iload_n 1, 1) := by decide +kernel
theorem dX2_keepForBarrier_17 : decode cX2_keepForBarrier 17 = .ok (.iaload, 1) := by decide +kernel
theorem dX2_keepForBarrier_18 : decode cX2_keepForBarrier 18 = .ok (.iastore, 1) := by decide +kernel
theorem dX2_keepForBarrier_19 : decode cX2_keepForBarrier 19 = .ok (.aload_n 0, 1) := by decide +kernel
theorem dX2_keepForBarrier_20 : decode cX2_keepForBarrier 20 = .ok (.getfield 22, 3) := by decide +kernel
theorem dX2_keepForBarrier_23 : decode cX2_keepForBarrier 23 = .ok (.iload_n 1, 1) := by decide +kernel
theorem dX2_keepForBarrier_24 : decode cX2_keepForBarrier 24 = .ok (.iaload, 1) := by decide +kernel
theorem dX2_keepForBarrier_25 : decode cX2_keepForBarrier 25 = .ok (.ireturn, 1) := by decide +kernel
theorem dX2_forgetBarriers_0 : decode cX2_forgetBarriers 0 = .ok (.iconst 0, 1) := by decide +kernel
theorem dX2_forgetBarriers_1 : decode cX2_forgetBarriers 1 = .ok (.istore_n 1, 1) := by decide +kernel
theorem dX2_forgetBarriers_2 : decode cX2_forgetBarriers 2 = .ok (.iload_n 1, 1) := by decide +kernel
theorem dX2_forgetBarriers_3 : decode cX2_forgetBarriers 3 = .ok (.iconst 4, 1) := by decide +kernel
theorem dX2_forgetBarriers_4 : decode cX2_forgetBarriers 4 = .ok (.if_icmp .ge 16, 3) := by decide +kernel
theorem dX2_forgetBarriers_7 : decode cX2_forgetBarriers 7 = .ok (.aload_n 0, 1) := by decide +kernel
theorem dX2_forgetBarriers_8 : decode cX2_forgetBarriers 8 = .ok (.getfield 18, 3) := by decide +kernel
theorem dX2_forgetBarriers_11 : decode cX2_forgetBarriers 11 = .ok (.iload_n 1, 1) := by decide +kernel
theorem dX2_forgetBarriers_12 : decode cX2_forgetBarriers 12 = .ok (.iconst 0, 1) := by decide +kernel
theorem dX2_forgetBarriers_13 : decode cX2_forgetBarriers 13 = .ok (.bastore, 1) := by decide +kernel
theorem dX2_forgetBarriers_14 : decode cX2_forgetBarriers 14 = .ok (.iinc 1 1, 3) := by decide +kernel
theorem dX2_forgetBarriers_17 : decode cX2_forgetBarriers 17 = .ok (.goto (-15), 3) := by decide +kernel
theorem dX2_forgetBarriers_20 : decode cX2_forgetBarriers 20 = .ok (.return_, 1) := by decide +kernel
theorem dX2_keepAll_0 : decode cX2_keepAll 0 = .ok (.iconst 0, 1) := by decide +kernel
theorem dX2_keepAll_1 : decode cX2_keepAll 1 = .ok (.istore_n 1, 1) := by decide +kernel
theorem dX2_keepAll_2 : decode cX2_keepAll 2 = .ok (.iload_n 1, 1) := by decide +kernel
theorem dX2_keepAll_3 : decode cX2_keepAll 3 = .ok (.iconst 4, 1) := by decide +kernel
theorem dX2_keepAll_4 : decode cX2_keepAll 4 = .ok (.if_icmp .ge 21, 3) := by decide +kernel
theorem dX2_keepAll_7 : decode cX2_keepAll 7 = .ok (.aload_n 0, 1) := by decide +kernel
theorem dX2_keepAll_8 : decode cX2_keepAll 8 = .ok (.getfield 15, 3) := by decide +kernel
theorem dX2_keepAll_11 : decode cX2_keepAll 11 = .ok (.iload_n 1, 1) := by decide +kernel
theorem dX2_keepAll_12 : decode cX2_keepAll 12 = .ok (.aload_n 0, 1) := by decide +kernel
theorem dX2_keepAll_13 : decode cX2_keepAll 13 = .ok (.getfield 22, 3) := by decide +kernel
theorem dX2_keepAll_16 : decode cX2_keepAll 16 = .ok (.iload_n 1, 1) := by decide +kernel
theorem dX2_keepAll_17 : decode cX2_keepAll 17 = .ok (.iaload, 1) := by decide +kernel
theorem dX2_keepAll_18 : decode cX2_keepAll 18 = .ok (.iastore, 1) := by decide +kernel
theorem dX2_keepAll_19 : decode cX2_keepAll 19 = .ok (.iinc 1 1, 3) := by decide +kernel
theorem dX2_keepAll_22 : decode cX2_keepAll 22 = .ok (.goto (-20), 3) := by decide +kernel
theorem dX2_keepAll_25 : decode cX2_keepAll 25 = .ok (.return_, 1) := by decide +kernel
theorem dX2_returnToKept_0 : decode cX2_returnToKept 0 = .ok (.iconst 0, 1) := by decide +kernel
theorem dX2_returnToKept_1 : decode cX2_returnToKept 1 = .ok (.istore_n 1, 1) := by decide +kernel
theorem dX2_returnToKept_2 : decode cX2_returnToKept 2 = .ok (.iload_n 1, 1) := by decide +kernel
theorem dX2_returnToKept_3 : decode cX2_returnToKept 3 = .ok (.iconst 4, 1) := by decide +kernel
theorem dX2_returnToKept_4 : decode cX2_returnToKept 4 = .ok (.if_icmp .ge 21, 3) := by decide +kernel
theorem dX2_returnToKept_7 : decode cX2_returnToKept 7 = .ok (.aload_n 0, 1) := by decide +kernel
theorem dX2_returnToKept_8 : decode cX2_returnToKept 8 = .ok (.getfield 9, 3) := by decide +kernel
theorem dX2_returnToKept_11 : decode cX2_returnToKept 11 = .ok (.iload_n 1, 1) := by decide +kernel
theorem dX2_returnToKept_12 : decode cX2_returnToKept 12 = .ok (.aload_n 0, 1) := by decide +kernel
theorem dX2_returnToKept_13 : decode cX2_returnToKept 13 = .ok (.getfield 15, 3) := by decide +kernel
theorem dX2_returnToKept_16 : decode cX2_returnToKept 16 = .ok (.iload_n 1, 1) := by decide +kernel
theorem dX2_returnToKept_17 : decode cX2_returnToKept 17 = .ok (.iaload, 1) := by decide +kernel
theorem dX2_returnToKept_18 : decode cX2_returnToKept 18 = .ok (.iastore, 1) := by decide +kernel
theorem dX2_returnToKept_19 : decode cX2_returnToKept 19 = .ok (.iinc 1 1, 3) := by decide +kernel
theorem dX2_returnToKept_22 : decode cX2_returnToKept 22 = .ok (.goto (-20), 3) := by decide +kernel
theorem dX2_returnToKept_25 : decode cX2_returnToKept 25 = .ok (.return_, 1) := by decide +kernel
theorem dX3_init_0 : decode cX3_init 0 = .ok (.aload_n 0, 1) := by decide +kernel
theorem dX3_init_1 : decode cX3_init 1 = .ok (.invokespecial 3, 3) := by decide +kernel
theorem dX3_init_4 : decode cX3_init 4 = .ok (.aload_n 0, 1) := by decide +kernel
theorem dX3_init_5 : decode cX3_init 5 = .ok (.bipush 32, 2) := by decide +kernel
theorem dX3_init_7 : decode cX3_init 7 = .ok (.newarray .int, 2) := by decide +kernel
theorem dX3_init_9 : decode cX3_init 9 = .ok (.putfield 9, 3) := by decide +kernel
theorem dX3_init_12 : decode cX3_init 12 = .ok (.aload_n 0, 1) := by decide +kernel
theorem dX3_init_13 : decode cX3_init 13 = .ok (.bipush 32, 2) := by decide +kernel
theorem dX3_init_15 : decode cX3_init 15 = .ok (.newarray .int, 2) := by decide +kernel
theorem dX3_init_17 : decode cX3_init 17 = .ok (.putfield 15, 3) := by decide +kernel
theorem dX3_init_20 : decode cX3_init 20 = .ok (.return_, 1) := by decide +kernel
theorem dX3_add_0 : decode cX3_add 0 = .ok (.aload_n 0, 1) := by decide +kernel
theorem dX3_add_1 : decode cX3_add 1 = .ok (.getfield 9, 3) := by decide +kernel
theorem dX3_add_4 : decode cX3_add 4 = .ok (.iload_n 1, 1) := by decide +kernel
theorem dX3_add_5 : decode cX3_add 5 = .ok (.dup2, 1) := by decide +kernel
theorem dX3_add_6 : decode cX3_add 6 = .ok (.iaload, 1) := by decide +kernel
theorem dX3_add_7 : decode cX3_add 7 = .ok (.iload_n 2, 1) := by decide +kernel
theorem dX3_add_8 : decode cX3_add 8 = .ok (.iadd, 1) := by decide +kernel
theorem dX3_add_9 : decode cX3_add 9 = .ok (.iastore, 1) := by decide +kernel
theorem dX3_add_10 : decode cX3_add 10 = .ok (.aload_n 0, 1) := by decide +kernel
theorem dX3_add_11 : decode cX3_add 11 = .ok (.getfield 15, 3) := by decide +kernel
theorem dX3_add_14 : decode cX3_add 14 = .ok (.iload_n 1, 1) := by decide +kernel
theorem dX3_add_15 : decode cX3_add 15 = .ok (.dup2, 1) := by decide +kernel
theorem dX3_add_16 : decode cX3_add 16 = .ok (.iaload, 1) := by decide +kernel
theorem dX3_add_17 : decode cX3_add 17 = .ok (.iload_n 3, 1) := by decide +kernel
theorem dX3_add_18 : decode cX3_add 18 = .ok (.iadd, 1) := by decide +kernel
theorem dX3_add_19 : decode cX3_add 19 = .ok (.iastore, 1) := by decide +kernel
theorem dX3_add_20 : decode cX3_add 20 = .ok (.return_, 1) := by decide +kernel
theorem dX3_copyKey_0 : decode cX3_copyKey 0 = .ok (.aload_n 0, 1) := by decide +kernel
theorem dX3_copyKey_1 : decode cX3_copyKey 1 = .ok (.getfield 9, 3) := by decide +kernel
theorem dX3_copyKey_4 : decode cX3_copyKey 4 = .ok (.iload_n 2, 1) := by decide +kernel
theorem dX3_copyKey_5 : decode cX3_copyKey 5 = .ok (.aload_n 1, 1) := by decide +kernel
theorem dX3_copyKey_6 : decode cX3_copyKey 6 = .ok (.getfield 9, 3) := by decide +kernel
theorem dX3_copyKey_9 : decode cX3_copyKey 9 = .ok (.iload_n 2, 1) := by decide +kernel
theorem dX3_copyKey_10 : decode cX3_copyKey 10 = .ok (.iaload, 1) := by decide +kernel
theorem dX3_copyKey_11 : decode cX3_copyKey 11 = .ok (.iastore, 1) := by decide +kernel
theorem dX3_copyKey_12 : decode cX3_copyKey 12 = .ok (.aload_n 0, 1) := by decide +kernel
theorem dX3_copyKey_13 : decode cX3_copyKey 13 = .ok (.getfield 15, 3) := by decide +kernel
theorem dX3_copyKey_16 : decode cX3_copyKey 16 = .ok (.iload_n 2, 1) := by decide +kernel
theorem dX3_copyKey_17 : decode cX3_copyKey 17 = .ok (.aload_n 1, 1) := by decide +kernel
theorem dX3_copyKey_18 : decode cX3_copyKey 18 = .ok (.getfield 15, 3) := by decide +kernel
theorem dX3_copyKey_21 : decode cX3_copyKey 21 = .ok (.iload_n 2, 1) := by decide +kernel
theorem dX3_copyKey_22 : decode cX3_copyKey 22 = .ok (.iaload, 1) := by decide +kernel
theorem dX3_copyKey_23 : decode cX3_copyKey 23 = .ok (.iastore, 1) := by decide +kernel
theorem dX3_copyKey_24 : decode cX3_copyKey 24 = .ok (.return_, 1) := by decide +kernel
theorem dX3_copyAll_0 : decode cX3_copyAll 0 = .ok (.iconst 0, 1) := by decide +kernel
theorem dX3_copyAll_1 : decode cX3_copyAll 1 = .ok (.istore_n 2, 1) := by decide +kernel
theorem dX3_copyAll_2 : decode cX3_copyAll 2 = .ok (.iload_n 2, 1) := by decide +kernel
theorem dX3_copyAll_3 : decode cX3_copyAll 3 = .ok (.bipush 32, 2) := by decide +kernel
theorem dX3_copyAll_5 : decode cX3_copyAll 5 = .ok (.if_icmp .ge 33, 3) := by decide +kernel
theorem dX3_copyAll_8 : decode cX3_copyAll 8 = .ok (.aload_n 0, 1) := by decide +kernel
theorem dX3_copyAll_9 : decode cX3_copyAll 9 = .ok (.getfield 9, 3) := by decide +kernel
theorem dX3_copyAll_12 : decode cX3_copyAll 12 = .ok (.iload_n 2, 1) := by decide +kernel
theorem dX3_copyAll_13 : decode cX3_copyAll 13 = .ok (.aload_n 1, 1) := by decide +kernel
theorem dX3_copyAll_14 : decode cX3_copyAll 14 = .ok (.getfield 9, 3) := by decide +kernel
theorem dX3_copyAll_17 : decode cX3_copyAll 17 = .ok (.iload_n 2, 1) := by decide +kernel
theorem dX3_copyAll_18 : decode cX3_copyAll 18 = .ok (.iaload, 1) := by decide +kernel
theorem dX3_copyAll_19 : decode cX3_copyAll 19 = .ok (.iastore, 1) := by decide +kernel
theorem dX3_copyAll_20 : decode cX3_copyAll 20 = .ok (.aload_n 0, 1) := by decide +kernel
theorem dX3_copyAll_21 : decode cX3_copyAll 21 = .ok (.getfield 15, 3) := by decide +kernel
theorem dX3_copyAll_24 : decode cX3_copyAll 24 = .ok (.iload_n 2, 1) := by decide +kernel
theorem dX3_copyAll_25 : decode cX3_copyAll 25 = .ok (.aload_n 1, 1) := by decide +kernel
theorem dX3_copyAll_26 : decode cX3_copyAll 26 = .ok (.getfield 15, 3) := by decide +kernel
theorem dX3_copyAll_29 : decode cX3_copyAll 29 = .ok (.iload_n 2, 1) := by decide +kernel
theorem dX3_copyAll_30 : decode cX3_copyAll 30 = .ok (.iaload, 1) := by decide +kernel
theorem dX3_copyAll_31 : decode cX3_copyAll 31 = .ok (.iastore, 1) := by decide +kernel
theorem dX3_copyAll_32 : decode cX3_copyAll 32 = .ok (.iinc 2 1, 3) := by decide +kernel
theorem dX3_copyAll_35 : decode cX3_copyAll 35 = .ok (.goto (-33), 3) := by decide +kernel
theorem dX3_copyAll_38 : decode cX3_copyAll 38 = .ok (.return_, 1) := by decide +kernel
theorem dX3_clearKey_0 : decode cX3_clearKey 0 = .ok (.aload_n 0, 1) := by decide +kernel
theorem dX3_clearKey_1 : decode cX3_clearKey 1 = .ok (.getfield 9, 3) := by decide +kernel
theorem dX3_clearKey_4 : decode cX3_clearKey 4 = .ok (.iload_n 1, 1) := by decide +kernel
theorem dX3_clearKey_5 : decode cX3_clearKey 5 = .ok (.iconst 0, 1) := by decide +kernel
theorem dX3_clearKey_6 : decode cX3_clearKey 6 = .ok (.iastore, 1) := by decide +kernel
theorem dX3_clearKey_7 : decode cX3_clearKey 7 = .ok (.aload_n 0, 1) := by decide +kernel
theorem dX3_clearKey_8 : decode cX3_clearKey 8 = .ok (.getfield 15, 3) := by decide +kernel
theorem dX3_clearKey_11 : decode cX3_clearKey 11 = .ok (.iload_n 1, 1) := by decide +kernel
theorem dX3_clearKey_12 : decode cX3_clearKey 12 = .ok (.iconst 0, 1) := by decide +kernel
theorem dX3_clearKey_13 : decode cX3_clearKey 13 = .ok (.iastore, 1) := by decide +kernel
theorem dX3_clearKey_14 : decode cX3_clearKey 14 = .ok (.return_, 1) := by decide +kernel
set_option maxRecDepth 20000 in
theorem ggX3_clearAll_X3_clearKey : GoodIn wsX3_clearAll wsX3_clearKey := goodIn_r _ [5, 6, 7, 8, 9] (by decide +kernel) (by decide +kernel)
set_option maxRecDepth 20000 in
theorem gX3_clearAll_X3_clearKey : GoodIn wsX3_clearAll (wsV RX3 18 RX3 yX3_clearKey wsX3_clearKey) := goodIn_app (goodIn_of _ (by decide +kernel)) ggX3_clearAll_X3_clearKey
theorem dX3_clearAll_0 : decode cX3_clearAll 0 = .ok (.iconst 0, 1) := by decide +kernel
theorem dX3_clearAll_1 : decode cX3_clearAll 1 = .ok (.istore_n 1, 1) := by decide +kernel
theorem dX3_clearAll_2 : decode cX3_clearAll 2 = .ok (.iload_n 1, 1) := by decide +kernel
theorem dX3_clearAll_3 : decode cX3_clearAll 3 = .ok (.bipush 32, 2) := by decide +kernel
theorem dX3_clearAll_5 : decode cX3_clearAll 5 = .ok (.if_icmp .ge 14, 3) := by decide +kernel
theorem dX3_clearAll_8 : decode cX3_clearAll 8 = .ok (.aload_n 0, 1) := by decide +kernel
theorem dX3_clearAll_9 : decode cX3_clearAll 9 = .ok (.iload_n 1, 1) := by decide +kernel
theorem dX3_clearAll_10 : decode cX3_clearAll 10 = .ok (.invokevirtual 18, 3) := by decide +kernel
theorem dX3_clearAll_13 : decode cX3_clearAll 13 = .ok (.iinc 1 1, 3) := by decide +kernel
theorem dX3_clearAll_16 : decode cX3_clearAll 16 = .ok (.goto (-14), 3) := by decide +kernel
theorem dX3_clearAll_19 : decode cX3_clearAll 19 = .ok (.return_, 1) := by decide +kernel
