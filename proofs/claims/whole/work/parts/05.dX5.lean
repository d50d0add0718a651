set_option maxRecDepth 20000 in
theorem ggX5_init_X5_unseals : GoodIn wsX5_init wsX5_unseals := goodIn_r _ [35, 19, 36, 37, 38, 39, 40, 41, 42, 43, 44, 45, 46, 47, 48, 49, 50, 51, 52, 53, 54, 55, 56, 57, 58, 59, 60, 61, 62] (by decide +kernel) (by decide +kernel)
set_option maxRecDepth 20000 in
theorem gX5_init_X5_unseals : GoodIn wsX5_init (wsV RX5 87 RX5 yX5_unseals wsX5_unseals) := goodIn_app (goodIn_of _ (by decide +kernel)) ggX5_init_X5_unseals
theorem dX5_init_0 : decode cX5_init 0 = .ok (.aload_n 0, 1) := by decide +kernel
theorem dX5_init_1 : decode cX5_init 1 = .ok (.invokespecial 1, 3) := by decide +kernel
theorem dX5_init_4 : decode cX5_init 4 = .ok (.aload_n 0, 1) := by decide +kernel
theorem dX5_init_5 : decode cX5_init 5 = .ok (.iconst 2, 1) := by decide +kernel
theorem dX5_init_6 : decode cX5_init 6 = .ok (.putfield 7, 3) := by decide +kernel
theorem dX5_init_9 : decode cX5_init 9 = .ok (.aload_n 0, 1) := by decide +kernel
theorem dX5_init_10 : decode cX5_init 10 = .ok (.iconst 4, 1) := by decide +kernel
theorem dX5_init_11 : decode cX5_init 11 = .ok (.newarray .int, 2) := by decide +kernel
theorem dX5_init_13 : decode cX5_init 13 = .ok (.putfield 13, 3) := by decide +kernel
theorem dX5_init_16 : decode cX5_init 16 = .ok (.aload_n 0, 1) := by decide +kernel
theorem dX5_init_17 : decode cX5_init 17 = .ok (.iconst 4, 1) := by decide +kernel
theorem dX5_init_18 : decode cX5_init 18 = .ok (.newarray .int, 2) := by decide +kernel
theorem dX5_init_20 : decode cX5_init 20 = .ok (.putfield 17, 3) := by decide +kernel
theorem dX5_init_23 : decode cX5_init 23 = .ok (.aload_n 0, 1) := by decide +kernel
theorem dX5_init_24 : decode cX5_init 24 = .ok (.sipush 240, 3) := by decide +kernel
theorem dX5_init_27 : decode cX5_init 27 = .ok (.newarray .int, 2) := by decide +kernel
theorem dX5_init_29 : decode cX5_init 29 = .ok (.putfield 20, 3) := by decide +kernel
theorem dX5_init_32 : decode cX5_init 32 = .ok (.aload_n 0, 1) := by decide +kernel
theorem dX5_init_33 : decode cX5_init 33 = .ok (.sipush 128, 3) := by decide +kernel
theorem dX5_init_36 : decode cX5_init 36 = .ok (.newarray .int, 2) := by decide +kernel
theorem dX5_init_38 : decode cX5_init 38 = .ok (.putfield 23, 3) := by decide +kernel
theorem dX5_init_41 : decode cX5_init 41 = .ok (.aload_n 0, 1) := by decide +kernel
theorem dX5_init_42 : decode cX5_init 42 = .ok (.bipush 16, 2) := by decide +kernel
theorem dX5_init_44 : decode cX5_init 44 = .ok (.newarray .int, 2) := by decide +kernel
theorem dX5_init_46 : decode cX5_init 46 = .ok (.putfield 26, 3) := by decide +kernel
theorem dX5_init_49 : decode cX5_init 49 = .ok (.aload_n 0, 1) := by decide +kernel
theorem dX5_init_50 : decode cX5_init 50 = .ok (.bipush 16, 2) := by decide +kernel
theorem dX5_init_52 : decode cX5_init 52 = .ok (.newarray .boolean, 2) := by decide +kernel
theorem dX5_init_54 : decode cX5_init 54 = .ok (.putfield 29, 3) := by decide +kernel
theorem dX5_init_57 : decode cX5_init 57 = .ok (.aload_n 0, 1) := by decide +kernel
theorem dX5_init_58 : decode cX5_init 58 = .ok (.bipush 32, 2) := by decide +kernel
theorem dX5_init_60 : decode cX5_init 60 = .ok (.newarray .int, 2) := by decide +kernel
theorem dX5_init_62 : decode cX5_init 62 = .ok (.putfield 33, 3) := by decide +kernel
theorem dX5_init_65 : decode cX5_init 65 = .ok (.aload_n 0, 1) := by decide +kernel
theorem dX5_init_66 : decode cX5_init 66 = .ok (.bipush 32, 2) := by decide +kernel
theorem dX5_init_68 : decode cX5_init 68 = .ok (.newarray .int, 2) := by decide +kernel
theorem dX5_init_70 : decode cX5_init 70 = .ok (.putfield 36, 3) := by decide +kernel
theorem dX5_init_73 : decode cX5_init 73 = .ok (.aload_n 0, 1) := by decide +kernel
theorem dX5_init_74 : decode cX5_init 74 = .ok (.bipush 32, 2) := by decide +kernel
theorem dX5_init_76 : decode cX5_init 76 = .ok (.newarray .int, 2) := by decide +kernel
theorem dX5_init_78 : decode cX5_init 78 = .ok (.putfield 39, 3) := by decide +kernel
theorem dX5_init_81 : decode cX5_init 81 = .ok (.aload_n 0, 1) := by decide +kernel
theorem dX5_init_82 : decode cX5_init 82 = .ok (.bipush 32, 2) := by decide +kernel
theorem dX5_init_84 : decode cX5_init 84 = .ok (.newarray .int, 2) := by decide +kernel
theorem dX5_init_86 : decode cX5_init 86 = .ok (.putfield 42, 3) := by decide +kernel
theorem dX5_init_89 : decode cX5_init 89 = .ok (.aload_n 0, 1) := by decide +kernel
theorem dX5_init_90 : decode cX5_init 90 = .ok (.bipush 32, 2) := by decide +kernel
theorem dX5_init_92 : decode cX5_init 92 = .ok (.newarray .int, 2) := by decide +kernel
theorem dX5_init_94 : decode cX5_init 94 = .ok (.putfield 45, 3) := by decide +kernel
theorem dX5_init_97 : decode cX5_init 97 = .ok (.aload_n 0, 1) := by decide +kernel
theorem dX5_init_98 : decode cX5_init 98 = .ok (.bipush 32, 2) := by decide +kernel
theorem dX5_init_100 : decode cX5_init 100 = .ok (.newarray .int, 2) := by decide +kernel
theorem dX5_init_102 : decode cX5_init 102 = .ok (.putfield 48, 3) := by decide +kernel
theorem dX5_init_105 : decode cX5_init 105 = .ok (.aload_n 0, 1) := by decide +kernel
theorem dX5_init_106 : decode cX5_init 106 = .ok (.iconst 4, 1) := by decide +kernel
theorem dX5_init_107 : decode cX5_init 107 = .ok (.newarray .int, 2) := by decide +kernel
theorem dX5_init_109 : decode cX5_init 109 = .ok (.putfield 51, 3) := by decide +kernel
theorem dX5_init_112 : decode cX5_init 112 = .ok (.aload_n 0, 1) := by decide +kernel
theorem dX5_init_113 : decode cX5_init 113 = .ok (.bipush 32, 2) := by decide +kernel
theorem dX5_init_115 : decode cX5_init 115 = .ok (.newarray .int, 2) := by decide +kernel
theorem dX5_init_117 : decode cX5_init 117 = .ok (.putfield 54, 3) := by decide +kernel
theorem dX5_init_120 : decode cX5_init 120 = .ok (.aload_n 0, 1) := by decide +kernel
theorem dX5_init_121 : decode cX5_init 121 = .ok (.bipush 32, 2) := by decide +kernel
theorem dX5_init_123 : decode cX5_init 123 = .ok (.newarray .int, 2) := by decide +kernel
theorem dX5_init_125 : decode cX5_init 125 = .ok (.putfield 57, 3) := by decide +kernel
theorem dX5_init_128 : decode cX5_init 128 = .ok (.aload_n 0, 1) := by decide +kernel
theorem dX5_init_129 : decode cX5_init 129 = .ok (.iconst (-1), 1) := by decide +kernel
theorem dX5_init_130 : decode cX5_init 130 = .ok (.putfield 60, 3) := by decide +kernel
theorem dX5_init_133 : decode cX5_init 133 = .ok (.aload_n 0, 1) := by decide +kernel
theorem dX5_init_134 : decode cX5_init 134 = .ok (.iconst (-1), 1) := by decide +kernel
theorem dX5_init_135 : decode cX5_init 135 = .ok (.putfield 63, 3) := by decide +kernel
theorem dX5_init_138 : decode cX5_init 138 = .ok (.aload_n 0, 1) := by decide +kernel
theorem dX5_init_139 : decode cX5_init 139 = .ok (.iconst 4, 1) := by decide +kernel
theorem dX5_init_140 : decode cX5_init 140 = .ok (.newarray .boolean, 2) := by decide +kernel
theorem dX5_init_142 : decode cX5_init 142 = .ok (.putfield 66, 3) := by decide +kernel
theorem dX5_init_145 : decode cX5_init 145 = .ok (.aload_n 0, 1) := by decide +kernel
theorem dX5_init_146 : decode cX5_init 146 = .ok (.iconst 4, 1) := by decide +kernel
theorem dX5_init_147 : decode cX5_init 147 = .ok (.newarray .int, 2) := by decide +kernel
theorem dX5_init_149 : decode cX5_init 149 = .ok (.putfield 69, 3) := by decide +kernel
theorem dX5_init_152 : decode cX5_init 152 = .ok (.aload_n 0, 1) := by decide +kernel
theorem dX5_init_153 : decode cX5_init 153 = .ok (.bipush 32, 2) := by decide +kernel
theorem dX5_init_155 : decode cX5_init 155 = .ok (.newarray .int, 2) := by decide +kernel
theorem dX5_init_157 : decode cX5_init 157 = .ok (.putfield 72, 3) := by decide +kernel
theorem dX5_init_160 : decode cX5_init 160 = .ok (.aload_n 0, 1) := by decide +kernel
theorem dX5_init_161 : decode cX5_init 161 = .ok (.bipush 32, 2) := by decide +kernel
theorem dX5_init_163 : decode cX5_init 163 = .ok (.newarray .int, 2) := by decide +kernel
theorem dX5_init_165 : decode cX5_init 165 = .ok (.putfield 75, 3) := by decide +kernel
theorem dX5_init_168 : decode cX5_init 168 = .ok (.aload_n 0, 1) := by decide +kernel
theorem dX5_init_169 : decode cX5_init 169 = .ok (.iconst 4, 1) := by decide +kernel
theorem dX5_init_170 : decode cX5_init 170 = .ok (.newarray .int, 2) := by decide +kernel
theorem dX5_init_172 : decode cX5_init 172 = .ok (.putfield 78, 3) := by decide +kernel
theorem dX5_init_175 : decode cX5_init 175 = .ok (.aload_n 0, 1) := by decide +kernel
theorem dX5_init_176 : decode cX5_init 176 = .ok (.bipush 32, 2) := by decide +kernel
theorem dX5_init_178 : decode cX5_init 178 = .ok (.newarray .int, 2) := by decide +kernel
theorem dX5_init_180 : decode cX5_init 180 = .ok (.putfield 81, 3) := by decide +kernel
theorem dX5_init_183 : decode cX5_init 183 = .ok (.aload_n 0, 1) := by decide +kernel
theorem dX5_init_184 : decode cX5_init 184 = .ok (.bipush 32, 2) := by decide +kernel
theorem dX5_init_186 : decode cX5_init 186 = .ok (.newarray .int, 2) := by decide +kernel
theorem dX5_init_188 : decode cX5_init 188 = .ok (.putfield 84, 3) := by decide +kernel
theorem dX5_init_191 : decode cX5_init 191 = .ok (.aload_n 0, 1) := by decide +kernel
theorem dX5_init_192 : decode cX5_init 192 = .ok (.invokevirtual 87, 3) := by decide +kernel
theorem dX5_init_195 : decode cX5_init 195 = .ok (.return_, 1) := by decide +kernel
theorem dX5_thrown_0 : decode cX5_thrown 0 = .ok (.aload_n 0, 1) := by decide +kernel
theorem dX5_thrown_1 : decode cX5_thrown 1 = .ok (.getfield 90, 3) := by decide +kernel
theorem dX5_thrown_4 : decode cX5_thrown 4 = .ok (.ireturn, 1) := by decide +kernel
theorem dX5_holds_0 : decode cX5_holds 0 = .ok (.aload_n 0, 1) := by decide +kernel
theorem dX5_holds_1 : decode cX5_holds 1 = .ok (.iload_n 1, 1) := by decide +kernel
theorem dX5_holds_2 : decode cX5_holds 2 = .ok (.putfield 90, 3) := by decide +kernel
theorem dX5_holds_5 : decode cX5_holds 5 = .ok (.iload_n 1, 1) := by decide +kernel
theorem dX5_holds_6 : decode cX5_holds 6 = .ok (.ifCond .ne 7, 3) := by decide +kernel
theorem dX5_holds_9 : decode cX5_holds 9 = .ok (.iconst 1, 1) := by decide +kernel
theorem dX5_holds_10 : decode cX5_holds 10 = .ok (.goto 4, 3) := by decide +kernel
theorem dX5_holds_13 : decode cX5_holds 13 = .ok (.iconst 0, 1) := by decide +kernel
theorem dX5_holds_14 : decode cX5_holds 14 = .ok (.ireturn, 1) := by decide +kernel
theorem dX5_in_0 : decode cX5_in 0 = .ok (.iload_n 0, 1) := by decide +kernel
theorem dX5_in_1 : decode cX5_in 1 = .ok (.iload_n 1, 1) := by decide +kernel
theorem dX5_in_2 : decode cX5_in 2 = .ok (.if_icmp .lt 12, 3) := by decide +kernel
theorem dX5_in_5 : decode cX5_in 5 = .ok (.iload_n 0, 1) := by decide +kernel
theorem dX5_in_6 : decode cX5_in 6 = .ok (.iload_n 2, 1) := by decide +kernel
theorem dX5_in_7 : decode cX5_in 7 = .ok (.if_icmp .gt 7, 3) := by decide +kernel
theorem dX5_in_10 : decode cX5_in 10 = .ok (.iconst 1, 1) := by decide +kernel
theorem dX5_in_11 : decode cX5_in 11 = .ok (.goto 4, 3) := by decide +kernel
theorem dX5_in_14 : decode cX5_in 14 = .ok (.iconst 0, 1) := by decide +kernel
theorem dX5_in_15 : decode cX5_in 15 = .ok (.ireturn, 1) := by decide +kernel
set_option maxRecDepth 20000 in
theorem ggX5_isPartition_X5_in : GoodIn wsX5_isPartition wsX5_in := goodIn_r _ [4] (by decide +kernel) (by decide +kernel)
set_option maxRecDepth 20000 in
theorem gX5_isPartition_X5_in : GoodIn wsX5_isPartition (va_wsS RX5 93 yX5_in wsX5_in) := goodIn_app (goodIn_of _ (by decide +kernel)) ggX5_isPartition_X5_in
theorem dX5_isPartition_0 : decode cX5_isPartition 0 = .ok (.iload_n 0, 1) := by decide +kernel
theorem dX5_isPartition_1 : decode cX5_isPartition 1 = .ok (.iconst 0, 1) := by decide +kernel
theorem dX5_isPartition_2 : decode cX5_isPartition 2 = .ok (.iconst 3, 1) := by decide +kernel
theorem dX5_isPartition_3 : decode cX5_isPartition 3 = .ok (.invokestatic 93, 3) := by decide +kernel
theorem dX5_isPartition_6 : decode cX5_isPartition 6 = .ok (.ireturn, 1) := by decide +kernel
set_option maxRecDepth 20000 in
theorem ggX5_isKey_X5_in : GoodIn wsX5_isKey wsX5_in := goodIn_r _ [4] (by decide +kernel) (by decide +kernel)
set_option maxRecDepth 20000 in
theorem gX5_isKey_X5_in : GoodIn wsX5_isKey (va_wsS RX5 93 yX5_in wsX5_in) := goodIn_app (goodIn_of _ (by decide +kernel)) ggX5_isKey_X5_in
theorem dX5_isKey_0 : decode cX5_isKey 0 = .ok (.iload_n 0, 1) := by decide +kernel
theorem dX5_isKey_1 : decode cX5_isKey 1 = .ok (.iconst 0, 1) := by decide +kernel
theorem dX5_isKey_2 : decode cX5_isKey 2 = .ok (.bipush 31, 2) := by decide +kernel
theorem dX5_isKey_4 : decode cX5_isKey 4 = .ok (.invokestatic 93, 3) := by decide +kernel
theorem dX5_isKey_7 : decode cX5_isKey 7 = .ok (.ireturn, 1) := by decide +kernel
set_option maxRecDepth 20000 in
theorem ggX5_isWorker_X5_in : GoodIn wsX5_isWorker wsX5_in := goodIn_r _ [5] (by decide +kernel) (by decide +kernel)
set_option maxRecDepth 20000 in
theorem gX5_isWorker_X5_in : GoodIn wsX5_isWorker (va_wsS RX5 93 yX5_in wsX5_in) := goodIn_app (goodIn_of _ (by decide +kernel)) ggX5_isWorker_X5_in
theorem dX5_isWorker_0 : decode cX5_isWorker 0 = .ok (.iload_n 1, 1) := by decide +kernel
theorem dX5_isWorker_1 : decode cX5_isWorker 1 = .ok (.iconst 0, 1) := by decide +kernel
theorem dX5_isWorker_2 : decode cX5_isWorker 2 = .ok (.aload_n 0, 1) := by decide +kernel
theorem dX5_isWorker_3 : decode cX5_isWorker 3 = .ok (.getfield 7, 3) := by decide +kernel
theorem dX5_isWorker_6 : decode cX5_isWorker 6 = .ok (.iconst 1, 1) := by decide +kernel
theorem dX5_isWorker_7 : decode cX5_isWorker 7 = .ok (.isub, 1) := by decide +kernel
theorem dX5_isWorker_8 : decode cX5_isWorker 8 = .ok (.invokestatic 93, 3) := by decide +kernel
theorem dX5_isWorker_11 : decode cX5_isWorker 11 = .ok (.ireturn, 1) := by decide +kernel
theorem dX5_workerOfGroup_0 : decode cX5_workerOfGroup 0 = .ok (.iload_n 0, 1) := by decide +kernel
theorem dX5_workerOfGroup_1 : decode cX5_workerOfGroup 1 = .ok (.iload_n 1, 1) := by decide +kernel
theorem dX5_workerOfGroup_2 : decode cX5_workerOfGroup 2 = .ok (.imul, 1) := by decide +kernel
theorem dX5_workerOfGroup_3 : decode cX5_workerOfGroup 3 = .ok (.bipush 8, 2) := by decide +kernel
theorem dX5_workerOfGroup_5 : decode cX5_workerOfGroup 5 = .ok (.idiv, 1) := by decide +kernel
theorem dX5_workerOfGroup_6 : decode cX5_workerOfGroup 6 = .ok (.ireturn, 1) := by decide +kernel
set_option maxRecDepth 20000 in
theorem ggX5_workerOfKey_X5_workerOfGroup : GoodIn wsX5_workerOfKey wsX5_workerOfGroup := goodIn_r _ [5] (by decide +kernel) (by decide +kernel)
set_option maxRecDepth 20000 in
theorem gX5_workerOfKey_X5_workerOfGroup : GoodIn wsX5_workerOfKey (va_wsS RX5 97 yX5_workerOfGroup wsX5_workerOfGroup) := goodIn_app (goodIn_of _ (by decide +kernel)) ggX5_workerOfKey_X5_workerOfGroup
theorem dX5_workerOfKey_0 : decode cX5_workerOfKey 0 = .ok (.iload_n 1, 1) := by decide +kernel
theorem dX5_workerOfKey_1 : decode cX5_workerOfKey 1 = .ok (.bipush 8, 2) := by decide +kernel
theorem dX5_workerOfKey_3 : decode cX5_workerOfKey 3 = .ok (.irem, 1) := by decide +kernel
theorem dX5_workerOfKey_4 : decode cX5_workerOfKey 4 = .ok (.aload_n 0, 1) := by decide +kernel
theorem dX5_workerOfKey_5 : decode cX5_workerOfKey 5 = .ok (.getfield 7, 3) := by decide +kernel
theorem dX5_workerOfKey_8 : decode cX5_workerOfKey 8 = .ok (.invokestatic 97, 3) := by decide +kernel
theorem dX5_workerOfKey_11 : decode cX5_workerOfKey 11 = .ok (.ireturn, 1) := by decide +kernel
theorem dX5_channel_0 : decode cX5_channel 0 = .ok (.iconst 4, 1) := by decide +kernel
theorem dX5_channel_1 : decode cX5_channel 1 = .ok (.iload_n 0, 1) := by decide +kernel
theorem dX5_channel_2 : decode cX5_channel 2 = .ok (.imul, 1) := by decide +kernel
theorem dX5_channel_3 : decode cX5_channel 3 = .ok (.iload_n 1, 1) := by decide +kernel
theorem dX5_channel_4 : decode cX5_channel 4 = .ok (.iadd, 1) := by decide +kernel
theorem dX5_channel_5 : decode cX5_channel 5 = .ok (.ireturn, 1) := by decide +kernel
theorem dX5_unseals_0 : decode cX5_unseals 0 = .ok (.iconst 0, 1) := by decide +kernel
theorem dX5_unseals_1 : decode cX5_unseals 1 = .ok (.istore_n 1, 1) := by decide +kernel
theorem dX5_unseals_2 : decode cX5_unseals 2 = .ok (.iload_n 1, 1) := by decide +kernel
theorem dX5_unseals_3 : decode cX5_unseals 3 = .ok (.iconst 4, 1) := by decide +kernel
theorem dX5_unseals_4 : decode cX5_unseals 4 = .ok (.if_icmp .ge 16, 3) := by decide +kernel
theorem dX5_unseals_7 : decode cX5_unseals 7 = .ok (.aload_n 0, 1) := by decide +kernel
theorem dX5_unseals_8 : decode cX5_unseals 8 = .ok (.getfield 51, 3) := by decide +kernel
theorem dX5_unseals_11 : decode cX5_unseals 11 = .ok (.iload_n 1, 1) := by decide +kernel
theorem dX5_unseals_12 : decode cX5_unseals 12 = .ok (.iconst (-1), 1) := by decide +kernel
theorem dX5_unseals_13 : decode cX5_unseals 13 = .ok (.iastore, 1) := by decide +kernel
theorem dX5_unseals_14 : decode cX5_unseals 14 = .ok (.iinc 1 1, 3) := by decide +kernel
theorem dX5_unseals_17 : decode cX5_unseals 17 = .ok (.goto (-15), 3) := by decide +kernel
theorem dX5_unseals_20 : decode cX5_unseals 20 = .ok (.return_, 1) := by decide +kernel
theorem dX5_copies_0 : decode cX5_copies 0 = .ok (.iconst 0, 1) := by decide +kernel
theorem dX5_copies_1 : decode cX5_copies 1 = .ok (.istore_n 2, 1) := by decide +kernel
theorem dX5_copies_2 : decode cX5_copies 2 = .ok (.iload_n 2, 1) := by decide +kernel
theorem dX5_copies_3 : decode cX5_copies 3 = .ok (.aload_n 0, 1) := by decide +kernel
theorem dX5_copies_4 : decode cX5_copies 4 = .ok (.arraylength, 1) := by decide +kernel
theorem dX5_copies_5 : decode cX5_copies 5 = .ok (.if_icmp .ge 15, 3) := by decide +kernel
theorem dX5_copies_8 : decode cX5_copies 8 = .ok (.aload_n 1, 1) := by decide +kernel
theorem dX5_copies_9 : decode cX5_copies 9 = .ok (.iload_n 2, 1) := by decide +kernel
theorem dX5_copies_10 : decode cX5_copies 10 = .ok (.aload_n 0, 1) := by decide +kernel
theorem dX5_copies_11 : decode cX5_copies 11 = .ok (.iload_n 2, 1) := by decide +kernel
theorem dX5_copies_12 : decode cX5_copies 12 = .ok (.iaload, 1) := by decide +kernel
theorem dX5_copies_13 : decode cX5_copies 13 = .ok (.iastore, 1) := by decide +kernel
theorem dX5_copies_14 : decode cX5_copies 14 = .ok (.iinc 2 1, 3) := by decide +kernel
theorem dX5_copies_17 : decode cX5_copies 17 = .ok (.goto (-15), 3) := by decide +kernel
theorem dX5_copies_20 : decode cX5_copies 20 = .ok (.return_, 1) := by decide +kernel
theorem dX5_clears_0 : decode cX5_clears 0 = .ok (.iconst 0, 1) := by decide +kernel
theorem dX5_clears_1 : decode cX5_clears 1 = .ok (.istore_n 1, 1) := by decide +kernel
theorem dX5_clears_2 : decode cX5_clears 2 = .ok (.iload_n 1, 1) := by decide +kernel
theorem dX5_clears_3 : decode cX5_clears 3 = .ok (.aload_n 0, 1) := by decide +kernel
theorem dX5_clears_4 : decode cX5_clears 4 = .ok (.arraylength, 1) := by decide +kernel
theorem dX5_clears_5 : decode cX5_clears 5 = .ok (.if_icmp .ge 13, 3) := by decide +kernel
theorem dX5_clears_8 : decode cX5_clears 8 = .ok (.aload_n 0, 1) := by decide +kernel
theorem dX5_clears_9 : decode cX5_clears 9 = .ok (.iload_n 1, 1) := by decide +kernel
theorem dX5_clears_10 : decode cX5_clears 10 = .ok (.iconst 0, 1) := by decide +kernel
theorem dX5_clears_11 : decode cX5_clears 11 = .ok (.iastore, 1) := by decide +kernel
theorem dX5_clears_12 : decode cX5_clears 12 = .ok (.iinc 1 1, 3) := by decide +kernel
theorem dX5_clears_15 : decode cX5_clears 15 = .ok (.goto (-13), 3) := by decide +kernel
theorem dX5_clears_18 : decode cX5_clears 18 = .ok (.return_, 1) := by decide +kernel
set_option maxRecDepth 20000 in
theorem ggX5_append_X5_isPartition : GoodIn wsX5_append wsX5_isPartition := goodIn_r _ [6, 7, 8, 5, 9] (by decide +kernel) (by decide +kernel)
set_option maxRecDepth 20000 in
theorem gX5_append_X5_isPartition : GoodIn wsX5_append (va_wsS RX5 101 yX5_isPartition wsX5_isPartition) := goodIn_app (goodIn_of _ (by decide +kernel)) ggX5_append_X5_isPartition
set_option maxRecDepth 20000 in
theorem ggX5_append_X5_isKey : GoodIn wsX5_append wsX5_isKey := goodIn_r _ [12, 7, 8, 5, 9] (by decide +kernel) (by decide +kernel)
set_option maxRecDepth 20000 in
theorem gX5_append_X5_isKey : GoodIn wsX5_append (va_wsS RX5 105 yX5_isKey wsX5_isKey) := goodIn_app (goodIn_of _ (by decide +kernel)) ggX5_append_X5_isKey
set_option maxRecDepth 20000 in
theorem ggX5_append_X5_in : GoodIn wsX5_append wsX5_in := goodIn_r _ [9] (by decide +kernel) (by decide +kernel)
set_option maxRecDepth 20000 in
theorem gX5_append_X5_in : GoodIn wsX5_append (va_wsS RX5 93 yX5_in wsX5_in) := goodIn_app (goodIn_of _ (by decide +kernel)) ggX5_append_X5_in
set_option maxRecDepth 20000 in
theorem ggX5_append_X5_holds : GoodIn wsX5_append wsX5_holds := goodIn_r _ [16, 17, 18, 19, 20, 21, 22, 23, 24, 25, 26, 27, 28, 29, 30, 31, 32, 33, 34, 35, 36, 37, 38, 39, 40, 41, 42, 43, 44] (by decide +kernel) (by decide +kernel)
set_option maxRecDepth 20000 in
theorem gX5_append_X5_holds : GoodIn wsX5_append (wsV RX5 108 RX5 yX5_holds wsX5_holds) := goodIn_app (goodIn_of _ (by decide +kernel)) ggX5_append_X5_holds
theorem dX5_append_0 : decode cX5_append 0 = .ok (.iload_n 1, 1) := by decide +kernel
theorem dX5_append_1 : decode cX5_append 1 = .ok (.invokestatic 101, 3) := by decide +kernel
theorem dX5_append_4 : decode cX5_append 4 = .ok (.ifCond .eq 14, 3) := by decide +kernel
theorem dX5_append_7 : decode cX5_append 7 = .ok (.iload_n 2, 1) := by decide +kernel
theorem dX5_append_8 : decode cX5_append 8 = .ok (.invokestatic 105, 3) := by decide +kernel
theorem dX5_append_11 : decode cX5_append 11 = .ok (.ifCond .eq 7, 3) := by decide +kernel
theorem dX5_append_14 : decode cX5_append 14 = .ok (.iconst 1, 1) := by decide +kernel
theorem dX5_append_15 : decode cX5_append 15 = .ok (.goto 4, 3) := by decide +kernel
theorem dX5_append_18 : decode cX5_append 18 = .ok (.iconst 0, 1) := by decide +kernel
theorem dX5_append_19 : decode cX5_append 19 = .ok (.istore 4, 2) := by decide +kernel
theorem dX5_append_21 : decode cX5_append 21 = .ok (.aload_n 0, 1) := by decide +kernel
theorem dX5_append_22 : decode cX5_append 22 = .ok (.iload 4, 2) := by decide +kernel
theorem dX5_append_24 : decode cX5_append 24 = .ok (.ifCond .ne 7, 3) := by decide +kernel
theorem dX5_append_27 : decode cX5_append 27 = .ok (.iconst 1, 1) := by decide +kernel
theorem dX5_append_28 : decode cX5_append 28 = .ok (.goto 33, 3) := by decide +kernel
theorem dX5_append_31 : decode cX5_append 31 = .ok (.iload_n 3, 1) := by decide +kernel
theorem dX5_append_32 : decode cX5_append 32 = .ok (.iconst 1, 1) := by decide +kernel
theorem dX5_append_33 : decode cX5_append 33 = .ok (.bipush 100, 2) := by decide +kernel
theorem dX5_append_35 : decode cX5_append 35 = .ok (.invokestatic 93, 3) := by decide +kernel
theorem dX5_append_38 : decode cX5_append 38 = .ok (.ifCond .ne 7, 3) := by decide +kernel
theorem dX5_append_41 : decode cX5_append 41 = .ok (.iconst 2, 1) := by decide +kernel
theorem dX5_append_42 : decode cX5_append 42 = .ok (.goto 19, 3) := by decide +kernel
theorem dX5_append_45 : decode cX5_append 45 = .ok (.aload_n 0, 1) := by decide +kernel
theorem dX5_append_46 : decode cX5_append 46 = .ok (.getfield 13, 3) := by decide +kernel
theorem dX5_append_49 : decode cX5_append 49 = .ok (.iload_n 1, 1) := by decide +kernel
theorem dX5_append_50 : decode cX5_append 50 = .ok (.iaload, 1) := by decide +kernel
theorem dX5_append_51 : decode cX5_append 51 = .ok (.bipush 60, 2) := by decide +kernel
theorem dX5_append_53 : decode cX5_append 53 = .ok (.if_icmp .ne 7, 3) := by decide +kernel
theorem dX5_append_56 : decode cX5_append 56 = .ok (.iconst 3, 1) := by decide +kernel
theorem dX5_append_57 : decode cX5_append 57 = .ok (.goto 4, 3) := by decide +kernel
theorem dX5_append_60 : decode cX5_append 60 = .ok (.iconst 0, 1) := by decide +kernel
theorem dX5_append_61 : decode cX5_append 61 = .ok (.invokevirtual 108, 3) := by decide +kernel
theorem dX5_append_64 : decode cX5_append 64 = .ok (.ifCond .ne 5, 3) := by decide +kernel
theorem dX5_append_67 : decode cX5_append 67 = .ok (.iconst 0, 1) := by decide +kernel
theorem dX5_append_68 : decode cX5_append 68 = .ok (.ireturn, 1) := by decide +kernel
theorem dX5_append_69 : decode cX5_append 69 = .ok (.aload_n 0, 1) := by decide +kernel
theorem dX5_append_70 : decode cX5_append 70 = .ok (.getfield 20, 3) := by decide +kernel
theorem dX5_append_73 : decode cX5_append 73 = .ok (.bipush 60, 2) := by decide +kernel
theorem dX5_append_75 : decode cX5_append 75 = .ok (.iload_n 1, 1) := by decide +kernel
theorem dX5_append_76 : decode cX5_append 76 = .ok (.imul, 1) := by decide +kernel
theorem dX5_append_77 : decode cX5_append 77 = .ok (.aload_n 0, 1) := by decide +kernel
theorem dX5_append_78 : decode cX5_append 78 = .ok (.getfield 13, 3) := by decide +kernel
theorem dX5_append_81 : decode cX5_append 81 = .ok (.iload_n 1, 1) := by decide +kernel
theorem dX5_append_82 : decode cX5_append 82 = .ok (.iaload, 1) := by decide +kernel
theorem dX5_append_83 : decode cX5_append 83 = .ok (.iadd, 1) := by decide +kernel
theorem dX5_append_84 : decode cX5_append 84 = .ok (.sipush 1000, 3) := by decide +kernel
theorem dX5_append_87 : decode cX5_append 87 = .ok (.iload_n 2, 1) := by decide +kernel
theorem dX5_append_88 : decode cX5_append 88 = .ok (.imul, 1) := by decide +kernel
theorem dX5_append_89 : decode cX5_append 89 = .ok (.iload_n 3, 1) := by decide +kernel
theorem dX5_append_90 : decode cX5_append 90 = .ok (.iadd, 1) := by decide +kernel
theorem dX5_append_91 : decode cX5_append 91 = .ok (.iastore, 1) := by decide +kernel
theorem dX5_append_92 : decode cX5_append 92 = .ok (.aload_n 0, 1) := by decide +kernel
theorem dX5_append_93 : decode cX5_append 93 = .ok (.getfield 13, 3) := by decide +kernel
theorem dX5_append_96 : decode cX5_append 96 = .ok (.iload_n 1, 1) := by decide +kernel
theorem dX5_append_97 : decode cX5_append 97 = .ok (.dup2, 1) := by decide +kernel
theorem dX5_append_98 : decode cX5_append 98 = .ok (.iaload, 1) := by decide +kernel
theorem dX5_append_99 : decode cX5_append 99 = .ok (.iconst 1, 1) := by decide +kernel
theorem dX5_append_100 : decode cX5_append 100 = .ok (.iadd, 1) := by decide +kernel
theorem dX5_append_101 : decode cX5_append 101 = .ok (.iastore, 1) := by decide +kernel
theorem dX5_append_102 : decode cX5_append 102 = .ok (.aload_n 0, 1) := by decide +kernel
theorem dX5_append_103 : decode cX5_append 103 = .ok (.getfield 13, 3) := by decide +kernel
theorem dX5_append_106 : decode cX5_append 106 = .ok (.iload_n 1, 1) := by decide +kernel
theorem dX5_append_107 : decode cX5_append 107 = .ok (.iaload, 1) := by decide +kernel
theorem dX5_append_108 : decode cX5_append 108 = .ok (.iconst 1, 1) := by decide +kernel
theorem dX5_append_109 : decode cX5_append 109 = .ok (.isub, 1) := by decide +kernel
theorem dX5_append_110 : decode cX5_append 110 = .ok (.ireturn, 1) := by decide +kernel
theorem dX5_puts_0 : decode cX5_puts 0 = .ok (.aload_n 0, 1) := by decide +kernel
theorem dX5_puts_1 : decode cX5_puts 1 = .ok (.getfield 23, 3) := by decide +kernel
theorem dX5_puts_4 : decode cX5_puts 4 = .ok (.bipush 8, 2) := by decide +kernel
theorem dX5_puts_6 : decode cX5_puts 6 = .ok (.iload_n 1, 1) := by decide +kernel
theorem dX5_puts_7 : decode cX5_puts 7 = .ok (.imul, 1) := by decide +kernel
theorem dX5_puts_8 : decode cX5_puts 8 = .ok (.aload_n 0, 1) := by decide +kernel
theorem dX5_puts_9 : decode cX5_puts 9 = .ok (.getfield 26, 3) := by decide +kernel
theorem dX5_puts_12 : decode cX5_puts 12 = .ok (.iload_n 1, 1) := by decide +kernel
theorem dX5_puts_13 : decode cX5_puts 13 = .ok (.iaload, 1) := by decide +kernel
theorem dX5_puts_14 : decode cX5_puts 14 = .ok (.iadd, 1) := by decide +kernel
theorem dX5_puts_15 : decode cX5_puts 15 = .ok (.iload_n 2, 1) := by decide +kernel
theorem dX5_puts_16 : decode cX5_puts 16 = .ok (.iastore, 1) := by decide +kernel
theorem dX5_puts_17 : decode cX5_puts 17 = .ok (.aload_n 0, 1) := by decide +kernel
theorem dX5_puts_18 : decode cX5_puts 18 = .ok (.getfield 26, 3) := by decide +kernel
theorem dX5_puts_21 : decode cX5_puts 21 = .ok (.iload_n 1, 1) := by decide +kernel
theorem dX5_puts_22 : decode cX5_puts 22 = .ok (.dup2, 1) := by decide +kernel
theorem dX5_puts_23 : decode cX5_puts 23 = .ok (.iaload, 1) := by decide +kernel
theorem dX5_puts_24 : decode cX5_puts 24 = .ok (.iconst 1, 1) := by decide +kernel
theorem dX5_puts_25 : decode cX5_puts 25 = .ok (.iadd, 1) := by decide +kernel
theorem dX5_puts_26 : decode cX5_puts 26 = .ok (.iastore, 1) := by decide +kernel
theorem dX5_puts_27 : decode cX5_puts 27 = .ok (.return_, 1) := by decide +kernel
theorem dX5_nextEvent_0 : decode cX5_nextEvent 0 = .ok (.aload_n 0, 1) := by decide +kernel
theorem dX5_nextEvent_1 : decode cX5_nextEvent 1 = .ok (.getfield 20, 3) := by decide +kernel
theorem dX5_nextEvent_4 : decode cX5_nextEvent 4 = .ok (.bipush 60, 2) := by decide +kernel
theorem dX5_nextEvent_6 : decode cX5_nextEvent 6 = .ok (.iload_n 1, 1) := by decide +kernel
theorem dX5_nextEvent_7 : decode cX5_nextEvent 7 = .ok (.imul, 1) := by decide +kernel
theorem dX5_nextEvent_8 : decode cX5_nextEvent 8 = .ok (.aload_n 0, 1) := by decide +kernel
theorem dX5_nextEvent_9 : decode cX5_nextEvent 9 = .ok (.getfield 17, 3) := by decide +kernel
theorem dX5_nextEvent_12 : decode cX5_nextEvent 12 = .ok (.iload_n 1, 1) := by decide +kernel
theorem dX5_nextEvent_13 : decode cX5_nextEvent 13 = .ok (.iaload, 1) := by decide +kernel
theorem dX5_nextEvent_14 : decode cX5_nextEvent 14 = .ok (.iadd, 1) := by decide +kernel
theorem dX5_nextEvent_15 : decode cX5_nextEvent 15 = .ok (.iaload, 1) := by decide +kernel
theorem dX5_nextEvent_16 : decode cX5_nextEvent 16 = .ok (.ireturn, 1) := by decide +kernel
set_option maxRecDepth 20000 in
theorem ggX5_canRead_X5_nextEvent : GoodIn wsX5_canRead wsX5_nextEvent := goodIn_r _ [8, 9, 1, 21, 22, 23, 24, 25, 26, 27, 28, 29, 30, 31, 32, 33, 34, 35, 36, 37, 38, 39, 40, 41, 42, 43, 44, 45, 46, 47] (by decide +kernel) (by decide +kernel)
set_option maxRecDepth 20000 in
theorem gX5_canRead_X5_nextEvent : GoodIn wsX5_canRead (wsV RX5 111 RX5 yX5_nextEvent wsX5_nextEvent) := goodIn_app (goodIn_of _ (by decide +kernel)) ggX5_canRead_X5_nextEvent
set_option maxRecDepth 20000 in
theorem ggX5_canRead_X5_workerOfKey : GoodIn wsX5_canRead wsX5_workerOfKey := goodIn_r _ [13, 14, 15, 16, 7, 17, 21, 22, 23, 24, 25, 26, 27, 28, 29, 30, 31, 32, 33, 34, 35, 36, 37, 38, 39, 40, 41, 42, 43, 44, 45, 46, 47] (by decide +kernel) (by decide +kernel)
set_option maxRecDepth 20000 in
theorem gX5_canRead_X5_workerOfKey : GoodIn wsX5_canRead (wsV RX5 115 RX5 yX5_workerOfKey wsX5_workerOfKey) := goodIn_app (goodIn_of _ (by decide +kernel)) ggX5_canRead_X5_workerOfKey
set_option maxRecDepth 20000 in
theorem ggX5_canRead_X5_channel : GoodIn wsX5_canRead wsX5_channel := goodIn_r _ [20] (by decide +kernel) (by decide +kernel)
set_option maxRecDepth 20000 in
theorem gX5_canRead_X5_channel : GoodIn wsX5_canRead (va_wsS RX5 118 yX5_channel wsX5_channel) := goodIn_app (goodIn_of _ (by decide +kernel)) ggX5_canRead_X5_channel
theorem dX5_canRead_0 : decode cX5_canRead 0 = .ok (.aload_n 0, 1) := by decide +kernel
theorem dX5_canRead_1 : decode cX5_canRead 1 = .ok (.getfield 17, 3) := by decide +kernel
theorem dX5_canRead_4 : decode cX5_canRead 4 = .ok (.iload_n 1, 1) := by decide +kernel
theorem dX5_canRead_5 : decode cX5_canRead 5 = .ok (.iaload, 1) := by decide +kernel
theorem dX5_canRead_6 : decode cX5_canRead 6 = .ok (.aload_n 0, 1) := by decide +kernel
theorem dX5_canRead_7 : decode cX5_canRead 7 = .ok (.getfield 13, 3) := by decide +kernel
theorem dX5_canRead_10 : decode cX5_canRead 10 = .ok (.iload_n 1, 1) := by decide +kernel
theorem dX5_canRead_11 : decode cX5_canRead 11 = .ok (.iaload, 1) := by decide +kernel
theorem dX5_canRead_12 : decode cX5_canRead 12 = .ok (.if_icmp .ge 34, 3) := by decide +kernel
theorem dX5_canRead_15 : decode cX5_canRead 15 = .ok (.aload_n 0, 1) := by decide +kernel
theorem dX5_canRead_16 : decode cX5_canRead 16 = .ok (.getfield 26, 3) := by decide +kernel
theorem dX5_canRead_19 : decode cX5_canRead 19 = .ok (.iload_n 1, 1) := by decide +kernel
theorem dX5_canRead_20 : decode cX5_canRead 20 = .ok (.aload_n 0, 1) := by decide +kernel
theorem dX5_canRead_21 : decode cX5_canRead 21 = .ok (.aload_n 0, 1) := by decide +kernel
theorem dX5_canRead_22 : decode cX5_canRead 22 = .ok (.iload_n 1, 1) := by decide +kernel
theorem dX5_canRead_23 : decode cX5_canRead 23 = .ok (.invokevirtual 111, 3) := by decide +kernel
theorem dX5_canRead_26 : decode cX5_canRead 26 = .ok (.sipush 1000, 3) := by decide +kernel
theorem dX5_canRead_29 : decode cX5_canRead 29 = .ok (.idiv, 1) := by decide +kernel
theorem dX5_canRead_30 : decode cX5_canRead 30 = .ok (.invokevirtual 115, 3) := by decide +kernel
theorem dX5_canRead_33 : decode cX5_canRead 33 = .ok (.invokestatic 118, 3) := by decide +kernel
theorem dX5_canRead_36 : decode cX5_canRead 36 = .ok (.iaload, 1) := by decide +kernel
theorem dX5_canRead_37 : decode cX5_canRead 37 = .ok (.bipush 8, 2) := by decide +kernel
theorem dX5_canRead_39 : decode cX5_canRead 39 = .ok (.if_icmp .ge 7, 3) := by decide +kernel
theorem dX5_canRead_42 : decode cX5_canRead 42 = .ok (.iconst 1, 1) := by decide +kernel
theorem dX5_canRead_43 : decode cX5_canRead 43 = .ok (.goto 4, 3) := by decide +kernel
theorem dX5_canRead_46 : decode cX5_canRead 46 = .ok (.iconst 0, 1) := by decide +kernel
theorem dX5_canRead_47 : decode cX5_canRead 47 = .ok (.ireturn, 1) := by decide +kernel
set_option maxRecDepth 20000 in
theorem ggX5_reads_X5_nextEvent : GoodIn wsX5_reads wsX5_nextEvent := goodIn_r _ [6, 7, 1, 25, 26, 27, 28, 29, 30, 31, 32, 33, 34, 35, 36, 37, 38, 39, 40, 41, 42, 43, 44, 45, 46, 47, 48, 49, 50, 51] (by decide +kernel) (by decide +kernel)
set_option maxRecDepth 20000 in
theorem gX5_reads_X5_nextEvent : GoodIn wsX5_reads (wsV RX5 111 RX5 yX5_nextEvent wsX5_nextEvent) := goodIn_app (goodIn_of _ (by decide +kernel)) ggX5_reads_X5_nextEvent
set_option maxRecDepth 20000 in
theorem ggX5_reads_X5_workerOfKey : GoodIn wsX5_reads wsX5_workerOfKey := goodIn_r _ [11, 12, 13, 14, 5, 15, 25, 26, 27, 28, 29, 30, 31, 32, 33, 34, 35, 36, 37, 38, 39, 40, 41, 42, 43, 44, 45, 46, 47, 48, 49, 50, 51] (by decide +kernel) (by decide +kernel)
set_option maxRecDepth 20000 in
theorem gX5_reads_X5_workerOfKey : GoodIn wsX5_reads (wsV RX5 115 RX5 yX5_workerOfKey wsX5_workerOfKey) := goodIn_app (goodIn_of _ (by decide +kernel)) ggX5_reads_X5_workerOfKey
set_option maxRecDepth 20000 in
theorem ggX5_reads_X5_channel : GoodIn wsX5_reads wsX5_channel := goodIn_r _ [18] (by decide +kernel) (by decide +kernel)
set_option maxRecDepth 20000 in
theorem gX5_reads_X5_channel : GoodIn wsX5_reads (va_wsS RX5 118 yX5_channel wsX5_channel) := goodIn_app (goodIn_of _ (by decide +kernel)) ggX5_reads_X5_channel
set_option maxRecDepth 20000 in
theorem ggX5_reads_X5_puts : GoodIn wsX5_reads wsX5_puts := goodIn_r _ [22, 23, 24, 25, 26, 27, 28, 29, 30, 31, 32, 33, 34, 35, 36, 37, 38, 39, 40, 41, 42, 43, 44, 45, 46, 47, 48, 49, 50, 51] (by decide +kernel) (by decide +kernel)
set_option maxRecDepth 20000 in
theorem gX5_reads_X5_puts : GoodIn wsX5_reads (wsV RX5 121 RX5 yX5_puts wsX5_puts) := goodIn_app (goodIn_of _ (by decide +kernel)) ggX5_reads_X5_puts
theorem dX5_reads_0 : decode cX5_reads 0 = .ok (.aload_n 0, 1) := by decide +kernel
theorem dX5_reads_1 : decode cX5_reads 1 = .ok (.iload_n 1, 1) := by decide +kernel
theorem dX5_reads_2 : decode cX5_reads 2 = .ok (.invokevirtual 111, 3) := by decide +kernel
theorem dX5_reads_5 : decode cX5_reads 5 = .ok (.istore_n 2, 1) := by decide +kernel
theorem dX5_reads_6 : decode cX5_reads 6 = .ok (.aload_n 0, 1) := by decide +kernel
theorem dX5_reads_7 : decode cX5_reads 7 = .ok (.iload_n 2, 1) := by decide +kernel
theorem dX5_reads_8 : decode cX5_reads 8 = .ok (.sipush 1000, 3) := by decide +kernel
theorem dX5_reads_11 : decode cX5_reads 11 = .ok (.idiv, 1) := by decide +kernel
theorem dX5_reads_12 : decode cX5_reads 12 = .ok (.invokevirtual 115, 3) := by decide +kernel
theorem dX5_reads_15 : decode cX5_reads 15 = .ok (.istore_n 3, 1) := by decide +kernel
theorem dX5_reads_16 : decode cX5_reads 16 = .ok (.aload_n 0, 1) := by decide +kernel
theorem dX5_reads_17 : decode cX5_reads 17 = .ok (.iload_n 1, 1) := by decide +kernel
theorem dX5_reads_18 : decode cX5_reads 18 = .ok (.iload_n 3, 1) := by decide +kernel
theorem dX5_reads_19 : decode cX5_reads 19 = .ok (.invokestatic 118, 3) := by decide +kernel
theorem dX5_reads_22 : decode cX5_reads 22 = .ok (.iload_n 2, 1) := by decide +kernel
theorem dX5_reads_23 : decode cX5_reads 23 = .ok (.invokevirtual 121, 3) := by decide +kernel
theorem dX5_reads_26 : decode cX5_reads 26 = .ok (.aload_n 0, 1) := by decide +kernel
theorem dX5_reads_27 : decode cX5_reads 27 = .ok (.getfield 17, 3) := by decide +kernel
theorem dX5_reads_30 : decode cX5_reads 30 = .ok (.iload_n 1, 1) := by decide +kernel
theorem dX5_reads_31 : decode cX5_reads 31 = .ok (.dup2, 1) := by decide +kernel
theorem dX5_reads_32 : decode cX5_reads 32 = .ok (.iaload, 1) := by decide +kernel
theorem dX5_reads_33 : decode cX5_reads 33 = .ok (.iconst 1, 1) := by decide +kernel
theorem dX5_reads_34 : decode cX5_reads 34 = .ok (.iadd, 1) := by decide +kernel
theorem dX5_reads_35 : decode cX5_reads 35 = .ok (.iastore, 1) := by decide +kernel
theorem dX5_reads_36 : decode cX5_reads 36 = .ok (.iload_n 3, 1) := by decide +kernel
theorem dX5_reads_37 : decode cX5_reads 37 = .ok (.ireturn, 1) := by decide +kernel
set_option maxRecDepth 20000 in
theorem ggX5_read_X5_isPartition : GoodIn wsX5_read wsX5_isPartition := goodIn_r _ [4, 5, 6, 3, 7] (by decide +kernel) (by decide +kernel)
set_option maxRecDepth 20000 in
theorem gX5_read_X5_isPartition : GoodIn wsX5_read (va_wsS RX5 101 yX5_isPartition wsX5_isPartition) := goodIn_app (goodIn_of _ (by decide +kernel)) ggX5_read_X5_isPartition
set_option maxRecDepth 20000 in
theorem ggX5_read_X5_canRead : GoodIn wsX5_read wsX5_canRead := goodIn_r _ [11, 12, 13, 14, 15, 16, 17, 3, 18, 19, 20, 21, 22, 23, 24, 25, 26, 27, 28, 29, 30, 45, 46, 47, 48, 49, 50, 51, 52, 53, 54, 55, 56, 57, 58, 59, 60, 61, 62, 63, 64, 65, 66, 67, 68, 69, 70, 71] (by decide +kernel) (by decide +kernel)
set_option maxRecDepth 20000 in
theorem gX5_read_X5_canRead : GoodIn wsX5_read (wsV RX5 125 RX5 yX5_canRead wsX5_canRead) := goodIn_app (goodIn_of _ (by decide +kernel)) ggX5_read_X5_canRead
set_option maxRecDepth 20000 in
theorem ggX5_read_X5_holds : GoodIn wsX5_read wsX5_holds := goodIn_r _ [34, 35, 45, 46, 47, 48, 49, 50, 51, 52, 53, 54, 55, 56, 57, 58, 59, 60, 61, 62, 63, 64, 65, 66, 67, 68, 69, 70, 71] (by decide +kernel) (by decide +kernel)
set_option maxRecDepth 20000 in
theorem gX5_read_X5_holds : GoodIn wsX5_read (wsV RX5 108 RX5 yX5_holds wsX5_holds) := goodIn_app (goodIn_of _ (by decide +kernel)) ggX5_read_X5_holds
set_option maxRecDepth 20000 in
theorem ggX5_read_X5_reads : GoodIn wsX5_read wsX5_reads := goodIn_r _ [39, 12, 15, 16, 17, 3, 18, 19, 20, 21, 22, 23, 24, 25, 26, 27, 28, 29, 30, 40, 41, 42, 43, 44, 14, 45, 46, 47, 48, 49, 50, 51, 52, 53, 54, 55, 56, 57, 58, 59, 60, 61, 62, 63, 64, 65, 66, 67, 68, 69, 70, 71] (by decide +kernel) (by decide +kernel)
set_option maxRecDepth 20000 in
theorem gX5_read_X5_reads : GoodIn wsX5_read (wsV RX5 128 RX5 yX5_reads wsX5_reads) := goodIn_app (goodIn_of _ (by decide +kernel)) ggX5_read_X5_reads
theorem dX5_read_0 : decode cX5_read 0 = .ok (.aload_n 0, 1) := by decide +kernel
theorem dX5_read_1 : decode cX5_read 1 = .ok (.iload_n 1, 1) := by decide +kernel
theorem dX5_read_2 : decode cX5_read 2 = .ok (.invokestatic 101, 3) := by decide +kernel
theorem dX5_read_5 : decode cX5_read 5 = .ok (.ifCond .ne 7, 3) := by decide +kernel
theorem dX5_read_8 : decode cX5_read 8 = .ok (.iconst 1, 1) := by decide +kernel
theorem dX5_read_9 : decode cX5_read 9 = .ok (.goto 16, 3) := by decide +kernel
theorem dX5_read_12 : decode cX5_read 12 = .ok (.aload_n 0, 1) := by decide +kernel
theorem dX5_read_13 : decode cX5_read 13 = .ok (.iload_n 1, 1) := by decide +kernel
theorem dX5_read_14 : decode cX5_read 14 = .ok (.invokevirtual 125, 3) := by decide +kernel
theorem dX5_read_17 : decode cX5_read 17 = .ok (.ifCond .eq 7, 3) := by decide +kernel
theorem dX5_read_20 : decode cX5_read 20 = .ok (.iconst 0, 1) := by decide +kernel
theorem dX5_read_21 : decode cX5_read 21 = .ok (.goto 4, 3) := by decide +kernel
theorem dX5_read_24 : decode cX5_read 24 = .ok (.iconst 2, 1) := by decide +kernel
theorem dX5_read_25 : decode cX5_read 25 = .ok (.invokevirtual 108, 3) := by decide +kernel
theorem dX5_read_28 : decode cX5_read 28 = .ok (.ifCond .eq 11, 3) := by decide +kernel
theorem dX5_read_31 : decode cX5_read 31 = .ok (.aload_n 0, 1) := by decide +kernel
theorem dX5_read_32 : decode cX5_read 32 = .ok (.iload_n 1, 1) := by decide +kernel
theorem dX5_read_33 : decode cX5_read 33 = .ok (.invokevirtual 128, 3) := by decide +kernel
theorem dX5_read_36 : decode cX5_read 36 = .ok (.goto 4, 3) := by decide +kernel
theorem dX5_read_39 : decode cX5_read 39 = .ok (.iconst 0, 1) := by decide +kernel
theorem dX5_read_40 : decode cX5_read 40 = .ok (.ireturn, 1) := by decide +kernel
set_option maxRecDepth 20000 in
theorem ggX5_canSend_X5_channel : GoodIn wsX5_canSend wsX5_channel := goodIn_r _ [8] (by decide +kernel) (by decide +kernel)
set_option maxRecDepth 20000 in
theorem gX5_canSend_X5_channel : GoodIn wsX5_canSend (va_wsS RX5 118 yX5_channel wsX5_channel) := goodIn_app (goodIn_of _ (by decide +kernel)) ggX5_canSend_X5_channel
theorem dX5_canSend_0 : decode cX5_canSend 0 = .ok (.aload_n 0, 1) := by decide +kernel
theorem dX5_canSend_1 : decode cX5_canSend 1 = .ok (.getfield 60, 3) := by decide +kernel
theorem dX5_canSend_4 : decode cX5_canSend 4 = .ok (.iconst (-1), 1) := by decide +kernel
theorem dX5_canSend_5 : decode cX5_canSend 5 = .ok (.if_icmp .eq 16, 3) := by decide +kernel
theorem dX5_canSend_8 : decode cX5_canSend 8 = .ok (.aload_n 0, 1) := by decide +kernel
theorem dX5_canSend_9 : decode cX5_canSend 9 = .ok (.getfield 66, 3) := by decide +kernel
theorem dX5_canSend_12 : decode cX5_canSend 12 = .ok (.iload_n 1, 1) := by decide +kernel
theorem dX5_canSend_13 : decode cX5_canSend 13 = .ok (.baload, 1) := by decide +kernel
theorem dX5_canSend_14 : decode cX5_canSend 14 = .ok (.ifCond .ne 7, 3) := by decide +kernel
theorem dX5_canSend_17 : decode cX5_canSend 17 = .ok (.iconst 1, 1) := by decide +kernel
theorem dX5_canSend_18 : decode cX5_canSend 18 = .ok (.goto 4, 3) := by decide +kernel
theorem dX5_canSend_21 : decode cX5_canSend 21 = .ok (.iconst 0, 1) := by decide +kernel
theorem dX5_canSend_22 : decode cX5_canSend 22 = .ok (.istore_n 2, 1) := by decide +kernel
theorem dX5_canSend_23 : decode cX5_canSend 23 = .ok (.iconst 0, 1) := by decide +kernel
theorem dX5_canSend_24 : decode cX5_canSend 24 = .ok (.istore_n 3, 1) := by decide +kernel
theorem dX5_canSend_25 : decode cX5_canSend 25 = .ok (.iload_n 3, 1) := by decide +kernel
theorem dX5_canSend_26 : decode cX5_canSend 26 = .ok (.aload_n 0, 1) := by decide +kernel
theorem dX5_canSend_27 : decode cX5_canSend 27 = .ok (.getfield 7, 3) := by decide +kernel
theorem dX5_canSend_30 : decode cX5_canSend 30 = .ok (.if_icmp .ge 34, 3) := by decide +kernel
theorem dX5_canSend_33 : decode cX5_canSend 33 = .ok (.iload_n 2, 1) := by decide +kernel
theorem dX5_canSend_34 : decode cX5_canSend 34 = .ok (.ifCond .eq 22, 3) := by decide +kernel
theorem dX5_canSend_37 : decode cX5_canSend 37 = .ok (.aload_n 0, 1) := by decide +kernel
theorem dX5_canSend_38 : decode cX5_canSend 38 = .ok (.getfield 26, 3) := by decide +kernel
theorem dX5_canSend_41 : decode cX5_canSend 41 = .ok (.iload_n 1, 1) := by decide +kernel
theorem dX5_canSend_42 : decode cX5_canSend 42 = .ok (.iload_n 3, 1) := by decide +kernel
theorem dX5_canSend_43 : decode cX5_canSend 43 = .ok (.invokestatic 118, 3) := by decide +kernel
theorem dX5_canSend_46 : decode cX5_canSend 46 = .ok (.iaload, 1) := by decide +kernel
theorem dX5_canSend_47 : decode cX5_canSend 47 = .ok (.bipush 8, 2) := by decide +kernel
theorem dX5_canSend_49 : decode cX5_canSend 49 = .ok (.if_icmp .ge 7, 3) := by decide +kernel
theorem dX5_canSend_52 : decode cX5_canSend 52 = .ok (.iconst 1, 1) := by decide +kernel
theorem dX5_canSend_53 : decode cX5_canSend 53 = .ok (.goto 4, 3) := by decide +kernel
theorem dX5_canSend_56 : decode cX5_canSend 56 = .ok (.iconst 0, 1) := by decide +kernel
theorem dX5_canSend_57 : decode cX5_canSend 57 = .ok (.istore_n 2, 1) := by decide +kernel
theorem dX5_canSend_58 : decode cX5_canSend 58 = .ok (.iinc 3 1, 3) := by decide +kernel
theorem dX5_canSend_61 : decode cX5_canSend 61 = .ok (.goto (-36), 3) := by decide +kernel
theorem dX5_canSend_64 : decode cX5_canSend 64 = .ok (.iload_n 2, 1) := by decide +kernel
theorem dX5_canSend_65 : decode cX5_canSend 65 = .ok (.ireturn, 1) := by decide +kernel
set_option maxRecDepth 20000 in
theorem ggX5_sendBarrier_X5_isPartition : GoodIn wsX5_sendBarrier wsX5_isPartition := goodIn_r _ [9, 10, 11, 8, 12] (by decide +kernel) (by decide +kernel)
set_option maxRecDepth 20000 in
theorem gX5_sendBarrier_X5_isPartition : GoodIn wsX5_sendBarrier (va_wsS RX5 101 yX5_isPartition wsX5_isPartition) := goodIn_app (goodIn_of _ (by decide +kernel)) ggX5_sendBarrier_X5_isPartition
set_option maxRecDepth 20000 in
theorem ggX5_sendBarrier_X5_canSend : GoodIn wsX5_sendBarrier wsX5_canSend := goodIn_r _ [16, 5, 1, 4, 17, 18, 19, 8, 20, 31, 32, 33, 34, 35, 36, 37, 38, 39, 40, 41, 42, 43, 44, 45, 46, 47, 48, 49, 50, 51, 52, 53, 54, 55, 56, 57] (by decide +kernel) (by decide +kernel)
set_option maxRecDepth 20000 in
theorem gX5_sendBarrier_X5_canSend : GoodIn wsX5_sendBarrier (wsV RX5 131 RX5 yX5_canSend wsX5_canSend) := goodIn_app (goodIn_of _ (by decide +kernel)) ggX5_sendBarrier_X5_canSend
set_option maxRecDepth 20000 in
theorem ggX5_sendBarrier_X5_holds : GoodIn wsX5_sendBarrier wsX5_holds := goodIn_r _ [24, 25, 31, 32, 33, 34, 35, 36, 37, 38, 39, 40, 41, 42, 43, 44, 45, 46, 47, 48, 49, 50, 51, 52, 53, 54, 55, 56, 57] (by decide +kernel) (by decide +kernel)
set_option maxRecDepth 20000 in
theorem gX5_sendBarrier_X5_holds : GoodIn wsX5_sendBarrier (wsV RX5 108 RX5 yX5_holds wsX5_holds) := goodIn_app (goodIn_of _ (by decide +kernel)) ggX5_sendBarrier_X5_holds
set_option maxRecDepth 20000 in
theorem ggX5_sendBarrier_X5_channel : GoodIn wsX5_sendBarrier wsX5_channel := goodIn_r _ [20] (by decide +kernel) (by decide +kernel)
set_option maxRecDepth 20000 in
theorem gX5_sendBarrier_X5_channel : GoodIn wsX5_sendBarrier (va_wsS RX5 118 yX5_channel wsX5_channel) := goodIn_app (goodIn_of _ (by decide +kernel)) ggX5_sendBarrier_X5_channel
set_option maxRecDepth 20000 in
theorem ggX5_sendBarrier_X5_puts : GoodIn wsX5_sendBarrier wsX5_puts := goodIn_r _ [29, 30, 17, 31, 32, 33, 34, 35, 36, 37, 38, 39, 40, 41, 42, 43, 44, 45, 46, 47, 48, 49, 50, 51, 52, 53, 54, 55, 56, 57] (by decide +kernel) (by decide +kernel)
set_option maxRecDepth 20000 in
theorem gX5_sendBarrier_X5_puts : GoodIn wsX5_sendBarrier (wsV RX5 121 RX5 yX5_puts wsX5_puts) := goodIn_app (goodIn_of _ (by decide +kernel)) ggX5_sendBarrier_X5_puts
theorem dX5_sendBarrier_0 : decode cX5_sendBarrier 0 = .ok (.aload_n 0, 1) := by decide +kernel
theorem dX5_sendBarrier_1 : decode cX5_sendBarrier 1 = .ok (.iload_n 1, 1) := by decide +kernel
theorem dX5_sendBarrier_2 : decode cX5_sendBarrier 2 = .ok (.invokestatic 101, 3) := by decide +kernel
theorem dX5_sendBarrier_5 : decode cX5_sendBarrier 5 = .ok (.ifCond .ne 7, 3) := by decide +kernel
theorem dX5_sendBarrier_8 : decode cX5_sendBarrier 8 = .ok (.iconst 1, 1) := by decide +kernel
theorem dX5_sendBarrier_9 : decode cX5_sendBarrier 9 = .ok (.goto 16, 3) := by decide +kernel
theorem dX5_sendBarrier_12 : decode cX5_sendBarrier 12 = .ok (.aload_n 0, 1) := by decide +kernel
theorem dX5_sendBarrier_13 : decode cX5_sendBarrier 13 = .ok (.iload_n 1, 1) := by decide +kernel
theorem dX5_sendBarrier_14 : decode cX5_sendBarrier 14 = .ok (.invokevirtual 131, 3) := by decide +kernel
theorem dX5_sendBarrier_17 : decode cX5_sendBarrier 17 = .ok (.ifCond .eq 7, 3) := by decide +kernel
theorem dX5_sendBarrier_20 : decode cX5_sendBarrier 20 = .ok (.iconst 0, 1) := by decide +kernel
theorem dX5_sendBarrier_21 : decode cX5_sendBarrier 21 = .ok (.goto 4, 3) := by decide +kernel
theorem dX5_sendBarrier_24 : decode cX5_sendBarrier 24 = .ok (.iconst 2, 1) := by decide +kernel
theorem dX5_sendBarrier_25 : decode cX5_sendBarrier 25 = .ok (.invokevirtual 108, 3) := by decide +kernel
theorem dX5_sendBarrier_28 : decode cX5_sendBarrier 28 = .ok (.ifCond .ne 5, 3) := by decide +kernel
theorem dX5_sendBarrier_31 : decode cX5_sendBarrier 31 = .ok (.iconst 0, 1) := by decide +kernel
theorem dX5_sendBarrier_32 : decode cX5_sendBarrier 32 = .ok (.ireturn, 1) := by decide +kernel
theorem dX5_sendBarrier_33 : decode cX5_sendBarrier 33 = .ok (.aload_n 0, 1) := by decide +kernel
theorem dX5_sendBarrier_34 : decode cX5_sendBarrier 34 = .ok (.getfield 66, 3) := by decide +kernel
theorem dX5_sendBarrier_37 : decode cX5_sendBarrier 37 = .ok (.iload_n 1, 1) := by decide +kernel
theorem dX5_sendBarrier_38 : decode cX5_sendBarrier 38 = .ok (.iconst 1, 1) := by decide +kernel
theorem dX5_sendBarrier_39 : decode cX5_sendBarrier 39 = .ok (.bastore, 1) := by decide +kernel
theorem dX5_sendBarrier_40 : decode cX5_sendBarrier 40 = .ok (.aload_n 0, 1) := by decide +kernel
theorem dX5_sendBarrier_41 : decode cX5_sendBarrier 41 = .ok (.getfield 69, 3) := by decide +kernel
theorem dX5_sendBarrier_44 : decode cX5_sendBarrier 44 = .ok (.iload_n 1, 1) := by decide +kernel
theorem dX5_sendBarrier_45 : decode cX5_sendBarrier 45 = .ok (.aload_n 0, 1) := by decide +kernel
theorem dX5_sendBarrier_46 : decode cX5_sendBarrier 46 = .ok (.getfield 17, 3) := by decide +kernel
theorem dX5_sendBarrier_49 : decode cX5_sendBarrier 49 = .ok (.iload_n 1, 1) := by decide +kernel
theorem dX5_sendBarrier_50 : decode cX5_sendBarrier 50 = .ok (.iaload, 1) := by decide +kernel
theorem dX5_sendBarrier_51 : decode cX5_sendBarrier 51 = .ok (.iastore, 1) := by decide +kernel
theorem dX5_sendBarrier_52 : decode cX5_sendBarrier 52 = .ok (.iconst 0, 1) := by decide +kernel
theorem dX5_sendBarrier_53 : decode cX5_sendBarrier 53 = .ok (.istore_n 2, 1) := by decide +kernel
theorem dX5_sendBarrier_54 : decode cX5_sendBarrier 54 = .ok (.iload_n 2, 1) := by decide +kernel
theorem dX5_sendBarrier_55 : decode cX5_sendBarrier 55 = .ok (.aload_n 0, 1) := by decide +kernel
theorem dX5_sendBarrier_56 : decode cX5_sendBarrier 56 = .ok (.getfield 7, 3) := by decide +kernel
theorem dX5_sendBarrier_59 : decode cX5_sendBarrier 59 = .ok (.if_icmp .ge 23, 3) := by decide +kernel
theorem dX5_sendBarrier_62 : decode cX5_sendBarrier 62 = .ok (.aload_n 0, 1) := by decide +kernel
theorem dX5_sendBarrier_63 : decode cX5_sendBarrier 63 = .ok (.iload_n 1, 1) := by decide +kernel
theorem dX5_sendBarrier_64 : decode cX5_sendBarrier 64 = .ok (.iload_n 2, 1) := by decide +kernel
theorem dX5_sendBarrier_65 : decode cX5_sendBarrier 65 = .ok (.invokestatic 118, 3) := by decide +kernel
theorem dX5_sendBarrier_68 : decode cX5_sendBarrier 68 = .ok (.aload_n 0, 1) := by decide +kernel
theorem dX5_sendBarrier_69 : decode cX5_sendBarrier 69 = .ok (.getfield 60, 3) := by decide +kernel
theorem dX5_sendBarrier_72 : decode cX5_sendBarrier 72 = .ok (.ineg, 1) := by decide +kernel
theorem dX5_sendBarrier_73 : decode cX5_sendBarrier 73 = .ok (.invokevirtual 121, 3) := by decide +kernel
theorem dX5_sendBarrier_76 : decode cX5_sendBarrier 76 = .ok (.iinc 2 1, 3) := by decide +kernel
theorem dX5_sendBarrier_79 : decode cX5_sendBarrier 79 = .ok (.goto (-25), 3) := by decide +kernel
theorem dX5_sendBarrier_82 : decode cX5_sendBarrier 82 = .ok (.aload_n 0, 1) := by decide +kernel
theorem dX5_sendBarrier_83 : decode cX5_sendBarrier 83 = .ok (.getfield 17, 3) := by decide +kernel
theorem dX5_sendBarrier_86 : decode cX5_sendBarrier 86 = .ok (.iload_n 1, 1) := by decide +kernel
theorem dX5_sendBarrier_87 : decode cX5_sendBarrier 87 = .ok (.iaload, 1) := by decide +kernel
theorem dX5_sendBarrier_88 : decode cX5_sendBarrier 88 = .ok (.ireturn, 1) := by decide +kernel
set_option maxRecDepth 20000 in
theorem ggX5_canTake_X5_channel : GoodIn wsX5_canTake wsX5_channel := goodIn_r _ [6] (by decide +kernel) (by decide +kernel)
set_option maxRecDepth 20000 in
theorem gX5_canTake_X5_channel : GoodIn wsX5_canTake (va_wsS RX5 118 yX5_channel wsX5_channel) := goodIn_app (goodIn_of _ (by decide +kernel)) ggX5_canTake_X5_channel
theorem dX5_canTake_0 : decode cX5_canTake 0 = .ok (.aload_n 0, 1) := by decide +kernel
theorem dX5_canTake_1 : decode cX5_canTake 1 = .ok (.getfield 26, 3) := by decide +kernel
theorem dX5_canTake_4 : decode cX5_canTake 4 = .ok (.iload_n 2, 1) := by decide +kernel
theorem dX5_canTake_5 : decode cX5_canTake 5 = .ok (.iload_n 1, 1) := by decide +kernel
theorem dX5_canTake_6 : decode cX5_canTake 6 = .ok (.invokestatic 118, 3) := by decide +kernel
theorem dX5_canTake_9 : decode cX5_canTake 9 = .ok (.iaload, 1) := by decide +kernel
theorem dX5_canTake_10 : decode cX5_canTake 10 = .ok (.ifCond .le 20, 3) := by decide +kernel
theorem dX5_canTake_13 : decode cX5_canTake 13 = .ok (.aload_n 0, 1) := by decide +kernel
theorem dX5_canTake_14 : decode cX5_canTake 14 = .ok (.getfield 29, 3) := by decide +kernel
theorem dX5_canTake_17 : decode cX5_canTake 17 = .ok (.iload_n 2, 1) := by decide +kernel
theorem dX5_canTake_18 : decode cX5_canTake 18 = .ok (.iload_n 1, 1) := by decide +kernel
theorem dX5_canTake_19 : decode cX5_canTake 19 = .ok (.invokestatic 118, 3) := by decide +kernel
theorem dX5_canTake_22 : decode cX5_canTake 22 = .ok (.baload, 1) := by decide +kernel
theorem dX5_canTake_23 : decode cX5_canTake 23 = .ok (.ifCond .ne 7, 3) := by decide +kernel
theorem dX5_canTake_26 : decode cX5_canTake 26 = .ok (.iconst 1, 1) := by decide +kernel
theorem dX5_canTake_27 : decode cX5_canTake 27 = .ok (.goto 4, 3) := by decide +kernel
theorem dX5_canTake_30 : decode cX5_canTake 30 = .ok (.iconst 0, 1) := by decide +kernel
theorem dX5_canTake_31 : decode cX5_canTake 31 = .ok (.ireturn, 1) := by decide +kernel
set_option maxRecDepth 20000 in
theorem ggX5_takes_X5_channel : GoodIn wsX5_takes wsX5_channel := goodIn_r _ [12] (by decide +kernel) (by decide +kernel)
set_option maxRecDepth 20000 in
theorem gX5_takes_X5_channel : GoodIn wsX5_takes (va_wsS RX5 118 yX5_channel wsX5_channel) := goodIn_app (goodIn_of _ (by decide +kernel)) ggX5_takes_X5_channel
set_option maxRecDepth 20000 in
theorem ggX5_takes_X5_aligns : GoodIn wsX5_takes wsX5_aligns := goodIn_r _ [16, 8, 17, 3, 18, 5, 19, 4, 20, 6, 21, 7, 9, 10, 11, 12, 22, 23, 24, 25, 26, 27, 28, 29, 30, 31, 32, 33, 34, 35, 36, 37, 38, 39, 40, 41, 42, 43, 44, 45, 46, 47, 48, 49, 50, 51, 52, 53, 54, 55, 56, 57, 58, 59, 60, 61, 62, 63, 64, 65, 66, 67, 68] (by decide +kernel) (by decide +kernel)
set_option maxRecDepth 20000 in
theorem gX5_takes_X5_aligns : GoodIn wsX5_takes (wsV RX5 134 RX5 yX5_aligns wsX5_aligns) := goodIn_app (goodIn_of _ (by decide +kernel)) ggX5_takes_X5_aligns
theorem dX5_takes_0 : decode cX5_takes 0 = .ok (.iload_n 2, 1) := by decide +kernel
theorem dX5_takes_1 : decode cX5_takes 1 = .ok (.iload_n 1, 1) := by decide +kernel
theorem dX5_takes_2 : decode cX5_takes 2 = .ok (.invokestatic 118, 3) := by decide +kernel
theorem dX5_takes_5 : decode cX5_takes 5 = .ok (.istore_n 3, 1) := by decide +kernel
theorem dX5_takes_6 : decode cX5_takes 6 = .ok (.aload_n 0, 1) := by decide +kernel
theorem dX5_takes_7 : decode cX5_takes 7 = .ok (.getfield 23, 3) := by decide +kernel
theorem dX5_takes_10 : decode cX5_takes 10 = .ok (.bipush 8, 2) := by decide +kernel
theorem dX5_takes_12 : decode cX5_takes 12 = .ok (.iload_n 3, 1) := by decide +kernel
theorem dX5_takes_13 : decode cX5_takes 13 = .ok (.imul, 1) := by decide +kernel
theorem dX5_takes_14 : decode cX5_takes 14 = .ok (.iaload, 1) := by decide +kernel
theorem dX5_takes_15 : decode cX5_takes 15 = .ok (.istore 4, 2) := by decide +kernel
theorem dX5_takes_17 : decode cX5_takes 17 = .ok (.aload_n 0, 1) := by decide +kernel
theorem dX5_takes_18 : decode cX5_takes 18 = .ok (.getfield 26, 3) := by decide +kernel
theorem dX5_takes_21 : decode cX5_takes 21 = .ok (.iload_n 3, 1) := by decide +kernel
theorem dX5_takes_22 : decode cX5_takes 22 = .ok (.dup2, 1) := by decide +kernel
theorem dX5_takes_23 : decode cX5_takes 23 = .ok (.iaload, 1) := by decide +kernel
theorem dX5_takes_24 : decode cX5_takes 24 = .ok (.iconst 1, 1) := by decide +kernel
theorem dX5_takes_25 : decode cX5_takes 25 = .ok (.isub, 1) := by decide +kernel
theorem dX5_takes_26 : decode cX5_takes 26 = .ok (.iastore, 1) := by decide +kernel
theorem dX5_takes_27 : decode cX5_takes 27 = .ok (.bipush 8, 2) := by decide +kernel
theorem dX5_takes_29 : decode cX5_takes 29 = .ok (.iload_n 3, 1) := by decide +kernel
theorem dX5_takes_30 : decode cX5_takes 30 = .ok (.imul, 1) := by decide +kernel
theorem dX5_takes_31 : decode cX5_takes 31 = .ok (.istore 5, 2) := by decide +kernel
theorem dX5_takes_33 : decode cX5_takes 33 = .ok (.iload 5, 2) := by decide +kernel
theorem dX5_takes_35 : decode cX5_takes 35 = .ok (.bipush 8, 2) := by decide +kernel
theorem dX5_takes_37 : decode cX5_takes 37 = .ok (.iload_n 3, 1) := by decide +kernel
theorem dX5_takes_38 : decode cX5_takes 38 = .ok (.imul, 1) := by decide +kernel
theorem dX5_takes_39 : decode cX5_takes 39 = .ok (.aload_n 0, 1) := by decide +kernel
theorem dX5_takes_40 : decode cX5_takes 40 = .ok (.getfield 26, 3) := by decide +kernel
theorem dX5_takes_43 : decode cX5_takes 43 = .ok (.iload_n 3, 1) := by decide +kernel
theorem dX5_takes_44 : decode cX5_takes 44 = .ok (.iaload, 1) := by decide +kernel
theorem dX5_takes_45 : decode cX5_takes 45 = .ok (.iadd, 1) := by decide +kernel
theorem dX5_takes_46 : decode cX5_takes 46 = .ok (.if_icmp .ge 25, 3) := by decide +kernel
theorem dX5_takes_49 : decode cX5_takes 49 = .ok (.aload_n 0, 1) := by decide +kernel
theorem dX5_takes_50 : decode cX5_takes 50 = .ok (.getfield 23, 3) := by decide +kernel
theorem dX5_takes_53 : decode cX5_takes 53 = .ok (.iload 5, 2) := by decide +kernel
theorem dX5_takes_55 : decode cX5_takes 55 = .ok (.aload_n 0, 1) := by decide +kernel
theorem dX5_takes_56 : decode cX5_takes 56 = .ok (.getfield 23, 3) := by decide +kernel
theorem dX5_takes_59 : decode cX5_takes 59 = .ok (.iload 5, 2) := by decide +kernel
theorem dX5_takes_61 : decode cX5_takes 61 = .ok (.iconst 1, 1) := by decide +kernel
theorem dX5_takes_62 : decode cX5_takes 62 = .ok (.iadd, 1) := by decide +kernel
theorem dX5_takes_63 : decode cX5_takes 63 = .ok (.iaload, 1) := by decide +kernel
theorem dX5_takes_64 : decode cX5_takes 64 = .ok (.iastore, 1) := by decide +kernel
theorem dX5_takes_65 : decode cX5_takes 65 = .ok (.iinc 5 1, 3) := by decide +kernel
theorem dX5_takes_68 : decode cX5_takes 68 = .ok (.goto (-35), 3) := by decide +kernel
theorem dX5_takes_71 : decode cX5_takes 71 = .ok (.iload 4, 2) := by decide +kernel
theorem dX5_takes_73 : decode cX5_takes 73 = .ok (.ifCond .le 73, 3) := by decide +kernel
theorem dX5_takes_76 : decode cX5_takes 76 = .ok (.iload 4, 2) := by decide +kernel
theorem dX5_takes_78 : decode cX5_takes 78 = .ok (.sipush 1000, 3) := by decide +kernel
theorem dX5_takes_81 : decode cX5_takes 81 = .ok (.idiv, 1) := by decide +kernel
theorem dX5_takes_82 : decode cX5_takes 82 = .ok (.istore 5, 2) := by decide +kernel
theorem dX5_takes_84 : decode cX5_takes 84 = .ok (.aload_n 0, 1) := by decide +kernel
theorem dX5_takes_85 : decode cX5_takes 85 = .ok (.getfield 33, 3) := by decide +kernel
theorem dX5_takes_88 : decode cX5_takes 88 = .ok (.iload 5, 2) := by decide +kernel
theorem dX5_takes_90 : decode cX5_takes 90 = .ok (.dup2, 1) := by decide +kernel
theorem dX5_takes_91 : decode cX5_takes 91 = .ok (.iaload, 1) := by decide +kernel
theorem dX5_takes_92 : decode cX5_takes 92 = .ok (.iconst 1, 1) := by decide +kernel
theorem dX5_takes_93 : decode cX5_takes 93 = .ok (.iadd, 1) := by decide +kernel
theorem dX5_takes_94 : decode cX5_takes 94 = .ok (.iastore, 1) := by decide +kernel
theorem dX5_takes_95 : decode cX5_takes 95 = .ok (.aload_n 0, 1) := by decide +kernel
theorem dX5_takes_96 : decode cX5_takes 96 = .ok (.getfield 39, 3) := by decide +kernel
theorem dX5_takes_99 : decode cX5_takes 99 = .ok (.iload 5, 2) := by decide +kernel
theorem dX5_takes_101 : decode cX5_takes 101 = .ok (.dup2, 1) := by decide +kernel
theorem dX5_takes_102 : decode cX5_takes 102 = .ok (.iaload, 1) := by decide +kernel
theorem dX5_takes_103 : decode cX5_takes 103 = .ok (.iconst 1, 1) := by decide +kernel
theorem dX5_takes_104 : decode cX5_takes 104 = .ok (.iadd, 1) := by decide +kernel
theorem dX5_takes_105 : decode cX5_takes 105 = .ok (.iastore, 1) := by decide +kernel
theorem dX5_takes_106 : decode cX5_takes 106 = .ok (.aload_n 0, 1) := by decide +kernel
theorem dX5_takes_107 : decode cX5_takes 107 = .ok (.getfield 36, 3) := by decide +kernel
theorem dX5_takes_110 : decode cX5_takes 110 = .ok (.iload 5, 2) := by decide +kernel
theorem dX5_takes_112 : decode cX5_takes 112 = .ok (.dup2, 1) := by decide +kernel
theorem dX5_takes_113 : decode cX5_takes 113 = .ok (.iaload, 1) := by decide +kernel
theorem dX5_takes_114 : decode cX5_takes 114 = .ok (.iload 4, 2) := by decide +kernel
theorem dX5_takes_116 : decode cX5_takes 116 = .ok (.sipush 1000, 3) := by decide +kernel
theorem dX5_takes_119 : decode cX5_takes 119 = .ok (.irem, 1) := by decide +kernel
theorem dX5_takes_120 : decode cX5_takes 120 = .ok (.iadd, 1) := by decide +kernel
theorem dX5_takes_121 : decode cX5_takes 121 = .ok (.iastore, 1) := by decide +kernel
theorem dX5_takes_122 : decode cX5_takes 122 = .ok (.aload_n 0, 1) := by decide +kernel
theorem dX5_takes_123 : decode cX5_takes 123 = .ok (.getfield 42, 3) := by decide +kernel
theorem dX5_takes_126 : decode cX5_takes 126 = .ok (.iload 5, 2) := by decide +kernel
theorem dX5_takes_128 : decode cX5_takes 128 = .ok (.dup2, 1) := by decide +kernel
theorem dX5_takes_129 : decode cX5_takes 129 = .ok (.iaload, 1) := by decide +kernel
theorem dX5_takes_130 : decode cX5_takes 130 = .ok (.iload 4, 2) := by decide +kernel
theorem dX5_takes_132 : decode cX5_takes 132 = .ok (.sipush 1000, 3) := by decide +kernel
theorem dX5_takes_135 : decode cX5_takes 135 = .ok (.irem, 1) := by decide +kernel
theorem dX5_takes_136 : decode cX5_takes 136 = .ok (.iadd, 1) := by decide +kernel
theorem dX5_takes_137 : decode cX5_takes 137 = .ok (.iastore, 1) := by decide +kernel
theorem dX5_takes_138 : decode cX5_takes 138 = .ok (.aload_n 0, 1) := by decide +kernel
theorem dX5_takes_139 : decode cX5_takes 139 = .ok (.getfield 33, 3) := by decide +kernel
theorem dX5_takes_142 : decode cX5_takes 142 = .ok (.iload 5, 2) := by decide +kernel
theorem dX5_takes_144 : decode cX5_takes 144 = .ok (.iaload, 1) := by decide +kernel
theorem dX5_takes_145 : decode cX5_takes 145 = .ok (.ireturn, 1) := by decide +kernel
theorem dX5_takes_146 : decode cX5_takes 146 = .ok (.iload 4, 2) := by decide +kernel
theorem dX5_takes_148 : decode cX5_takes 148 = .ok (.ineg, 1) := by decide +kernel
theorem dX5_takes_149 : decode cX5_takes 149 = .ok (.aload_n 0, 1) := by decide +kernel
theorem dX5_takes_150 : decode cX5_takes 150 = .ok (.getfield 60, 3) := by decide +kernel
theorem dX5_takes_153 : decode cX5_takes 153 = .ok (.if_icmp .ne 15, 3) := by decide +kernel
theorem dX5_takes_156 : decode cX5_takes 156 = .ok (.aload_n 0, 1) := by decide +kernel
theorem dX5_takes_157 : decode cX5_takes 157 = .ok (.getfield 29, 3) := by decide +kernel
theorem dX5_takes_160 : decode cX5_takes 160 = .ok (.iload_n 3, 1) := by decide +kernel
theorem dX5_takes_161 : decode cX5_takes 161 = .ok (.iconst 1, 1) := by decide +kernel
theorem dX5_takes_162 : decode cX5_takes 162 = .ok (.bastore, 1) := by decide +kernel
theorem dX5_takes_163 : decode cX5_takes 163 = .ok (.aload_n 0, 1) := by decide +kernel
theorem dX5_takes_164 : decode cX5_takes 164 = .ok (.iload_n 1, 1) := by decide +kernel
theorem dX5_takes_165 : decode cX5_takes 165 = .ok (.invokevirtual 134, 3) := by decide +kernel
theorem dX5_takes_168 : decode cX5_takes 168 = .ok (.iconst 0, 1) := by decide +kernel
theorem dX5_takes_169 : decode cX5_takes 169 = .ok (.ireturn, 1) := by decide +kernel
set_option maxRecDepth 20000 in
theorem ggX5_aligns_X5_channel : GoodIn wsX5_aligns wsX5_channel := goodIn_r _ [15] (by decide +kernel) (by decide +kernel)
set_option maxRecDepth 20000 in
theorem gX5_aligns_X5_channel : GoodIn wsX5_aligns (va_wsS RX5 118 yX5_channel wsX5_channel) := goodIn_app (goodIn_of _ (by decide +kernel)) ggX5_aligns_X5_channel
set_option maxRecDepth 20000 in
theorem ggX5_aligns_X5_workerOfKey : GoodIn wsX5_aligns wsX5_workerOfKey := goodIn_r _ [19, 20, 21, 22, 14, 23, 36, 37, 38, 39, 40, 41, 42, 43, 44, 45, 46, 47, 48, 49, 50, 51, 52, 53, 54, 55, 56, 57, 58, 59, 60, 61, 62] (by decide +kernel) (by decide +kernel)
set_option maxRecDepth 20000 in
theorem gX5_aligns_X5_workerOfKey : GoodIn wsX5_aligns (wsV RX5 115 RX5 yX5_workerOfKey wsX5_workerOfKey) := goodIn_app (goodIn_of _ (by decide +kernel)) ggX5_aligns_X5_workerOfKey
set_option maxRecDepth 20000 in
theorem ggX5_aligns_X5_completes : GoodIn wsX5_aligns wsX5_completes := goodIn_r _ [27, 20, 10, 11, 28, 29, 30, 2, 31, 4, 32, 33, 34, 14, 35, 36, 37, 38, 39, 40, 41, 42, 43, 44, 45, 46, 47, 48, 49, 50, 51, 52, 53, 54, 55, 56, 57, 58, 59, 60, 61, 62] (by decide +kernel) (by decide +kernel)
set_option maxRecDepth 20000 in
theorem gX5_aligns_X5_completes : GoodIn wsX5_aligns (wsV RX5 138 RX5 yX5_completes wsX5_completes) := goodIn_app (goodIn_of _ (by decide +kernel)) ggX5_aligns_X5_completes
theorem dX5_aligns_0 : decode cX5_aligns 0 = .ok (.iconst 0, 1) := by decide +kernel
theorem dX5_aligns_1 : decode cX5_aligns 1 = .ok (.istore_n 2, 1) := by decide +kernel
theorem dX5_aligns_2 : decode cX5_aligns 2 = .ok (.iload_n 2, 1) := by decide +kernel
theorem dX5_aligns_3 : decode cX5_aligns 3 = .ok (.iconst 4, 1) := by decide +kernel
theorem dX5_aligns_4 : decode cX5_aligns 4 = .ok (.if_icmp .ge 23, 3) := by decide +kernel
theorem dX5_aligns_7 : decode cX5_aligns 7 = .ok (.aload_n 0, 1) := by decide +kernel
theorem dX5_aligns_8 : decode cX5_aligns 8 = .ok (.getfield 29, 3) := by decide +kernel
theorem dX5_aligns_11 : decode cX5_aligns 11 = .ok (.iload_n 2, 1) := by decide +kernel
theorem dX5_aligns_12 : decode cX5_aligns 12 = .ok (.iload_n 1, 1) := by decide +kernel
theorem dX5_aligns_13 : decode cX5_aligns 13 = .ok (.invokestatic 118, 3) := by decide +kernel
theorem dX5_aligns_16 : decode cX5_aligns 16 = .ok (.baload, 1) := by decide +kernel
theorem dX5_aligns_17 : decode cX5_aligns 17 = .ok (.ifCond .ne 4, 3) := by decide +kernel
theorem dX5_aligns_20 : decode cX5_aligns 20 = .ok (.return_, 1) := by decide +kernel
theorem dX5_aligns_21 : decode cX5_aligns 21 = .ok (.iinc 2 1, 3) := by decide +kernel
theorem dX5_aligns_24 : decode cX5_aligns 24 = .ok (.goto (-22), 3) := by decide +kernel
theorem dX5_aligns_27 : decode cX5_aligns 27 = .ok (.iconst 0, 1) := by decide +kernel
theorem dX5_aligns_28 : decode cX5_aligns 28 = .ok (.istore_n 2, 1) := by decide +kernel
theorem dX5_aligns_29 : decode cX5_aligns 29 = .ok (.iload_n 2, 1) := by decide +kernel
theorem dX5_aligns_30 : decode cX5_aligns 30 = .ok (.iconst 4, 1) := by decide +kernel
theorem dX5_aligns_31 : decode cX5_aligns 31 = .ok (.if_icmp .ge 20, 3) := by decide +kernel
theorem dX5_aligns_34 : decode cX5_aligns 34 = .ok (.aload_n 0, 1) := by decide +kernel
theorem dX5_aligns_35 : decode cX5_aligns 35 = .ok (.getfield 29, 3) := by decide +kernel
theorem dX5_aligns_38 : decode cX5_aligns 38 = .ok (.iload_n 2, 1) := by decide +kernel
theorem dX5_aligns_39 : decode cX5_aligns 39 = .ok (.iload_n 1, 1) := by decide +kernel
theorem dX5_aligns_40 : decode cX5_aligns 40 = .ok (.invokestatic 118, 3) := by decide +kernel
theorem dX5_aligns_43 : decode cX5_aligns 43 = .ok (.iconst 0, 1) := by decide +kernel
theorem dX5_aligns_44 : decode cX5_aligns 44 = .ok (.bastore, 1) := by decide +kernel
theorem dX5_aligns_45 : decode cX5_aligns 45 = .ok (.iinc 2 1, 3) := by decide +kernel
theorem dX5_aligns_48 : decode cX5_aligns 48 = .ok (.goto (-19), 3) := by decide +kernel
theorem dX5_aligns_51 : decode cX5_aligns 51 = .ok (.iconst 0, 1) := by decide +kernel
theorem dX5_aligns_52 : decode cX5_aligns 52 = .ok (.istore_n 2, 1) := by decide +kernel
theorem dX5_aligns_53 : decode cX5_aligns 53 = .ok (.iload_n 2, 1) := by decide +kernel
theorem dX5_aligns_54 : decode cX5_aligns 54 = .ok (.bipush 32, 2) := by decide +kernel
theorem dX5_aligns_56 : decode cX5_aligns 56 = .ok (.if_icmp .ge 80, 3) := by decide +kernel
theorem dX5_aligns_59 : decode cX5_aligns 59 = .ok (.aload_n 0, 1) := by decide +kernel
theorem dX5_aligns_60 : decode cX5_aligns 60 = .ok (.iload_n 2, 1) := by decide +kernel
theorem dX5_aligns_61 : decode cX5_aligns 61 = .ok (.invokevirtual 115, 3) := by decide +kernel
theorem dX5_aligns_64 : decode cX5_aligns 64 = .ok (.iload_n 1, 1) := by decide +kernel
theorem dX5_aligns_65 : decode cX5_aligns 65 = .ok (.if_icmp .ne 65, 3) := by decide +kernel
theorem dX5_aligns_68 : decode cX5_aligns 68 = .ok (.aload_n 0, 1) := by decide +kernel
theorem dX5_aligns_69 : decode cX5_aligns 69 = .ok (.getfield 72, 3) := by decide +kernel
theorem dX5_aligns_72 : decode cX5_aligns 72 = .ok (.iload_n 2, 1) := by decide +kernel
theorem dX5_aligns_73 : decode cX5_aligns 73 = .ok (.aload_n 0, 1) := by decide +kernel
theorem dX5_aligns_74 : decode cX5_aligns 74 = .ok (.getfield 33, 3) := by decide +kernel
theorem dX5_aligns_77 : decode cX5_aligns 77 = .ok (.iload_n 2, 1) := by decide +kernel
theorem dX5_aligns_78 : decode cX5_aligns 78 = .ok (.iaload, 1) := by decide +kernel
theorem dX5_aligns_79 : decode cX5_aligns 79 = .ok (.iastore, 1) := by decide +kernel
theorem dX5_aligns_80 : decode cX5_aligns 80 = .ok (.aload_n 0, 1) := by decide +kernel
theorem dX5_aligns_81 : decode cX5_aligns 81 = .ok (.getfield 75, 3) := by decide +kernel
theorem dX5_aligns_84 : decode cX5_aligns 84 = .ok (.iload_n 2, 1) := by decide +kernel
theorem dX5_aligns_85 : decode cX5_aligns 85 = .ok (.aload_n 0, 1) := by decide +kernel
theorem dX5_aligns_86 : decode cX5_aligns 86 = .ok (.getfield 36, 3) := by decide +kernel
theorem dX5_aligns_89 : decode cX5_aligns 89 = .ok (.iload_n 2, 1) := by decide +kernel
theorem dX5_aligns_90 : decode cX5_aligns 90 = .ok (.iaload, 1) := by decide +kernel
theorem dX5_aligns_91 : decode cX5_aligns 91 = .ok (.iastore, 1) := by decide +kernel
theorem dX5_aligns_92 : decode cX5_aligns 92 = .ok (.aload_n 0, 1) := by decide +kernel
theorem dX5_aligns_93 : decode cX5_aligns 93 = .ok (.getfield 45, 3) := by decide +kernel
theorem dX5_aligns_96 : decode cX5_aligns 96 = .ok (.iload_n 2, 1) := by decide +kernel
theorem dX5_aligns_97 : decode cX5_aligns 97 = .ok (.aload_n 0, 1) := by decide +kernel
theorem dX5_aligns_98 : decode cX5_aligns 98 = .ok (.getfield 39, 3) := by decide +kernel
theorem dX5_aligns_101 : decode cX5_aligns 101 = .ok (.iload_n 2, 1) := by decide +kernel
theorem dX5_aligns_102 : decode cX5_aligns 102 = .ok (.iaload, 1) := by decide +kernel
theorem dX5_aligns_103 : decode cX5_aligns 103 = .ok (.iastore, 1) := by decide +kernel
theorem dX5_aligns_104 : decode cX5_aligns 104 = .ok (.aload_n 0, 1) := by decide +kernel
theorem dX5_aligns_105 : decode cX5_aligns 105 = .ok (.getfield 48, 3) := by decide +kernel
theorem dX5_aligns_108 : decode cX5_aligns 108 = .ok (.iload_n 2, 1) := by decide +kernel
theorem dX5_aligns_109 : decode cX5_aligns 109 = .ok (.aload_n 0, 1) := by decide +kernel
theorem dX5_aligns_110 : decode cX5_aligns 110 = .ok (.getfield 42, 3) := by decide +kernel
theorem dX5_aligns_113 : decode cX5_aligns 113 = .ok (.iload_n 2, 1) := by decide +kernel
theorem dX5_aligns_114 : decode cX5_aligns 114 = .ok (.iaload, 1) := by decide +kernel
theorem dX5_aligns_115 : decode cX5_aligns 115 = .ok (.iastore, 1) := by decide +kernel
theorem dX5_aligns_116 : decode cX5_aligns 116 = .ok (.aload_n 0, 1) := by decide +kernel
theorem dX5_aligns_117 : decode cX5_aligns 117 = .ok (.getfield 39, 3) := by decide +kernel
theorem dX5_aligns_120 : decode cX5_aligns 120 = .ok (.iload_n 2, 1) := by decide +kernel
theorem dX5_aligns_121 : decode cX5_aligns 121 = .ok (.iconst 0, 1) := by decide +kernel
theorem dX5_aligns_122 : decode cX5_aligns 122 = .ok (.iastore, 1) := by decide +kernel
theorem dX5_aligns_123 : decode cX5_aligns 123 = .ok (.aload_n 0, 1) := by decide +kernel
theorem dX5_aligns_124 : decode cX5_aligns 124 = .ok (.getfield 42, 3) := by decide +kernel
theorem dX5_aligns_127 : decode cX5_aligns 127 = .ok (.iload_n 2, 1) := by decide +kernel
theorem dX5_aligns_128 : decode cX5_aligns 128 = .ok (.iconst 0, 1) := by decide +kernel
theorem dX5_aligns_129 : decode cX5_aligns 129 = .ok (.iastore, 1) := by decide +kernel
theorem dX5_aligns_130 : decode cX5_aligns 130 = .ok (.iinc 2 1, 3) := by decide +kernel
theorem dX5_aligns_133 : decode cX5_aligns 133 = .ok (.goto (-80), 3) := by decide +kernel
theorem dX5_aligns_136 : decode cX5_aligns 136 = .ok (.aload_n 0, 1) := by decide +kernel
theorem dX5_aligns_137 : decode cX5_aligns 137 = .ok (.getfield 51, 3) := by decide +kernel
theorem dX5_aligns_140 : decode cX5_aligns 140 = .ok (.iload_n 1, 1) := by decide +kernel
theorem dX5_aligns_141 : decode cX5_aligns 141 = .ok (.aload_n 0, 1) := by decide +kernel
theorem dX5_aligns_142 : decode cX5_aligns 142 = .ok (.getfield 60, 3) := by decide +kernel
theorem dX5_aligns_145 : decode cX5_aligns 145 = .ok (.iastore, 1) := by decide +kernel
theorem dX5_aligns_146 : decode cX5_aligns 146 = .ok (.aload_n 0, 1) := by decide +kernel
theorem dX5_aligns_147 : decode cX5_aligns 147 = .ok (.invokevirtual 138, 3) := by decide +kernel
theorem dX5_aligns_150 : decode cX5_aligns 150 = .ok (.return_, 1) := by decide +kernel
set_option maxRecDepth 20000 in
theorem ggX5_completes_X5_copies : GoodIn wsX5_completes wsX5_copies := goodIn_r _ [14] (by decide +kernel) (by decide +kernel)
set_option maxRecDepth 20000 in
theorem gX5_completes_X5_copies : GoodIn wsX5_completes (va_wsS RX5 141 yX5_copies wsX5_copies) := goodIn_app (goodIn_of _ (by decide +kernel)) ggX5_completes_X5_copies
theorem dX5_completes_0 : decode cX5_completes 0 = .ok (.iconst 0, 1) := by decide +kernel
theorem dX5_completes_1 : decode cX5_completes 1 = .ok (.istore_n 1, 1) := by decide +kernel
theorem dX5_completes_2 : decode cX5_completes 2 = .ok (.iload_n 1, 1) := by decide +kernel
theorem dX5_completes_3 : decode cX5_completes 3 = .ok (.aload_n 0, 1) := by decide +kernel
theorem dX5_completes_4 : decode cX5_completes 4 = .ok (.getfield 7, 3) := by decide +kernel
theorem dX5_completes_7 : decode cX5_completes 7 = .ok (.if_icmp .ge 23, 3) := by decide +kernel
theorem dX5_completes_10 : decode cX5_completes 10 = .ok (.aload_n 0, 1) := by decide +kernel
theorem dX5_completes_11 : decode cX5_completes 11 = .ok (.getfield 51, 3) := by decide +kernel
theorem dX5_completes_14 : decode cX5_completes 14 = .ok (.iload_n 1, 1) := by decide +kernel
theorem dX5_completes_15 : decode cX5_completes 15 = .ok (.iaload, 1) := by decide +kernel
theorem dX5_completes_16 : decode cX5_completes 16 = .ok (.aload_n 0, 1) := by decide +kernel
theorem dX5_completes_17 : decode cX5_completes 17 = .ok (.getfield 60, 3) := by decide +kernel
theorem dX5_completes_20 : decode cX5_completes 20 = .ok (.if_icmp .eq 4, 3) := by decide +kernel
theorem dX5_completes_23 : decode cX5_completes 23 = .ok (.return_, 1) := by decide +kernel
theorem dX5_completes_24 : decode cX5_completes 24 = .ok (.iinc 1 1, 3) := by decide +kernel
theorem dX5_completes_27 : decode cX5_completes 27 = .ok (.goto (-25), 3) := by decide +kernel
theorem dX5_completes_30 : decode cX5_completes 30 = .ok (.aload_n 0, 1) := by decide +kernel
theorem dX5_completes_31 : decode cX5_completes 31 = .ok (.aload_n 0, 1) := by decide +kernel
theorem dX5_completes_32 : decode cX5_completes 32 = .ok (.getfield 60, 3) := by decide +kernel
theorem dX5_completes_35 : decode cX5_completes 35 = .ok (.putfield 63, 3) := by decide +kernel
theorem dX5_completes_38 : decode cX5_completes 38 = .ok (.aload_n 0, 1) := by decide +kernel
theorem dX5_completes_39 : decode cX5_completes 39 = .ok (.iconst (-1), 1) := by decide +kernel
theorem dX5_completes_40 : decode cX5_completes 40 = .ok (.putfield 60, 3) := by decide +kernel
theorem dX5_completes_43 : decode cX5_completes 43 = .ok (.aload_n 0, 1) := by decide +kernel
theorem dX5_completes_44 : decode cX5_completes 44 = .ok (.getfield 69, 3) := by decide +kernel
theorem dX5_completes_47 : decode cX5_completes 47 = .ok (.aload_n 0, 1) := by decide +kernel
theorem dX5_completes_48 : decode cX5_completes 48 = .ok (.getfield 78, 3) := by decide +kernel
theorem dX5_completes_51 : decode cX5_completes 51 = .ok (.invokestatic 141, 3) := by decide +kernel
theorem dX5_completes_54 : decode cX5_completes 54 = .ok (.aload_n 0, 1) := by decide +kernel
theorem dX5_completes_55 : decode cX5_completes 55 = .ok (.getfield 72, 3) := by decide +kernel
theorem dX5_completes_58 : decode cX5_completes 58 = .ok (.aload_n 0, 1) := by decide +kernel
theorem dX5_completes_59 : decode cX5_completes 59 = .ok (.getfield 81, 3) := by decide +kernel
theorem dX5_completes_62 : decode cX5_completes 62 = .ok (.invokestatic 141, 3) := by decide +kernel
theorem dX5_completes_65 : decode cX5_completes 65 = .ok (.aload_n 0, 1) := by decide +kernel
theorem dX5_completes_66 : decode cX5_completes 66 = .ok (.getfield 75, 3) := by decide +kernel
theorem dX5_completes_69 : decode cX5_completes 69 = .ok (.aload_n 0, 1) := by decide +kernel
theorem dX5_completes_70 : decode cX5_completes 70 = .ok (.getfield 84, 3) := by decide +kernel
theorem dX5_completes_73 : decode cX5_completes 73 = .ok (.invokestatic 141, 3) := by decide +kernel
theorem dX5_completes_76 : decode cX5_completes 76 = .ok (.return_, 1) := by decide +kernel
set_option maxRecDepth 20000 in
theorem ggX5_take_X5_isWorker : GoodIn wsX5_take wsX5_isWorker := goodIn_r _ [5, 6, 7, 8, 4, 9, 65, 66, 67, 68, 69, 70, 71, 72, 73, 74, 75, 76, 77, 78, 79, 80, 81, 82, 83, 84, 85, 86, 87, 88, 89, 90, 91] (by decide +kernel) (by decide +kernel)
set_option maxRecDepth 20000 in
theorem gX5_take_X5_isWorker : GoodIn wsX5_take (wsV RX5 145 RX5 yX5_isWorker wsX5_isWorker) := goodIn_app (goodIn_of _ (by decide +kernel)) ggX5_take_X5_isWorker
set_option maxRecDepth 20000 in
theorem ggX5_take_X5_isPartition : GoodIn wsX5_take wsX5_isPartition := goodIn_r _ [12, 7, 8, 4, 9] (by decide +kernel) (by decide +kernel)
set_option maxRecDepth 20000 in
theorem gX5_take_X5_isPartition : GoodIn wsX5_take (va_wsS RX5 101 yX5_isPartition wsX5_isPartition) := goodIn_app (goodIn_of _ (by decide +kernel)) ggX5_take_X5_isPartition
set_option maxRecDepth 20000 in
theorem ggX5_take_X5_canTake : GoodIn wsX5_take wsX5_canTake := goodIn_r _ [16, 17, 18, 19, 20, 4, 21, 65, 66, 67, 68, 69, 70, 71, 72, 73, 74, 75, 76, 77, 78, 79, 80, 81, 82, 83, 84, 85, 86, 87, 88, 89, 90, 91] (by decide +kernel) (by decide +kernel)
set_option maxRecDepth 20000 in
theorem gX5_take_X5_canTake : GoodIn wsX5_take (wsV RX5 148 RX5 yX5_canTake wsX5_canTake) := goodIn_app (goodIn_of _ (by decide +kernel)) ggX5_take_X5_canTake
set_option maxRecDepth 20000 in
theorem ggX5_take_X5_holds : GoodIn wsX5_take wsX5_holds := goodIn_r _ [25, 26, 65, 66, 67, 68, 69, 70, 71, 72, 73, 74, 75, 76, 77, 78, 79, 80, 81, 82, 83, 84, 85, 86, 87, 88, 89, 90, 91] (by decide +kernel) (by decide +kernel)
set_option maxRecDepth 20000 in
theorem gX5_take_X5_holds : GoodIn wsX5_take (wsV RX5 108 RX5 yX5_holds wsX5_holds) := goodIn_app (goodIn_of _ (by decide +kernel)) ggX5_take_X5_holds
set_option maxRecDepth 20000 in
theorem ggX5_take_X5_takes : GoodIn wsX5_take wsX5_takes := goodIn_r _ [30, 31, 17, 32, 33, 34, 35, 36, 18, 19, 20, 4, 21, 37, 38, 39, 40, 41, 42, 43, 44, 45, 46, 47, 48, 49, 6, 50, 51, 52, 53, 54, 55, 56, 57, 58, 59, 60, 61, 62, 63, 64, 65, 66, 67, 68, 69, 70, 71, 72, 73, 74, 75, 76, 77, 78, 79, 80, 81, 82, 83, 84, 85, 86, 87, 88, 89, 90, 91] (by decide +kernel) (by decide +kernel)
set_option maxRecDepth 20000 in
theorem gX5_take_X5_takes : GoodIn wsX5_take (wsV RX5 152 RX5 yX5_takes wsX5_takes) := goodIn_app (goodIn_of _ (by decide +kernel)) ggX5_take_X5_takes
theorem dX5_take_0 : decode cX5_take 0 = .ok (.aload_n 0, 1) := by decide +kernel
theorem dX5_take_1 : decode cX5_take 1 = .ok (.aload_n 0, 1) := by decide +kernel
theorem dX5_take_2 : decode cX5_take 2 = .ok (.iload_n 1, 1) := by decide +kernel
theorem dX5_take_3 : decode cX5_take 3 = .ok (.invokevirtual 145, 3) := by decide +kernel
theorem dX5_take_6 : decode cX5_take 6 = .ok (.ifCond .eq 10, 3) := by decide +kernel
theorem dX5_take_9 : decode cX5_take 9 = .ok (.iload_n 2, 1) := by decide +kernel
theorem dX5_take_10 : decode cX5_take 10 = .ok (.invokestatic 101, 3) := by decide +kernel
theorem dX5_take_13 : decode cX5_take 13 = .ok (.ifCond .ne 7, 3) := by decide +kernel
theorem dX5_take_16 : decode cX5_take 16 = .ok (.iconst 1, 1) := by decide +kernel
theorem dX5_take_17 : decode cX5_take 17 = .ok (.goto 17, 3) := by decide +kernel
theorem dX5_take_20 : decode cX5_take 20 = .ok (.aload_n 0, 1) := by decide +kernel
theorem dX5_take_21 : decode cX5_take 21 = .ok (.iload_n 1, 1) := by decide +kernel
theorem dX5_take_22 : decode cX5_take 22 = .ok (.iload_n 2, 1) := by decide +kernel
theorem dX5_take_23 : decode cX5_take 23 = .ok (.invokevirtual 148, 3) := by decide +kernel
theorem dX5_take_26 : decode cX5_take 26 = .ok (.ifCond .eq 7, 3) := by decide +kernel
theorem dX5_take_29 : decode cX5_take 29 = .ok (.iconst 0, 1) := by decide +kernel
theorem dX5_take_30 : decode cX5_take 30 = .ok (.goto 4, 3) := by decide +kernel
theorem dX5_take_33 : decode cX5_take 33 = .ok (.iconst 2, 1) := by decide +kernel
theorem dX5_take_34 : decode cX5_take 34 = .ok (.invokevirtual 108, 3) := by decide +kernel
theorem dX5_take_37 : decode cX5_take 37 = .ok (.ifCond .eq 12, 3) := by decide +kernel
theorem dX5_take_40 : decode cX5_take 40 = .ok (.aload_n 0, 1) := by decide +kernel
theorem dX5_take_41 : decode cX5_take 41 = .ok (.iload_n 1, 1) := by decide +kernel
theorem dX5_take_42 : decode cX5_take 42 = .ok (.iload_n 2, 1) := by decide +kernel
theorem dX5_take_43 : decode cX5_take 43 = .ok (.invokevirtual 152, 3) := by decide +kernel
theorem dX5_take_46 : decode cX5_take 46 = .ok (.goto 4, 3) := by decide +kernel
theorem dX5_take_49 : decode cX5_take 49 = .ok (.iconst 0, 1) := by decide +kernel
theorem dX5_take_50 : decode cX5_take 50 = .ok (.ireturn, 1) := by decide +kernel
set_option maxRecDepth 20000 in
theorem ggX5_pump_X5_in : GoodIn wsX5_pump wsX5_in := goodIn_r _ [5] (by decide +kernel) (by decide +kernel)
set_option maxRecDepth 20000 in
theorem gX5_pump_X5_in : GoodIn wsX5_pump (va_wsS RX5 93 yX5_in wsX5_in) := goodIn_app (goodIn_of _ (by decide +kernel)) ggX5_pump_X5_in
set_option maxRecDepth 20000 in
theorem ggX5_pump_X5_holds : GoodIn wsX5_pump wsX5_holds := goodIn_r _ [9, 10, 77, 78, 79, 80, 81, 82, 83, 84, 85, 86, 87, 88, 89, 90, 91, 92, 93, 94, 95, 96, 97, 98, 99, 100, 101, 102, 103] (by decide +kernel) (by decide +kernel)
set_option maxRecDepth 20000 in
theorem gX5_pump_X5_holds : GoodIn wsX5_pump (wsV RX5 108 RX5 yX5_holds wsX5_holds) := goodIn_app (goodIn_of _ (by decide +kernel)) ggX5_pump_X5_holds
set_option maxRecDepth 20000 in
theorem ggX5_pump_X5_canRead : GoodIn wsX5_pump wsX5_canRead := goodIn_r _ [14, 15, 16, 17, 18, 19, 20, 4, 21, 22, 23, 24, 25, 26, 1, 27, 28, 29, 30, 31, 32, 77, 78, 79, 80, 81, 82, 83, 84, 85, 86, 87, 88, 89, 90, 91, 92, 93, 94, 95, 96, 97, 98, 99, 100, 101, 102, 103] (by decide +kernel) (by decide +kernel)
set_option maxRecDepth 20000 in
theorem gX5_pump_X5_canRead : GoodIn wsX5_pump (wsV RX5 125 RX5 yX5_canRead wsX5_canRead) := goodIn_app (goodIn_of _ (by decide +kernel)) ggX5_pump_X5_canRead
set_option maxRecDepth 20000 in
theorem ggX5_pump_X5_reads : GoodIn wsX5_pump wsX5_reads := goodIn_r _ [36, 15, 18, 19, 20, 4, 21, 22, 23, 24, 25, 26, 1, 27, 28, 29, 30, 31, 32, 37, 38, 39, 40, 41, 17, 77, 78, 79, 80, 81, 82, 83, 84, 85, 86, 87, 88, 89, 90, 91, 92, 93, 94, 95, 96, 97, 98, 99, 100, 101, 102, 103] (by decide +kernel) (by decide +kernel)
set_option maxRecDepth 20000 in
theorem gX5_pump_X5_reads : GoodIn wsX5_pump (wsV RX5 128 RX5 yX5_reads wsX5_reads) := goodIn_app (goodIn_of _ (by decide +kernel)) ggX5_pump_X5_reads
set_option maxRecDepth 20000 in
theorem ggX5_pump_X5_canTake : GoodIn wsX5_pump wsX5_canTake := goodIn_r _ [45, 17, 46, 30, 31, 4, 32, 77, 78, 79, 80, 81, 82, 83, 84, 85, 86, 87, 88, 89, 90, 91, 92, 93, 94, 95, 96, 97, 98, 99, 100, 101, 102, 103] (by decide +kernel) (by decide +kernel)
set_option maxRecDepth 20000 in
theorem gX5_pump_X5_canTake : GoodIn wsX5_pump (wsV RX5 148 RX5 yX5_canTake wsX5_canTake) := goodIn_app (goodIn_of _ (by decide +kernel)) ggX5_pump_X5_canTake
set_option maxRecDepth 20000 in
theorem ggX5_pump_X5_takes : GoodIn wsX5_pump wsX5_takes := goodIn_r _ [50, 41, 17, 51, 52, 53, 54, 55, 46, 30, 31, 4, 32, 56, 57, 58, 59, 60, 61, 62, 63, 64, 23, 24, 25, 26, 1, 27, 28, 29, 65, 66, 67, 68, 69, 70, 71, 72, 73, 74, 75, 76, 77, 78, 79, 80, 81, 82, 83, 84, 85, 86, 87, 88, 89, 90, 91, 92, 93, 94, 95, 96, 97, 98, 99, 100, 101, 102, 103] (by decide +kernel) (by decide +kernel)
set_option maxRecDepth 20000 in
theorem gX5_pump_X5_takes : GoodIn wsX5_pump (wsV RX5 152 RX5 yX5_takes wsX5_takes) := goodIn_app (goodIn_of _ (by decide +kernel)) ggX5_pump_X5_takes
theorem dX5_pump_0 : decode cX5_pump 0 = .ok (.aload_n 0, 1) := by decide +kernel
theorem dX5_pump_1 : decode cX5_pump 1 = .ok (.iload_n 1, 1) := by decide +kernel
theorem dX5_pump_2 : decode cX5_pump 2 = .ok (.iconst 1, 1) := by decide +kernel
theorem dX5_pump_3 : decode cX5_pump 3 = .ok (.bipush 20, 2) := by decide +kernel
theorem dX5_pump_5 : decode cX5_pump 5 = .ok (.invokestatic 93, 3) := by decide +kernel
theorem dX5_pump_8 : decode cX5_pump 8 = .ok (.ifCond .eq 7, 3) := by decide +kernel
theorem dX5_pump_11 : decode cX5_pump 11 = .ok (.iconst 0, 1) := by decide +kernel
theorem dX5_pump_12 : decode cX5_pump 12 = .ok (.goto 4, 3) := by decide +kernel
theorem dX5_pump_15 : decode cX5_pump 15 = .ok (.iconst 1, 1) := by decide +kernel
theorem dX5_pump_16 : decode cX5_pump 16 = .ok (.invokevirtual 108, 3) := by decide +kernel
theorem dX5_pump_19 : decode cX5_pump 19 = .ok (.ifCond .ne 5, 3) := by decide +kernel
theorem dX5_pump_22 : decode cX5_pump 22 = .ok (.iconst 0, 1) := by decide +kernel
theorem dX5_pump_23 : decode cX5_pump 23 = .ok (.ireturn, 1) := by decide +kernel
theorem dX5_pump_24 : decode cX5_pump 24 = .ok (.iconst 0, 1) := by decide +kernel
theorem dX5_pump_25 : decode cX5_pump 25 = .ok (.istore_n 2, 1) := by decide +kernel
theorem dX5_pump_26 : decode cX5_pump 26 = .ok (.iconst 0, 1) := by decide +kernel
theorem dX5_pump_27 : decode cX5_pump 27 = .ok (.istore_n 3, 1) := by decide +kernel
theorem dX5_pump_28 : decode cX5_pump 28 = .ok (.iload_n 3, 1) := by decide +kernel
theorem dX5_pump_29 : decode cX5_pump 29 = .ok (.iload_n 1, 1) := by decide +kernel
theorem dX5_pump_30 : decode cX5_pump 30 = .ok (.iconst 4, 1) := by decide +kernel
theorem dX5_pump_31 : decode cX5_pump 31 = .ok (.imul, 1) := by decide +kernel
theorem dX5_pump_32 : decode cX5_pump 32 = .ok (.aload_n 0, 1) := by decide +kernel
theorem dX5_pump_33 : decode cX5_pump 33 = .ok (.getfield 7, 3) := by decide +kernel
theorem dX5_pump_36 : decode cX5_pump 36 = .ok (.iconst 1, 1) := by decide +kernel
theorem dX5_pump_37 : decode cX5_pump 37 = .ok (.iadd, 1) := by decide +kernel
theorem dX5_pump_38 : decode cX5_pump 38 = .ok (.imul, 1) := by decide +kernel
theorem dX5_pump_39 : decode cX5_pump 39 = .ok (.if_icmp .ge 85, 3) := by decide +kernel
theorem dX5_pump_42 : decode cX5_pump 42 = .ok (.iload_n 3, 1) := by decide +kernel
theorem dX5_pump_43 : decode cX5_pump 43 = .ok (.iconst 4, 1) := by decide +kernel
theorem dX5_pump_44 : decode cX5_pump 44 = .ok (.aload_n 0, 1) := by decide +kernel
theorem dX5_pump_45 : decode cX5_pump 45 = .ok (.getfield 7, 3) := by decide +kernel
theorem dX5_pump_48 : decode cX5_pump 48 = .ok (.iconst 1, 1) := by decide +kernel
theorem dX5_pump_49 : decode cX5_pump 49 = .ok (.iadd, 1) := by decide +kernel
theorem dX5_pump_50 : decode cX5_pump 50 = .ok (.imul, 1) := by decide +kernel
theorem dX5_pump_51 : decode cX5_pump 51 = .ok (.irem, 1) := by decide +kernel
theorem dX5_pump_52 : decode cX5_pump 52 = .ok (.istore 4, 2) := by decide +kernel
theorem dX5_pump_54 : decode cX5_pump 54 = .ok (.iload 4, 2) := by decide +kernel
theorem dX5_pump_56 : decode cX5_pump 56 = .ok (.iconst 4, 1) := by decide +kernel
theorem dX5_pump_57 : decode cX5_pump 57 = .ok (.idiv, 1) := by decide +kernel
theorem dX5_pump_58 : decode cX5_pump 58 = .ok (.iconst 1, 1) := by decide +kernel
theorem dX5_pump_59 : decode cX5_pump 59 = .ok (.isub, 1) := by decide +kernel
theorem dX5_pump_60 : decode cX5_pump 60 = .ok (.istore 5, 2) := by decide +kernel
theorem dX5_pump_62 : decode cX5_pump 62 = .ok (.iload 5, 2) := by decide +kernel
theorem dX5_pump_64 : decode cX5_pump 64 = .ok (.ifCond .ge 22, 3) := by decide +kernel
theorem dX5_pump_67 : decode cX5_pump 67 = .ok (.aload_n 0, 1) := by decide +kernel
theorem dX5_pump_68 : decode cX5_pump 68 = .ok (.iload 4, 2) := by decide +kernel
theorem dX5_pump_70 : decode cX5_pump 70 = .ok (.invokevirtual 125, 3) := by decide +kernel
theorem dX5_pump_73 : decode cX5_pump 73 = .ok (.ifCond .eq 13, 3) := by decide +kernel
theorem dX5_pump_76 : decode cX5_pump 76 = .ok (.aload_n 0, 1) := by decide +kernel
theorem dX5_pump_77 : decode cX5_pump 77 = .ok (.iload 4, 2) := by decide +kernel
theorem dX5_pump_79 : decode cX5_pump 79 = .ok (.invokevirtual 128, 3) := by decide +kernel
theorem dX5_pump_82 : decode cX5_pump 82 = .ok (.pop, 1) := by decide +kernel
theorem dX5_pump_83 : decode cX5_pump 83 = .ok (.iinc 2 1, 3) := by decide +kernel
theorem dX5_pump_86 : decode cX5_pump 86 = .ok (.iload 5, 2) := by decide +kernel
theorem dX5_pump_88 : decode cX5_pump 88 = .ok (.ifCond .lt 30, 3) := by decide +kernel
theorem dX5_pump_91 : decode cX5_pump 91 = .ok (.aload_n 0, 1) := by decide +kernel
theorem dX5_pump_92 : decode cX5_pump 92 = .ok (.iload 5, 2) := by decide +kernel
theorem dX5_pump_94 : decode cX5_pump 94 = .ok (.iload 4, 2) := by decide +kernel
theorem dX5_pump_96 : decode cX5_pump 96 = .ok (.iconst 4, 1) := by decide +kernel
theorem dX5_pump_97 : decode cX5_pump 97 = .ok (.irem, 1) := by decide +kernel
theorem dX5_pump_98 : decode cX5_pump 98 = .ok (.invokevirtual 148, 3) := by decide +kernel
theorem dX5_pump_101 : decode cX5_pump 101 = .ok (.ifCond .eq 17, 3) := by decide +kernel
theorem dX5_pump_104 : decode cX5_pump 104 = .ok (.aload_n 0, 1) := by decide +kernel
theorem dX5_pump_105 : decode cX5_pump 105 = .ok (.iload 5, 2) := by decide +kernel
theorem dX5_pump_107 : decode cX5_pump 107 = .ok (.iload 4, 2) := by decide +kernel
theorem dX5_pump_109 : decode cX5_pump 109 = .ok (.iconst 4, 1) := by decide +kernel
theorem dX5_pump_110 : decode cX5_pump 110 = .ok (.irem, 1) := by decide +kernel
theorem dX5_pump_111 : decode cX5_pump 111 = .ok (.invokevirtual 152, 3) := by decide +kernel
theorem dX5_pump_114 : decode cX5_pump 114 = .ok (.pop, 1) := by decide +kernel
theorem dX5_pump_115 : decode cX5_pump 115 = .ok (.iinc 2 1, 3) := by decide +kernel
theorem dX5_pump_118 : decode cX5_pump 118 = .ok (.iinc 3 1, 3) := by decide +kernel
theorem dX5_pump_121 : decode cX5_pump 121 = .ok (.goto (-93), 3) := by decide +kernel
theorem dX5_pump_124 : decode cX5_pump 124 = .ok (.iload_n 2, 1) := by decide +kernel
theorem dX5_pump_125 : decode cX5_pump 125 = .ok (.ireturn, 1) := by decide +kernel
set_option maxRecDepth 20000 in
theorem ggX5_commits_X5_workerOfKey : GoodIn wsX5_commits wsX5_workerOfKey := goodIn_r _ [10, 11, 12, 13, 9, 14, 15, 16, 17, 18, 19, 20, 21, 22, 23, 24, 25, 26, 27, 28, 29, 30, 31, 32, 33, 34, 35, 36, 37, 38, 39, 40, 41] (by decide +kernel) (by decide +kernel)
set_option maxRecDepth 20000 in
theorem gX5_commits_X5_workerOfKey : GoodIn wsX5_commits (wsV RX5 115 RX5 yX5_workerOfKey wsX5_workerOfKey) := goodIn_app (goodIn_of _ (by decide +kernel)) ggX5_commits_X5_workerOfKey
theorem dX5_commits_0 : decode cX5_commits 0 = .ok (.iconst 0, 1) := by decide +kernel
theorem dX5_commits_1 : decode cX5_commits 1 = .ok (.istore_n 2, 1) := by decide +kernel
theorem dX5_commits_2 : decode cX5_commits 2 = .ok (.iconst 0, 1) := by decide +kernel
theorem dX5_commits_3 : decode cX5_commits 3 = .ok (.istore_n 3, 1) := by decide +kernel
theorem dX5_commits_4 : decode cX5_commits 4 = .ok (.iload_n 3, 1) := by decide +kernel
theorem dX5_commits_5 : decode cX5_commits 5 = .ok (.bipush 32, 2) := by decide +kernel
theorem dX5_commits_7 : decode cX5_commits 7 = .ok (.if_icmp .ge 57, 3) := by decide +kernel
theorem dX5_commits_10 : decode cX5_commits 10 = .ok (.aload_n 0, 1) := by decide +kernel
theorem dX5_commits_11 : decode cX5_commits 11 = .ok (.iload_n 3, 1) := by decide +kernel
theorem dX5_commits_12 : decode cX5_commits 12 = .ok (.invokevirtual 115, 3) := by decide +kernel
theorem dX5_commits_15 : decode cX5_commits 15 = .ok (.iload_n 1, 1) := by decide +kernel
theorem dX5_commits_16 : decode cX5_commits 16 = .ok (.if_icmp .ne 42, 3) := by decide +kernel
theorem dX5_commits_19 : decode cX5_commits 19 = .ok (.iload_n 2, 1) := by decide +kernel
theorem dX5_commits_20 : decode cX5_commits 20 = .ok (.aload_n 0, 1) := by decide +kernel
theorem dX5_commits_21 : decode cX5_commits 21 = .ok (.getfield 45, 3) := by decide +kernel
theorem dX5_commits_24 : decode cX5_commits 24 = .ok (.iload_n 3, 1) := by decide +kernel
theorem dX5_commits_25 : decode cX5_commits 25 = .ok (.iaload, 1) := by decide +kernel
theorem dX5_commits_26 : decode cX5_commits 26 = .ok (.iadd, 1) := by decide +kernel
theorem dX5_commits_27 : decode cX5_commits 27 = .ok (.istore_n 2, 1) := by decide +kernel
theorem dX5_commits_28 : decode cX5_commits 28 = .ok (.aload_n 0, 1) := by decide +kernel
theorem dX5_commits_29 : decode cX5_commits 29 = .ok (.getfield 54, 3) := by decide +kernel
theorem dX5_commits_32 : decode cX5_commits 32 = .ok (.iload_n 3, 1) := by decide +kernel
theorem dX5_commits_33 : decode cX5_commits 33 = .ok (.dup2, 1) := by decide +kernel
theorem dX5_commits_34 : decode cX5_commits 34 = .ok (.iaload, 1) := by decide +kernel
theorem dX5_commits_35 : decode cX5_commits 35 = .ok (.aload_n 0, 1) := by decide +kernel
theorem dX5_commits_36 : decode cX5_commits 36 = .ok (.getfield 45, 3) := by decide +kernel
theorem dX5_commits_39 : decode cX5_commits 39 = .ok (.iload_n 3, 1) := by decide +kernel
theorem dX5_commits_40 : decode cX5_commits 40 = .ok (.iaload, 1) := by decide +kernel
theorem dX5_commits_41 : decode cX5_commits 41 = .ok (.iadd, 1) := by decide +kernel
theorem dX5_commits_42 : decode cX5_commits 42 = .ok (.iastore, 1) := by decide +kernel
theorem dX5_commits_43 : decode cX5_commits 43 = .ok (.aload_n 0, 1) := by decide +kernel
theorem dX5_commits_44 : decode cX5_commits 44 = .ok (.getfield 57, 3) := by decide +kernel
theorem dX5_commits_47 : decode cX5_commits 47 = .ok (.iload_n 3, 1) := by decide +kernel
theorem dX5_commits_48 : decode cX5_commits 48 = .ok (.dup2, 1) := by decide +kernel
theorem dX5_commits_49 : decode cX5_commits 49 = .ok (.iaload, 1) := by decide +kernel
theorem dX5_commits_50 : decode cX5_commits 50 = .ok (.aload_n 0, 1) := by decide +kernel
theorem dX5_commits_51 : decode cX5_commits 51 = .ok (.getfield 48, 3) := by decide +kernel
theorem dX5_commits_54 : decode cX5_commits 54 = .ok (.iload_n 3, 1) := by decide +kernel
theorem dX5_commits_55 : decode cX5_commits 55 = .ok (.iaload, 1) := by decide +kernel
theorem dX5_commits_56 : decode cX5_commits 56 = .ok (.iadd, 1) := by decide +kernel
theorem dX5_commits_57 : decode cX5_commits 57 = .ok (.iastore, 1) := by decide +kernel
theorem dX5_commits_58 : decode cX5_commits 58 = .ok (.iinc 3 1, 3) := by decide +kernel
theorem dX5_commits_61 : decode cX5_commits 61 = .ok (.goto (-57), 3) := by decide +kernel
theorem dX5_commits_64 : decode cX5_commits 64 = .ok (.aload_n 0, 1) := by decide +kernel
theorem dX5_commits_65 : decode cX5_commits 65 = .ok (.getfield 51, 3) := by decide +kernel
theorem dX5_commits_68 : decode cX5_commits 68 = .ok (.iload_n 1, 1) := by decide +kernel
theorem dX5_commits_69 : decode cX5_commits 69 = .ok (.iconst (-1), 1) := by decide +kernel
theorem dX5_commits_70 : decode cX5_commits 70 = .ok (.iastore, 1) := by decide +kernel
theorem dX5_commits_71 : decode cX5_commits 71 = .ok (.iload_n 2, 1) := by decide +kernel
theorem dX5_commits_72 : decode cX5_commits 72 = .ok (.ireturn, 1) := by decide +kernel
theorem dX5_mayCommit_0 : decode cX5_mayCommit 0 = .ok (.aload_n 0, 1) := by decide +kernel
theorem dX5_mayCommit_1 : decode cX5_mayCommit 1 = .ok (.getfield 51, 3) := by decide +kernel
theorem dX5_mayCommit_4 : decode cX5_mayCommit 4 = .ok (.iload_n 1, 1) := by decide +kernel
theorem dX5_mayCommit_5 : decode cX5_mayCommit 5 = .ok (.iaload, 1) := by decide +kernel
theorem dX5_mayCommit_6 : decode cX5_mayCommit 6 = .ok (.iconst (-1), 1) := by decide +kernel
theorem dX5_mayCommit_7 : decode cX5_mayCommit 7 = .ok (.if_icmp .eq 20, 3) := by decide +kernel
theorem dX5_mayCommit_10 : decode cX5_mayCommit 10 = .ok (.aload_n 0, 1) := by decide +kernel
theorem dX5_mayCommit_11 : decode cX5_mayCommit 11 = .ok (.getfield 51, 3) := by decide +kernel
theorem dX5_mayCommit_14 : decode cX5_mayCommit 14 = .ok (.iload_n 1, 1) := by decide +kernel
theorem dX5_mayCommit_15 : decode cX5_mayCommit 15 = .ok (.iaload, 1) := by decide +kernel
theorem dX5_mayCommit_16 : decode cX5_mayCommit 16 = .ok (.aload_n 0, 1) := by decide +kernel
theorem dX5_mayCommit_17 : decode cX5_mayCommit 17 = .ok (.getfield 60, 3) := by decide +kernel
theorem dX5_mayCommit_20 : decode cX5_mayCommit 20 = .ok (.if_icmp .eq 7, 3) := by decide +kernel
theorem dX5_mayCommit_23 : decode cX5_mayCommit 23 = .ok (.iconst 1, 1) := by decide +kernel
theorem dX5_mayCommit_24 : decode cX5_mayCommit 24 = .ok (.goto 4, 3) := by decide +kernel
theorem dX5_mayCommit_27 : decode cX5_mayCommit 27 = .ok (.iconst 0, 1) := by decide +kernel
theorem dX5_mayCommit_28 : decode cX5_mayCommit 28 = .ok (.ireturn, 1) := by decide +kernel
set_option maxRecDepth 20000 in
theorem ggX5_commit_X5_isWorker : GoodIn wsX5_commit wsX5_isWorker := goodIn_r _ [5, 6, 7, 8, 4, 9, 36, 37, 38, 39, 40, 41, 42, 43, 44, 45, 46, 47, 48, 49, 50, 51, 52, 53, 54, 55, 56, 57, 58, 59, 60, 61, 62] (by decide +kernel) (by decide +kernel)
set_option maxRecDepth 20000 in
theorem gX5_commit_X5_isWorker : GoodIn wsX5_commit (wsV RX5 145 RX5 yX5_isWorker wsX5_isWorker) := goodIn_app (goodIn_of _ (by decide +kernel)) ggX5_commit_X5_isWorker
set_option maxRecDepth 20000 in
theorem ggX5_commit_X5_mayCommit : GoodIn wsX5_commit wsX5_mayCommit := goodIn_r _ [13, 14, 15, 36, 37, 38, 39, 40, 41, 42, 43, 44, 45, 46, 47, 48, 49, 50, 51, 52, 53, 54, 55, 56, 57, 58, 59, 60, 61, 62] (by decide +kernel) (by decide +kernel)
set_option maxRecDepth 20000 in
theorem gX5_commit_X5_mayCommit : GoodIn wsX5_commit (wsV RX5 155 RX5 yX5_mayCommit wsX5_mayCommit) := goodIn_app (goodIn_of _ (by decide +kernel)) ggX5_commit_X5_mayCommit
set_option maxRecDepth 20000 in
theorem ggX5_commit_X5_holds : GoodIn wsX5_commit wsX5_holds := goodIn_r _ [19, 20, 36, 37, 38, 39, 40, 41, 42, 43, 44, 45, 46, 47, 48, 49, 50, 51, 52, 53, 54, 55, 56, 57, 58, 59, 60, 61, 62] (by decide +kernel) (by decide +kernel)
set_option maxRecDepth 20000 in
theorem gX5_commit_X5_holds : GoodIn wsX5_commit (wsV RX5 108 RX5 yX5_holds wsX5_holds) := goodIn_app (goodIn_of _ (by decide +kernel)) ggX5_commit_X5_holds
set_option maxRecDepth 20000 in
theorem ggX5_commit_X5_commits : GoodIn wsX5_commit wsX5_commits := goodIn_r _ [24, 25, 26, 27, 28, 14, 29, 30, 31, 4, 32, 6, 33, 34, 35, 36, 37, 38, 39, 40, 41, 42, 43, 44, 45, 46, 47, 48, 49, 50, 51, 52, 53, 54, 55, 56, 57, 58, 59, 60, 61, 62] (by decide +kernel) (by decide +kernel)
set_option maxRecDepth 20000 in
theorem gX5_commit_X5_commits : GoodIn wsX5_commit (wsV RX5 158 RX5 yX5_commits wsX5_commits) := goodIn_app (goodIn_of _ (by decide +kernel)) ggX5_commit_X5_commits
theorem dX5_commit_0 : decode cX5_commit 0 = .ok (.aload_n 0, 1) := by decide +kernel
theorem dX5_commit_1 : decode cX5_commit 1 = .ok (.aload_n 0, 1) := by decide +kernel
theorem dX5_commit_2 : decode cX5_commit 2 = .ok (.iload_n 1, 1) := by decide +kernel
theorem dX5_commit_3 : decode cX5_commit 3 = .ok (.invokevirtual 145, 3) := by decide +kernel
theorem dX5_commit_6 : decode cX5_commit 6 = .ok (.ifCond .ne 7, 3) := by decide +kernel
theorem dX5_commit_9 : decode cX5_commit 9 = .ok (.iconst 1, 1) := by decide +kernel
theorem dX5_commit_10 : decode cX5_commit 10 = .ok (.goto 16, 3) := by decide +kernel
theorem dX5_commit_13 : decode cX5_commit 13 = .ok (.aload_n 0, 1) := by decide +kernel
theorem dX5_commit_14 : decode cX5_commit 14 = .ok (.iload_n 1, 1) := by decide +kernel
theorem dX5_commit_15 : decode cX5_commit 15 = .ok (.invokevirtual 155, 3) := by decide +kernel
theorem dX5_commit_18 : decode cX5_commit 18 = .ok (.ifCond .eq 7, 3) := by decide +kernel
theorem dX5_commit_21 : decode cX5_commit 21 = .ok (.iconst 0, 1) := by decide +kernel
theorem dX5_commit_22 : decode cX5_commit 22 = .ok (.goto 4, 3) := by decide +kernel
theorem dX5_commit_25 : decode cX5_commit 25 = .ok (.iconst 2, 1) := by decide +kernel
theorem dX5_commit_26 : decode cX5_commit 26 = .ok (.invokevirtual 108, 3) := by decide +kernel
theorem dX5_commit_29 : decode cX5_commit 29 = .ok (.ifCond .eq 11, 3) := by decide +kernel
theorem dX5_commit_32 : decode cX5_commit 32 = .ok (.aload_n 0, 1) := by decide +kernel
theorem dX5_commit_33 : decode cX5_commit 33 = .ok (.iload_n 1, 1) := by decide +kernel
theorem dX5_commit_34 : decode cX5_commit 34 = .ok (.invokevirtual 158, 3) := by decide +kernel
theorem dX5_commit_37 : decode cX5_commit 37 = .ok (.goto 4, 3) := by decide +kernel
theorem dX5_commit_40 : decode cX5_commit 40 = .ok (.iconst 0, 1) := by decide +kernel
theorem dX5_commit_41 : decode cX5_commit 41 = .ok (.ireturn, 1) := by decide +kernel
theorem dX5_isAnySealed_0 : decode cX5_isAnySealed 0 = .ok (.aload_n 0, 1) := by decide +kernel
theorem dX5_isAnySealed_1 : decode cX5_isAnySealed 1 = .ok (.getfield 51, 3) := by decide +kernel
theorem dX5_isAnySealed_4 : decode cX5_isAnySealed 4 = .ok (.iconst 0, 1) := by decide +kernel
theorem dX5_isAnySealed_5 : decode cX5_isAnySealed 5 = .ok (.iaload, 1) := by decide +kernel
theorem dX5_isAnySealed_6 : decode cX5_isAnySealed 6 = .ok (.iconst (-1), 1) := by decide +kernel
theorem dX5_isAnySealed_7 : decode cX5_isAnySealed 7 = .ok (.if_icmp .ne 33, 3) := by decide +kernel
theorem dX5_isAnySealed_10 : decode cX5_isAnySealed 10 = .ok (.aload_n 0, 1) := by decide +kernel
theorem dX5_isAnySealed_11 : decode cX5_isAnySealed 11 = .ok (.getfield 51, 3) := by decide +kernel
theorem dX5_isAnySealed_14 : decode cX5_isAnySealed 14 = .ok (.iconst 1, 1) := by decide +kernel
theorem dX5_isAnySealed_15 : decode cX5_isAnySealed 15 = .ok (.iaload, 1) := by decide +kernel
theorem dX5_isAnySealed_16 : decode cX5_isAnySealed 16 = .ok (.iconst (-1), 1) := by decide +kernel
theorem dX5_isAnySealed_17 : decode cX5_isAnySealed 17 = .ok (.if_icmp .ne 23, 3) := by decide +kernel
theorem dX5_isAnySealed_20 : decode cX5_isAnySealed 20 = .ok (.aload_n 0, 1) := by decide +kernel
theorem dX5_isAnySealed_21 : decode cX5_isAnySealed 21 = .ok (.getfield 51, 3) := by decide +kernel
theorem dX5_isAnySealed_24 : decode cX5_isAnySealed 24 = .ok (.iconst 2, 1) := by decide +kernel
theorem dX5_isAnySealed_25 : decode cX5_isAnySealed 25 = .ok (.iaload, 1) := by decide +kernel
theorem dX5_isAnySealed_26 : decode cX5_isAnySealed 26 = .ok (.iconst (-1), 1) := by decide +kernel
theorem dX5_isAnySealed_27 : decode cX5_isAnySealed 27 = .ok (.if_icmp .ne 13, 3) := by decide +kernel
theorem dX5_isAnySealed_30 : decode cX5_isAnySealed 30 = .ok (.aload_n 0, 1) := by decide +kernel
theorem dX5_isAnySealed_31 : decode cX5_isAnySealed 31 = .ok (.getfield 51, 3) := by decide +kernel
theorem dX5_isAnySealed_34 : decode cX5_isAnySealed 34 = .ok (.iconst 3, 1) := by decide +kernel
theorem dX5_isAnySealed_35 : decode cX5_isAnySealed 35 = .ok (.iaload, 1) := by decide +kernel
theorem dX5_isAnySealed_36 : decode cX5_isAnySealed 36 = .ok (.iconst (-1), 1) := by decide +kernel
theorem dX5_isAnySealed_37 : decode cX5_isAnySealed 37 = .ok (.if_icmp .eq 7, 3) := by decide +kernel
theorem dX5_isAnySealed_40 : decode cX5_isAnySealed 40 = .ok (.iconst 1, 1) := by decide +kernel
theorem dX5_isAnySealed_41 : decode cX5_isAnySealed 41 = .ok (.goto 4, 3) := by decide +kernel
theorem dX5_isAnySealed_44 : decode cX5_isAnySealed 44 = .ok (.iconst 0, 1) := by decide +kernel
theorem dX5_isAnySealed_45 : decode cX5_isAnySealed 45 = .ok (.ireturn, 1) := by decide +kernel
theorem dX5_lifts_0 : decode cX5_lifts 0 = .ok (.iconst 0, 1) := by decide +kernel
theorem dX5_lifts_1 : decode cX5_lifts 1 = .ok (.istore_n 1, 1) := by decide +kernel
theorem dX5_lifts_2 : decode cX5_lifts 2 = .ok (.iload_n 1, 1) := by decide +kernel
theorem dX5_lifts_3 : decode cX5_lifts 3 = .ok (.bipush 16, 2) := by decide +kernel
theorem dX5_lifts_5 : decode cX5_lifts 5 = .ok (.if_icmp .ge 16, 3) := by decide +kernel
theorem dX5_lifts_8 : decode cX5_lifts 8 = .ok (.aload_n 0, 1) := by decide +kernel
theorem dX5_lifts_9 : decode cX5_lifts 9 = .ok (.getfield 29, 3) := by decide +kernel
theorem dX5_lifts_12 : decode cX5_lifts 12 = .ok (.iload_n 1, 1) := by decide +kernel
theorem dX5_lifts_13 : decode cX5_lifts 13 = .ok (.iconst 0, 1) := by decide +kernel
theorem dX5_lifts_14 : decode cX5_lifts 14 = .ok (.bastore, 1) := by decide +kernel
theorem dX5_lifts_15 : decode cX5_lifts 15 = .ok (.iinc 1 1, 3) := by decide +kernel
theorem dX5_lifts_18 : decode cX5_lifts 18 = .ok (.goto (-16), 3) := by decide +kernel
theorem dX5_lifts_21 : decode cX5_lifts 21 = .ok (.iconst 0, 1) := by decide +kernel
theorem dX5_lifts_22 : decode cX5_lifts 22 = .ok (.istore_n 1, 1) := by decide +kernel
theorem dX5_lifts_23 : decode cX5_lifts 23 = .ok (.iload_n 1, 1) := by decide +kernel
theorem dX5_lifts_24 : decode cX5_lifts 24 = .ok (.iconst 4, 1) := by decide +kernel
theorem dX5_lifts_25 : decode cX5_lifts 25 = .ok (.if_icmp .ge 16, 3) := by decide +kernel
theorem dX5_lifts_28 : decode cX5_lifts 28 = .ok (.aload_n 0, 1) := by decide +kernel
theorem dX5_lifts_29 : decode cX5_lifts 29 = .ok (.getfield 66, 3) := by decide +kernel
theorem dX5_lifts_32 : decode cX5_lifts 32 = .ok (.iload_n 1, 1) := by decide +kernel
theorem dX5_lifts_33 : decode cX5_lifts 33 = .ok (.iconst 0, 1) := by decide +kernel
theorem dX5_lifts_34 : decode cX5_lifts 34 = .ok (.bastore, 1) := by decide +kernel
theorem dX5_lifts_35 : decode cX5_lifts 35 = .ok (.iinc 1 1, 3) := by decide +kernel
theorem dX5_lifts_38 : decode cX5_lifts 38 = .ok (.goto (-15), 3) := by decide +kernel
theorem dX5_lifts_41 : decode cX5_lifts 41 = .ok (.return_, 1) := by decide +kernel
set_option maxRecDepth 20000 in
theorem ggX5_beginCheckpoint_X5_isAnySealed : GoodIn wsX5_beginCheckpoint wsX5_isAnySealed := goodIn_r _ [7, 8, 20, 21, 22, 23, 24, 25, 26, 27, 28, 29, 30, 31, 32, 33, 34, 35, 36, 37, 38, 39, 40, 41, 42, 43, 44, 45, 46] (by decide +kernel) (by decide +kernel)
set_option maxRecDepth 20000 in
theorem gX5_beginCheckpoint_X5_isAnySealed : GoodIn wsX5_beginCheckpoint (wsV RX5 161 RX5 yX5_isAnySealed wsX5_isAnySealed) := goodIn_app (goodIn_of _ (by decide +kernel)) ggX5_beginCheckpoint_X5_isAnySealed
set_option maxRecDepth 20000 in
theorem ggX5_beginCheckpoint_X5_holds : GoodIn wsX5_beginCheckpoint wsX5_holds := goodIn_r _ [12, 13, 20, 21, 22, 23, 24, 25, 26, 27, 28, 29, 30, 31, 32, 33, 34, 35, 36, 37, 38, 39, 40, 41, 42, 43, 44, 45, 46] (by decide +kernel) (by decide +kernel)
set_option maxRecDepth 20000 in
theorem gX5_beginCheckpoint_X5_holds : GoodIn wsX5_beginCheckpoint (wsV RX5 108 RX5 yX5_holds wsX5_holds) := goodIn_app (goodIn_of _ (by decide +kernel)) ggX5_beginCheckpoint_X5_holds
set_option maxRecDepth 20000 in
theorem ggX5_beginCheckpoint_X5_lifts : GoodIn wsX5_beginCheckpoint wsX5_lifts := goodIn_r _ [17, 18, 19, 20, 21, 22, 23, 24, 25, 26, 27, 28, 29, 30, 31, 32, 33, 34, 35, 36, 37, 38, 39, 40, 41, 42, 43, 44, 45, 46] (by decide +kernel) (by decide +kernel)
set_option maxRecDepth 20000 in
theorem gX5_beginCheckpoint_X5_lifts : GoodIn wsX5_beginCheckpoint (wsV RX5 168 RX5 yX5_lifts wsX5_lifts) := goodIn_app (goodIn_of _ (by decide +kernel)) ggX5_beginCheckpoint_X5_lifts
theorem dX5_beginCheckpoint_0 : decode cX5_beginCheckpoint 0 = .ok (.aload_n 0, 1) := by decide +kernel
theorem dX5_beginCheckpoint_1 : decode cX5_beginCheckpoint 1 = .ok (.aload_n 0, 1) := by decide +kernel
theorem dX5_beginCheckpoint_2 : decode cX5_beginCheckpoint 2 = .ok (.getfield 60, 3) := by decide +kernel
theorem dX5_beginCheckpoint_5 : decode cX5_beginCheckpoint 5 = .ok (.iconst (-1), 1) := by decide +kernel
theorem dX5_beginCheckpoint_6 : decode cX5_beginCheckpoint 6 = .ok (.if_icmp .ne 10, 3) := by decide +kernel
theorem dX5_beginCheckpoint_9 : decode cX5_beginCheckpoint 9 = .ok (.aload_n 0, 1) := by decide +kernel
theorem dX5_beginCheckpoint_10 : decode cX5_beginCheckpoint 10 = .ok (.invokevirtual 161, 3) := by decide +kernel
theorem dX5_beginCheckpoint_13 : decode cX5_beginCheckpoint 13 = .ok (.ifCond .eq 7, 3) := by decide +kernel
theorem dX5_beginCheckpoint_16 : decode cX5_beginCheckpoint 16 = .ok (.iconst 1, 1) := by decide +kernel
theorem dX5_beginCheckpoint_17 : decode cX5_beginCheckpoint 17 = .ok (.goto 4, 3) := by decide +kernel
theorem dX5_beginCheckpoint_20 : decode cX5_beginCheckpoint 20 = .ok (.iconst 0, 1) := by decide +kernel
theorem dX5_beginCheckpoint_21 : decode cX5_beginCheckpoint 21 = .ok (.invokevirtual 108, 3) := by decide +kernel
theorem dX5_beginCheckpoint_24 : decode cX5_beginCheckpoint 24 = .ok (.ifCond .ne 5, 3) := by decide +kernel
theorem dX5_beginCheckpoint_27 : decode cX5_beginCheckpoint 27 = .ok (.iconst 0, 1) := by decide +kernel
theorem dX5_beginCheckpoint_28 : decode cX5_beginCheckpoint 28 = .ok (.ireturn, 1) := by decide +kernel
theorem dX5_beginCheckpoint_29 : decode cX5_beginCheckpoint 29 = .ok (.aload_n 0, 1) := by decide +kernel
theorem dX5_beginCheckpoint_30 : decode cX5_beginCheckpoint 30 = .ok (.dup, 1) := by decide +kernel
theorem dX5_beginCheckpoint_31 : decode cX5_beginCheckpoint 31 = .ok (.getfield 165, 3) := by decide +kernel
theorem dX5_beginCheckpoint_34 : decode cX5_beginCheckpoint 34 = .ok (.iconst 1, 1) := by decide +kernel
theorem dX5_beginCheckpoint_35 : decode cX5_beginCheckpoint 35 = .ok (.iadd, 1) := by decide +kernel
theorem dX5_beginCheckpoint_36 : decode cX5_beginCheckpoint 36 = .ok (.putfield 165, 3) := by decide +kernel
theorem dX5_beginCheckpoint_39 : decode cX5_beginCheckpoint 39 = .ok (.aload_n 0, 1) := by decide +kernel
theorem dX5_beginCheckpoint_40 : decode cX5_beginCheckpoint 40 = .ok (.aload_n 0, 1) := by decide +kernel
theorem dX5_beginCheckpoint_41 : decode cX5_beginCheckpoint 41 = .ok (.getfield 165, 3) := by decide +kernel
theorem dX5_beginCheckpoint_44 : decode cX5_beginCheckpoint 44 = .ok (.putfield 60, 3) := by decide +kernel
theorem dX5_beginCheckpoint_47 : decode cX5_beginCheckpoint 47 = .ok (.aload_n 0, 1) := by decide +kernel
theorem dX5_beginCheckpoint_48 : decode cX5_beginCheckpoint 48 = .ok (.invokevirtual 168, 3) := by decide +kernel
theorem dX5_beginCheckpoint_51 : decode cX5_beginCheckpoint 51 = .ok (.aload_n 0, 1) := by decide +kernel
theorem dX5_beginCheckpoint_52 : decode cX5_beginCheckpoint 52 = .ok (.getfield 60, 3) := by decide +kernel
theorem dX5_beginCheckpoint_55 : decode cX5_beginCheckpoint 55 = .ok (.ireturn, 1) := by decide +kernel
set_option maxRecDepth 20000 in
theorem ggX5_abandon_X5_holds : GoodIn wsX5_abandon wsX5_holds := goodIn_r _ [11, 12, 31, 32, 33, 34, 35, 36, 37, 38, 39, 40, 41, 42, 43, 44, 45, 46, 47, 48, 49, 50, 51, 52, 53, 54, 55, 56, 57] (by decide +kernel) (by decide +kernel)
set_option maxRecDepth 20000 in
theorem gX5_abandon_X5_holds : GoodIn wsX5_abandon (wsV RX5 108 RX5 yX5_holds wsX5_holds) := goodIn_app (goodIn_of _ (by decide +kernel)) ggX5_abandon_X5_holds
set_option maxRecDepth 20000 in
theorem ggX5_abandon_X5_workerOfKey : GoodIn wsX5_abandon wsX5_workerOfKey := goodIn_r _ [16, 17, 18, 19, 10, 20, 31, 32, 33, 34, 35, 36, 37, 38, 39, 40, 41, 42, 43, 44, 45, 46, 47, 48, 49, 50, 51, 52, 53, 54, 55, 56, 57] (by decide +kernel) (by decide +kernel)
set_option maxRecDepth 20000 in
theorem gX5_abandon_X5_workerOfKey : GoodIn wsX5_abandon (wsV RX5 115 RX5 yX5_workerOfKey wsX5_workerOfKey) := goodIn_app (goodIn_of _ (by decide +kernel)) ggX5_abandon_X5_workerOfKey
set_option maxRecDepth 20000 in
theorem ggX5_abandon_X5_unseals : GoodIn wsX5_abandon wsX5_unseals := goodIn_r _ [24, 2, 31, 32, 33, 34, 35, 36, 37, 38, 39, 40, 41, 42, 43, 44, 45, 46, 47, 48, 49, 50, 51, 52, 53, 54, 55, 56, 57] (by decide +kernel) (by decide +kernel)
set_option maxRecDepth 20000 in
theorem gX5_abandon_X5_unseals : GoodIn wsX5_abandon (wsV RX5 87 RX5 yX5_unseals wsX5_unseals) := goodIn_app (goodIn_of _ (by decide +kernel)) ggX5_abandon_X5_unseals
set_option maxRecDepth 20000 in
theorem ggX5_abandon_X5_lifts : GoodIn wsX5_abandon wsX5_lifts := goodIn_r _ [28, 29, 30, 31, 32, 33, 34, 35, 36, 37, 38, 39, 40, 41, 42, 43, 44, 45, 46, 47, 48, 49, 50, 51, 52, 53, 54, 55, 56, 57] (by decide +kernel) (by decide +kernel)
set_option maxRecDepth 20000 in
theorem gX5_abandon_X5_lifts : GoodIn wsX5_abandon (wsV RX5 168 RX5 yX5_lifts wsX5_lifts) := goodIn_app (goodIn_of _ (by decide +kernel)) ggX5_abandon_X5_lifts
theorem dX5_abandon_0 : decode cX5_abandon 0 = .ok (.aload_n 0, 1) := by decide +kernel
theorem dX5_abandon_1 : decode cX5_abandon 1 = .ok (.aload_n 0, 1) := by decide +kernel
theorem dX5_abandon_2 : decode cX5_abandon 2 = .ok (.getfield 60, 3) := by decide +kernel
theorem dX5_abandon_5 : decode cX5_abandon 5 = .ok (.iconst (-1), 1) := by decide +kernel
theorem dX5_abandon_6 : decode cX5_abandon 6 = .ok (.if_icmp .ne 7, 3) := by decide +kernel
theorem dX5_abandon_9 : decode cX5_abandon 9 = .ok (.iconst 1, 1) := by decide +kernel
theorem dX5_abandon_10 : decode cX5_abandon 10 = .ok (.goto 4, 3) := by decide +kernel
theorem dX5_abandon_13 : decode cX5_abandon 13 = .ok (.iconst 0, 1) := by decide +kernel
theorem dX5_abandon_14 : decode cX5_abandon 14 = .ok (.invokevirtual 108, 3) := by decide +kernel
theorem dX5_abandon_17 : decode cX5_abandon 17 = .ok (.ifCond .ne 5, 3) := by decide +kernel
theorem dX5_abandon_20 : decode cX5_abandon 20 = .ok (.iconst 0, 1) := by decide +kernel
theorem dX5_abandon_21 : decode cX5_abandon 21 = .ok (.ireturn, 1) := by decide +kernel
theorem dX5_abandon_22 : decode cX5_abandon 22 = .ok (.iconst 0, 1) := by decide +kernel
theorem dX5_abandon_23 : decode cX5_abandon 23 = .ok (.istore_n 1, 1) := by decide +kernel
theorem dX5_abandon_24 : decode cX5_abandon 24 = .ok (.iload_n 1, 1) := by decide +kernel
theorem dX5_abandon_25 : decode cX5_abandon 25 = .ok (.bipush 32, 2) := by decide +kernel
theorem dX5_abandon_27 : decode cX5_abandon 27 = .ok (.if_icmp .ge 56, 3) := by decide +kernel
theorem dX5_abandon_30 : decode cX5_abandon 30 = .ok (.aload_n 0, 1) := by decide +kernel
theorem dX5_abandon_31 : decode cX5_abandon 31 = .ok (.getfield 51, 3) := by decide +kernel
theorem dX5_abandon_34 : decode cX5_abandon 34 = .ok (.aload_n 0, 1) := by decide +kernel
theorem dX5_abandon_35 : decode cX5_abandon 35 = .ok (.iload_n 1, 1) := by decide +kernel
theorem dX5_abandon_36 : decode cX5_abandon 36 = .ok (.invokevirtual 115, 3) := by decide +kernel
theorem dX5_abandon_39 : decode cX5_abandon 39 = .ok (.iaload, 1) := by decide +kernel
theorem dX5_abandon_40 : decode cX5_abandon 40 = .ok (.aload_n 0, 1) := by decide +kernel
theorem dX5_abandon_41 : decode cX5_abandon 41 = .ok (.getfield 60, 3) := by decide +kernel
theorem dX5_abandon_44 : decode cX5_abandon 44 = .ok (.if_icmp .ne 33, 3) := by decide +kernel
theorem dX5_abandon_47 : decode cX5_abandon 47 = .ok (.aload_n 0, 1) := by decide +kernel
theorem dX5_abandon_48 : decode cX5_abandon 48 = .ok (.getfield 39, 3) := by decide +kernel
theorem dX5_abandon_51 : decode cX5_abandon 51 = .ok (.iload_n 1, 1) := by decide +kernel
theorem dX5_abandon_52 : decode cX5_abandon 52 = .ok (.dup2, 1) := by decide +kernel
theorem dX5_abandon_53 : decode cX5_abandon 53 = .ok (.iaload, 1) := by decide +kernel
theorem dX5_abandon_54 : decode cX5_abandon 54 = .ok (.aload_n 0, 1) := by decide +kernel
theorem dX5_abandon_55 : decode cX5_abandon 55 = .ok (.getfield 45, 3) := by decide +kernel
theorem dX5_abandon_58 : decode cX5_abandon 58 = .ok (.iload_n 1, 1) := by decide +kernel
theorem dX5_abandon_59 : decode cX5_abandon 59 = .ok (.iaload, 1) := by decide +kernel
theorem dX5_abandon_60 : decode cX5_abandon 60 = .ok (.iadd, 1) := by decide +kernel
theorem dX5_abandon_61 : decode cX5_abandon 61 = .ok (.iastore, 1) := by decide +kernel
theorem dX5_abandon_62 : decode cX5_abandon 62 = .ok (.aload_n 0, 1) := by decide +kernel
theorem dX5_abandon_63 : decode cX5_abandon 63 = .ok (.getfield 42, 3) := by decide +kernel
theorem dX5_abandon_66 : decode cX5_abandon 66 = .ok (.iload_n 1, 1) := by decide +kernel
theorem dX5_abandon_67 : decode cX5_abandon 67 = .ok (.dup2, 1) := by decide +kernel
theorem dX5_abandon_68 : decode cX5_abandon 68 = .ok (.iaload, 1) := by decide +kernel
theorem dX5_abandon_69 : decode cX5_abandon 69 = .ok (.aload_n 0, 1) := by decide +kernel
theorem dX5_abandon_70 : decode cX5_abandon 70 = .ok (.getfield 48, 3) := by decide +kernel
theorem dX5_abandon_73 : decode cX5_abandon 73 = .ok (.iload_n 1, 1) := by decide +kernel
theorem dX5_abandon_74 : decode cX5_abandon 74 = .ok (.iaload, 1) := by decide +kernel
theorem dX5_abandon_75 : decode cX5_abandon 75 = .ok (.iadd, 1) := by decide +kernel
theorem dX5_abandon_76 : decode cX5_abandon 76 = .ok (.iastore, 1) := by decide +kernel
theorem dX5_abandon_77 : decode cX5_abandon 77 = .ok (.iinc 1 1, 3) := by decide +kernel
theorem dX5_abandon_80 : decode cX5_abandon 80 = .ok (.goto (-56), 3) := by decide +kernel
theorem dX5_abandon_83 : decode cX5_abandon 83 = .ok (.aload_n 0, 1) := by decide +kernel
theorem dX5_abandon_84 : decode cX5_abandon 84 = .ok (.getfield 60, 3) := by decide +kernel
theorem dX5_abandon_87 : decode cX5_abandon 87 = .ok (.istore_n 1, 1) := by decide +kernel
theorem dX5_abandon_88 : decode cX5_abandon 88 = .ok (.aload_n 0, 1) := by decide +kernel
theorem dX5_abandon_89 : decode cX5_abandon 89 = .ok (.invokevirtual 87, 3) := by decide +kernel
theorem dX5_abandon_92 : decode cX5_abandon 92 = .ok (.aload_n 0, 1) := by decide +kernel
theorem dX5_abandon_93 : decode cX5_abandon 93 = .ok (.invokevirtual 168, 3) := by decide +kernel
theorem dX5_abandon_96 : decode cX5_abandon 96 = .ok (.aload_n 0, 1) := by decide +kernel
theorem dX5_abandon_97 : decode cX5_abandon 97 = .ok (.iconst (-1), 1) := by decide +kernel
theorem dX5_abandon_98 : decode cX5_abandon 98 = .ok (.putfield 60, 3) := by decide +kernel
theorem dX5_abandon_101 : decode cX5_abandon 101 = .ok (.iload_n 1, 1) := by decide +kernel
theorem dX5_abandon_102 : decode cX5_abandon 102 = .ok (.ireturn, 1) := by decide +kernel
set_option maxRecDepth 20000 in
theorem ggX5_startsAgain_X5_mayCommit : GoodIn wsX5_startsAgain wsX5_mayCommit := goodIn_r _ [16, 17, 2, 49, 50, 51, 52, 53, 54, 55, 56, 57, 58, 59, 60, 61, 62, 63, 64, 65, 66, 67, 68, 69, 70, 71, 72, 73, 74, 75] (by decide +kernel) (by decide +kernel)
set_option maxRecDepth 20000 in
theorem gX5_startsAgain_X5_mayCommit : GoodIn wsX5_startsAgain (wsV RX5 155 RX5 yX5_mayCommit wsX5_mayCommit) := goodIn_app (goodIn_of _ (by decide +kernel)) ggX5_startsAgain_X5_mayCommit
set_option maxRecDepth 20000 in
theorem ggX5_startsAgain_X5_commits : GoodIn wsX5_startsAgain wsX5_commits := goodIn_r _ [21, 22, 23, 24, 25, 17, 26, 27, 28, 15, 29, 1, 30, 31, 32, 49, 50, 51, 52, 53, 54, 55, 56, 57, 58, 59, 60, 61, 62, 63, 64, 65, 66, 67, 68, 69, 70, 71, 72, 73, 74, 75] (by decide +kernel) (by decide +kernel)
set_option maxRecDepth 20000 in
theorem gX5_startsAgain_X5_commits : GoodIn wsX5_startsAgain (wsV RX5 158 RX5 yX5_commits wsX5_commits) := goodIn_app (goodIn_of _ (by decide +kernel)) ggX5_startsAgain_X5_commits
set_option maxRecDepth 20000 in
theorem ggX5_startsAgain_X5_unseals : GoodIn wsX5_startsAgain wsX5_unseals := goodIn_r _ [36, 17, 49, 50, 51, 52, 53, 54, 55, 56, 57, 58, 59, 60, 61, 62, 63, 64, 65, 66, 67, 68, 69, 70, 71, 72, 73, 74, 75] (by decide +kernel) (by decide +kernel)
set_option maxRecDepth 20000 in
theorem gX5_startsAgain_X5_unseals : GoodIn wsX5_startsAgain (wsV RX5 87 RX5 yX5_unseals wsX5_unseals) := goodIn_app (goodIn_of _ (by decide +kernel)) ggX5_startsAgain_X5_unseals
set_option maxRecDepth 20000 in
theorem ggX5_startsAgain_X5_lifts : GoodIn wsX5_startsAgain wsX5_lifts := goodIn_r _ [40, 41, 42, 49, 50, 51, 52, 53, 54, 55, 56, 57, 58, 59, 60, 61, 62, 63, 64, 65, 66, 67, 68, 69, 70, 71, 72, 73, 74, 75] (by decide +kernel) (by decide +kernel)
set_option maxRecDepth 20000 in
theorem gX5_startsAgain_X5_lifts : GoodIn wsX5_startsAgain (wsV RX5 168 RX5 yX5_lifts wsX5_lifts) := goodIn_app (goodIn_of _ (by decide +kernel)) ggX5_startsAgain_X5_lifts
set_option maxRecDepth 20000 in
theorem ggX5_startsAgain_X5_clears : GoodIn wsX5_startsAgain wsX5_clears := goodIn_r _ [45] (by decide +kernel) (by decide +kernel)
set_option maxRecDepth 20000 in
theorem gX5_startsAgain_X5_clears : GoodIn wsX5_startsAgain (va_wsS RX5 171 yX5_clears wsX5_clears) := goodIn_app (goodIn_of _ (by decide +kernel)) ggX5_startsAgain_X5_clears
set_option maxRecDepth 20000 in
theorem ggX5_startsAgain_X5_copies : GoodIn wsX5_startsAgain wsX5_copies := goodIn_r _ [48] (by decide +kernel) (by decide +kernel)
set_option maxRecDepth 20000 in
theorem gX5_startsAgain_X5_copies : GoodIn wsX5_startsAgain (va_wsS RX5 141 yX5_copies wsX5_copies) := goodIn_app (goodIn_of _ (by decide +kernel)) ggX5_startsAgain_X5_copies
theorem dX5_startsAgain_0 : decode cX5_startsAgain 0 = .ok (.iconst 0, 1) := by decide +kernel
theorem dX5_startsAgain_1 : decode cX5_startsAgain 1 = .ok (.istore_n 2, 1) := by decide +kernel
theorem dX5_startsAgain_2 : decode cX5_startsAgain 2 = .ok (.iload_n 2, 1) := by decide +kernel
theorem dX5_startsAgain_3 : decode cX5_startsAgain 3 = .ok (.aload_n 0, 1) := by decide +kernel
theorem dX5_startsAgain_4 : decode cX5_startsAgain 4 = .ok (.getfield 7, 3) := by decide +kernel
theorem dX5_startsAgain_7 : decode cX5_startsAgain 7 = .ok (.if_icmp .ge 23, 3) := by decide +kernel
theorem dX5_startsAgain_10 : decode cX5_startsAgain 10 = .ok (.aload_n 0, 1) := by decide +kernel
theorem dX5_startsAgain_11 : decode cX5_startsAgain 11 = .ok (.iload_n 2, 1) := by decide +kernel
theorem dX5_startsAgain_12 : decode cX5_startsAgain 12 = .ok (.invokevirtual 155, 3) := by decide +kernel
theorem dX5_startsAgain_15 : decode cX5_startsAgain 15 = .ok (.ifCond .eq 9, 3) := by decide +kernel
theorem dX5_startsAgain_18 : decode cX5_startsAgain 18 = .ok (.aload_n 0, 1) := by decide +kernel
theorem dX5_startsAgain_19 : decode cX5_startsAgain 19 = .ok (.iload_n 2, 1) := by decide +kernel
theorem dX5_startsAgain_20 : decode cX5_startsAgain 20 = .ok (.invokevirtual 158, 3) := by decide +kernel
theorem dX5_startsAgain_23 : decode cX5_startsAgain 23 = .ok (.pop, 1) := by decide +kernel
theorem dX5_startsAgain_24 : decode cX5_startsAgain 24 = .ok (.iinc 2 1, 3) := by decide +kernel
theorem dX5_startsAgain_27 : decode cX5_startsAgain 27 = .ok (.goto (-25), 3) := by decide +kernel
theorem dX5_startsAgain_30 : decode cX5_startsAgain 30 = .ok (.aload_n 0, 1) := by decide +kernel
theorem dX5_startsAgain_31 : decode cX5_startsAgain 31 = .ok (.invokevirtual 87, 3) := by decide +kernel
theorem dX5_startsAgain_34 : decode cX5_startsAgain 34 = .ok (.aload_n 0, 1) := by decide +kernel
theorem dX5_startsAgain_35 : decode cX5_startsAgain 35 = .ok (.invokevirtual 168, 3) := by decide +kernel
theorem dX5_startsAgain_38 : decode cX5_startsAgain 38 = .ok (.aload_n 0, 1) := by decide +kernel
theorem dX5_startsAgain_39 : decode cX5_startsAgain 39 = .ok (.iconst (-1), 1) := by decide +kernel
theorem dX5_startsAgain_40 : decode cX5_startsAgain 40 = .ok (.putfield 60, 3) := by decide +kernel
theorem dX5_startsAgain_43 : decode cX5_startsAgain 43 = .ok (.aload_n 0, 1) := by decide +kernel
theorem dX5_startsAgain_44 : decode cX5_startsAgain 44 = .ok (.iload_n 1, 1) := by decide +kernel
theorem dX5_startsAgain_45 : decode cX5_startsAgain 45 = .ok (.putfield 7, 3) := by decide +kernel
theorem dX5_startsAgain_48 : decode cX5_startsAgain 48 = .ok (.aload_n 0, 1) := by decide +kernel
theorem dX5_startsAgain_49 : decode cX5_startsAgain 49 = .ok (.getfield 26, 3) := by decide +kernel
theorem dX5_startsAgain_52 : decode cX5_startsAgain 52 = .ok (.invokestatic 171, 3) := by decide +kernel
theorem dX5_startsAgain_55 : decode cX5_startsAgain 55 = .ok (.aload_n 0, 1) := by decide +kernel
theorem dX5_startsAgain_56 : decode cX5_startsAgain 56 = .ok (.getfield 39, 3) := by decide +kernel
theorem dX5_startsAgain_59 : decode cX5_startsAgain 59 = .ok (.invokestatic 171, 3) := by decide +kernel
theorem dX5_startsAgain_62 : decode cX5_startsAgain 62 = .ok (.aload_n 0, 1) := by decide +kernel
theorem dX5_startsAgain_63 : decode cX5_startsAgain 63 = .ok (.getfield 42, 3) := by decide +kernel
theorem dX5_startsAgain_66 : decode cX5_startsAgain 66 = .ok (.invokestatic 171, 3) := by decide +kernel
theorem dX5_startsAgain_69 : decode cX5_startsAgain 69 = .ok (.aload_n 0, 1) := by decide +kernel
theorem dX5_startsAgain_70 : decode cX5_startsAgain 70 = .ok (.getfield 78, 3) := by decide +kernel
theorem dX5_startsAgain_73 : decode cX5_startsAgain 73 = .ok (.aload_n 0, 1) := by decide +kernel
theorem dX5_startsAgain_74 : decode cX5_startsAgain 74 = .ok (.getfield 17, 3) := by decide +kernel
theorem dX5_startsAgain_77 : decode cX5_startsAgain 77 = .ok (.invokestatic 141, 3) := by decide +kernel
theorem dX5_startsAgain_80 : decode cX5_startsAgain 80 = .ok (.aload_n 0, 1) := by decide +kernel
theorem dX5_startsAgain_81 : decode cX5_startsAgain 81 = .ok (.getfield 81, 3) := by decide +kernel
theorem dX5_startsAgain_84 : decode cX5_startsAgain 84 = .ok (.aload_n 0, 1) := by decide +kernel
theorem dX5_startsAgain_85 : decode cX5_startsAgain 85 = .ok (.getfield 33, 3) := by decide +kernel
theorem dX5_startsAgain_88 : decode cX5_startsAgain 88 = .ok (.invokestatic 141, 3) := by decide +kernel
theorem dX5_startsAgain_91 : decode cX5_startsAgain 91 = .ok (.aload_n 0, 1) := by decide +kernel
theorem dX5_startsAgain_92 : decode cX5_startsAgain 92 = .ok (.getfield 84, 3) := by decide +kernel
theorem dX5_startsAgain_95 : decode cX5_startsAgain 95 = .ok (.aload_n 0, 1) := by decide +kernel
theorem dX5_startsAgain_96 : decode cX5_startsAgain 96 = .ok (.getfield 36, 3) := by decide +kernel
theorem dX5_startsAgain_99 : decode cX5_startsAgain 99 = .ok (.invokestatic 141, 3) := by decide +kernel
theorem dX5_startsAgain_102 : decode cX5_startsAgain 102 = .ok (.return_, 1) := by decide +kernel
set_option maxRecDepth 20000 in
theorem ggX5_crash_X5_startsAgain : GoodIn wsX5_crash wsX5_startsAgain := goodIn_r _ [8, 2, 9, 10, 11, 12, 13, 14, 15, 16, 17, 18, 19, 20, 21, 7, 22, 23, 24, 25, 26, 27, 28, 29, 30, 31, 32, 33, 34, 35, 36, 37, 38, 39, 40, 41, 42, 43, 44, 45, 46, 47, 48, 49, 50, 51, 52, 53, 54, 55, 56, 57, 58, 59, 60, 61, 62, 63, 64, 65, 66, 67, 68, 69, 70, 71, 72, 73, 74, 75, 76, 77, 78, 79, 80, 81] (by decide +kernel) (by decide +kernel)
set_option maxRecDepth 20000 in
theorem gX5_crash_X5_startsAgain : GoodIn wsX5_crash (wsV RX5 175 RX5 yX5_startsAgain wsX5_startsAgain) := goodIn_app (goodIn_of _ (by decide +kernel)) ggX5_crash_X5_startsAgain
theorem dX5_crash_0 : decode cX5_crash 0 = .ok (.aload_n 0, 1) := by decide +kernel
theorem dX5_crash_1 : decode cX5_crash 1 = .ok (.iconst 0, 1) := by decide +kernel
theorem dX5_crash_2 : decode cX5_crash 2 = .ok (.putfield 90, 3) := by decide +kernel
theorem dX5_crash_5 : decode cX5_crash 5 = .ok (.aload_n 0, 1) := by decide +kernel
theorem dX5_crash_6 : decode cX5_crash 6 = .ok (.aload_n 0, 1) := by decide +kernel
theorem dX5_crash_7 : decode cX5_crash 7 = .ok (.getfield 7, 3) := by decide +kernel
theorem dX5_crash_10 : decode cX5_crash 10 = .ok (.invokevirtual 175, 3) := by decide +kernel
theorem dX5_crash_13 : decode cX5_crash 13 = .ok (.aload_n 0, 1) := by decide +kernel
theorem dX5_crash_14 : decode cX5_crash 14 = .ok (.getfield 63, 3) := by decide +kernel
theorem dX5_crash_17 : decode cX5_crash 17 = .ok (.iconst (-1), 1) := by decide +kernel
theorem dX5_crash_18 : decode cX5_crash 18 = .ok (.if_icmp .ne 7, 3) := by decide +kernel
theorem dX5_crash_21 : decode cX5_crash 21 = .ok (.iconst 0, 1) := by decide +kernel
theorem dX5_crash_22 : decode cX5_crash 22 = .ok (.goto 7, 3) := by decide +kernel
theorem dX5_crash_25 : decode cX5_crash 25 = .ok (.aload_n 0, 1) := by decide +kernel
theorem dX5_crash_26 : decode cX5_crash 26 = .ok (.getfield 63, 3) := by decide +kernel
theorem dX5_crash_29 : decode cX5_crash 29 = .ok (.ireturn, 1) := by decide +kernel
set_option maxRecDepth 20000 in
theorem ggX5_rescale_X5_in : GoodIn wsX5_rescale wsX5_in := goodIn_r _ [5] (by decide +kernel) (by decide +kernel)
set_option maxRecDepth 20000 in
theorem gX5_rescale_X5_in : GoodIn wsX5_rescale (va_wsS RX5 93 yX5_in wsX5_in) := goodIn_app (goodIn_of _ (by decide +kernel)) ggX5_rescale_X5_in
set_option maxRecDepth 20000 in
theorem ggX5_rescale_X5_holds : GoodIn wsX5_rescale wsX5_holds := goodIn_r _ [9, 10, 61, 62, 63, 64, 65, 66, 67, 68, 69, 70, 71, 72, 73, 74, 75, 76, 77, 78, 79, 80, 81, 82, 83, 84, 85, 86, 87] (by decide +kernel) (by decide +kernel)
set_option maxRecDepth 20000 in
theorem gX5_rescale_X5_holds : GoodIn wsX5_rescale (wsV RX5 108 RX5 yX5_holds wsX5_holds) := goodIn_app (goodIn_of _ (by decide +kernel)) ggX5_rescale_X5_holds
set_option maxRecDepth 20000 in
theorem ggX5_rescale_X5_workerOfGroup : GoodIn wsX5_rescale wsX5_workerOfGroup := goodIn_r _ [13] (by decide +kernel) (by decide +kernel)
set_option maxRecDepth 20000 in
theorem gX5_rescale_X5_workerOfGroup : GoodIn wsX5_rescale (va_wsS RX5 97 yX5_workerOfGroup wsX5_workerOfGroup) := goodIn_app (goodIn_of _ (by decide +kernel)) ggX5_rescale_X5_workerOfGroup
set_option maxRecDepth 20000 in
theorem ggX5_rescale_X5_startsAgain : GoodIn wsX5_rescale wsX5_startsAgain := goodIn_r _ [17, 1, 18, 19, 20, 21, 22, 23, 24, 25, 26, 27, 28, 29, 30, 4, 31, 32, 33, 34, 35, 36, 37, 38, 39, 40, 41, 42, 43, 44, 11, 12, 13, 45, 46, 47, 48, 49, 50, 51, 52, 53, 54, 55, 56, 57, 58, 59, 60, 61, 62, 63, 64, 65, 66, 67, 68, 69, 70, 71, 72, 73, 74, 75, 76, 77, 78, 79, 80, 81, 82, 83, 84, 85, 86, 87] (by decide +kernel) (by decide +kernel)
set_option maxRecDepth 20000 in
theorem gX5_rescale_X5_startsAgain : GoodIn wsX5_rescale (wsV RX5 175 RX5 yX5_startsAgain wsX5_startsAgain) := goodIn_app (goodIn_of _ (by decide +kernel)) ggX5_rescale_X5_startsAgain
theorem dX5_rescale_0 : decode cX5_rescale 0 = .ok (.aload_n 0, 1) := by decide +kernel
theorem dX5_rescale_1 : decode cX5_rescale 1 = .ok (.iload_n 1, 1) := by decide +kernel
theorem dX5_rescale_2 : decode cX5_rescale 2 = .ok (.iconst 1, 1) := by decide +kernel
theorem dX5_rescale_3 : decode cX5_rescale 3 = .ok (.iconst 4, 1) := by decide +kernel
theorem dX5_rescale_4 : decode cX5_rescale 4 = .ok (.invokestatic 93, 3) := by decide +kernel
theorem dX5_rescale_7 : decode cX5_rescale 7 = .ok (.ifCond .eq 7, 3) := by decide +kernel
theorem dX5_rescale_10 : decode cX5_rescale 10 = .ok (.iconst 0, 1) := by decide +kernel
theorem dX5_rescale_11 : decode cX5_rescale 11 = .ok (.goto 4, 3) := by decide +kernel
theorem dX5_rescale_14 : decode cX5_rescale 14 = .ok (.iconst 1, 1) := by decide +kernel
theorem dX5_rescale_15 : decode cX5_rescale 15 = .ok (.invokevirtual 108, 3) := by decide +kernel
theorem dX5_rescale_18 : decode cX5_rescale 18 = .ok (.ifCond .ne 5, 3) := by decide +kernel
theorem dX5_rescale_21 : decode cX5_rescale 21 = .ok (.iconst 0, 1) := by decide +kernel
theorem dX5_rescale_22 : decode cX5_rescale 22 = .ok (.ireturn, 1) := by decide +kernel
theorem dX5_rescale_23 : decode cX5_rescale 23 = .ok (.iconst 0, 1) := by decide +kernel
theorem dX5_rescale_24 : decode cX5_rescale 24 = .ok (.istore_n 2, 1) := by decide +kernel
theorem dX5_rescale_25 : decode cX5_rescale 25 = .ok (.iconst 0, 1) := by decide +kernel
theorem dX5_rescale_26 : decode cX5_rescale 26 = .ok (.istore_n 3, 1) := by decide +kernel
theorem dX5_rescale_27 : decode cX5_rescale 27 = .ok (.iload_n 3, 1) := by decide +kernel
theorem dX5_rescale_28 : decode cX5_rescale 28 = .ok (.bipush 8, 2) := by decide +kernel
theorem dX5_rescale_30 : decode cX5_rescale 30 = .ok (.if_icmp .ge 33, 3) := by decide +kernel
theorem dX5_rescale_33 : decode cX5_rescale 33 = .ok (.iload_n 2, 1) := by decide +kernel
theorem dX5_rescale_34 : decode cX5_rescale 34 = .ok (.iload_n 3, 1) := by decide +kernel
theorem dX5_rescale_35 : decode cX5_rescale 35 = .ok (.iload_n 1, 1) := by decide +kernel
theorem dX5_rescale_36 : decode cX5_rescale 36 = .ok (.invokestatic 97, 3) := by decide +kernel
theorem dX5_rescale_39 : decode cX5_rescale 39 = .ok (.iload_n 3, 1) := by decide +kernel
theorem dX5_rescale_40 : decode cX5_rescale 40 = .ok (.aload_n 0, 1) := by decide +kernel
theorem dX5_rescale_41 : decode cX5_rescale 41 = .ok (.getfield 7, 3) := by decide +kernel
theorem dX5_rescale_44 : decode cX5_rescale 44 = .ok (.invokestatic 97, 3) := by decide +kernel
theorem dX5_rescale_47 : decode cX5_rescale 47 = .ok (.if_icmp .ne 7, 3) := by decide +kernel
theorem dX5_rescale_50 : decode cX5_rescale 50 = .ok (.iconst 0, 1) := by decide +kernel
theorem dX5_rescale_51 : decode cX5_rescale 51 = .ok (.goto 4, 3) := by decide +kernel
theorem dX5_rescale_54 : decode cX5_rescale 54 = .ok (.iconst 1, 1) := by decide +kernel
theorem dX5_rescale_55 : decode cX5_rescale 55 = .ok (.iadd, 1) := by decide +kernel
theorem dX5_rescale_56 : decode cX5_rescale 56 = .ok (.istore_n 2, 1) := by decide +kernel
theorem dX5_rescale_57 : decode cX5_rescale 57 = .ok (.iinc 3 1, 3) := by decide +kernel
theorem dX5_rescale_60 : decode cX5_rescale 60 = .ok (.goto (-33), 3) := by decide +kernel
theorem dX5_rescale_63 : decode cX5_rescale 63 = .ok (.aload_n 0, 1) := by decide +kernel
theorem dX5_rescale_64 : decode cX5_rescale 64 = .ok (.iload_n 1, 1) := by decide +kernel
theorem dX5_rescale_65 : decode cX5_rescale 65 = .ok (.invokevirtual 175, 3) := by decide +kernel
theorem dX5_rescale_68 : decode cX5_rescale 68 = .ok (.iload_n 2, 1) := by decide +kernel
theorem dX5_rescale_69 : decode cX5_rescale 69 = .ok (.ireturn, 1) := by decide +kernel
set_option maxRecDepth 20000 in
theorem ggX5_events_X5_isPartition : GoodIn wsX5_events wsX5_isPartition := goodIn_r _ [5, 6, 7, 4, 8] (by decide +kernel) (by decide +kernel)
set_option maxRecDepth 20000 in
theorem gX5_events_X5_isPartition : GoodIn wsX5_events (va_wsS RX5 101 yX5_isPartition wsX5_isPartition) := goodIn_app (goodIn_of _ (by decide +kernel)) ggX5_events_X5_isPartition
set_option maxRecDepth 20000 in
theorem ggX5_events_X5_holds : GoodIn wsX5_events wsX5_holds := goodIn_r _ [12, 13, 14, 15, 16, 17, 18, 19, 20, 21, 22, 23, 24, 25, 26, 27, 28, 29, 30, 31, 32, 33, 34, 35, 36, 37, 38, 39, 40] (by decide +kernel) (by decide +kernel)
set_option maxRecDepth 20000 in
theorem gX5_events_X5_holds : GoodIn wsX5_events (wsV RX5 108 RX5 yX5_holds wsX5_holds) := goodIn_app (goodIn_of _ (by decide +kernel)) ggX5_events_X5_holds
theorem dX5_events_0 : decode cX5_events 0 = .ok (.aload_n 0, 1) := by decide +kernel
theorem dX5_events_1 : decode cX5_events 1 = .ok (.iload_n 1, 1) := by decide +kernel
theorem dX5_events_2 : decode cX5_events 2 = .ok (.invokestatic 101, 3) := by decide +kernel
theorem dX5_events_5 : decode cX5_events 5 = .ok (.ifCond .eq 7, 3) := by decide +kernel
theorem dX5_events_8 : decode cX5_events 8 = .ok (.iconst 0, 1) := by decide +kernel
theorem dX5_events_9 : decode cX5_events 9 = .ok (.goto 4, 3) := by decide +kernel
theorem dX5_events_12 : decode cX5_events 12 = .ok (.iconst 1, 1) := by decide +kernel
theorem dX5_events_13 : decode cX5_events 13 = .ok (.invokevirtual 108, 3) := by decide +kernel
theorem dX5_events_16 : decode cX5_events 16 = .ok (.ifCond .eq 12, 3) := by decide +kernel
theorem dX5_events_19 : decode cX5_events 19 = .ok (.aload_n 0, 1) := by decide +kernel
theorem dX5_events_20 : decode cX5_events 20 = .ok (.getfield 13, 3) := by decide +kernel
theorem dX5_events_23 : decode cX5_events 23 = .ok (.iload_n 1, 1) := by decide +kernel
theorem dX5_events_24 : decode cX5_events 24 = .ok (.iaload, 1) := by decide +kernel
theorem dX5_events_25 : decode cX5_events 25 = .ok (.goto 4, 3) := by decide +kernel
theorem dX5_events_28 : decode cX5_events 28 = .ok (.iconst 0, 1) := by decide +kernel
theorem dX5_events_29 : decode cX5_events 29 = .ok (.ireturn, 1) := by decide +kernel
set_option maxRecDepth 20000 in
theorem ggX5_offset_X5_isPartition : GoodIn wsX5_offset wsX5_isPartition := goodIn_r _ [5, 6, 7, 4, 8] (by decide +kernel) (by decide +kernel)
set_option maxRecDepth 20000 in
theorem gX5_offset_X5_isPartition : GoodIn wsX5_offset (va_wsS RX5 101 yX5_isPartition wsX5_isPartition) := goodIn_app (goodIn_of _ (by decide +kernel)) ggX5_offset_X5_isPartition
set_option maxRecDepth 20000 in
theorem ggX5_offset_X5_holds : GoodIn wsX5_offset wsX5_holds := goodIn_r _ [12, 13, 14, 15, 16, 17, 18, 19, 20, 21, 22, 23, 24, 25, 26, 27, 28, 29, 30, 31, 32, 33, 34, 35, 36, 37, 38, 39, 40] (by decide +kernel) (by decide +kernel)
set_option maxRecDepth 20000 in
theorem gX5_offset_X5_holds : GoodIn wsX5_offset (wsV RX5 108 RX5 yX5_holds wsX5_holds) := goodIn_app (goodIn_of _ (by decide +kernel)) ggX5_offset_X5_holds
theorem dX5_offset_0 : decode cX5_offset 0 = .ok (.aload_n 0, 1) := by decide +kernel
theorem dX5_offset_1 : decode cX5_offset 1 = .ok (.iload_n 1, 1) := by decide +kernel
theorem dX5_offset_2 : decode cX5_offset 2 = .ok (.invokestatic 101, 3) := by decide +kernel
theorem dX5_offset_5 : decode cX5_offset 5 = .ok (.ifCond .eq 7, 3) := by decide +kernel
theorem dX5_offset_8 : decode cX5_offset 8 = .ok (.iconst 0, 1) := by decide +kernel
theorem dX5_offset_9 : decode cX5_offset 9 = .ok (.goto 4, 3) := by decide +kernel
theorem dX5_offset_12 : decode cX5_offset 12 = .ok (.iconst 1, 1) := by decide +kernel
theorem dX5_offset_13 : decode cX5_offset 13 = .ok (.invokevirtual 108, 3) := by decide +kernel
theorem dX5_offset_16 : decode cX5_offset 16 = .ok (.ifCond .eq 12, 3) := by decide +kernel
theorem dX5_offset_19 : decode cX5_offset 19 = .ok (.aload_n 0, 1) := by decide +kernel
theorem dX5_offset_20 : decode cX5_offset 20 = .ok (.getfield 17, 3) := by decide +kernel
theorem dX5_offset_23 : decode cX5_offset 23 = .ok (.iload_n 1, 1) := by decide +kernel
theorem dX5_offset_24 : decode cX5_offset 24 = .ok (.iaload, 1) := by decide +kernel
theorem dX5_offset_25 : decode cX5_offset 25 = .ok (.goto 4, 3) := by decide +kernel
theorem dX5_offset_28 : decode cX5_offset 28 = .ok (.iconst 0, 1) := by decide +kernel
theorem dX5_offset_29 : decode cX5_offset 29 = .ok (.ireturn, 1) := by decide +kernel
set_option maxRecDepth 20000 in
theorem ggX5_eventAt_X5_isPartition : GoodIn wsX5_eventAt wsX5_isPartition := goodIn_r _ [6, 7, 8, 5, 9] (by decide +kernel) (by decide +kernel)
set_option maxRecDepth 20000 in
theorem gX5_eventAt_X5_isPartition : GoodIn wsX5_eventAt (va_wsS RX5 101 yX5_isPartition wsX5_isPartition) := goodIn_app (goodIn_of _ (by decide +kernel)) ggX5_eventAt_X5_isPartition
set_option maxRecDepth 20000 in
theorem ggX5_eventAt_X5_in : GoodIn wsX5_eventAt wsX5_in := goodIn_r _ [9] (by decide +kernel) (by decide +kernel)
set_option maxRecDepth 20000 in
theorem gX5_eventAt_X5_in : GoodIn wsX5_eventAt (va_wsS RX5 93 yX5_in wsX5_in) := goodIn_app (goodIn_of _ (by decide +kernel)) ggX5_eventAt_X5_in
set_option maxRecDepth 20000 in
theorem ggX5_eventAt_X5_holds : GoodIn wsX5_eventAt wsX5_holds := goodIn_r _ [13, 14, 15, 16, 17, 18, 19, 20, 21, 22, 23, 24, 25, 26, 27, 28, 29, 30, 31, 32, 33, 34, 35, 36, 37, 38, 39, 40, 41] (by decide +kernel) (by decide +kernel)
set_option maxRecDepth 20000 in
theorem gX5_eventAt_X5_holds : GoodIn wsX5_eventAt (wsV RX5 108 RX5 yX5_holds wsX5_holds) := goodIn_app (goodIn_of _ (by decide +kernel)) ggX5_eventAt_X5_holds
theorem dX5_eventAt_0 : decode cX5_eventAt 0 = .ok (.aload_n 0, 1) := by decide +kernel
theorem dX5_eventAt_1 : decode cX5_eventAt 1 = .ok (.iload_n 1, 1) := by decide +kernel
theorem dX5_eventAt_2 : decode cX5_eventAt 2 = .ok (.invokestatic 101, 3) := by decide +kernel
theorem dX5_eventAt_5 : decode cX5_eventAt 5 = .ok (.ifCond .eq 23, 3) := by decide +kernel
theorem dX5_eventAt_8 : decode cX5_eventAt 8 = .ok (.iload_n 2, 1) := by decide +kernel
theorem dX5_eventAt_9 : decode cX5_eventAt 9 = .ok (.iconst 0, 1) := by decide +kernel
theorem dX5_eventAt_10 : decode cX5_eventAt 10 = .ok (.aload_n 0, 1) := by decide +kernel
theorem dX5_eventAt_11 : decode cX5_eventAt 11 = .ok (.getfield 13, 3) := by decide +kernel
theorem dX5_eventAt_14 : decode cX5_eventAt 14 = .ok (.iload_n 1, 1) := by decide +kernel
theorem dX5_eventAt_15 : decode cX5_eventAt 15 = .ok (.iaload, 1) := by decide +kernel
theorem dX5_eventAt_16 : decode cX5_eventAt 16 = .ok (.iconst 1, 1) := by decide +kernel
theorem dX5_eventAt_17 : decode cX5_eventAt 17 = .ok (.isub, 1) := by decide +kernel
theorem dX5_eventAt_18 : decode cX5_eventAt 18 = .ok (.invokestatic 93, 3) := by decide +kernel
theorem dX5_eventAt_21 : decode cX5_eventAt 21 = .ok (.ifCond .eq 7, 3) := by decide +kernel
theorem dX5_eventAt_24 : decode cX5_eventAt 24 = .ok (.iconst 0, 1) := by decide +kernel
theorem dX5_eventAt_25 : decode cX5_eventAt 25 = .ok (.goto 4, 3) := by decide +kernel
theorem dX5_eventAt_28 : decode cX5_eventAt 28 = .ok (.iconst 1, 1) := by decide +kernel
theorem dX5_eventAt_29 : decode cX5_eventAt 29 = .ok (.invokevirtual 108, 3) := by decide +kernel
theorem dX5_eventAt_32 : decode cX5_eventAt 32 = .ok (.ifCond .eq 17, 3) := by decide +kernel
theorem dX5_eventAt_35 : decode cX5_eventAt 35 = .ok (.aload_n 0, 1) := by decide +kernel
theorem dX5_eventAt_36 : decode cX5_eventAt 36 = .ok (.getfield 20, 3) := by decide +kernel
theorem dX5_eventAt_39 : decode cX5_eventAt 39 = .ok (.bipush 60, 2) := by decide +kernel
theorem dX5_eventAt_41 : decode cX5_eventAt 41 = .ok (.iload_n 1, 1) := by decide +kernel
theorem dX5_eventAt_42 : decode cX5_eventAt 42 = .ok (.imul, 1) := by decide +kernel
theorem dX5_eventAt_43 : decode cX5_eventAt 43 = .ok (.iload_n 2, 1) := by decide +kernel
theorem dX5_eventAt_44 : decode cX5_eventAt 44 = .ok (.iadd, 1) := by decide +kernel
theorem dX5_eventAt_45 : decode cX5_eventAt 45 = .ok (.iaload, 1) := by decide +kernel
theorem dX5_eventAt_46 : decode cX5_eventAt 46 = .ok (.goto 4, 3) := by decide +kernel
theorem dX5_eventAt_49 : decode cX5_eventAt 49 = .ok (.iconst 0, 1) := by decide +kernel
theorem dX5_eventAt_50 : decode cX5_eventAt 50 = .ok (.ireturn, 1) := by decide +kernel
set_option maxRecDepth 20000 in
theorem ggX5_isChannel_X5_isPartition : GoodIn wsX5_isChannel wsX5_isPartition := goodIn_r _ [4, 5, 6, 3, 7] (by decide +kernel) (by decide +kernel)
set_option maxRecDepth 20000 in
theorem gX5_isChannel_X5_isPartition : GoodIn wsX5_isChannel (va_wsS RX5 101 yX5_isPartition wsX5_isPartition) := goodIn_app (goodIn_of _ (by decide +kernel)) ggX5_isChannel_X5_isPartition
set_option maxRecDepth 20000 in
theorem ggX5_isChannel_X5_isWorker : GoodIn wsX5_isChannel wsX5_isWorker := goodIn_r _ [11, 12, 5, 6, 3, 7, 13, 14, 15, 16, 17, 18, 19, 20, 21, 22, 23, 24, 25, 26, 27, 28, 29, 30, 31, 32, 33, 34, 35, 36, 37, 38, 39] (by decide +kernel) (by decide +kernel)
set_option maxRecDepth 20000 in
theorem gX5_isChannel_X5_isWorker : GoodIn wsX5_isChannel (wsV RX5 145 RX5 yX5_isWorker wsX5_isWorker) := goodIn_app (goodIn_of _ (by decide +kernel)) ggX5_isChannel_X5_isWorker
theorem dX5_isChannel_0 : decode cX5_isChannel 0 = .ok (.iload_n 1, 1) := by decide +kernel
theorem dX5_isChannel_1 : decode cX5_isChannel 1 = .ok (.invokestatic 101, 3) := by decide +kernel
theorem dX5_isChannel_4 : decode cX5_isChannel 4 = .ok (.ifCond .eq 15, 3) := by decide +kernel
theorem dX5_isChannel_7 : decode cX5_isChannel 7 = .ok (.aload_n 0, 1) := by decide +kernel
theorem dX5_isChannel_8 : decode cX5_isChannel 8 = .ok (.iload_n 2, 1) := by decide +kernel
theorem dX5_isChannel_9 : decode cX5_isChannel 9 = .ok (.invokevirtual 145, 3) := by decide +kernel
theorem dX5_isChannel_12 : decode cX5_isChannel 12 = .ok (.ifCond .eq 7, 3) := by decide +kernel
theorem dX5_isChannel_15 : decode cX5_isChannel 15 = .ok (.iconst 1, 1) := by decide +kernel
theorem dX5_isChannel_16 : decode cX5_isChannel 16 = .ok (.goto 4, 3) := by decide +kernel
theorem dX5_isChannel_19 : decode cX5_isChannel 19 = .ok (.iconst 0, 1) := by decide +kernel
theorem dX5_isChannel_20 : decode cX5_isChannel 20 = .ok (.ireturn, 1) := by decide +kernel
set_option maxRecDepth 20000 in
theorem ggX5_queued_X5_isChannel : GoodIn wsX5_queued wsX5_isChannel := goodIn_r _ [6, 7, 8, 5, 9, 10, 11, 12, 13, 14, 15, 16, 17, 26, 27, 28, 29, 30, 31, 32, 33, 34, 35, 36, 37, 38, 39, 40, 41, 42, 43, 44, 45, 46, 47, 48, 49, 50, 51, 52] (by decide +kernel) (by decide +kernel)
set_option maxRecDepth 20000 in
theorem gX5_queued_X5_isChannel : GoodIn wsX5_queued (wsV RX5 178 RX5 yX5_isChannel wsX5_isChannel) := goodIn_app (goodIn_of _ (by decide +kernel)) ggX5_queued_X5_isChannel
set_option maxRecDepth 20000 in
theorem ggX5_queued_X5_holds : GoodIn wsX5_queued wsX5_holds := goodIn_r _ [21, 22, 26, 27, 28, 29, 30, 31, 32, 33, 34, 35, 36, 37, 38, 39, 40, 41, 42, 43, 44, 45, 46, 47, 48, 49, 50, 51, 52] (by decide +kernel) (by decide +kernel)
set_option maxRecDepth 20000 in
theorem gX5_queued_X5_holds : GoodIn wsX5_queued (wsV RX5 108 RX5 yX5_holds wsX5_holds) := goodIn_app (goodIn_of _ (by decide +kernel)) ggX5_queued_X5_holds
set_option maxRecDepth 20000 in
theorem ggX5_queued_X5_channel : GoodIn wsX5_queued wsX5_channel := goodIn_r _ [25] (by decide +kernel) (by decide +kernel)
set_option maxRecDepth 20000 in
theorem gX5_queued_X5_channel : GoodIn wsX5_queued (va_wsS RX5 118 yX5_channel wsX5_channel) := goodIn_app (goodIn_of _ (by decide +kernel)) ggX5_queued_X5_channel
theorem dX5_queued_0 : decode cX5_queued 0 = .ok (.aload_n 0, 1) := by decide +kernel
theorem dX5_queued_1 : decode cX5_queued 1 = .ok (.aload_n 0, 1) := by decide +kernel
theorem dX5_queued_2 : decode cX5_queued 2 = .ok (.iload_n 1, 1) := by decide +kernel
theorem dX5_queued_3 : decode cX5_queued 3 = .ok (.iload_n 2, 1) := by decide +kernel
theorem dX5_queued_4 : decode cX5_queued 4 = .ok (.invokevirtual 178, 3) := by decide +kernel
theorem dX5_queued_7 : decode cX5_queued 7 = .ok (.ifCond .eq 7, 3) := by decide +kernel
theorem dX5_queued_10 : decode cX5_queued 10 = .ok (.iconst 0, 1) := by decide +kernel
theorem dX5_queued_11 : decode cX5_queued 11 = .ok (.goto 4, 3) := by decide +kernel
theorem dX5_queued_14 : decode cX5_queued 14 = .ok (.iconst 1, 1) := by decide +kernel
theorem dX5_queued_15 : decode cX5_queued 15 = .ok (.invokevirtual 108, 3) := by decide +kernel
theorem dX5_queued_18 : decode cX5_queued 18 = .ok (.ifCond .eq 16, 3) := by decide +kernel
theorem dX5_queued_21 : decode cX5_queued 21 = .ok (.aload_n 0, 1) := by decide +kernel
theorem dX5_queued_22 : decode cX5_queued 22 = .ok (.getfield 26, 3) := by decide +kernel
theorem dX5_queued_25 : decode cX5_queued 25 = .ok (.iload_n 1, 1) := by decide +kernel
theorem dX5_queued_26 : decode cX5_queued 26 = .ok (.iload_n 2, 1) := by decide +kernel
theorem dX5_queued_27 : decode cX5_queued 27 = .ok (.invokestatic 118, 3) := by decide +kernel
theorem dX5_queued_30 : decode cX5_queued 30 = .ok (.iaload, 1) := by decide +kernel
theorem dX5_queued_31 : decode cX5_queued 31 = .ok (.goto 4, 3) := by decide +kernel
theorem dX5_queued_34 : decode cX5_queued 34 = .ok (.iconst 0, 1) := by decide +kernel
theorem dX5_queued_35 : decode cX5_queued 35 = .ok (.ireturn, 1) := by decide +kernel
set_option maxRecDepth 20000 in
theorem ggX5_itemAt_X5_isChannel : GoodIn wsX5_itemAt wsX5_isChannel := goodIn_r _ [7, 8, 9, 6, 10, 11, 12, 13, 14, 15, 16, 17, 18, 27, 28, 29, 30, 31, 32, 33, 34, 35, 36, 37, 38, 39, 40, 41, 42, 43, 44, 45, 46, 47, 48, 49, 50, 51, 52, 53] (by decide +kernel) (by decide +kernel)
set_option maxRecDepth 20000 in
theorem gX5_itemAt_X5_isChannel : GoodIn wsX5_itemAt (wsV RX5 178 RX5 yX5_isChannel wsX5_isChannel) := goodIn_app (goodIn_of _ (by decide +kernel)) ggX5_itemAt_X5_isChannel
set_option maxRecDepth 20000 in
theorem ggX5_itemAt_X5_channel : GoodIn wsX5_itemAt wsX5_channel := goodIn_r _ [21] (by decide +kernel) (by decide +kernel)
set_option maxRecDepth 20000 in
theorem gX5_itemAt_X5_channel : GoodIn wsX5_itemAt (va_wsS RX5 118 yX5_channel wsX5_channel) := goodIn_app (goodIn_of _ (by decide +kernel)) ggX5_itemAt_X5_channel
set_option maxRecDepth 20000 in
theorem ggX5_itemAt_X5_in : GoodIn wsX5_itemAt wsX5_in := goodIn_r _ [13] (by decide +kernel) (by decide +kernel)
set_option maxRecDepth 20000 in
theorem gX5_itemAt_X5_in : GoodIn wsX5_itemAt (va_wsS RX5 93 yX5_in wsX5_in) := goodIn_app (goodIn_of _ (by decide +kernel)) ggX5_itemAt_X5_in
set_option maxRecDepth 20000 in
theorem ggX5_itemAt_X5_holds : GoodIn wsX5_itemAt wsX5_holds := goodIn_r _ [25, 26, 27, 28, 29, 30, 31, 32, 33, 34, 35, 36, 37, 38, 39, 40, 41, 42, 43, 44, 45, 46, 47, 48, 49, 50, 51, 52, 53] (by decide +kernel) (by decide +kernel)
set_option maxRecDepth 20000 in
theorem gX5_itemAt_X5_holds : GoodIn wsX5_itemAt (wsV RX5 108 RX5 yX5_holds wsX5_holds) := goodIn_app (goodIn_of _ (by decide +kernel)) ggX5_itemAt_X5_holds
theorem dX5_itemAt_0 : decode cX5_itemAt 0 = .ok (.aload_n 0, 1) := by decide +kernel
theorem dX5_itemAt_1 : decode cX5_itemAt 1 = .ok (.iload_n 1, 1) := by decide +kernel
theorem dX5_itemAt_2 : decode cX5_itemAt 2 = .ok (.iload_n 2, 1) := by decide +kernel
theorem dX5_itemAt_3 : decode cX5_itemAt 3 = .ok (.invokevirtual 178, 3) := by decide +kernel
theorem dX5_itemAt_6 : decode cX5_itemAt 6 = .ok (.ifCond .eq 27, 3) := by decide +kernel
theorem dX5_itemAt_9 : decode cX5_itemAt 9 = .ok (.iload_n 3, 1) := by decide +kernel
theorem dX5_itemAt_10 : decode cX5_itemAt 10 = .ok (.iconst 0, 1) := by decide +kernel
theorem dX5_itemAt_11 : decode cX5_itemAt 11 = .ok (.aload_n 0, 1) := by decide +kernel
theorem dX5_itemAt_12 : decode cX5_itemAt 12 = .ok (.getfield 26, 3) := by decide +kernel
theorem dX5_itemAt_15 : decode cX5_itemAt 15 = .ok (.iload_n 1, 1) := by decide +kernel
theorem dX5_itemAt_16 : decode cX5_itemAt 16 = .ok (.iload_n 2, 1) := by decide +kernel
theorem dX5_itemAt_17 : decode cX5_itemAt 17 = .ok (.invokestatic 118, 3) := by decide +kernel
theorem dX5_itemAt_20 : decode cX5_itemAt 20 = .ok (.iaload, 1) := by decide +kernel
theorem dX5_itemAt_21 : decode cX5_itemAt 21 = .ok (.iconst 1, 1) := by decide +kernel
theorem dX5_itemAt_22 : decode cX5_itemAt 22 = .ok (.isub, 1) := by decide +kernel
theorem dX5_itemAt_23 : decode cX5_itemAt 23 = .ok (.invokestatic 93, 3) := by decide +kernel
theorem dX5_itemAt_26 : decode cX5_itemAt 26 = .ok (.ifCond .eq 7, 3) := by decide +kernel
theorem dX5_itemAt_29 : decode cX5_itemAt 29 = .ok (.iconst 1, 1) := by decide +kernel
theorem dX5_itemAt_30 : decode cX5_itemAt 30 = .ok (.goto 4, 3) := by decide +kernel
theorem dX5_itemAt_33 : decode cX5_itemAt 33 = .ok (.iconst 0, 1) := by decide +kernel
theorem dX5_itemAt_34 : decode cX5_itemAt 34 = .ok (.istore 4, 2) := by decide +kernel
theorem dX5_itemAt_36 : decode cX5_itemAt 36 = .ok (.aload_n 0, 1) := by decide +kernel
theorem dX5_itemAt_37 : decode cX5_itemAt 37 = .ok (.iload 4, 2) := by decide +kernel
theorem dX5_itemAt_39 : decode cX5_itemAt 39 = .ok (.ifCond .eq 7, 3) := by decide +kernel
theorem dX5_itemAt_42 : decode cX5_itemAt 42 = .ok (.iconst 0, 1) := by decide +kernel
theorem dX5_itemAt_43 : decode cX5_itemAt 43 = .ok (.goto 4, 3) := by decide +kernel
theorem dX5_itemAt_46 : decode cX5_itemAt 46 = .ok (.iconst 1, 1) := by decide +kernel
theorem dX5_itemAt_47 : decode cX5_itemAt 47 = .ok (.invokevirtual 108, 3) := by decide +kernel
theorem dX5_itemAt_50 : decode cX5_itemAt 50 = .ok (.ifCond .eq 21, 3) := by decide +kernel
theorem dX5_itemAt_53 : decode cX5_itemAt 53 = .ok (.aload_n 0, 1) := by decide +kernel
theorem dX5_itemAt_54 : decode cX5_itemAt 54 = .ok (.getfield 23, 3) := by decide +kernel
theorem dX5_itemAt_57 : decode cX5_itemAt 57 = .ok (.bipush 8, 2) := by decide +kernel
theorem dX5_itemAt_59 : decode cX5_itemAt 59 = .ok (.iload_n 1, 1) := by decide +kernel
theorem dX5_itemAt_60 : decode cX5_itemAt 60 = .ok (.iload_n 2, 1) := by decide +kernel
theorem dX5_itemAt_61 : decode cX5_itemAt 61 = .ok (.invokestatic 118, 3) := by decide +kernel
theorem dX5_itemAt_64 : decode cX5_itemAt 64 = .ok (.imul, 1) := by decide +kernel
theorem dX5_itemAt_65 : decode cX5_itemAt 65 = .ok (.iload_n 3, 1) := by decide +kernel
theorem dX5_itemAt_66 : decode cX5_itemAt 66 = .ok (.iadd, 1) := by decide +kernel
theorem dX5_itemAt_67 : decode cX5_itemAt 67 = .ok (.iaload, 1) := by decide +kernel
theorem dX5_itemAt_68 : decode cX5_itemAt 68 = .ok (.goto 4, 3) := by decide +kernel
theorem dX5_itemAt_71 : decode cX5_itemAt 71 = .ok (.iconst 0, 1) := by decide +kernel
theorem dX5_itemAt_72 : decode cX5_itemAt 72 = .ok (.ireturn, 1) := by decide +kernel
set_option maxRecDepth 20000 in
theorem ggX5_isBlocked_X5_isChannel : GoodIn wsX5_isBlocked wsX5_isChannel := goodIn_r _ [6, 7, 8, 5, 9, 10, 11, 12, 13, 14, 15, 16, 17, 26, 27, 28, 29, 30, 31, 32, 33, 34, 35, 36, 37, 38, 39, 40, 41, 42, 43, 44, 45, 46, 47, 48, 49, 50, 51, 52] (by decide +kernel) (by decide +kernel)
set_option maxRecDepth 20000 in
theorem gX5_isBlocked_X5_isChannel : GoodIn wsX5_isBlocked (wsV RX5 178 RX5 yX5_isChannel wsX5_isChannel) := goodIn_app (goodIn_of _ (by decide +kernel)) ggX5_isBlocked_X5_isChannel
set_option maxRecDepth 20000 in
theorem ggX5_isBlocked_X5_holds : GoodIn wsX5_isBlocked wsX5_holds := goodIn_r _ [21, 22, 26, 27, 28, 29, 30, 31, 32, 33, 34, 35, 36, 37, 38, 39, 40, 41, 42, 43, 44, 45, 46, 47, 48, 49, 50, 51, 52] (by decide +kernel) (by decide +kernel)
set_option maxRecDepth 20000 in
theorem gX5_isBlocked_X5_holds : GoodIn wsX5_isBlocked (wsV RX5 108 RX5 yX5_holds wsX5_holds) := goodIn_app (goodIn_of _ (by decide +kernel)) ggX5_isBlocked_X5_holds
set_option maxRecDepth 20000 in
theorem ggX5_isBlocked_X5_channel : GoodIn wsX5_isBlocked wsX5_channel := goodIn_r _ [25] (by decide +kernel) (by decide +kernel)
set_option maxRecDepth 20000 in
theorem gX5_isBlocked_X5_channel : GoodIn wsX5_isBlocked (va_wsS RX5 118 yX5_channel wsX5_channel) := goodIn_app (goodIn_of _ (by decide +kernel)) ggX5_isBlocked_X5_channel
theorem dX5_isBlocked_0 : decode cX5_isBlocked 0 = .ok (.aload_n 0, 1) := by decide +kernel
theorem dX5_isBlocked_1 : decode cX5_isBlocked 1 = .ok (.aload_n 0, 1) := by decide +kernel
theorem dX5_isBlocked_2 : decode cX5_isBlocked 2 = .ok (.iload_n 1, 1) := by decide +kernel
theorem dX5_isBlocked_3 : decode cX5_isBlocked 3 = .ok (.iload_n 2, 1) := by decide +kernel
theorem dX5_isBlocked_4 : decode cX5_isBlocked 4 = .ok (.invokevirtual 178, 3) := by decide +kernel
theorem dX5_isBlocked_7 : decode cX5_isBlocked 7 = .ok (.ifCond .eq 7, 3) := by decide +kernel
theorem dX5_isBlocked_10 : decode cX5_isBlocked 10 = .ok (.iconst 0, 1) := by decide +kernel
theorem dX5_isBlocked_11 : decode cX5_isBlocked 11 = .ok (.goto 4, 3) := by decide +kernel
theorem dX5_isBlocked_14 : decode cX5_isBlocked 14 = .ok (.iconst 1, 1) := by decide +kernel
theorem dX5_isBlocked_15 : decode cX5_isBlocked 15 = .ok (.invokevirtual 108, 3) := by decide +kernel
theorem dX5_isBlocked_18 : decode cX5_isBlocked 18 = .ok (.ifCond .eq 20, 3) := by decide +kernel
theorem dX5_isBlocked_21 : decode cX5_isBlocked 21 = .ok (.aload_n 0, 1) := by decide +kernel
theorem dX5_isBlocked_22 : decode cX5_isBlocked 22 = .ok (.getfield 29, 3) := by decide +kernel
theorem dX5_isBlocked_25 : decode cX5_isBlocked 25 = .ok (.iload_n 1, 1) := by decide +kernel
theorem dX5_isBlocked_26 : decode cX5_isBlocked 26 = .ok (.iload_n 2, 1) := by decide +kernel
theorem dX5_isBlocked_27 : decode cX5_isBlocked 27 = .ok (.invokestatic 118, 3) := by decide +kernel
theorem dX5_isBlocked_30 : decode cX5_isBlocked 30 = .ok (.baload, 1) := by decide +kernel
theorem dX5_isBlocked_31 : decode cX5_isBlocked 31 = .ok (.ifCond .eq 7, 3) := by decide +kernel
theorem dX5_isBlocked_34 : decode cX5_isBlocked 34 = .ok (.iconst 1, 1) := by decide +kernel
theorem dX5_isBlocked_35 : decode cX5_isBlocked 35 = .ok (.goto 4, 3) := by decide +kernel
theorem dX5_isBlocked_38 : decode cX5_isBlocked 38 = .ok (.iconst 0, 1) := by decide +kernel
theorem dX5_isBlocked_39 : decode cX5_isBlocked 39 = .ok (.ireturn, 1) := by decide +kernel
theorem dX5_workers_0 : decode cX5_workers 0 = .ok (.aload_n 0, 1) := by decide +kernel
theorem dX5_workers_1 : decode cX5_workers 1 = .ok (.iconst 0, 1) := by decide +kernel
theorem dX5_workers_2 : decode cX5_workers 2 = .ok (.putfield 90, 3) := by decide +kernel
theorem dX5_workers_5 : decode cX5_workers 5 = .ok (.aload_n 0, 1) := by decide +kernel
theorem dX5_workers_6 : decode cX5_workers 6 = .ok (.getfield 7, 3) := by decide +kernel
theorem dX5_workers_9 : decode cX5_workers 9 = .ok (.ireturn, 1) := by decide +kernel
set_option maxRecDepth 20000 in
theorem ggX5_workerOf_X5_isKey : GoodIn wsX5_workerOf wsX5_isKey := goodIn_r _ [4, 5, 6, 3, 7] (by decide +kernel) (by decide +kernel)
set_option maxRecDepth 20000 in
theorem gX5_workerOf_X5_isKey : GoodIn wsX5_workerOf (va_wsS RX5 105 yX5_isKey wsX5_isKey) := goodIn_app (goodIn_of _ (by decide +kernel)) ggX5_workerOf_X5_isKey
set_option maxRecDepth 20000 in
theorem ggX5_workerOf_X5_holds : GoodIn wsX5_workerOf wsX5_holds := goodIn_r _ [11, 12, 21, 22, 23, 24, 25, 26, 27, 28, 29, 30, 31, 32, 33, 34, 35, 36, 37, 38, 39, 40, 41, 42, 43, 44, 45, 46, 47] (by decide +kernel) (by decide +kernel)
set_option maxRecDepth 20000 in
theorem gX5_workerOf_X5_holds : GoodIn wsX5_workerOf (wsV RX5 108 RX5 yX5_holds wsX5_holds) := goodIn_app (goodIn_of _ (by decide +kernel)) ggX5_workerOf_X5_holds
set_option maxRecDepth 20000 in
theorem ggX5_workerOf_X5_workerOfKey : GoodIn wsX5_workerOf wsX5_workerOfKey := goodIn_r _ [16, 17, 18, 19, 3, 20, 21, 22, 23, 24, 25, 26, 27, 28, 29, 30, 31, 32, 33, 34, 35, 36, 37, 38, 39, 40, 41, 42, 43, 44, 45, 46, 47] (by decide +kernel) (by decide +kernel)
set_option maxRecDepth 20000 in
theorem gX5_workerOf_X5_workerOfKey : GoodIn wsX5_workerOf (wsV RX5 115 RX5 yX5_workerOfKey wsX5_workerOfKey) := goodIn_app (goodIn_of _ (by decide +kernel)) ggX5_workerOf_X5_workerOfKey
theorem dX5_workerOf_0 : decode cX5_workerOf 0 = .ok (.aload_n 0, 1) := by decide +kernel
theorem dX5_workerOf_1 : decode cX5_workerOf 1 = .ok (.iload_n 1, 1) := by decide +kernel
theorem dX5_workerOf_2 : decode cX5_workerOf 2 = .ok (.invokestatic 105, 3) := by decide +kernel
theorem dX5_workerOf_5 : decode cX5_workerOf 5 = .ok (.ifCond .eq 7, 3) := by decide +kernel
theorem dX5_workerOf_8 : decode cX5_workerOf 8 = .ok (.iconst 0, 1) := by decide +kernel
theorem dX5_workerOf_9 : decode cX5_workerOf 9 = .ok (.goto 4, 3) := by decide +kernel
theorem dX5_workerOf_12 : decode cX5_workerOf 12 = .ok (.iconst 1, 1) := by decide +kernel
theorem dX5_workerOf_13 : decode cX5_workerOf 13 = .ok (.invokevirtual 108, 3) := by decide +kernel
theorem dX5_workerOf_16 : decode cX5_workerOf 16 = .ok (.ifCond .eq 11, 3) := by decide +kernel
theorem dX5_workerOf_19 : decode cX5_workerOf 19 = .ok (.aload_n 0, 1) := by decide +kernel
theorem dX5_workerOf_20 : decode cX5_workerOf 20 = .ok (.iload_n 1, 1) := by decide +kernel
theorem dX5_workerOf_21 : decode cX5_workerOf 21 = .ok (.invokevirtual 115, 3) := by decide +kernel
theorem dX5_workerOf_24 : decode cX5_workerOf 24 = .ok (.goto 4, 3) := by decide +kernel
theorem dX5_workerOf_27 : decode cX5_workerOf 27 = .ok (.iconst 0, 1) := by decide +kernel
theorem dX5_workerOf_28 : decode cX5_workerOf 28 = .ok (.ireturn, 1) := by decide +kernel
set_option maxRecDepth 20000 in
theorem ggX5_groupsOf_X5_isWorker : GoodIn wsX5_groupsOf wsX5_isWorker := goodIn_r _ [6, 1, 7, 8, 5, 9, 18, 19, 20, 21, 22, 23, 24, 25, 26, 27, 28, 29, 30, 31, 32, 33, 34, 35, 36, 37, 38, 39, 40, 41, 42, 43, 44] (by decide +kernel) (by decide +kernel)
set_option maxRecDepth 20000 in
theorem gX5_groupsOf_X5_isWorker : GoodIn wsX5_groupsOf (wsV RX5 145 RX5 yX5_isWorker wsX5_isWorker) := goodIn_app (goodIn_of _ (by decide +kernel)) ggX5_groupsOf_X5_isWorker
set_option maxRecDepth 20000 in
theorem ggX5_groupsOf_X5_holds : GoodIn wsX5_groupsOf wsX5_holds := goodIn_r _ [13, 14, 18, 19, 20, 21, 22, 23, 24, 25, 26, 27, 28, 29, 30, 31, 32, 33, 34, 35, 36, 37, 38, 39, 40, 41, 42, 43, 44] (by decide +kernel) (by decide +kernel)
set_option maxRecDepth 20000 in
theorem gX5_groupsOf_X5_holds : GoodIn wsX5_groupsOf (wsV RX5 108 RX5 yX5_holds wsX5_holds) := goodIn_app (goodIn_of _ (by decide +kernel)) ggX5_groupsOf_X5_holds
set_option maxRecDepth 20000 in
theorem ggX5_groupsOf_X5_workerOfGroup : GoodIn wsX5_groupsOf wsX5_workerOfGroup := goodIn_r _ [17] (by decide +kernel) (by decide +kernel)
set_option maxRecDepth 20000 in
theorem gX5_groupsOf_X5_workerOfGroup : GoodIn wsX5_groupsOf (va_wsS RX5 97 yX5_workerOfGroup wsX5_workerOfGroup) := goodIn_app (goodIn_of _ (by decide +kernel)) ggX5_groupsOf_X5_workerOfGroup
theorem dX5_groupsOf_0 : decode cX5_groupsOf 0 = .ok (.aload_n 0, 1) := by decide +kernel
theorem dX5_groupsOf_1 : decode cX5_groupsOf 1 = .ok (.aload_n 0, 1) := by decide +kernel
theorem dX5_groupsOf_2 : decode cX5_groupsOf 2 = .ok (.iload_n 1, 1) := by decide +kernel
theorem dX5_groupsOf_3 : decode cX5_groupsOf 3 = .ok (.invokevirtual 145, 3) := by decide +kernel
theorem dX5_groupsOf_6 : decode cX5_groupsOf 6 = .ok (.ifCond .eq 7, 3) := by decide +kernel
theorem dX5_groupsOf_9 : decode cX5_groupsOf 9 = .ok (.iconst 0, 1) := by decide +kernel
theorem dX5_groupsOf_10 : decode cX5_groupsOf 10 = .ok (.goto 4, 3) := by decide +kernel
theorem dX5_groupsOf_13 : decode cX5_groupsOf 13 = .ok (.iconst 1, 1) := by decide +kernel
theorem dX5_groupsOf_14 : decode cX5_groupsOf 14 = .ok (.invokevirtual 108, 3) := by decide +kernel
theorem dX5_groupsOf_17 : decode cX5_groupsOf 17 = .ok (.ifCond .ne 5, 3) := by decide +kernel
theorem dX5_groupsOf_20 : decode cX5_groupsOf 20 = .ok (.iconst 0, 1) := by decide +kernel
theorem dX5_groupsOf_21 : decode cX5_groupsOf 21 = .ok (.ireturn, 1) := by decide +kernel
theorem dX5_groupsOf_22 : decode cX5_groupsOf 22 = .ok (.iconst 0, 1) := by decide +kernel
theorem dX5_groupsOf_23 : decode cX5_groupsOf 23 = .ok (.istore_n 2, 1) := by decide +kernel
theorem dX5_groupsOf_24 : decode cX5_groupsOf 24 = .ok (.bipush 7, 2) := by decide +kernel
theorem dX5_groupsOf_26 : decode cX5_groupsOf 26 = .ok (.istore_n 3, 1) := by decide +kernel
theorem dX5_groupsOf_27 : decode cX5_groupsOf 27 = .ok (.iload_n 3, 1) := by decide +kernel
theorem dX5_groupsOf_28 : decode cX5_groupsOf 28 = .ok (.ifCond .lt 37, 3) := by decide +kernel
theorem dX5_groupsOf_31 : decode cX5_groupsOf 31 = .ok (.iload_n 3, 1) := by decide +kernel
theorem dX5_groupsOf_32 : decode cX5_groupsOf 32 = .ok (.aload_n 0, 1) := by decide +kernel
theorem dX5_groupsOf_33 : decode cX5_groupsOf 33 = .ok (.getfield 7, 3) := by decide +kernel
theorem dX5_groupsOf_36 : decode cX5_groupsOf 36 = .ok (.invokestatic 97, 3) := by decide +kernel
theorem dX5_groupsOf_39 : decode cX5_groupsOf 39 = .ok (.iload_n 1, 1) := by decide +kernel
theorem dX5_groupsOf_40 : decode cX5_groupsOf 40 = .ok (.if_icmp .ne 17, 3) := by decide +kernel
theorem dX5_groupsOf_43 : decode cX5_groupsOf 43 = .ok (.bipush 10, 2) := by decide +kernel
theorem dX5_groupsOf_45 : decode cX5_groupsOf 45 = .ok (.iload_n 3, 1) := by decide +kernel
theorem dX5_groupsOf_46 : decode cX5_groupsOf 46 = .ok (.imul, 1) := by decide +kernel
theorem dX5_groupsOf_47 : decode cX5_groupsOf 47 = .ok (.iload_n 2, 1) := by decide +kernel
theorem dX5_groupsOf_48 : decode cX5_groupsOf 48 = .ok (.bipush 10, 2) := by decide +kernel
theorem dX5_groupsOf_50 : decode cX5_groupsOf 50 = .ok (.irem, 1) := by decide +kernel
theorem dX5_groupsOf_51 : decode cX5_groupsOf 51 = .ok (.iadd, 1) := by decide +kernel
theorem dX5_groupsOf_52 : decode cX5_groupsOf 52 = .ok (.iconst 1, 1) := by decide +kernel
theorem dX5_groupsOf_53 : decode cX5_groupsOf 53 = .ok (.iadd, 1) := by decide +kernel
theorem dX5_groupsOf_54 : decode cX5_groupsOf 54 = .ok (.goto 4, 3) := by decide +kernel
theorem dX5_groupsOf_57 : decode cX5_groupsOf 57 = .ok (.iload_n 2, 1) := by decide +kernel
theorem dX5_groupsOf_58 : decode cX5_groupsOf 58 = .ok (.istore_n 2, 1) := by decide +kernel
theorem dX5_groupsOf_59 : decode cX5_groupsOf 59 = .ok (.iinc 3 (-1), 3) := by decide +kernel
theorem dX5_groupsOf_62 : decode cX5_groupsOf 62 = .ok (.goto (-35), 3) := by decide +kernel
theorem dX5_groupsOf_65 : decode cX5_groupsOf 65 = .ok (.iload_n 2, 1) := by decide +kernel
theorem dX5_groupsOf_66 : decode cX5_groupsOf 66 = .ok (.ireturn, 1) := by decide +kernel
set_option maxRecDepth 20000 in
theorem ggX5_ofKey_X5_isKey : GoodIn wsX5_ofKey wsX5_isKey := goodIn_r _ [4, 5, 6, 3, 7] (by decide +kernel) (by decide +kernel)
set_option maxRecDepth 20000 in
theorem gX5_ofKey_X5_isKey : GoodIn wsX5_ofKey (va_wsS RX5 105 yX5_isKey wsX5_isKey) := goodIn_app (goodIn_of _ (by decide +kernel)) ggX5_ofKey_X5_isKey
set_option maxRecDepth 20000 in
theorem ggX5_ofKey_X5_holds : GoodIn wsX5_ofKey wsX5_holds := goodIn_r _ [11, 12, 13, 14, 15, 16, 17, 18, 19, 20, 21, 22, 23, 24, 25, 26, 27, 28, 29, 30, 31, 32, 33, 34, 35, 36, 37, 38, 39] (by decide +kernel) (by decide +kernel)
set_option maxRecDepth 20000 in
theorem gX5_ofKey_X5_holds : GoodIn wsX5_ofKey (wsV RX5 108 RX5 yX5_holds wsX5_holds) := goodIn_app (goodIn_of _ (by decide +kernel)) ggX5_ofKey_X5_holds
theorem dX5_ofKey_0 : decode cX5_ofKey 0 = .ok (.aload_n 0, 1) := by decide +kernel
theorem dX5_ofKey_1 : decode cX5_ofKey 1 = .ok (.iload_n 2, 1) := by decide +kernel
theorem dX5_ofKey_2 : decode cX5_ofKey 2 = .ok (.invokestatic 105, 3) := by decide +kernel
theorem dX5_ofKey_5 : decode cX5_ofKey 5 = .ok (.ifCond .eq 7, 3) := by decide +kernel
theorem dX5_ofKey_8 : decode cX5_ofKey 8 = .ok (.iconst 0, 1) := by decide +kernel
theorem dX5_ofKey_9 : decode cX5_ofKey 9 = .ok (.goto 4, 3) := by decide +kernel
theorem dX5_ofKey_12 : decode cX5_ofKey 12 = .ok (.iconst 1, 1) := by decide +kernel
theorem dX5_ofKey_13 : decode cX5_ofKey 13 = .ok (.invokevirtual 108, 3) := by decide +kernel
theorem dX5_ofKey_16 : decode cX5_ofKey 16 = .ok (.ifCond .eq 9, 3) := by decide +kernel
theorem dX5_ofKey_19 : decode cX5_ofKey 19 = .ok (.aload_n 1, 1) := by decide +kernel
theorem dX5_ofKey_20 : decode cX5_ofKey 20 = .ok (.iload_n 2, 1) := by decide +kernel
theorem dX5_ofKey_21 : decode cX5_ofKey 21 = .ok (.iaload, 1) := by decide +kernel
theorem dX5_ofKey_22 : decode cX5_ofKey 22 = .ok (.goto 4, 3) := by decide +kernel
theorem dX5_ofKey_25 : decode cX5_ofKey 25 = .ok (.iconst 0, 1) := by decide +kernel
theorem dX5_ofKey_26 : decode cX5_ofKey 26 = .ok (.ireturn, 1) := by decide +kernel
set_option maxRecDepth 20000 in
theorem ggX5_count_X5_ofKey : GoodIn wsX5_count wsX5_ofKey := goodIn_r _ [6, 7, 8, 5, 9, 10, 11, 12, 13, 14, 15, 16, 17, 18, 19, 20, 21, 22, 23, 24, 25, 26, 27, 28, 29, 30, 31, 32, 33, 34, 35, 36, 37, 38, 39, 40, 41, 42, 43, 44] (by decide +kernel) (by decide +kernel)
set_option maxRecDepth 20000 in
theorem gX5_count_X5_ofKey : GoodIn wsX5_count (wsV RX5 181 RX5 yX5_ofKey wsX5_ofKey) := goodIn_app (goodIn_of _ (by decide +kernel)) ggX5_count_X5_ofKey
theorem dX5_count_0 : decode cX5_count 0 = .ok (.aload_n 0, 1) := by decide +kernel
theorem dX5_count_1 : decode cX5_count 1 = .ok (.aload_n 0, 1) := by decide +kernel
theorem dX5_count_2 : decode cX5_count 2 = .ok (.getfield 33, 3) := by decide +kernel
theorem dX5_count_5 : decode cX5_count 5 = .ok (.iload_n 1, 1) := by decide +kernel
theorem dX5_count_6 : decode cX5_count 6 = .ok (.invokevirtual 181, 3) := by decide +kernel
theorem dX5_count_9 : decode cX5_count 9 = .ok (.ireturn, 1) := by decide +kernel
set_option maxRecDepth 20000 in
theorem ggX5_sum_X5_ofKey : GoodIn wsX5_sum wsX5_ofKey := goodIn_r _ [6, 7, 8, 5, 9, 10, 11, 12, 13, 14, 15, 16, 17, 18, 19, 20, 21, 22, 23, 24, 25, 26, 27, 28, 29, 30, 31, 32, 33, 34, 35, 36, 37, 38, 39, 40, 41, 42, 43, 44] (by decide +kernel) (by decide +kernel)
set_option maxRecDepth 20000 in
theorem gX5_sum_X5_ofKey : GoodIn wsX5_sum (wsV RX5 181 RX5 yX5_ofKey wsX5_ofKey) := goodIn_app (goodIn_of _ (by decide +kernel)) ggX5_sum_X5_ofKey
theorem dX5_sum_0 : decode cX5_sum 0 = .ok (.aload_n 0, 1) := by decide +kernel
theorem dX5_sum_1 : decode cX5_sum 1 = .ok (.aload_n 0, 1) := by decide +kernel
theorem dX5_sum_2 : decode cX5_sum 2 = .ok (.getfield 36, 3) := by decide +kernel
theorem dX5_sum_5 : decode cX5_sum 5 = .ok (.iload_n 1, 1) := by decide +kernel
theorem dX5_sum_6 : decode cX5_sum 6 = .ok (.invokevirtual 181, 3) := by decide +kernel
theorem dX5_sum_9 : decode cX5_sum 9 = .ok (.ireturn, 1) := by decide +kernel
set_option maxRecDepth 20000 in
theorem ggX5_open_X5_isWorker : GoodIn wsX5_open wsX5_isWorker := goodIn_r _ [6, 7, 8, 9, 5, 10, 23, 24, 25, 26, 27, 28, 29, 30, 31, 32, 33, 34, 35, 36, 37, 38, 39, 40, 41, 42, 43, 44, 45, 46, 47, 48, 49] (by decide +kernel) (by decide +kernel)
set_option maxRecDepth 20000 in
theorem gX5_open_X5_isWorker : GoodIn wsX5_open (wsV RX5 145 RX5 yX5_isWorker wsX5_isWorker) := goodIn_app (goodIn_of _ (by decide +kernel)) ggX5_open_X5_isWorker
set_option maxRecDepth 20000 in
theorem ggX5_open_X5_holds : GoodIn wsX5_open wsX5_holds := goodIn_r _ [14, 15, 23, 24, 25, 26, 27, 28, 29, 30, 31, 32, 33, 34, 35, 36, 37, 38, 39, 40, 41, 42, 43, 44, 45, 46, 47, 48, 49] (by decide +kernel) (by decide +kernel)
set_option maxRecDepth 20000 in
theorem gX5_open_X5_holds : GoodIn wsX5_open (wsV RX5 108 RX5 yX5_holds wsX5_holds) := goodIn_app (goodIn_of _ (by decide +kernel)) ggX5_open_X5_holds
set_option maxRecDepth 20000 in
theorem ggX5_open_X5_workerOfKey : GoodIn wsX5_open wsX5_workerOfKey := goodIn_r _ [19, 7, 20, 21, 5, 22, 23, 24, 25, 26, 27, 28, 29, 30, 31, 32, 33, 34, 35, 36, 37, 38, 39, 40, 41, 42, 43, 44, 45, 46, 47, 48, 49] (by decide +kernel) (by decide +kernel)
set_option maxRecDepth 20000 in
theorem gX5_open_X5_workerOfKey : GoodIn wsX5_open (wsV RX5 115 RX5 yX5_workerOfKey wsX5_workerOfKey) := goodIn_app (goodIn_of _ (by decide +kernel)) ggX5_open_X5_workerOfKey
theorem dX5_open_0 : decode cX5_open 0 = .ok (.aload_n 0, 1) := by decide +kernel
theorem dX5_open_1 : decode cX5_open 1 = .ok (.aload_n 0, 1) := by decide +kernel
theorem dX5_open_2 : decode cX5_open 2 = .ok (.iload_n 1, 1) := by decide +kernel
theorem dX5_open_3 : decode cX5_open 3 = .ok (.invokevirtual 145, 3) := by decide +kernel
theorem dX5_open_6 : decode cX5_open 6 = .ok (.ifCond .eq 7, 3) := by decide +kernel
theorem dX5_open_9 : decode cX5_open 9 = .ok (.iconst 0, 1) := by decide +kernel
theorem dX5_open_10 : decode cX5_open 10 = .ok (.goto 4, 3) := by decide +kernel
theorem dX5_open_13 : decode cX5_open 13 = .ok (.iconst 1, 1) := by decide +kernel
theorem dX5_open_14 : decode cX5_open 14 = .ok (.invokevirtual 108, 3) := by decide +kernel
theorem dX5_open_17 : decode cX5_open 17 = .ok (.ifCond .ne 5, 3) := by decide +kernel
theorem dX5_open_20 : decode cX5_open 20 = .ok (.iconst 0, 1) := by decide +kernel
theorem dX5_open_21 : decode cX5_open 21 = .ok (.ireturn, 1) := by decide +kernel
theorem dX5_open_22 : decode cX5_open 22 = .ok (.iconst 0, 1) := by decide +kernel
theorem dX5_open_23 : decode cX5_open 23 = .ok (.istore_n 2, 1) := by decide +kernel
theorem dX5_open_24 : decode cX5_open 24 = .ok (.iconst 0, 1) := by decide +kernel
theorem dX5_open_25 : decode cX5_open 25 = .ok (.istore_n 3, 1) := by decide +kernel
theorem dX5_open_26 : decode cX5_open 26 = .ok (.iload_n 3, 1) := by decide +kernel
theorem dX5_open_27 : decode cX5_open 27 = .ok (.bipush 32, 2) := by decide +kernel
theorem dX5_open_29 : decode cX5_open 29 = .ok (.if_icmp .ge 31, 3) := by decide +kernel
theorem dX5_open_32 : decode cX5_open 32 = .ok (.iload_n 2, 1) := by decide +kernel
theorem dX5_open_33 : decode cX5_open 33 = .ok (.aload_n 0, 1) := by decide +kernel
theorem dX5_open_34 : decode cX5_open 34 = .ok (.iload_n 3, 1) := by decide +kernel
theorem dX5_open_35 : decode cX5_open 35 = .ok (.invokevirtual 115, 3) := by decide +kernel
theorem dX5_open_38 : decode cX5_open 38 = .ok (.iload_n 1, 1) := by decide +kernel
theorem dX5_open_39 : decode cX5_open 39 = .ok (.if_icmp .ne 12, 3) := by decide +kernel
theorem dX5_open_42 : decode cX5_open 42 = .ok (.aload_n 0, 1) := by decide +kernel
theorem dX5_open_43 : decode cX5_open 43 = .ok (.getfield 39, 3) := by decide +kernel
theorem dX5_open_46 : decode cX5_open 46 = .ok (.iload_n 3, 1) := by decide +kernel
theorem dX5_open_47 : decode cX5_open 47 = .ok (.iaload, 1) := by decide +kernel
theorem dX5_open_48 : decode cX5_open 48 = .ok (.goto 4, 3) := by decide +kernel
theorem dX5_open_51 : decode cX5_open 51 = .ok (.iconst 0, 1) := by decide +kernel
theorem dX5_open_52 : decode cX5_open 52 = .ok (.iadd, 1) := by decide +kernel
theorem dX5_open_53 : decode cX5_open 53 = .ok (.istore_n 2, 1) := by decide +kernel
theorem dX5_open_54 : decode cX5_open 54 = .ok (.iinc 3 1, 3) := by decide +kernel
theorem dX5_open_57 : decode cX5_open 57 = .ok (.goto (-31), 3) := by decide +kernel
theorem dX5_open_60 : decode cX5_open 60 = .ok (.iload_n 2, 1) := by decide +kernel
theorem dX5_open_61 : decode cX5_open 61 = .ok (.ireturn, 1) := by decide +kernel
set_option maxRecDepth 20000 in
theorem ggX5_sealed_X5_isWorker : GoodIn wsX5_sealed wsX5_isWorker := goodIn_r _ [6, 7, 8, 9, 5, 10, 16, 17, 18, 19, 20, 21, 22, 23, 24, 25, 26, 27, 28, 29, 30, 31, 32, 33, 34, 35, 36, 37, 38, 39, 40, 41, 42] (by decide +kernel) (by decide +kernel)
set_option maxRecDepth 20000 in
theorem gX5_sealed_X5_isWorker : GoodIn wsX5_sealed (wsV RX5 145 RX5 yX5_isWorker wsX5_isWorker) := goodIn_app (goodIn_of _ (by decide +kernel)) ggX5_sealed_X5_isWorker
set_option maxRecDepth 20000 in
theorem ggX5_sealed_X5_holds : GoodIn wsX5_sealed wsX5_holds := goodIn_r _ [14, 15, 16, 17, 18, 19, 20, 21, 22, 23, 24, 25, 26, 27, 28, 29, 30, 31, 32, 33, 34, 35, 36, 37, 38, 39, 40, 41, 42] (by decide +kernel) (by decide +kernel)
set_option maxRecDepth 20000 in
theorem gX5_sealed_X5_holds : GoodIn wsX5_sealed (wsV RX5 108 RX5 yX5_holds wsX5_holds) := goodIn_app (goodIn_of _ (by decide +kernel)) ggX5_sealed_X5_holds
theorem dX5_sealed_0 : decode cX5_sealed 0 = .ok (.aload_n 0, 1) := by decide +kernel
theorem dX5_sealed_1 : decode cX5_sealed 1 = .ok (.aload_n 0, 1) := by decide +kernel
theorem dX5_sealed_2 : decode cX5_sealed 2 = .ok (.iload_n 1, 1) := by decide +kernel
theorem dX5_sealed_3 : decode cX5_sealed 3 = .ok (.invokevirtual 145, 3) := by decide +kernel
theorem dX5_sealed_6 : decode cX5_sealed 6 = .ok (.ifCond .eq 7, 3) := by decide +kernel
theorem dX5_sealed_9 : decode cX5_sealed 9 = .ok (.iconst 0, 1) := by decide +kernel
theorem dX5_sealed_10 : decode cX5_sealed 10 = .ok (.goto 4, 3) := by decide +kernel
theorem dX5_sealed_13 : decode cX5_sealed 13 = .ok (.iconst 1, 1) := by decide +kernel
theorem dX5_sealed_14 : decode cX5_sealed 14 = .ok (.invokevirtual 108, 3) := by decide +kernel
theorem dX5_sealed_17 : decode cX5_sealed 17 = .ok (.ifCond .eq 12, 3) := by decide +kernel
theorem dX5_sealed_20 : decode cX5_sealed 20 = .ok (.aload_n 0, 1) := by decide +kernel
theorem dX5_sealed_21 : decode cX5_sealed 21 = .ok (.getfield 51, 3) := by decide +kernel
theorem dX5_sealed_24 : decode cX5_sealed 24 = .ok (.iload_n 1, 1) := by decide +kernel
theorem dX5_sealed_25 : decode cX5_sealed 25 = .ok (.iaload, 1) := by decide +kernel
theorem dX5_sealed_26 : decode cX5_sealed 26 = .ok (.goto 4, 3) := by decide +kernel
theorem dX5_sealed_29 : decode cX5_sealed 29 = .ok (.iconst 0, 1) := by decide +kernel
theorem dX5_sealed_30 : decode cX5_sealed 30 = .ok (.ireturn, 1) := by decide +kernel
theorem dX5_underWay_0 : decode cX5_underWay 0 = .ok (.aload_n 0, 1) := by decide +kernel
theorem dX5_underWay_1 : decode cX5_underWay 1 = .ok (.iconst 0, 1) := by decide +kernel
theorem dX5_underWay_2 : decode cX5_underWay 2 = .ok (.putfield 90, 3) := by decide +kernel
theorem dX5_underWay_5 : decode cX5_underWay 5 = .ok (.aload_n 0, 1) := by decide +kernel
theorem dX5_underWay_6 : decode cX5_underWay 6 = .ok (.getfield 60, 3) := by decide +kernel
theorem dX5_underWay_9 : decode cX5_underWay 9 = .ok (.ireturn, 1) := by decide +kernel
theorem dX5_complete_0 : decode cX5_complete 0 = .ok (.aload_n 0, 1) := by decide +kernel
theorem dX5_complete_1 : decode cX5_complete 1 = .ok (.iconst 0, 1) := by decide +kernel
theorem dX5_complete_2 : decode cX5_complete 2 = .ok (.putfield 90, 3) := by decide +kernel
theorem dX5_complete_5 : decode cX5_complete 5 = .ok (.aload_n 0, 1) := by decide +kernel
theorem dX5_complete_6 : decode cX5_complete 6 = .ok (.getfield 63, 3) := by decide +kernel
theorem dX5_complete_9 : decode cX5_complete 9 = .ok (.ireturn, 1) := by decide +kernel
set_option maxRecDepth 20000 in
theorem ggX5_hasSent_X5_isPartition : GoodIn wsX5_hasSent wsX5_isPartition := goodIn_r _ [6, 7, 8, 5, 9] (by decide +kernel) (by decide +kernel)
set_option maxRecDepth 20000 in
theorem gX5_hasSent_X5_isPartition : GoodIn wsX5_hasSent (va_wsS RX5 101 yX5_isPartition wsX5_isPartition) := goodIn_app (goodIn_of _ (by decide +kernel)) ggX5_hasSent_X5_isPartition
set_option maxRecDepth 20000 in
theorem ggX5_hasSent_X5_holds : GoodIn wsX5_hasSent wsX5_holds := goodIn_r _ [13, 14, 15, 16, 17, 18, 19, 20, 21, 22, 23, 24, 25, 26, 27, 28, 29, 30, 31, 32, 33, 34, 35, 36, 37, 38, 39, 40, 41] (by decide +kernel) (by decide +kernel)
set_option maxRecDepth 20000 in
theorem gX5_hasSent_X5_holds : GoodIn wsX5_hasSent (wsV RX5 108 RX5 yX5_holds wsX5_holds) := goodIn_app (goodIn_of _ (by decide +kernel)) ggX5_hasSent_X5_holds
theorem dX5_hasSent_0 : decode cX5_hasSent 0 = .ok (.aload_n 0, 1) := by decide +kernel
theorem dX5_hasSent_1 : decode cX5_hasSent 1 = .ok (.iload_n 1, 1) := by decide +kernel
theorem dX5_hasSent_2 : decode cX5_hasSent 2 = .ok (.invokestatic 101, 3) := by decide +kernel
theorem dX5_hasSent_5 : decode cX5_hasSent 5 = .ok (.ifCond .eq 7, 3) := by decide +kernel
theorem dX5_hasSent_8 : decode cX5_hasSent 8 = .ok (.iconst 0, 1) := by decide +kernel
theorem dX5_hasSent_9 : decode cX5_hasSent 9 = .ok (.goto 4, 3) := by decide +kernel
theorem dX5_hasSent_12 : decode cX5_hasSent 12 = .ok (.iconst 1, 1) := by decide +kernel
theorem dX5_hasSent_13 : decode cX5_hasSent 13 = .ok (.invokevirtual 108, 3) := by decide +kernel
theorem dX5_hasSent_16 : decode cX5_hasSent 16 = .ok (.ifCond .eq 24, 3) := by decide +kernel
theorem dX5_hasSent_19 : decode cX5_hasSent 19 = .ok (.aload_n 0, 1) := by decide +kernel
theorem dX5_hasSent_20 : decode cX5_hasSent 20 = .ok (.getfield 60, 3) := by decide +kernel
theorem dX5_hasSent_23 : decode cX5_hasSent 23 = .ok (.iconst (-1), 1) := by decide +kernel
theorem dX5_hasSent_24 : decode cX5_hasSent 24 = .ok (.if_icmp .eq 16, 3) := by decide +kernel
theorem dX5_hasSent_27 : decode cX5_hasSent 27 = .ok (.aload_n 0, 1) := by decide +kernel
theorem dX5_hasSent_28 : decode cX5_hasSent 28 = .ok (.getfield 66, 3) := by decide +kernel
theorem dX5_hasSent_31 : decode cX5_hasSent 31 = .ok (.iload_n 1, 1) := by decide +kernel
theorem dX5_hasSent_32 : decode cX5_hasSent 32 = .ok (.baload, 1) := by decide +kernel
theorem dX5_hasSent_33 : decode cX5_hasSent 33 = .ok (.ifCond .eq 7, 3) := by decide +kernel
theorem dX5_hasSent_36 : decode cX5_hasSent 36 = .ok (.iconst 1, 1) := by decide +kernel
theorem dX5_hasSent_37 : decode cX5_hasSent 37 = .ok (.goto 4, 3) := by decide +kernel
theorem dX5_hasSent_40 : decode cX5_hasSent 40 = .ok (.iconst 0, 1) := by decide +kernel
theorem dX5_hasSent_41 : decode cX5_hasSent 41 = .ok (.ireturn, 1) := by decide +kernel
set_option maxRecDepth 20000 in
theorem ggX5_keptOffset_X5_isPartition : GoodIn wsX5_keptOffset wsX5_isPartition := goodIn_r _ [5, 6, 7, 4, 8] (by decide +kernel) (by decide +kernel)
set_option maxRecDepth 20000 in
theorem gX5_keptOffset_X5_isPartition : GoodIn wsX5_keptOffset (va_wsS RX5 101 yX5_isPartition wsX5_isPartition) := goodIn_app (goodIn_of _ (by decide +kernel)) ggX5_keptOffset_X5_isPartition
set_option maxRecDepth 20000 in
theorem ggX5_keptOffset_X5_holds : GoodIn wsX5_keptOffset wsX5_holds := goodIn_r _ [12, 13, 14, 15, 16, 17, 18, 19, 20, 21, 22, 23, 24, 25, 26, 27, 28, 29, 30, 31, 32, 33, 34, 35, 36, 37, 38, 39, 40] (by decide +kernel) (by decide +kernel)
set_option maxRecDepth 20000 in
theorem gX5_keptOffset_X5_holds : GoodIn wsX5_keptOffset (wsV RX5 108 RX5 yX5_holds wsX5_holds) := goodIn_app (goodIn_of _ (by decide +kernel)) ggX5_keptOffset_X5_holds
theorem dX5_keptOffset_0 : decode cX5_keptOffset 0 = .ok (.aload_n 0, 1) := by decide +kernel
theorem dX5_keptOffset_1 : decode cX5_keptOffset 1 = .ok (.iload_n 1, 1) := by decide +kernel
theorem dX5_keptOffset_2 : decode cX5_keptOffset 2 = .ok (.invokestatic 101, 3) := by decide +kernel
theorem dX5_keptOffset_5 : decode cX5_keptOffset 5 = .ok (.ifCond .eq 7, 3) := by decide +kernel
theorem dX5_keptOffset_8 : decode cX5_keptOffset 8 = .ok (.iconst 0, 1) := by decide +kernel
theorem dX5_keptOffset_9 : decode cX5_keptOffset 9 = .ok (.goto 4, 3) := by decide +kernel
theorem dX5_keptOffset_12 : decode cX5_keptOffset 12 = .ok (.iconst 1, 1) := by decide +kernel
theorem dX5_keptOffset_13 : decode cX5_keptOffset 13 = .ok (.invokevirtual 108, 3) := by decide +kernel
theorem dX5_keptOffset_16 : decode cX5_keptOffset 16 = .ok (.ifCond .eq 12, 3) := by decide +kernel
theorem dX5_keptOffset_19 : decode cX5_keptOffset 19 = .ok (.aload_n 0, 1) := by decide +kernel
theorem dX5_keptOffset_20 : decode cX5_keptOffset 20 = .ok (.getfield 78, 3) := by decide +kernel
theorem dX5_keptOffset_23 : decode cX5_keptOffset 23 = .ok (.iload_n 1, 1) := by decide +kernel
theorem dX5_keptOffset_24 : decode cX5_keptOffset 24 = .ok (.iaload, 1) := by decide +kernel
theorem dX5_keptOffset_25 : decode cX5_keptOffset 25 = .ok (.goto 4, 3) := by decide +kernel
theorem dX5_keptOffset_28 : decode cX5_keptOffset 28 = .ok (.iconst 0, 1) := by decide +kernel
theorem dX5_keptOffset_29 : decode cX5_keptOffset 29 = .ok (.ireturn, 1) := by decide +kernel
set_option maxRecDepth 20000 in
theorem ggX5_keptSum_X5_ofKey : GoodIn wsX5_keptSum wsX5_ofKey := goodIn_r _ [6, 7, 8, 5, 9, 10, 11, 12, 13, 14, 15, 16, 17, 18, 19, 20, 21, 22, 23, 24, 25, 26, 27, 28, 29, 30, 31, 32, 33, 34, 35, 36, 37, 38, 39, 40, 41, 42, 43, 44] (by decide +kernel) (by decide +kernel)
set_option maxRecDepth 20000 in
theorem gX5_keptSum_X5_ofKey : GoodIn wsX5_keptSum (wsV RX5 181 RX5 yX5_ofKey wsX5_ofKey) := goodIn_app (goodIn_of _ (by decide +kernel)) ggX5_keptSum_X5_ofKey
theorem dX5_keptSum_0 : decode cX5_keptSum 0 = .ok (.aload_n 0, 1) := by decide +kernel
theorem dX5_keptSum_1 : decode cX5_keptSum 1 = .ok (.aload_n 0, 1) := by decide +kernel
theorem dX5_keptSum_2 : decode cX5_keptSum 2 = .ok (.getfield 84, 3) := by decide +kernel
theorem dX5_keptSum_5 : decode cX5_keptSum 5 = .ok (.iload_n 1, 1) := by decide +kernel
theorem dX5_keptSum_6 : decode cX5_keptSum 6 = .ok (.invokevirtual 181, 3) := by decide +kernel
theorem dX5_keptSum_9 : decode cX5_keptSum 9 = .ok (.ireturn, 1) := by decide +kernel
set_option maxRecDepth 20000 in
theorem ggX5_committedCount_X5_ofKey : GoodIn wsX5_committedCount wsX5_ofKey := goodIn_r _ [6, 7, 8, 5, 9, 10, 11, 12, 13, 14, 15, 16, 17, 18, 19, 20, 21, 22, 23, 24, 25, 26, 27, 28, 29, 30, 31, 32, 33, 34, 35, 36, 37, 38, 39, 40, 41, 42, 43, 44] (by decide +kernel) (by decide +kernel)
set_option maxRecDepth 20000 in
theorem gX5_committedCount_X5_ofKey : GoodIn wsX5_committedCount (wsV RX5 181 RX5 yX5_ofKey wsX5_ofKey) := goodIn_app (goodIn_of _ (by decide +kernel)) ggX5_committedCount_X5_ofKey
theorem dX5_committedCount_0 : decode cX5_committedCount 0 = .ok (.aload_n 0, 1) := by decide +kernel
theorem dX5_committedCount_1 : decode cX5_committedCount 1 = .ok (.aload_n 0, 1) := by decide +kernel
theorem dX5_committedCount_2 : decode cX5_committedCount 2 = .ok (.getfield 54, 3) := by decide +kernel
theorem dX5_committedCount_5 : decode cX5_committedCount 5 = .ok (.iload_n 1, 1) := by decide +kernel
theorem dX5_committedCount_6 : decode cX5_committedCount 6 = .ok (.invokevirtual 181, 3) := by decide +kernel
theorem dX5_committedCount_9 : decode cX5_committedCount 9 = .ok (.ireturn, 1) := by decide +kernel
set_option maxRecDepth 20000 in
theorem ggX5_committedSum_X5_ofKey : GoodIn wsX5_committedSum wsX5_ofKey := goodIn_r _ [6, 7, 8, 5, 9, 10, 11, 12, 13, 14, 15, 16, 17, 18, 19, 20, 21, 22, 23, 24, 25, 26, 27, 28, 29, 30, 31, 32, 33, 34, 35, 36, 37, 38, 39, 40, 41, 42, 43, 44] (by decide +kernel) (by decide +kernel)
set_option maxRecDepth 20000 in
theorem gX5_committedSum_X5_ofKey : GoodIn wsX5_committedSum (wsV RX5 181 RX5 yX5_ofKey wsX5_ofKey) := goodIn_app (goodIn_of _ (by decide +kernel)) ggX5_committedSum_X5_ofKey
theorem dX5_committedSum_0 : decode cX5_committedSum 0 = .ok (.aload_n 0, 1) := by decide +kernel
theorem dX5_committedSum_1 : decode cX5_committedSum 1 = .ok (.aload_n 0, 1) := by decide +kernel
theorem dX5_committedSum_2 : decode cX5_committedSum 2 = .ok (.getfield 57, 3) := by decide +kernel
theorem dX5_committedSum_5 : decode cX5_committedSum 5 = .ok (.iload_n 1, 1) := by decide +kernel
theorem dX5_committedSum_6 : decode cX5_committedSum 6 = .ok (.invokevirtual 181, 3) := by decide +kernel
theorem dX5_committedSum_9 : decode cX5_committedSum 9 = .ok (.ireturn, 1) := by decide +kernel
theorem dX5_committed_0 : decode cX5_committed 0 = .ok (.aload_n 0, 1) := by decide +kernel
theorem dX5_committed_1 : decode cX5_committed 1 = .ok (.iconst 0, 1) := by decide +kernel
theorem dX5_committed_2 : decode cX5_committed 2 = .ok (.putfield 90, 3) := by decide +kernel
theorem dX5_committed_5 : decode cX5_committed 5 = .ok (.iconst 0, 1) := by decide +kernel
theorem dX5_committed_6 : decode cX5_committed 6 = .ok (.istore_n 1, 1) := by decide +kernel
theorem dX5_committed_7 : decode cX5_committed 7 = .ok (.iconst 0, 1) := by decide +kernel
theorem dX5_committed_8 : decode cX5_committed 8 = .ok (.istore_n 2, 1) := by decide +kernel
theorem dX5_committed_9 : decode cX5_committed 9 = .ok (.iload_n 2, 1) := by decide +kernel
theorem dX5_committed_10 : decode cX5_committed 10 = .ok (.bipush 32, 2) := by decide +kernel
theorem dX5_committed_12 : decode cX5_committed 12 = .ok (.if_icmp .ge 18, 3) := by decide +kernel
theorem dX5_committed_15 : decode cX5_committed 15 = .ok (.iload_n 1, 1) := by decide +kernel
theorem dX5_committed_16 : decode cX5_committed 16 = .ok (.aload_n 0, 1) := by decide +kernel
theorem dX5_committed_17 : decode cX5_committed 17 = .ok (.getfield 54, 3) := by decide +kernel
theorem dX5_committed_20 : decode cX5_committed 20 = .ok (.iload_n 2, 1) := by decide +kernel
theorem dX5_committed_21 : decode cX5_committed 21 = .ok (.iaload, 1) := by decide +kernel
theorem dX5_committed_22 : decode cX5_committed 22 = .ok (.iadd, 1) := by decide +kernel
theorem dX5_committed_23 : decode cX5_committed 23 = .ok (.istore_n 1, 1) := by decide +kernel
theorem dX5_committed_24 : decode cX5_committed 24 = .ok (.iinc 2 1, 3) := by decide +kernel
theorem dX5_committed_27 : decode cX5_committed 27 = .ok (.goto (-18), 3) := by decide +kernel
theorem dX5_committed_30 : decode cX5_committed 30 = .ok (.iload_n 1, 1) := by decide +kernel
theorem dX5_committed_31 : decode cX5_committed 31 = .ok (.ireturn, 1) := by decide +kernel
set_option maxRecDepth 20000 in
theorem ggX5_readSum_X5_isKey : GoodIn wsX5_readSum wsX5_isKey := goodIn_r _ [6, 7, 8, 5, 9] (by decide +kernel) (by decide +kernel)
set_option maxRecDepth 20000 in
theorem gX5_readSum_X5_isKey : GoodIn wsX5_readSum (va_wsS RX5 105 yX5_isKey wsX5_isKey) := goodIn_app (goodIn_of _ (by decide +kernel)) ggX5_readSum_X5_isKey
set_option maxRecDepth 20000 in
theorem ggX5_readSum_X5_holds : GoodIn wsX5_readSum wsX5_holds := goodIn_r _ [13, 14, 15, 16, 17, 18, 19, 20, 21, 22, 23, 24, 25, 26, 27, 28, 29, 30, 31, 32, 33, 34, 35, 36, 37, 38, 39, 40, 41] (by decide +kernel) (by decide +kernel)
set_option maxRecDepth 20000 in
theorem gX5_readSum_X5_holds : GoodIn wsX5_readSum (wsV RX5 108 RX5 yX5_holds wsX5_holds) := goodIn_app (goodIn_of _ (by decide +kernel)) ggX5_readSum_X5_holds
theorem dX5_readSum_0 : decode cX5_readSum 0 = .ok (.aload_n 0, 1) := by decide +kernel
theorem dX5_readSum_1 : decode cX5_readSum 1 = .ok (.iload_n 1, 1) := by decide +kernel
theorem dX5_readSum_2 : decode cX5_readSum 2 = .ok (.invokestatic 105, 3) := by decide +kernel
theorem dX5_readSum_5 : decode cX5_readSum 5 = .ok (.ifCond .eq 7, 3) := by decide +kernel
theorem dX5_readSum_8 : decode cX5_readSum 8 = .ok (.iconst 0, 1) := by decide +kernel
theorem dX5_readSum_9 : decode cX5_readSum 9 = .ok (.goto 4, 3) := by decide +kernel
theorem dX5_readSum_12 : decode cX5_readSum 12 = .ok (.iconst 1, 1) := by decide +kernel
theorem dX5_readSum_13 : decode cX5_readSum 13 = .ok (.invokevirtual 108, 3) := by decide +kernel
theorem dX5_readSum_16 : decode cX5_readSum 16 = .ok (.ifCond .ne 5, 3) := by decide +kernel
theorem dX5_readSum_19 : decode cX5_readSum 19 = .ok (.iconst 0, 1) := by decide +kernel
theorem dX5_readSum_20 : decode cX5_readSum 20 = .ok (.ireturn, 1) := by decide +kernel
theorem dX5_readSum_21 : decode cX5_readSum 21 = .ok (.iconst 0, 1) := by decide +kernel
theorem dX5_readSum_22 : decode cX5_readSum 22 = .ok (.istore_n 2, 1) := by decide +kernel
theorem dX5_readSum_23 : decode cX5_readSum 23 = .ok (.iconst 0, 1) := by decide +kernel
theorem dX5_readSum_24 : decode cX5_readSum 24 = .ok (.istore_n 3, 1) := by decide +kernel
theorem dX5_readSum_25 : decode cX5_readSum 25 = .ok (.iload_n 3, 1) := by decide +kernel
theorem dX5_readSum_26 : decode cX5_readSum 26 = .ok (.iconst 4, 1) := by decide +kernel
theorem dX5_readSum_27 : decode cX5_readSum 27 = .ok (.if_icmp .ge 66, 3) := by decide +kernel
theorem dX5_readSum_30 : decode cX5_readSum 30 = .ok (.iconst 0, 1) := by decide +kernel
theorem dX5_readSum_31 : decode cX5_readSum 31 = .ok (.istore 4, 2) := by decide +kernel
theorem dX5_readSum_33 : decode cX5_readSum 33 = .ok (.iload 4, 2) := by decide +kernel
theorem dX5_readSum_35 : decode cX5_readSum 35 = .ok (.aload_n 0, 1) := by decide +kernel
theorem dX5_readSum_36 : decode cX5_readSum 36 = .ok (.getfield 17, 3) := by decide +kernel
theorem dX5_readSum_39 : decode cX5_readSum 39 = .ok (.iload_n 3, 1) := by decide +kernel
theorem dX5_readSum_40 : decode cX5_readSum 40 = .ok (.iaload, 1) := by decide +kernel
theorem dX5_readSum_41 : decode cX5_readSum 41 = .ok (.if_icmp .ge 46, 3) := by decide +kernel
theorem dX5_readSum_44 : decode cX5_readSum 44 = .ok (.aload_n 0, 1) := by decide +kernel
theorem dX5_readSum_45 : decode cX5_readSum 45 = .ok (.getfield 20, 3) := by decide +kernel
theorem dX5_readSum_48 : decode cX5_readSum 48 = .ok (.bipush 60, 2) := by decide +kernel
theorem dX5_readSum_50 : decode cX5_readSum 50 = .ok (.iload_n 3, 1) := by decide +kernel
theorem dX5_readSum_51 : decode cX5_readSum 51 = .ok (.imul, 1) := by decide +kernel
theorem dX5_readSum_52 : decode cX5_readSum 52 = .ok (.iload 4, 2) := by decide +kernel
theorem dX5_readSum_54 : decode cX5_readSum 54 = .ok (.iadd, 1) := by decide +kernel
theorem dX5_readSum_55 : decode cX5_readSum 55 = .ok (.iaload, 1) := by decide +kernel
theorem dX5_readSum_56 : decode cX5_readSum 56 = .ok (.istore 5, 2) := by decide +kernel
theorem dX5_readSum_58 : decode cX5_readSum 58 = .ok (.iload_n 2, 1) := by decide +kernel
theorem dX5_readSum_59 : decode cX5_readSum 59 = .ok (.iload 5, 2) := by decide +kernel
theorem dX5_readSum_61 : decode cX5_readSum 61 = .ok (.sipush 1000, 3) := by decide +kernel
theorem dX5_readSum_64 : decode cX5_readSum 64 = .ok (.idiv, 1) := by decide +kernel
theorem dX5_readSum_65 : decode cX5_readSum 65 = .ok (.iload_n 1, 1) := by decide +kernel
theorem dX5_readSum_66 : decode cX5_readSum 66 = .ok (.if_icmp .ne 12, 3) := by decide +kernel
theorem dX5_readSum_69 : decode cX5_readSum 69 = .ok (.iload 5, 2) := by decide +kernel
theorem dX5_readSum_71 : decode cX5_readSum 71 = .ok (.sipush 1000, 3) := by decide +kernel
theorem dX5_readSum_74 : decode cX5_readSum 74 = .ok (.irem, 1) := by decide +kernel
theorem dX5_readSum_75 : decode cX5_readSum 75 = .ok (.goto 4, 3) := by decide +kernel
theorem dX5_readSum_78 : decode cX5_readSum 78 = .ok (.iconst 0, 1) := by decide +kernel
theorem dX5_readSum_79 : decode cX5_readSum 79 = .ok (.iadd, 1) := by decide +kernel
theorem dX5_readSum_80 : decode cX5_readSum 80 = .ok (.istore_n 2, 1) := by decide +kernel
theorem dX5_readSum_81 : decode cX5_readSum 81 = .ok (.iinc 4 1, 3) := by decide +kernel
theorem dX5_readSum_84 : decode cX5_readSum 84 = .ok (.goto (-51), 3) := by decide +kernel
theorem dX5_readSum_87 : decode cX5_readSum 87 = .ok (.iinc 3 1, 3) := by decide +kernel
theorem dX5_readSum_90 : decode cX5_readSum 90 = .ok (.goto (-65), 3) := by decide +kernel
theorem dX5_readSum_93 : decode cX5_readSum 93 = .ok (.iload_n 2, 1) := by decide +kernel
theorem dX5_readSum_94 : decode cX5_readSum 94 = .ok (.ireturn, 1) := by decide +kernel
set_option maxRecDepth 20000 in
theorem ggX5_sumInChannels_X5_isKey : GoodIn wsX5_sumInChannels wsX5_isKey := goodIn_r _ [6, 7, 8, 5, 9] (by decide +kernel) (by decide +kernel)
set_option maxRecDepth 20000 in
theorem gX5_sumInChannels_X5_isKey : GoodIn wsX5_sumInChannels (va_wsS RX5 105 yX5_isKey wsX5_isKey) := goodIn_app (goodIn_of _ (by decide +kernel)) ggX5_sumInChannels_X5_isKey
set_option maxRecDepth 20000 in
theorem ggX5_sumInChannels_X5_holds : GoodIn wsX5_sumInChannels wsX5_holds := goodIn_r _ [13, 14, 15, 16, 17, 18, 19, 20, 21, 22, 23, 24, 25, 26, 27, 28, 29, 30, 31, 32, 33, 34, 35, 36, 37, 38, 39, 40, 41] (by decide +kernel) (by decide +kernel)
set_option maxRecDepth 20000 in
theorem gX5_sumInChannels_X5_holds : GoodIn wsX5_sumInChannels (wsV RX5 108 RX5 yX5_holds wsX5_holds) := goodIn_app (goodIn_of _ (by decide +kernel)) ggX5_sumInChannels_X5_holds
theorem dX5_sumInChannels_0 : decode cX5_sumInChannels 0 = .ok (.aload_n 0, 1) := by decide +kernel
theorem dX5_sumInChannels_1 : decode cX5_sumInChannels 1 = .ok (.iload_n 1, 1) := by decide +kernel
theorem dX5_sumInChannels_2 : decode cX5_sumInChannels 2 = .ok (.invokestatic 105, 3) := by decide +kernel
theorem dX5_sumInChannels_5 : decode cX5_sumInChannels 5 = .ok (.ifCond .eq 7, 3) := by decide +kernel
theorem dX5_sumInChannels_8 : decode cX5_sumInChannels 8 = .ok (.iconst 0, 1) := by decide +kernel
theorem dX5_sumInChannels_9 : decode cX5_sumInChannels 9 = .ok (.goto 4, 3) := by decide +kernel
theorem dX5_sumInChannels_12 : decode cX5_sumInChannels 12 = .ok (.iconst 1, 1) := by decide +kernel
theorem dX5_sumInChannels_13 : decode cX5_sumInChannels 13 = .ok (.invokevirtual 108, 3) := by decide +kernel
theorem dX5_sumInChannels_16 : decode cX5_sumInChannels 16 = .ok (.ifCond .ne 5, 3) := by decide +kernel
theorem dX5_sumInChannels_19 : decode cX5_sumInChannels 19 = .ok (.iconst 0, 1) := by decide +kernel
theorem dX5_sumInChannels_20 : decode cX5_sumInChannels 20 = .ok (.ireturn, 1) := by decide +kernel
theorem dX5_sumInChannels_21 : decode cX5_sumInChannels 21 = .ok (.iconst 0, 1) := by decide +kernel
theorem dX5_sumInChannels_22 : decode cX5_sumInChannels 22 = .ok (.istore_n 2, 1) := by decide +kernel
theorem dX5_sumInChannels_23 : decode cX5_sumInChannels 23 = .ok (.iconst 0, 1) := by decide +kernel
theorem dX5_sumInChannels_24 : decode cX5_sumInChannels 24 = .ok (.istore_n 3, 1) := by decide +kernel
theorem dX5_sumInChannels_25 : decode cX5_sumInChannels 25 = .ok (.iload_n 3, 1) := by decide +kernel
theorem dX5_sumInChannels_26 : decode cX5_sumInChannels 26 = .ok (.bipush 16, 2) := by decide +kernel
theorem dX5_sumInChannels_28 : decode cX5_sumInChannels 28 = .ok (.if_icmp .ge 71, 3) := by decide +kernel
theorem dX5_sumInChannels_31 : decode cX5_sumInChannels 31 = .ok (.iconst 0, 1) := by decide +kernel
theorem dX5_sumInChannels_32 : decode cX5_sumInChannels 32 = .ok (.istore 4, 2) := by decide +kernel
theorem dX5_sumInChannels_34 : decode cX5_sumInChannels 34 = .ok (.iload 4, 2) := by decide +kernel
theorem dX5_sumInChannels_36 : decode cX5_sumInChannels 36 = .ok (.aload_n 0, 1) := by decide +kernel
theorem dX5_sumInChannels_37 : decode cX5_sumInChannels 37 = .ok (.getfield 26, 3) := by decide +kernel
theorem dX5_sumInChannels_40 : decode cX5_sumInChannels 40 = .ok (.iload_n 3, 1) := by decide +kernel
theorem dX5_sumInChannels_41 : decode cX5_sumInChannels 41 = .ok (.iaload, 1) := by decide +kernel
theorem dX5_sumInChannels_42 : decode cX5_sumInChannels 42 = .ok (.if_icmp .ge 51, 3) := by decide +kernel
theorem dX5_sumInChannels_45 : decode cX5_sumInChannels 45 = .ok (.aload_n 0, 1) := by decide +kernel
theorem dX5_sumInChannels_46 : decode cX5_sumInChannels 46 = .ok (.getfield 23, 3) := by decide +kernel
theorem dX5_sumInChannels_49 : decode cX5_sumInChannels 49 = .ok (.bipush 8, 2) := by decide +kernel
theorem dX5_sumInChannels_51 : decode cX5_sumInChannels 51 = .ok (.iload_n 3, 1) := by decide +kernel
theorem dX5_sumInChannels_52 : decode cX5_sumInChannels 52 = .ok (.imul, 1) := by decide +kernel
theorem dX5_sumInChannels_53 : decode cX5_sumInChannels 53 = .ok (.iload 4, 2) := by decide +kernel
theorem dX5_sumInChannels_55 : decode cX5_sumInChannels 55 = .ok (.iadd, 1) := by decide +kernel
theorem dX5_sumInChannels_56 : decode cX5_sumInChannels 56 = .ok (.iaload, 1) := by decide +kernel
theorem dX5_sumInChannels_57 : decode cX5_sumInChannels 57 = .ok (.istore 5, 2) := by decide +kernel
theorem dX5_sumInChannels_59 : decode cX5_sumInChannels 59 = .ok (.iload_n 2, 1) := by decide +kernel
theorem dX5_sumInChannels_60 : decode cX5_sumInChannels 60 = .ok (.iload 5, 2) := by decide +kernel
theorem dX5_sumInChannels_62 : decode cX5_sumInChannels 62 = .ok (.ifCond .le 22, 3) := by decide +kernel
theorem dX5_sumInChannels_65 : decode cX5_sumInChannels 65 = .ok (.iload 5, 2) := by decide +kernel
theorem dX5_sumInChannels_67 : decode cX5_sumInChannels 67 = .ok (.sipush 1000, 3) := by decide +kernel
theorem dX5_sumInChannels_70 : decode cX5_sumInChannels 70 = .ok (.idiv, 1) := by decide +kernel
theorem dX5_sumInChannels_71 : decode cX5_sumInChannels 71 = .ok (.iload_n 1, 1) := by decide +kernel
theorem dX5_sumInChannels_72 : decode cX5_sumInChannels 72 = .ok (.if_icmp .ne 12, 3) := by decide +kernel
theorem dX5_sumInChannels_75 : decode cX5_sumInChannels 75 = .ok (.iload 5, 2) := by decide +kernel
theorem dX5_sumInChannels_77 : decode cX5_sumInChannels 77 = .ok (.sipush 1000, 3) := by decide +kernel
theorem dX5_sumInChannels_80 : decode cX5_sumInChannels 80 = .ok (.irem, 1) := by decide +kernel
theorem dX5_sumInChannels_81 : decode cX5_sumInChannels 81 = .ok (.goto 4, 3) := by decide +kernel
theorem dX5_sumInChannels_84 : decode cX5_sumInChannels 84 = .ok (.iconst 0, 1) := by decide +kernel
theorem dX5_sumInChannels_85 : decode cX5_sumInChannels 85 = .ok (.iadd, 1) := by decide +kernel
theorem dX5_sumInChannels_86 : decode cX5_sumInChannels 86 = .ok (.istore_n 2, 1) := by decide +kernel
theorem dX5_sumInChannels_87 : decode cX5_sumInChannels 87 = .ok (.iinc 4 1, 3) := by decide +kernel
theorem dX5_sumInChannels_90 : decode cX5_sumInChannels 90 = .ok (.goto (-56), 3) := by decide +kernel
theorem dX5_sumInChannels_93 : decode cX5_sumInChannels 93 = .ok (.iinc 3 1, 3) := by decide +kernel
theorem dX5_sumInChannels_96 : decode cX5_sumInChannels 96 = .ok (.goto (-71), 3) := by decide +kernel
theorem dX5_sumInChannels_99 : decode cX5_sumInChannels 99 = .ok (.iload_n 2, 1) := by decide +kernel
theorem dX5_sumInChannels_100 : decode cX5_sumInChannels 100 = .ok (.ireturn, 1) := by decide +kernel
