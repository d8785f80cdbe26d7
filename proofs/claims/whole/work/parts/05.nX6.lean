/-! printed decode rows and words -/
theorem dX6_init_0 : decode cX6_init 0 = .ok (.aload_n 0, 1) := by decide +kernel
theorem dX6_init_1 : decode cX6_init 1 = .ok (.invokespecial 1, 3) := by decide +kernel
theorem dX6_init_4 : decode cX6_init 4 = .ok (.aload_n 0, 1) := by decide +kernel
theorem dX6_init_5 : decode cX6_init 5 = .ok (.bipush 12, 2) := by decide +kernel
theorem dX6_init_7 : decode cX6_init 7 = .ok (.newarray .int, 2) := by decide +kernel
theorem dX6_init_9 : decode cX6_init 9 = .ok (.putfield 7, 3) := by decide +kernel
theorem dX6_init_12 : decode cX6_init 12 = .ok (.aload_n 0, 1) := by decide +kernel
theorem dX6_init_13 : decode cX6_init 13 = .ok (.bipush 12, 2) := by decide +kernel
theorem dX6_init_15 : decode cX6_init 15 = .ok (.putfield 13, 3) := by decide +kernel
theorem dX6_init_18 : decode cX6_init 18 = .ok (.aload_n 0, 1) := by decide +kernel
theorem dX6_init_19 : decode cX6_init 19 = .ok (.bipush 60, 2) := by decide +kernel
theorem dX6_init_21 : decode cX6_init 21 = .ok (.newarray .int, 2) := by decide +kernel
theorem dX6_init_23 : decode cX6_init 23 = .ok (.putfield 17, 3) := by decide +kernel
theorem dX6_init_26 : decode cX6_init 26 = .ok (.aload_n 0, 1) := by decide +kernel
theorem dX6_init_27 : decode cX6_init 27 = .ok (.bipush 60, 2) := by decide +kernel
theorem dX6_init_29 : decode cX6_init 29 = .ok (.newarray .int, 2) := by decide +kernel
theorem dX6_init_31 : decode cX6_init 31 = .ok (.putfield 20, 3) := by decide +kernel
theorem dX6_init_34 : decode cX6_init 34 = .ok (.aload_n 0, 1) := by decide +kernel
theorem dX6_init_35 : decode cX6_init 35 = .ok (.bipush 60, 2) := by decide +kernel
theorem dX6_init_37 : decode cX6_init 37 = .ok (.newarray .int, 2) := by decide +kernel
theorem dX6_init_39 : decode cX6_init 39 = .ok (.putfield 23, 3) := by decide +kernel
theorem dX6_init_42 : decode cX6_init 42 = .ok (.aload_n 0, 1) := by decide +kernel
theorem dX6_init_43 : decode cX6_init 43 = .ok (.sipush 2000, 3) := by decide +kernel
theorem dX6_init_46 : decode cX6_init 46 = .ok (.newarray .int, 2) := by decide +kernel
theorem dX6_init_48 : decode cX6_init 48 = .ok (.putfield 26, 3) := by decide +kernel
theorem dX6_init_51 : decode cX6_init 51 = .ok (.aload_n 0, 1) := by decide +kernel
theorem dX6_init_52 : decode cX6_init 52 = .ok (.sipush 2000, 3) := by decide +kernel
theorem dX6_init_55 : decode cX6_init 55 = .ok (.newarray .int, 2) := by decide +kernel
theorem dX6_init_57 : decode cX6_init 57 = .ok (.putfield 29, 3) := by decide +kernel
theorem dX6_init_60 : decode cX6_init 60 = .ok (.aload_n 0, 1) := by decide +kernel
theorem dX6_init_61 : decode cX6_init 61 = .ok (.sipush 2000, 3) := by decide +kernel
theorem dX6_init_64 : decode cX6_init 64 = .ok (.newarray .int, 2) := by decide +kernel
theorem dX6_init_66 : decode cX6_init 66 = .ok (.putfield 32, 3) := by decide +kernel
theorem dX6_init_69 : decode cX6_init 69 = .ok (.aload_n 0, 1) := by decide +kernel
theorem dX6_init_70 : decode cX6_init 70 = .ok (.sipush 2000, 3) := by decide +kernel
theorem dX6_init_73 : decode cX6_init 73 = .ok (.newarray .boolean, 2) := by decide +kernel
theorem dX6_init_75 : decode cX6_init 75 = .ok (.putfield 35, 3) := by decide +kernel
theorem dX6_init_78 : decode cX6_init 78 = .ok (.aload_n 0, 1) := by decide +kernel
theorem dX6_init_79 : decode cX6_init 79 = .ok (.bipush 6, 2) := by decide +kernel
theorem dX6_init_81 : decode cX6_init 81 = .ok (.newarray .int, 2) := by decide +kernel
theorem dX6_init_83 : decode cX6_init 83 = .ok (.putfield 39, 3) := by decide +kernel
theorem dX6_init_86 : decode cX6_init 86 = .ok (.aload_n 0, 1) := by decide +kernel
theorem dX6_init_87 : decode cX6_init 87 = .ok (.bipush 6, 2) := by decide +kernel
theorem dX6_init_89 : decode cX6_init 89 = .ok (.newarray .boolean, 2) := by decide +kernel
theorem dX6_init_91 : decode cX6_init 91 = .ok (.putfield 42, 3) := by decide +kernel
theorem dX6_init_94 : decode cX6_init 94 = .ok (.iconst 0, 1) := by decide +kernel
theorem dX6_init_95 : decode cX6_init 95 = .ok (.istore_n 1, 1) := by decide +kernel
theorem dX6_init_96 : decode cX6_init 96 = .ok (.iload_n 1, 1) := by decide +kernel
theorem dX6_init_97 : decode cX6_init 97 = .ok (.bipush 6, 2) := by decide +kernel
theorem dX6_init_99 : decode cX6_init 99 = .ok (.if_icmp .ge 16, 3) := by decide +kernel
theorem dX6_init_102 : decode cX6_init 102 = .ok (.aload_n 0, 1) := by decide +kernel
theorem dX6_init_103 : decode cX6_init 103 = .ok (.getfield 39, 3) := by decide +kernel
theorem dX6_init_106 : decode cX6_init 106 = .ok (.iload_n 1, 1) := by decide +kernel
theorem dX6_init_107 : decode cX6_init 107 = .ok (.iconst (-1), 1) := by decide +kernel
theorem dX6_init_108 : decode cX6_init 108 = .ok (.iastore, 1) := by decide +kernel
theorem dX6_init_109 : decode cX6_init 109 = .ok (.iinc 1 1, 3) := by decide +kernel
theorem dX6_init_112 : decode cX6_init 112 = .ok (.goto (-16), 3) := by decide +kernel
theorem dX6_init_115 : decode cX6_init 115 = .ok (.return_, 1) := by decide +kernel
theorem dX6_thrown_0 : decode cX6_thrown 0 = .ok (.aload_n 0, 1) := by decide +kernel
theorem dX6_thrown_1 : decode cX6_thrown 1 = .ok (.getfield 45, 3) := by decide +kernel
theorem dX6_thrown_4 : decode cX6_thrown 4 = .ok (.ireturn, 1) := by decide +kernel
theorem dX6_can_0 : decode cX6_can 0 = .ok (.aload_n 0, 1) := by decide +kernel
theorem dX6_can_1 : decode cX6_can 1 = .ok (.iload_n 1, 1) := by decide +kernel
theorem dX6_can_2 : decode cX6_can 2 = .ok (.putfield 45, 3) := by decide +kernel
theorem dX6_can_5 : decode cX6_can 5 = .ok (.iload_n 1, 1) := by decide +kernel
theorem dX6_can_6 : decode cX6_can 6 = .ok (.ifCond .ne 7, 3) := by decide +kernel
theorem dX6_can_9 : decode cX6_can 9 = .ok (.iconst 1, 1) := by decide +kernel
theorem dX6_can_10 : decode cX6_can 10 = .ok (.goto 4, 3) := by decide +kernel
theorem dX6_can_13 : decode cX6_can 13 = .ok (.iconst 0, 1) := by decide +kernel
theorem dX6_can_14 : decode cX6_can 14 = .ok (.ireturn, 1) := by decide +kernel
theorem dX6_isIn_0 : decode cX6_isIn 0 = .ok (.iload_n 0, 1) := by decide +kernel
theorem dX6_isIn_1 : decode cX6_isIn 1 = .ok (.iload_n 1, 1) := by decide +kernel
theorem dX6_isIn_2 : decode cX6_isIn 2 = .ok (.if_icmp .lt 12, 3) := by decide +kernel
theorem dX6_isIn_5 : decode cX6_isIn 5 = .ok (.iload_n 0, 1) := by decide +kernel
theorem dX6_isIn_6 : decode cX6_isIn 6 = .ok (.iload_n 2, 1) := by decide +kernel
theorem dX6_isIn_7 : decode cX6_isIn 7 = .ok (.if_icmp .gt 7, 3) := by decide +kernel
theorem dX6_isIn_10 : decode cX6_isIn 10 = .ok (.iconst 1, 1) := by decide +kernel
theorem dX6_isIn_11 : decode cX6_isIn 11 = .ok (.goto 4, 3) := by decide +kernel
theorem dX6_isIn_14 : decode cX6_isIn 14 = .ok (.iconst 0, 1) := by decide +kernel
theorem dX6_isIn_15 : decode cX6_isIn 15 = .ok (.ireturn, 1) := by decide +kernel
set_option maxRecDepth 20000 in
theorem ggX6_isRow_X6_isIn : GoodIn wsX6_isRow wsX6_isIn := goodIn_r _ [4] (by decide +kernel) (by decide +kernel)
set_option maxRecDepth 20000 in
theorem gX6_isRow_X6_isIn : GoodIn wsX6_isRow (va_wsS RX6 48 yX6_isIn wsX6_isIn) := goodIn_app (goodIn_of _ (by decide +kernel)) ggX6_isRow_X6_isIn
theorem dX6_isRow_0 : decode cX6_isRow 0 = .ok (.iload_n 0, 1) := by decide +kernel
theorem dX6_isRow_1 : decode cX6_isRow 1 = .ok (.iconst 0, 1) := by decide +kernel
theorem dX6_isRow_2 : decode cX6_isRow 2 = .ok (.bipush 11, 2) := by decide +kernel
theorem dX6_isRow_4 : decode cX6_isRow 4 = .ok (.invokestatic 48, 3) := by decide +kernel
theorem dX6_isRow_7 : decode cX6_isRow 7 = .ok (.ireturn, 1) := by decide +kernel
set_option maxRecDepth 20000 in
theorem ggX6_isTransaction_X6_isIn : GoodIn wsX6_isTransaction wsX6_isIn := goodIn_r _ [5] (by decide +kernel) (by decide +kernel)
set_option maxRecDepth 20000 in
theorem gX6_isTransaction_X6_isIn : GoodIn wsX6_isTransaction (va_wsS RX6 48 yX6_isIn wsX6_isIn) := goodIn_app (goodIn_of _ (by decide +kernel)) ggX6_isTransaction_X6_isIn
theorem dX6_isTransaction_0 : decode cX6_isTransaction 0 = .ok (.iload_n 1, 1) := by decide +kernel
theorem dX6_isTransaction_1 : decode cX6_isTransaction 1 = .ok (.iconst 0, 1) := by decide +kernel
theorem dX6_isTransaction_2 : decode cX6_isTransaction 2 = .ok (.aload_n 0, 1) := by decide +kernel
theorem dX6_isTransaction_3 : decode cX6_isTransaction 3 = .ok (.getfield 52, 3) := by decide +kernel
theorem dX6_isTransaction_6 : decode cX6_isTransaction 6 = .ok (.iconst 1, 1) := by decide +kernel
theorem dX6_isTransaction_7 : decode cX6_isTransaction 7 = .ok (.isub, 1) := by decide +kernel
theorem dX6_isTransaction_8 : decode cX6_isTransaction 8 = .ok (.invokestatic 48, 3) := by decide +kernel
theorem dX6_isTransaction_11 : decode cX6_isTransaction 11 = .ok (.ireturn, 1) := by decide +kernel
theorem dX6_isActive_0 : decode cX6_isActive 0 = .ok (.aload_n 0, 1) := by decide +kernel
theorem dX6_isActive_1 : decode cX6_isActive 1 = .ok (.getfield 17, 3) := by decide +kernel
theorem dX6_isActive_4 : decode cX6_isActive 4 = .ok (.iload_n 1, 1) := by decide +kernel
theorem dX6_isActive_5 : decode cX6_isActive 5 = .ok (.iaload, 1) := by decide +kernel
theorem dX6_isActive_6 : decode cX6_isActive 6 = .ok (.ifCond .ne 7, 3) := by decide +kernel
theorem dX6_isActive_9 : decode cX6_isActive 9 = .ok (.iconst 1, 1) := by decide +kernel
theorem dX6_isActive_10 : decode cX6_isActive 10 = .ok (.goto 4, 3) := by decide +kernel
theorem dX6_isActive_13 : decode cX6_isActive 13 = .ok (.iconst 0, 1) := by decide +kernel
theorem dX6_isActive_14 : decode cX6_isActive 14 = .ok (.ireturn, 1) := by decide +kernel
set_option maxRecDepth 20000 in
theorem ggX6_setSpace_X6_isIn : GoodIn wsX6_setSpace wsX6_isIn := goodIn_r _ [7] (by decide +kernel) (by decide +kernel)
set_option maxRecDepth 20000 in
theorem gX6_setSpace_X6_isIn : GoodIn wsX6_setSpace (va_wsS RX6 48 yX6_isIn wsX6_isIn) := goodIn_app (goodIn_of _ (by decide +kernel)) ggX6_setSpace_X6_isIn
set_option maxRecDepth 20000 in
theorem ggX6_setSpace_X6_can : GoodIn wsX6_setSpace wsX6_can := goodIn_r _ [11, 12, 13, 14, 15, 16, 17, 18, 19, 20, 21, 22, 23, 24, 25, 26, 27, 28, 29, 30] (by decide +kernel) (by decide +kernel)
set_option maxRecDepth 20000 in
theorem gX6_setSpace_X6_can : GoodIn wsX6_setSpace (wsV RX6 61 RX6 yX6_can wsX6_can) := goodIn_app (goodIn_of _ (by decide +kernel)) ggX6_setSpace_X6_can
theorem dX6_setSpace_0 : decode cX6_setSpace 0 = .ok (.aload_n 0, 1) := by decide +kernel
theorem dX6_setSpace_1 : decode cX6_setSpace 1 = .ok (.iload_n 1, 1) := by decide +kernel
theorem dX6_setSpace_2 : decode cX6_setSpace 2 = .ok (.iconst 1, 1) := by decide +kernel
theorem dX6_setSpace_3 : decode cX6_setSpace 3 = .ok (.bipush 30, 2) := by decide +kernel
theorem dX6_setSpace_5 : decode cX6_setSpace 5 = .ok (.invokestatic 48, 3) := by decide +kernel
theorem dX6_setSpace_8 : decode cX6_setSpace 8 = .ok (.ifCond .ne 7, 3) := by decide +kernel
theorem dX6_setSpace_11 : decode cX6_setSpace 11 = .ok (.iconst 1, 1) := by decide +kernel
theorem dX6_setSpace_12 : decode cX6_setSpace 12 = .ok (.goto 21, 3) := by decide +kernel
theorem dX6_setSpace_15 : decode cX6_setSpace 15 = .ok (.aload_n 0, 1) := by decide +kernel
theorem dX6_setSpace_16 : decode cX6_setSpace 16 = .ok (.getfield 55, 3) := by decide +kernel
theorem dX6_setSpace_19 : decode cX6_setSpace 19 = .ok (.aload_n 0, 1) := by decide +kernel
theorem dX6_setSpace_20 : decode cX6_setSpace 20 = .ok (.getfield 58, 3) := by decide +kernel
theorem dX6_setSpace_23 : decode cX6_setSpace 23 = .ok (.isub, 1) := by decide +kernel
theorem dX6_setSpace_24 : decode cX6_setSpace 24 = .ok (.iload_n 1, 1) := by decide +kernel
theorem dX6_setSpace_25 : decode cX6_setSpace 25 = .ok (.if_icmp .le 7, 3) := by decide +kernel
theorem dX6_setSpace_28 : decode cX6_setSpace 28 = .ok (.iconst 2, 1) := by decide +kernel
theorem dX6_setSpace_29 : decode cX6_setSpace 29 = .ok (.goto 4, 3) := by decide +kernel
theorem dX6_setSpace_32 : decode cX6_setSpace 32 = .ok (.iconst 0, 1) := by decide +kernel
theorem dX6_setSpace_33 : decode cX6_setSpace 33 = .ok (.invokevirtual 61, 3) := by decide +kernel
theorem dX6_setSpace_36 : decode cX6_setSpace 36 = .ok (.ifCond .ne 5, 3) := by decide +kernel
theorem dX6_setSpace_39 : decode cX6_setSpace 39 = .ok (.iconst 0, 1) := by decide +kernel
theorem dX6_setSpace_40 : decode cX6_setSpace 40 = .ok (.ireturn, 1) := by decide +kernel
theorem dX6_setSpace_41 : decode cX6_setSpace 41 = .ok (.aload_n 0, 1) := by decide +kernel
theorem dX6_setSpace_42 : decode cX6_setSpace 42 = .ok (.getfield 13, 3) := by decide +kernel
theorem dX6_setSpace_45 : decode cX6_setSpace 45 = .ok (.istore_n 2, 1) := by decide +kernel
theorem dX6_setSpace_46 : decode cX6_setSpace 46 = .ok (.aload_n 0, 1) := by decide +kernel
theorem dX6_setSpace_47 : decode cX6_setSpace 47 = .ok (.iload_n 1, 1) := by decide +kernel
theorem dX6_setSpace_48 : decode cX6_setSpace 48 = .ok (.putfield 13, 3) := by decide +kernel
theorem dX6_setSpace_51 : decode cX6_setSpace 51 = .ok (.iload_n 2, 1) := by decide +kernel
theorem dX6_setSpace_52 : decode cX6_setSpace 52 = .ok (.ireturn, 1) := by decide +kernel
set_option maxRecDepth 20000 in
theorem ggX6_begin_X6_can : GoodIn wsX6_begin wsX6_can := goodIn_r _ [8, 9, 10, 11, 12, 13, 14, 15, 16, 17, 18, 19, 20, 21, 22, 23, 24, 25, 26, 27] (by decide +kernel) (by decide +kernel)
set_option maxRecDepth 20000 in
theorem gX6_begin_X6_can : GoodIn wsX6_begin (wsV RX6 61 RX6 yX6_can wsX6_can) := goodIn_app (goodIn_of _ (by decide +kernel)) ggX6_begin_X6_can
theorem dX6_begin_0 : decode cX6_begin 0 = .ok (.aload_n 0, 1) := by decide +kernel
theorem dX6_begin_1 : decode cX6_begin 1 = .ok (.aload_n 0, 1) := by decide +kernel
theorem dX6_begin_2 : decode cX6_begin 2 = .ok (.getfield 52, 3) := by decide +kernel
theorem dX6_begin_5 : decode cX6_begin 5 = .ok (.bipush 60, 2) := by decide +kernel
theorem dX6_begin_7 : decode cX6_begin 7 = .ok (.if_icmp .ne 7, 3) := by decide +kernel
theorem dX6_begin_10 : decode cX6_begin 10 = .ok (.iconst 1, 1) := by decide +kernel
theorem dX6_begin_11 : decode cX6_begin 11 = .ok (.goto 4, 3) := by decide +kernel
theorem dX6_begin_14 : decode cX6_begin 14 = .ok (.iconst 0, 1) := by decide +kernel
theorem dX6_begin_15 : decode cX6_begin 15 = .ok (.invokevirtual 61, 3) := by decide +kernel
theorem dX6_begin_18 : decode cX6_begin 18 = .ok (.ifCond .ne 5, 3) := by decide +kernel
theorem dX6_begin_21 : decode cX6_begin 21 = .ok (.iconst 0, 1) := by decide +kernel
theorem dX6_begin_22 : decode cX6_begin 22 = .ok (.ireturn, 1) := by decide +kernel
theorem dX6_begin_23 : decode cX6_begin 23 = .ok (.aload_n 0, 1) := by decide +kernel
theorem dX6_begin_24 : decode cX6_begin 24 = .ok (.getfield 20, 3) := by decide +kernel
theorem dX6_begin_27 : decode cX6_begin 27 = .ok (.aload_n 0, 1) := by decide +kernel
theorem dX6_begin_28 : decode cX6_begin 28 = .ok (.getfield 52, 3) := by decide +kernel
theorem dX6_begin_31 : decode cX6_begin 31 = .ok (.aload_n 0, 1) := by decide +kernel
theorem dX6_begin_32 : decode cX6_begin 32 = .ok (.getfield 65, 3) := by decide +kernel
theorem dX6_begin_35 : decode cX6_begin 35 = .ok (.iastore, 1) := by decide +kernel
theorem dX6_begin_36 : decode cX6_begin 36 = .ok (.aload_n 0, 1) := by decide +kernel
theorem dX6_begin_37 : decode cX6_begin 37 = .ok (.dup, 1) := by decide +kernel
theorem dX6_begin_38 : decode cX6_begin 38 = .ok (.getfield 52, 3) := by decide +kernel
theorem dX6_begin_41 : decode cX6_begin 41 = .ok (.iconst 1, 1) := by decide +kernel
theorem dX6_begin_42 : decode cX6_begin 42 = .ok (.iadd, 1) := by decide +kernel
theorem dX6_begin_43 : decode cX6_begin 43 = .ok (.putfield 52, 3) := by decide +kernel
theorem dX6_begin_46 : decode cX6_begin 46 = .ok (.aload_n 0, 1) := by decide +kernel
theorem dX6_begin_47 : decode cX6_begin 47 = .ok (.getfield 52, 3) := by decide +kernel
theorem dX6_begin_50 : decode cX6_begin 50 = .ok (.iconst 1, 1) := by decide +kernel
theorem dX6_begin_51 : decode cX6_begin 51 = .ok (.isub, 1) := by decide +kernel
theorem dX6_begin_52 : decode cX6_begin 52 = .ok (.ireturn, 1) := by decide +kernel
set_option maxRecDepth 20000 in
theorem ggX6_lockOn_X6_isActive : GoodIn wsX6_lockOn wsX6_isActive := goodIn_r _ [9, 10, 11, 12, 13, 14, 15, 16, 17, 18, 19, 20, 21, 22, 23, 24, 25, 26, 27, 28] (by decide +kernel) (by decide +kernel)
set_option maxRecDepth 20000 in
theorem gX6_lockOn_X6_isActive : GoodIn wsX6_lockOn (wsV RX6 68 RX6 yX6_isActive wsX6_isActive) := goodIn_app (goodIn_of _ (by decide +kernel)) ggX6_lockOn_X6_isActive
theorem dX6_lockOn_0 : decode cX6_lockOn 0 = .ok (.iconst (-1), 1) := by decide +kernel
theorem dX6_lockOn_1 : decode cX6_lockOn 1 = .ok (.istore_n 2, 1) := by decide +kernel
theorem dX6_lockOn_2 : decode cX6_lockOn 2 = .ok (.iconst 0, 1) := by decide +kernel
theorem dX6_lockOn_3 : decode cX6_lockOn 3 = .ok (.istore_n 3, 1) := by decide +kernel
theorem dX6_lockOn_4 : decode cX6_lockOn 4 = .ok (.iload_n 3, 1) := by decide +kernel
theorem dX6_lockOn_5 : decode cX6_lockOn 5 = .ok (.aload_n 0, 1) := by decide +kernel
theorem dX6_lockOn_6 : decode cX6_lockOn 6 = .ok (.getfield 55, 3) := by decide +kernel
theorem dX6_lockOn_9 : decode cX6_lockOn 9 = .ok (.if_icmp .ge 39, 3) := by decide +kernel
theorem dX6_lockOn_12 : decode cX6_lockOn 12 = .ok (.aload_n 0, 1) := by decide +kernel
theorem dX6_lockOn_13 : decode cX6_lockOn 13 = .ok (.getfield 29, 3) := by decide +kernel
theorem dX6_lockOn_16 : decode cX6_lockOn 16 = .ok (.iload_n 3, 1) := by decide +kernel
theorem dX6_lockOn_17 : decode cX6_lockOn 17 = .ok (.iaload, 1) := by decide +kernel
theorem dX6_lockOn_18 : decode cX6_lockOn 18 = .ok (.iload_n 1, 1) := by decide +kernel
theorem dX6_lockOn_19 : decode cX6_lockOn 19 = .ok (.if_icmp .ne 21, 3) := by decide +kernel
theorem dX6_lockOn_22 : decode cX6_lockOn 22 = .ok (.aload_n 0, 1) := by decide +kernel
theorem dX6_lockOn_23 : decode cX6_lockOn 23 = .ok (.getfield 35, 3) := by decide +kernel
theorem dX6_lockOn_26 : decode cX6_lockOn 26 = .ok (.iload_n 3, 1) := by decide +kernel
theorem dX6_lockOn_27 : decode cX6_lockOn 27 = .ok (.baload, 1) := by decide +kernel
theorem dX6_lockOn_28 : decode cX6_lockOn 28 = .ok (.ifCond .ne 12, 3) := by decide +kernel
theorem dX6_lockOn_31 : decode cX6_lockOn 31 = .ok (.aload_n 0, 1) := by decide +kernel
theorem dX6_lockOn_32 : decode cX6_lockOn 32 = .ok (.getfield 26, 3) := by decide +kernel
theorem dX6_lockOn_35 : decode cX6_lockOn 35 = .ok (.iload_n 3, 1) := by decide +kernel
theorem dX6_lockOn_36 : decode cX6_lockOn 36 = .ok (.iaload, 1) := by decide +kernel
theorem dX6_lockOn_37 : decode cX6_lockOn 37 = .ok (.goto 4, 3) := by decide +kernel
theorem dX6_lockOn_40 : decode cX6_lockOn 40 = .ok (.iload_n 2, 1) := by decide +kernel
theorem dX6_lockOn_41 : decode cX6_lockOn 41 = .ok (.istore_n 2, 1) := by decide +kernel
theorem dX6_lockOn_42 : decode cX6_lockOn 42 = .ok (.iinc 3 1, 3) := by decide +kernel
theorem dX6_lockOn_45 : decode cX6_lockOn 45 = .ok (.goto (-41), 3) := by decide +kernel
theorem dX6_lockOn_48 : decode cX6_lockOn 48 = .ok (.iload_n 2, 1) := by decide +kernel
theorem dX6_lockOn_49 : decode cX6_lockOn 49 = .ok (.iconst (-1), 1) := by decide +kernel
theorem dX6_lockOn_50 : decode cX6_lockOn 50 = .ok (.if_icmp .eq 15, 3) := by decide +kernel
theorem dX6_lockOn_53 : decode cX6_lockOn 53 = .ok (.aload_n 0, 1) := by decide +kernel
theorem dX6_lockOn_54 : decode cX6_lockOn 54 = .ok (.iload_n 2, 1) := by decide +kernel
theorem dX6_lockOn_55 : decode cX6_lockOn 55 = .ok (.invokevirtual 68, 3) := by decide +kernel
theorem dX6_lockOn_58 : decode cX6_lockOn 58 = .ok (.ifCond .eq 7, 3) := by decide +kernel
theorem dX6_lockOn_61 : decode cX6_lockOn 61 = .ok (.iload_n 2, 1) := by decide +kernel
theorem dX6_lockOn_62 : decode cX6_lockOn 62 = .ok (.goto 4, 3) := by decide +kernel
theorem dX6_lockOn_65 : decode cX6_lockOn 65 = .ok (.iconst (-1), 1) := by decide +kernel
theorem dX6_lockOn_66 : decode cX6_lockOn 66 = .ok (.ireturn, 1) := by decide +kernel
set_option maxRecDepth 20000 in
theorem ggX6_cleans_X6_isActive : GoodIn wsX6_cleans wsX6_isActive := goodIn_r _ [8, 9, 10, 11, 12, 13, 14, 15, 16, 17, 18, 19, 20, 21, 22, 23, 24, 25, 26, 27] (by decide +kernel) (by decide +kernel)
set_option maxRecDepth 20000 in
theorem gX6_cleans_X6_isActive : GoodIn wsX6_cleans (wsV RX6 68 RX6 yX6_isActive wsX6_isActive) := goodIn_app (goodIn_of _ (by decide +kernel)) ggX6_cleans_X6_isActive
theorem dX6_cleans_0 : decode cX6_cleans 0 = .ok (.iconst 2, 1) := by decide +kernel
theorem dX6_cleans_1 : decode cX6_cleans 1 = .ok (.iload_n 1, 1) := by decide +kernel
theorem dX6_cleans_2 : decode cX6_cleans 2 = .ok (.imul, 1) := by decide +kernel
theorem dX6_cleans_3 : decode cX6_cleans 3 = .ok (.istore_n 2, 1) := by decide +kernel
theorem dX6_cleans_4 : decode cX6_cleans 4 = .ok (.iload_n 2, 1) := by decide +kernel
theorem dX6_cleans_5 : decode cX6_cleans 5 = .ok (.iconst 2, 1) := by decide +kernel
theorem dX6_cleans_6 : decode cX6_cleans 6 = .ok (.iload_n 1, 1) := by decide +kernel
theorem dX6_cleans_7 : decode cX6_cleans 7 = .ok (.imul, 1) := by decide +kernel
theorem dX6_cleans_8 : decode cX6_cleans 8 = .ok (.iconst 2, 1) := by decide +kernel
theorem dX6_cleans_9 : decode cX6_cleans 9 = .ok (.iadd, 1) := by decide +kernel
theorem dX6_cleans_10 : decode cX6_cleans 10 = .ok (.if_icmp .ge 58, 3) := by decide +kernel
theorem dX6_cleans_13 : decode cX6_cleans 13 = .ok (.aload_n 0, 1) := by decide +kernel
theorem dX6_cleans_14 : decode cX6_cleans 14 = .ok (.getfield 39, 3) := by decide +kernel
theorem dX6_cleans_17 : decode cX6_cleans 17 = .ok (.iload_n 2, 1) := by decide +kernel
theorem dX6_cleans_18 : decode cX6_cleans 18 = .ok (.iaload, 1) := by decide +kernel
theorem dX6_cleans_19 : decode cX6_cleans 19 = .ok (.iconst (-1), 1) := by decide +kernel
theorem dX6_cleans_20 : decode cX6_cleans 20 = .ok (.if_icmp .eq 42, 3) := by decide +kernel
theorem dX6_cleans_23 : decode cX6_cleans 23 = .ok (.aload_n 0, 1) := by decide +kernel
theorem dX6_cleans_24 : decode cX6_cleans 24 = .ok (.aload_n 0, 1) := by decide +kernel
theorem dX6_cleans_25 : decode cX6_cleans 25 = .ok (.getfield 39, 3) := by decide +kernel
theorem dX6_cleans_28 : decode cX6_cleans 28 = .ok (.iload_n 2, 1) := by decide +kernel
theorem dX6_cleans_29 : decode cX6_cleans 29 = .ok (.iaload, 1) := by decide +kernel
theorem dX6_cleans_30 : decode cX6_cleans 30 = .ok (.invokevirtual 68, 3) := by decide +kernel
theorem dX6_cleans_33 : decode cX6_cleans 33 = .ok (.ifCond .ne 29, 3) := by decide +kernel
theorem dX6_cleans_36 : decode cX6_cleans 36 = .ok (.aload_n 0, 1) := by decide +kernel
theorem dX6_cleans_37 : decode cX6_cleans 37 = .ok (.getfield 42, 3) := by decide +kernel
theorem dX6_cleans_40 : decode cX6_cleans 40 = .ok (.iload_n 2, 1) := by decide +kernel
theorem dX6_cleans_41 : decode cX6_cleans 41 = .ok (.baload, 1) := by decide +kernel
theorem dX6_cleans_42 : decode cX6_cleans 42 = .ok (.ifCond .ne 20, 3) := by decide +kernel
theorem dX6_cleans_45 : decode cX6_cleans 45 = .ok (.aload_n 0, 1) := by decide +kernel
theorem dX6_cleans_46 : decode cX6_cleans 46 = .ok (.getfield 42, 3) := by decide +kernel
theorem dX6_cleans_49 : decode cX6_cleans 49 = .ok (.iload_n 2, 1) := by decide +kernel
theorem dX6_cleans_50 : decode cX6_cleans 50 = .ok (.iconst 1, 1) := by decide +kernel
theorem dX6_cleans_51 : decode cX6_cleans 51 = .ok (.bastore, 1) := by decide +kernel
theorem dX6_cleans_52 : decode cX6_cleans 52 = .ok (.aload_n 0, 1) := by decide +kernel
theorem dX6_cleans_53 : decode cX6_cleans 53 = .ok (.dup, 1) := by decide +kernel
theorem dX6_cleans_54 : decode cX6_cleans 54 = .ok (.getfield 71, 3) := by decide +kernel
theorem dX6_cleans_57 : decode cX6_cleans 57 = .ok (.iconst 1, 1) := by decide +kernel
theorem dX6_cleans_58 : decode cX6_cleans 58 = .ok (.iadd, 1) := by decide +kernel
theorem dX6_cleans_59 : decode cX6_cleans 59 = .ok (.putfield 71, 3) := by decide +kernel
theorem dX6_cleans_62 : decode cX6_cleans 62 = .ok (.iinc 2 1, 3) := by decide +kernel
theorem dX6_cleans_65 : decode cX6_cleans 65 = .ok (.goto (-61), 3) := by decide +kernel
theorem dX6_cleans_68 : decode cX6_cleans 68 = .ok (.return_, 1) := by decide +kernel
set_option maxRecDepth 20000 in
theorem ggX6_slotFor_X6_isActive : GoodIn wsX6_slotFor wsX6_isActive := goodIn_r _ [6, 7, 8, 9, 10, 11, 12, 13, 14, 15, 16, 17, 18, 19, 20, 21, 22, 23, 24, 25] (by decide +kernel) (by decide +kernel)
set_option maxRecDepth 20000 in
theorem gX6_slotFor_X6_isActive : GoodIn wsX6_slotFor (wsV RX6 68 RX6 yX6_isActive wsX6_isActive) := goodIn_app (goodIn_of _ (by decide +kernel)) ggX6_slotFor_X6_isActive
theorem dX6_slotFor_0 : decode cX6_slotFor 0 = .ok (.iconst (-1), 1) := by decide +kernel
theorem dX6_slotFor_1 : decode cX6_slotFor 1 = .ok (.istore_n 3, 1) := by decide +kernel
theorem dX6_slotFor_2 : decode cX6_slotFor 2 = .ok (.iconst (-1), 1) := by decide +kernel
theorem dX6_slotFor_3 : decode cX6_slotFor 3 = .ok (.istore 4, 2) := by decide +kernel
theorem dX6_slotFor_5 : decode cX6_slotFor 5 = .ok (.iconst 2, 1) := by decide +kernel
theorem dX6_slotFor_6 : decode cX6_slotFor 6 = .ok (.iload_n 2, 1) := by decide +kernel
theorem dX6_slotFor_7 : decode cX6_slotFor 7 = .ok (.imul, 1) := by decide +kernel
theorem dX6_slotFor_8 : decode cX6_slotFor 8 = .ok (.iconst 2, 1) := by decide +kernel
theorem dX6_slotFor_9 : decode cX6_slotFor 9 = .ok (.iadd, 1) := by decide +kernel
theorem dX6_slotFor_10 : decode cX6_slotFor 10 = .ok (.iconst 1, 1) := by decide +kernel
theorem dX6_slotFor_11 : decode cX6_slotFor 11 = .ok (.isub, 1) := by decide +kernel
theorem dX6_slotFor_12 : decode cX6_slotFor 12 = .ok (.istore 5, 2) := by decide +kernel
theorem dX6_slotFor_14 : decode cX6_slotFor 14 = .ok (.iload 5, 2) := by decide +kernel
theorem dX6_slotFor_16 : decode cX6_slotFor 16 = .ok (.iconst 2, 1) := by decide +kernel
theorem dX6_slotFor_17 : decode cX6_slotFor 17 = .ok (.iload_n 2, 1) := by decide +kernel
theorem dX6_slotFor_18 : decode cX6_slotFor 18 = .ok (.imul, 1) := by decide +kernel
theorem dX6_slotFor_19 : decode cX6_slotFor 19 = .ok (.if_icmp .lt 61, 3) := by decide +kernel
theorem dX6_slotFor_22 : decode cX6_slotFor 22 = .ok (.aload_n 0, 1) := by decide +kernel
theorem dX6_slotFor_23 : decode cX6_slotFor 23 = .ok (.getfield 39, 3) := by decide +kernel
theorem dX6_slotFor_26 : decode cX6_slotFor 26 = .ok (.iload 5, 2) := by decide +kernel
theorem dX6_slotFor_28 : decode cX6_slotFor 28 = .ok (.iaload, 1) := by decide +kernel
theorem dX6_slotFor_29 : decode cX6_slotFor 29 = .ok (.iload_n 1, 1) := by decide +kernel
theorem dX6_slotFor_30 : decode cX6_slotFor 30 = .ok (.if_icmp .ne 8, 3) := by decide +kernel
theorem dX6_slotFor_33 : decode cX6_slotFor 33 = .ok (.iload 5, 2) := by decide +kernel
theorem dX6_slotFor_35 : decode cX6_slotFor 35 = .ok (.goto 4, 3) := by decide +kernel
theorem dX6_slotFor_38 : decode cX6_slotFor 38 = .ok (.iload_n 3, 1) := by decide +kernel
theorem dX6_slotFor_39 : decode cX6_slotFor 39 = .ok (.istore_n 3, 1) := by decide +kernel
theorem dX6_slotFor_40 : decode cX6_slotFor 40 = .ok (.aload_n 0, 1) := by decide +kernel
theorem dX6_slotFor_41 : decode cX6_slotFor 41 = .ok (.getfield 39, 3) := by decide +kernel
theorem dX6_slotFor_44 : decode cX6_slotFor 44 = .ok (.iload 5, 2) := by decide +kernel
theorem dX6_slotFor_46 : decode cX6_slotFor 46 = .ok (.iaload, 1) := by decide +kernel
theorem dX6_slotFor_47 : decode cX6_slotFor 47 = .ok (.iconst (-1), 1) := by decide +kernel
theorem dX6_slotFor_48 : decode cX6_slotFor 48 = .ok (.if_icmp .eq 17, 3) := by decide +kernel
theorem dX6_slotFor_51 : decode cX6_slotFor 51 = .ok (.aload_n 0, 1) := by decide +kernel
theorem dX6_slotFor_52 : decode cX6_slotFor 52 = .ok (.aload_n 0, 1) := by decide +kernel
theorem dX6_slotFor_53 : decode cX6_slotFor 53 = .ok (.getfield 39, 3) := by decide +kernel
theorem dX6_slotFor_56 : decode cX6_slotFor 56 = .ok (.iload 5, 2) := by decide +kernel
theorem dX6_slotFor_58 : decode cX6_slotFor 58 = .ok (.iaload, 1) := by decide +kernel
theorem dX6_slotFor_59 : decode cX6_slotFor 59 = .ok (.invokevirtual 68, 3) := by decide +kernel
theorem dX6_slotFor_62 : decode cX6_slotFor 62 = .ok (.ifCond .ne 8, 3) := by decide +kernel
theorem dX6_slotFor_65 : decode cX6_slotFor 65 = .ok (.iload 5, 2) := by decide +kernel
theorem dX6_slotFor_67 : decode cX6_slotFor 67 = .ok (.goto 5, 3) := by decide +kernel
theorem dX6_slotFor_70 : decode cX6_slotFor 70 = .ok (.iload 4, 2) := by decide +kernel
theorem dX6_slotFor_72 : decode cX6_slotFor 72 = .ok (.istore 4, 2) := by decide +kernel
theorem dX6_slotFor_74 : decode cX6_slotFor 74 = .ok (.iinc 5 (-1), 3) := by decide +kernel
theorem dX6_slotFor_77 : decode cX6_slotFor 77 = .ok (.goto (-63), 3) := by decide +kernel
theorem dX6_slotFor_80 : decode cX6_slotFor 80 = .ok (.iload_n 3, 1) := by decide +kernel
theorem dX6_slotFor_81 : decode cX6_slotFor 81 = .ok (.iconst (-1), 1) := by decide +kernel
theorem dX6_slotFor_82 : decode cX6_slotFor 82 = .ok (.if_icmp .ne 8, 3) := by decide +kernel
theorem dX6_slotFor_85 : decode cX6_slotFor 85 = .ok (.iload 4, 2) := by decide +kernel
theorem dX6_slotFor_87 : decode cX6_slotFor 87 = .ok (.goto 4, 3) := by decide +kernel
theorem dX6_slotFor_90 : decode cX6_slotFor 90 = .ok (.iload_n 3, 1) := by decide +kernel
theorem dX6_slotFor_91 : decode cX6_slotFor 91 = .ok (.ireturn, 1) := by decide +kernel
set_option maxRecDepth 20000 in
theorem ggX6_hasSpace_X6_isActive : GoodIn wsX6_hasSpace wsX6_isActive := goodIn_r _ [9, 10, 11, 12, 13, 14, 15, 16, 17, 18, 19, 20, 21, 22, 23, 24, 25, 26, 27, 28] (by decide +kernel) (by decide +kernel)
set_option maxRecDepth 20000 in
theorem gX6_hasSpace_X6_isActive : GoodIn wsX6_hasSpace (wsV RX6 68 RX6 yX6_isActive wsX6_isActive) := goodIn_app (goodIn_of _ (by decide +kernel)) ggX6_hasSpace_X6_isActive
theorem dX6_hasSpace_0 : decode cX6_hasSpace 0 = .ok (.aload_n 0, 1) := by decide +kernel
theorem dX6_hasSpace_1 : decode cX6_hasSpace 1 = .ok (.getfield 55, 3) := by decide +kernel
theorem dX6_hasSpace_4 : decode cX6_hasSpace 4 = .ok (.aload_n 0, 1) := by decide +kernel
theorem dX6_hasSpace_5 : decode cX6_hasSpace 5 = .ok (.getfield 58, 3) := by decide +kernel
theorem dX6_hasSpace_8 : decode cX6_hasSpace 8 = .ok (.isub, 1) := by decide +kernel
theorem dX6_hasSpace_9 : decode cX6_hasSpace 9 = .ok (.aload_n 0, 1) := by decide +kernel
theorem dX6_hasSpace_10 : decode cX6_hasSpace 10 = .ok (.getfield 13, 3) := by decide +kernel
theorem dX6_hasSpace_13 : decode cX6_hasSpace 13 = .ok (.if_icmp .lt 19, 3) := by decide +kernel
theorem dX6_hasSpace_16 : decode cX6_hasSpace 16 = .ok (.aload_n 0, 1) := by decide +kernel
theorem dX6_hasSpace_17 : decode cX6_hasSpace 17 = .ok (.aload_n 0, 1) := by decide +kernel
theorem dX6_hasSpace_18 : decode cX6_hasSpace 18 = .ok (.getfield 26, 3) := by decide +kernel
theorem dX6_hasSpace_21 : decode cX6_hasSpace 21 = .ok (.aload_n 0, 1) := by decide +kernel
theorem dX6_hasSpace_22 : decode cX6_hasSpace 22 = .ok (.getfield 58, 3) := by decide +kernel
theorem dX6_hasSpace_25 : decode cX6_hasSpace 25 = .ok (.iaload, 1) := by decide +kernel
theorem dX6_hasSpace_26 : decode cX6_hasSpace 26 = .ok (.invokevirtual 68, 3) := by decide +kernel
theorem dX6_hasSpace_29 : decode cX6_hasSpace 29 = .ok (.ifCond .ne 7, 3) := by decide +kernel
theorem dX6_hasSpace_32 : decode cX6_hasSpace 32 = .ok (.iconst 1, 1) := by decide +kernel
theorem dX6_hasSpace_33 : decode cX6_hasSpace 33 = .ok (.goto 4, 3) := by decide +kernel
theorem dX6_hasSpace_36 : decode cX6_hasSpace 36 = .ok (.iconst 0, 1) := by decide +kernel
theorem dX6_hasSpace_37 : decode cX6_hasSpace 37 = .ok (.ireturn, 1) := by decide +kernel
set_option maxRecDepth 20000 in
theorem ggX6_write_X6_isTransaction : GoodIn wsX6_write wsX6_isTransaction := goodIn_r _ [16, 17, 18, 19, 15, 20, 52, 53, 54, 55, 56, 57, 58, 59, 60, 61, 62, 63, 64, 65, 66, 67, 68, 69] (by decide +kernel) (by decide +kernel)
set_option maxRecDepth 20000 in
theorem gX6_write_X6_isTransaction : GoodIn wsX6_write (wsV RX6 74 RX6 yX6_isTransaction wsX6_isTransaction) := goodIn_app (goodIn_of _ (by decide +kernel)) ggX6_write_X6_isTransaction
set_option maxRecDepth 20000 in
theorem ggX6_write_X6_isRow : GoodIn wsX6_write wsX6_isRow := goodIn_r _ [23, 18, 19, 15, 20] (by decide +kernel) (by decide +kernel)
set_option maxRecDepth 20000 in
theorem gX6_write_X6_isRow : GoodIn wsX6_write (va_wsS RX6 77 yX6_isRow wsX6_isRow) := goodIn_app (goodIn_of _ (by decide +kernel)) ggX6_write_X6_isRow
set_option maxRecDepth 20000 in
theorem ggX6_write_X6_isIn : GoodIn wsX6_write wsX6_isIn := goodIn_r _ [20] (by decide +kernel) (by decide +kernel)
set_option maxRecDepth 20000 in
theorem gX6_write_X6_isIn : GoodIn wsX6_write (va_wsS RX6 48 yX6_isIn wsX6_isIn) := goodIn_app (goodIn_of _ (by decide +kernel)) ggX6_write_X6_isIn
set_option maxRecDepth 20000 in
theorem ggX6_write_X6_isActive : GoodIn wsX6_write wsX6_isActive := goodIn_r _ [27, 28, 52, 53, 54, 55, 56, 57, 58, 59, 60, 61, 62, 63, 64, 65, 66, 67, 68, 69] (by decide +kernel) (by decide +kernel)
set_option maxRecDepth 20000 in
theorem gX6_write_X6_isActive : GoodIn wsX6_write (wsV RX6 68 RX6 yX6_isActive wsX6_isActive) := goodIn_app (goodIn_of _ (by decide +kernel)) ggX6_write_X6_isActive
set_option maxRecDepth 20000 in
theorem ggX6_write_X6_lockOn : GoodIn wsX6_write wsX6_lockOn := goodIn_r _ [32, 7, 10, 33, 9, 24, 25, 26, 15, 27, 28, 52, 53, 54, 55, 56, 57, 58, 59, 60, 61, 62, 63, 64, 65, 66, 67, 68, 69] (by decide +kernel) (by decide +kernel)
set_option maxRecDepth 20000 in
theorem gX6_write_X6_lockOn : GoodIn wsX6_write (wsV RX6 82 RX6 yX6_lockOn wsX6_lockOn) := goodIn_app (goodIn_of _ (by decide +kernel)) ggX6_write_X6_lockOn
set_option maxRecDepth 20000 in
theorem ggX6_write_X6_slotFor : GoodIn wsX6_write wsX6_slotFor := goodIn_r _ [37, 4, 24, 25, 26, 15, 27, 28, 52, 53, 54, 55, 56, 57, 58, 59, 60, 61, 62, 63, 64, 65, 66, 67, 68, 69] (by decide +kernel) (by decide +kernel)
set_option maxRecDepth 20000 in
theorem gX6_write_X6_slotFor : GoodIn wsX6_write (wsV RX6 86 RX6 yX6_slotFor wsX6_slotFor) := goodIn_app (goodIn_of _ (by decide +kernel)) ggX6_write_X6_slotFor
set_option maxRecDepth 20000 in
theorem ggX6_write_X6_hasSpace : GoodIn wsX6_write wsX6_hasSpace := goodIn_r _ [41, 7, 6, 8, 9, 24, 25, 26, 15, 27, 28, 52, 53, 54, 55, 56, 57, 58, 59, 60, 61, 62, 63, 64, 65, 66, 67, 68, 69] (by decide +kernel) (by decide +kernel)
set_option maxRecDepth 20000 in
theorem gX6_write_X6_hasSpace : GoodIn wsX6_write (wsV RX6 90 RX6 yX6_hasSpace wsX6_hasSpace) := goodIn_app (goodIn_of _ (by decide +kernel)) ggX6_write_X6_hasSpace
set_option maxRecDepth 20000 in
theorem ggX6_write_X6_can : GoodIn wsX6_write wsX6_can := goodIn_r _ [45, 46, 52, 53, 54, 55, 56, 57, 58, 59, 60, 61, 62, 63, 64, 65, 66, 67, 68, 69] (by decide +kernel) (by decide +kernel)
set_option maxRecDepth 20000 in
theorem gX6_write_X6_can : GoodIn wsX6_write (wsV RX6 61 RX6 yX6_can wsX6_can) := goodIn_app (goodIn_of _ (by decide +kernel)) ggX6_write_X6_can
set_option maxRecDepth 20000 in
theorem ggX6_write_X6_cleans : GoodIn wsX6_write wsX6_cleans := goodIn_r _ [50, 4, 5, 51, 24, 25, 26, 15, 27, 28, 52, 53, 54, 55, 56, 57, 58, 59, 60, 61, 62, 63, 64, 65, 66, 67, 68, 69] (by decide +kernel) (by decide +kernel)
set_option maxRecDepth 20000 in
theorem gX6_write_X6_cleans : GoodIn wsX6_write (wsV RX6 94 RX6 yX6_cleans wsX6_cleans) := goodIn_app (goodIn_of _ (by decide +kernel)) ggX6_write_X6_cleans
theorem dX6_write_0 : decode cX6_write 0 = .ok (.aload_n 0, 1) := by decide +kernel
theorem dX6_write_1 : decode cX6_write 1 = .ok (.iload_n 1, 1) := by decide +kernel
theorem dX6_write_2 : decode cX6_write 2 = .ok (.invokevirtual 74, 3) := by decide +kernel
theorem dX6_write_5 : decode cX6_write 5 = .ok (.ifCond .eq 14, 3) := by decide +kernel
theorem dX6_write_8 : decode cX6_write 8 = .ok (.iload_n 2, 1) := by decide +kernel
theorem dX6_write_9 : decode cX6_write 9 = .ok (.invokestatic 77, 3) := by decide +kernel
theorem dX6_write_12 : decode cX6_write 12 = .ok (.ifCond .eq 7, 3) := by decide +kernel
theorem dX6_write_15 : decode cX6_write 15 = .ok (.iconst 1, 1) := by decide +kernel
theorem dX6_write_16 : decode cX6_write 16 = .ok (.goto 4, 3) := by decide +kernel
theorem dX6_write_19 : decode cX6_write 19 = .ok (.iconst 0, 1) := by decide +kernel
theorem dX6_write_20 : decode cX6_write 20 = .ok (.istore 4, 2) := by decide +kernel
theorem dX6_write_22 : decode cX6_write 22 = .ok (.iload_n 3, 1) := by decide +kernel
theorem dX6_write_23 : decode cX6_write 23 = .ok (.ldc 80, 2) := by decide +kernel
theorem dX6_write_25 : decode cX6_write 25 = .ok (.ldc 81, 2) := by decide +kernel
theorem dX6_write_27 : decode cX6_write 27 = .ok (.invokestatic 48, 3) := by decide +kernel
theorem dX6_write_30 : decode cX6_write 30 = .ok (.istore 5, 2) := by decide +kernel
theorem dX6_write_32 : decode cX6_write 32 = .ok (.iload 4, 2) := by decide +kernel
theorem dX6_write_34 : decode cX6_write 34 = .ok (.ifCond .eq 20, 3) := by decide +kernel
theorem dX6_write_37 : decode cX6_write 37 = .ok (.iload 5, 2) := by decide +kernel
theorem dX6_write_39 : decode cX6_write 39 = .ok (.ifCond .eq 15, 3) := by decide +kernel
theorem dX6_write_42 : decode cX6_write 42 = .ok (.aload_n 0, 1) := by decide +kernel
theorem dX6_write_43 : decode cX6_write 43 = .ok (.iload_n 1, 1) := by decide +kernel
theorem dX6_write_44 : decode cX6_write 44 = .ok (.invokevirtual 68, 3) := by decide +kernel
theorem dX6_write_47 : decode cX6_write 47 = .ok (.ifCond .eq 7, 3) := by decide +kernel
theorem dX6_write_50 : decode cX6_write 50 = .ok (.iconst 1, 1) := by decide +kernel
theorem dX6_write_51 : decode cX6_write 51 = .ok (.goto 4, 3) := by decide +kernel
theorem dX6_write_54 : decode cX6_write 54 = .ok (.iconst 0, 1) := by decide +kernel
theorem dX6_write_55 : decode cX6_write 55 = .ok (.istore 6, 2) := by decide +kernel
theorem dX6_write_57 : decode cX6_write 57 = .ok (.iload 6, 2) := by decide +kernel
theorem dX6_write_59 : decode cX6_write 59 = .ok (.ifCond .eq 11, 3) := by decide +kernel
theorem dX6_write_62 : decode cX6_write 62 = .ok (.aload_n 0, 1) := by decide +kernel
theorem dX6_write_63 : decode cX6_write 63 = .ok (.iload_n 2, 1) := by decide +kernel
theorem dX6_write_64 : decode cX6_write 64 = .ok (.invokevirtual 82, 3) := by decide +kernel
theorem dX6_write_67 : decode cX6_write 67 = .ok (.goto 4, 3) := by decide +kernel
theorem dX6_write_70 : decode cX6_write 70 = .ok (.iconst (-1), 1) := by decide +kernel
theorem dX6_write_71 : decode cX6_write 71 = .ok (.istore 7, 2) := by decide +kernel
theorem dX6_write_73 : decode cX6_write 73 = .ok (.iload 6, 2) := by decide +kernel
theorem dX6_write_75 : decode cX6_write 75 = .ok (.ifCond .eq 38, 3) := by decide +kernel
theorem dX6_write_78 : decode cX6_write 78 = .ok (.iload 7, 2) := by decide +kernel
theorem dX6_write_80 : decode cX6_write 80 = .ok (.iconst (-1), 1) := by decide +kernel
theorem dX6_write_81 : decode cX6_write 81 = .ok (.if_icmp .eq 9, 3) := by decide +kernel
theorem dX6_write_84 : decode cX6_write 84 = .ok (.iload 7, 2) := by decide +kernel
theorem dX6_write_86 : decode cX6_write 86 = .ok (.iload_n 1, 1) := by decide +kernel
theorem dX6_write_87 : decode cX6_write 87 = .ok (.if_icmp .ne 26, 3) := by decide +kernel
theorem dX6_write_90 : decode cX6_write 90 = .ok (.aload_n 0, 1) := by decide +kernel
theorem dX6_write_91 : decode cX6_write 91 = .ok (.iload_n 1, 1) := by decide +kernel
theorem dX6_write_92 : decode cX6_write 92 = .ok (.iload_n 2, 1) := by decide +kernel
theorem dX6_write_93 : decode cX6_write 93 = .ok (.iconst 4, 1) := by decide +kernel
theorem dX6_write_94 : decode cX6_write 94 = .ok (.idiv, 1) := by decide +kernel
theorem dX6_write_95 : decode cX6_write 95 = .ok (.invokevirtual 86, 3) := by decide +kernel
theorem dX6_write_98 : decode cX6_write 98 = .ok (.iconst (-1), 1) := by decide +kernel
theorem dX6_write_99 : decode cX6_write 99 = .ok (.if_icmp .eq 14, 3) := by decide +kernel
theorem dX6_write_102 : decode cX6_write 102 = .ok (.aload_n 0, 1) := by decide +kernel
theorem dX6_write_103 : decode cX6_write 103 = .ok (.invokevirtual 90, 3) := by decide +kernel
theorem dX6_write_106 : decode cX6_write 106 = .ok (.ifCond .eq 7, 3) := by decide +kernel
theorem dX6_write_109 : decode cX6_write 109 = .ok (.iconst 1, 1) := by decide +kernel
theorem dX6_write_110 : decode cX6_write 110 = .ok (.goto 4, 3) := by decide +kernel
theorem dX6_write_113 : decode cX6_write 113 = .ok (.iconst 0, 1) := by decide +kernel
theorem dX6_write_114 : decode cX6_write 114 = .ok (.istore 6, 2) := by decide +kernel
theorem dX6_write_116 : decode cX6_write 116 = .ok (.aload_n 0, 1) := by decide +kernel
theorem dX6_write_117 : decode cX6_write 117 = .ok (.iload 4, 2) := by decide +kernel
theorem dX6_write_119 : decode cX6_write 119 = .ok (.ifCond .ne 7, 3) := by decide +kernel
theorem dX6_write_122 : decode cX6_write 122 = .ok (.iconst 1, 1) := by decide +kernel
theorem dX6_write_123 : decode cX6_write 123 = .ok (.goto 22, 3) := by decide +kernel
theorem dX6_write_126 : decode cX6_write 126 = .ok (.iload 5, 2) := by decide +kernel
theorem dX6_write_128 : decode cX6_write 128 = .ok (.ifCond .ne 7, 3) := by decide +kernel
theorem dX6_write_131 : decode cX6_write 131 = .ok (.iconst 2, 1) := by decide +kernel
theorem dX6_write_132 : decode cX6_write 132 = .ok (.goto 13, 3) := by decide +kernel
theorem dX6_write_135 : decode cX6_write 135 = .ok (.iload 6, 2) := by decide +kernel
theorem dX6_write_137 : decode cX6_write 137 = .ok (.ifCond .eq 7, 3) := by decide +kernel
theorem dX6_write_140 : decode cX6_write 140 = .ok (.iconst 0, 1) := by decide +kernel
theorem dX6_write_141 : decode cX6_write 141 = .ok (.goto 4, 3) := by decide +kernel
theorem dX6_write_144 : decode cX6_write 144 = .ok (.iconst 3, 1) := by decide +kernel
theorem dX6_write_145 : decode cX6_write 145 = .ok (.invokevirtual 61, 3) := by decide +kernel
theorem dX6_write_148 : decode cX6_write 148 = .ok (.ifCond .ne 5, 3) := by decide +kernel
theorem dX6_write_151 : decode cX6_write 151 = .ok (.iconst 0, 1) := by decide +kernel
theorem dX6_write_152 : decode cX6_write 152 = .ok (.ireturn, 1) := by decide +kernel
theorem dX6_write_153 : decode cX6_write 153 = .ok (.aload_n 0, 1) := by decide +kernel
theorem dX6_write_154 : decode cX6_write 154 = .ok (.getfield 7, 3) := by decide +kernel
theorem dX6_write_157 : decode cX6_write 157 = .ok (.iload_n 2, 1) := by decide +kernel
theorem dX6_write_158 : decode cX6_write 158 = .ok (.iaload, 1) := by decide +kernel
theorem dX6_write_159 : decode cX6_write 159 = .ok (.istore 8, 2) := by decide +kernel
theorem dX6_write_161 : decode cX6_write 161 = .ok (.aload_n 0, 1) := by decide +kernel
theorem dX6_write_162 : decode cX6_write 162 = .ok (.iload_n 1, 1) := by decide +kernel
theorem dX6_write_163 : decode cX6_write 163 = .ok (.iload_n 2, 1) := by decide +kernel
theorem dX6_write_164 : decode cX6_write 164 = .ok (.iconst 4, 1) := by decide +kernel
theorem dX6_write_165 : decode cX6_write 165 = .ok (.idiv, 1) := by decide +kernel
theorem dX6_write_166 : decode cX6_write 166 = .ok (.invokevirtual 86, 3) := by decide +kernel
theorem dX6_write_169 : decode cX6_write 169 = .ok (.istore 9, 2) := by decide +kernel
theorem dX6_write_171 : decode cX6_write 171 = .ok (.aload_n 0, 1) := by decide +kernel
theorem dX6_write_172 : decode cX6_write 172 = .ok (.iload_n 2, 1) := by decide +kernel
theorem dX6_write_173 : decode cX6_write 173 = .ok (.iconst 4, 1) := by decide +kernel
theorem dX6_write_174 : decode cX6_write 174 = .ok (.idiv, 1) := by decide +kernel
theorem dX6_write_175 : decode cX6_write 175 = .ok (.invokevirtual 94, 3) := by decide +kernel
theorem dX6_write_178 : decode cX6_write 178 = .ok (.aload_n 0, 1) := by decide +kernel
theorem dX6_write_179 : decode cX6_write 179 = .ok (.getfield 39, 3) := by decide +kernel
theorem dX6_write_182 : decode cX6_write 182 = .ok (.iload 9, 2) := by decide +kernel
theorem dX6_write_184 : decode cX6_write 184 = .ok (.iload_n 1, 1) := by decide +kernel
theorem dX6_write_185 : decode cX6_write 185 = .ok (.iastore, 1) := by decide +kernel
theorem dX6_write_186 : decode cX6_write 186 = .ok (.aload_n 0, 1) := by decide +kernel
theorem dX6_write_187 : decode cX6_write 187 = .ok (.getfield 42, 3) := by decide +kernel
theorem dX6_write_190 : decode cX6_write 190 = .ok (.iload 9, 2) := by decide +kernel
theorem dX6_write_192 : decode cX6_write 192 = .ok (.iconst 0, 1) := by decide +kernel
theorem dX6_write_193 : decode cX6_write 193 = .ok (.bastore, 1) := by decide +kernel
theorem dX6_write_194 : decode cX6_write 194 = .ok (.aload_n 0, 1) := by decide +kernel
theorem dX6_write_195 : decode cX6_write 195 = .ok (.dup, 1) := by decide +kernel
theorem dX6_write_196 : decode cX6_write 196 = .ok (.getfield 58, 3) := by decide +kernel
theorem dX6_write_199 : decode cX6_write 199 = .ok (.aload_n 0, 1) := by decide +kernel
theorem dX6_write_200 : decode cX6_write 200 = .ok (.getfield 55, 3) := by decide +kernel
theorem dX6_write_203 : decode cX6_write 203 = .ok (.aload_n 0, 1) := by decide +kernel
theorem dX6_write_204 : decode cX6_write 204 = .ok (.getfield 58, 3) := by decide +kernel
theorem dX6_write_207 : decode cX6_write 207 = .ok (.isub, 1) := by decide +kernel
theorem dX6_write_208 : decode cX6_write 208 = .ok (.aload_n 0, 1) := by decide +kernel
theorem dX6_write_209 : decode cX6_write 209 = .ok (.getfield 13, 3) := by decide +kernel
theorem dX6_write_212 : decode cX6_write 212 = .ok (.if_icmp .ne 7, 3) := by decide +kernel
theorem dX6_write_215 : decode cX6_write 215 = .ok (.iconst 1, 1) := by decide +kernel
theorem dX6_write_216 : decode cX6_write 216 = .ok (.goto 4, 3) := by decide +kernel
theorem dX6_write_219 : decode cX6_write 219 = .ok (.iconst 0, 1) := by decide +kernel
theorem dX6_write_220 : decode cX6_write 220 = .ok (.iadd, 1) := by decide +kernel
theorem dX6_write_221 : decode cX6_write 221 = .ok (.putfield 58, 3) := by decide +kernel
theorem dX6_write_224 : decode cX6_write 224 = .ok (.aload_n 0, 1) := by decide +kernel
theorem dX6_write_225 : decode cX6_write 225 = .ok (.getfield 26, 3) := by decide +kernel
theorem dX6_write_228 : decode cX6_write 228 = .ok (.aload_n 0, 1) := by decide +kernel
theorem dX6_write_229 : decode cX6_write 229 = .ok (.getfield 55, 3) := by decide +kernel
theorem dX6_write_232 : decode cX6_write 232 = .ok (.iload_n 1, 1) := by decide +kernel
theorem dX6_write_233 : decode cX6_write 233 = .ok (.iastore, 1) := by decide +kernel
theorem dX6_write_234 : decode cX6_write 234 = .ok (.aload_n 0, 1) := by decide +kernel
theorem dX6_write_235 : decode cX6_write 235 = .ok (.getfield 29, 3) := by decide +kernel
theorem dX6_write_238 : decode cX6_write 238 = .ok (.aload_n 0, 1) := by decide +kernel
theorem dX6_write_239 : decode cX6_write 239 = .ok (.getfield 55, 3) := by decide +kernel
theorem dX6_write_242 : decode cX6_write 242 = .ok (.iload_n 2, 1) := by decide +kernel
theorem dX6_write_243 : decode cX6_write 243 = .ok (.iastore, 1) := by decide +kernel
theorem dX6_write_244 : decode cX6_write 244 = .ok (.aload_n 0, 1) := by decide +kernel
theorem dX6_write_245 : decode cX6_write 245 = .ok (.getfield 32, 3) := by decide +kernel
theorem dX6_write_248 : decode cX6_write 248 = .ok (.aload_n 0, 1) := by decide +kernel
theorem dX6_write_249 : decode cX6_write 249 = .ok (.getfield 55, 3) := by decide +kernel
theorem dX6_write_252 : decode cX6_write 252 = .ok (.iload 8, 2) := by decide +kernel
theorem dX6_write_254 : decode cX6_write 254 = .ok (.iastore, 1) := by decide +kernel
theorem dX6_write_255 : decode cX6_write 255 = .ok (.aload_n 0, 1) := by decide +kernel
theorem dX6_write_256 : decode cX6_write 256 = .ok (.dup, 1) := by decide +kernel
theorem dX6_write_257 : decode cX6_write 257 = .ok (.getfield 55, 3) := by decide +kernel
theorem dX6_write_260 : decode cX6_write 260 = .ok (.iconst 1, 1) := by decide +kernel
theorem dX6_write_261 : decode cX6_write 261 = .ok (.iadd, 1) := by decide +kernel
theorem dX6_write_262 : decode cX6_write 262 = .ok (.putfield 55, 3) := by decide +kernel
theorem dX6_write_265 : decode cX6_write 265 = .ok (.aload_n 0, 1) := by decide +kernel
theorem dX6_write_266 : decode cX6_write 266 = .ok (.getfield 7, 3) := by decide +kernel
theorem dX6_write_269 : decode cX6_write 269 = .ok (.iload_n 2, 1) := by decide +kernel
theorem dX6_write_270 : decode cX6_write 270 = .ok (.iload_n 3, 1) := by decide +kernel
theorem dX6_write_271 : decode cX6_write 271 = .ok (.iastore, 1) := by decide +kernel
theorem dX6_write_272 : decode cX6_write 272 = .ok (.iload 8, 2) := by decide +kernel
theorem dX6_write_274 : decode cX6_write 274 = .ok (.ireturn, 1) := by decide +kernel
theorem dX6_valueAt_0 : decode cX6_valueAt 0 = .ok (.aload_n 0, 1) := by decide +kernel
theorem dX6_valueAt_1 : decode cX6_valueAt 1 = .ok (.getfield 7, 3) := by decide +kernel
theorem dX6_valueAt_4 : decode cX6_valueAt 4 = .ok (.iload_n 2, 1) := by decide +kernel
theorem dX6_valueAt_5 : decode cX6_valueAt 5 = .ok (.iaload, 1) := by decide +kernel
theorem dX6_valueAt_6 : decode cX6_valueAt 6 = .ok (.istore 4, 2) := by decide +kernel
theorem dX6_valueAt_8 : decode cX6_valueAt 8 = .ok (.aload_n 0, 1) := by decide +kernel
theorem dX6_valueAt_9 : decode cX6_valueAt 9 = .ok (.iconst 0, 1) := by decide +kernel
theorem dX6_valueAt_10 : decode cX6_valueAt 10 = .ok (.putfield 98, 3) := by decide +kernel
theorem dX6_valueAt_13 : decode cX6_valueAt 13 = .ok (.iconst 1, 1) := by decide +kernel
theorem dX6_valueAt_14 : decode cX6_valueAt 14 = .ok (.istore 5, 2) := by decide +kernel
theorem dX6_valueAt_16 : decode cX6_valueAt 16 = .ok (.aload_n 0, 1) := by decide +kernel
theorem dX6_valueAt_17 : decode cX6_valueAt 17 = .ok (.getfield 55, 3) := by decide +kernel
theorem dX6_valueAt_20 : decode cX6_valueAt 20 = .ok (.iconst 1, 1) := by decide +kernel
theorem dX6_valueAt_21 : decode cX6_valueAt 21 = .ok (.isub, 1) := by decide +kernel
theorem dX6_valueAt_22 : decode cX6_valueAt 22 = .ok (.istore 6, 2) := by decide +kernel
theorem dX6_valueAt_24 : decode cX6_valueAt 24 = .ok (.iload 6, 2) := by decide +kernel
theorem dX6_valueAt_26 : decode cX6_valueAt 26 = .ok (.ifCond .lt 134, 3) := by decide +kernel
theorem dX6_valueAt_29 : decode cX6_valueAt 29 = .ok (.iload 5, 2) := by decide +kernel
theorem dX6_valueAt_31 : decode cX6_valueAt 31 = .ok (.ifCond .eq 129, 3) := by decide +kernel
theorem dX6_valueAt_34 : decode cX6_valueAt 34 = .ok (.aload_n 0, 1) := by decide +kernel
theorem dX6_valueAt_35 : decode cX6_valueAt 35 = .ok (.getfield 29, 3) := by decide +kernel
theorem dX6_valueAt_38 : decode cX6_valueAt 38 = .ok (.iload 6, 2) := by decide +kernel
theorem dX6_valueAt_40 : decode cX6_valueAt 40 = .ok (.iaload, 1) := by decide +kernel
theorem dX6_valueAt_41 : decode cX6_valueAt 41 = .ok (.iload_n 2, 1) := by decide +kernel
theorem dX6_valueAt_42 : decode cX6_valueAt 42 = .ok (.if_icmp .ne 112, 3) := by decide +kernel
theorem dX6_valueAt_45 : decode cX6_valueAt 45 = .ok (.aload_n 0, 1) := by decide +kernel
theorem dX6_valueAt_46 : decode cX6_valueAt 46 = .ok (.getfield 35, 3) := by decide +kernel
theorem dX6_valueAt_49 : decode cX6_valueAt 49 = .ok (.iload 6, 2) := by decide +kernel
theorem dX6_valueAt_51 : decode cX6_valueAt 51 = .ok (.baload, 1) := by decide +kernel
theorem dX6_valueAt_52 : decode cX6_valueAt 52 = .ok (.ifCond .ne 102, 3) := by decide +kernel
theorem dX6_valueAt_55 : decode cX6_valueAt 55 = .ok (.aload_n 0, 1) := by decide +kernel
theorem dX6_valueAt_56 : decode cX6_valueAt 56 = .ok (.getfield 26, 3) := by decide +kernel
theorem dX6_valueAt_59 : decode cX6_valueAt 59 = .ok (.iload 6, 2) := by decide +kernel
theorem dX6_valueAt_61 : decode cX6_valueAt 61 = .ok (.iaload, 1) := by decide +kernel
theorem dX6_valueAt_62 : decode cX6_valueAt 62 = .ok (.iload_n 3, 1) := by decide +kernel
theorem dX6_valueAt_63 : decode cX6_valueAt 63 = .ok (.if_icmp .eq 39, 3) := by decide +kernel
theorem dX6_valueAt_66 : decode cX6_valueAt 66 = .ok (.aload_n 0, 1) := by decide +kernel
theorem dX6_valueAt_67 : decode cX6_valueAt 67 = .ok (.getfield 17, 3) := by decide +kernel
theorem dX6_valueAt_70 : decode cX6_valueAt 70 = .ok (.aload_n 0, 1) := by decide +kernel
theorem dX6_valueAt_71 : decode cX6_valueAt 71 = .ok (.getfield 26, 3) := by decide +kernel
theorem dX6_valueAt_74 : decode cX6_valueAt 74 = .ok (.iload 6, 2) := by decide +kernel
theorem dX6_valueAt_76 : decode cX6_valueAt 76 = .ok (.iaload, 1) := by decide +kernel
theorem dX6_valueAt_77 : decode cX6_valueAt 77 = .ok (.iaload, 1) := by decide +kernel
theorem dX6_valueAt_78 : decode cX6_valueAt 78 = .ok (.iconst 1, 1) := by decide +kernel
theorem dX6_valueAt_79 : decode cX6_valueAt 79 = .ok (.if_icmp .ne 19, 3) := by decide +kernel
theorem dX6_valueAt_82 : decode cX6_valueAt 82 = .ok (.aload_n 0, 1) := by decide +kernel
theorem dX6_valueAt_83 : decode cX6_valueAt 83 = .ok (.getfield 23, 3) := by decide +kernel
theorem dX6_valueAt_86 : decode cX6_valueAt 86 = .ok (.aload_n 0, 1) := by decide +kernel
theorem dX6_valueAt_87 : decode cX6_valueAt 87 = .ok (.getfield 26, 3) := by decide +kernel
theorem dX6_valueAt_90 : decode cX6_valueAt 90 = .ok (.iload 6, 2) := by decide +kernel
theorem dX6_valueAt_92 : decode cX6_valueAt 92 = .ok (.iaload, 1) := by decide +kernel
theorem dX6_valueAt_93 : decode cX6_valueAt 93 = .ok (.iaload, 1) := by decide +kernel
theorem dX6_valueAt_94 : decode cX6_valueAt 94 = .ok (.iload_n 1, 1) := by decide +kernel
theorem dX6_valueAt_95 : decode cX6_valueAt 95 = .ok (.if_icmp .le 7, 3) := by decide +kernel
theorem dX6_valueAt_98 : decode cX6_valueAt 98 = .ok (.iconst 1, 1) := by decide +kernel
theorem dX6_valueAt_99 : decode cX6_valueAt 99 = .ok (.goto 4, 3) := by decide +kernel
theorem dX6_valueAt_102 : decode cX6_valueAt 102 = .ok (.iconst 0, 1) := by decide +kernel
theorem dX6_valueAt_103 : decode cX6_valueAt 103 = .ok (.istore 5, 2) := by decide +kernel
theorem dX6_valueAt_105 : decode cX6_valueAt 105 = .ok (.iload 5, 2) := by decide +kernel
theorem dX6_valueAt_107 : decode cX6_valueAt 107 = .ok (.ifCond .eq 13, 3) := by decide +kernel
theorem dX6_valueAt_110 : decode cX6_valueAt 110 = .ok (.aload_n 0, 1) := by decide +kernel
theorem dX6_valueAt_111 : decode cX6_valueAt 111 = .ok (.getfield 32, 3) := by decide +kernel
theorem dX6_valueAt_114 : decode cX6_valueAt 114 = .ok (.iload 6, 2) := by decide +kernel
theorem dX6_valueAt_116 : decode cX6_valueAt 116 = .ok (.iaload, 1) := by decide +kernel
theorem dX6_valueAt_117 : decode cX6_valueAt 117 = .ok (.goto 5, 3) := by decide +kernel
theorem dX6_valueAt_120 : decode cX6_valueAt 120 = .ok (.iload 4, 2) := by decide +kernel
theorem dX6_valueAt_122 : decode cX6_valueAt 122 = .ok (.istore 4, 2) := by decide +kernel
theorem dX6_valueAt_124 : decode cX6_valueAt 124 = .ok (.aload_n 0, 1) := by decide +kernel
theorem dX6_valueAt_125 : decode cX6_valueAt 125 = .ok (.aload_n 0, 1) := by decide +kernel
theorem dX6_valueAt_126 : decode cX6_valueAt 126 = .ok (.getfield 98, 3) := by decide +kernel
theorem dX6_valueAt_129 : decode cX6_valueAt 129 = .ok (.ifCond .ne 17, 3) := by decide +kernel
theorem dX6_valueAt_132 : decode cX6_valueAt 132 = .ok (.iload 5, 2) := by decide +kernel
theorem dX6_valueAt_134 : decode cX6_valueAt 134 = .ok (.ifCond .eq 16, 3) := by decide +kernel
theorem dX6_valueAt_137 : decode cX6_valueAt 137 = .ok (.iload 6, 2) := by decide +kernel
theorem dX6_valueAt_139 : decode cX6_valueAt 139 = .ok (.aload_n 0, 1) := by decide +kernel
theorem dX6_valueAt_140 : decode cX6_valueAt 140 = .ok (.getfield 58, 3) := by decide +kernel
theorem dX6_valueAt_143 : decode cX6_valueAt 143 = .ok (.if_icmp .ge 7, 3) := by decide +kernel
theorem dX6_valueAt_146 : decode cX6_valueAt 146 = .ok (.iconst 1, 1) := by decide +kernel
theorem dX6_valueAt_147 : decode cX6_valueAt 147 = .ok (.goto 4, 3) := by decide +kernel
theorem dX6_valueAt_150 : decode cX6_valueAt 150 = .ok (.iconst 0, 1) := by decide +kernel
theorem dX6_valueAt_151 : decode cX6_valueAt 151 = .ok (.putfield 98, 3) := by decide +kernel
theorem dX6_valueAt_154 : decode cX6_valueAt 154 = .ok (.iinc 6 (-1), 3) := by decide +kernel
theorem dX6_valueAt_157 : decode cX6_valueAt 157 = .ok (.goto (-133), 3) := by decide +kernel
theorem dX6_valueAt_160 : decode cX6_valueAt 160 = .ok (.iload 4, 2) := by decide +kernel
theorem dX6_valueAt_162 : decode cX6_valueAt 162 = .ok (.ireturn, 1) := by decide +kernel
set_option maxRecDepth 20000 in
theorem ggX6_read_X6_isTransaction : GoodIn wsX6_read wsX6_isTransaction := goodIn_r _ [7, 8, 9, 10, 6, 11, 44, 45, 46, 47, 48, 49, 50, 51, 52, 53, 54, 55, 56, 57, 58, 59, 60, 61] (by decide +kernel) (by decide +kernel)
set_option maxRecDepth 20000 in
theorem gX6_read_X6_isTransaction : GoodIn wsX6_read (wsV RX6 74 RX6 yX6_isTransaction wsX6_isTransaction) := goodIn_app (goodIn_of _ (by decide +kernel)) ggX6_read_X6_isTransaction
set_option maxRecDepth 20000 in
theorem ggX6_read_X6_isRow : GoodIn wsX6_read wsX6_isRow := goodIn_r _ [14, 9, 10, 6, 11] (by decide +kernel) (by decide +kernel)
set_option maxRecDepth 20000 in
theorem gX6_read_X6_isRow : GoodIn wsX6_read (va_wsS RX6 77 yX6_isRow wsX6_isRow) := goodIn_app (goodIn_of _ (by decide +kernel)) ggX6_read_X6_isRow
set_option maxRecDepth 20000 in
theorem ggX6_read_X6_isActive : GoodIn wsX6_read wsX6_isActive := goodIn_r _ [18, 19, 44, 45, 46, 47, 48, 49, 50, 51, 52, 53, 54, 55, 56, 57, 58, 59, 60, 61] (by decide +kernel) (by decide +kernel)
set_option maxRecDepth 20000 in
theorem gX6_read_X6_isActive : GoodIn wsX6_read (wsV RX6 68 RX6 yX6_isActive wsX6_isActive) := goodIn_app (goodIn_of _ (by decide +kernel)) ggX6_read_X6_isActive
set_option maxRecDepth 20000 in
theorem ggX6_read_X6_can : GoodIn wsX6_read wsX6_can := goodIn_r _ [23, 24, 44, 45, 46, 47, 48, 49, 50, 51, 52, 53, 54, 55, 56, 57, 58, 59, 60, 61] (by decide +kernel) (by decide +kernel)
set_option maxRecDepth 20000 in
theorem gX6_read_X6_can : GoodIn wsX6_read (wsV RX6 61 RX6 yX6_can wsX6_can) := goodIn_app (goodIn_of _ (by decide +kernel)) ggX6_read_X6_can
set_option maxRecDepth 20000 in
theorem ggX6_read_X6_valueAt : GoodIn wsX6_read wsX6_valueAt := goodIn_r _ [28, 29, 2, 30, 31, 32, 33, 19, 34, 35, 36, 44, 45, 46, 47, 48, 49, 50, 51, 52, 53, 54, 55, 56, 57, 58, 59, 60, 61] (by decide +kernel) (by decide +kernel)
set_option maxRecDepth 20000 in
theorem gX6_read_X6_valueAt : GoodIn wsX6_read (wsV RX6 102 RX6 yX6_valueAt wsX6_valueAt) := goodIn_app (goodIn_of _ (by decide +kernel)) ggX6_read_X6_valueAt
set_option maxRecDepth 20000 in
theorem ggX6_read_X6_cleans : GoodIn wsX6_read wsX6_cleans := goodIn_r _ [40, 41, 42, 43, 15, 16, 17, 6, 18, 19, 44, 45, 46, 47, 48, 49, 50, 51, 52, 53, 54, 55, 56, 57, 58, 59, 60, 61] (by decide +kernel) (by decide +kernel)
set_option maxRecDepth 20000 in
theorem gX6_read_X6_cleans : GoodIn wsX6_read (wsV RX6 94 RX6 yX6_cleans wsX6_cleans) := goodIn_app (goodIn_of _ (by decide +kernel)) ggX6_read_X6_cleans
theorem dX6_read_0 : decode cX6_read 0 = .ok (.aload_n 0, 1) := by decide +kernel
theorem dX6_read_1 : decode cX6_read 1 = .ok (.iload_n 1, 1) := by decide +kernel
theorem dX6_read_2 : decode cX6_read 2 = .ok (.invokevirtual 74, 3) := by decide +kernel
theorem dX6_read_5 : decode cX6_read 5 = .ok (.ifCond .eq 14, 3) := by decide +kernel
theorem dX6_read_8 : decode cX6_read 8 = .ok (.iload_n 2, 1) := by decide +kernel
theorem dX6_read_9 : decode cX6_read 9 = .ok (.invokestatic 77, 3) := by decide +kernel
theorem dX6_read_12 : decode cX6_read 12 = .ok (.ifCond .eq 7, 3) := by decide +kernel
theorem dX6_read_15 : decode cX6_read 15 = .ok (.iconst 1, 1) := by decide +kernel
theorem dX6_read_16 : decode cX6_read 16 = .ok (.goto 4, 3) := by decide +kernel
theorem dX6_read_19 : decode cX6_read 19 = .ok (.iconst 0, 1) := by decide +kernel
theorem dX6_read_20 : decode cX6_read 20 = .ok (.istore_n 3, 1) := by decide +kernel
theorem dX6_read_21 : decode cX6_read 21 = .ok (.aload_n 0, 1) := by decide +kernel
theorem dX6_read_22 : decode cX6_read 22 = .ok (.iload_n 3, 1) := by decide +kernel
theorem dX6_read_23 : decode cX6_read 23 = .ok (.ifCond .ne 7, 3) := by decide +kernel
theorem dX6_read_26 : decode cX6_read 26 = .ok (.iconst 1, 1) := by decide +kernel
theorem dX6_read_27 : decode cX6_read 27 = .ok (.goto 16, 3) := by decide +kernel
theorem dX6_read_30 : decode cX6_read 30 = .ok (.aload_n 0, 1) := by decide +kernel
theorem dX6_read_31 : decode cX6_read 31 = .ok (.iload_n 1, 1) := by decide +kernel
theorem dX6_read_32 : decode cX6_read 32 = .ok (.invokevirtual 68, 3) := by decide +kernel
theorem dX6_read_35 : decode cX6_read 35 = .ok (.ifCond .eq 7, 3) := by decide +kernel
theorem dX6_read_38 : decode cX6_read 38 = .ok (.iconst 0, 1) := by decide +kernel
theorem dX6_read_39 : decode cX6_read 39 = .ok (.goto 4, 3) := by decide +kernel
theorem dX6_read_42 : decode cX6_read 42 = .ok (.iconst 2, 1) := by decide +kernel
theorem dX6_read_43 : decode cX6_read 43 = .ok (.invokevirtual 61, 3) := by decide +kernel
theorem dX6_read_46 : decode cX6_read 46 = .ok (.ifCond .ne 5, 3) := by decide +kernel
theorem dX6_read_49 : decode cX6_read 49 = .ok (.iconst 0, 1) := by decide +kernel
theorem dX6_read_50 : decode cX6_read 50 = .ok (.ireturn, 1) := by decide +kernel
theorem dX6_read_51 : decode cX6_read 51 = .ok (.aload_n 0, 1) := by decide +kernel
theorem dX6_read_52 : decode cX6_read 52 = .ok (.aload_n 0, 1) := by decide +kernel
theorem dX6_read_53 : decode cX6_read 53 = .ok (.getfield 20, 3) := by decide +kernel
theorem dX6_read_56 : decode cX6_read 56 = .ok (.iload_n 1, 1) := by decide +kernel
theorem dX6_read_57 : decode cX6_read 57 = .ok (.iaload, 1) := by decide +kernel
theorem dX6_read_58 : decode cX6_read 58 = .ok (.iload_n 2, 1) := by decide +kernel
theorem dX6_read_59 : decode cX6_read 59 = .ok (.iload_n 1, 1) := by decide +kernel
theorem dX6_read_60 : decode cX6_read 60 = .ok (.invokevirtual 102, 3) := by decide +kernel
theorem dX6_read_63 : decode cX6_read 63 = .ok (.istore 4, 2) := by decide +kernel
theorem dX6_read_65 : decode cX6_read 65 = .ok (.aload_n 0, 1) := by decide +kernel
theorem dX6_read_66 : decode cX6_read 66 = .ok (.aload_n 0, 1) := by decide +kernel
theorem dX6_read_67 : decode cX6_read 67 = .ok (.getfield 98, 3) := by decide +kernel
theorem dX6_read_70 : decode cX6_read 70 = .ok (.ifCond .eq 7, 3) := by decide +kernel
theorem dX6_read_73 : decode cX6_read 73 = .ok (.iconst 3, 1) := by decide +kernel
theorem dX6_read_74 : decode cX6_read 74 = .ok (.goto 4, 3) := by decide +kernel
theorem dX6_read_77 : decode cX6_read 77 = .ok (.iconst 0, 1) := by decide +kernel
theorem dX6_read_78 : decode cX6_read 78 = .ok (.invokevirtual 61, 3) := by decide +kernel
theorem dX6_read_81 : decode cX6_read 81 = .ok (.ifCond .ne 5, 3) := by decide +kernel
theorem dX6_read_84 : decode cX6_read 84 = .ok (.iconst 0, 1) := by decide +kernel
theorem dX6_read_85 : decode cX6_read 85 = .ok (.ireturn, 1) := by decide +kernel
theorem dX6_read_86 : decode cX6_read 86 = .ok (.aload_n 0, 1) := by decide +kernel
theorem dX6_read_87 : decode cX6_read 87 = .ok (.iload_n 2, 1) := by decide +kernel
theorem dX6_read_88 : decode cX6_read 88 = .ok (.iconst 4, 1) := by decide +kernel
theorem dX6_read_89 : decode cX6_read 89 = .ok (.idiv, 1) := by decide +kernel
theorem dX6_read_90 : decode cX6_read 90 = .ok (.invokevirtual 94, 3) := by decide +kernel
theorem dX6_read_93 : decode cX6_read 93 = .ok (.iload 4, 2) := by decide +kernel
theorem dX6_read_95 : decode cX6_read 95 = .ok (.ireturn, 1) := by decide +kernel
set_option maxRecDepth 20000 in
theorem ggX6_readAt_X6_isRow : GoodIn wsX6_readAt wsX6_isRow := goodIn_r _ [6, 7, 8, 5, 9] (by decide +kernel) (by decide +kernel)
set_option maxRecDepth 20000 in
theorem gX6_readAt_X6_isRow : GoodIn wsX6_readAt (va_wsS RX6 77 yX6_isRow wsX6_isRow) := goodIn_app (goodIn_of _ (by decide +kernel)) ggX6_readAt_X6_isRow
set_option maxRecDepth 20000 in
theorem ggX6_readAt_X6_isIn : GoodIn wsX6_readAt wsX6_isIn := goodIn_r _ [9] (by decide +kernel) (by decide +kernel)
set_option maxRecDepth 20000 in
theorem gX6_readAt_X6_isIn : GoodIn wsX6_readAt (va_wsS RX6 48 yX6_isIn wsX6_isIn) := goodIn_app (goodIn_of _ (by decide +kernel)) ggX6_readAt_X6_isIn
set_option maxRecDepth 20000 in
theorem ggX6_readAt_X6_can : GoodIn wsX6_readAt wsX6_can := goodIn_r _ [13, 14, 39, 40, 41, 42, 43, 44, 45, 46, 47, 48, 49, 50, 51, 52, 53, 54, 55, 56] (by decide +kernel) (by decide +kernel)
set_option maxRecDepth 20000 in
theorem gX6_readAt_X6_can : GoodIn wsX6_readAt (wsV RX6 61 RX6 yX6_can wsX6_can) := goodIn_app (goodIn_of _ (by decide +kernel)) ggX6_readAt_X6_can
set_option maxRecDepth 20000 in
theorem ggX6_readAt_X6_valueAt : GoodIn wsX6_readAt wsX6_valueAt := goodIn_r _ [18, 19, 2, 20, 21, 22, 23, 24, 25, 26, 27, 39, 40, 41, 42, 43, 44, 45, 46, 47, 48, 49, 50, 51, 52, 53, 54, 55, 56] (by decide +kernel) (by decide +kernel)
set_option maxRecDepth 20000 in
theorem gX6_readAt_X6_valueAt : GoodIn wsX6_readAt (wsV RX6 102 RX6 yX6_valueAt wsX6_valueAt) := goodIn_app (goodIn_of _ (by decide +kernel)) ggX6_readAt_X6_valueAt
set_option maxRecDepth 20000 in
theorem ggX6_readAt_X6_cleans : GoodIn wsX6_readAt wsX6_cleans := goodIn_r _ [31, 32, 33, 34, 35, 36, 37, 5, 38, 24, 39, 40, 41, 42, 43, 44, 45, 46, 47, 48, 49, 50, 51, 52, 53, 54, 55, 56] (by decide +kernel) (by decide +kernel)
set_option maxRecDepth 20000 in
theorem gX6_readAt_X6_cleans : GoodIn wsX6_readAt (wsV RX6 94 RX6 yX6_cleans wsX6_cleans) := goodIn_app (goodIn_of _ (by decide +kernel)) ggX6_readAt_X6_cleans
theorem dX6_readAt_0 : decode cX6_readAt 0 = .ok (.aload_n 0, 1) := by decide +kernel
theorem dX6_readAt_1 : decode cX6_readAt 1 = .ok (.iload_n 2, 1) := by decide +kernel
theorem dX6_readAt_2 : decode cX6_readAt 2 = .ok (.invokestatic 77, 3) := by decide +kernel
theorem dX6_readAt_5 : decode cX6_readAt 5 = .ok (.ifCond .ne 7, 3) := by decide +kernel
theorem dX6_readAt_8 : decode cX6_readAt 8 = .ok (.iconst 1, 1) := by decide +kernel
theorem dX6_readAt_9 : decode cX6_readAt 9 = .ok (.goto 20, 3) := by decide +kernel
theorem dX6_readAt_12 : decode cX6_readAt 12 = .ok (.iload_n 1, 1) := by decide +kernel
theorem dX6_readAt_13 : decode cX6_readAt 13 = .ok (.iconst 0, 1) := by decide +kernel
theorem dX6_readAt_14 : decode cX6_readAt 14 = .ok (.aload_n 0, 1) := by decide +kernel
theorem dX6_readAt_15 : decode cX6_readAt 15 = .ok (.getfield 65, 3) := by decide +kernel
theorem dX6_readAt_18 : decode cX6_readAt 18 = .ok (.invokestatic 48, 3) := by decide +kernel
theorem dX6_readAt_21 : decode cX6_readAt 21 = .ok (.ifCond .eq 7, 3) := by decide +kernel
theorem dX6_readAt_24 : decode cX6_readAt 24 = .ok (.iconst 0, 1) := by decide +kernel
theorem dX6_readAt_25 : decode cX6_readAt 25 = .ok (.goto 4, 3) := by decide +kernel
theorem dX6_readAt_28 : decode cX6_readAt 28 = .ok (.iconst 2, 1) := by decide +kernel
theorem dX6_readAt_29 : decode cX6_readAt 29 = .ok (.invokevirtual 61, 3) := by decide +kernel
theorem dX6_readAt_32 : decode cX6_readAt 32 = .ok (.ifCond .ne 5, 3) := by decide +kernel
theorem dX6_readAt_35 : decode cX6_readAt 35 = .ok (.iconst 0, 1) := by decide +kernel
theorem dX6_readAt_36 : decode cX6_readAt 36 = .ok (.ireturn, 1) := by decide +kernel
theorem dX6_readAt_37 : decode cX6_readAt 37 = .ok (.aload_n 0, 1) := by decide +kernel
theorem dX6_readAt_38 : decode cX6_readAt 38 = .ok (.iload_n 1, 1) := by decide +kernel
theorem dX6_readAt_39 : decode cX6_readAt 39 = .ok (.iload_n 2, 1) := by decide +kernel
theorem dX6_readAt_40 : decode cX6_readAt 40 = .ok (.iconst (-1), 1) := by decide +kernel
theorem dX6_readAt_41 : decode cX6_readAt 41 = .ok (.invokevirtual 102, 3) := by decide +kernel
theorem dX6_readAt_44 : decode cX6_readAt 44 = .ok (.istore_n 3, 1) := by decide +kernel
theorem dX6_readAt_45 : decode cX6_readAt 45 = .ok (.aload_n 0, 1) := by decide +kernel
theorem dX6_readAt_46 : decode cX6_readAt 46 = .ok (.aload_n 0, 1) := by decide +kernel
theorem dX6_readAt_47 : decode cX6_readAt 47 = .ok (.getfield 98, 3) := by decide +kernel
theorem dX6_readAt_50 : decode cX6_readAt 50 = .ok (.ifCond .eq 7, 3) := by decide +kernel
theorem dX6_readAt_53 : decode cX6_readAt 53 = .ok (.iconst 3, 1) := by decide +kernel
theorem dX6_readAt_54 : decode cX6_readAt 54 = .ok (.goto 4, 3) := by decide +kernel
theorem dX6_readAt_57 : decode cX6_readAt 57 = .ok (.iconst 0, 1) := by decide +kernel
theorem dX6_readAt_58 : decode cX6_readAt 58 = .ok (.invokevirtual 61, 3) := by decide +kernel
theorem dX6_readAt_61 : decode cX6_readAt 61 = .ok (.ifCond .ne 5, 3) := by decide +kernel
theorem dX6_readAt_64 : decode cX6_readAt 64 = .ok (.iconst 0, 1) := by decide +kernel
theorem dX6_readAt_65 : decode cX6_readAt 65 = .ok (.ireturn, 1) := by decide +kernel
theorem dX6_readAt_66 : decode cX6_readAt 66 = .ok (.aload_n 0, 1) := by decide +kernel
theorem dX6_readAt_67 : decode cX6_readAt 67 = .ok (.iload_n 2, 1) := by decide +kernel
theorem dX6_readAt_68 : decode cX6_readAt 68 = .ok (.iconst 4, 1) := by decide +kernel
theorem dX6_readAt_69 : decode cX6_readAt 69 = .ok (.idiv, 1) := by decide +kernel
theorem dX6_readAt_70 : decode cX6_readAt 70 = .ok (.invokevirtual 94, 3) := by decide +kernel
theorem dX6_readAt_73 : decode cX6_readAt 73 = .ok (.iload_n 3, 1) := by decide +kernel
theorem dX6_readAt_74 : decode cX6_readAt 74 = .ok (.ireturn, 1) := by decide +kernel
theorem dX6_standing_0 : decode cX6_standing 0 = .ok (.iconst 0, 1) := by decide +kernel
theorem dX6_standing_1 : decode cX6_standing 1 = .ok (.istore_n 2, 1) := by decide +kernel
theorem dX6_standing_2 : decode cX6_standing 2 = .ok (.iconst 0, 1) := by decide +kernel
theorem dX6_standing_3 : decode cX6_standing 3 = .ok (.istore_n 3, 1) := by decide +kernel
theorem dX6_standing_4 : decode cX6_standing 4 = .ok (.iload_n 3, 1) := by decide +kernel
theorem dX6_standing_5 : decode cX6_standing 5 = .ok (.aload_n 0, 1) := by decide +kernel
theorem dX6_standing_6 : decode cX6_standing 6 = .ok (.getfield 55, 3) := by decide +kernel
theorem dX6_standing_9 : decode cX6_standing 9 = .ok (.if_icmp .ge 36, 3) := by decide +kernel
theorem dX6_standing_12 : decode cX6_standing 12 = .ok (.iload_n 2, 1) := by decide +kernel
theorem dX6_standing_13 : decode cX6_standing 13 = .ok (.aload_n 0, 1) := by decide +kernel
theorem dX6_standing_14 : decode cX6_standing 14 = .ok (.getfield 26, 3) := by decide +kernel
theorem dX6_standing_17 : decode cX6_standing 17 = .ok (.iload_n 3, 1) := by decide +kernel
theorem dX6_standing_18 : decode cX6_standing 18 = .ok (.iaload, 1) := by decide +kernel
theorem dX6_standing_19 : decode cX6_standing 19 = .ok (.iload_n 1, 1) := by decide +kernel
theorem dX6_standing_20 : decode cX6_standing 20 = .ok (.if_icmp .ne 16, 3) := by decide +kernel
theorem dX6_standing_23 : decode cX6_standing 23 = .ok (.aload_n 0, 1) := by decide +kernel
theorem dX6_standing_24 : decode cX6_standing 24 = .ok (.getfield 35, 3) := by decide +kernel
theorem dX6_standing_27 : decode cX6_standing 27 = .ok (.iload_n 3, 1) := by decide +kernel
theorem dX6_standing_28 : decode cX6_standing 28 = .ok (.baload, 1) := by decide +kernel
theorem dX6_standing_29 : decode cX6_standing 29 = .ok (.ifCond .ne 7, 3) := by decide +kernel
theorem dX6_standing_32 : decode cX6_standing 32 = .ok (.iconst 1, 1) := by decide +kernel
theorem dX6_standing_33 : decode cX6_standing 33 = .ok (.goto 4, 3) := by decide +kernel
theorem dX6_standing_36 : decode cX6_standing 36 = .ok (.iconst 0, 1) := by decide +kernel
theorem dX6_standing_37 : decode cX6_standing 37 = .ok (.iadd, 1) := by decide +kernel
theorem dX6_standing_38 : decode cX6_standing 38 = .ok (.istore_n 2, 1) := by decide +kernel
theorem dX6_standing_39 : decode cX6_standing 39 = .ok (.iinc 3 1, 3) := by decide +kernel
theorem dX6_standing_42 : decode cX6_standing 42 = .ok (.goto (-38), 3) := by decide +kernel
theorem dX6_standing_45 : decode cX6_standing 45 = .ok (.iload_n 2, 1) := by decide +kernel
theorem dX6_standing_46 : decode cX6_standing 46 = .ok (.ireturn, 1) := by decide +kernel
set_option maxRecDepth 20000 in
theorem ggX6_isOpen_X6_isTransaction : GoodIn wsX6_isOpen wsX6_isTransaction := goodIn_r _ [5, 6, 7, 8, 4, 9, 20, 21, 22, 23, 24, 25, 26, 27, 28, 29, 30, 31, 32, 33, 34, 35, 36, 37] (by decide +kernel) (by decide +kernel)
set_option maxRecDepth 20000 in
theorem gX6_isOpen_X6_isTransaction : GoodIn wsX6_isOpen (wsV RX6 74 RX6 yX6_isTransaction wsX6_isTransaction) := goodIn_app (goodIn_of _ (by decide +kernel)) ggX6_isOpen_X6_isTransaction
set_option maxRecDepth 20000 in
theorem ggX6_isOpen_X6_isActive : GoodIn wsX6_isOpen wsX6_isActive := goodIn_r _ [13, 14, 20, 21, 22, 23, 24, 25, 26, 27, 28, 29, 30, 31, 32, 33, 34, 35, 36, 37] (by decide +kernel) (by decide +kernel)
set_option maxRecDepth 20000 in
theorem gX6_isOpen_X6_isActive : GoodIn wsX6_isOpen (wsV RX6 68 RX6 yX6_isActive wsX6_isActive) := goodIn_app (goodIn_of _ (by decide +kernel)) ggX6_isOpen_X6_isActive
set_option maxRecDepth 20000 in
theorem ggX6_isOpen_X6_can : GoodIn wsX6_isOpen wsX6_can := goodIn_r _ [18, 19, 20, 21, 22, 23, 24, 25, 26, 27, 28, 29, 30, 31, 32, 33, 34, 35, 36, 37] (by decide +kernel) (by decide +kernel)
set_option maxRecDepth 20000 in
theorem gX6_isOpen_X6_can : GoodIn wsX6_isOpen (wsV RX6 61 RX6 yX6_can wsX6_can) := goodIn_app (goodIn_of _ (by decide +kernel)) ggX6_isOpen_X6_can
theorem dX6_isOpen_0 : decode cX6_isOpen 0 = .ok (.aload_n 0, 1) := by decide +kernel
theorem dX6_isOpen_1 : decode cX6_isOpen 1 = .ok (.aload_n 0, 1) := by decide +kernel
theorem dX6_isOpen_2 : decode cX6_isOpen 2 = .ok (.iload_n 1, 1) := by decide +kernel
theorem dX6_isOpen_3 : decode cX6_isOpen 3 = .ok (.invokevirtual 74, 3) := by decide +kernel
theorem dX6_isOpen_6 : decode cX6_isOpen 6 = .ok (.ifCond .ne 7, 3) := by decide +kernel
theorem dX6_isOpen_9 : decode cX6_isOpen 9 = .ok (.iconst 1, 1) := by decide +kernel
theorem dX6_isOpen_10 : decode cX6_isOpen 10 = .ok (.goto 16, 3) := by decide +kernel
theorem dX6_isOpen_13 : decode cX6_isOpen 13 = .ok (.aload_n 0, 1) := by decide +kernel
theorem dX6_isOpen_14 : decode cX6_isOpen 14 = .ok (.iload_n 1, 1) := by decide +kernel
theorem dX6_isOpen_15 : decode cX6_isOpen 15 = .ok (.invokevirtual 68, 3) := by decide +kernel
theorem dX6_isOpen_18 : decode cX6_isOpen 18 = .ok (.ifCond .eq 7, 3) := by decide +kernel
theorem dX6_isOpen_21 : decode cX6_isOpen 21 = .ok (.iconst 0, 1) := by decide +kernel
theorem dX6_isOpen_22 : decode cX6_isOpen 22 = .ok (.goto 4, 3) := by decide +kernel
theorem dX6_isOpen_25 : decode cX6_isOpen 25 = .ok (.iconst 2, 1) := by decide +kernel
theorem dX6_isOpen_26 : decode cX6_isOpen 26 = .ok (.invokevirtual 61, 3) := by decide +kernel
theorem dX6_isOpen_29 : decode cX6_isOpen 29 = .ok (.ireturn, 1) := by decide +kernel
set_option maxRecDepth 20000 in
theorem ggX6_save_X6_isOpen : GoodIn wsX6_save wsX6_isOpen := goodIn_r _ [5, 6, 7, 8, 4, 9, 10, 11, 12, 13, 14, 15, 16, 17, 18, 19, 20, 21, 22, 23, 31, 32, 33, 34, 35, 36, 37, 38, 39, 40, 41, 42, 43, 44, 45, 46, 47, 48] (by decide +kernel) (by decide +kernel)
set_option maxRecDepth 20000 in
theorem gX6_save_X6_isOpen : GoodIn wsX6_save (wsV RX6 106 RX6 yX6_isOpen wsX6_isOpen) := goodIn_app (goodIn_of _ (by decide +kernel)) ggX6_save_X6_isOpen
set_option maxRecDepth 20000 in
theorem ggX6_save_X6_standing : GoodIn wsX6_save wsX6_standing := goodIn_r _ [27, 28, 29, 30, 31, 32, 33, 34, 35, 36, 37, 38, 39, 40, 41, 42, 43, 44, 45, 46, 47, 48] (by decide +kernel) (by decide +kernel)
set_option maxRecDepth 20000 in
theorem gX6_save_X6_standing : GoodIn wsX6_save (wsV RX6 109 RX6 yX6_standing wsX6_standing) := goodIn_app (goodIn_of _ (by decide +kernel)) ggX6_save_X6_standing
theorem dX6_save_0 : decode cX6_save 0 = .ok (.aload_n 0, 1) := by decide +kernel
theorem dX6_save_1 : decode cX6_save 1 = .ok (.iload_n 1, 1) := by decide +kernel
theorem dX6_save_2 : decode cX6_save 2 = .ok (.invokevirtual 106, 3) := by decide +kernel
theorem dX6_save_5 : decode cX6_save 5 = .ok (.ifCond .eq 11, 3) := by decide +kernel
theorem dX6_save_8 : decode cX6_save 8 = .ok (.aload_n 0, 1) := by decide +kernel
theorem dX6_save_9 : decode cX6_save 9 = .ok (.iload_n 1, 1) := by decide +kernel
theorem dX6_save_10 : decode cX6_save 10 = .ok (.invokevirtual 109, 3) := by decide +kernel
theorem dX6_save_13 : decode cX6_save 13 = .ok (.goto 4, 3) := by decide +kernel
theorem dX6_save_16 : decode cX6_save 16 = .ok (.iconst 0, 1) := by decide +kernel
theorem dX6_save_17 : decode cX6_save 17 = .ok (.ireturn, 1) := by decide +kernel
theorem dX6_undoes_0 : decode cX6_undoes 0 = .ok (.iload_n 2, 1) := by decide +kernel
theorem dX6_undoes_1 : decode cX6_undoes 1 = .ok (.istore_n 3, 1) := by decide +kernel
theorem dX6_undoes_2 : decode cX6_undoes 2 = .ok (.aload_n 0, 1) := by decide +kernel
theorem dX6_undoes_3 : decode cX6_undoes 3 = .ok (.getfield 55, 3) := by decide +kernel
theorem dX6_undoes_6 : decode cX6_undoes 6 = .ok (.iconst 1, 1) := by decide +kernel
theorem dX6_undoes_7 : decode cX6_undoes 7 = .ok (.isub, 1) := by decide +kernel
theorem dX6_undoes_8 : decode cX6_undoes 8 = .ok (.istore 4, 2) := by decide +kernel
theorem dX6_undoes_10 : decode cX6_undoes 10 = .ok (.iload 4, 2) := by decide +kernel
theorem dX6_undoes_12 : decode cX6_undoes 12 = .ok (.ifCond .lt 64, 3) := by decide +kernel
theorem dX6_undoes_15 : decode cX6_undoes 15 = .ok (.iload_n 3, 1) := by decide +kernel
theorem dX6_undoes_16 : decode cX6_undoes 16 = .ok (.ifCond .le 60, 3) := by decide +kernel
theorem dX6_undoes_19 : decode cX6_undoes 19 = .ok (.aload_n 0, 1) := by decide +kernel
theorem dX6_undoes_20 : decode cX6_undoes 20 = .ok (.getfield 26, 3) := by decide +kernel
theorem dX6_undoes_23 : decode cX6_undoes 23 = .ok (.iload 4, 2) := by decide +kernel
theorem dX6_undoes_25 : decode cX6_undoes 25 = .ok (.iaload, 1) := by decide +kernel
theorem dX6_undoes_26 : decode cX6_undoes 26 = .ok (.iload_n 1, 1) := by decide +kernel
theorem dX6_undoes_27 : decode cX6_undoes 27 = .ok (.if_icmp .ne 43, 3) := by decide +kernel
theorem dX6_undoes_30 : decode cX6_undoes 30 = .ok (.aload_n 0, 1) := by decide +kernel
theorem dX6_undoes_31 : decode cX6_undoes 31 = .ok (.getfield 35, 3) := by decide +kernel
theorem dX6_undoes_34 : decode cX6_undoes 34 = .ok (.iload 4, 2) := by decide +kernel
theorem dX6_undoes_36 : decode cX6_undoes 36 = .ok (.baload, 1) := by decide +kernel
theorem dX6_undoes_37 : decode cX6_undoes 37 = .ok (.ifCond .ne 33, 3) := by decide +kernel
theorem dX6_undoes_40 : decode cX6_undoes 40 = .ok (.aload_n 0, 1) := by decide +kernel
theorem dX6_undoes_41 : decode cX6_undoes 41 = .ok (.getfield 35, 3) := by decide +kernel
theorem dX6_undoes_44 : decode cX6_undoes 44 = .ok (.iload 4, 2) := by decide +kernel
theorem dX6_undoes_46 : decode cX6_undoes 46 = .ok (.iconst 1, 1) := by decide +kernel
theorem dX6_undoes_47 : decode cX6_undoes 47 = .ok (.bastore, 1) := by decide +kernel
theorem dX6_undoes_48 : decode cX6_undoes 48 = .ok (.aload_n 0, 1) := by decide +kernel
theorem dX6_undoes_49 : decode cX6_undoes 49 = .ok (.getfield 7, 3) := by decide +kernel
theorem dX6_undoes_52 : decode cX6_undoes 52 = .ok (.aload_n 0, 1) := by decide +kernel
theorem dX6_undoes_53 : decode cX6_undoes 53 = .ok (.getfield 29, 3) := by decide +kernel
theorem dX6_undoes_56 : decode cX6_undoes 56 = .ok (.iload 4, 2) := by decide +kernel
theorem dX6_undoes_58 : decode cX6_undoes 58 = .ok (.iaload, 1) := by decide +kernel
theorem dX6_undoes_59 : decode cX6_undoes 59 = .ok (.aload_n 0, 1) := by decide +kernel
theorem dX6_undoes_60 : decode cX6_undoes 60 = .ok (.getfield 32, 3) := by decide +kernel
theorem dX6_undoes_63 : decode cX6_undoes 63 = .ok (.iload 4, 2) := by decide +kernel
theorem dX6_undoes_65 : decode cX6_undoes 65 = .ok (.iaload, 1) := by decide +kernel
theorem dX6_undoes_66 : decode cX6_undoes 66 = .ok (.iastore, 1) := by decide +kernel
theorem dX6_undoes_67 : decode cX6_undoes 67 = .ok (.iinc 3 (-1), 3) := by decide +kernel
theorem dX6_undoes_70 : decode cX6_undoes 70 = .ok (.iinc 4 (-1), 3) := by decide +kernel
theorem dX6_undoes_73 : decode cX6_undoes 73 = .ok (.goto (-63), 3) := by decide +kernel
theorem dX6_undoes_76 : decode cX6_undoes 76 = .ok (.return_, 1) := by decide +kernel
set_option maxRecDepth 20000 in
theorem ggX6_undoTo_X6_isOpen : GoodIn wsX6_undoTo wsX6_isOpen := goodIn_r _ [5, 6, 7, 8, 4, 9, 10, 11, 12, 13, 14, 15, 16, 17, 18, 19, 20, 21, 22, 23, 38, 39, 40, 41, 42, 43, 44, 45, 46, 47, 48, 49, 50, 51, 52, 53, 54, 55] (by decide +kernel) (by decide +kernel)
set_option maxRecDepth 20000 in
theorem gX6_undoTo_X6_isOpen : GoodIn wsX6_undoTo (wsV RX6 106 RX6 yX6_isOpen wsX6_isOpen) := goodIn_app (goodIn_of _ (by decide +kernel)) ggX6_undoTo_X6_isOpen
set_option maxRecDepth 20000 in
theorem ggX6_undoTo_X6_standing : GoodIn wsX6_undoTo wsX6_standing := goodIn_r _ [27, 28, 29, 30, 38, 39, 40, 41, 42, 43, 44, 45, 46, 47, 48, 49, 50, 51, 52, 53, 54, 55] (by decide +kernel) (by decide +kernel)
set_option maxRecDepth 20000 in
theorem gX6_undoTo_X6_standing : GoodIn wsX6_undoTo (wsV RX6 109 RX6 yX6_standing wsX6_standing) := goodIn_app (goodIn_of _ (by decide +kernel)) ggX6_undoTo_X6_standing
set_option maxRecDepth 20000 in
theorem ggX6_undoTo_X6_isIn : GoodIn wsX6_undoTo wsX6_isIn := goodIn_r _ [13] (by decide +kernel) (by decide +kernel)
set_option maxRecDepth 20000 in
theorem gX6_undoTo_X6_isIn : GoodIn wsX6_undoTo (va_wsS RX6 48 yX6_isIn wsX6_isIn) := goodIn_app (goodIn_of _ (by decide +kernel)) ggX6_undoTo_X6_isIn
set_option maxRecDepth 20000 in
theorem ggX6_undoTo_X6_can : GoodIn wsX6_undoTo wsX6_can := goodIn_r _ [22, 23, 38, 39, 40, 41, 42, 43, 44, 45, 46, 47, 48, 49, 50, 51, 52, 53, 54, 55] (by decide +kernel) (by decide +kernel)
set_option maxRecDepth 20000 in
theorem gX6_undoTo_X6_can : GoodIn wsX6_undoTo (wsV RX6 61 RX6 yX6_can wsX6_can) := goodIn_app (goodIn_of _ (by decide +kernel)) ggX6_undoTo_X6_can
set_option maxRecDepth 20000 in
theorem ggX6_undoTo_X6_undoes : GoodIn wsX6_undoTo wsX6_undoes := goodIn_r _ [34, 28, 29, 30, 35, 36, 37, 38, 39, 40, 41, 42, 43, 44, 45, 46, 47, 48, 49, 50, 51, 52, 53, 54, 55] (by decide +kernel) (by decide +kernel)
set_option maxRecDepth 20000 in
theorem gX6_undoTo_X6_undoes : GoodIn wsX6_undoTo (wsV RX6 112 RX6 yX6_undoes wsX6_undoes) := goodIn_app (goodIn_of _ (by decide +kernel)) ggX6_undoTo_X6_undoes
theorem dX6_undoTo_0 : decode cX6_undoTo 0 = .ok (.aload_n 0, 1) := by decide +kernel
theorem dX6_undoTo_1 : decode cX6_undoTo 1 = .ok (.iload_n 1, 1) := by decide +kernel
theorem dX6_undoTo_2 : decode cX6_undoTo 2 = .ok (.invokevirtual 106, 3) := by decide +kernel
theorem dX6_undoTo_5 : decode cX6_undoTo 5 = .ok (.ifCond .ne 5, 3) := by decide +kernel
theorem dX6_undoTo_8 : decode cX6_undoTo 8 = .ok (.iconst 0, 1) := by decide +kernel
theorem dX6_undoTo_9 : decode cX6_undoTo 9 = .ok (.ireturn, 1) := by decide +kernel
theorem dX6_undoTo_10 : decode cX6_undoTo 10 = .ok (.aload_n 0, 1) := by decide +kernel
theorem dX6_undoTo_11 : decode cX6_undoTo 11 = .ok (.iload_n 1, 1) := by decide +kernel
theorem dX6_undoTo_12 : decode cX6_undoTo 12 = .ok (.invokevirtual 109, 3) := by decide +kernel
theorem dX6_undoTo_15 : decode cX6_undoTo 15 = .ok (.istore_n 3, 1) := by decide +kernel
theorem dX6_undoTo_16 : decode cX6_undoTo 16 = .ok (.aload_n 0, 1) := by decide +kernel
theorem dX6_undoTo_17 : decode cX6_undoTo 17 = .ok (.iload_n 2, 1) := by decide +kernel
theorem dX6_undoTo_18 : decode cX6_undoTo 18 = .ok (.iconst 0, 1) := by decide +kernel
theorem dX6_undoTo_19 : decode cX6_undoTo 19 = .ok (.iload_n 3, 1) := by decide +kernel
theorem dX6_undoTo_20 : decode cX6_undoTo 20 = .ok (.invokestatic 48, 3) := by decide +kernel
theorem dX6_undoTo_23 : decode cX6_undoTo 23 = .ok (.ifCond .eq 7, 3) := by decide +kernel
theorem dX6_undoTo_26 : decode cX6_undoTo 26 = .ok (.iconst 0, 1) := by decide +kernel
theorem dX6_undoTo_27 : decode cX6_undoTo 27 = .ok (.goto 4, 3) := by decide +kernel
theorem dX6_undoTo_30 : decode cX6_undoTo 30 = .ok (.iconst 3, 1) := by decide +kernel
theorem dX6_undoTo_31 : decode cX6_undoTo 31 = .ok (.invokevirtual 61, 3) := by decide +kernel
theorem dX6_undoTo_34 : decode cX6_undoTo 34 = .ok (.ifCond .ne 5, 3) := by decide +kernel
theorem dX6_undoTo_37 : decode cX6_undoTo 37 = .ok (.iconst 0, 1) := by decide +kernel
theorem dX6_undoTo_38 : decode cX6_undoTo 38 = .ok (.ireturn, 1) := by decide +kernel
theorem dX6_undoTo_39 : decode cX6_undoTo 39 = .ok (.aload_n 0, 1) := by decide +kernel
theorem dX6_undoTo_40 : decode cX6_undoTo 40 = .ok (.iload_n 1, 1) := by decide +kernel
theorem dX6_undoTo_41 : decode cX6_undoTo 41 = .ok (.iload_n 3, 1) := by decide +kernel
theorem dX6_undoTo_42 : decode cX6_undoTo 42 = .ok (.iload_n 2, 1) := by decide +kernel
theorem dX6_undoTo_43 : decode cX6_undoTo 43 = .ok (.isub, 1) := by decide +kernel
theorem dX6_undoTo_44 : decode cX6_undoTo 44 = .ok (.invokevirtual 112, 3) := by decide +kernel
theorem dX6_undoTo_47 : decode cX6_undoTo 47 = .ok (.iload_n 3, 1) := by decide +kernel
theorem dX6_undoTo_48 : decode cX6_undoTo 48 = .ok (.iload_n 2, 1) := by decide +kernel
theorem dX6_undoTo_49 : decode cX6_undoTo 49 = .ok (.isub, 1) := by decide +kernel
theorem dX6_undoTo_50 : decode cX6_undoTo 50 = .ok (.ireturn, 1) := by decide +kernel
set_option maxRecDepth 20000 in
theorem ggX6_undo_X6_isOpen : GoodIn wsX6_undo wsX6_isOpen := goodIn_r _ [6, 7, 8, 9, 5, 10, 11, 12, 13, 14, 15, 16, 17, 18, 1, 19, 20, 21, 22, 23, 38, 39, 40, 41, 42, 43, 44, 45, 46, 47, 48, 49, 50, 51, 52, 53, 54, 55] (by decide +kernel) (by decide +kernel)
set_option maxRecDepth 20000 in
theorem gX6_undo_X6_isOpen : GoodIn wsX6_undo (wsV RX6 106 RX6 yX6_isOpen wsX6_isOpen) := goodIn_app (goodIn_of _ (by decide +kernel)) ggX6_undo_X6_isOpen
set_option maxRecDepth 20000 in
theorem ggX6_undo_X6_standing : GoodIn wsX6_undo wsX6_standing := goodIn_r _ [27, 28, 29, 30, 38, 39, 40, 41, 42, 43, 44, 45, 46, 47, 48, 49, 50, 51, 52, 53, 54, 55] (by decide +kernel) (by decide +kernel)
set_option maxRecDepth 20000 in
theorem gX6_undo_X6_standing : GoodIn wsX6_undo (wsV RX6 109 RX6 yX6_standing wsX6_standing) := goodIn_app (goodIn_of _ (by decide +kernel)) ggX6_undo_X6_standing
set_option maxRecDepth 20000 in
theorem ggX6_undo_X6_undoes : GoodIn wsX6_undo wsX6_undoes := goodIn_r _ [34, 28, 29, 30, 35, 36, 37, 38, 39, 40, 41, 42, 43, 44, 45, 46, 47, 48, 49, 50, 51, 52, 53, 54, 55] (by decide +kernel) (by decide +kernel)
set_option maxRecDepth 20000 in
theorem gX6_undo_X6_undoes : GoodIn wsX6_undo (wsV RX6 112 RX6 yX6_undoes wsX6_undoes) := goodIn_app (goodIn_of _ (by decide +kernel)) ggX6_undo_X6_undoes
theorem dX6_undo_0 : decode cX6_undo 0 = .ok (.aload_n 0, 1) := by decide +kernel
theorem dX6_undo_1 : decode cX6_undo 1 = .ok (.iload_n 1, 1) := by decide +kernel
theorem dX6_undo_2 : decode cX6_undo 2 = .ok (.invokevirtual 106, 3) := by decide +kernel
theorem dX6_undo_5 : decode cX6_undo 5 = .ok (.ifCond .ne 5, 3) := by decide +kernel
theorem dX6_undo_8 : decode cX6_undo 8 = .ok (.iconst 0, 1) := by decide +kernel
theorem dX6_undo_9 : decode cX6_undo 9 = .ok (.ireturn, 1) := by decide +kernel
theorem dX6_undo_10 : decode cX6_undo 10 = .ok (.aload_n 0, 1) := by decide +kernel
theorem dX6_undo_11 : decode cX6_undo 11 = .ok (.iload_n 1, 1) := by decide +kernel
theorem dX6_undo_12 : decode cX6_undo 12 = .ok (.invokevirtual 109, 3) := by decide +kernel
theorem dX6_undo_15 : decode cX6_undo 15 = .ok (.istore_n 2, 1) := by decide +kernel
theorem dX6_undo_16 : decode cX6_undo 16 = .ok (.aload_n 0, 1) := by decide +kernel
theorem dX6_undo_17 : decode cX6_undo 17 = .ok (.iload_n 1, 1) := by decide +kernel
theorem dX6_undo_18 : decode cX6_undo 18 = .ok (.iload_n 2, 1) := by decide +kernel
theorem dX6_undo_19 : decode cX6_undo 19 = .ok (.invokevirtual 112, 3) := by decide +kernel
theorem dX6_undo_22 : decode cX6_undo 22 = .ok (.aload_n 0, 1) := by decide +kernel
theorem dX6_undo_23 : decode cX6_undo 23 = .ok (.getfield 17, 3) := by decide +kernel
theorem dX6_undo_26 : decode cX6_undo 26 = .ok (.iload_n 1, 1) := by decide +kernel
theorem dX6_undo_27 : decode cX6_undo 27 = .ok (.iconst 2, 1) := by decide +kernel
theorem dX6_undo_28 : decode cX6_undo 28 = .ok (.iastore, 1) := by decide +kernel
theorem dX6_undo_29 : decode cX6_undo 29 = .ok (.iload_n 2, 1) := by decide +kernel
theorem dX6_undo_30 : decode cX6_undo 30 = .ok (.ireturn, 1) := by decide +kernel
set_option maxRecDepth 20000 in
theorem ggX6_commit_X6_isOpen : GoodIn wsX6_commit wsX6_isOpen := goodIn_r _ [8, 9, 10, 11, 7, 12, 13, 14, 15, 16, 17, 18, 19, 20, 2, 21, 22, 23, 24, 25, 26, 27, 28, 29, 30, 31, 32, 33, 34, 35, 36, 37, 38, 39, 40, 41, 42, 43] (by decide +kernel) (by decide +kernel)
set_option maxRecDepth 20000 in
theorem gX6_commit_X6_isOpen : GoodIn wsX6_commit (wsV RX6 106 RX6 yX6_isOpen wsX6_isOpen) := goodIn_app (goodIn_of _ (by decide +kernel)) ggX6_commit_X6_isOpen
theorem dX6_commit_0 : decode cX6_commit 0 = .ok (.aload_n 0, 1) := by decide +kernel
theorem dX6_commit_1 : decode cX6_commit 1 = .ok (.iload_n 1, 1) := by decide +kernel
theorem dX6_commit_2 : decode cX6_commit 2 = .ok (.invokevirtual 106, 3) := by decide +kernel
theorem dX6_commit_5 : decode cX6_commit 5 = .ok (.ifCond .ne 5, 3) := by decide +kernel
theorem dX6_commit_8 : decode cX6_commit 8 = .ok (.iconst 0, 1) := by decide +kernel
theorem dX6_commit_9 : decode cX6_commit 9 = .ok (.ireturn, 1) := by decide +kernel
theorem dX6_commit_10 : decode cX6_commit 10 = .ok (.aload_n 0, 1) := by decide +kernel
theorem dX6_commit_11 : decode cX6_commit 11 = .ok (.dup, 1) := by decide +kernel
theorem dX6_commit_12 : decode cX6_commit 12 = .ok (.getfield 65, 3) := by decide +kernel
theorem dX6_commit_15 : decode cX6_commit 15 = .ok (.iconst 1, 1) := by decide +kernel
theorem dX6_commit_16 : decode cX6_commit 16 = .ok (.iadd, 1) := by decide +kernel
theorem dX6_commit_17 : decode cX6_commit 17 = .ok (.putfield 65, 3) := by decide +kernel
theorem dX6_commit_20 : decode cX6_commit 20 = .ok (.aload_n 0, 1) := by decide +kernel
theorem dX6_commit_21 : decode cX6_commit 21 = .ok (.getfield 17, 3) := by decide +kernel
theorem dX6_commit_24 : decode cX6_commit 24 = .ok (.iload_n 1, 1) := by decide +kernel
theorem dX6_commit_25 : decode cX6_commit 25 = .ok (.iconst 1, 1) := by decide +kernel
theorem dX6_commit_26 : decode cX6_commit 26 = .ok (.iastore, 1) := by decide +kernel
theorem dX6_commit_27 : decode cX6_commit 27 = .ok (.aload_n 0, 1) := by decide +kernel
theorem dX6_commit_28 : decode cX6_commit 28 = .ok (.getfield 23, 3) := by decide +kernel
theorem dX6_commit_31 : decode cX6_commit 31 = .ok (.iload_n 1, 1) := by decide +kernel
theorem dX6_commit_32 : decode cX6_commit 32 = .ok (.aload_n 0, 1) := by decide +kernel
theorem dX6_commit_33 : decode cX6_commit 33 = .ok (.getfield 65, 3) := by decide +kernel
theorem dX6_commit_36 : decode cX6_commit 36 = .ok (.iastore, 1) := by decide +kernel
theorem dX6_commit_37 : decode cX6_commit 37 = .ok (.aload_n 0, 1) := by decide +kernel
theorem dX6_commit_38 : decode cX6_commit 38 = .ok (.getfield 65, 3) := by decide +kernel
theorem dX6_commit_41 : decode cX6_commit 41 = .ok (.ireturn, 1) := by decide +kernel
theorem dX6_moment_0 : decode cX6_moment 0 = .ok (.aload_n 0, 1) := by decide +kernel
theorem dX6_moment_1 : decode cX6_moment 1 = .ok (.iconst 0, 1) := by decide +kernel
theorem dX6_moment_2 : decode cX6_moment 2 = .ok (.putfield 45, 3) := by decide +kernel
theorem dX6_moment_5 : decode cX6_moment 5 = .ok (.aload_n 0, 1) := by decide +kernel
theorem dX6_moment_6 : decode cX6_moment 6 = .ok (.getfield 65, 3) := by decide +kernel
theorem dX6_moment_9 : decode cX6_moment 9 = .ok (.ireturn, 1) := by decide +kernel
theorem dX6_transactions_0 : decode cX6_transactions 0 = .ok (.aload_n 0, 1) := by decide +kernel
theorem dX6_transactions_1 : decode cX6_transactions 1 = .ok (.iconst 0, 1) := by decide +kernel
theorem dX6_transactions_2 : decode cX6_transactions 2 = .ok (.putfield 45, 3) := by decide +kernel
theorem dX6_transactions_5 : decode cX6_transactions 5 = .ok (.aload_n 0, 1) := by decide +kernel
theorem dX6_transactions_6 : decode cX6_transactions 6 = .ok (.getfield 52, 3) := by decide +kernel
theorem dX6_transactions_9 : decode cX6_transactions 9 = .ok (.ireturn, 1) := by decide +kernel
set_option maxRecDepth 20000 in
theorem ggX6_now_X6_isRow : GoodIn wsX6_now wsX6_isRow := goodIn_r _ [5, 6, 7, 4, 8] (by decide +kernel) (by decide +kernel)
set_option maxRecDepth 20000 in
theorem gX6_now_X6_isRow : GoodIn wsX6_now (va_wsS RX6 77 yX6_isRow wsX6_isRow) := goodIn_app (goodIn_of _ (by decide +kernel)) ggX6_now_X6_isRow
set_option maxRecDepth 20000 in
theorem ggX6_now_X6_can : GoodIn wsX6_now wsX6_can := goodIn_r _ [12, 13, 14, 15, 16, 17, 18, 19, 20, 21, 22, 23, 24, 25, 26, 27, 28, 29, 30, 31] (by decide +kernel) (by decide +kernel)
set_option maxRecDepth 20000 in
theorem gX6_now_X6_can : GoodIn wsX6_now (wsV RX6 61 RX6 yX6_can wsX6_can) := goodIn_app (goodIn_of _ (by decide +kernel)) ggX6_now_X6_can
theorem dX6_now_0 : decode cX6_now 0 = .ok (.aload_n 0, 1) := by decide +kernel
theorem dX6_now_1 : decode cX6_now 1 = .ok (.iload_n 1, 1) := by decide +kernel
theorem dX6_now_2 : decode cX6_now 2 = .ok (.invokestatic 77, 3) := by decide +kernel
theorem dX6_now_5 : decode cX6_now 5 = .ok (.ifCond .eq 7, 3) := by decide +kernel
theorem dX6_now_8 : decode cX6_now 8 = .ok (.iconst 0, 1) := by decide +kernel
theorem dX6_now_9 : decode cX6_now 9 = .ok (.goto 4, 3) := by decide +kernel
theorem dX6_now_12 : decode cX6_now 12 = .ok (.iconst 1, 1) := by decide +kernel
theorem dX6_now_13 : decode cX6_now 13 = .ok (.invokevirtual 61, 3) := by decide +kernel
theorem dX6_now_16 : decode cX6_now 16 = .ok (.ifCond .eq 12, 3) := by decide +kernel
theorem dX6_now_19 : decode cX6_now 19 = .ok (.aload_n 0, 1) := by decide +kernel
theorem dX6_now_20 : decode cX6_now 20 = .ok (.getfield 7, 3) := by decide +kernel
theorem dX6_now_23 : decode cX6_now 23 = .ok (.iload_n 1, 1) := by decide +kernel
theorem dX6_now_24 : decode cX6_now 24 = .ok (.iaload, 1) := by decide +kernel
theorem dX6_now_25 : decode cX6_now 25 = .ok (.goto 4, 3) := by decide +kernel
theorem dX6_now_28 : decode cX6_now 28 = .ok (.iconst 0, 1) := by decide +kernel
theorem dX6_now_29 : decode cX6_now 29 = .ok (.ireturn, 1) := by decide +kernel
set_option maxRecDepth 20000 in
theorem ggX6_versionAt_X6_isRow : GoodIn wsX6_versionAt wsX6_isRow := goodIn_r _ [5, 6, 7, 4, 8] (by decide +kernel) (by decide +kernel)
set_option maxRecDepth 20000 in
theorem gX6_versionAt_X6_isRow : GoodIn wsX6_versionAt (va_wsS RX6 77 yX6_isRow wsX6_isRow) := goodIn_app (goodIn_of _ (by decide +kernel)) ggX6_versionAt_X6_isRow
set_option maxRecDepth 20000 in
theorem ggX6_versionAt_X6_isIn : GoodIn wsX6_versionAt wsX6_isIn := goodIn_r _ [8] (by decide +kernel) (by decide +kernel)
set_option maxRecDepth 20000 in
theorem gX6_versionAt_X6_isIn : GoodIn wsX6_versionAt (va_wsS RX6 48 yX6_isIn wsX6_isIn) := goodIn_app (goodIn_of _ (by decide +kernel)) ggX6_versionAt_X6_isIn
set_option maxRecDepth 20000 in
theorem ggX6_versionAt_X6_can : GoodIn wsX6_versionAt wsX6_can := goodIn_r _ [12, 13, 28, 29, 30, 31, 32, 33, 34, 35, 36, 37, 38, 39, 40, 41, 42, 43, 44, 45] (by decide +kernel) (by decide +kernel)
set_option maxRecDepth 20000 in
theorem gX6_versionAt_X6_can : GoodIn wsX6_versionAt (wsV RX6 61 RX6 yX6_can wsX6_can) := goodIn_app (goodIn_of _ (by decide +kernel)) ggX6_versionAt_X6_can
set_option maxRecDepth 20000 in
theorem ggX6_versionAt_X6_valueAt : GoodIn wsX6_versionAt wsX6_valueAt := goodIn_r _ [17, 18, 19, 20, 21, 22, 23, 24, 25, 26, 27, 28, 29, 30, 31, 32, 33, 34, 35, 36, 37, 38, 39, 40, 41, 42, 43, 44, 45] (by decide +kernel) (by decide +kernel)
set_option maxRecDepth 20000 in
theorem gX6_versionAt_X6_valueAt : GoodIn wsX6_versionAt (wsV RX6 102 RX6 yX6_valueAt wsX6_valueAt) := goodIn_app (goodIn_of _ (by decide +kernel)) ggX6_versionAt_X6_valueAt
theorem dX6_versionAt_0 : decode cX6_versionAt 0 = .ok (.aload_n 0, 1) := by decide +kernel
theorem dX6_versionAt_1 : decode cX6_versionAt 1 = .ok (.iload_n 2, 1) := by decide +kernel
theorem dX6_versionAt_2 : decode cX6_versionAt 2 = .ok (.invokestatic 77, 3) := by decide +kernel
theorem dX6_versionAt_5 : decode cX6_versionAt 5 = .ok (.ifCond .ne 7, 3) := by decide +kernel
theorem dX6_versionAt_8 : decode cX6_versionAt 8 = .ok (.iconst 1, 1) := by decide +kernel
theorem dX6_versionAt_9 : decode cX6_versionAt 9 = .ok (.goto 20, 3) := by decide +kernel
theorem dX6_versionAt_12 : decode cX6_versionAt 12 = .ok (.iload_n 1, 1) := by decide +kernel
theorem dX6_versionAt_13 : decode cX6_versionAt 13 = .ok (.iconst 0, 1) := by decide +kernel
theorem dX6_versionAt_14 : decode cX6_versionAt 14 = .ok (.aload_n 0, 1) := by decide +kernel
theorem dX6_versionAt_15 : decode cX6_versionAt 15 = .ok (.getfield 65, 3) := by decide +kernel
theorem dX6_versionAt_18 : decode cX6_versionAt 18 = .ok (.invokestatic 48, 3) := by decide +kernel
theorem dX6_versionAt_21 : decode cX6_versionAt 21 = .ok (.ifCond .eq 7, 3) := by decide +kernel
theorem dX6_versionAt_24 : decode cX6_versionAt 24 = .ok (.iconst 0, 1) := by decide +kernel
theorem dX6_versionAt_25 : decode cX6_versionAt 25 = .ok (.goto 4, 3) := by decide +kernel
theorem dX6_versionAt_28 : decode cX6_versionAt 28 = .ok (.iconst 2, 1) := by decide +kernel
theorem dX6_versionAt_29 : decode cX6_versionAt 29 = .ok (.invokevirtual 61, 3) := by decide +kernel
theorem dX6_versionAt_32 : decode cX6_versionAt 32 = .ok (.ifCond .eq 13, 3) := by decide +kernel
theorem dX6_versionAt_35 : decode cX6_versionAt 35 = .ok (.aload_n 0, 1) := by decide +kernel
theorem dX6_versionAt_36 : decode cX6_versionAt 36 = .ok (.iload_n 1, 1) := by decide +kernel
theorem dX6_versionAt_37 : decode cX6_versionAt 37 = .ok (.iload_n 2, 1) := by decide +kernel
theorem dX6_versionAt_38 : decode cX6_versionAt 38 = .ok (.iconst (-1), 1) := by decide +kernel
theorem dX6_versionAt_39 : decode cX6_versionAt 39 = .ok (.invokevirtual 102, 3) := by decide +kernel
theorem dX6_versionAt_42 : decode cX6_versionAt 42 = .ok (.goto 4, 3) := by decide +kernel
theorem dX6_versionAt_45 : decode cX6_versionAt 45 = .ok (.iconst 0, 1) := by decide +kernel
theorem dX6_versionAt_46 : decode cX6_versionAt 46 = .ok (.ireturn, 1) := by decide +kernel
set_option maxRecDepth 20000 in
theorem ggX6_lockOf_X6_isRow : GoodIn wsX6_lockOf wsX6_isRow := goodIn_r _ [4, 5, 6, 3, 7] (by decide +kernel) (by decide +kernel)
set_option maxRecDepth 20000 in
theorem gX6_lockOf_X6_isRow : GoodIn wsX6_lockOf (va_wsS RX6 77 yX6_isRow wsX6_isRow) := goodIn_app (goodIn_of _ (by decide +kernel)) ggX6_lockOf_X6_isRow
set_option maxRecDepth 20000 in
theorem ggX6_lockOf_X6_can : GoodIn wsX6_lockOf wsX6_can := goodIn_r _ [11, 12, 26, 27, 28, 29, 30, 31, 32, 33, 34, 35, 36, 37, 38, 39, 40, 41, 42, 43] (by decide +kernel) (by decide +kernel)
set_option maxRecDepth 20000 in
theorem gX6_lockOf_X6_can : GoodIn wsX6_lockOf (wsV RX6 61 RX6 yX6_can wsX6_can) := goodIn_app (goodIn_of _ (by decide +kernel)) ggX6_lockOf_X6_can
set_option maxRecDepth 20000 in
theorem ggX6_lockOf_X6_lockOn : GoodIn wsX6_lockOf wsX6_lockOn := goodIn_r _ [16, 17, 18, 19, 20, 21, 22, 23, 3, 24, 25, 26, 27, 28, 29, 30, 31, 32, 33, 34, 35, 36, 37, 38, 39, 40, 41, 42, 43] (by decide +kernel) (by decide +kernel)
set_option maxRecDepth 20000 in
theorem gX6_lockOf_X6_lockOn : GoodIn wsX6_lockOf (wsV RX6 82 RX6 yX6_lockOn wsX6_lockOn) := goodIn_app (goodIn_of _ (by decide +kernel)) ggX6_lockOf_X6_lockOn
theorem dX6_lockOf_0 : decode cX6_lockOf 0 = .ok (.aload_n 0, 1) := by decide +kernel
theorem dX6_lockOf_1 : decode cX6_lockOf 1 = .ok (.iload_n 1, 1) := by decide +kernel
theorem dX6_lockOf_2 : decode cX6_lockOf 2 = .ok (.invokestatic 77, 3) := by decide +kernel
theorem dX6_lockOf_5 : decode cX6_lockOf 5 = .ok (.ifCond .eq 7, 3) := by decide +kernel
theorem dX6_lockOf_8 : decode cX6_lockOf 8 = .ok (.iconst 0, 1) := by decide +kernel
theorem dX6_lockOf_9 : decode cX6_lockOf 9 = .ok (.goto 4, 3) := by decide +kernel
theorem dX6_lockOf_12 : decode cX6_lockOf 12 = .ok (.iconst 1, 1) := by decide +kernel
theorem dX6_lockOf_13 : decode cX6_lockOf 13 = .ok (.invokevirtual 61, 3) := by decide +kernel
theorem dX6_lockOf_16 : decode cX6_lockOf 16 = .ok (.ifCond .eq 11, 3) := by decide +kernel
theorem dX6_lockOf_19 : decode cX6_lockOf 19 = .ok (.aload_n 0, 1) := by decide +kernel
theorem dX6_lockOf_20 : decode cX6_lockOf 20 = .ok (.iload_n 1, 1) := by decide +kernel
theorem dX6_lockOf_21 : decode cX6_lockOf 21 = .ok (.invokevirtual 82, 3) := by decide +kernel
theorem dX6_lockOf_24 : decode cX6_lockOf 24 = .ok (.goto 4, 3) := by decide +kernel
theorem dX6_lockOf_27 : decode cX6_lockOf 27 = .ok (.iconst 0, 1) := by decide +kernel
theorem dX6_lockOf_28 : decode cX6_lockOf 28 = .ok (.ireturn, 1) := by decide +kernel
set_option maxRecDepth 20000 in
theorem ggX6_isSlot_X6_isIn : GoodIn wsX6_isSlot wsX6_isIn := goodIn_r _ [4] (by decide +kernel) (by decide +kernel)
set_option maxRecDepth 20000 in
theorem gX6_isSlot_X6_isIn : GoodIn wsX6_isSlot (va_wsS RX6 48 yX6_isIn wsX6_isIn) := goodIn_app (goodIn_of _ (by decide +kernel)) ggX6_isSlot_X6_isIn
theorem dX6_isSlot_0 : decode cX6_isSlot 0 = .ok (.iload_n 0, 1) := by decide +kernel
theorem dX6_isSlot_1 : decode cX6_isSlot 1 = .ok (.iconst 0, 1) := by decide +kernel
theorem dX6_isSlot_2 : decode cX6_isSlot 2 = .ok (.iconst 2, 1) := by decide +kernel
theorem dX6_isSlot_3 : decode cX6_isSlot 3 = .ok (.invokestatic 48, 3) := by decide +kernel
theorem dX6_isSlot_6 : decode cX6_isSlot 6 = .ok (.ifCond .eq 16, 3) := by decide +kernel
theorem dX6_isSlot_9 : decode cX6_isSlot 9 = .ok (.iload_n 1, 1) := by decide +kernel
theorem dX6_isSlot_10 : decode cX6_isSlot 10 = .ok (.iconst 0, 1) := by decide +kernel
theorem dX6_isSlot_11 : decode cX6_isSlot 11 = .ok (.iconst 1, 1) := by decide +kernel
theorem dX6_isSlot_12 : decode cX6_isSlot 12 = .ok (.invokestatic 48, 3) := by decide +kernel
theorem dX6_isSlot_15 : decode cX6_isSlot 15 = .ok (.ifCond .eq 7, 3) := by decide +kernel
theorem dX6_isSlot_18 : decode cX6_isSlot 18 = .ok (.iconst 1, 1) := by decide +kernel
theorem dX6_isSlot_19 : decode cX6_isSlot 19 = .ok (.goto 4, 3) := by decide +kernel
theorem dX6_isSlot_22 : decode cX6_isSlot 22 = .ok (.iconst 0, 1) := by decide +kernel
theorem dX6_isSlot_23 : decode cX6_isSlot 23 = .ok (.ireturn, 1) := by decide +kernel
set_option maxRecDepth 20000 in
theorem ggX6_slotOf_X6_isSlot : GoodIn wsX6_slotOf wsX6_isSlot := goodIn_r _ [5, 6, 7, 4, 8] (by decide +kernel) (by decide +kernel)
set_option maxRecDepth 20000 in
theorem gX6_slotOf_X6_isSlot : GoodIn wsX6_slotOf (va_wsS RX6 116 yX6_isSlot wsX6_isSlot) := goodIn_app (goodIn_of _ (by decide +kernel)) ggX6_slotOf_X6_isSlot
set_option maxRecDepth 20000 in
theorem ggX6_slotOf_X6_can : GoodIn wsX6_slotOf wsX6_can := goodIn_r _ [12, 13, 14, 15, 16, 17, 18, 19, 20, 21, 22, 23, 24, 25, 26, 27, 28, 29, 30, 31] (by decide +kernel) (by decide +kernel)
set_option maxRecDepth 20000 in
theorem gX6_slotOf_X6_can : GoodIn wsX6_slotOf (wsV RX6 61 RX6 yX6_can wsX6_can) := goodIn_app (goodIn_of _ (by decide +kernel)) ggX6_slotOf_X6_can
theorem dX6_slotOf_0 : decode cX6_slotOf 0 = .ok (.aload_n 0, 1) := by decide +kernel
theorem dX6_slotOf_1 : decode cX6_slotOf 1 = .ok (.iload_n 1, 1) := by decide +kernel
theorem dX6_slotOf_2 : decode cX6_slotOf 2 = .ok (.iload_n 2, 1) := by decide +kernel
theorem dX6_slotOf_3 : decode cX6_slotOf 3 = .ok (.invokestatic 116, 3) := by decide +kernel
theorem dX6_slotOf_6 : decode cX6_slotOf 6 = .ok (.ifCond .eq 7, 3) := by decide +kernel
theorem dX6_slotOf_9 : decode cX6_slotOf 9 = .ok (.iconst 0, 1) := by decide +kernel
theorem dX6_slotOf_10 : decode cX6_slotOf 10 = .ok (.goto 4, 3) := by decide +kernel
theorem dX6_slotOf_13 : decode cX6_slotOf 13 = .ok (.iconst 1, 1) := by decide +kernel
theorem dX6_slotOf_14 : decode cX6_slotOf 14 = .ok (.invokevirtual 61, 3) := by decide +kernel
theorem dX6_slotOf_17 : decode cX6_slotOf 17 = .ok (.ifCond .eq 16, 3) := by decide +kernel
theorem dX6_slotOf_20 : decode cX6_slotOf 20 = .ok (.aload_n 0, 1) := by decide +kernel
theorem dX6_slotOf_21 : decode cX6_slotOf 21 = .ok (.getfield 39, 3) := by decide +kernel
theorem dX6_slotOf_24 : decode cX6_slotOf 24 = .ok (.iconst 2, 1) := by decide +kernel
theorem dX6_slotOf_25 : decode cX6_slotOf 25 = .ok (.iload_n 1, 1) := by decide +kernel
theorem dX6_slotOf_26 : decode cX6_slotOf 26 = .ok (.imul, 1) := by decide +kernel
theorem dX6_slotOf_27 : decode cX6_slotOf 27 = .ok (.iload_n 2, 1) := by decide +kernel
theorem dX6_slotOf_28 : decode cX6_slotOf 28 = .ok (.iadd, 1) := by decide +kernel
theorem dX6_slotOf_29 : decode cX6_slotOf 29 = .ok (.iaload, 1) := by decide +kernel
theorem dX6_slotOf_30 : decode cX6_slotOf 30 = .ok (.goto 4, 3) := by decide +kernel
theorem dX6_slotOf_33 : decode cX6_slotOf 33 = .ok (.iconst 0, 1) := by decide +kernel
theorem dX6_slotOf_34 : decode cX6_slotOf 34 = .ok (.ireturn, 1) := by decide +kernel
set_option maxRecDepth 20000 in
theorem ggX6_isMarked_X6_isSlot : GoodIn wsX6_isMarked wsX6_isSlot := goodIn_r _ [5, 6, 7, 4, 8] (by decide +kernel) (by decide +kernel)
set_option maxRecDepth 20000 in
theorem gX6_isMarked_X6_isSlot : GoodIn wsX6_isMarked (va_wsS RX6 116 yX6_isSlot wsX6_isSlot) := goodIn_app (goodIn_of _ (by decide +kernel)) ggX6_isMarked_X6_isSlot
set_option maxRecDepth 20000 in
theorem ggX6_isMarked_X6_can : GoodIn wsX6_isMarked wsX6_can := goodIn_r _ [12, 13, 14, 15, 16, 17, 18, 19, 20, 21, 22, 23, 24, 25, 26, 27, 28, 29, 30, 31] (by decide +kernel) (by decide +kernel)
set_option maxRecDepth 20000 in
theorem gX6_isMarked_X6_can : GoodIn wsX6_isMarked (wsV RX6 61 RX6 yX6_can wsX6_can) := goodIn_app (goodIn_of _ (by decide +kernel)) ggX6_isMarked_X6_can
theorem dX6_isMarked_0 : decode cX6_isMarked 0 = .ok (.aload_n 0, 1) := by decide +kernel
theorem dX6_isMarked_1 : decode cX6_isMarked 1 = .ok (.iload_n 1, 1) := by decide +kernel
theorem dX6_isMarked_2 : decode cX6_isMarked 2 = .ok (.iload_n 2, 1) := by decide +kernel
theorem dX6_isMarked_3 : decode cX6_isMarked 3 = .ok (.invokestatic 116, 3) := by decide +kernel
theorem dX6_isMarked_6 : decode cX6_isMarked 6 = .ok (.ifCond .eq 7, 3) := by decide +kernel
theorem dX6_isMarked_9 : decode cX6_isMarked 9 = .ok (.iconst 0, 1) := by decide +kernel
theorem dX6_isMarked_10 : decode cX6_isMarked 10 = .ok (.goto 4, 3) := by decide +kernel
theorem dX6_isMarked_13 : decode cX6_isMarked 13 = .ok (.iconst 1, 1) := by decide +kernel
theorem dX6_isMarked_14 : decode cX6_isMarked 14 = .ok (.invokevirtual 61, 3) := by decide +kernel
theorem dX6_isMarked_17 : decode cX6_isMarked 17 = .ok (.ifCond .eq 20, 3) := by decide +kernel
theorem dX6_isMarked_20 : decode cX6_isMarked 20 = .ok (.aload_n 0, 1) := by decide +kernel
theorem dX6_isMarked_21 : decode cX6_isMarked 21 = .ok (.getfield 42, 3) := by decide +kernel
theorem dX6_isMarked_24 : decode cX6_isMarked 24 = .ok (.iconst 2, 1) := by decide +kernel
theorem dX6_isMarked_25 : decode cX6_isMarked 25 = .ok (.iload_n 1, 1) := by decide +kernel
theorem dX6_isMarked_26 : decode cX6_isMarked 26 = .ok (.imul, 1) := by decide +kernel
theorem dX6_isMarked_27 : decode cX6_isMarked 27 = .ok (.iload_n 2, 1) := by decide +kernel
theorem dX6_isMarked_28 : decode cX6_isMarked 28 = .ok (.iadd, 1) := by decide +kernel
theorem dX6_isMarked_29 : decode cX6_isMarked 29 = .ok (.baload, 1) := by decide +kernel
theorem dX6_isMarked_30 : decode cX6_isMarked 30 = .ok (.ifCond .eq 7, 3) := by decide +kernel
theorem dX6_isMarked_33 : decode cX6_isMarked 33 = .ok (.iconst 1, 1) := by decide +kernel
theorem dX6_isMarked_34 : decode cX6_isMarked 34 = .ok (.goto 4, 3) := by decide +kernel
theorem dX6_isMarked_37 : decode cX6_isMarked 37 = .ok (.iconst 0, 1) := by decide +kernel
theorem dX6_isMarked_38 : decode cX6_isMarked 38 = .ok (.ireturn, 1) := by decide +kernel
theorem dX6_marked_0 : decode cX6_marked 0 = .ok (.aload_n 0, 1) := by decide +kernel
theorem dX6_marked_1 : decode cX6_marked 1 = .ok (.iconst 0, 1) := by decide +kernel
theorem dX6_marked_2 : decode cX6_marked 2 = .ok (.putfield 45, 3) := by decide +kernel
theorem dX6_marked_5 : decode cX6_marked 5 = .ok (.aload_n 0, 1) := by decide +kernel
theorem dX6_marked_6 : decode cX6_marked 6 = .ok (.getfield 71, 3) := by decide +kernel
theorem dX6_marked_9 : decode cX6_marked 9 = .ok (.ireturn, 1) := by decide +kernel
theorem dX6_records_0 : decode cX6_records 0 = .ok (.aload_n 0, 1) := by decide +kernel
theorem dX6_records_1 : decode cX6_records 1 = .ok (.iconst 0, 1) := by decide +kernel
theorem dX6_records_2 : decode cX6_records 2 = .ok (.putfield 45, 3) := by decide +kernel
theorem dX6_records_5 : decode cX6_records 5 = .ok (.aload_n 0, 1) := by decide +kernel
theorem dX6_records_6 : decode cX6_records 6 = .ok (.getfield 55, 3) := by decide +kernel
theorem dX6_records_9 : decode cX6_records 9 = .ok (.aload_n 0, 1) := by decide +kernel
theorem dX6_records_10 : decode cX6_records 10 = .ok (.getfield 58, 3) := by decide +kernel
theorem dX6_records_13 : decode cX6_records 13 = .ok (.isub, 1) := by decide +kernel
theorem dX6_records_14 : decode cX6_records 14 = .ok (.ireturn, 1) := by decide +kernel
theorem dX6_dropped_0 : decode cX6_dropped 0 = .ok (.aload_n 0, 1) := by decide +kernel
theorem dX6_dropped_1 : decode cX6_dropped 1 = .ok (.iconst 0, 1) := by decide +kernel
theorem dX6_dropped_2 : decode cX6_dropped 2 = .ok (.putfield 45, 3) := by decide +kernel
theorem dX6_dropped_5 : decode cX6_dropped 5 = .ok (.aload_n 0, 1) := by decide +kernel
theorem dX6_dropped_6 : decode cX6_dropped 6 = .ok (.getfield 58, 3) := by decide +kernel
theorem dX6_dropped_9 : decode cX6_dropped 9 = .ok (.ireturn, 1) := by decide +kernel
