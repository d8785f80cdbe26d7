/-! printed decode rows and words -/
set_option maxRecDepth 20000 in
theorem ggX5_init_Jx4a65c_init_da8c8 : GoodIn wsX5_init wsJx4a65c_init_da8c8 := goodIn_r _ [23, 24, 25, 26, 27, 28, 29, 30, 31, 32, 33, 34, 35, 2, 3, 61, 62, 63] (by decide +kernel) (by decide +kernel)
set_option maxRecDepth 20000 in
theorem gX5_init_Jx4a65c_init_da8c8 : GoodIn wsX5_init (wsJx4a65c_init_da8c8) := ggX5_init_Jx4a65c_init_da8c8
set_option maxRecDepth 20000 in
theorem ggX5_init_X0_init : GoodIn wsX5_init wsX0_init := goodIn_r _ [37, 38, 2, 3, 39, 40, 41, 42, 43, 44, 45, 46, 47, 64, 67, 68] (by decide +kernel) (by decide +kernel)
set_option maxRecDepth 20000 in
theorem gX5_init_X0_init_n44 : GoodIn wsX5_init (wsX0_init) := ggX5_init_X0_init
set_option maxRecDepth 20000 in
theorem ggX5_init_X2_init : GoodIn wsX5_init wsX2_init := goodIn_r _ [49, 50, 2, 3, 51, 52, 65, 66] (by decide +kernel) (by decide +kernel)
set_option maxRecDepth 20000 in
theorem gX5_init_X2_init_n45 : GoodIn wsX5_init (wsX2_init) := ggX5_init_X2_init
theorem dX5_init_0 : decode cX5_init 0 = .ok (.aload_n 0, 1) := by decide +kernel
theorem dX5_init_1 : decode cX5_init 1 = .ok (.invokespecial 1, 3) := by decide +kernel
theorem dX5_init_4 : decode cX5_init 4 = .ok (.aload_n 0, 1) := by decide +kernel
theorem dX5_init_5 : decode cX5_init 5 = .ok (.iconst 3, 1) := by decide +kernel
theorem dX5_init_6 : decode cX5_init 6 = .ok (.anewarray 9, 3) := by decide +kernel
theorem dX5_init_9 : decode cX5_init 9 = .ok (.putfield 11, 3) := by decide +kernel
theorem dX5_init_12 : decode cX5_init 12 = .ok (.aload_n 0, 1) := by decide +kernel
theorem dX5_init_13 : decode cX5_init 13 = .ok (.bipush 12, 2) := by decide +kernel
theorem dX5_init_15 : decode cX5_init 15 = .ok (.anewarray 15, 3) := by decide +kernel
theorem dX5_init_18 : decode cX5_init 18 = .ok (.putfield 17, 3) := by decide +kernel
theorem dX5_init_21 : decode cX5_init 21 = .ok (.aload_n 0, 1) := by decide +kernel
theorem dX5_init_22 : decode cX5_init 22 = .ok (.new 21, 3) := by decide +kernel
theorem dX5_init_25 : decode cX5_init 25 = .ok (.dup, 1) := by decide +kernel
theorem dX5_init_26 : decode cX5_init 26 = .ok (.invokespecial 23, 3) := by decide +kernel
theorem dX5_init_29 : decode cX5_init 29 = .ok (.putfield 24, 3) := by decide +kernel
theorem dX5_init_32 : decode cX5_init 32 = .ok (.aload_n 0, 1) := by decide +kernel
theorem dX5_init_33 : decode cX5_init 33 = .ok (.new 21, 3) := by decide +kernel
theorem dX5_init_36 : decode cX5_init 36 = .ok (.dup, 1) := by decide +kernel
theorem dX5_init_37 : decode cX5_init 37 = .ok (.invokespecial 23, 3) := by decide +kernel
theorem dX5_init_40 : decode cX5_init 40 = .ok (.putfield 28, 3) := by decide +kernel
theorem dX5_init_43 : decode cX5_init 43 = .ok (.aload_n 0, 1) := by decide +kernel
theorem dX5_init_44 : decode cX5_init 44 = .ok (.bipush 12, 2) := by decide +kernel
theorem dX5_init_46 : decode cX5_init 46 = .ok (.putfield 31, 3) := by decide +kernel
theorem dX5_init_49 : decode cX5_init 49 = .ok (.aload_n 0, 1) := by decide +kernel
theorem dX5_init_50 : decode cX5_init 50 = .ok (.iconst 0, 1) := by decide +kernel
theorem dX5_init_51 : decode cX5_init 51 = .ok (.putfield 35, 3) := by decide +kernel
theorem dX5_init_54 : decode cX5_init 54 = .ok (.aload_n 0, 1) := by decide +kernel
theorem dX5_init_55 : decode cX5_init 55 = .ok (.iconst 0, 1) := by decide +kernel
theorem dX5_init_56 : decode cX5_init 56 = .ok (.putfield 38, 3) := by decide +kernel
theorem dX5_init_59 : decode cX5_init 59 = .ok (.aload_n 0, 1) := by decide +kernel
theorem dX5_init_60 : decode cX5_init 60 = .ok (.iconst 0, 1) := by decide +kernel
theorem dX5_init_61 : decode cX5_init 61 = .ok (.putfield 41, 3) := by decide +kernel
theorem dX5_init_64 : decode cX5_init 64 = .ok (.iconst 0, 1) := by decide +kernel
theorem dX5_init_65 : decode cX5_init 65 = .ok (.istore_n 1, 1) := by decide +kernel
theorem dX5_init_66 : decode cX5_init 66 = .ok (.iload_n 1, 1) := by decide +kernel
theorem dX5_init_67 : decode cX5_init 67 = .ok (.aload_n 0, 1) := by decide +kernel
theorem dX5_init_68 : decode cX5_init 68 = .ok (.getfield 11, 3) := by decide +kernel
theorem dX5_init_71 : decode cX5_init 71 = .ok (.arraylength, 1) := by decide +kernel
theorem dX5_init_72 : decode cX5_init 72 = .ok (.if_icmp .ge 22, 3) := by decide +kernel
theorem dX5_init_75 : decode cX5_init 75 = .ok (.aload_n 0, 1) := by decide +kernel
theorem dX5_init_76 : decode cX5_init 76 = .ok (.getfield 11, 3) := by decide +kernel
theorem dX5_init_79 : decode cX5_init 79 = .ok (.iload_n 1, 1) := by decide +kernel
theorem dX5_init_80 : decode cX5_init 80 = .ok (.new 9, 3) := by decide +kernel
theorem dX5_init_83 : decode cX5_init 83 = .ok (.dup, 1) := by decide +kernel
theorem dX5_init_84 : decode cX5_init 84 = .ok (.invokespecial 44, 3) := by decide +kernel
theorem dX5_init_87 : decode cX5_init 87 = .ok (.aastore, 1) := by decide +kernel
theorem dX5_init_88 : decode cX5_init 88 = .ok (.iinc 1 1, 3) := by decide +kernel
theorem dX5_init_91 : decode cX5_init 91 = .ok (.goto (-25), 3) := by decide +kernel
theorem dX5_init_94 : decode cX5_init 94 = .ok (.iconst 0, 1) := by decide +kernel
theorem dX5_init_95 : decode cX5_init 95 = .ok (.istore_n 1, 1) := by decide +kernel
theorem dX5_init_96 : decode cX5_init 96 = .ok (.iload_n 1, 1) := by decide +kernel
theorem dX5_init_97 : decode cX5_init 97 = .ok (.aload_n 0, 1) := by decide +kernel
theorem dX5_init_98 : decode cX5_init 98 = .ok (.getfield 17, 3) := by decide +kernel
theorem dX5_init_101 : decode cX5_init 101 = .ok (.arraylength, 1) := by decide +kernel
theorem dX5_init_102 : decode cX5_init 102 = .ok (.if_icmp .ge 30, 3) := by decide +kernel
theorem dX5_init_105 : decode cX5_init 105 = .ok (.aload_n 0, 1) := by decide +kernel
theorem dX5_init_106 : decode cX5_init 106 = .ok (.getfield 17, 3) := by decide +kernel
theorem dX5_init_109 : decode cX5_init 109 = .ok (.iload_n 1, 1) := by decide +kernel
theorem dX5_init_110 : decode cX5_init 110 = .ok (.new 15, 3) := by decide +kernel
theorem dX5_init_113 : decode cX5_init 113 = .ok (.dup, 1) := by decide +kernel
theorem dX5_init_114 : decode cX5_init 114 = .ok (.aload_n 0, 1) := by decide +kernel
theorem dX5_init_115 : decode cX5_init 115 = .ok (.getfield 11, 3) := by decide +kernel
theorem dX5_init_118 : decode cX5_init 118 = .ok (.iload_n 1, 1) := by decide +kernel
theorem dX5_init_119 : decode cX5_init 119 = .ok (.iconst 4, 1) := by decide +kernel
theorem dX5_init_120 : decode cX5_init 120 = .ok (.idiv, 1) := by decide +kernel
theorem dX5_init_121 : decode cX5_init 121 = .ok (.aaload, 1) := by decide +kernel
theorem dX5_init_122 : decode cX5_init 122 = .ok (.invokespecial 45, 3) := by decide +kernel
theorem dX5_init_125 : decode cX5_init 125 = .ok (.aastore, 1) := by decide +kernel
theorem dX5_init_126 : decode cX5_init 126 = .ok (.iinc 1 1, 3) := by decide +kernel
theorem dX5_init_129 : decode cX5_init 129 = .ok (.goto (-33), 3) := by decide +kernel
theorem dX5_init_132 : decode cX5_init 132 = .ok (.return_, 1) := by decide +kernel
set_option maxRecDepth 20000 in
theorem ggX5_setSpace_X5_recordsThere : GoodIn wsX5_setSpace wsX5_recordsThere := goodIn_r _ [10, 11, 12, 13, 14, 15, 16, 17, 18, 19, 20, 21, 22, 23, 24, 25, 26, 27, 28, 29] (by decide +kernel) (by decide +kernel)
set_option maxRecDepth 20000 in
theorem gX5_setSpace_X5_recordsThere : GoodIn wsX5_setSpace (wsV RX5 55 RX5 yX5_recordsThere wsX5_recordsThere) := goodIn_app (goodIn_of _ (by decide +kernel)) ggX5_setSpace_X5_recordsThere
theorem dX5_setSpace_0 : decode cX5_setSpace 0 = .ok (.iload_n 1, 1) := by decide +kernel
theorem dX5_setSpace_1 : decode cX5_setSpace 1 = .ok (.iconst 1, 1) := by decide +kernel
theorem dX5_setSpace_2 : decode cX5_setSpace 2 = .ok (.if_icmp .lt 9, 3) := by decide +kernel
theorem dX5_setSpace_5 : decode cX5_setSpace 5 = .ok (.iload_n 1, 1) := by decide +kernel
theorem dX5_setSpace_6 : decode cX5_setSpace 6 = .ok (.bipush 30, 2) := by decide +kernel
theorem dX5_setSpace_8 : decode cX5_setSpace 8 = .ok (.if_icmp .le 13, 3) := by decide +kernel
theorem dX5_setSpace_11 : decode cX5_setSpace 11 = .ok (.new 48, 3) := by decide +kernel
theorem dX5_setSpace_14 : decode cX5_setSpace 14 = .ok (.dup, 1) := by decide +kernel
theorem dX5_setSpace_15 : decode cX5_setSpace 15 = .ok (.ldc 50, 2) := by decide +kernel
theorem dX5_setSpace_17 : decode cX5_setSpace 17 = .ok (.invokespecial 52, 3) := by decide +kernel
theorem dX5_setSpace_20 : decode cX5_setSpace 20 = .ok (.athrow, 1) := by decide +kernel
theorem dX5_setSpace_21 : decode cX5_setSpace 21 = .ok (.aload_n 0, 1) := by decide +kernel
theorem dX5_setSpace_22 : decode cX5_setSpace 22 = .ok (.invokevirtual 55, 3) := by decide +kernel
theorem dX5_setSpace_25 : decode cX5_setSpace 25 = .ok (.iload_n 1, 1) := by decide +kernel
theorem dX5_setSpace_26 : decode cX5_setSpace 26 = .ok (.if_icmp .le 13, 3) := by decide +kernel
theorem dX5_setSpace_29 : decode cX5_setSpace 29 = .ok (.new 59, 3) := by decide +kernel
theorem dX5_setSpace_32 : decode cX5_setSpace 32 = .ok (.dup, 1) := by decide +kernel
theorem dX5_setSpace_33 : decode cX5_setSpace 33 = .ok (.ldc 61, 2) := by decide +kernel
theorem dX5_setSpace_35 : decode cX5_setSpace 35 = .ok (.invokespecial 63, 3) := by decide +kernel
theorem dX5_setSpace_38 : decode cX5_setSpace 38 = .ok (.athrow, 1) := by decide +kernel
theorem dX5_setSpace_39 : decode cX5_setSpace 39 = .ok (.aload_n 0, 1) := by decide +kernel
theorem dX5_setSpace_40 : decode cX5_setSpace 40 = .ok (.getfield 31, 3) := by decide +kernel
theorem dX5_setSpace_43 : decode cX5_setSpace 43 = .ok (.istore_n 2, 1) := by decide +kernel
theorem dX5_setSpace_44 : decode cX5_setSpace 44 = .ok (.aload_n 0, 1) := by decide +kernel
theorem dX5_setSpace_45 : decode cX5_setSpace 45 = .ok (.iload_n 1, 1) := by decide +kernel
theorem dX5_setSpace_46 : decode cX5_setSpace 46 = .ok (.putfield 31, 3) := by decide +kernel
theorem dX5_setSpace_49 : decode cX5_setSpace 49 = .ok (.iload_n 2, 1) := by decide +kernel
theorem dX5_setSpace_50 : decode cX5_setSpace 50 = .ok (.ireturn, 1) := by decide +kernel
set_option maxRecDepth 20000 in
theorem ggX5_begin_Jx4a65c_size_8abf5 : GoodIn wsX5_begin wsJx4a65c_size_8abf5 := goodIn_r _ [12, 13, 91, 92, 93] (by decide +kernel) (by decide +kernel)
set_option maxRecDepth 20000 in
theorem gX5_begin_Jx4a65c_size_8abf5 : GoodIn wsX5_begin (wsV RX5 64 RJx4a65c yJx4a65c_size_8abf5 wsJx4a65c_size_8abf5) := goodIn_app (goodIn_of _ (by decide +kernel)) ggX5_begin_Jx4a65c_size_8abf5
set_option maxRecDepth 20000 in
theorem ggX5_begin_X4_init : GoodIn wsX5_begin wsX4_init := goodIn_r _ [15, 16, 17, 18, 19, 20, 21, 22, 23, 86, 87, 88, 89, 90] (by decide +kernel) (by decide +kernel)
set_option maxRecDepth 20000 in
theorem gX5_begin_X4_init_n71 : GoodIn wsX5_begin (wsX4_init) := ggX5_begin_X4_init
set_option maxRecDepth 20000 in
theorem ggX5_begin_Jx4a65c_add_9ea2d : GoodIn wsX5_begin wsJx4a65c_add_9ea2d := goodIn_r _ [27, 28, 29, 30, 13, 31, 32, 33, 11, 34, 35, 36, 37, 38, 39, 40, 41, 42, 43, 44, 45, 46, 47, 48, 49, 50, 51, 52, 53, 54, 55, 56, 57, 58, 59, 60, 61, 62, 63, 64, 65, 66, 67, 68, 69, 70, 71, 72, 73, 74, 75, 76, 77, 91, 92, 93] (by decide +kernel) (by decide +kernel)
set_option maxRecDepth 20000 in
theorem gX5_begin_Jx4a65c_add_9ea2d : GoodIn wsX5_begin (wsV RX5 74 RJx4a65c yJx4a65c_add_9ea2d wsJx4a65c_add_9ea2d) := goodIn_app (goodIn_of _ (by decide +kernel)) ggX5_begin_Jx4a65c_add_9ea2d
theorem dX5_begin_0 : decode cX5_begin 0 = .ok (.aload_n 0, 1) := by decide +kernel
theorem dX5_begin_1 : decode cX5_begin 1 = .ok (.getfield 24, 3) := by decide +kernel
theorem dX5_begin_4 : decode cX5_begin 4 = .ok (.invokevirtual 64, 3) := by decide +kernel
theorem dX5_begin_7 : decode cX5_begin 7 = .ok (.bipush 60, 2) := by decide +kernel
theorem dX5_begin_9 : decode cX5_begin 9 = .ok (.if_icmp .lt 13, 3) := by decide +kernel
theorem dX5_begin_12 : decode cX5_begin 12 = .ok (.new 59, 3) := by decide +kernel
theorem dX5_begin_15 : decode cX5_begin 15 = .ok (.dup, 1) := by decide +kernel
theorem dX5_begin_16 : decode cX5_begin 16 = .ok (.ldc 67, 2) := by decide +kernel
theorem dX5_begin_18 : decode cX5_begin 18 = .ok (.invokespecial 63, 3) := by decide +kernel
theorem dX5_begin_21 : decode cX5_begin 21 = .ok (.athrow, 1) := by decide +kernel
theorem dX5_begin_22 : decode cX5_begin 22 = .ok (.new 69, 3) := by decide +kernel
theorem dX5_begin_25 : decode cX5_begin 25 = .ok (.dup, 1) := by decide +kernel
theorem dX5_begin_26 : decode cX5_begin 26 = .ok (.aload_n 0, 1) := by decide +kernel
theorem dX5_begin_27 : decode cX5_begin 27 = .ok (.getfield 24, 3) := by decide +kernel
theorem dX5_begin_30 : decode cX5_begin 30 = .ok (.invokevirtual 64, 3) := by decide +kernel
theorem dX5_begin_33 : decode cX5_begin 33 = .ok (.aload_n 0, 1) := by decide +kernel
theorem dX5_begin_34 : decode cX5_begin 34 = .ok (.getfield 35, 3) := by decide +kernel
theorem dX5_begin_37 : decode cX5_begin 37 = .ok (.invokespecial 71, 3) := by decide +kernel
theorem dX5_begin_40 : decode cX5_begin 40 = .ok (.astore_n 1, 1) := by decide +kernel
theorem dX5_begin_41 : decode cX5_begin 41 = .ok (.aload_n 0, 1) := by decide +kernel
theorem dX5_begin_42 : decode cX5_begin 42 = .ok (.getfield 24, 3) := by decide +kernel
theorem dX5_begin_45 : decode cX5_begin 45 = .ok (.aload_n 1, 1) := by decide +kernel
theorem dX5_begin_46 : decode cX5_begin 46 = .ok (.invokevirtual 74, 3) := by decide +kernel
theorem dX5_begin_49 : decode cX5_begin 49 = .ok (.pop, 1) := by decide +kernel
theorem dX5_begin_50 : decode cX5_begin 50 = .ok (.aload_n 1, 1) := by decide +kernel
theorem dX5_begin_51 : decode cX5_begin 51 = .ok (.getfield 78, 3) := by decide +kernel
theorem dX5_begin_54 : decode cX5_begin 54 = .ok (.ireturn, 1) := by decide +kernel
set_option maxRecDepth 20000 in
theorem ggX5_write_X5_transactionNumbered : GoodIn wsX5_write wsX5_transactionNumbered := goodIn_ca (goodIn_r _ [16, 17, 18, 19, 20, 21, 22, 23, 24, 25, 26, 27, 28, 29, 30, 31, 32, 33, 34, 35, 36, 37, 38, 39, 40, 41, 42, 43, 167, 168, 169, 170, 171, 172, 173, 174, 179, 180, 181] (by decide +kernel) (by decide +kernel)) (goodIn_sub (fun _ h => List.mem_cons_of_mem _ (List.mem_append_right _ h)) (by decide +kernel))
set_option maxRecDepth 20000 in
theorem gX5_write_X5_transactionNumbered : GoodIn wsX5_write (wsV RX5 81 RX5 yX5_transactionNumbered wsX5_transactionNumbered) := goodIn_app (goodIn_of _ (by decide +kernel)) ggX5_write_X5_transactionNumbered
set_option maxRecDepth 20000 in
theorem ggX5_write_X5_rowNumbered : GoodIn wsX5_write wsX5_rowNumbered := goodIn_ca (goodIn_r _ [47, 17, 18, 48, 167, 168, 169, 170, 171, 172, 173, 174] (by decide +kernel) (by decide +kernel)) (goodIn_sub (fun _ h => List.mem_cons_of_mem _ (List.mem_append_right _ h)) (by decide +kernel))
set_option maxRecDepth 20000 in
theorem gX5_write_X5_rowNumbered : GoodIn wsX5_write (wsV RX5 85 RX5 yX5_rowNumbered wsX5_rowNumbered) := goodIn_app (goodIn_of _ (by decide +kernel)) ggX5_write_X5_rowNumbered
set_option maxRecDepth 20000 in
theorem ggX5_write_X5_refuseIfEnded : GoodIn wsX5_write wsX5_refuseIfEnded := goodIn_ca (goodIn_r _ [52, 3, 4, 182, 183, 184, 185, 186] (by decide +kernel) (by decide +kernel)) (goodIn_sub (fun _ h => List.mem_cons_of_mem _ (List.mem_append_left _ (List.mem_append_right _ h))) (by decide +kernel))
set_option maxRecDepth 20000 in
theorem gX5_write_X5_refuseIfEnded : GoodIn wsX5_write (wsV RX5 93 RX5 yX5_refuseIfEnded wsX5_refuseIfEnded) := goodIn_app (goodIn_of _ (by decide +kernel)) ggX5_write_X5_refuseIfEnded
set_option maxRecDepth 20000 in
theorem ggX5_write_X5_refuseIfLockedByAnother : GoodIn wsX5_write wsX5_refuseIfLockedByAnother := goodIn_ca (goodIn_r _ [56, 3, 4, 57, 58, 59, 15, 60, 11, 61, 21, 22, 23, 24, 25, 26, 27, 28, 29, 30, 31, 32, 33, 34, 35, 36, 37, 38, 39, 40, 41, 42, 43, 62, 10, 63, 64, 65, 66, 167, 168, 169, 170, 171, 172, 173, 174, 175, 176, 177, 178, 182, 183, 184, 185, 186, 179, 180, 181] (by decide +kernel) (by decide +kernel)) (goodIn_sub (fun _ h => List.mem_cons_of_mem _ (List.mem_append_left _ (List.mem_append_right _ h))) (by decide +kernel))
set_option maxRecDepth 20000 in
theorem gX5_write_X5_refuseIfLockedByAnother : GoodIn wsX5_write (wsV RX5 97 RX5 yX5_refuseIfLockedByAnother wsX5_refuseIfLockedByAnother) := goodIn_app (goodIn_of _ (by decide +kernel)) ggX5_write_X5_refuseIfLockedByAnother
set_option maxRecDepth 20000 in
theorem ggX5_write_X5_refuseIfNoSpace : GoodIn wsX5_write wsX5_refuseIfNoSpace := goodIn_ca (goodIn_r _ [70, 3, 4, 11, 7, 61, 21, 22, 23, 24, 25, 26, 71, 72, 73, 15, 74, 75, 76, 77, 78, 79, 27, 28, 29, 30, 31, 32, 33, 34, 35, 36, 37, 38, 39, 40, 41, 42, 43, 167, 168, 169, 170, 171, 172, 173, 174, 175, 176, 177, 178, 182, 183, 184, 185, 186, 179, 180, 181] (by decide +kernel) (by decide +kernel)) (goodIn_sub (fun _ h => List.mem_cons_of_mem _ (List.mem_append_left _ (List.mem_append_right _ h))) (by decide +kernel))
set_option maxRecDepth 20000 in
theorem gX5_write_X5_refuseIfNoSpace : GoodIn wsX5_write (wsV RX5 101 RX5 yX5_refuseIfNoSpace wsX5_refuseIfNoSpace) := goodIn_app (goodIn_of _ (by decide +kernel)) ggX5_write_X5_refuseIfNoSpace
set_option maxRecDepth 20000 in
theorem ggX5_write_X0_slotFor : GoodIn wsX5_write wsX0_slotFor := goodIn_r _ [83, 84, 85, 86, 87, 88, 89, 187, 188, 189, 182, 183, 184, 185, 186] (by decide +kernel) (by decide +kernel)
set_option maxRecDepth 20000 in
theorem gX5_write_X0_slotFor_n108 : GoodIn wsX5_write (wsX0_slotFor) := ggX5_write_X0_slotFor
set_option maxRecDepth 20000 in
theorem ggX5_write_X5_clean : GoodIn wsX5_write wsX5_clean := goodIn_r _ [93, 94, 95, 81, 96, 97, 84, 85, 86, 87, 88, 89, 167, 168, 169, 170, 171, 172, 173, 174, 187, 188, 189, 182, 183, 184, 185, 186] (by decide +kernel) (by decide +kernel)
set_option maxRecDepth 20000 in
theorem gX5_write_X5_clean : GoodIn wsX5_write (wsV RX5 114 RX5 yX5_clean wsX5_clean) := goodIn_app (goodIn_of _ (by decide +kernel)) ggX5_write_X5_clean
set_option maxRecDepth 20000 in
theorem ggX5_write_X3_give : GoodIn wsX5_write wsX3_give := goodIn_r _ [100, 89, 101, 188, 189] (by decide +kernel) (by decide +kernel)
set_option maxRecDepth 20000 in
theorem gX5_write_X3_give_n117 : GoodIn wsX5_write (wsX3_give) := ggX5_write_X3_give
set_option maxRecDepth 20000 in
theorem ggX5_write_X5_isSpaceFull : GoodIn wsX5_write wsX5_isSpaceFull := goodIn_r _ [74, 7, 11, 75, 21, 22, 23, 24, 25, 26, 76, 77, 78, 15, 79, 167, 168, 169, 170, 171, 172, 173, 174, 179, 180, 181] (by decide +kernel) (by decide +kernel)
set_option maxRecDepth 20000 in
theorem gX5_write_X5_isSpaceFull : GoodIn wsX5_write (wsV RX5 122 RX5 yX5_isSpaceFull wsX5_isSpaceFull) := goodIn_app (goodIn_of _ (by decide +kernel)) ggX5_write_X5_isSpaceFull
set_option maxRecDepth 20000 in
theorem ggX5_write_X1_init : GoodIn wsX5_write wsX1_init := goodIn_r _ [103, 104, 105, 106, 66, 107, 65, 108, 175, 176, 177, 178] (by decide +kernel) (by decide +kernel)
set_option maxRecDepth 20000 in
theorem gX5_write_X1_init_n131 : GoodIn wsX5_write (wsX1_init) := ggX5_write_X1_init
set_option maxRecDepth 20000 in
theorem ggX5_write_Jx4a65c_add_9ea2d : GoodIn wsX5_write wsJx4a65c_add_9ea2d := goodIn_r _ [112, 113, 114, 43, 26, 115, 116, 117, 24, 118, 119, 120, 121, 122, 123, 124, 125, 126, 127, 128, 129, 130, 131, 132, 133, 134, 135, 136, 137, 138, 139, 140, 141, 142, 143, 144, 145, 146, 147, 148, 149, 150, 151, 152, 153, 154, 155, 156, 157, 158, 159, 160, 161, 179, 180, 181] (by decide +kernel) (by decide +kernel)
set_option maxRecDepth 20000 in
theorem gX5_write_Jx4a65c_add_9ea2d : GoodIn wsX5_write (wsV RX5 74 RJx4a65c yJx4a65c_add_9ea2d wsJx4a65c_add_9ea2d) := goodIn_app (goodIn_of _ (by decide +kernel)) ggX5_write_Jx4a65c_add_9ea2d
set_option maxRecDepth 20000 in
theorem ggX5_write_X1_make : GoodIn wsX5_write wsX1_make := goodIn_r _ [164, 65, 107, 175, 176, 177, 178, 165, 166, 182, 183, 184, 185, 186] (by decide +kernel) (by decide +kernel)
set_option maxRecDepth 20000 in
theorem gX5_write_X1_make_n134 : GoodIn wsX5_write (wsX1_make) := ggX5_write_X1_make
theorem dX5_write_0 : decode cX5_write 0 = .ok (.aload_n 0, 1) := by decide +kernel
theorem dX5_write_1 : decode cX5_write 1 = .ok (.iload_n 1, 1) := by decide +kernel
theorem dX5_write_2 : decode cX5_write 2 = .ok (.invokevirtual 81, 3) := by decide +kernel
theorem dX5_write_5 : decode cX5_write 5 = .ok (.astore 4, 2) := by decide +kernel
theorem dX5_write_7 : decode cX5_write 7 = .ok (.aload_n 0, 1) := by decide +kernel
theorem dX5_write_8 : decode cX5_write 8 = .ok (.iload_n 2, 1) := by decide +kernel
theorem dX5_write_9 : decode cX5_write 9 = .ok (.invokevirtual 85, 3) := by decide +kernel
theorem dX5_write_12 : decode cX5_write 12 = .ok (.astore 5, 2) := by decide +kernel
theorem dX5_write_14 : decode cX5_write 14 = .ok (.iload_n 3, 1) := by decide +kernel
theorem dX5_write_15 : decode cX5_write 15 = .ok (.ldc 89, 2) := by decide +kernel
theorem dX5_write_17 : decode cX5_write 17 = .ok (.if_icmp .lt 9, 3) := by decide +kernel
theorem dX5_write_20 : decode cX5_write 20 = .ok (.iload_n 3, 1) := by decide +kernel
theorem dX5_write_21 : decode cX5_write 21 = .ok (.ldc 90, 2) := by decide +kernel
theorem dX5_write_23 : decode cX5_write 23 = .ok (.if_icmp .le 13, 3) := by decide +kernel
theorem dX5_write_26 : decode cX5_write 26 = .ok (.new 48, 3) := by decide +kernel
theorem dX5_write_29 : decode cX5_write 29 = .ok (.dup, 1) := by decide +kernel
theorem dX5_write_30 : decode cX5_write 30 = .ok (.ldc 91, 2) := by decide +kernel
theorem dX5_write_32 : decode cX5_write 32 = .ok (.invokespecial 52, 3) := by decide +kernel
theorem dX5_write_35 : decode cX5_write 35 = .ok (.athrow, 1) := by decide +kernel
theorem dX5_write_36 : decode cX5_write 36 = .ok (.aload_n 0, 1) := by decide +kernel
theorem dX5_write_37 : decode cX5_write 37 = .ok (.aload 4, 2) := by decide +kernel
theorem dX5_write_39 : decode cX5_write 39 = .ok (.invokevirtual 93, 3) := by decide +kernel
theorem dX5_write_42 : decode cX5_write 42 = .ok (.aload_n 0, 1) := by decide +kernel
theorem dX5_write_43 : decode cX5_write 43 = .ok (.aload 5, 2) := by decide +kernel
theorem dX5_write_45 : decode cX5_write 45 = .ok (.aload 4, 2) := by decide +kernel
theorem dX5_write_47 : decode cX5_write 47 = .ok (.invokevirtual 97, 3) := by decide +kernel
theorem dX5_write_50 : decode cX5_write 50 = .ok (.aload_n 0, 1) := by decide +kernel
theorem dX5_write_51 : decode cX5_write 51 = .ok (.invokevirtual 101, 3) := by decide +kernel
theorem dX5_write_54 : decode cX5_write 54 = .ok (.aload 5, 2) := by decide +kernel
theorem dX5_write_56 : decode cX5_write 56 = .ok (.getfield 104, 3) := by decide +kernel
theorem dX5_write_59 : decode cX5_write 59 = .ok (.aload 4, 2) := by decide +kernel
theorem dX5_write_61 : decode cX5_write 61 = .ok (.invokevirtual 108, 3) := by decide +kernel
theorem dX5_write_64 : decode cX5_write 64 = .ok (.astore 6, 2) := by decide +kernel
theorem dX5_write_66 : decode cX5_write 66 = .ok (.aload 6, 2) := by decide +kernel
theorem dX5_write_68 : decode cX5_write 68 = .ok (.ifnonnull 13, 3) := by decide +kernel
theorem dX5_write_71 : decode cX5_write 71 = .ok (.new 59, 3) := by decide +kernel
theorem dX5_write_74 : decode cX5_write 74 = .ok (.dup, 1) := by decide +kernel
theorem dX5_write_75 : decode cX5_write 75 = .ok (.ldc 112, 2) := by decide +kernel
theorem dX5_write_77 : decode cX5_write 77 = .ok (.invokespecial 63, 3) := by decide +kernel
theorem dX5_write_80 : decode cX5_write 80 = .ok (.athrow, 1) := by decide +kernel
theorem dX5_write_81 : decode cX5_write 81 = .ok (.aload_n 0, 1) := by decide +kernel
theorem dX5_write_82 : decode cX5_write 82 = .ok (.aload 5, 2) := by decide +kernel
theorem dX5_write_84 : decode cX5_write 84 = .ok (.getfield 104, 3) := by decide +kernel
theorem dX5_write_87 : decode cX5_write 87 = .ok (.invokevirtual 114, 3) := by decide +kernel
theorem dX5_write_90 : decode cX5_write 90 = .ok (.aload 6, 2) := by decide +kernel
theorem dX5_write_92 : decode cX5_write 92 = .ok (.aload 4, 2) := by decide +kernel
theorem dX5_write_94 : decode cX5_write 94 = .ok (.invokevirtual 117, 3) := by decide +kernel
theorem dX5_write_97 : decode cX5_write 97 = .ok (.aload_n 0, 1) := by decide +kernel
theorem dX5_write_98 : decode cX5_write 98 = .ok (.invokevirtual 122, 3) := by decide +kernel
theorem dX5_write_101 : decode cX5_write 101 = .ok (.ifCond .eq 13, 3) := by decide +kernel
theorem dX5_write_104 : decode cX5_write 104 = .ok (.aload_n 0, 1) := by decide +kernel
theorem dX5_write_105 : decode cX5_write 105 = .ok (.dup, 1) := by decide +kernel
theorem dX5_write_106 : decode cX5_write 106 = .ok (.getfield 41, 3) := by decide +kernel
theorem dX5_write_109 : decode cX5_write 109 = .ok (.iconst 1, 1) := by decide +kernel
theorem dX5_write_110 : decode cX5_write 110 = .ok (.iadd, 1) := by decide +kernel
theorem dX5_write_111 : decode cX5_write 111 = .ok (.putfield 41, 3) := by decide +kernel
theorem dX5_write_114 : decode cX5_write 114 = .ok (.new 126, 3) := by decide +kernel
theorem dX5_write_117 : decode cX5_write 117 = .ok (.dup, 1) := by decide +kernel
theorem dX5_write_118 : decode cX5_write 118 = .ok (.aload 4, 2) := by decide +kernel
theorem dX5_write_120 : decode cX5_write 120 = .ok (.aload 5, 2) := by decide +kernel
theorem dX5_write_122 : decode cX5_write 122 = .ok (.aload 5, 2) := by decide +kernel
theorem dX5_write_124 : decode cX5_write 124 = .ok (.getfield 128, 3) := by decide +kernel
theorem dX5_write_127 : decode cX5_write 127 = .ok (.invokespecial 131, 3) := by decide +kernel
theorem dX5_write_130 : decode cX5_write 130 = .ok (.astore 7, 2) := by decide +kernel
theorem dX5_write_132 : decode cX5_write 132 = .ok (.aload_n 0, 1) := by decide +kernel
theorem dX5_write_133 : decode cX5_write 133 = .ok (.getfield 28, 3) := by decide +kernel
theorem dX5_write_136 : decode cX5_write 136 = .ok (.aload 7, 2) := by decide +kernel
theorem dX5_write_138 : decode cX5_write 138 = .ok (.invokevirtual 74, 3) := by decide +kernel
theorem dX5_write_141 : decode cX5_write 141 = .ok (.pop, 1) := by decide +kernel
theorem dX5_write_142 : decode cX5_write 142 = .ok (.aload 7, 2) := by decide +kernel
theorem dX5_write_144 : decode cX5_write 144 = .ok (.iload_n 3, 1) := by decide +kernel
theorem dX5_write_145 : decode cX5_write 145 = .ok (.invokevirtual 134, 3) := by decide +kernel
theorem dX5_write_148 : decode cX5_write 148 = .ok (.aload 7, 2) := by decide +kernel
theorem dX5_write_150 : decode cX5_write 150 = .ok (.getfield 138, 3) := by decide +kernel
theorem dX5_write_153 : decode cX5_write 153 = .ok (.ireturn, 1) := by decide +kernel
set_option maxRecDepth 20000 in
theorem ggX5_read_X5_transactionNumbered : GoodIn wsX5_read wsX5_transactionNumbered := goodIn_ca (goodIn_r _ [5, 6, 7, 8, 9, 10, 11, 12, 13, 14, 15, 16, 17, 18, 19, 20, 21, 22, 23, 24, 25, 26, 27, 28, 29, 30, 31, 32, 96, 97, 98, 99, 100, 101, 102, 103, 104, 105, 106] (by decide +kernel) (by decide +kernel)) (goodIn_sub (fun _ h => List.mem_cons_of_mem _ (List.mem_append_left _ (List.mem_append_left _ (List.mem_append_right _ h)))) (by decide +kernel))
set_option maxRecDepth 20000 in
theorem gX5_read_X5_transactionNumbered : GoodIn wsX5_read (wsV RX5 81 RX5 yX5_transactionNumbered wsX5_transactionNumbered) := goodIn_app (goodIn_of _ (by decide +kernel)) ggX5_read_X5_transactionNumbered
set_option maxRecDepth 20000 in
theorem ggX5_read_X5_rowNumbered : GoodIn wsX5_read wsX5_rowNumbered := goodIn_ca (goodIn_r _ [36, 6, 7, 37, 96, 97, 98, 99, 100, 101, 102, 103] (by decide +kernel) (by decide +kernel)) (goodIn_sub (fun _ h => List.mem_cons_of_mem _ (List.mem_append_left _ (List.mem_append_left _ (List.mem_append_right _ h)))) (by decide +kernel))
set_option maxRecDepth 20000 in
theorem gX5_read_X5_rowNumbered : GoodIn wsX5_read (wsV RX5 85 RX5 yX5_rowNumbered wsX5_rowNumbered) := goodIn_app (goodIn_of _ (by decide +kernel)) ggX5_read_X5_rowNumbered
set_option maxRecDepth 20000 in
theorem ggX5_read_X5_refuseIfEnded : GoodIn wsX5_read wsX5_refuseIfEnded := goodIn_ca (goodIn_r _ [41, 42, 43, 91, 92, 93, 94, 95] (by decide +kernel) (by decide +kernel)) (goodIn_sub (fun _ h => List.mem_cons_of_mem _ (List.mem_append_left _ (List.mem_append_right _ h))) (by decide +kernel))
set_option maxRecDepth 20000 in
theorem gX5_read_X5_refuseIfEnded : GoodIn wsX5_read (wsV RX5 93 RX5 yX5_refuseIfEnded wsX5_refuseIfEnded) := goodIn_app (goodIn_of _ (by decide +kernel)) ggX5_read_X5_refuseIfEnded
set_option maxRecDepth 20000 in
theorem ggX5_read_X5_readFromRecords : GoodIn wsX5_read wsX5_readFromRecords := goodIn_ca (goodIn_r _ [47, 48, 49, 50, 51, 52, 53, 4, 54, 55, 56, 10, 11, 12, 13, 14, 15, 16, 17, 18, 19, 20, 21, 22, 23, 24, 25, 26, 27, 28, 29, 30, 31, 32, 57, 58, 59, 60, 61, 62, 63, 64, 65, 66, 67, 68, 69, 70, 71, 72, 73, 74, 75, 76, 77, 78, 79, 80, 81, 82, 83, 84, 85, 86, 87, 88, 89, 90, 96, 97, 98, 99, 100, 101, 102, 103, 107, 108, 104, 105, 106, 109, 110, 111, 112, 91, 92, 93, 94, 95, 113, 114, 115] (by decide +kernel) (by decide +kernel)) (goodIn_sub (fun _ h => List.mem_cons_of_mem _ (List.mem_append_right _ h)) (by decide +kernel))
set_option maxRecDepth 20000 in
theorem gX5_read_X5_readFromRecords : GoodIn wsX5_read (wsV RX5 144 RX5 yX5_readFromRecords wsX5_readFromRecords) := goodIn_app (goodIn_of _ (by decide +kernel)) ggX5_read_X5_readFromRecords
theorem dX5_read_0 : decode cX5_read 0 = .ok (.aload_n 0, 1) := by decide +kernel
theorem dX5_read_1 : decode cX5_read 1 = .ok (.iload_n 1, 1) := by decide +kernel
theorem dX5_read_2 : decode cX5_read 2 = .ok (.invokevirtual 81, 3) := by decide +kernel
theorem dX5_read_5 : decode cX5_read 5 = .ok (.astore_n 3, 1) := by decide +kernel
theorem dX5_read_6 : decode cX5_read 6 = .ok (.aload_n 0, 1) := by decide +kernel
theorem dX5_read_7 : decode cX5_read 7 = .ok (.iload_n 2, 1) := by decide +kernel
theorem dX5_read_8 : decode cX5_read 8 = .ok (.invokevirtual 85, 3) := by decide +kernel
theorem dX5_read_11 : decode cX5_read 11 = .ok (.astore 4, 2) := by decide +kernel
theorem dX5_read_13 : decode cX5_read 13 = .ok (.aload_n 0, 1) := by decide +kernel
theorem dX5_read_14 : decode cX5_read 14 = .ok (.aload_n 3, 1) := by decide +kernel
theorem dX5_read_15 : decode cX5_read 15 = .ok (.invokevirtual 93, 3) := by decide +kernel
theorem dX5_read_18 : decode cX5_read 18 = .ok (.aload_n 0, 1) := by decide +kernel
theorem dX5_read_19 : decode cX5_read 19 = .ok (.aload 4, 2) := by decide +kernel
theorem dX5_read_21 : decode cX5_read 21 = .ok (.aload_n 3, 1) := by decide +kernel
theorem dX5_read_22 : decode cX5_read 22 = .ok (.getfield 141, 3) := by decide +kernel
theorem dX5_read_25 : decode cX5_read 25 = .ok (.aload_n 3, 1) := by decide +kernel
theorem dX5_read_26 : decode cX5_read 26 = .ok (.invokevirtual 144, 3) := by decide +kernel
theorem dX5_read_29 : decode cX5_read 29 = .ok (.ireturn, 1) := by decide +kernel
set_option maxRecDepth 20000 in
theorem ggX5_readAt_X5_rowNumbered : GoodIn wsX5_readAt wsX5_rowNumbered := goodIn_ca (goodIn_r _ [5, 6, 7, 8, 86, 87, 88, 89, 90, 91, 92, 93] (by decide +kernel) (by decide +kernel)) (goodIn_sub (fun _ h => List.mem_cons_of_mem _ (List.mem_append_left _ (List.mem_append_left _ (List.mem_append_right _ h)))) (by decide +kernel))
set_option maxRecDepth 20000 in
theorem gX5_readAt_X5_rowNumbered : GoodIn wsX5_readAt (wsV RX5 85 RX5 yX5_rowNumbered wsX5_rowNumbered) := goodIn_app (goodIn_of _ (by decide +kernel)) ggX5_readAt_X5_rowNumbered
set_option maxRecDepth 20000 in
theorem ggX5_readAt_X5_refuseIfNotYet : GoodIn wsX5_readAt wsX5_refuseIfNotYet := goodIn_ca (goodIn_r _ [12, 13, 14, 15, 86, 87, 88, 89, 90, 91, 92, 93] (by decide +kernel) (by decide +kernel)) (goodIn_sub (fun _ h => List.mem_cons_of_mem _ (List.mem_append_left _ (List.mem_append_right _ h))) (by decide +kernel))
set_option maxRecDepth 20000 in
theorem gX5_readAt_X5_refuseIfNotYet : GoodIn wsX5_readAt (wsV RX5 148 RX5 yX5_refuseIfNotYet wsX5_refuseIfNotYet) := goodIn_app (goodIn_of _ (by decide +kernel)) ggX5_readAt_X5_refuseIfNotYet
set_option maxRecDepth 20000 in
theorem ggX5_readAt_X5_readFromRecords : GoodIn wsX5_readAt wsX5_readFromRecords := goodIn_ca (goodIn_r _ [19, 20, 21, 22, 23, 24, 25, 4, 26, 27, 28, 29, 30, 31, 32, 33, 34, 35, 36, 37, 38, 39, 40, 41, 42, 43, 44, 45, 46, 47, 48, 49, 50, 51, 52, 53, 54, 55, 56, 57, 58, 59, 60, 61, 62, 63, 64, 65, 66, 67, 68, 69, 70, 71, 72, 73, 74, 75, 76, 77, 78, 79, 80, 81, 82, 83, 84, 85, 86, 87, 88, 89, 90, 91, 92, 93, 94, 95, 96, 97, 98, 99, 100, 101, 102, 103, 104, 105, 106, 107, 108, 109, 110] (by decide +kernel) (by decide +kernel)) (goodIn_sub (fun _ h => List.mem_cons_of_mem _ (List.mem_append_right _ h)) (by decide +kernel))
set_option maxRecDepth 20000 in
theorem gX5_readAt_X5_readFromRecords : GoodIn wsX5_readAt (wsV RX5 144 RX5 yX5_readFromRecords wsX5_readFromRecords) := goodIn_app (goodIn_of _ (by decide +kernel)) ggX5_readAt_X5_readFromRecords
theorem dX5_readAt_0 : decode cX5_readAt 0 = .ok (.aload_n 0, 1) := by decide +kernel
theorem dX5_readAt_1 : decode cX5_readAt 1 = .ok (.iload_n 2, 1) := by decide +kernel
theorem dX5_readAt_2 : decode cX5_readAt 2 = .ok (.invokevirtual 85, 3) := by decide +kernel
theorem dX5_readAt_5 : decode cX5_readAt 5 = .ok (.astore_n 3, 1) := by decide +kernel
theorem dX5_readAt_6 : decode cX5_readAt 6 = .ok (.aload_n 0, 1) := by decide +kernel
theorem dX5_readAt_7 : decode cX5_readAt 7 = .ok (.iload_n 1, 1) := by decide +kernel
theorem dX5_readAt_8 : decode cX5_readAt 8 = .ok (.invokevirtual 148, 3) := by decide +kernel
theorem dX5_readAt_11 : decode cX5_readAt 11 = .ok (.aload_n 0, 1) := by decide +kernel
theorem dX5_readAt_12 : decode cX5_readAt 12 = .ok (.aload_n 3, 1) := by decide +kernel
theorem dX5_readAt_13 : decode cX5_readAt 13 = .ok (.iload_n 1, 1) := by decide +kernel
theorem dX5_readAt_14 : decode cX5_readAt 14 = .ok (.aconst_null, 1) := by decide +kernel
theorem dX5_readAt_15 : decode cX5_readAt 15 = .ok (.invokevirtual 144, 3) := by decide +kernel
theorem dX5_readAt_18 : decode cX5_readAt 18 = .ok (.ireturn, 1) := by decide +kernel
set_option maxRecDepth 20000 in
theorem ggX5_save_X5_transactionNumbered : GoodIn wsX5_save wsX5_transactionNumbered := goodIn_ca (goodIn_r _ [5, 6, 7, 8, 9, 10, 11, 12, 13, 14, 15, 16, 17, 18, 19, 20, 21, 22, 23, 24, 25, 26, 27, 28, 29, 30, 31, 32, 44, 45, 46, 47, 48, 49, 50, 51, 52, 53, 54] (by decide +kernel) (by decide +kernel)) (goodIn_sub (fun _ h => List.mem_cons_of_mem _ (List.mem_append_left _ (List.mem_append_right _ h))) (by decide +kernel))
set_option maxRecDepth 20000 in
theorem gX5_save_X5_transactionNumbered : GoodIn wsX5_save (wsV RX5 81 RX5 yX5_transactionNumbered wsX5_transactionNumbered) := goodIn_app (goodIn_of _ (by decide +kernel)) ggX5_save_X5_transactionNumbered
set_option maxRecDepth 20000 in
theorem ggX5_save_X5_refuseIfEnded : GoodIn wsX5_save wsX5_refuseIfEnded := goodIn_ca (goodIn_r _ [36, 37, 38, 39, 40, 41, 42, 43] (by decide +kernel) (by decide +kernel)) (goodIn_sub (fun _ h => List.mem_cons_of_mem _ (List.mem_append_right _ h)) (by decide +kernel))
set_option maxRecDepth 20000 in
theorem gX5_save_X5_refuseIfEnded : GoodIn wsX5_save (wsV RX5 93 RX5 yX5_refuseIfEnded wsX5_refuseIfEnded) := goodIn_app (goodIn_of _ (by decide +kernel)) ggX5_save_X5_refuseIfEnded
theorem dX5_save_0 : decode cX5_save 0 = .ok (.aload_n 0, 1) := by decide +kernel
theorem dX5_save_1 : decode cX5_save 1 = .ok (.iload_n 1, 1) := by decide +kernel
theorem dX5_save_2 : decode cX5_save 2 = .ok (.invokevirtual 81, 3) := by decide +kernel
theorem dX5_save_5 : decode cX5_save 5 = .ok (.astore_n 2, 1) := by decide +kernel
theorem dX5_save_6 : decode cX5_save 6 = .ok (.aload_n 0, 1) := by decide +kernel
theorem dX5_save_7 : decode cX5_save 7 = .ok (.aload_n 2, 1) := by decide +kernel
theorem dX5_save_8 : decode cX5_save 8 = .ok (.invokevirtual 93, 3) := by decide +kernel
theorem dX5_save_11 : decode cX5_save 11 = .ok (.aload_n 2, 1) := by decide +kernel
theorem dX5_save_12 : decode cX5_save 12 = .ok (.getfield 151, 3) := by decide +kernel
theorem dX5_save_15 : decode cX5_save 15 = .ok (.ireturn, 1) := by decide +kernel
set_option maxRecDepth 20000 in
theorem ggX5_undoTo_X5_transactionNumbered : GoodIn wsX5_undoTo wsX5_transactionNumbered := goodIn_ca (goodIn_r _ [7, 8, 9, 10, 11, 12, 13, 14, 15, 16, 17, 18, 19, 20, 21, 22, 23, 24, 25, 26, 27, 28, 29, 30, 31, 32, 33, 34, 60, 61, 62, 63, 64, 65, 66, 67, 68, 69, 70] (by decide +kernel) (by decide +kernel)) (goodIn_sub (fun _ h => List.mem_cons_of_mem _ (List.mem_append_left _ (List.mem_append_right _ h))) (by decide +kernel))
set_option maxRecDepth 20000 in
theorem gX5_undoTo_X5_transactionNumbered : GoodIn wsX5_undoTo (wsV RX5 81 RX5 yX5_transactionNumbered wsX5_transactionNumbered) := goodIn_app (goodIn_of _ (by decide +kernel)) ggX5_undoTo_X5_transactionNumbered
set_option maxRecDepth 20000 in
theorem ggX5_undoTo_X5_refuseIfEnded : GoodIn wsX5_undoTo wsX5_refuseIfEnded := goodIn_ca (goodIn_r _ [38, 39, 40, 55, 56, 57, 58, 59] (by decide +kernel) (by decide +kernel)) (goodIn_sub (fun _ h => List.mem_cons_of_mem _ (List.mem_append_right _ h)) (by decide +kernel))
set_option maxRecDepth 20000 in
theorem gX5_undoTo_X5_refuseIfEnded : GoodIn wsX5_undoTo (wsV RX5 93 RX5 yX5_refuseIfEnded wsX5_refuseIfEnded) := goodIn_app (goodIn_of _ (by decide +kernel)) ggX5_undoTo_X5_refuseIfEnded
set_option maxRecDepth 20000 in
theorem ggX5_undoTo_X5_undoDownTo : GoodIn wsX5_undoTo wsX5_undoDownTo := goodIn_r _ [44, 45, 46, 12, 13, 14, 15, 16, 17, 18, 19, 20, 21, 22, 23, 24, 25, 26, 27, 28, 29, 30, 31, 32, 33, 34, 47, 48, 49, 50, 51, 52, 53, 54, 60, 61, 62, 63, 64, 65, 66, 67, 55, 56, 57, 58, 59, 71, 72, 73, 74, 68, 69, 70, 75, 76] (by decide +kernel) (by decide +kernel)
set_option maxRecDepth 20000 in
theorem gX5_undoTo_X5_undoDownTo : GoodIn wsX5_undoTo (wsV RX5 156 RX5 yX5_undoDownTo wsX5_undoDownTo) := goodIn_app (goodIn_of _ (by decide +kernel)) ggX5_undoTo_X5_undoDownTo
theorem dX5_undoTo_0 : decode cX5_undoTo 0 = .ok (.aload_n 0, 1) := by decide +kernel
theorem dX5_undoTo_1 : decode cX5_undoTo 1 = .ok (.iload_n 1, 1) := by decide +kernel
theorem dX5_undoTo_2 : decode cX5_undoTo 2 = .ok (.invokevirtual 81, 3) := by decide +kernel
theorem dX5_undoTo_5 : decode cX5_undoTo 5 = .ok (.astore_n 3, 1) := by decide +kernel
theorem dX5_undoTo_6 : decode cX5_undoTo 6 = .ok (.aload_n 0, 1) := by decide +kernel
theorem dX5_undoTo_7 : decode cX5_undoTo 7 = .ok (.aload_n 3, 1) := by decide +kernel
theorem dX5_undoTo_8 : decode cX5_undoTo 8 = .ok (.invokevirtual 93, 3) := by decide +kernel
theorem dX5_undoTo_11 : decode cX5_undoTo 11 = .ok (.iload_n 2, 1) := by decide +kernel
theorem dX5_undoTo_12 : decode cX5_undoTo 12 = .ok (.ifCond .lt 11, 3) := by decide +kernel
theorem dX5_undoTo_15 : decode cX5_undoTo 15 = .ok (.iload_n 2, 1) := by decide +kernel
theorem dX5_undoTo_16 : decode cX5_undoTo 16 = .ok (.aload_n 3, 1) := by decide +kernel
theorem dX5_undoTo_17 : decode cX5_undoTo 17 = .ok (.getfield 151, 3) := by decide +kernel
theorem dX5_undoTo_20 : decode cX5_undoTo 20 = .ok (.if_icmp .le 13, 3) := by decide +kernel
theorem dX5_undoTo_23 : decode cX5_undoTo 23 = .ok (.new 48, 3) := by decide +kernel
theorem dX5_undoTo_26 : decode cX5_undoTo 26 = .ok (.dup, 1) := by decide +kernel
theorem dX5_undoTo_27 : decode cX5_undoTo 27 = .ok (.ldc 154, 2) := by decide +kernel
theorem dX5_undoTo_29 : decode cX5_undoTo 29 = .ok (.invokespecial 52, 3) := by decide +kernel
theorem dX5_undoTo_32 : decode cX5_undoTo 32 = .ok (.athrow, 1) := by decide +kernel
theorem dX5_undoTo_33 : decode cX5_undoTo 33 = .ok (.aload_n 0, 1) := by decide +kernel
theorem dX5_undoTo_34 : decode cX5_undoTo 34 = .ok (.aload_n 3, 1) := by decide +kernel
theorem dX5_undoTo_35 : decode cX5_undoTo 35 = .ok (.iload_n 2, 1) := by decide +kernel
theorem dX5_undoTo_36 : decode cX5_undoTo 36 = .ok (.invokevirtual 156, 3) := by decide +kernel
theorem dX5_undoTo_39 : decode cX5_undoTo 39 = .ok (.ireturn, 1) := by decide +kernel
set_option maxRecDepth 20000 in
theorem ggX5_undo_X5_transactionNumbered : GoodIn wsX5_undo wsX5_transactionNumbered := goodIn_ca (goodIn_r _ [5, 6, 7, 8, 9, 10, 11, 12, 13, 14, 15, 16, 17, 18, 19, 20, 21, 22, 23, 24, 25, 26, 27, 28, 29, 30, 31, 32, 58, 59, 60, 61, 62, 63, 64, 65, 66, 67, 68] (by decide +kernel) (by decide +kernel)) (goodIn_sub (fun _ h => List.mem_cons_of_mem _ (List.mem_append_left _ (List.mem_append_right _ h))) (by decide +kernel))
set_option maxRecDepth 20000 in
theorem gX5_undo_X5_transactionNumbered : GoodIn wsX5_undo (wsV RX5 81 RX5 yX5_transactionNumbered wsX5_transactionNumbered) := goodIn_app (goodIn_of _ (by decide +kernel)) ggX5_undo_X5_transactionNumbered
set_option maxRecDepth 20000 in
theorem ggX5_undo_X5_refuseIfEnded : GoodIn wsX5_undo wsX5_refuseIfEnded := goodIn_ca (goodIn_r _ [36, 37, 38, 53, 54, 55, 56, 57] (by decide +kernel) (by decide +kernel)) (goodIn_sub (fun _ h => List.mem_cons_of_mem _ (List.mem_append_right _ h)) (by decide +kernel))
set_option maxRecDepth 20000 in
theorem gX5_undo_X5_refuseIfEnded : GoodIn wsX5_undo (wsV RX5 93 RX5 yX5_refuseIfEnded wsX5_refuseIfEnded) := goodIn_app (goodIn_of _ (by decide +kernel)) ggX5_undo_X5_refuseIfEnded
set_option maxRecDepth 20000 in
theorem ggX5_undo_X5_undoDownTo : GoodIn wsX5_undo wsX5_undoDownTo := goodIn_r _ [42, 43, 44, 10, 11, 12, 13, 14, 15, 16, 17, 18, 19, 20, 21, 22, 23, 24, 25, 26, 27, 28, 29, 30, 31, 32, 45, 46, 47, 48, 49, 50, 51, 52, 58, 59, 60, 61, 62, 63, 64, 65, 53, 54, 55, 56, 57, 69, 70, 71, 72, 66, 67, 68, 73, 74] (by decide +kernel) (by decide +kernel)
set_option maxRecDepth 20000 in
theorem gX5_undo_X5_undoDownTo : GoodIn wsX5_undo (wsV RX5 156 RX5 yX5_undoDownTo wsX5_undoDownTo) := goodIn_app (goodIn_of _ (by decide +kernel)) ggX5_undo_X5_undoDownTo
theorem dX5_undo_0 : decode cX5_undo 0 = .ok (.aload_n 0, 1) := by decide +kernel
theorem dX5_undo_1 : decode cX5_undo 1 = .ok (.iload_n 1, 1) := by decide +kernel
theorem dX5_undo_2 : decode cX5_undo 2 = .ok (.invokevirtual 81, 3) := by decide +kernel
theorem dX5_undo_5 : decode cX5_undo 5 = .ok (.astore_n 2, 1) := by decide +kernel
theorem dX5_undo_6 : decode cX5_undo 6 = .ok (.aload_n 0, 1) := by decide +kernel
theorem dX5_undo_7 : decode cX5_undo 7 = .ok (.aload_n 2, 1) := by decide +kernel
theorem dX5_undo_8 : decode cX5_undo 8 = .ok (.invokevirtual 93, 3) := by decide +kernel
theorem dX5_undo_11 : decode cX5_undo 11 = .ok (.aload_n 0, 1) := by decide +kernel
theorem dX5_undo_12 : decode cX5_undo 12 = .ok (.aload_n 2, 1) := by decide +kernel
theorem dX5_undo_13 : decode cX5_undo 13 = .ok (.iconst 0, 1) := by decide +kernel
theorem dX5_undo_14 : decode cX5_undo 14 = .ok (.invokevirtual 156, 3) := by decide +kernel
theorem dX5_undo_17 : decode cX5_undo 17 = .ok (.istore_n 3, 1) := by decide +kernel
theorem dX5_undo_18 : decode cX5_undo 18 = .ok (.aload_n 2, 1) := by decide +kernel
theorem dX5_undo_19 : decode cX5_undo 19 = .ok (.iconst 0, 1) := by decide +kernel
theorem dX5_undo_20 : decode cX5_undo 20 = .ok (.putfield 160, 3) := by decide +kernel
theorem dX5_undo_23 : decode cX5_undo 23 = .ok (.iload_n 3, 1) := by decide +kernel
theorem dX5_undo_24 : decode cX5_undo 24 = .ok (.ireturn, 1) := by decide +kernel
set_option maxRecDepth 20000 in
theorem ggX5_commit_X5_transactionNumbered : GoodIn wsX5_commit wsX5_transactionNumbered := goodIn_ca (goodIn_r _ [6, 7, 8, 9, 10, 11, 12, 13, 14, 15, 16, 17, 18, 19, 20, 21, 22, 23, 24, 25, 26, 27, 28, 29, 30, 31, 32, 33, 40, 41, 42, 43, 44, 45, 46, 47, 53, 54, 55] (by decide +kernel) (by decide +kernel)) (goodIn_sub (fun _ h => List.mem_cons_of_mem _ (List.mem_append_left _ (List.mem_append_right _ h))) (by decide +kernel))
set_option maxRecDepth 20000 in
theorem gX5_commit_X5_transactionNumbered : GoodIn wsX5_commit (wsV RX5 81 RX5 yX5_transactionNumbered wsX5_transactionNumbered) := goodIn_app (goodIn_of _ (by decide +kernel)) ggX5_commit_X5_transactionNumbered
set_option maxRecDepth 20000 in
theorem ggX5_commit_X5_refuseIfEnded : GoodIn wsX5_commit wsX5_refuseIfEnded := goodIn_ca (goodIn_r _ [37, 38, 39, 48, 49, 50, 51, 52] (by decide +kernel) (by decide +kernel)) (goodIn_sub (fun _ h => List.mem_cons_of_mem _ (List.mem_append_right _ h)) (by decide +kernel))
set_option maxRecDepth 20000 in
theorem gX5_commit_X5_refuseIfEnded : GoodIn wsX5_commit (wsV RX5 93 RX5 yX5_refuseIfEnded wsX5_refuseIfEnded) := goodIn_app (goodIn_of _ (by decide +kernel)) ggX5_commit_X5_refuseIfEnded
theorem dX5_commit_0 : decode cX5_commit 0 = .ok (.aload_n 0, 1) := by decide +kernel
theorem dX5_commit_1 : decode cX5_commit 1 = .ok (.iload_n 1, 1) := by decide +kernel
theorem dX5_commit_2 : decode cX5_commit 2 = .ok (.invokevirtual 81, 3) := by decide +kernel
theorem dX5_commit_5 : decode cX5_commit 5 = .ok (.astore_n 2, 1) := by decide +kernel
theorem dX5_commit_6 : decode cX5_commit 6 = .ok (.aload_n 0, 1) := by decide +kernel
theorem dX5_commit_7 : decode cX5_commit 7 = .ok (.aload_n 2, 1) := by decide +kernel
theorem dX5_commit_8 : decode cX5_commit 8 = .ok (.invokevirtual 93, 3) := by decide +kernel
theorem dX5_commit_11 : decode cX5_commit 11 = .ok (.aload_n 0, 1) := by decide +kernel
theorem dX5_commit_12 : decode cX5_commit 12 = .ok (.dup, 1) := by decide +kernel
theorem dX5_commit_13 : decode cX5_commit 13 = .ok (.getfield 35, 3) := by decide +kernel
theorem dX5_commit_16 : decode cX5_commit 16 = .ok (.iconst 1, 1) := by decide +kernel
theorem dX5_commit_17 : decode cX5_commit 17 = .ok (.iadd, 1) := by decide +kernel
theorem dX5_commit_18 : decode cX5_commit 18 = .ok (.putfield 35, 3) := by decide +kernel
theorem dX5_commit_21 : decode cX5_commit 21 = .ok (.aload_n 2, 1) := by decide +kernel
theorem dX5_commit_22 : decode cX5_commit 22 = .ok (.aload_n 0, 1) := by decide +kernel
theorem dX5_commit_23 : decode cX5_commit 23 = .ok (.getfield 35, 3) := by decide +kernel
theorem dX5_commit_26 : decode cX5_commit 26 = .ok (.putfield 164, 3) := by decide +kernel
theorem dX5_commit_29 : decode cX5_commit 29 = .ok (.aload_n 2, 1) := by decide +kernel
theorem dX5_commit_30 : decode cX5_commit 30 = .ok (.iconst 0, 1) := by decide +kernel
theorem dX5_commit_31 : decode cX5_commit 31 = .ok (.putfield 160, 3) := by decide +kernel
theorem dX5_commit_34 : decode cX5_commit 34 = .ok (.aload_n 0, 1) := by decide +kernel
theorem dX5_commit_35 : decode cX5_commit 35 = .ok (.getfield 35, 3) := by decide +kernel
theorem dX5_commit_38 : decode cX5_commit 38 = .ok (.ireturn, 1) := by decide +kernel
theorem dX5_moment_0 : decode cX5_moment 0 = .ok (.aload_n 0, 1) := by decide +kernel
theorem dX5_moment_1 : decode cX5_moment 1 = .ok (.getfield 35, 3) := by decide +kernel
theorem dX5_moment_4 : decode cX5_moment 4 = .ok (.ireturn, 1) := by decide +kernel
set_option maxRecDepth 20000 in
theorem ggX5_transactions_Jx4a65c_size_8abf5 : GoodIn wsX5_transactions wsJx4a65c_size_8abf5 := goodIn_r _ [6, 7, 16, 17, 18] (by decide +kernel) (by decide +kernel)
set_option maxRecDepth 20000 in
theorem gX5_transactions_Jx4a65c_size_8abf5 : GoodIn wsX5_transactions (wsV RX5 64 RJx4a65c yJx4a65c_size_8abf5 wsJx4a65c_size_8abf5) := goodIn_app (goodIn_of _ (by decide +kernel)) ggX5_transactions_Jx4a65c_size_8abf5
theorem dX5_transactions_0 : decode cX5_transactions 0 = .ok (.aload_n 0, 1) := by decide +kernel
theorem dX5_transactions_1 : decode cX5_transactions 1 = .ok (.getfield 24, 3) := by decide +kernel
theorem dX5_transactions_4 : decode cX5_transactions 4 = .ok (.invokevirtual 64, 3) := by decide +kernel
theorem dX5_transactions_7 : decode cX5_transactions 7 = .ok (.ireturn, 1) := by decide +kernel
set_option maxRecDepth 20000 in
theorem ggX5_now_X5_rowNumbered : GoodIn wsX5_now wsX5_rowNumbered := goodIn_ca (goodIn_r _ [5, 6, 7, 8, 11, 12, 13, 14, 15, 16, 17, 18] (by decide +kernel) (by decide +kernel)) (goodIn_sub (fun _ h => List.mem_cons_of_mem _ (List.mem_append_right _ h)) (by decide +kernel))
set_option maxRecDepth 20000 in
theorem gX5_now_X5_rowNumbered : GoodIn wsX5_now (wsV RX5 85 RX5 yX5_rowNumbered wsX5_rowNumbered) := goodIn_app (goodIn_of _ (by decide +kernel)) ggX5_now_X5_rowNumbered
theorem dX5_now_0 : decode cX5_now 0 = .ok (.aload_n 0, 1) := by decide +kernel
theorem dX5_now_1 : decode cX5_now 1 = .ok (.iload_n 1, 1) := by decide +kernel
theorem dX5_now_2 : decode cX5_now 2 = .ok (.invokevirtual 85, 3) := by decide +kernel
theorem dX5_now_5 : decode cX5_now 5 = .ok (.getfield 128, 3) := by decide +kernel
theorem dX5_now_8 : decode cX5_now 8 = .ok (.ireturn, 1) := by decide +kernel
set_option maxRecDepth 20000 in
theorem ggX5_versionAt_X5_rowNumbered : GoodIn wsX5_versionAt wsX5_rowNumbered := goodIn_ca (goodIn_r _ [5, 6, 7, 8, 64, 65, 66, 67, 68, 69, 70, 71] (by decide +kernel) (by decide +kernel)) (goodIn_sub (fun _ h => List.mem_cons_of_mem _ (List.mem_append_left _ (List.mem_append_right _ h))) (by decide +kernel))
set_option maxRecDepth 20000 in
theorem gX5_versionAt_X5_rowNumbered : GoodIn wsX5_versionAt (wsV RX5 85 RX5 yX5_rowNumbered wsX5_rowNumbered) := goodIn_app (goodIn_of _ (by decide +kernel)) ggX5_versionAt_X5_rowNumbered
set_option maxRecDepth 20000 in
theorem ggX5_versionAt_X5_refuseIfNotYet : GoodIn wsX5_versionAt wsX5_refuseIfNotYet := goodIn_ca (goodIn_r _ [12, 13, 14, 15, 64, 65, 66, 67, 68, 69, 70, 71] (by decide +kernel) (by decide +kernel)) (goodIn_sub (fun _ h => List.mem_cons_of_mem _ (List.mem_append_right _ h)) (by decide +kernel))
set_option maxRecDepth 20000 in
theorem gX5_versionAt_X5_refuseIfNotYet : GoodIn wsX5_versionAt (wsV RX5 148 RX5 yX5_refuseIfNotYet wsX5_refuseIfNotYet) := goodIn_app (goodIn_of _ (by decide +kernel)) ggX5_versionAt_X5_refuseIfNotYet
set_option maxRecDepth 20000 in
theorem ggX5_versionAt_X5_oldestUnseen : GoodIn wsX5_versionAt wsX5_oldestUnseen := goodIn_r _ [19, 20, 21, 22, 23, 24, 25, 26, 27, 28, 29, 30, 31, 32, 33, 34, 35, 36, 37, 38, 39, 40, 41, 42, 43, 44, 45, 46, 47, 48, 49, 50, 51, 52, 53, 54, 55, 56, 57, 58, 59, 64, 65, 66, 67, 68, 69, 70, 71, 72, 73, 74, 75, 76, 77, 78, 79, 80, 81, 82, 83] (by decide +kernel) (by decide +kernel)
set_option maxRecDepth 20000 in
theorem gX5_versionAt_X5_oldestUnseen : GoodIn wsX5_versionAt (wsV RX5 167 RX5 yX5_oldestUnseen wsX5_oldestUnseen) := goodIn_app (goodIn_of _ (by decide +kernel)) ggX5_versionAt_X5_oldestUnseen
set_option maxRecDepth 20000 in
theorem ggX5_versionAt_X5_valueAheadOf : GoodIn wsX5_versionAt wsX5_valueAheadOf := goodIn_r _ [63, 20, 21, 22, 23, 24, 25, 26, 27, 28, 29, 30, 31, 32, 33, 34, 35, 36, 37, 38, 39, 40, 41, 42, 43, 44, 64, 65, 66, 67, 68, 69, 70, 71, 84, 85, 75, 76, 77, 78, 72, 73, 74] (by decide +kernel) (by decide +kernel)
set_option maxRecDepth 20000 in
theorem gX5_versionAt_X5_valueAheadOf : GoodIn wsX5_versionAt (wsV RX5 170 RX5 yX5_valueAheadOf wsX5_valueAheadOf) := goodIn_app (goodIn_of _ (by decide +kernel)) ggX5_versionAt_X5_valueAheadOf
theorem dX5_versionAt_0 : decode cX5_versionAt 0 = .ok (.aload_n 0, 1) := by decide +kernel
theorem dX5_versionAt_1 : decode cX5_versionAt 1 = .ok (.iload_n 2, 1) := by decide +kernel
theorem dX5_versionAt_2 : decode cX5_versionAt 2 = .ok (.invokevirtual 85, 3) := by decide +kernel
theorem dX5_versionAt_5 : decode cX5_versionAt 5 = .ok (.astore_n 3, 1) := by decide +kernel
theorem dX5_versionAt_6 : decode cX5_versionAt 6 = .ok (.aload_n 0, 1) := by decide +kernel
theorem dX5_versionAt_7 : decode cX5_versionAt 7 = .ok (.iload_n 1, 1) := by decide +kernel
theorem dX5_versionAt_8 : decode cX5_versionAt 8 = .ok (.invokevirtual 148, 3) := by decide +kernel
theorem dX5_versionAt_11 : decode cX5_versionAt 11 = .ok (.aload_n 0, 1) := by decide +kernel
theorem dX5_versionAt_12 : decode cX5_versionAt 12 = .ok (.aload_n 0, 1) := by decide +kernel
theorem dX5_versionAt_13 : decode cX5_versionAt 13 = .ok (.aload_n 3, 1) := by decide +kernel
theorem dX5_versionAt_14 : decode cX5_versionAt 14 = .ok (.iload_n 1, 1) := by decide +kernel
theorem dX5_versionAt_15 : decode cX5_versionAt 15 = .ok (.aconst_null, 1) := by decide +kernel
theorem dX5_versionAt_16 : decode cX5_versionAt 16 = .ok (.invokevirtual 167, 3) := by decide +kernel
theorem dX5_versionAt_19 : decode cX5_versionAt 19 = .ok (.aload_n 3, 1) := by decide +kernel
theorem dX5_versionAt_20 : decode cX5_versionAt 20 = .ok (.invokevirtual 170, 3) := by decide +kernel
theorem dX5_versionAt_23 : decode cX5_versionAt 23 = .ok (.ireturn, 1) := by decide +kernel
set_option maxRecDepth 20000 in
theorem ggX5_lockOf_X5_rowNumbered : GoodIn wsX5_lockOf wsX5_rowNumbered := goodIn_ca (goodIn_r _ [5, 6, 7, 8, 49, 50, 51, 52, 53, 54, 55, 56] (by decide +kernel) (by decide +kernel)) (goodIn_sub (fun _ h => List.mem_cons_of_mem _ (List.mem_append_right _ h)) (by decide +kernel))
set_option maxRecDepth 20000 in
theorem gX5_lockOf_X5_rowNumbered : GoodIn wsX5_lockOf (wsV RX5 85 RX5 yX5_rowNumbered wsX5_rowNumbered) := goodIn_app (goodIn_of _ (by decide +kernel)) ggX5_lockOf_X5_rowNumbered
set_option maxRecDepth 20000 in
theorem ggX5_lockOf_X5_lockerOf : GoodIn wsX5_lockOf wsX5_lockerOf := goodIn_r _ [12, 13, 14, 15, 16, 17, 18, 19, 20, 21, 22, 23, 24, 25, 26, 27, 28, 29, 30, 31, 32, 33, 34, 35, 36, 37, 38, 39, 40, 41, 42, 43, 49, 50, 51, 52, 53, 54, 55, 56, 57, 58, 59, 60, 44, 45, 46, 47, 48, 61, 62, 63] (by decide +kernel) (by decide +kernel)
set_option maxRecDepth 20000 in
theorem gX5_lockOf_X5_lockerOf : GoodIn wsX5_lockOf (wsV RX5 174 RX5 yX5_lockerOf wsX5_lockerOf) := goodIn_app (goodIn_of _ (by decide +kernel)) ggX5_lockOf_X5_lockerOf
theorem dX5_lockOf_0 : decode cX5_lockOf 0 = .ok (.aload_n 0, 1) := by decide +kernel
theorem dX5_lockOf_1 : decode cX5_lockOf 1 = .ok (.aload_n 0, 1) := by decide +kernel
theorem dX5_lockOf_2 : decode cX5_lockOf 2 = .ok (.iload_n 1, 1) := by decide +kernel
theorem dX5_lockOf_3 : decode cX5_lockOf 3 = .ok (.invokevirtual 85, 3) := by decide +kernel
theorem dX5_lockOf_6 : decode cX5_lockOf 6 = .ok (.invokevirtual 174, 3) := by decide +kernel
theorem dX5_lockOf_9 : decode cX5_lockOf 9 = .ok (.astore_n 2, 1) := by decide +kernel
theorem dX5_lockOf_10 : decode cX5_lockOf 10 = .ok (.aload_n 2, 1) := by decide +kernel
theorem dX5_lockOf_11 : decode cX5_lockOf 11 = .ok (.ifnonnull 7, 3) := by decide +kernel
theorem dX5_lockOf_14 : decode cX5_lockOf 14 = .ok (.iconst (-1), 1) := by decide +kernel
theorem dX5_lockOf_15 : decode cX5_lockOf 15 = .ok (.goto 7, 3) := by decide +kernel
theorem dX5_lockOf_18 : decode cX5_lockOf 18 = .ok (.aload_n 2, 1) := by decide +kernel
theorem dX5_lockOf_19 : decode cX5_lockOf 19 = .ok (.getfield 78, 3) := by decide +kernel
theorem dX5_lockOf_22 : decode cX5_lockOf 22 = .ok (.ireturn, 1) := by decide +kernel
set_option maxRecDepth 20000 in
theorem ggX5_slotOf_X5_slotNumbered : GoodIn wsX5_slotOf wsX5_slotNumbered := goodIn_ca (goodIn_r _ [5, 6, 7, 8, 16, 17, 18, 19, 20, 21, 22, 23, 24] (by decide +kernel) (by decide +kernel)) (goodIn_sub (fun _ h => List.mem_cons_of_mem _ (List.mem_append_right _ h)) (by decide +kernel))
set_option maxRecDepth 20000 in
theorem gX5_slotOf_X5_slotNumbered : GoodIn wsX5_slotOf (wsV RX5 178 RX5 yX5_slotNumbered wsX5_slotNumbered) := goodIn_app (goodIn_of _ (by decide +kernel)) ggX5_slotOf_X5_slotNumbered
theorem dX5_slotOf_0 : decode cX5_slotOf 0 = .ok (.aload_n 0, 1) := by decide +kernel
theorem dX5_slotOf_1 : decode cX5_slotOf 1 = .ok (.iload_n 1, 1) := by decide +kernel
theorem dX5_slotOf_2 : decode cX5_slotOf 2 = .ok (.iload_n 2, 1) := by decide +kernel
theorem dX5_slotOf_3 : decode cX5_slotOf 3 = .ok (.invokevirtual 178, 3) := by decide +kernel
theorem dX5_slotOf_6 : decode cX5_slotOf 6 = .ok (.getfield 182, 3) := by decide +kernel
theorem dX5_slotOf_9 : decode cX5_slotOf 9 = .ok (.astore_n 3, 1) := by decide +kernel
theorem dX5_slotOf_10 : decode cX5_slotOf 10 = .ok (.aload_n 3, 1) := by decide +kernel
theorem dX5_slotOf_11 : decode cX5_slotOf 11 = .ok (.ifnonnull 7, 3) := by decide +kernel
theorem dX5_slotOf_14 : decode cX5_slotOf 14 = .ok (.iconst (-1), 1) := by decide +kernel
theorem dX5_slotOf_15 : decode cX5_slotOf 15 = .ok (.goto 7, 3) := by decide +kernel
theorem dX5_slotOf_18 : decode cX5_slotOf 18 = .ok (.aload_n 3, 1) := by decide +kernel
theorem dX5_slotOf_19 : decode cX5_slotOf 19 = .ok (.getfield 78, 3) := by decide +kernel
theorem dX5_slotOf_22 : decode cX5_slotOf 22 = .ok (.ireturn, 1) := by decide +kernel
set_option maxRecDepth 20000 in
theorem ggX5_isMarked_X5_slotNumbered : GoodIn wsX5_isMarked wsX5_slotNumbered := goodIn_ca (goodIn_r _ [5, 6, 7, 8, 11, 12, 13, 14, 15, 16, 17, 18, 19] (by decide +kernel) (by decide +kernel)) (goodIn_sub (fun _ h => List.mem_cons_of_mem _ (List.mem_append_right _ h)) (by decide +kernel))
set_option maxRecDepth 20000 in
theorem gX5_isMarked_X5_slotNumbered : GoodIn wsX5_isMarked (wsV RX5 178 RX5 yX5_slotNumbered wsX5_slotNumbered) := goodIn_app (goodIn_of _ (by decide +kernel)) ggX5_isMarked_X5_slotNumbered
theorem dX5_isMarked_0 : decode cX5_isMarked 0 = .ok (.aload_n 0, 1) := by decide +kernel
theorem dX5_isMarked_1 : decode cX5_isMarked 1 = .ok (.iload_n 1, 1) := by decide +kernel
theorem dX5_isMarked_2 : decode cX5_isMarked 2 = .ok (.iload_n 2, 1) := by decide +kernel
theorem dX5_isMarked_3 : decode cX5_isMarked 3 = .ok (.invokevirtual 178, 3) := by decide +kernel
theorem dX5_isMarked_6 : decode cX5_isMarked 6 = .ok (.getfield 186, 3) := by decide +kernel
theorem dX5_isMarked_9 : decode cX5_isMarked 9 = .ok (.ireturn, 1) := by decide +kernel
theorem dX5_marked_0 : decode cX5_marked 0 = .ok (.aload_n 0, 1) := by decide +kernel
theorem dX5_marked_1 : decode cX5_marked 1 = .ok (.getfield 38, 3) := by decide +kernel
theorem dX5_marked_4 : decode cX5_marked 4 = .ok (.ireturn, 1) := by decide +kernel
set_option maxRecDepth 20000 in
theorem ggX5_records_X5_recordsThere : GoodIn wsX5_records wsX5_recordsThere := goodIn_r _ [5, 6, 7, 8, 9, 10, 11, 12, 13, 14, 15, 16, 17, 18, 19, 20, 21, 22, 23, 24] (by decide +kernel) (by decide +kernel)
set_option maxRecDepth 20000 in
theorem gX5_records_X5_recordsThere : GoodIn wsX5_records (wsV RX5 55 RX5 yX5_recordsThere wsX5_recordsThere) := goodIn_app (goodIn_of _ (by decide +kernel)) ggX5_records_X5_recordsThere
theorem dX5_records_0 : decode cX5_records 0 = .ok (.aload_n 0, 1) := by decide +kernel
theorem dX5_records_1 : decode cX5_records 1 = .ok (.invokevirtual 55, 3) := by decide +kernel
theorem dX5_records_4 : decode cX5_records 4 = .ok (.ireturn, 1) := by decide +kernel
theorem dX5_dropped_0 : decode cX5_dropped 0 = .ok (.aload_n 0, 1) := by decide +kernel
theorem dX5_dropped_1 : decode cX5_dropped 1 = .ok (.getfield 41, 3) := by decide +kernel
theorem dX5_dropped_4 : decode cX5_dropped 4 = .ok (.ireturn, 1) := by decide +kernel
set_option maxRecDepth 20000 in
theorem ggX5_transactionNumbered_Jx4a65c_size_8abf5 : GoodIn wsX5_transactionNumbered wsJx4a65c_size_8abf5 := goodIn_r _ [9, 10, 36, 37, 38] (by decide +kernel) (by decide +kernel)
set_option maxRecDepth 20000 in
theorem gX5_transactionNumbered_Jx4a65c_size_8abf5 : GoodIn wsX5_transactionNumbered (wsV RX5 64 RJx4a65c yJx4a65c_size_8abf5 wsJx4a65c_size_8abf5) := goodIn_app (goodIn_of _ (by decide +kernel)) ggX5_transactionNumbered_Jx4a65c_size_8abf5
set_option maxRecDepth 20000 in
theorem ggX5_transactionNumbered_Jx4a65c_get_915e3 : GoodIn wsX5_transactionNumbered wsJx4a65c_get_915e3 := goodIn_r _ [14, 10, 15, 16, 17, 18, 19, 20, 21, 22, 23, 24, 25, 8, 26, 27, 36, 37, 38] (by decide +kernel) (by decide +kernel)
set_option maxRecDepth 20000 in
theorem gX5_transactionNumbered_Jx4a65c_get_915e3 : GoodIn wsX5_transactionNumbered (wsV RX5 194 RJx4a65c yJx4a65c_get_915e3 wsJx4a65c_get_915e3) := goodIn_app (goodIn_of _ (by decide +kernel)) ggX5_transactionNumbered_Jx4a65c_get_915e3
theorem dX5_transactionNumbered_0 : decode cX5_transactionNumbered 0 = .ok (.iload_n 1, 1) := by decide +kernel
theorem dX5_transactionNumbered_1 : decode cX5_transactionNumbered 1 = .ok (.ifCond .lt 14, 3) := by decide +kernel
theorem dX5_transactionNumbered_4 : decode cX5_transactionNumbered 4 = .ok (.iload_n 1, 1) := by decide +kernel
theorem dX5_transactionNumbered_5 : decode cX5_transactionNumbered 5 = .ok (.aload_n 0, 1) := by decide +kernel
theorem dX5_transactionNumbered_6 : decode cX5_transactionNumbered 6 = .ok (.getfield 24, 3) := by decide +kernel
theorem dX5_transactionNumbered_9 : decode cX5_transactionNumbered 9 = .ok (.invokevirtual 64, 3) := by decide +kernel
theorem dX5_transactionNumbered_12 : decode cX5_transactionNumbered 12 = .ok (.if_icmp .lt 13, 3) := by decide +kernel
theorem dX5_transactionNumbered_15 : decode cX5_transactionNumbered 15 = .ok (.new 189, 3) := by decide +kernel
theorem dX5_transactionNumbered_18 : decode cX5_transactionNumbered 18 = .ok (.dup, 1) := by decide +kernel
theorem dX5_transactionNumbered_19 : decode cX5_transactionNumbered 19 = .ok (.ldc 191, 2) := by decide +kernel
theorem dX5_transactionNumbered_21 : decode cX5_transactionNumbered 21 = .ok (.invokespecial 193, 3) := by decide +kernel
theorem dX5_transactionNumbered_24 : decode cX5_transactionNumbered 24 = .ok (.athrow, 1) := by decide +kernel
theorem dX5_transactionNumbered_25 : decode cX5_transactionNumbered 25 = .ok (.aload_n 0, 1) := by decide +kernel
theorem dX5_transactionNumbered_26 : decode cX5_transactionNumbered 26 = .ok (.getfield 24, 3) := by decide +kernel
theorem dX5_transactionNumbered_29 : decode cX5_transactionNumbered 29 = .ok (.iload_n 1, 1) := by decide +kernel
theorem dX5_transactionNumbered_30 : decode cX5_transactionNumbered 30 = .ok (.invokevirtual 194, 3) := by decide +kernel
theorem dX5_transactionNumbered_33 : decode cX5_transactionNumbered 33 = .ok (.checkcast 69, 3) := by decide +kernel
theorem dX5_transactionNumbered_36 : decode cX5_transactionNumbered 36 = .ok (.areturn, 1) := by decide +kernel
theorem dX5_rowNumbered_0 : decode cX5_rowNumbered 0 = .ok (.iload_n 1, 1) := by decide +kernel
theorem dX5_rowNumbered_1 : decode cX5_rowNumbered 1 = .ok (.ifCond .lt 12, 3) := by decide +kernel
theorem dX5_rowNumbered_4 : decode cX5_rowNumbered 4 = .ok (.iload_n 1, 1) := by decide +kernel
theorem dX5_rowNumbered_5 : decode cX5_rowNumbered 5 = .ok (.aload_n 0, 1) := by decide +kernel
theorem dX5_rowNumbered_6 : decode cX5_rowNumbered 6 = .ok (.getfield 17, 3) := by decide +kernel
theorem dX5_rowNumbered_9 : decode cX5_rowNumbered 9 = .ok (.arraylength, 1) := by decide +kernel
theorem dX5_rowNumbered_10 : decode cX5_rowNumbered 10 = .ok (.if_icmp .lt 13, 3) := by decide +kernel
theorem dX5_rowNumbered_13 : decode cX5_rowNumbered 13 = .ok (.new 189, 3) := by decide +kernel
theorem dX5_rowNumbered_16 : decode cX5_rowNumbered 16 = .ok (.dup, 1) := by decide +kernel
theorem dX5_rowNumbered_17 : decode cX5_rowNumbered 17 = .ok (.ldc 198, 2) := by decide +kernel
theorem dX5_rowNumbered_19 : decode cX5_rowNumbered 19 = .ok (.invokespecial 193, 3) := by decide +kernel
theorem dX5_rowNumbered_22 : decode cX5_rowNumbered 22 = .ok (.athrow, 1) := by decide +kernel
theorem dX5_rowNumbered_23 : decode cX5_rowNumbered 23 = .ok (.aload_n 0, 1) := by decide +kernel
theorem dX5_rowNumbered_24 : decode cX5_rowNumbered 24 = .ok (.getfield 17, 3) := by decide +kernel
theorem dX5_rowNumbered_27 : decode cX5_rowNumbered 27 = .ok (.iload_n 1, 1) := by decide +kernel
theorem dX5_rowNumbered_28 : decode cX5_rowNumbered 28 = .ok (.aaload, 1) := by decide +kernel
theorem dX5_rowNumbered_29 : decode cX5_rowNumbered 29 = .ok (.areturn, 1) := by decide +kernel
theorem dX5_slotNumbered_0 : decode cX5_slotNumbered 0 = .ok (.iload_n 1, 1) := by decide +kernel
theorem dX5_slotNumbered_1 : decode cX5_slotNumbered 1 = .ok (.ifCond .lt 12, 3) := by decide +kernel
theorem dX5_slotNumbered_4 : decode cX5_slotNumbered 4 = .ok (.iload_n 1, 1) := by decide +kernel
theorem dX5_slotNumbered_5 : decode cX5_slotNumbered 5 = .ok (.aload_n 0, 1) := by decide +kernel
theorem dX5_slotNumbered_6 : decode cX5_slotNumbered 6 = .ok (.getfield 11, 3) := by decide +kernel
theorem dX5_slotNumbered_9 : decode cX5_slotNumbered 9 = .ok (.arraylength, 1) := by decide +kernel
theorem dX5_slotNumbered_10 : decode cX5_slotNumbered 10 = .ok (.if_icmp .lt 13, 3) := by decide +kernel
theorem dX5_slotNumbered_13 : decode cX5_slotNumbered 13 = .ok (.new 189, 3) := by decide +kernel
theorem dX5_slotNumbered_16 : decode cX5_slotNumbered 16 = .ok (.dup, 1) := by decide +kernel
theorem dX5_slotNumbered_17 : decode cX5_slotNumbered 17 = .ok (.ldc 200, 2) := by decide +kernel
theorem dX5_slotNumbered_19 : decode cX5_slotNumbered 19 = .ok (.invokespecial 193, 3) := by decide +kernel
theorem dX5_slotNumbered_22 : decode cX5_slotNumbered 22 = .ok (.athrow, 1) := by decide +kernel
theorem dX5_slotNumbered_23 : decode cX5_slotNumbered 23 = .ok (.aload_n 0, 1) := by decide +kernel
theorem dX5_slotNumbered_24 : decode cX5_slotNumbered 24 = .ok (.getfield 11, 3) := by decide +kernel
theorem dX5_slotNumbered_27 : decode cX5_slotNumbered 27 = .ok (.iload_n 1, 1) := by decide +kernel
theorem dX5_slotNumbered_28 : decode cX5_slotNumbered 28 = .ok (.aaload, 1) := by decide +kernel
theorem dX5_slotNumbered_29 : decode cX5_slotNumbered 29 = .ok (.getfield 202, 3) := by decide +kernel
theorem dX5_slotNumbered_32 : decode cX5_slotNumbered 32 = .ok (.astore_n 3, 1) := by decide +kernel
theorem dX5_slotNumbered_33 : decode cX5_slotNumbered 33 = .ok (.iload_n 2, 1) := by decide +kernel
theorem dX5_slotNumbered_34 : decode cX5_slotNumbered 34 = .ok (.ifCond .lt 9, 3) := by decide +kernel
theorem dX5_slotNumbered_37 : decode cX5_slotNumbered 37 = .ok (.iload_n 2, 1) := by decide +kernel
theorem dX5_slotNumbered_38 : decode cX5_slotNumbered 38 = .ok (.aload_n 3, 1) := by decide +kernel
theorem dX5_slotNumbered_39 : decode cX5_slotNumbered 39 = .ok (.arraylength, 1) := by decide +kernel
theorem dX5_slotNumbered_40 : decode cX5_slotNumbered 40 = .ok (.if_icmp .lt 13, 3) := by decide +kernel
theorem dX5_slotNumbered_43 : decode cX5_slotNumbered 43 = .ok (.new 189, 3) := by decide +kernel
theorem dX5_slotNumbered_46 : decode cX5_slotNumbered 46 = .ok (.dup, 1) := by decide +kernel
theorem dX5_slotNumbered_47 : decode cX5_slotNumbered 47 = .ok (.ldc 206, 2) := by decide +kernel
theorem dX5_slotNumbered_49 : decode cX5_slotNumbered 49 = .ok (.invokespecial 193, 3) := by decide +kernel
theorem dX5_slotNumbered_52 : decode cX5_slotNumbered 52 = .ok (.athrow, 1) := by decide +kernel
theorem dX5_slotNumbered_53 : decode cX5_slotNumbered 53 = .ok (.aload_n 3, 1) := by decide +kernel
theorem dX5_slotNumbered_54 : decode cX5_slotNumbered 54 = .ok (.iload_n 2, 1) := by decide +kernel
theorem dX5_slotNumbered_55 : decode cX5_slotNumbered 55 = .ok (.aaload, 1) := by decide +kernel
theorem dX5_slotNumbered_56 : decode cX5_slotNumbered 56 = .ok (.areturn, 1) := by decide +kernel
theorem dX5_refuseIfEnded_0 : decode cX5_refuseIfEnded 0 = .ok (.aload_n 1, 1) := by decide +kernel
theorem dX5_refuseIfEnded_1 : decode cX5_refuseIfEnded 1 = .ok (.getfield 160, 3) := by decide +kernel
theorem dX5_refuseIfEnded_4 : decode cX5_refuseIfEnded 4 = .ok (.ifCond .ne 13, 3) := by decide +kernel
theorem dX5_refuseIfEnded_7 : decode cX5_refuseIfEnded 7 = .ok (.new 59, 3) := by decide +kernel
theorem dX5_refuseIfEnded_10 : decode cX5_refuseIfEnded 10 = .ok (.dup, 1) := by decide +kernel
theorem dX5_refuseIfEnded_11 : decode cX5_refuseIfEnded 11 = .ok (.ldc 208, 2) := by decide +kernel
theorem dX5_refuseIfEnded_13 : decode cX5_refuseIfEnded 13 = .ok (.invokespecial 63, 3) := by decide +kernel
theorem dX5_refuseIfEnded_16 : decode cX5_refuseIfEnded 16 = .ok (.athrow, 1) := by decide +kernel
theorem dX5_refuseIfEnded_17 : decode cX5_refuseIfEnded 17 = .ok (.return_, 1) := by decide +kernel
theorem dX5_refuseIfNotYet_0 : decode cX5_refuseIfNotYet 0 = .ok (.iload_n 1, 1) := by decide +kernel
theorem dX5_refuseIfNotYet_1 : decode cX5_refuseIfNotYet 1 = .ok (.ifCond .lt 11, 3) := by decide +kernel
theorem dX5_refuseIfNotYet_4 : decode cX5_refuseIfNotYet 4 = .ok (.iload_n 1, 1) := by decide +kernel
theorem dX5_refuseIfNotYet_5 : decode cX5_refuseIfNotYet 5 = .ok (.aload_n 0, 1) := by decide +kernel
theorem dX5_refuseIfNotYet_6 : decode cX5_refuseIfNotYet 6 = .ok (.getfield 35, 3) := by decide +kernel
theorem dX5_refuseIfNotYet_9 : decode cX5_refuseIfNotYet 9 = .ok (.if_icmp .le 13, 3) := by decide +kernel
theorem dX5_refuseIfNotYet_12 : decode cX5_refuseIfNotYet 12 = .ok (.new 48, 3) := by decide +kernel
theorem dX5_refuseIfNotYet_15 : decode cX5_refuseIfNotYet 15 = .ok (.dup, 1) := by decide +kernel
theorem dX5_refuseIfNotYet_16 : decode cX5_refuseIfNotYet 16 = .ok (.ldc 210, 2) := by decide +kernel
theorem dX5_refuseIfNotYet_18 : decode cX5_refuseIfNotYet 18 = .ok (.invokespecial 52, 3) := by decide +kernel
theorem dX5_refuseIfNotYet_21 : decode cX5_refuseIfNotYet 21 = .ok (.athrow, 1) := by decide +kernel
theorem dX5_refuseIfNotYet_22 : decode cX5_refuseIfNotYet 22 = .ok (.return_, 1) := by decide +kernel
set_option maxRecDepth 20000 in
theorem ggX5_refuseIfLockedByAnother_X5_lockerOf : GoodIn wsX5_refuseIfLockedByAnother wsX5_lockerOf := goodIn_r _ [7, 8, 9, 10, 11, 12, 13, 14, 15, 16, 17, 18, 19, 20, 21, 22, 23, 24, 25, 26, 27, 28, 29, 30, 31, 32, 33, 34, 35, 36, 37, 38, 39, 40, 41, 42, 43, 44, 45, 46, 47, 48, 49, 50, 51, 52, 53, 54, 55, 56, 57, 58] (by decide +kernel) (by decide +kernel)
set_option maxRecDepth 20000 in
theorem gX5_refuseIfLockedByAnother_X5_lockerOf : GoodIn wsX5_refuseIfLockedByAnother (wsV RX5 174 RX5 yX5_lockerOf wsX5_lockerOf) := goodIn_app (goodIn_of _ (by decide +kernel)) ggX5_refuseIfLockedByAnother_X5_lockerOf
theorem dX5_refuseIfLockedByAnother_0 : decode cX5_refuseIfLockedByAnother 0 = .ok (.aload_n 0, 1) := by decide +kernel
theorem dX5_refuseIfLockedByAnother_1 : decode cX5_refuseIfLockedByAnother 1 = .ok (.aload_n 1, 1) := by decide +kernel
theorem dX5_refuseIfLockedByAnother_2 : decode cX5_refuseIfLockedByAnother 2 = .ok (.invokevirtual 174, 3) := by decide +kernel
theorem dX5_refuseIfLockedByAnother_5 : decode cX5_refuseIfLockedByAnother 5 = .ok (.astore_n 3, 1) := by decide +kernel
theorem dX5_refuseIfLockedByAnother_6 : decode cX5_refuseIfLockedByAnother 6 = .ok (.aload_n 3, 1) := by decide +kernel
theorem dX5_refuseIfLockedByAnother_7 : decode cX5_refuseIfLockedByAnother 7 = .ok (.ifnull 18, 3) := by decide +kernel
theorem dX5_refuseIfLockedByAnother_10 : decode cX5_refuseIfLockedByAnother 10 = .ok (.aload_n 3, 1) := by decide +kernel
theorem dX5_refuseIfLockedByAnother_11 : decode cX5_refuseIfLockedByAnother 11 = .ok (.aload_n 2, 1) := by decide +kernel
theorem dX5_refuseIfLockedByAnother_12 : decode cX5_refuseIfLockedByAnother 12 = .ok (.if_acmp .eq 13, 3) := by decide +kernel
theorem dX5_refuseIfLockedByAnother_15 : decode cX5_refuseIfLockedByAnother 15 = .ok (.new 59, 3) := by decide +kernel
theorem dX5_refuseIfLockedByAnother_18 : decode cX5_refuseIfLockedByAnother 18 = .ok (.dup, 1) := by decide +kernel
theorem dX5_refuseIfLockedByAnother_19 : decode cX5_refuseIfLockedByAnother 19 = .ok (.ldc 212, 2) := by decide +kernel
theorem dX5_refuseIfLockedByAnother_21 : decode cX5_refuseIfLockedByAnother 21 = .ok (.invokespecial 63, 3) := by decide +kernel
theorem dX5_refuseIfLockedByAnother_24 : decode cX5_refuseIfLockedByAnother 24 = .ok (.athrow, 1) := by decide +kernel
theorem dX5_refuseIfLockedByAnother_25 : decode cX5_refuseIfLockedByAnother 25 = .ok (.return_, 1) := by decide +kernel
set_option maxRecDepth 20000 in
theorem ggX5_refuseIfNoSpace_Jx4a65c_size_8abf5 : GoodIn wsX5_refuseIfNoSpace wsJx4a65c_size_8abf5 := goodIn_r _ [10, 11, 56, 57, 58] (by decide +kernel) (by decide +kernel)
set_option maxRecDepth 20000 in
theorem gX5_refuseIfNoSpace_Jx4a65c_size_8abf5 : GoodIn wsX5_refuseIfNoSpace (wsV RX5 64 RJx4a65c yJx4a65c_size_8abf5 wsJx4a65c_size_8abf5) := goodIn_app (goodIn_of _ (by decide +kernel)) ggX5_refuseIfNoSpace_Jx4a65c_size_8abf5
set_option maxRecDepth 20000 in
theorem ggX5_refuseIfNoSpace_X5_isSpaceFull : GoodIn wsX5_refuseIfNoSpace wsX5_isSpaceFull := goodIn_r _ [16, 4, 3, 17, 6, 7, 8, 9, 10, 11, 18, 19, 20, 15, 21, 39, 40, 41, 42, 43, 44, 45, 46, 56, 57, 58] (by decide +kernel) (by decide +kernel)
set_option maxRecDepth 20000 in
theorem gX5_refuseIfNoSpace_X5_isSpaceFull : GoodIn wsX5_refuseIfNoSpace (wsV RX5 122 RX5 yX5_isSpaceFull wsX5_isSpaceFull) := goodIn_app (goodIn_of _ (by decide +kernel)) ggX5_refuseIfNoSpace_X5_isSpaceFull
set_option maxRecDepth 20000 in
theorem ggX5_refuseIfNoSpace_Jx4a65c_get_915e3 : GoodIn wsX5_refuseIfNoSpace wsJx4a65c_get_915e3 := goodIn_r _ [25, 11, 26, 27, 28, 29, 30, 31, 32, 33, 34, 35, 36, 9, 37, 38, 56, 57, 58] (by decide +kernel) (by decide +kernel)
set_option maxRecDepth 20000 in
theorem gX5_refuseIfNoSpace_Jx4a65c_get_915e3 : GoodIn wsX5_refuseIfNoSpace (wsV RX5 194 RJx4a65c yJx4a65c_get_915e3 wsJx4a65c_get_915e3) := goodIn_app (goodIn_of _ (by decide +kernel)) ggX5_refuseIfNoSpace_Jx4a65c_get_915e3
theorem dX5_refuseIfNoSpace_0 : decode cX5_refuseIfNoSpace 0 = .ok (.aload_n 0, 1) := by decide +kernel
theorem dX5_refuseIfNoSpace_1 : decode cX5_refuseIfNoSpace 1 = .ok (.getfield 28, 3) := by decide +kernel
theorem dX5_refuseIfNoSpace_4 : decode cX5_refuseIfNoSpace 4 = .ok (.invokevirtual 64, 3) := by decide +kernel
theorem dX5_refuseIfNoSpace_7 : decode cX5_refuseIfNoSpace 7 = .ok (.sipush 512, 3) := by decide +kernel
theorem dX5_refuseIfNoSpace_10 : decode cX5_refuseIfNoSpace 10 = .ok (.if_icmp .lt 13, 3) := by decide +kernel
theorem dX5_refuseIfNoSpace_13 : decode cX5_refuseIfNoSpace 13 = .ok (.new 59, 3) := by decide +kernel
theorem dX5_refuseIfNoSpace_16 : decode cX5_refuseIfNoSpace 16 = .ok (.dup, 1) := by decide +kernel
theorem dX5_refuseIfNoSpace_17 : decode cX5_refuseIfNoSpace 17 = .ok (.ldc 214, 2) := by decide +kernel
theorem dX5_refuseIfNoSpace_19 : decode cX5_refuseIfNoSpace 19 = .ok (.invokespecial 63, 3) := by decide +kernel
theorem dX5_refuseIfNoSpace_22 : decode cX5_refuseIfNoSpace 22 = .ok (.athrow, 1) := by decide +kernel
theorem dX5_refuseIfNoSpace_23 : decode cX5_refuseIfNoSpace 23 = .ok (.aload_n 0, 1) := by decide +kernel
theorem dX5_refuseIfNoSpace_24 : decode cX5_refuseIfNoSpace 24 = .ok (.invokevirtual 122, 3) := by decide +kernel
theorem dX5_refuseIfNoSpace_27 : decode cX5_refuseIfNoSpace 27 = .ok (.ifCond .eq 36, 3) := by decide +kernel
theorem dX5_refuseIfNoSpace_30 : decode cX5_refuseIfNoSpace 30 = .ok (.aload_n 0, 1) := by decide +kernel
theorem dX5_refuseIfNoSpace_31 : decode cX5_refuseIfNoSpace 31 = .ok (.getfield 28, 3) := by decide +kernel
theorem dX5_refuseIfNoSpace_34 : decode cX5_refuseIfNoSpace 34 = .ok (.aload_n 0, 1) := by decide +kernel
theorem dX5_refuseIfNoSpace_35 : decode cX5_refuseIfNoSpace 35 = .ok (.getfield 41, 3) := by decide +kernel
theorem dX5_refuseIfNoSpace_38 : decode cX5_refuseIfNoSpace 38 = .ok (.invokevirtual 194, 3) := by decide +kernel
theorem dX5_refuseIfNoSpace_41 : decode cX5_refuseIfNoSpace 41 = .ok (.checkcast 126, 3) := by decide +kernel
theorem dX5_refuseIfNoSpace_44 : decode cX5_refuseIfNoSpace 44 = .ok (.getfield 216, 3) := by decide +kernel
theorem dX5_refuseIfNoSpace_47 : decode cX5_refuseIfNoSpace 47 = .ok (.getfield 160, 3) := by decide +kernel
theorem dX5_refuseIfNoSpace_50 : decode cX5_refuseIfNoSpace 50 = .ok (.ifCond .eq 13, 3) := by decide +kernel
theorem dX5_refuseIfNoSpace_53 : decode cX5_refuseIfNoSpace 53 = .ok (.new 59, 3) := by decide +kernel
theorem dX5_refuseIfNoSpace_56 : decode cX5_refuseIfNoSpace 56 = .ok (.dup, 1) := by decide +kernel
theorem dX5_refuseIfNoSpace_57 : decode cX5_refuseIfNoSpace 57 = .ok (.ldc 219, 2) := by decide +kernel
theorem dX5_refuseIfNoSpace_59 : decode cX5_refuseIfNoSpace 59 = .ok (.invokespecial 63, 3) := by decide +kernel
theorem dX5_refuseIfNoSpace_62 : decode cX5_refuseIfNoSpace 62 = .ok (.athrow, 1) := by decide +kernel
theorem dX5_refuseIfNoSpace_63 : decode cX5_refuseIfNoSpace 63 = .ok (.return_, 1) := by decide +kernel
set_option maxRecDepth 20000 in
theorem ggX5_recordsThere_Jx4a65c_size_8abf5 : GoodIn wsX5_recordsThere wsJx4a65c_size_8abf5 := goodIn_r _ [7, 8, 17, 18, 19] (by decide +kernel) (by decide +kernel)
set_option maxRecDepth 20000 in
theorem gX5_recordsThere_Jx4a65c_size_8abf5 : GoodIn wsX5_recordsThere (wsV RX5 64 RJx4a65c yJx4a65c_size_8abf5 wsJx4a65c_size_8abf5) := goodIn_app (goodIn_of _ (by decide +kernel)) ggX5_recordsThere_Jx4a65c_size_8abf5
theorem dX5_recordsThere_0 : decode cX5_recordsThere 0 = .ok (.aload_n 0, 1) := by decide +kernel
theorem dX5_recordsThere_1 : decode cX5_recordsThere 1 = .ok (.getfield 28, 3) := by decide +kernel
theorem dX5_recordsThere_4 : decode cX5_recordsThere 4 = .ok (.invokevirtual 64, 3) := by decide +kernel
theorem dX5_recordsThere_7 : decode cX5_recordsThere 7 = .ok (.aload_n 0, 1) := by decide +kernel
theorem dX5_recordsThere_8 : decode cX5_recordsThere 8 = .ok (.getfield 41, 3) := by decide +kernel
theorem dX5_recordsThere_11 : decode cX5_recordsThere 11 = .ok (.isub, 1) := by decide +kernel
theorem dX5_recordsThere_12 : decode cX5_recordsThere 12 = .ok (.ireturn, 1) := by decide +kernel
set_option maxRecDepth 20000 in
theorem ggX5_isSpaceFull_Jx4a65c_size_8abf5 : GoodIn wsX5_isSpaceFull wsJx4a65c_size_8abf5 := goodIn_r _ [8, 9, 23, 24, 25] (by decide +kernel) (by decide +kernel)
set_option maxRecDepth 20000 in
theorem gX5_isSpaceFull_Jx4a65c_size_8abf5 : GoodIn wsX5_isSpaceFull (wsV RX5 64 RJx4a65c yJx4a65c_size_8abf5 wsJx4a65c_size_8abf5) := goodIn_app (goodIn_of _ (by decide +kernel)) ggX5_isSpaceFull_Jx4a65c_size_8abf5
set_option maxRecDepth 20000 in
theorem ggX5_isSpaceFull_X5_recordsThere : GoodIn wsX5_isSpaceFull wsX5_recordsThere := goodIn_r _ [14, 2, 1, 4, 5, 6, 7, 8, 9, 15, 16, 17, 18, 19, 20, 21, 22, 23, 24, 25] (by decide +kernel) (by decide +kernel)
set_option maxRecDepth 20000 in
theorem gX5_isSpaceFull_X5_recordsThere : GoodIn wsX5_isSpaceFull (wsV RX5 55 RX5 yX5_recordsThere wsX5_recordsThere) := goodIn_app (goodIn_of _ (by decide +kernel)) ggX5_isSpaceFull_X5_recordsThere
theorem dX5_isSpaceFull_0 : decode cX5_isSpaceFull 0 = .ok (.aload_n 0, 1) := by decide +kernel
theorem dX5_isSpaceFull_1 : decode cX5_isSpaceFull 1 = .ok (.getfield 41, 3) := by decide +kernel
theorem dX5_isSpaceFull_4 : decode cX5_isSpaceFull 4 = .ok (.aload_n 0, 1) := by decide +kernel
theorem dX5_isSpaceFull_5 : decode cX5_isSpaceFull 5 = .ok (.getfield 28, 3) := by decide +kernel
theorem dX5_isSpaceFull_8 : decode cX5_isSpaceFull 8 = .ok (.invokevirtual 64, 3) := by decide +kernel
theorem dX5_isSpaceFull_11 : decode cX5_isSpaceFull 11 = .ok (.if_icmp .ge 18, 3) := by decide +kernel
theorem dX5_isSpaceFull_14 : decode cX5_isSpaceFull 14 = .ok (.aload_n 0, 1) := by decide +kernel
theorem dX5_isSpaceFull_15 : decode cX5_isSpaceFull 15 = .ok (.invokevirtual 55, 3) := by decide +kernel
theorem dX5_isSpaceFull_18 : decode cX5_isSpaceFull 18 = .ok (.aload_n 0, 1) := by decide +kernel
theorem dX5_isSpaceFull_19 : decode cX5_isSpaceFull 19 = .ok (.getfield 31, 3) := by decide +kernel
theorem dX5_isSpaceFull_22 : decode cX5_isSpaceFull 22 = .ok (.if_icmp .lt 7, 3) := by decide +kernel
theorem dX5_isSpaceFull_25 : decode cX5_isSpaceFull 25 = .ok (.iconst 1, 1) := by decide +kernel
theorem dX5_isSpaceFull_26 : decode cX5_isSpaceFull 26 = .ok (.goto 4, 3) := by decide +kernel
theorem dX5_isSpaceFull_29 : decode cX5_isSpaceFull 29 = .ok (.iconst 0, 1) := by decide +kernel
theorem dX5_isSpaceFull_30 : decode cX5_isSpaceFull 30 = .ok (.ireturn, 1) := by decide +kernel
set_option maxRecDepth 20000 in
theorem ggX5_undoDownTo_Jx4a65c_size_8abf5 : GoodIn wsX5_undoDownTo wsJx4a65c_size_8abf5 := goodIn_r _ [7, 8, 51, 52, 53] (by decide +kernel) (by decide +kernel)
set_option maxRecDepth 20000 in
theorem gX5_undoDownTo_Jx4a65c_size_8abf5 : GoodIn wsX5_undoDownTo (wsV RX5 64 RJx4a65c yJx4a65c_size_8abf5 wsJx4a65c_size_8abf5) := goodIn_app (goodIn_of _ (by decide +kernel)) ggX5_undoDownTo_Jx4a65c_size_8abf5
set_option maxRecDepth 20000 in
theorem ggX5_undoDownTo_Jx4a65c_get_915e3 : GoodIn wsX5_undoDownTo wsJx4a65c_get_915e3 := goodIn_r _ [12, 8, 13, 14, 15, 16, 17, 18, 19, 20, 21, 22, 23, 6, 24, 25, 51, 52, 53] (by decide +kernel) (by decide +kernel)
set_option maxRecDepth 20000 in
theorem gX5_undoDownTo_Jx4a65c_get_915e3 : GoodIn wsX5_undoDownTo (wsV RX5 194 RJx4a65c yJx4a65c_get_915e3 wsJx4a65c_get_915e3) := goodIn_app (goodIn_of _ (by decide +kernel)) ggX5_undoDownTo_Jx4a65c_get_915e3
set_option maxRecDepth 20000 in
theorem ggX5_undoDownTo_X1_takeBack : GoodIn wsX5_undoDownTo wsX1_takeBack := goodIn_r _ [29, 30, 31, 32, 33, 47, 48, 49, 50, 54, 55, 42, 43, 44, 45, 46] (by decide +kernel) (by decide +kernel)
set_option maxRecDepth 20000 in
theorem gX5_undoDownTo_X1_takeBack_n224 : GoodIn wsX5_undoDownTo (wsX1_takeBack) := ggX5_undoDownTo_X1_takeBack
theorem dX5_undoDownTo_0 : decode cX5_undoDownTo 0 = .ok (.iconst 0, 1) := by decide +kernel
theorem dX5_undoDownTo_1 : decode cX5_undoDownTo 1 = .ok (.istore_n 3, 1) := by decide +kernel
theorem dX5_undoDownTo_2 : decode cX5_undoDownTo 2 = .ok (.aload_n 0, 1) := by decide +kernel
theorem dX5_undoDownTo_3 : decode cX5_undoDownTo 3 = .ok (.getfield 28, 3) := by decide +kernel
theorem dX5_undoDownTo_6 : decode cX5_undoDownTo 6 = .ok (.invokevirtual 64, 3) := by decide +kernel
theorem dX5_undoDownTo_9 : decode cX5_undoDownTo 9 = .ok (.iconst 1, 1) := by decide +kernel
theorem dX5_undoDownTo_10 : decode cX5_undoDownTo 10 = .ok (.isub, 1) := by decide +kernel
theorem dX5_undoDownTo_11 : decode cX5_undoDownTo 11 = .ok (.istore 4, 2) := by decide +kernel
theorem dX5_undoDownTo_13 : decode cX5_undoDownTo 13 = .ok (.iload 4, 2) := by decide +kernel
theorem dX5_undoDownTo_15 : decode cX5_undoDownTo 15 = .ok (.ifCond .lt 56, 3) := by decide +kernel
theorem dX5_undoDownTo_18 : decode cX5_undoDownTo 18 = .ok (.aload_n 1, 1) := by decide +kernel
theorem dX5_undoDownTo_19 : decode cX5_undoDownTo 19 = .ok (.getfield 151, 3) := by decide +kernel
theorem dX5_undoDownTo_22 : decode cX5_undoDownTo 22 = .ok (.iload_n 2, 1) := by decide +kernel
theorem dX5_undoDownTo_23 : decode cX5_undoDownTo 23 = .ok (.if_icmp .le 48, 3) := by decide +kernel
theorem dX5_undoDownTo_26 : decode cX5_undoDownTo 26 = .ok (.aload_n 0, 1) := by decide +kernel
theorem dX5_undoDownTo_27 : decode cX5_undoDownTo 27 = .ok (.getfield 28, 3) := by decide +kernel
theorem dX5_undoDownTo_30 : decode cX5_undoDownTo 30 = .ok (.iload 4, 2) := by decide +kernel
theorem dX5_undoDownTo_32 : decode cX5_undoDownTo 32 = .ok (.invokevirtual 194, 3) := by decide +kernel
theorem dX5_undoDownTo_35 : decode cX5_undoDownTo 35 = .ok (.checkcast 126, 3) := by decide +kernel
theorem dX5_undoDownTo_38 : decode cX5_undoDownTo 38 = .ok (.astore 5, 2) := by decide +kernel
theorem dX5_undoDownTo_40 : decode cX5_undoDownTo 40 = .ok (.aload 5, 2) := by decide +kernel
theorem dX5_undoDownTo_42 : decode cX5_undoDownTo 42 = .ok (.getfield 216, 3) := by decide +kernel
theorem dX5_undoDownTo_45 : decode cX5_undoDownTo 45 = .ok (.aload_n 1, 1) := by decide +kernel
theorem dX5_undoDownTo_46 : decode cX5_undoDownTo 46 = .ok (.if_acmp .ne 19, 3) := by decide +kernel
theorem dX5_undoDownTo_49 : decode cX5_undoDownTo 49 = .ok (.aload 5, 2) := by decide +kernel
theorem dX5_undoDownTo_51 : decode cX5_undoDownTo 51 = .ok (.getfield 221, 3) := by decide +kernel
theorem dX5_undoDownTo_54 : decode cX5_undoDownTo 54 = .ok (.ifCond .ne 11, 3) := by decide +kernel
theorem dX5_undoDownTo_57 : decode cX5_undoDownTo 57 = .ok (.aload 5, 2) := by decide +kernel
theorem dX5_undoDownTo_59 : decode cX5_undoDownTo 59 = .ok (.invokevirtual 224, 3) := by decide +kernel
theorem dX5_undoDownTo_62 : decode cX5_undoDownTo 62 = .ok (.iinc 3 1, 3) := by decide +kernel
theorem dX5_undoDownTo_65 : decode cX5_undoDownTo 65 = .ok (.iinc 4 (-1), 3) := by decide +kernel
theorem dX5_undoDownTo_68 : decode cX5_undoDownTo 68 = .ok (.goto (-55), 3) := by decide +kernel
theorem dX5_undoDownTo_71 : decode cX5_undoDownTo 71 = .ok (.iload_n 3, 1) := by decide +kernel
theorem dX5_undoDownTo_72 : decode cX5_undoDownTo 72 = .ok (.ireturn, 1) := by decide +kernel
set_option maxRecDepth 20000 in
theorem ggX5_lockerOf_Jx4a65c_size_8abf5 : GoodIn wsX5_lockerOf wsJx4a65c_size_8abf5 := goodIn_r _ [7, 8, 49, 50, 51] (by decide +kernel) (by decide +kernel)
set_option maxRecDepth 20000 in
theorem gX5_lockerOf_Jx4a65c_size_8abf5 : GoodIn wsX5_lockerOf (wsV RX5 64 RJx4a65c yJx4a65c_size_8abf5 wsJx4a65c_size_8abf5) := goodIn_app (goodIn_of _ (by decide +kernel)) ggX5_lockerOf_Jx4a65c_size_8abf5
set_option maxRecDepth 20000 in
theorem ggX5_lockerOf_Jx4a65c_get_915e3 : GoodIn wsX5_lockerOf wsJx4a65c_get_915e3 := goodIn_r _ [12, 8, 13, 14, 15, 16, 17, 18, 19, 20, 21, 22, 23, 6, 24, 25, 49, 50, 51] (by decide +kernel) (by decide +kernel)
set_option maxRecDepth 20000 in
theorem gX5_lockerOf_Jx4a65c_get_915e3 : GoodIn wsX5_lockerOf (wsV RX5 194 RJx4a65c yJx4a65c_get_915e3 wsJx4a65c_get_915e3) := goodIn_app (goodIn_of _ (by decide +kernel)) ggX5_lockerOf_Jx4a65c_get_915e3
set_option maxRecDepth 20000 in
theorem ggX5_lockerOf_X1_stands : GoodIn wsX5_lockerOf wsX1_stands := goodIn_r _ [29, 30, 31, 40, 41, 42, 43] (by decide +kernel) (by decide +kernel)
set_option maxRecDepth 20000 in
theorem gX5_lockerOf_X1_stands_n227 : GoodIn wsX5_lockerOf (wsX1_stands) := ggX5_lockerOf_X1_stands
theorem dX5_lockerOf_0 : decode cX5_lockerOf 0 = .ok (.aload_n 0, 1) := by decide +kernel
theorem dX5_lockerOf_1 : decode cX5_lockerOf 1 = .ok (.getfield 28, 3) := by decide +kernel
theorem dX5_lockerOf_4 : decode cX5_lockerOf 4 = .ok (.invokevirtual 64, 3) := by decide +kernel
theorem dX5_lockerOf_7 : decode cX5_lockerOf 7 = .ok (.iconst 1, 1) := by decide +kernel
theorem dX5_lockerOf_8 : decode cX5_lockerOf 8 = .ok (.isub, 1) := by decide +kernel
theorem dX5_lockerOf_9 : decode cX5_lockerOf 9 = .ok (.istore_n 2, 1) := by decide +kernel
theorem dX5_lockerOf_10 : decode cX5_lockerOf 10 = .ok (.iload_n 2, 1) := by decide +kernel
theorem dX5_lockerOf_11 : decode cX5_lockerOf 11 = .ok (.ifCond .lt 48, 3) := by decide +kernel
theorem dX5_lockerOf_14 : decode cX5_lockerOf 14 = .ok (.aload_n 0, 1) := by decide +kernel
theorem dX5_lockerOf_15 : decode cX5_lockerOf 15 = .ok (.getfield 28, 3) := by decide +kernel
theorem dX5_lockerOf_18 : decode cX5_lockerOf 18 = .ok (.iload_n 2, 1) := by decide +kernel
theorem dX5_lockerOf_19 : decode cX5_lockerOf 19 = .ok (.invokevirtual 194, 3) := by decide +kernel
theorem dX5_lockerOf_22 : decode cX5_lockerOf 22 = .ok (.checkcast 126, 3) := by decide +kernel
theorem dX5_lockerOf_25 : decode cX5_lockerOf 25 = .ok (.astore_n 3, 1) := by decide +kernel
theorem dX5_lockerOf_26 : decode cX5_lockerOf 26 = .ok (.aload_n 3, 1) := by decide +kernel
theorem dX5_lockerOf_27 : decode cX5_lockerOf 27 = .ok (.aload_n 1, 1) := by decide +kernel
theorem dX5_lockerOf_28 : decode cX5_lockerOf 28 = .ok (.invokevirtual 227, 3) := by decide +kernel
theorem dX5_lockerOf_31 : decode cX5_lockerOf 31 = .ok (.ifCond .eq 22, 3) := by decide +kernel
theorem dX5_lockerOf_34 : decode cX5_lockerOf 34 = .ok (.aload_n 3, 1) := by decide +kernel
theorem dX5_lockerOf_35 : decode cX5_lockerOf 35 = .ok (.getfield 216, 3) := by decide +kernel
theorem dX5_lockerOf_38 : decode cX5_lockerOf 38 = .ok (.getfield 160, 3) := by decide +kernel
theorem dX5_lockerOf_41 : decode cX5_lockerOf 41 = .ok (.ifCond .eq 10, 3) := by decide +kernel
theorem dX5_lockerOf_44 : decode cX5_lockerOf 44 = .ok (.aload_n 3, 1) := by decide +kernel
theorem dX5_lockerOf_45 : decode cX5_lockerOf 45 = .ok (.getfield 216, 3) := by decide +kernel
theorem dX5_lockerOf_48 : decode cX5_lockerOf 48 = .ok (.goto 4, 3) := by decide +kernel
theorem dX5_lockerOf_51 : decode cX5_lockerOf 51 = .ok (.aconst_null, 1) := by decide +kernel
theorem dX5_lockerOf_52 : decode cX5_lockerOf 52 = .ok (.areturn, 1) := by decide +kernel
theorem dX5_lockerOf_53 : decode cX5_lockerOf 53 = .ok (.iinc 2 (-1), 3) := by decide +kernel
theorem dX5_lockerOf_56 : decode cX5_lockerOf 56 = .ok (.goto (-46), 3) := by decide +kernel
theorem dX5_lockerOf_59 : decode cX5_lockerOf 59 = .ok (.aconst_null, 1) := by decide +kernel
theorem dX5_lockerOf_60 : decode cX5_lockerOf 60 = .ok (.areturn, 1) := by decide +kernel
set_option maxRecDepth 20000 in
theorem ggX5_readFromRecords_X5_oldestUnseen : GoodIn wsX5_readFromRecords wsX5_oldestUnseen := goodIn_r _ [8, 9, 10, 11, 12, 13, 14, 15, 16, 17, 18, 19, 20, 21, 22, 23, 24, 25, 26, 27, 28, 29, 30, 31, 32, 33, 34, 35, 36, 37, 38, 39, 40, 41, 42, 43, 44, 45, 46, 47, 48, 68, 69, 70, 71, 72, 73, 74, 75, 78, 79, 80, 81, 82, 83, 84, 85, 86, 87, 88, 89] (by decide +kernel) (by decide +kernel)
set_option maxRecDepth 20000 in
theorem gX5_readFromRecords_X5_oldestUnseen : GoodIn wsX5_readFromRecords (wsV RX5 167 RX5 yX5_oldestUnseen wsX5_oldestUnseen) := goodIn_app (goodIn_of _ (by decide +kernel)) ggX5_readFromRecords_X5_oldestUnseen
set_option maxRecDepth 20000 in
theorem ggX5_readFromRecords_X5_clean : GoodIn wsX5_readFromRecords wsX5_clean := goodIn_r _ [52, 53, 54, 55, 56, 57, 58, 59, 60, 61, 62, 63, 68, 69, 70, 71, 72, 73, 74, 75, 90, 91, 92, 85, 86, 87, 88, 89] (by decide +kernel) (by decide +kernel)
set_option maxRecDepth 20000 in
theorem gX5_readFromRecords_X5_clean : GoodIn wsX5_readFromRecords (wsV RX5 114 RX5 yX5_clean wsX5_clean) := goodIn_app (goodIn_of _ (by decide +kernel)) ggX5_readFromRecords_X5_clean
set_option maxRecDepth 20000 in
theorem ggX5_readFromRecords_X5_valueAheadOf : GoodIn wsX5_readFromRecords wsX5_valueAheadOf := goodIn_r _ [67, 9, 10, 11, 12, 13, 14, 15, 16, 17, 18, 19, 20, 21, 22, 23, 24, 25, 26, 27, 28, 29, 30, 31, 32, 33, 68, 69, 70, 71, 72, 73, 74, 75, 76, 77, 81, 82, 83, 84, 78, 79, 80] (by decide +kernel) (by decide +kernel)
set_option maxRecDepth 20000 in
theorem gX5_readFromRecords_X5_valueAheadOf : GoodIn wsX5_readFromRecords (wsV RX5 170 RX5 yX5_valueAheadOf wsX5_valueAheadOf) := goodIn_app (goodIn_of _ (by decide +kernel)) ggX5_readFromRecords_X5_valueAheadOf
theorem dX5_readFromRecords_0 : decode cX5_readFromRecords 0 = .ok (.aload_n 0, 1) := by decide +kernel
theorem dX5_readFromRecords_1 : decode cX5_readFromRecords 1 = .ok (.aload_n 1, 1) := by decide +kernel
theorem dX5_readFromRecords_2 : decode cX5_readFromRecords 2 = .ok (.iload_n 2, 1) := by decide +kernel
theorem dX5_readFromRecords_3 : decode cX5_readFromRecords 3 = .ok (.aload_n 3, 1) := by decide +kernel
theorem dX5_readFromRecords_4 : decode cX5_readFromRecords 4 = .ok (.invokevirtual 167, 3) := by decide +kernel
theorem dX5_readFromRecords_7 : decode cX5_readFromRecords 7 = .ok (.istore 4, 2) := by decide +kernel
theorem dX5_readFromRecords_9 : decode cX5_readFromRecords 9 = .ok (.iload 4, 2) := by decide +kernel
theorem dX5_readFromRecords_11 : decode cX5_readFromRecords 11 = .ok (.aload_n 0, 1) := by decide +kernel
theorem dX5_readFromRecords_12 : decode cX5_readFromRecords 12 = .ok (.getfield 41, 3) := by decide +kernel
theorem dX5_readFromRecords_15 : decode cX5_readFromRecords 15 = .ok (.if_icmp .ge 13, 3) := by decide +kernel
theorem dX5_readFromRecords_18 : decode cX5_readFromRecords 18 = .ok (.new 231, 3) := by decide +kernel
theorem dX5_readFromRecords_21 : decode cX5_readFromRecords 21 = .ok (.dup, 1) := by decide +kernel
theorem dX5_readFromRecords_22 : decode cX5_readFromRecords 22 = .ok (.ldc 233, 2) := by decide +kernel
theorem dX5_readFromRecords_24 : decode cX5_readFromRecords 24 = .ok (.invokespecial 235, 3) := by decide +kernel
theorem dX5_readFromRecords_27 : decode cX5_readFromRecords 27 = .ok (.athrow, 1) := by decide +kernel
theorem dX5_readFromRecords_28 : decode cX5_readFromRecords 28 = .ok (.aload_n 0, 1) := by decide +kernel
theorem dX5_readFromRecords_29 : decode cX5_readFromRecords 29 = .ok (.aload_n 1, 1) := by decide +kernel
theorem dX5_readFromRecords_30 : decode cX5_readFromRecords 30 = .ok (.getfield 104, 3) := by decide +kernel
theorem dX5_readFromRecords_33 : decode cX5_readFromRecords 33 = .ok (.invokevirtual 114, 3) := by decide +kernel
theorem dX5_readFromRecords_36 : decode cX5_readFromRecords 36 = .ok (.aload_n 0, 1) := by decide +kernel
theorem dX5_readFromRecords_37 : decode cX5_readFromRecords 37 = .ok (.iload 4, 2) := by decide +kernel
theorem dX5_readFromRecords_39 : decode cX5_readFromRecords 39 = .ok (.aload_n 1, 1) := by decide +kernel
theorem dX5_readFromRecords_40 : decode cX5_readFromRecords 40 = .ok (.invokevirtual 170, 3) := by decide +kernel
theorem dX5_readFromRecords_43 : decode cX5_readFromRecords 43 = .ok (.ireturn, 1) := by decide +kernel
set_option maxRecDepth 20000 in
theorem ggX5_oldestUnseen_Jx4a65c_size_8abf5 : GoodIn wsX5_oldestUnseen wsJx4a65c_size_8abf5 := goodIn_r _ [7, 8, 49, 50, 51] (by decide +kernel) (by decide +kernel)
set_option maxRecDepth 20000 in
theorem gX5_oldestUnseen_Jx4a65c_size_8abf5 : GoodIn wsX5_oldestUnseen (wsV RX5 64 RJx4a65c yJx4a65c_size_8abf5 wsJx4a65c_size_8abf5) := goodIn_app (goodIn_of _ (by decide +kernel)) ggX5_oldestUnseen_Jx4a65c_size_8abf5
set_option maxRecDepth 20000 in
theorem ggX5_oldestUnseen_Jx4a65c_get_915e3 : GoodIn wsX5_oldestUnseen wsJx4a65c_get_915e3 := goodIn_r _ [12, 8, 13, 14, 15, 16, 17, 18, 19, 20, 21, 22, 23, 6, 24, 25, 49, 50, 51] (by decide +kernel) (by decide +kernel)
set_option maxRecDepth 20000 in
theorem gX5_oldestUnseen_Jx4a65c_get_915e3 : GoodIn wsX5_oldestUnseen (wsV RX5 194 RJx4a65c yJx4a65c_get_915e3 wsJx4a65c_get_915e3) := goodIn_app (goodIn_of _ (by decide +kernel)) ggX5_oldestUnseen_Jx4a65c_get_915e3
set_option maxRecDepth 20000 in
theorem ggX5_oldestUnseen_X1_stands : GoodIn wsX5_oldestUnseen wsX1_stands := goodIn_r _ [29, 30, 31, 52, 53, 54, 55] (by decide +kernel) (by decide +kernel)
set_option maxRecDepth 20000 in
theorem gX5_oldestUnseen_X1_stands_n227 : GoodIn wsX5_oldestUnseen (wsX1_stands) := ggX5_oldestUnseen_X1_stands
set_option maxRecDepth 20000 in
theorem ggX5_oldestUnseen_X1_isSeen : GoodIn wsX5_oldestUnseen wsX1_isSeen := goodIn_r _ [34, 35, 36, 37, 38, 39, 40, 52, 53, 54, 55, 56, 57, 58, 59, 60] (by decide +kernel) (by decide +kernel)
set_option maxRecDepth 20000 in
theorem gX5_oldestUnseen_X1_isSeen_n236 : GoodIn wsX5_oldestUnseen (wsX1_isSeen) := ggX5_oldestUnseen_X1_isSeen
theorem dX5_oldestUnseen_0 : decode cX5_oldestUnseen 0 = .ok (.aload_n 0, 1) := by decide +kernel
theorem dX5_oldestUnseen_1 : decode cX5_oldestUnseen 1 = .ok (.getfield 28, 3) := by decide +kernel
theorem dX5_oldestUnseen_4 : decode cX5_oldestUnseen 4 = .ok (.invokevirtual 64, 3) := by decide +kernel
theorem dX5_oldestUnseen_7 : decode cX5_oldestUnseen 7 = .ok (.istore 4, 2) := by decide +kernel
theorem dX5_oldestUnseen_9 : decode cX5_oldestUnseen 9 = .ok (.aload_n 0, 1) := by decide +kernel
theorem dX5_oldestUnseen_10 : decode cX5_oldestUnseen 10 = .ok (.getfield 28, 3) := by decide +kernel
theorem dX5_oldestUnseen_13 : decode cX5_oldestUnseen 13 = .ok (.invokevirtual 64, 3) := by decide +kernel
theorem dX5_oldestUnseen_16 : decode cX5_oldestUnseen 16 = .ok (.iconst 1, 1) := by decide +kernel
theorem dX5_oldestUnseen_17 : decode cX5_oldestUnseen 17 = .ok (.isub, 1) := by decide +kernel
theorem dX5_oldestUnseen_18 : decode cX5_oldestUnseen 18 = .ok (.istore 5, 2) := by decide +kernel
theorem dX5_oldestUnseen_20 : decode cX5_oldestUnseen 20 = .ok (.iload 5, 2) := by decide +kernel
theorem dX5_oldestUnseen_22 : decode cX5_oldestUnseen 22 = .ok (.ifCond .lt 49, 3) := by decide +kernel
theorem dX5_oldestUnseen_25 : decode cX5_oldestUnseen 25 = .ok (.aload_n 0, 1) := by decide +kernel
theorem dX5_oldestUnseen_26 : decode cX5_oldestUnseen 26 = .ok (.getfield 28, 3) := by decide +kernel
theorem dX5_oldestUnseen_29 : decode cX5_oldestUnseen 29 = .ok (.iload 5, 2) := by decide +kernel
theorem dX5_oldestUnseen_31 : decode cX5_oldestUnseen 31 = .ok (.invokevirtual 194, 3) := by decide +kernel
theorem dX5_oldestUnseen_34 : decode cX5_oldestUnseen 34 = .ok (.checkcast 126, 3) := by decide +kernel
theorem dX5_oldestUnseen_37 : decode cX5_oldestUnseen 37 = .ok (.astore 6, 2) := by decide +kernel
theorem dX5_oldestUnseen_39 : decode cX5_oldestUnseen 39 = .ok (.aload 6, 2) := by decide +kernel
theorem dX5_oldestUnseen_41 : decode cX5_oldestUnseen 41 = .ok (.aload_n 1, 1) := by decide +kernel
theorem dX5_oldestUnseen_42 : decode cX5_oldestUnseen 42 = .ok (.invokevirtual 227, 3) := by decide +kernel
theorem dX5_oldestUnseen_45 : decode cX5_oldestUnseen 45 = .ok (.ifCond .eq 20, 3) := by decide +kernel
theorem dX5_oldestUnseen_48 : decode cX5_oldestUnseen 48 = .ok (.aload 6, 2) := by decide +kernel
theorem dX5_oldestUnseen_50 : decode cX5_oldestUnseen 50 = .ok (.iload_n 2, 1) := by decide +kernel
theorem dX5_oldestUnseen_51 : decode cX5_oldestUnseen 51 = .ok (.aload_n 3, 1) := by decide +kernel
theorem dX5_oldestUnseen_52 : decode cX5_oldestUnseen 52 = .ok (.invokevirtual 236, 3) := by decide +kernel
theorem dX5_oldestUnseen_55 : decode cX5_oldestUnseen 55 = .ok (.ifCond .eq 6, 3) := by decide +kernel
theorem dX5_oldestUnseen_58 : decode cX5_oldestUnseen 58 = .ok (.iload 4, 2) := by decide +kernel
theorem dX5_oldestUnseen_60 : decode cX5_oldestUnseen 60 = .ok (.ireturn, 1) := by decide +kernel
theorem dX5_oldestUnseen_61 : decode cX5_oldestUnseen 61 = .ok (.iload 5, 2) := by decide +kernel
theorem dX5_oldestUnseen_63 : decode cX5_oldestUnseen 63 = .ok (.istore 4, 2) := by decide +kernel
theorem dX5_oldestUnseen_65 : decode cX5_oldestUnseen 65 = .ok (.iinc 5 (-1), 3) := by decide +kernel
theorem dX5_oldestUnseen_68 : decode cX5_oldestUnseen 68 = .ok (.goto (-48), 3) := by decide +kernel
theorem dX5_oldestUnseen_71 : decode cX5_oldestUnseen 71 = .ok (.iload 4, 2) := by decide +kernel
theorem dX5_oldestUnseen_73 : decode cX5_oldestUnseen 73 = .ok (.ireturn, 1) := by decide +kernel
set_option maxRecDepth 20000 in
theorem ggX5_valueAheadOf_Jx4a65c_size_8abf5 : GoodIn wsX5_valueAheadOf wsJx4a65c_size_8abf5 := goodIn_r _ [7, 8, 40, 41, 42] (by decide +kernel) (by decide +kernel)
set_option maxRecDepth 20000 in
theorem gX5_valueAheadOf_Jx4a65c_size_8abf5 : GoodIn wsX5_valueAheadOf (wsV RX5 64 RJx4a65c yJx4a65c_size_8abf5 wsJx4a65c_size_8abf5) := goodIn_app (goodIn_of _ (by decide +kernel)) ggX5_valueAheadOf_Jx4a65c_size_8abf5
set_option maxRecDepth 20000 in
theorem ggX5_valueAheadOf_Jx4a65c_get_915e3 : GoodIn wsX5_valueAheadOf wsJx4a65c_get_915e3 := goodIn_r _ [12, 8, 13, 14, 15, 16, 17, 18, 19, 20, 21, 22, 23, 6, 24, 25, 40, 41, 42] (by decide +kernel) (by decide +kernel)
set_option maxRecDepth 20000 in
theorem gX5_valueAheadOf_Jx4a65c_get_915e3 : GoodIn wsX5_valueAheadOf (wsV RX5 194 RJx4a65c yJx4a65c_get_915e3 wsJx4a65c_get_915e3) := goodIn_app (goodIn_of _ (by decide +kernel)) ggX5_valueAheadOf_Jx4a65c_get_915e3
theorem dX5_valueAheadOf_0 : decode cX5_valueAheadOf 0 = .ok (.iload_n 1, 1) := by decide +kernel
theorem dX5_valueAheadOf_1 : decode cX5_valueAheadOf 1 = .ok (.ifCond .lt 14, 3) := by decide +kernel
theorem dX5_valueAheadOf_4 : decode cX5_valueAheadOf 4 = .ok (.iload_n 1, 1) := by decide +kernel
theorem dX5_valueAheadOf_5 : decode cX5_valueAheadOf 5 = .ok (.aload_n 0, 1) := by decide +kernel
theorem dX5_valueAheadOf_6 : decode cX5_valueAheadOf 6 = .ok (.getfield 28, 3) := by decide +kernel
theorem dX5_valueAheadOf_9 : decode cX5_valueAheadOf 9 = .ok (.invokevirtual 64, 3) := by decide +kernel
theorem dX5_valueAheadOf_12 : decode cX5_valueAheadOf 12 = .ok (.if_icmp .lt 8, 3) := by decide +kernel
theorem dX5_valueAheadOf_15 : decode cX5_valueAheadOf 15 = .ok (.aload_n 2, 1) := by decide +kernel
theorem dX5_valueAheadOf_16 : decode cX5_valueAheadOf 16 = .ok (.getfield 128, 3) := by decide +kernel
theorem dX5_valueAheadOf_19 : decode cX5_valueAheadOf 19 = .ok (.ireturn, 1) := by decide +kernel
theorem dX5_valueAheadOf_20 : decode cX5_valueAheadOf 20 = .ok (.aload_n 0, 1) := by decide +kernel
theorem dX5_valueAheadOf_21 : decode cX5_valueAheadOf 21 = .ok (.getfield 28, 3) := by decide +kernel
theorem dX5_valueAheadOf_24 : decode cX5_valueAheadOf 24 = .ok (.iload_n 1, 1) := by decide +kernel
theorem dX5_valueAheadOf_25 : decode cX5_valueAheadOf 25 = .ok (.invokevirtual 194, 3) := by decide +kernel
theorem dX5_valueAheadOf_28 : decode cX5_valueAheadOf 28 = .ok (.checkcast 126, 3) := by decide +kernel
theorem dX5_valueAheadOf_31 : decode cX5_valueAheadOf 31 = .ok (.getfield 138, 3) := by decide +kernel
theorem dX5_valueAheadOf_34 : decode cX5_valueAheadOf 34 = .ok (.ireturn, 1) := by decide +kernel
set_option maxRecDepth 20000 in
theorem ggX5_clean_X0_markEnded : GoodIn wsX5_clean wsX0_markEnded := goodIn_r _ [5, 6, 7, 8, 9, 10, 11, 20, 21, 22, 23, 24, 25, 26, 27] (by decide +kernel) (by decide +kernel)
set_option maxRecDepth 20000 in
theorem gX5_clean_X0_markEnded_n240 : GoodIn wsX5_clean (wsX0_markEnded) := ggX5_clean_X0_markEnded
theorem dX5_clean_0 : decode cX5_clean 0 = .ok (.aload_n 0, 1) := by decide +kernel
theorem dX5_clean_1 : decode cX5_clean 1 = .ok (.dup, 1) := by decide +kernel
theorem dX5_clean_2 : decode cX5_clean 2 = .ok (.getfield 38, 3) := by decide +kernel
theorem dX5_clean_5 : decode cX5_clean 5 = .ok (.aload_n 1, 1) := by decide +kernel
theorem dX5_clean_6 : decode cX5_clean 6 = .ok (.invokevirtual 240, 3) := by decide +kernel
theorem dX5_clean_9 : decode cX5_clean 9 = .ok (.iadd, 1) := by decide +kernel
theorem dX5_clean_10 : decode cX5_clean 10 = .ok (.putfield 38, 3) := by decide +kernel
theorem dX5_clean_13 : decode cX5_clean 13 = .ok (.return_, 1) := by decide +kernel
