/-! printed decode rows and words -/
set_option maxRecDepth 20000 in
theorem ggX0_init_X3_init : GoodIn wsX0_init wsX3_init := goodIn_r _ [9, 10, 2, 3, 11, 12, 14, 15] (by decide +kernel) (by decide +kernel)
set_option maxRecDepth 20000 in
theorem gX0_init_X3_init_n17 : GoodIn wsX0_init (wsX3_init) := ggX0_init_X3_init
theorem dX0_init_0 : decode cX0_init 0 = .ok (.aload_n 0, 1) := by decide +kernel
theorem dX0_init_1 : decode cX0_init 1 = .ok (.invokespecial 3, 3) := by decide +kernel
theorem dX0_init_4 : decode cX0_init 4 = .ok (.aload_n 0, 1) := by decide +kernel
theorem dX0_init_5 : decode cX0_init 5 = .ok (.iconst 2, 1) := by decide +kernel
theorem dX0_init_6 : decode cX0_init 6 = .ok (.anewarray 9, 3) := by decide +kernel
theorem dX0_init_9 : decode cX0_init 9 = .ok (.putfield 11, 3) := by decide +kernel
theorem dX0_init_12 : decode cX0_init 12 = .ok (.iconst 0, 1) := by decide +kernel
theorem dX0_init_13 : decode cX0_init 13 = .ok (.istore_n 1, 1) := by decide +kernel
theorem dX0_init_14 : decode cX0_init 14 = .ok (.iload_n 1, 1) := by decide +kernel
theorem dX0_init_15 : decode cX0_init 15 = .ok (.aload_n 0, 1) := by decide +kernel
theorem dX0_init_16 : decode cX0_init 16 = .ok (.getfield 11, 3) := by decide +kernel
theorem dX0_init_19 : decode cX0_init 19 = .ok (.arraylength, 1) := by decide +kernel
theorem dX0_init_20 : decode cX0_init 20 = .ok (.if_icmp .ge 22, 3) := by decide +kernel
theorem dX0_init_23 : decode cX0_init 23 = .ok (.aload_n 0, 1) := by decide +kernel
theorem dX0_init_24 : decode cX0_init 24 = .ok (.getfield 11, 3) := by decide +kernel
theorem dX0_init_27 : decode cX0_init 27 = .ok (.iload_n 1, 1) := by decide +kernel
theorem dX0_init_28 : decode cX0_init 28 = .ok (.new 9, 3) := by decide +kernel
theorem dX0_init_31 : decode cX0_init 31 = .ok (.dup, 1) := by decide +kernel
theorem dX0_init_32 : decode cX0_init 32 = .ok (.invokespecial 17, 3) := by decide +kernel
theorem dX0_init_35 : decode cX0_init 35 = .ok (.aastore, 1) := by decide +kernel
theorem dX0_init_36 : decode cX0_init 36 = .ok (.iinc 1 1, 3) := by decide +kernel
theorem dX0_init_39 : decode cX0_init 39 = .ok (.goto (-25), 3) := by decide +kernel
theorem dX0_init_42 : decode cX0_init 42 = .ok (.return_, 1) := by decide +kernel
set_option maxRecDepth 20000 in
theorem ggX0_slotFor_X3_isEnded : GoodIn wsX0_slotFor wsX3_isEnded := goodIn_r _ [5, 6, 8, 9, 10, 11, 12, 13, 14] (by decide +kernel) (by decide +kernel)
set_option maxRecDepth 20000 in
theorem gX0_slotFor_X3_isEnded_n22 : GoodIn wsX0_slotFor (wsX3_isEnded) := ggX0_slotFor_X3_isEnded
theorem dX0_slotFor_0 : decode cX0_slotFor 0 = .ok (.aload_n 0, 1) := by decide +kernel
theorem dX0_slotFor_1 : decode cX0_slotFor 1 = .ok (.getfield 11, 3) := by decide +kernel
theorem dX0_slotFor_4 : decode cX0_slotFor 4 = .ok (.astore_n 2, 1) := by decide +kernel
theorem dX0_slotFor_5 : decode cX0_slotFor 5 = .ok (.aload_n 2, 1) := by decide +kernel
theorem dX0_slotFor_6 : decode cX0_slotFor 6 = .ok (.arraylength, 1) := by decide +kernel
theorem dX0_slotFor_7 : decode cX0_slotFor 7 = .ok (.istore_n 3, 1) := by decide +kernel
theorem dX0_slotFor_8 : decode cX0_slotFor 8 = .ok (.iconst 0, 1) := by decide +kernel
theorem dX0_slotFor_9 : decode cX0_slotFor 9 = .ok (.istore 4, 2) := by decide +kernel
theorem dX0_slotFor_11 : decode cX0_slotFor 11 = .ok (.iload 4, 2) := by decide +kernel
theorem dX0_slotFor_13 : decode cX0_slotFor 13 = .ok (.iload_n 3, 1) := by decide +kernel
theorem dX0_slotFor_14 : decode cX0_slotFor 14 = .ok (.if_icmp .ge 27, 3) := by decide +kernel
theorem dX0_slotFor_17 : decode cX0_slotFor 17 = .ok (.aload_n 2, 1) := by decide +kernel
theorem dX0_slotFor_18 : decode cX0_slotFor 18 = .ok (.iload 4, 2) := by decide +kernel
theorem dX0_slotFor_20 : decode cX0_slotFor 20 = .ok (.aaload, 1) := by decide +kernel
theorem dX0_slotFor_21 : decode cX0_slotFor 21 = .ok (.astore 5, 2) := by decide +kernel
theorem dX0_slotFor_23 : decode cX0_slotFor 23 = .ok (.aload 5, 2) := by decide +kernel
theorem dX0_slotFor_25 : decode cX0_slotFor 25 = .ok (.getfield 18, 3) := by decide +kernel
theorem dX0_slotFor_28 : decode cX0_slotFor 28 = .ok (.aload_n 1, 1) := by decide +kernel
theorem dX0_slotFor_29 : decode cX0_slotFor 29 = .ok (.if_acmp .ne 6, 3) := by decide +kernel
theorem dX0_slotFor_32 : decode cX0_slotFor 32 = .ok (.aload 5, 2) := by decide +kernel
theorem dX0_slotFor_34 : decode cX0_slotFor 34 = .ok (.areturn, 1) := by decide +kernel
theorem dX0_slotFor_35 : decode cX0_slotFor 35 = .ok (.iinc 4 1, 3) := by decide +kernel
theorem dX0_slotFor_38 : decode cX0_slotFor 38 = .ok (.goto (-27), 3) := by decide +kernel
theorem dX0_slotFor_41 : decode cX0_slotFor 41 = .ok (.aload_n 0, 1) := by decide +kernel
theorem dX0_slotFor_42 : decode cX0_slotFor 42 = .ok (.getfield 11, 3) := by decide +kernel
theorem dX0_slotFor_45 : decode cX0_slotFor 45 = .ok (.astore_n 2, 1) := by decide +kernel
theorem dX0_slotFor_46 : decode cX0_slotFor 46 = .ok (.aload_n 2, 1) := by decide +kernel
theorem dX0_slotFor_47 : decode cX0_slotFor 47 = .ok (.arraylength, 1) := by decide +kernel
theorem dX0_slotFor_48 : decode cX0_slotFor 48 = .ok (.istore_n 3, 1) := by decide +kernel
theorem dX0_slotFor_49 : decode cX0_slotFor 49 = .ok (.iconst 0, 1) := by decide +kernel
theorem dX0_slotFor_50 : decode cX0_slotFor 50 = .ok (.istore 4, 2) := by decide +kernel
theorem dX0_slotFor_52 : decode cX0_slotFor 52 = .ok (.iload 4, 2) := by decide +kernel
theorem dX0_slotFor_54 : decode cX0_slotFor 54 = .ok (.iload_n 3, 1) := by decide +kernel
theorem dX0_slotFor_55 : decode cX0_slotFor 55 = .ok (.if_icmp .ge 34, 3) := by decide +kernel
theorem dX0_slotFor_58 : decode cX0_slotFor 58 = .ok (.aload_n 2, 1) := by decide +kernel
theorem dX0_slotFor_59 : decode cX0_slotFor 59 = .ok (.iload 4, 2) := by decide +kernel
theorem dX0_slotFor_61 : decode cX0_slotFor 61 = .ok (.aaload, 1) := by decide +kernel
theorem dX0_slotFor_62 : decode cX0_slotFor 62 = .ok (.astore 5, 2) := by decide +kernel
theorem dX0_slotFor_64 : decode cX0_slotFor 64 = .ok (.aload 5, 2) := by decide +kernel
theorem dX0_slotFor_66 : decode cX0_slotFor 66 = .ok (.getfield 18, 3) := by decide +kernel
theorem dX0_slotFor_69 : decode cX0_slotFor 69 = .ok (.ifnull 11, 3) := by decide +kernel
theorem dX0_slotFor_72 : decode cX0_slotFor 72 = .ok (.aload 5, 2) := by decide +kernel
theorem dX0_slotFor_74 : decode cX0_slotFor 74 = .ok (.invokevirtual 22, 3) := by decide +kernel
theorem dX0_slotFor_77 : decode cX0_slotFor 77 = .ok (.ifCond .eq 6, 3) := by decide +kernel
theorem dX0_slotFor_80 : decode cX0_slotFor 80 = .ok (.aload 5, 2) := by decide +kernel
theorem dX0_slotFor_82 : decode cX0_slotFor 82 = .ok (.areturn, 1) := by decide +kernel
theorem dX0_slotFor_83 : decode cX0_slotFor 83 = .ok (.iinc 4 1, 3) := by decide +kernel
theorem dX0_slotFor_86 : decode cX0_slotFor 86 = .ok (.goto (-34), 3) := by decide +kernel
theorem dX0_slotFor_89 : decode cX0_slotFor 89 = .ok (.aconst_null, 1) := by decide +kernel
theorem dX0_slotFor_90 : decode cX0_slotFor 90 = .ok (.areturn, 1) := by decide +kernel
set_option maxRecDepth 20000 in
theorem ggX0_markEnded_X3_isEnded : GoodIn wsX0_markEnded wsX3_isEnded := goodIn_r _ [5, 6, 8, 9, 10, 11, 12, 13, 14] (by decide +kernel) (by decide +kernel)
set_option maxRecDepth 20000 in
theorem gX0_markEnded_X3_isEnded_n22 : GoodIn wsX0_markEnded (wsX3_isEnded) := ggX0_markEnded_X3_isEnded
theorem dX0_markEnded_0 : decode cX0_markEnded 0 = .ok (.iconst 0, 1) := by decide +kernel
theorem dX0_markEnded_1 : decode cX0_markEnded 1 = .ok (.istore_n 1, 1) := by decide +kernel
theorem dX0_markEnded_2 : decode cX0_markEnded 2 = .ok (.aload_n 0, 1) := by decide +kernel
theorem dX0_markEnded_3 : decode cX0_markEnded 3 = .ok (.getfield 11, 3) := by decide +kernel
theorem dX0_markEnded_6 : decode cX0_markEnded 6 = .ok (.astore_n 2, 1) := by decide +kernel
theorem dX0_markEnded_7 : decode cX0_markEnded 7 = .ok (.aload_n 2, 1) := by decide +kernel
theorem dX0_markEnded_8 : decode cX0_markEnded 8 = .ok (.arraylength, 1) := by decide +kernel
theorem dX0_markEnded_9 : decode cX0_markEnded 9 = .ok (.istore_n 3, 1) := by decide +kernel
theorem dX0_markEnded_10 : decode cX0_markEnded 10 = .ok (.iconst 0, 1) := by decide +kernel
theorem dX0_markEnded_11 : decode cX0_markEnded 11 = .ok (.istore 4, 2) := by decide +kernel
theorem dX0_markEnded_13 : decode cX0_markEnded 13 = .ok (.iload 4, 2) := by decide +kernel
theorem dX0_markEnded_15 : decode cX0_markEnded 15 = .ok (.iload_n 3, 1) := by decide +kernel
theorem dX0_markEnded_16 : decode cX0_markEnded 16 = .ok (.if_icmp .ge 40, 3) := by decide +kernel
theorem dX0_markEnded_19 : decode cX0_markEnded 19 = .ok (.aload_n 2, 1) := by decide +kernel
theorem dX0_markEnded_20 : decode cX0_markEnded 20 = .ok (.iload 4, 2) := by decide +kernel
theorem dX0_markEnded_22 : decode cX0_markEnded 22 = .ok (.aaload, 1) := by decide +kernel
theorem dX0_markEnded_23 : decode cX0_markEnded 23 = .ok (.astore 5, 2) := by decide +kernel
theorem dX0_markEnded_25 : decode cX0_markEnded 25 = .ok (.aload 5, 2) := by decide +kernel
theorem dX0_markEnded_27 : decode cX0_markEnded 27 = .ok (.invokevirtual 22, 3) := by decide +kernel
theorem dX0_markEnded_30 : decode cX0_markEnded 30 = .ok (.ifCond .eq 20, 3) := by decide +kernel
theorem dX0_markEnded_33 : decode cX0_markEnded 33 = .ok (.aload 5, 2) := by decide +kernel
theorem dX0_markEnded_35 : decode cX0_markEnded 35 = .ok (.getfield 26, 3) := by decide +kernel
theorem dX0_markEnded_38 : decode cX0_markEnded 38 = .ok (.ifCond .ne 12, 3) := by decide +kernel
theorem dX0_markEnded_41 : decode cX0_markEnded 41 = .ok (.aload 5, 2) := by decide +kernel
theorem dX0_markEnded_43 : decode cX0_markEnded 43 = .ok (.iconst 1, 1) := by decide +kernel
theorem dX0_markEnded_44 : decode cX0_markEnded 44 = .ok (.putfield 26, 3) := by decide +kernel
theorem dX0_markEnded_47 : decode cX0_markEnded 47 = .ok (.iinc 1 1, 3) := by decide +kernel
theorem dX0_markEnded_50 : decode cX0_markEnded 50 = .ok (.iinc 4 1, 3) := by decide +kernel
theorem dX0_markEnded_53 : decode cX0_markEnded 53 = .ok (.goto (-40), 3) := by decide +kernel
theorem dX0_markEnded_56 : decode cX0_markEnded 56 = .ok (.iload_n 1, 1) := by decide +kernel
theorem dX0_markEnded_57 : decode cX0_markEnded 57 = .ok (.ireturn, 1) := by decide +kernel
theorem dX1_init_0 : decode cX1_init 0 = .ok (.aload_n 0, 1) := by decide +kernel
theorem dX1_init_1 : decode cX1_init 1 = .ok (.invokespecial 1, 3) := by decide +kernel
theorem dX1_init_4 : decode cX1_init 4 = .ok (.aload_n 0, 1) := by decide +kernel
theorem dX1_init_5 : decode cX1_init 5 = .ok (.iconst 0, 1) := by decide +kernel
theorem dX1_init_6 : decode cX1_init 6 = .ok (.putfield 7, 3) := by decide +kernel
theorem dX1_init_9 : decode cX1_init 9 = .ok (.aload_n 0, 1) := by decide +kernel
theorem dX1_init_10 : decode cX1_init 10 = .ok (.aload_n 1, 1) := by decide +kernel
theorem dX1_init_11 : decode cX1_init 11 = .ok (.putfield 13, 3) := by decide +kernel
theorem dX1_init_14 : decode cX1_init 14 = .ok (.aload_n 0, 1) := by decide +kernel
theorem dX1_init_15 : decode cX1_init 15 = .ok (.aload_n 2, 1) := by decide +kernel
theorem dX1_init_16 : decode cX1_init 16 = .ok (.putfield 17, 3) := by decide +kernel
theorem dX1_init_19 : decode cX1_init 19 = .ok (.aload_n 0, 1) := by decide +kernel
theorem dX1_init_20 : decode cX1_init 20 = .ok (.iload_n 3, 1) := by decide +kernel
theorem dX1_init_21 : decode cX1_init 21 = .ok (.putfield 21, 3) := by decide +kernel
theorem dX1_init_24 : decode cX1_init 24 = .ok (.return_, 1) := by decide +kernel
theorem dX1_stands_0 : decode cX1_stands 0 = .ok (.aload_n 0, 1) := by decide +kernel
theorem dX1_stands_1 : decode cX1_stands 1 = .ok (.getfield 17, 3) := by decide +kernel
theorem dX1_stands_4 : decode cX1_stands 4 = .ok (.aload_n 1, 1) := by decide +kernel
theorem dX1_stands_5 : decode cX1_stands 5 = .ok (.if_acmp .ne 14, 3) := by decide +kernel
theorem dX1_stands_8 : decode cX1_stands 8 = .ok (.aload_n 0, 1) := by decide +kernel
theorem dX1_stands_9 : decode cX1_stands 9 = .ok (.getfield 7, 3) := by decide +kernel
theorem dX1_stands_12 : decode cX1_stands 12 = .ok (.ifCond .ne 7, 3) := by decide +kernel
theorem dX1_stands_15 : decode cX1_stands 15 = .ok (.iconst 1, 1) := by decide +kernel
theorem dX1_stands_16 : decode cX1_stands 16 = .ok (.goto 4, 3) := by decide +kernel
theorem dX1_stands_19 : decode cX1_stands 19 = .ok (.iconst 0, 1) := by decide +kernel
theorem dX1_stands_20 : decode cX1_stands 20 = .ok (.ireturn, 1) := by decide +kernel
set_option maxRecDepth 20000 in
theorem ggX1_isSeen_X4_isCommittedBy : GoodIn wsX1_isSeen wsX4_isCommittedBy := goodIn_r _ [5, 6, 11, 12, 13, 14, 15] (by decide +kernel) (by decide +kernel)
set_option maxRecDepth 20000 in
theorem gX1_isSeen_X4_isCommittedBy_n25 : GoodIn wsX1_isSeen (wsX4_isCommittedBy) := ggX1_isSeen_X4_isCommittedBy
theorem dX1_isSeen_0 : decode cX1_isSeen 0 = .ok (.aload_n 0, 1) := by decide +kernel
theorem dX1_isSeen_1 : decode cX1_isSeen 1 = .ok (.getfield 13, 3) := by decide +kernel
theorem dX1_isSeen_4 : decode cX1_isSeen 4 = .ok (.aload_n 2, 1) := by decide +kernel
theorem dX1_isSeen_5 : decode cX1_isSeen 5 = .ok (.if_acmp .eq 14, 3) := by decide +kernel
theorem dX1_isSeen_8 : decode cX1_isSeen 8 = .ok (.aload_n 0, 1) := by decide +kernel
theorem dX1_isSeen_9 : decode cX1_isSeen 9 = .ok (.getfield 13, 3) := by decide +kernel
theorem dX1_isSeen_12 : decode cX1_isSeen 12 = .ok (.iload_n 1, 1) := by decide +kernel
theorem dX1_isSeen_13 : decode cX1_isSeen 13 = .ok (.invokevirtual 25, 3) := by decide +kernel
theorem dX1_isSeen_16 : decode cX1_isSeen 16 = .ok (.ifCond .eq 7, 3) := by decide +kernel
theorem dX1_isSeen_19 : decode cX1_isSeen 19 = .ok (.iconst 1, 1) := by decide +kernel
theorem dX1_isSeen_20 : decode cX1_isSeen 20 = .ok (.goto 4, 3) := by decide +kernel
theorem dX1_isSeen_23 : decode cX1_isSeen 23 = .ok (.iconst 0, 1) := by decide +kernel
theorem dX1_isSeen_24 : decode cX1_isSeen 24 = .ok (.ireturn, 1) := by decide +kernel
theorem dX1_make_0 : decode cX1_make 0 = .ok (.aload_n 0, 1) := by decide +kernel
theorem dX1_make_1 : decode cX1_make 1 = .ok (.getfield 17, 3) := by decide +kernel
theorem dX1_make_4 : decode cX1_make 4 = .ok (.iload_n 1, 1) := by decide +kernel
theorem dX1_make_5 : decode cX1_make 5 = .ok (.putfield 31, 3) := by decide +kernel
theorem dX1_make_8 : decode cX1_make 8 = .ok (.aload_n 0, 1) := by decide +kernel
theorem dX1_make_9 : decode cX1_make 9 = .ok (.getfield 13, 3) := by decide +kernel
theorem dX1_make_12 : decode cX1_make 12 = .ok (.dup, 1) := by decide +kernel
theorem dX1_make_13 : decode cX1_make 13 = .ok (.getfield 36, 3) := by decide +kernel
theorem dX1_make_16 : decode cX1_make 16 = .ok (.iconst 1, 1) := by decide +kernel
theorem dX1_make_17 : decode cX1_make 17 = .ok (.iadd, 1) := by decide +kernel
theorem dX1_make_18 : decode cX1_make 18 = .ok (.putfield 36, 3) := by decide +kernel
theorem dX1_make_21 : decode cX1_make 21 = .ok (.return_, 1) := by decide +kernel
theorem dX1_takeBack_0 : decode cX1_takeBack 0 = .ok (.aload_n 0, 1) := by decide +kernel
theorem dX1_takeBack_1 : decode cX1_takeBack 1 = .ok (.getfield 17, 3) := by decide +kernel
theorem dX1_takeBack_4 : decode cX1_takeBack 4 = .ok (.aload_n 0, 1) := by decide +kernel
theorem dX1_takeBack_5 : decode cX1_takeBack 5 = .ok (.getfield 21, 3) := by decide +kernel
theorem dX1_takeBack_8 : decode cX1_takeBack 8 = .ok (.putfield 31, 3) := by decide +kernel
theorem dX1_takeBack_11 : decode cX1_takeBack 11 = .ok (.aload_n 0, 1) := by decide +kernel
theorem dX1_takeBack_12 : decode cX1_takeBack 12 = .ok (.iconst 1, 1) := by decide +kernel
theorem dX1_takeBack_13 : decode cX1_takeBack 13 = .ok (.putfield 7, 3) := by decide +kernel
theorem dX1_takeBack_16 : decode cX1_takeBack 16 = .ok (.aload_n 0, 1) := by decide +kernel
theorem dX1_takeBack_17 : decode cX1_takeBack 17 = .ok (.getfield 13, 3) := by decide +kernel
theorem dX1_takeBack_20 : decode cX1_takeBack 20 = .ok (.dup, 1) := by decide +kernel
theorem dX1_takeBack_21 : decode cX1_takeBack 21 = .ok (.getfield 36, 3) := by decide +kernel
theorem dX1_takeBack_24 : decode cX1_takeBack 24 = .ok (.iconst 1, 1) := by decide +kernel
theorem dX1_takeBack_25 : decode cX1_takeBack 25 = .ok (.isub, 1) := by decide +kernel
theorem dX1_takeBack_26 : decode cX1_takeBack 26 = .ok (.putfield 36, 3) := by decide +kernel
theorem dX1_takeBack_29 : decode cX1_takeBack 29 = .ok (.return_, 1) := by decide +kernel
theorem dX2_init_0 : decode cX2_init 0 = .ok (.aload_n 0, 1) := by decide +kernel
theorem dX2_init_1 : decode cX2_init 1 = .ok (.invokespecial 1, 3) := by decide +kernel
theorem dX2_init_4 : decode cX2_init 4 = .ok (.aload_n 0, 1) := by decide +kernel
theorem dX2_init_5 : decode cX2_init 5 = .ok (.iconst 0, 1) := by decide +kernel
theorem dX2_init_6 : decode cX2_init 6 = .ok (.putfield 7, 3) := by decide +kernel
theorem dX2_init_9 : decode cX2_init 9 = .ok (.aload_n 0, 1) := by decide +kernel
theorem dX2_init_10 : decode cX2_init 10 = .ok (.aload_n 1, 1) := by decide +kernel
theorem dX2_init_11 : decode cX2_init 11 = .ok (.putfield 13, 3) := by decide +kernel
theorem dX2_init_14 : decode cX2_init 14 = .ok (.return_, 1) := by decide +kernel
theorem dX3_init_0 : decode cX3_init 0 = .ok (.aload_n 0, 1) := by decide +kernel
theorem dX3_init_1 : decode cX3_init 1 = .ok (.invokespecial 1, 3) := by decide +kernel
theorem dX3_init_4 : decode cX3_init 4 = .ok (.aload_n 0, 1) := by decide +kernel
theorem dX3_init_5 : decode cX3_init 5 = .ok (.aconst_null, 1) := by decide +kernel
theorem dX3_init_6 : decode cX3_init 6 = .ok (.putfield 7, 3) := by decide +kernel
theorem dX3_init_9 : decode cX3_init 9 = .ok (.aload_n 0, 1) := by decide +kernel
theorem dX3_init_10 : decode cX3_init 10 = .ok (.iconst 0, 1) := by decide +kernel
theorem dX3_init_11 : decode cX3_init 11 = .ok (.putfield 13, 3) := by decide +kernel
theorem dX3_init_14 : decode cX3_init 14 = .ok (.return_, 1) := by decide +kernel
theorem dX3_isEnded_0 : decode cX3_isEnded 0 = .ok (.aload_n 0, 1) := by decide +kernel
theorem dX3_isEnded_1 : decode cX3_isEnded 1 = .ok (.getfield 7, 3) := by decide +kernel
theorem dX3_isEnded_4 : decode cX3_isEnded 4 = .ok (.ifnull 17, 3) := by decide +kernel
theorem dX3_isEnded_7 : decode cX3_isEnded 7 = .ok (.aload_n 0, 1) := by decide +kernel
theorem dX3_isEnded_8 : decode cX3_isEnded 8 = .ok (.getfield 7, 3) := by decide +kernel
theorem dX3_isEnded_11 : decode cX3_isEnded 11 = .ok (.getfield 17, 3) := by decide +kernel
theorem dX3_isEnded_14 : decode cX3_isEnded 14 = .ok (.ifCond .ne 7, 3) := by decide +kernel
theorem dX3_isEnded_17 : decode cX3_isEnded 17 = .ok (.iconst 1, 1) := by decide +kernel
theorem dX3_isEnded_18 : decode cX3_isEnded 18 = .ok (.goto 4, 3) := by decide +kernel
theorem dX3_isEnded_21 : decode cX3_isEnded 21 = .ok (.iconst 0, 1) := by decide +kernel
theorem dX3_isEnded_22 : decode cX3_isEnded 22 = .ok (.ireturn, 1) := by decide +kernel
theorem dX3_give_0 : decode cX3_give 0 = .ok (.aload_n 0, 1) := by decide +kernel
theorem dX3_give_1 : decode cX3_give 1 = .ok (.aload_n 1, 1) := by decide +kernel
theorem dX3_give_2 : decode cX3_give 2 = .ok (.putfield 7, 3) := by decide +kernel
theorem dX3_give_5 : decode cX3_give 5 = .ok (.aload_n 0, 1) := by decide +kernel
theorem dX3_give_6 : decode cX3_give 6 = .ok (.iconst 0, 1) := by decide +kernel
theorem dX3_give_7 : decode cX3_give 7 = .ok (.putfield 13, 3) := by decide +kernel
theorem dX3_give_10 : decode cX3_give 10 = .ok (.return_, 1) := by decide +kernel
theorem dX4_init_0 : decode cX4_init 0 = .ok (.aload_n 0, 1) := by decide +kernel
theorem dX4_init_1 : decode cX4_init 1 = .ok (.invokespecial 3, 3) := by decide +kernel
theorem dX4_init_4 : decode cX4_init 4 = .ok (.aload_n 0, 1) := by decide +kernel
theorem dX4_init_5 : decode cX4_init 5 = .ok (.iconst 1, 1) := by decide +kernel
theorem dX4_init_6 : decode cX4_init 6 = .ok (.putfield 9, 3) := by decide +kernel
theorem dX4_init_9 : decode cX4_init 9 = .ok (.aload_n 0, 1) := by decide +kernel
theorem dX4_init_10 : decode cX4_init 10 = .ok (.iconst (-1), 1) := by decide +kernel
theorem dX4_init_11 : decode cX4_init 11 = .ok (.putfield 15, 3) := by decide +kernel
theorem dX4_init_14 : decode cX4_init 14 = .ok (.aload_n 0, 1) := by decide +kernel
theorem dX4_init_15 : decode cX4_init 15 = .ok (.iconst 0, 1) := by decide +kernel
theorem dX4_init_16 : decode cX4_init 16 = .ok (.putfield 19, 3) := by decide +kernel
theorem dX4_init_19 : decode cX4_init 19 = .ok (.aload_n 0, 1) := by decide +kernel
theorem dX4_init_20 : decode cX4_init 20 = .ok (.iload_n 1, 1) := by decide +kernel
theorem dX4_init_21 : decode cX4_init 21 = .ok (.putfield 22, 3) := by decide +kernel
theorem dX4_init_24 : decode cX4_init 24 = .ok (.aload_n 0, 1) := by decide +kernel
theorem dX4_init_25 : decode cX4_init 25 = .ok (.iload_n 2, 1) := by decide +kernel
theorem dX4_init_26 : decode cX4_init 26 = .ok (.putfield 25, 3) := by decide +kernel
theorem dX4_init_29 : decode cX4_init 29 = .ok (.return_, 1) := by decide +kernel
theorem dX4_isCommittedBy_0 : decode cX4_isCommittedBy 0 = .ok (.aload_n 0, 1) := by decide +kernel
theorem dX4_isCommittedBy_1 : decode cX4_isCommittedBy 1 = .ok (.getfield 15, 3) := by decide +kernel
theorem dX4_isCommittedBy_4 : decode cX4_isCommittedBy 4 = .ok (.iconst (-1), 1) := by decide +kernel
theorem dX4_isCommittedBy_5 : decode cX4_isCommittedBy 5 = .ok (.if_icmp .eq 15, 3) := by decide +kernel
theorem dX4_isCommittedBy_8 : decode cX4_isCommittedBy 8 = .ok (.aload_n 0, 1) := by decide +kernel
theorem dX4_isCommittedBy_9 : decode cX4_isCommittedBy 9 = .ok (.getfield 15, 3) := by decide +kernel
theorem dX4_isCommittedBy_12 : decode cX4_isCommittedBy 12 = .ok (.iload_n 1, 1) := by decide +kernel
theorem dX4_isCommittedBy_13 : decode cX4_isCommittedBy 13 = .ok (.if_icmp .gt 7, 3) := by decide +kernel
theorem dX4_isCommittedBy_16 : decode cX4_isCommittedBy 16 = .ok (.iconst 1, 1) := by decide +kernel
theorem dX4_isCommittedBy_17 : decode cX4_isCommittedBy 17 = .ok (.goto 4, 3) := by decide +kernel
theorem dX4_isCommittedBy_20 : decode cX4_isCommittedBy 20 = .ok (.iconst 0, 1) := by decide +kernel
theorem dX4_isCommittedBy_21 : decode cX4_isCommittedBy 21 = .ok (.ireturn, 1) := by decide +kernel
