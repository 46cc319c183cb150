theorem dX1_pass_81 : decode cX1_pass 81 = .ok (.iload_n 2, 1) := by decide +kernel
theorem dX1_pass_82 : decode cX1_pass 82 = .ok (.ireturn, 1) := by decide +kernel
theorem dX1_making_0 : decode cX1_making 0 = .ok (.iconst 0, 1) := by decide +kernel
theorem dX1_making_1 : decode cX1_making 1 = .ok (.istore_n 1, 1) := by decide +kernel
theorem dX1_making_2 : decode cX1_making 2 = .ok (.iconst 0, 1) := by decide +kernel
theorem dX1_making_3 : decode cX1_making 3 = .ok (.istore_n 2, 1) := by decide +kernel
theorem dX1_making_4 : decode cX1_making 4 = .ok (.iload_n 2, 1) := by decide +kernel
theorem dX1_making_5 : decode cX1_making 5 = .ok (.iconst 4, 1) := by decide +kernel
theorem dX1_making_6 : decode cX1_making 6 = .ok (.if_icmp .ge 24, 3) := by decide +kernel
theorem dX1_making_9 : decode cX1_making 9 = .ok (.aload_n 0, 1) := by decide +kernel
theorem dX1_making_10 : decode cX1_making 10 = .ok (.getfield 15, 3) := by decide +kernel
theorem dX1_making_13 : decode cX1_making 13 = .ok (.iload_n 2, 1) := by decide +kernel
theorem dX1_making_14 : decode cX1_making 14 = .ok (.aaload, 1) := by decide +kernel
theorem dX1_making_15 : decode cX1_making 15 = .ok (.getfield 51, 3) := by decide +kernel
theorem dX1_making_18 : decode cX1_making 18 = .ok (.ifCond .eq 6, 3) := by decide +kernel
theorem dX1_making_21 : decode cX1_making 21 = .ok (.iinc 1 1, 3) := by decide +kernel
theorem dX1_making_24 : decode cX1_making 24 = .ok (.iinc 2 1, 3) := by decide +kernel
theorem dX1_making_27 : decode cX1_making 27 = .ok (.goto (-23), 3) := by decide +kernel
theorem dX1_making_30 : decode cX1_making 30 = .ok (.iload_n 1, 1) := by decide +kernel
theorem dX1_making_31 : decode cX1_making 31 = .ok (.ireturn, 1) := by decide +kernel
theorem dX1_made_0 : decode cX1_made 0 = .ok (.aload_n 0, 1) := by decide +kernel
theorem dX1_made_1 : decode cX1_made 1 = .ok (.getfield 28, 3) := by decide +kernel
theorem dX1_made_4 : decode cX1_made 4 = .ok (.ireturn, 1) := by decide +kernel
theorem dX1_length_0 : decode cX1_length 0 = .ok (.aload_n 0, 1) := by decide +kernel
theorem dX1_length_1 : decode cX1_length 1 = .ok (.getfield 20, 3) := by decide +kernel
theorem dX1_length_4 : decode cX1_length 4 = .ok (.getfield 58, 3) := by decide +kernel
theorem dX1_length_7 : decode cX1_length 7 = .ok (.ireturn, 1) := by decide +kernel
theorem dX1_at_0 : decode cX1_at 0 = .ok (.iload_n 1, 1) := by decide +kernel
theorem dX1_at_1 : decode cX1_at 1 = .ok (.ifCond .lt 14, 3) := by decide +kernel
theorem dX1_at_4 : decode cX1_at 4 = .ok (.iload_n 1, 1) := by decide +kernel
theorem dX1_at_5 : decode cX1_at 5 = .ok (.aload_n 0, 1) := by decide +kernel
theorem dX1_at_6 : decode cX1_at 6 = .ok (.getfield 20, 3) := by decide +kernel
theorem dX1_at_9 : decode cX1_at 9 = .ok (.getfield 58, 3) := by decide +kernel
theorem dX1_at_12 : decode cX1_at 12 = .ok (.if_icmp .lt 5, 3) := by decide +kernel
theorem dX1_at_15 : decode cX1_at 15 = .ok (.iconst (-1), 1) := by decide +kernel
theorem dX1_at_16 : decode cX1_at 16 = .ok (.ireturn, 1) := by decide +kernel
theorem dX1_at_17 : decode cX1_at 17 = .ok (.aload_n 0, 1) := by decide +kernel
theorem dX1_at_18 : decode cX1_at 18 = .ok (.getfield 20, 3) := by decide +kernel
theorem dX1_at_21 : decode cX1_at 21 = .ok (.getfield 61, 3) := by decide +kernel
theorem dX1_at_24 : decode cX1_at 24 = .ok (.iload_n 1, 1) := by decide +kernel
theorem dX1_at_25 : decode cX1_at 25 = .ok (.iaload, 1) := by decide +kernel
theorem dX1_at_26 : decode cX1_at 26 = .ok (.ireturn, 1) := by decide +kernel
theorem dX1_putWord_0 : decode cX1_putWord 0 = .ok (.iconst 0, 1) := by decide +kernel
theorem dX1_putWord_1 : decode cX1_putWord 1 = .ok (.istore_n 3, 1) := by decide +kernel
theorem dX1_putWord_2 : decode cX1_putWord 2 = .ok (.iload_n 3, 1) := by decide +kernel
theorem dX1_putWord_3 : decode cX1_putWord 3 = .ok (.iconst 4, 1) := by decide +kernel
theorem dX1_putWord_4 : decode cX1_putWord 4 = .ok (.if_icmp .ge 30, 3) := by decide +kernel
theorem dX1_putWord_7 : decode cX1_putWord 7 = .ok (.aload_n 0, 1) := by decide +kernel
theorem dX1_putWord_8 : decode cX1_putWord 8 = .ok (.getfield 9, 3) := by decide +kernel
theorem dX1_putWord_11 : decode cX1_putWord 11 = .ok (.iload_n 2, 1) := by decide +kernel
theorem dX1_putWord_12 : decode cX1_putWord 12 = .ok (.iload_n 3, 1) := by decide +kernel
theorem dX1_putWord_13 : decode cX1_putWord 13 = .ok (.iadd, 1) := by decide +kernel
theorem dX1_putWord_14 : decode cX1_putWord 14 = .ok (.iload_n 1, 1) := by decide +kernel
theorem dX1_putWord_15 : decode cX1_putWord 15 = .ok (.bipush 24, 2) := by decide +kernel
theorem dX1_putWord_17 : decode cX1_putWord 17 = .ok (.bipush 8, 2) := by decide +kernel
theorem dX1_putWord_19 : decode cX1_putWord 19 = .ok (.iload_n 3, 1) := by decide +kernel
theorem dX1_putWord_20 : decode cX1_putWord 20 = .ok (.imul, 1) := by decide +kernel
theorem dX1_putWord_21 : decode cX1_putWord 21 = .ok (.isub, 1) := by decide +kernel
theorem dX1_putWord_22 : decode cX1_putWord 22 = .ok (.iushr, 1) := by decide +kernel
theorem dX1_putWord_23 : decode cX1_putWord 23 = .ok (.sipush 255, 3) := by decide +kernel
theorem dX1_putWord_26 : decode cX1_putWord 26 = .ok (.iand, 1) := by decide +kernel
theorem dX1_putWord_27 : decode cX1_putWord 27 = .ok (.iastore, 1) := by decide +kernel
theorem dX1_putWord_28 : decode cX1_putWord 28 = .ok (.iinc 3 1, 3) := by decide +kernel
theorem dX1_putWord_31 : decode cX1_putWord 31 = .ok (.goto (-29), 3) := by decide +kernel
theorem dX1_putWord_34 : decode cX1_putWord 34 = .ok (.return_, 1) := by decide +kernel
theorem dX1_isSound_0 : decode cX1_isSound 0 = .ok (.iload_n 0, 1) := by decide +kernel
theorem dX1_isSound_1 : decode cX1_isSound 1 = .ok (.iload_n 1, 1) := by decide +kernel
theorem dX1_isSound_2 : decode cX1_isSound 2 = .ok (.iadd, 1) := by decide +kernel
theorem dX1_isSound_3 : decode cX1_isSound 3 = .ok (.sipush 4096, 3) := by decide +kernel
theorem dX1_isSound_6 : decode cX1_isSound 6 = .ok (.if_icmp .le 5, 3) := by decide +kernel
theorem dX1_isSound_9 : decode cX1_isSound 9 = .ok (.iconst 0, 1) := by decide +kernel
theorem dX1_isSound_10 : decode cX1_isSound 10 = .ok (.ireturn, 1) := by decide +kernel
theorem dX1_isSound_11 : decode cX1_isSound 11 = .ok (.iload_n 2, 1) := by decide +kernel
theorem dX1_isSound_12 : decode cX1_isSound 12 = .ok (.ifCond .ne 14, 3) := by decide +kernel
theorem dX1_isSound_15 : decode cX1_isSound 15 = .ok (.iload_n 1, 1) := by decide +kernel
theorem dX1_isSound_16 : decode cX1_isSound 16 = .ok (.ifCond .le 14, 3) := by decide +kernel
theorem dX1_isSound_19 : decode cX1_isSound 19 = .ok (.iload_n 1, 1) := by decide +kernel
theorem dX1_isSound_20 : decode cX1_isSound 20 = .ok (.bipush 8, 2) := by decide +kernel
theorem dX1_isSound_22 : decode cX1_isSound 22 = .ok (.irem, 1) := by decide +kernel
theorem dX1_isSound_23 : decode cX1_isSound 23 = .ok (.ifCond .ne 7, 3) := by decide +kernel
theorem dX1_isSound_26 : decode cX1_isSound 26 = .ok (.iconst 1, 1) := by decide +kernel
theorem dX1_isSound_27 : decode cX1_isSound 27 = .ok (.goto 4, 3) := by decide +kernel
theorem dX1_isSound_30 : decode cX1_isSound 30 = .ok (.iconst 0, 1) := by decide +kernel
theorem dX1_isSound_31 : decode cX1_isSound 31 = .ok (.ireturn, 1) := by decide +kernel
set_option maxRecDepth 20000 in
theorem ggX1_slotFor_X0_isOf : GoodIn wsX1_slotFor wsX0_isOf := goodIn_r _ [8, 9, 10, 11, 32, 33, 34, 35, 36, 37, 38, 39, 40] (by decide +kernel) (by decide +kernel)
set_option maxRecDepth 20000 in
theorem gX1_slotFor_X0_isOf : GoodIn wsX1_slotFor (wsV RX1 64 RX0 yX0_isOf wsX0_isOf) := goodIn_app (goodIn_of _ (by decide +kernel)) ggX1_slotFor_X0_isOf
set_option maxRecDepth 20000 in
theorem ggX1_slotFor_X0_begin : GoodIn wsX1_slotFor wsX0_begin := goodIn_r _ [15, 16, 17, 9, 10, 11, 18, 19, 20, 21, 22, 23, 24, 25, 32, 33, 34, 35, 36, 37, 38, 39, 40] (by decide +kernel) (by decide +kernel)
set_option maxRecDepth 20000 in
theorem gX1_slotFor_X0_begin : GoodIn wsX1_slotFor (wsV RX1 68 RX0 yX0_begin wsX0_begin) := goodIn_app (goodIn_of _ (by decide +kernel)) ggX1_slotFor_X0_begin
theorem dX1_slotFor_0 : decode cX1_slotFor 0 = .ok (.iconst (-1), 1) := by decide +kernel
theorem dX1_slotFor_1 : decode cX1_slotFor 1 = .ok (.istore 4, 2) := by decide +kernel
theorem dX1_slotFor_3 : decode cX1_slotFor 3 = .ok (.iconst 0, 1) := by decide +kernel
theorem dX1_slotFor_4 : decode cX1_slotFor 4 = .ok (.istore 5, 2) := by decide +kernel
theorem dX1_slotFor_6 : decode cX1_slotFor 6 = .ok (.iload 5, 2) := by decide +kernel
theorem dX1_slotFor_8 : decode cX1_slotFor 8 = .ok (.iconst 4, 1) := by decide +kernel
theorem dX1_slotFor_9 : decode cX1_slotFor 9 = .ok (.if_icmp .ge 48, 3) := by decide +kernel
theorem dX1_slotFor_12 : decode cX1_slotFor 12 = .ok (.aload_n 0, 1) := by decide +kernel
theorem dX1_slotFor_13 : decode cX1_slotFor 13 = .ok (.getfield 15, 3) := by decide +kernel
theorem dX1_slotFor_16 : decode cX1_slotFor 16 = .ok (.iload 5, 2) := by decide +kernel
theorem dX1_slotFor_18 : decode cX1_slotFor 18 = .ok (.aaload, 1) := by decide +kernel
theorem dX1_slotFor_19 : decode cX1_slotFor 19 = .ok (.getfield 51, 3) := by decide +kernel
theorem dX1_slotFor_22 : decode cX1_slotFor 22 = .ok (.ifCond .ne 10, 3) := by decide +kernel
theorem dX1_slotFor_25 : decode cX1_slotFor 25 = .ok (.iload 5, 2) := by decide +kernel
theorem dX1_slotFor_27 : decode cX1_slotFor 27 = .ok (.istore 4, 2) := by decide +kernel
theorem dX1_slotFor_29 : decode cX1_slotFor 29 = .ok (.goto 22, 3) := by decide +kernel
theorem dX1_slotFor_32 : decode cX1_slotFor 32 = .ok (.aload_n 0, 1) := by decide +kernel
theorem dX1_slotFor_33 : decode cX1_slotFor 33 = .ok (.getfield 15, 3) := by decide +kernel
theorem dX1_slotFor_36 : decode cX1_slotFor 36 = .ok (.iload 5, 2) := by decide +kernel
theorem dX1_slotFor_38 : decode cX1_slotFor 38 = .ok (.aaload, 1) := by decide +kernel
theorem dX1_slotFor_39 : decode cX1_slotFor 39 = .ok (.iload_n 1, 1) := by decide +kernel
theorem dX1_slotFor_40 : decode cX1_slotFor 40 = .ok (.iload_n 2, 1) := by decide +kernel
theorem dX1_slotFor_41 : decode cX1_slotFor 41 = .ok (.iload_n 3, 1) := by decide +kernel
theorem dX1_slotFor_42 : decode cX1_slotFor 42 = .ok (.invokevirtual 64, 3) := by decide +kernel
theorem dX1_slotFor_45 : decode cX1_slotFor 45 = .ok (.ifCond .eq 6, 3) := by decide +kernel
theorem dX1_slotFor_48 : decode cX1_slotFor 48 = .ok (.iload 5, 2) := by decide +kernel
theorem dX1_slotFor_50 : decode cX1_slotFor 50 = .ok (.ireturn, 1) := by decide +kernel
theorem dX1_slotFor_51 : decode cX1_slotFor 51 = .ok (.iinc 5 1, 3) := by decide +kernel
theorem dX1_slotFor_54 : decode cX1_slotFor 54 = .ok (.goto (-48), 3) := by decide +kernel
theorem dX1_slotFor_57 : decode cX1_slotFor 57 = .ok (.iload 4, 2) := by decide +kernel
theorem dX1_slotFor_59 : decode cX1_slotFor 59 = .ok (.iconst (-1), 1) := by decide +kernel
theorem dX1_slotFor_60 : decode cX1_slotFor 60 = .ok (.if_icmp .eq 20, 3) := by decide +kernel
theorem dX1_slotFor_63 : decode cX1_slotFor 63 = .ok (.aload_n 0, 1) := by decide +kernel
theorem dX1_slotFor_64 : decode cX1_slotFor 64 = .ok (.getfield 15, 3) := by decide +kernel
theorem dX1_slotFor_67 : decode cX1_slotFor 67 = .ok (.iload 4, 2) := by decide +kernel
theorem dX1_slotFor_69 : decode cX1_slotFor 69 = .ok (.aaload, 1) := by decide +kernel
theorem dX1_slotFor_70 : decode cX1_slotFor 70 = .ok (.iload_n 1, 1) := by decide +kernel
theorem dX1_slotFor_71 : decode cX1_slotFor 71 = .ok (.iload_n 2, 1) := by decide +kernel
theorem dX1_slotFor_72 : decode cX1_slotFor 72 = .ok (.iload_n 3, 1) := by decide +kernel
theorem dX1_slotFor_73 : decode cX1_slotFor 73 = .ok (.aload_n 0, 1) := by decide +kernel
theorem dX1_slotFor_74 : decode cX1_slotFor 74 = .ok (.getfield 31, 3) := by decide +kernel
theorem dX1_slotFor_77 : decode cX1_slotFor 77 = .ok (.invokevirtual 68, 3) := by decide +kernel
theorem dX1_slotFor_80 : decode cX1_slotFor 80 = .ok (.iload 4, 2) := by decide +kernel
theorem dX1_slotFor_82 : decode cX1_slotFor 82 = .ok (.ireturn, 1) := by decide +kernel
set_option maxRecDepth 20000 in
theorem ggX1_join_X0_isContradictedBy : GoodIn wsX1_join wsX0_isContradictedBy := goodIn_r _ [10, 11, 12, 43, 44, 45, 46, 47, 48, 49, 50, 51] (by decide +kernel) (by decide +kernel)
set_option maxRecDepth 20000 in
theorem gX1_join_X0_isContradictedBy : GoodIn wsX1_join (wsV RX1 72 RX0 yX0_isContradictedBy wsX0_isContradictedBy) := goodIn_app (goodIn_of _ (by decide +kernel)) ggX1_join_X0_isContradictedBy
set_option maxRecDepth 20000 in
theorem ggX1_join_X0_noteReach : GoodIn wsX1_join wsX0_noteReach := goodIn_r _ [16, 12, 17, 18, 19, 20, 11, 43, 44, 45, 46, 47, 48, 49, 50, 51] (by decide +kernel) (by decide +kernel)
set_option maxRecDepth 20000 in
theorem gX1_join_X0_noteReach : GoodIn wsX1_join (wsV RX1 76 RX0 yX0_noteReach wsX0_noteReach) := goodIn_app (goodIn_of _ (by decide +kernel)) ggX1_join_X0_noteReach
set_option maxRecDepth 20000 in
theorem ggX1_join_X0_putIn : GoodIn wsX1_join wsX0_putIn := goodIn_r _ [24, 25, 26, 43, 44, 45, 46, 47, 48, 49, 50, 51] (by decide +kernel) (by decide +kernel)
set_option maxRecDepth 20000 in
theorem gX1_join_X0_putIn : GoodIn wsX1_join (wsV RX1 80 RX0 yX0_putIn wsX0_putIn) := goodIn_app (goodIn_of _ (by decide +kernel)) ggX1_join_X0_putIn
set_option maxRecDepth 20000 in
theorem ggX1_join_X0_isWhole : GoodIn wsX1_join wsX0_isWhole := goodIn_r _ [30, 11, 26, 43, 44, 45, 46, 47, 48, 49, 50, 51] (by decide +kernel) (by decide +kernel)
set_option maxRecDepth 20000 in
theorem gX1_join_X0_isWhole : GoodIn wsX1_join (wsV RX1 84 RX0 yX0_isWhole wsX0_isWhole) := goodIn_app (goodIn_of _ (by decide +kernel)) ggX1_join_X0_isWhole
set_option maxRecDepth 20000 in
theorem ggX1_join_X1_showWhole : GoodIn wsX1_join wsX1_showWhole := goodIn_r _ [35, 1, 2, 4, 36, 37, 38, 39, 40, 41, 42, 43, 44, 45, 46, 47, 48, 49, 50, 51] (by decide +kernel) (by decide +kernel)
set_option maxRecDepth 20000 in
theorem gX1_join_X1_showWhole : GoodIn wsX1_join (wsV RX1 88 RX1 yX1_showWhole wsX1_showWhole) := goodIn_app (goodIn_of _ (by decide +kernel)) ggX1_join_X1_showWhole
theorem dX1_join_0 : decode cX1_join 0 = .ok (.aload_n 0, 1) := by decide +kernel
theorem dX1_join_1 : decode cX1_join 1 = .ok (.getfield 15, 3) := by decide +kernel
theorem dX1_join_4 : decode cX1_join 4 = .ok (.iload_n 1, 1) := by decide +kernel
theorem dX1_join_5 : decode cX1_join 5 = .ok (.aaload, 1) := by decide +kernel
theorem dX1_join_6 : decode cX1_join 6 = .ok (.astore 5, 2) := by decide +kernel
theorem dX1_join_8 : decode cX1_join 8 = .ok (.iload_n 2, 1) := by decide +kernel
theorem dX1_join_9 : decode cX1_join 9 = .ok (.iload_n 3, 1) := by decide +kernel
theorem dX1_join_10 : decode cX1_join 10 = .ok (.iadd, 1) := by decide +kernel
theorem dX1_join_11 : decode cX1_join 11 = .ok (.istore 6, 2) := by decide +kernel
theorem dX1_join_13 : decode cX1_join 13 = .ok (.aload 5, 2) := by decide +kernel
theorem dX1_join_15 : decode cX1_join 15 = .ok (.iload 6, 2) := by decide +kernel
theorem dX1_join_17 : decode cX1_join 17 = .ok (.iload 4, 2) := by decide +kernel
theorem dX1_join_19 : decode cX1_join 19 = .ok (.invokevirtual 72, 3) := by decide +kernel
theorem dX1_join_22 : decode cX1_join 22 = .ok (.ifCond .eq 12, 3) := by decide +kernel
theorem dX1_join_25 : decode cX1_join 25 = .ok (.aload 5, 2) := by decide +kernel
theorem dX1_join_27 : decode cX1_join 27 = .ok (.iconst 0, 1) := by decide +kernel
theorem dX1_join_28 : decode cX1_join 28 = .ok (.putfield 51, 3) := by decide +kernel
theorem dX1_join_31 : decode cX1_join 31 = .ok (.bipush (-3), 2) := by decide +kernel
theorem dX1_join_33 : decode cX1_join 33 = .ok (.ireturn, 1) := by decide +kernel
theorem dX1_join_34 : decode cX1_join 34 = .ok (.aload 5, 2) := by decide +kernel
theorem dX1_join_36 : decode cX1_join 36 = .ok (.iload 6, 2) := by decide +kernel
theorem dX1_join_38 : decode cX1_join 38 = .ok (.iload 4, 2) := by decide +kernel
theorem dX1_join_40 : decode cX1_join 40 = .ok (.invokevirtual 76, 3) := by decide +kernel
theorem dX1_join_43 : decode cX1_join 43 = .ok (.aload 5, 2) := by decide +kernel
theorem dX1_join_45 : decode cX1_join 45 = .ok (.aload_n 0, 1) := by decide +kernel
theorem dX1_join_46 : decode cX1_join 46 = .ok (.getfield 9, 3) := by decide +kernel
theorem dX1_join_49 : decode cX1_join 49 = .ok (.iload_n 3, 1) := by decide +kernel
theorem dX1_join_50 : decode cX1_join 50 = .ok (.iload_n 2, 1) := by decide +kernel
theorem dX1_join_51 : decode cX1_join 51 = .ok (.invokevirtual 80, 3) := by decide +kernel
theorem dX1_join_54 : decode cX1_join 54 = .ok (.aload 5, 2) := by decide +kernel
theorem dX1_join_56 : decode cX1_join 56 = .ok (.invokevirtual 84, 3) := by decide +kernel
theorem dX1_join_59 : decode cX1_join 59 = .ok (.ifCond .ne 5, 3) := by decide +kernel
theorem dX1_join_62 : decode cX1_join 62 = .ok (.iconst (-1), 1) := by decide +kernel
theorem dX1_join_63 : decode cX1_join 63 = .ok (.ireturn, 1) := by decide +kernel
theorem dX1_join_64 : decode cX1_join 64 = .ok (.aload_n 0, 1) := by decide +kernel
theorem dX1_join_65 : decode cX1_join 65 = .ok (.iload_n 1, 1) := by decide +kernel
theorem dX1_join_66 : decode cX1_join 66 = .ok (.invokevirtual 88, 3) := by decide +kernel
theorem dX1_join_69 : decode cX1_join 69 = .ok (.aload_n 0, 1) := by decide +kernel
theorem dX1_join_70 : decode cX1_join 70 = .ok (.getfield 20, 3) := by decide +kernel
theorem dX1_join_73 : decode cX1_join 73 = .ok (.getfield 58, 3) := by decide +kernel
theorem dX1_join_76 : decode cX1_join 76 = .ok (.ireturn, 1) := by decide +kernel
theorem dX1_showWhole_0 : decode cX1_showWhole 0 = .ok (.aload_n 0, 1) := by decide +kernel
theorem dX1_showWhole_1 : decode cX1_showWhole 1 = .ok (.getfield 15, 3) := by decide +kernel
theorem dX1_showWhole_4 : decode cX1_showWhole 4 = .ok (.iload_n 1, 1) := by decide +kernel
theorem dX1_showWhole_5 : decode cX1_showWhole 5 = .ok (.aaload, 1) := by decide +kernel
theorem dX1_showWhole_6 : decode cX1_showWhole 6 = .ok (.astore_n 2, 1) := by decide +kernel
theorem dX1_showWhole_7 : decode cX1_showWhole 7 = .ok (.aload_n 2, 1) := by decide +kernel
theorem dX1_showWhole_8 : decode cX1_showWhole 8 = .ok (.iconst 0, 1) := by decide +kernel
theorem dX1_showWhole_9 : decode cX1_showWhole 9 = .ok (.putfield 51, 3) := by decide +kernel
theorem dX1_showWhole_12 : decode cX1_showWhole 12 = .ok (.aload_n 0, 1) := by decide +kernel
theorem dX1_showWhole_13 : decode cX1_showWhole 13 = .ok (.getfield 15, 3) := by decide +kernel
theorem dX1_showWhole_16 : decode cX1_showWhole 16 = .ok (.iload_n 1, 1) := by decide +kernel
theorem dX1_showWhole_17 : decode cX1_showWhole 17 = .ok (.aload_n 0, 1) := by decide +kernel
theorem dX1_showWhole_18 : decode cX1_showWhole 18 = .ok (.getfield 20, 3) := by decide +kernel
theorem dX1_showWhole_21 : decode cX1_showWhole 21 = .ok (.aastore, 1) := by decide +kernel
theorem dX1_showWhole_22 : decode cX1_showWhole 22 = .ok (.aload_n 0, 1) := by decide +kernel
theorem dX1_showWhole_23 : decode cX1_showWhole 23 = .ok (.aload_n 2, 1) := by decide +kernel
theorem dX1_showWhole_24 : decode cX1_showWhole 24 = .ok (.putfield 20, 3) := by decide +kernel
theorem dX1_showWhole_27 : decode cX1_showWhole 27 = .ok (.aload_n 0, 1) := by decide +kernel
theorem dX1_showWhole_28 : decode cX1_showWhole 28 = .ok (.dup, 1) := by decide +kernel
theorem dX1_showWhole_29 : decode cX1_showWhole 29 = .ok (.getfield 28, 3) := by decide +kernel
theorem dX1_showWhole_32 : decode cX1_showWhole 32 = .ok (.iconst 1, 1) := by decide +kernel
theorem dX1_showWhole_33 : decode cX1_showWhole 33 = .ok (.iadd, 1) := by decide +kernel
theorem dX1_showWhole_34 : decode cX1_showWhole 34 = .ok (.putfield 28, 3) := by decide +kernel
theorem dX1_showWhole_37 : decode cX1_showWhole 37 = .ok (.return_, 1) := by decide +kernel
theorem dX2_init_0 : decode cX2_init 0 = .ok (.aload_n 0, 1) := by decide +kernel
theorem dX2_init_1 : decode cX2_init 1 = .ok (.invokespecial 1, 3) := by decide +kernel
theorem dX2_init_4 : decode cX2_init 4 = .ok (.aload_n 0, 1) := by decide +kernel
theorem dX2_init_5 : decode cX2_init 5 = .ok (.sipush 1480, 3) := by decide +kernel
theorem dX2_init_8 : decode cX2_init 8 = .ok (.newarray .byte, 2) := by decide +kernel
theorem dX2_init_10 : decode cX2_init 10 = .ok (.putfield 9, 3) := by decide +kernel
theorem dX2_init_13 : decode cX2_init 13 = .ok (.aload_n 0, 1) := by decide +kernel
theorem dX2_init_14 : decode cX2_init 14 = .ok (.iconst 4, 1) := by decide +kernel
theorem dX2_init_15 : decode cX2_init 15 = .ok (.newarray .int, 2) := by decide +kernel
theorem dX2_init_17 : decode cX2_init 17 = .ok (.putfield 13, 3) := by decide +kernel
theorem dX2_init_20 : decode cX2_init 20 = .ok (.aload_n 0, 1) := by decide +kernel
theorem dX2_init_21 : decode cX2_init 21 = .ok (.iconst 4, 1) := by decide +kernel
theorem dX2_init_22 : decode cX2_init 22 = .ok (.newarray .int, 2) := by decide +kernel
theorem dX2_init_24 : decode cX2_init 24 = .ok (.putfield 17, 3) := by decide +kernel
theorem dX2_init_27 : decode cX2_init 27 = .ok (.aload_n 0, 1) := by decide +kernel
theorem dX2_init_28 : decode cX2_init 28 = .ok (.iconst 4, 1) := by decide +kernel
theorem dX2_init_29 : decode cX2_init 29 = .ok (.newarray .int, 2) := by decide +kernel
theorem dX2_init_31 : decode cX2_init 31 = .ok (.putfield 20, 3) := by decide +kernel
theorem dX2_init_34 : decode cX2_init 34 = .ok (.aload_n 0, 1) := by decide +kernel
theorem dX2_init_35 : decode cX2_init 35 = .ok (.iconst 4, 1) := by decide +kernel
theorem dX2_init_36 : decode cX2_init 36 = .ok (.newarray .int, 2) := by decide +kernel
theorem dX2_init_38 : decode cX2_init 38 = .ok (.putfield 23, 3) := by decide +kernel
theorem dX2_init_41 : decode cX2_init 41 = .ok (.aload_n 0, 1) := by decide +kernel
theorem dX2_init_42 : decode cX2_init 42 = .ok (.iconst 4, 1) := by decide +kernel
theorem dX2_init_43 : decode cX2_init 43 = .ok (.newarray .int, 2) := by decide +kernel
theorem dX2_init_45 : decode cX2_init 45 = .ok (.putfield 26, 3) := by decide +kernel
theorem dX2_init_48 : decode cX2_init 48 = .ok (.aload_n 0, 1) := by decide +kernel
theorem dX2_init_49 : decode cX2_init 49 = .ok (.iconst 4, 1) := by decide +kernel
theorem dX2_init_50 : decode cX2_init 50 = .ok (.newarray .boolean, 2) := by decide +kernel
theorem dX2_init_52 : decode cX2_init 52 = .ok (.putfield 29, 3) := by decide +kernel
theorem dX2_init_55 : decode cX2_init 55 = .ok (.aload_n 0, 1) := by decide +kernel
theorem dX2_init_56 : decode cX2_init 56 = .ok (.sipush 16384, 3) := by decide +kernel
theorem dX2_init_59 : decode cX2_init 59 = .ok (.newarray .int, 2) := by decide +kernel
theorem dX2_init_61 : decode cX2_init 61 = .ok (.putfield 33, 3) := by decide +kernel
theorem dX2_init_64 : decode cX2_init 64 = .ok (.aload_n 0, 1) := by decide +kernel
theorem dX2_init_65 : decode cX2_init 65 = .ok (.sipush 4096, 3) := by decide +kernel
theorem dX2_init_68 : decode cX2_init 68 = .ok (.newarray .int, 2) := by decide +kernel
theorem dX2_init_70 : decode cX2_init 70 = .ok (.putfield 36, 3) := by decide +kernel
theorem dX2_init_73 : decode cX2_init 73 = .ok (.aload_n 0, 1) := by decide +kernel
theorem dX2_init_74 : decode cX2_init 74 = .ok (.iconst (-1), 1) := by decide +kernel
theorem dX2_init_75 : decode cX2_init 75 = .ok (.putfield 39, 3) := by decide +kernel
theorem dX2_init_78 : decode cX2_init 78 = .ok (.return_, 1) := by decide +kernel
set_option maxRecDepth 20000 in
theorem ggX2_feed_X2_word : GoodIn wsX2_feed wsX2_word := goodIn_r _ [6, 7, 1, 8, 9, 10, 11, 12, 13, 14, 15, 16, 17, 18, 19, 20] (by decide +kernel) (by decide +kernel)
set_option maxRecDepth 20000 in
theorem gX2_feed_X2_word : GoodIn wsX2_feed (wsV RX2 46 RX2 yX2_word wsX2_word) := goodIn_app (goodIn_of _ (by decide +kernel)) ggX2_feed_X2_word
theorem dX2_feed_0 : decode cX2_feed 0 = .ok (.aload_n 0, 1) := by decide +kernel
theorem dX2_feed_1 : decode cX2_feed 1 = .ok (.getfield 43, 3) := by decide +kernel
theorem dX2_feed_4 : decode cX2_feed 4 = .ok (.bipush 20, 2) := by decide +kernel
theorem dX2_feed_6 : decode cX2_feed 6 = .ok (.iadd, 1) := by decide +kernel
theorem dX2_feed_7 : decode cX2_feed 7 = .ok (.sipush 1480, 3) := by decide +kernel
theorem dX2_feed_10 : decode cX2_feed 10 = .ok (.if_icmp .le 5, 3) := by decide +kernel
theorem dX2_feed_13 : decode cX2_feed 13 = .ok (.iconst (-1), 1) := by decide +kernel
theorem dX2_feed_14 : decode cX2_feed 14 = .ok (.ireturn, 1) := by decide +kernel
theorem dX2_feed_15 : decode cX2_feed 15 = .ok (.aload_n 0, 1) := by decide +kernel
theorem dX2_feed_16 : decode cX2_feed 16 = .ok (.iload_n 1, 1) := by decide +kernel
theorem dX2_feed_17 : decode cX2_feed 17 = .ok (.invokevirtual 46, 3) := by decide +kernel
theorem dX2_feed_20 : decode cX2_feed 20 = .ok (.aload_n 0, 1) := by decide +kernel
theorem dX2_feed_21 : decode cX2_feed 21 = .ok (.iload_n 2, 1) := by decide +kernel
theorem dX2_feed_22 : decode cX2_feed 22 = .ok (.invokevirtual 46, 3) := by decide +kernel
theorem dX2_feed_25 : decode cX2_feed 25 = .ok (.aload_n 0, 1) := by decide +kernel
theorem dX2_feed_26 : decode cX2_feed 26 = .ok (.iload_n 3, 1) := by decide +kernel
theorem dX2_feed_27 : decode cX2_feed 27 = .ok (.invokevirtual 46, 3) := by decide +kernel
theorem dX2_feed_30 : decode cX2_feed 30 = .ok (.aload_n 0, 1) := by decide +kernel
theorem dX2_feed_31 : decode cX2_feed 31 = .ok (.iload 4, 2) := by decide +kernel
theorem dX2_feed_33 : decode cX2_feed 33 = .ok (.invokevirtual 46, 3) := by decide +kernel
theorem dX2_feed_36 : decode cX2_feed 36 = .ok (.aload_n 0, 1) := by decide +kernel
theorem dX2_feed_37 : decode cX2_feed 37 = .ok (.iload 5, 2) := by decide +kernel
theorem dX2_feed_39 : decode cX2_feed 39 = .ok (.invokevirtual 46, 3) := by decide +kernel
theorem dX2_feed_42 : decode cX2_feed 42 = .ok (.aload_n 0, 1) := by decide +kernel
theorem dX2_feed_43 : decode cX2_feed 43 = .ok (.getfield 43, 3) := by decide +kernel
theorem dX2_feed_46 : decode cX2_feed 46 = .ok (.ireturn, 1) := by decide +kernel
theorem dX2_word_0 : decode cX2_word 0 = .ok (.iconst 0, 1) := by decide +kernel
theorem dX2_word_1 : decode cX2_word 1 = .ok (.istore_n 2, 1) := by decide +kernel
theorem dX2_word_2 : decode cX2_word 2 = .ok (.iload_n 2, 1) := by decide +kernel
theorem dX2_word_3 : decode cX2_word 3 = .ok (.iconst 4, 1) := by decide +kernel
theorem dX2_word_4 : decode cX2_word 4 = .ok (.if_icmp .ge 38, 3) := by decide +kernel
theorem dX2_word_7 : decode cX2_word 7 = .ok (.aload_n 0, 1) := by decide +kernel
theorem dX2_word_8 : decode cX2_word 8 = .ok (.getfield 9, 3) := by decide +kernel
theorem dX2_word_11 : decode cX2_word 11 = .ok (.aload_n 0, 1) := by decide +kernel
theorem dX2_word_12 : decode cX2_word 12 = .ok (.getfield 43, 3) := by decide +kernel
theorem dX2_word_15 : decode cX2_word 15 = .ok (.iload_n 1, 1) := by decide +kernel
theorem dX2_word_16 : decode cX2_word 16 = .ok (.bipush 24, 2) := by decide +kernel
theorem dX2_word_18 : decode cX2_word 18 = .ok (.bipush 8, 2) := by decide +kernel
theorem dX2_word_20 : decode cX2_word 20 = .ok (.iload_n 2, 1) := by decide +kernel
theorem dX2_word_21 : decode cX2_word 21 = .ok (.imul, 1) := by decide +kernel
theorem dX2_word_22 : decode cX2_word 22 = .ok (.isub, 1) := by decide +kernel
theorem dX2_word_23 : decode cX2_word 23 = .ok (.ishr, 1) := by decide +kernel
theorem dX2_word_24 : decode cX2_word 24 = .ok (.i2b, 1) := by decide +kernel
theorem dX2_word_25 : decode cX2_word 25 = .ok (.bastore, 1) := by decide +kernel
theorem dX2_word_26 : decode cX2_word 26 = .ok (.aload_n 0, 1) := by decide +kernel
theorem dX2_word_27 : decode cX2_word 27 = .ok (.dup, 1) := by decide +kernel
theorem dX2_word_28 : decode cX2_word 28 = .ok (.getfield 43, 3) := by decide +kernel
theorem dX2_word_31 : decode cX2_word 31 = .ok (.iconst 1, 1) := by decide +kernel
theorem dX2_word_32 : decode cX2_word 32 = .ok (.iadd, 1) := by decide +kernel
theorem dX2_word_33 : decode cX2_word 33 = .ok (.putfield 43, 3) := by decide +kernel
theorem dX2_word_36 : decode cX2_word 36 = .ok (.iinc 2 1, 3) := by decide +kernel
theorem dX2_word_39 : decode cX2_word 39 = .ok (.goto (-37), 3) := by decide +kernel
theorem dX2_word_42 : decode cX2_word 42 = .ok (.return_, 1) := by decide +kernel
theorem dX2_end_0 : decode cX2_end 0 = .ok (.iload_n 1, 1) := by decide +kernel
theorem dX2_end_1 : decode cX2_end 1 = .ok (.ifCond .lt 11, 3) := by decide +kernel
theorem dX2_end_4 : decode cX2_end 4 = .ok (.iload_n 1, 1) := by decide +kernel
theorem dX2_end_5 : decode cX2_end 5 = .ok (.aload_n 0, 1) := by decide +kernel
theorem dX2_end_6 : decode cX2_end 6 = .ok (.getfield 43, 3) := by decide +kernel
theorem dX2_end_9 : decode cX2_end 9 = .ok (.if_icmp .le 5, 3) := by decide +kernel
theorem dX2_end_12 : decode cX2_end 12 = .ok (.iconst (-1), 1) := by decide +kernel
theorem dX2_end_13 : decode cX2_end 13 = .ok (.ireturn, 1) := by decide +kernel
theorem dX2_end_14 : decode cX2_end 14 = .ok (.aload_n 0, 1) := by decide +kernel
theorem dX2_end_15 : decode cX2_end 15 = .ok (.iload_n 1, 1) := by decide +kernel
theorem dX2_end_16 : decode cX2_end 16 = .ok (.putfield 43, 3) := by decide +kernel
theorem dX2_end_19 : decode cX2_end 19 = .ok (.iload_n 1, 1) := by decide +kernel
theorem dX2_end_20 : decode cX2_end 20 = .ok (.ireturn, 1) := by decide +kernel
theorem dX2_find_0 : decode cX2_find 0 = .ok (.iconst 0, 1) := by decide +kernel
theorem dX2_find_1 : decode cX2_find 1 = .ok (.istore 4, 2) := by decide +kernel
theorem dX2_find_3 : decode cX2_find 3 = .ok (.iload 4, 2) := by decide +kernel
theorem dX2_find_5 : decode cX2_find 5 = .ok (.iconst 4, 1) := by decide +kernel
theorem dX2_find_6 : decode cX2_find 6 = .ok (.if_icmp .ge 55, 3) := by decide +kernel
theorem dX2_find_9 : decode cX2_find 9 = .ok (.aload_n 0, 1) := by decide +kernel
theorem dX2_find_10 : decode cX2_find 10 = .ok (.getfield 29, 3) := by decide +kernel
theorem dX2_find_13 : decode cX2_find 13 = .ok (.iload 4, 2) := by decide +kernel
theorem dX2_find_15 : decode cX2_find 15 = .ok (.baload, 1) := by decide +kernel
theorem dX2_find_16 : decode cX2_find 16 = .ok (.ifCond .eq 39, 3) := by decide +kernel
theorem dX2_find_19 : decode cX2_find 19 = .ok (.aload_n 0, 1) := by decide +kernel
theorem dX2_find_20 : decode cX2_find 20 = .ok (.getfield 13, 3) := by decide +kernel
theorem dX2_find_23 : decode cX2_find 23 = .ok (.iload 4, 2) := by decide +kernel
theorem dX2_find_25 : decode cX2_find 25 = .ok (.iaload, 1) := by decide +kernel
theorem dX2_find_26 : decode cX2_find 26 = .ok (.iload_n 1, 1) := by decide +kernel
theorem dX2_find_27 : decode cX2_find 27 = .ok (.if_icmp .ne 28, 3) := by decide +kernel
theorem dX2_find_30 : decode cX2_find 30 = .ok (.aload_n 0, 1) := by decide +kernel
