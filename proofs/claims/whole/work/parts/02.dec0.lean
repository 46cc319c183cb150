theorem dX0_init_0 : decode cX0_init 0 = .ok (.aload_n 0, 1) := by decide +kernel
theorem dX0_init_1 : decode cX0_init 1 = .ok (.invokespecial 3, 3) := by decide +kernel
theorem dX0_init_4 : decode cX0_init 4 = .ok (.aload_n 0, 1) := by decide +kernel
theorem dX0_init_5 : decode cX0_init 5 = .ok (.sipush 4096, 3) := by decide +kernel
theorem dX0_init_8 : decode cX0_init 8 = .ok (.newarray .int, 2) := by decide +kernel
theorem dX0_init_10 : decode cX0_init 10 = .ok (.putfield 9, 3) := by decide +kernel
theorem dX0_init_13 : decode cX0_init 13 = .ok (.aload_n 0, 1) := by decide +kernel
theorem dX0_init_14 : decode cX0_init 14 = .ok (.iconst 0, 1) := by decide +kernel
theorem dX0_init_15 : decode cX0_init 15 = .ok (.putfield 15, 3) := by decide +kernel
theorem dX0_init_18 : decode cX0_init 18 = .ok (.aload_n 0, 1) := by decide +kernel
theorem dX0_init_19 : decode cX0_init 19 = .ok (.iconst (-1), 1) := by decide +kernel
theorem dX0_init_20 : decode cX0_init 20 = .ok (.putfield 19, 3) := by decide +kernel
theorem dX0_init_23 : decode cX0_init 23 = .ok (.return_, 1) := by decide +kernel
set_option maxRecDepth 20000 in
theorem ggX0_begin_J7_fill_53178 : GoodIn wsX0_begin wsJ7_fill_53178 := goodIn_r _ [13] (by decide +kernel) (by decide +kernel)
set_option maxRecDepth 20000 in
theorem gX0_begin_J7_fill_53178 : GoodIn wsX0_begin (va_wsS RX0 23 yJ7_fill_53178 wsJ7_fill_53178) := goodIn_app (goodIn_of _ (by decide +kernel)) ggX0_begin_J7_fill_53178
theorem dX0_begin_0 : decode cX0_begin 0 = .ok (.aload_n 0, 1) := by decide +kernel
theorem dX0_begin_1 : decode cX0_begin 1 = .ok (.getfield 9, 3) := by decide +kernel
theorem dX0_begin_4 : decode cX0_begin 4 = .ok (.iconst (-1), 1) := by decide +kernel
theorem dX0_begin_5 : decode cX0_begin 5 = .ok (.invokestatic 23, 3) := by decide +kernel
theorem dX0_begin_8 : decode cX0_begin 8 = .ok (.aload_n 0, 1) := by decide +kernel
theorem dX0_begin_9 : decode cX0_begin 9 = .ok (.iconst 1, 1) := by decide +kernel
theorem dX0_begin_10 : decode cX0_begin 10 = .ok (.putfield 15, 3) := by decide +kernel
theorem dX0_begin_13 : decode cX0_begin 13 = .ok (.aload_n 0, 1) := by decide +kernel
theorem dX0_begin_14 : decode cX0_begin 14 = .ok (.iload_n 1, 1) := by decide +kernel
theorem dX0_begin_15 : decode cX0_begin 15 = .ok (.putfield 29, 3) := by decide +kernel
theorem dX0_begin_18 : decode cX0_begin 18 = .ok (.aload_n 0, 1) := by decide +kernel
theorem dX0_begin_19 : decode cX0_begin 19 = .ok (.iload_n 2, 1) := by decide +kernel
theorem dX0_begin_20 : decode cX0_begin 20 = .ok (.putfield 32, 3) := by decide +kernel
theorem dX0_begin_23 : decode cX0_begin 23 = .ok (.aload_n 0, 1) := by decide +kernel
theorem dX0_begin_24 : decode cX0_begin 24 = .ok (.iload_n 3, 1) := by decide +kernel
theorem dX0_begin_25 : decode cX0_begin 25 = .ok (.putfield 35, 3) := by decide +kernel
theorem dX0_begin_28 : decode cX0_begin 28 = .ok (.aload_n 0, 1) := by decide +kernel
theorem dX0_begin_29 : decode cX0_begin 29 = .ok (.iload 4, 2) := by decide +kernel
theorem dX0_begin_31 : decode cX0_begin 31 = .ok (.putfield 38, 3) := by decide +kernel
theorem dX0_begin_34 : decode cX0_begin 34 = .ok (.aload_n 0, 1) := by decide +kernel
theorem dX0_begin_35 : decode cX0_begin 35 = .ok (.iconst (-1), 1) := by decide +kernel
theorem dX0_begin_36 : decode cX0_begin 36 = .ok (.putfield 19, 3) := by decide +kernel
theorem dX0_begin_39 : decode cX0_begin 39 = .ok (.aload_n 0, 1) := by decide +kernel
theorem dX0_begin_40 : decode cX0_begin 40 = .ok (.iconst 0, 1) := by decide +kernel
theorem dX0_begin_41 : decode cX0_begin 41 = .ok (.putfield 41, 3) := by decide +kernel
theorem dX0_begin_44 : decode cX0_begin 44 = .ok (.aload_n 0, 1) := by decide +kernel
theorem dX0_begin_45 : decode cX0_begin 45 = .ok (.iconst 0, 1) := by decide +kernel
theorem dX0_begin_46 : decode cX0_begin 46 = .ok (.putfield 44, 3) := by decide +kernel
theorem dX0_begin_49 : decode cX0_begin 49 = .ok (.return_, 1) := by decide +kernel
theorem dX0_isOf_0 : decode cX0_isOf 0 = .ok (.aload_n 0, 1) := by decide +kernel
theorem dX0_isOf_1 : decode cX0_isOf 1 = .ok (.getfield 29, 3) := by decide +kernel
theorem dX0_isOf_4 : decode cX0_isOf 4 = .ok (.iload_n 1, 1) := by decide +kernel
theorem dX0_isOf_5 : decode cX0_isOf 5 = .ok (.if_icmp .ne 23, 3) := by decide +kernel
theorem dX0_isOf_8 : decode cX0_isOf 8 = .ok (.aload_n 0, 1) := by decide +kernel
theorem dX0_isOf_9 : decode cX0_isOf 9 = .ok (.getfield 32, 3) := by decide +kernel
theorem dX0_isOf_12 : decode cX0_isOf 12 = .ok (.iload_n 2, 1) := by decide +kernel
theorem dX0_isOf_13 : decode cX0_isOf 13 = .ok (.if_icmp .ne 15, 3) := by decide +kernel
theorem dX0_isOf_16 : decode cX0_isOf 16 = .ok (.aload_n 0, 1) := by decide +kernel
theorem dX0_isOf_17 : decode cX0_isOf 17 = .ok (.getfield 35, 3) := by decide +kernel
theorem dX0_isOf_20 : decode cX0_isOf 20 = .ok (.iload_n 3, 1) := by decide +kernel
theorem dX0_isOf_21 : decode cX0_isOf 21 = .ok (.if_icmp .ne 7, 3) := by decide +kernel
theorem dX0_isOf_24 : decode cX0_isOf 24 = .ok (.iconst 1, 1) := by decide +kernel
theorem dX0_isOf_25 : decode cX0_isOf 25 = .ok (.goto 4, 3) := by decide +kernel
theorem dX0_isOf_28 : decode cX0_isOf 28 = .ok (.iconst 0, 1) := by decide +kernel
theorem dX0_isOf_29 : decode cX0_isOf 29 = .ok (.ireturn, 1) := by decide +kernel
theorem dX0_isContradictedBy_0 : decode cX0_isContradictedBy 0 = .ok (.aload_n 0, 1) := by decide +kernel
theorem dX0_isContradictedBy_1 : decode cX0_isContradictedBy 1 = .ok (.getfield 19, 3) := by decide +kernel
theorem dX0_isContradictedBy_4 : decode cX0_isContradictedBy 4 = .ok (.iconst (-1), 1) := by decide +kernel
theorem dX0_isContradictedBy_5 : decode cX0_isContradictedBy 5 = .ok (.if_icmp .eq 25, 3) := by decide +kernel
theorem dX0_isContradictedBy_8 : decode cX0_isContradictedBy 8 = .ok (.iload_n 1, 1) := by decide +kernel
theorem dX0_isContradictedBy_9 : decode cX0_isContradictedBy 9 = .ok (.aload_n 0, 1) := by decide +kernel
theorem dX0_isContradictedBy_10 : decode cX0_isContradictedBy 10 = .ok (.getfield 19, 3) := by decide +kernel
theorem dX0_isContradictedBy_13 : decode cX0_isContradictedBy 13 = .ok (.if_icmp .gt 15, 3) := by decide +kernel
theorem dX0_isContradictedBy_16 : decode cX0_isContradictedBy 16 = .ok (.iload_n 2, 1) := by decide +kernel
theorem dX0_isContradictedBy_17 : decode cX0_isContradictedBy 17 = .ok (.ifCond .eq 13, 3) := by decide +kernel
theorem dX0_isContradictedBy_20 : decode cX0_isContradictedBy 20 = .ok (.iload_n 1, 1) := by decide +kernel
theorem dX0_isContradictedBy_21 : decode cX0_isContradictedBy 21 = .ok (.aload_n 0, 1) := by decide +kernel
theorem dX0_isContradictedBy_22 : decode cX0_isContradictedBy 22 = .ok (.getfield 19, 3) := by decide +kernel
theorem dX0_isContradictedBy_25 : decode cX0_isContradictedBy 25 = .ok (.if_icmp .eq 5, 3) := by decide +kernel
theorem dX0_isContradictedBy_28 : decode cX0_isContradictedBy 28 = .ok (.iconst 1, 1) := by decide +kernel
theorem dX0_isContradictedBy_29 : decode cX0_isContradictedBy 29 = .ok (.ireturn, 1) := by decide +kernel
theorem dX0_isContradictedBy_30 : decode cX0_isContradictedBy 30 = .ok (.iload_n 2, 1) := by decide +kernel
theorem dX0_isContradictedBy_31 : decode cX0_isContradictedBy 31 = .ok (.ifCond .eq 15, 3) := by decide +kernel
theorem dX0_isContradictedBy_34 : decode cX0_isContradictedBy 34 = .ok (.aload_n 0, 1) := by decide +kernel
theorem dX0_isContradictedBy_35 : decode cX0_isContradictedBy 35 = .ok (.getfield 41, 3) := by decide +kernel
theorem dX0_isContradictedBy_38 : decode cX0_isContradictedBy 38 = .ok (.iload_n 1, 1) := by decide +kernel
theorem dX0_isContradictedBy_39 : decode cX0_isContradictedBy 39 = .ok (.if_icmp .le 7, 3) := by decide +kernel
theorem dX0_isContradictedBy_42 : decode cX0_isContradictedBy 42 = .ok (.iconst 1, 1) := by decide +kernel
theorem dX0_isContradictedBy_43 : decode cX0_isContradictedBy 43 = .ok (.goto 4, 3) := by decide +kernel
theorem dX0_isContradictedBy_46 : decode cX0_isContradictedBy 46 = .ok (.iconst 0, 1) := by decide +kernel
theorem dX0_isContradictedBy_47 : decode cX0_isContradictedBy 47 = .ok (.ireturn, 1) := by decide +kernel
theorem dX0_noteReach_0 : decode cX0_noteReach 0 = .ok (.aload_n 0, 1) := by decide +kernel
theorem dX0_noteReach_1 : decode cX0_noteReach 1 = .ok (.aload_n 0, 1) := by decide +kernel
theorem dX0_noteReach_2 : decode cX0_noteReach 2 = .ok (.getfield 41, 3) := by decide +kernel
theorem dX0_noteReach_5 : decode cX0_noteReach 5 = .ok (.iload_n 1, 1) := by decide +kernel
theorem dX0_noteReach_6 : decode cX0_noteReach 6 = .ok (.invokestatic 47, 3) := by decide +kernel
theorem dX0_noteReach_9 : decode cX0_noteReach 9 = .ok (.putfield 41, 3) := by decide +kernel
theorem dX0_noteReach_12 : decode cX0_noteReach 12 = .ok (.iload_n 2, 1) := by decide +kernel
theorem dX0_noteReach_13 : decode cX0_noteReach 13 = .ok (.ifCond .eq 8, 3) := by decide +kernel
theorem dX0_noteReach_16 : decode cX0_noteReach 16 = .ok (.aload_n 0, 1) := by decide +kernel
theorem dX0_noteReach_17 : decode cX0_noteReach 17 = .ok (.iload_n 1, 1) := by decide +kernel
theorem dX0_noteReach_18 : decode cX0_noteReach 18 = .ok (.putfield 19, 3) := by decide +kernel
theorem dX0_noteReach_21 : decode cX0_noteReach 21 = .ok (.return_, 1) := by decide +kernel
theorem dX0_putIn_0 : decode cX0_putIn 0 = .ok (.iconst 0, 1) := by decide +kernel
theorem dX0_putIn_1 : decode cX0_putIn 1 = .ok (.istore 4, 2) := by decide +kernel
theorem dX0_putIn_3 : decode cX0_putIn 3 = .ok (.iload 4, 2) := by decide +kernel
theorem dX0_putIn_5 : decode cX0_putIn 5 = .ok (.iload_n 2, 1) := by decide +kernel
theorem dX0_putIn_6 : decode cX0_putIn 6 = .ok (.if_icmp .ge 45, 3) := by decide +kernel
theorem dX0_putIn_9 : decode cX0_putIn 9 = .ok (.aload_n 0, 1) := by decide +kernel
theorem dX0_putIn_10 : decode cX0_putIn 10 = .ok (.getfield 9, 3) := by decide +kernel
theorem dX0_putIn_13 : decode cX0_putIn 13 = .ok (.iload_n 3, 1) := by decide +kernel
theorem dX0_putIn_14 : decode cX0_putIn 14 = .ok (.iload 4, 2) := by decide +kernel
theorem dX0_putIn_16 : decode cX0_putIn 16 = .ok (.iadd, 1) := by decide +kernel
theorem dX0_putIn_17 : decode cX0_putIn 17 = .ok (.iaload, 1) := by decide +kernel
theorem dX0_putIn_18 : decode cX0_putIn 18 = .ok (.iconst (-1), 1) := by decide +kernel
theorem dX0_putIn_19 : decode cX0_putIn 19 = .ok (.if_icmp .ne 26, 3) := by decide +kernel
theorem dX0_putIn_22 : decode cX0_putIn 22 = .ok (.aload_n 0, 1) := by decide +kernel
theorem dX0_putIn_23 : decode cX0_putIn 23 = .ok (.getfield 9, 3) := by decide +kernel
theorem dX0_putIn_26 : decode cX0_putIn 26 = .ok (.iload_n 3, 1) := by decide +kernel
theorem dX0_putIn_27 : decode cX0_putIn 27 = .ok (.iload 4, 2) := by decide +kernel
theorem dX0_putIn_29 : decode cX0_putIn 29 = .ok (.iadd, 1) := by decide +kernel
theorem dX0_putIn_30 : decode cX0_putIn 30 = .ok (.aload_n 1, 1) := by decide +kernel
theorem dX0_putIn_31 : decode cX0_putIn 31 = .ok (.iload 4, 2) := by decide +kernel
theorem dX0_putIn_33 : decode cX0_putIn 33 = .ok (.iaload, 1) := by decide +kernel
theorem dX0_putIn_34 : decode cX0_putIn 34 = .ok (.iastore, 1) := by decide +kernel
theorem dX0_putIn_35 : decode cX0_putIn 35 = .ok (.aload_n 0, 1) := by decide +kernel
theorem dX0_putIn_36 : decode cX0_putIn 36 = .ok (.dup, 1) := by decide +kernel
theorem dX0_putIn_37 : decode cX0_putIn 37 = .ok (.getfield 44, 3) := by decide +kernel
theorem dX0_putIn_40 : decode cX0_putIn 40 = .ok (.iconst 1, 1) := by decide +kernel
theorem dX0_putIn_41 : decode cX0_putIn 41 = .ok (.iadd, 1) := by decide +kernel
theorem dX0_putIn_42 : decode cX0_putIn 42 = .ok (.putfield 44, 3) := by decide +kernel
theorem dX0_putIn_45 : decode cX0_putIn 45 = .ok (.iinc 4 1, 3) := by decide +kernel
theorem dX0_putIn_48 : decode cX0_putIn 48 = .ok (.goto (-45), 3) := by decide +kernel
theorem dX0_putIn_51 : decode cX0_putIn 51 = .ok (.return_, 1) := by decide +kernel
theorem dX0_isWhole_0 : decode cX0_isWhole 0 = .ok (.aload_n 0, 1) := by decide +kernel
theorem dX0_isWhole_1 : decode cX0_isWhole 1 = .ok (.getfield 19, 3) := by decide +kernel
theorem dX0_isWhole_4 : decode cX0_isWhole 4 = .ok (.iconst (-1), 1) := by decide +kernel
theorem dX0_isWhole_5 : decode cX0_isWhole 5 = .ok (.if_icmp .eq 18, 3) := by decide +kernel
theorem dX0_isWhole_8 : decode cX0_isWhole 8 = .ok (.aload_n 0, 1) := by decide +kernel
theorem dX0_isWhole_9 : decode cX0_isWhole 9 = .ok (.getfield 44, 3) := by decide +kernel
theorem dX0_isWhole_12 : decode cX0_isWhole 12 = .ok (.aload_n 0, 1) := by decide +kernel
theorem dX0_isWhole_13 : decode cX0_isWhole 13 = .ok (.getfield 19, 3) := by decide +kernel
theorem dX0_isWhole_16 : decode cX0_isWhole 16 = .ok (.if_icmp .ne 7, 3) := by decide +kernel
theorem dX0_isWhole_19 : decode cX0_isWhole 19 = .ok (.iconst 1, 1) := by decide +kernel
theorem dX0_isWhole_20 : decode cX0_isWhole 20 = .ok (.goto 4, 3) := by decide +kernel
theorem dX0_isWhole_23 : decode cX0_isWhole 23 = .ok (.iconst 0, 1) := by decide +kernel
theorem dX0_isWhole_24 : decode cX0_isWhole 24 = .ok (.ireturn, 1) := by decide +kernel
set_option maxRecDepth 20000 in
theorem ggX1_init_X0_init : GoodIn wsX1_init wsX0_init := goodIn_r _ [16, 17, 2, 3, 4, 18, 19, 20, 27, 28, 29, 30, 31, 32, 33, 34, 35] (by decide +kernel) (by decide +kernel)
set_option maxRecDepth 20000 in
theorem gX1_init_X0_init : GoodIn wsX1_init (wsX0_init) := ggX1_init_X0_init
theorem dX1_init_0 : decode cX1_init 0 = .ok (.aload_n 0, 1) := by decide +kernel
theorem dX1_init_1 : decode cX1_init 1 = .ok (.invokespecial 1, 3) := by decide +kernel
theorem dX1_init_4 : decode cX1_init 4 = .ok (.aload_n 0, 1) := by decide +kernel
theorem dX1_init_5 : decode cX1_init 5 = .ok (.sipush 1480, 3) := by decide +kernel
theorem dX1_init_8 : decode cX1_init 8 = .ok (.newarray .int, 2) := by decide +kernel
theorem dX1_init_10 : decode cX1_init 10 = .ok (.putfield 9, 3) := by decide +kernel
theorem dX1_init_13 : decode cX1_init 13 = .ok (.aload_n 0, 1) := by decide +kernel
theorem dX1_init_14 : decode cX1_init 14 = .ok (.iconst 4, 1) := by decide +kernel
theorem dX1_init_15 : decode cX1_init 15 = .ok (.anewarray 13, 3) := by decide +kernel
theorem dX1_init_18 : decode cX1_init 18 = .ok (.putfield 15, 3) := by decide +kernel
theorem dX1_init_21 : decode cX1_init 21 = .ok (.iconst 0, 1) := by decide +kernel
theorem dX1_init_22 : decode cX1_init 22 = .ok (.istore_n 1, 1) := by decide +kernel
theorem dX1_init_23 : decode cX1_init 23 = .ok (.iload_n 1, 1) := by decide +kernel
theorem dX1_init_24 : decode cX1_init 24 = .ok (.iconst 4, 1) := by decide +kernel
theorem dX1_init_25 : decode cX1_init 25 = .ok (.if_icmp .ge 22, 3) := by decide +kernel
theorem dX1_init_28 : decode cX1_init 28 = .ok (.aload_n 0, 1) := by decide +kernel
theorem dX1_init_29 : decode cX1_init 29 = .ok (.getfield 15, 3) := by decide +kernel
theorem dX1_init_32 : decode cX1_init 32 = .ok (.iload_n 1, 1) := by decide +kernel
theorem dX1_init_33 : decode cX1_init 33 = .ok (.new 13, 3) := by decide +kernel
theorem dX1_init_36 : decode cX1_init 36 = .ok (.dup, 1) := by decide +kernel
theorem dX1_init_37 : decode cX1_init 37 = .ok (.invokespecial 19, 3) := by decide +kernel
theorem dX1_init_40 : decode cX1_init 40 = .ok (.aastore, 1) := by decide +kernel
theorem dX1_init_41 : decode cX1_init 41 = .ok (.iinc 1 1, 3) := by decide +kernel
theorem dX1_init_44 : decode cX1_init 44 = .ok (.goto (-21), 3) := by decide +kernel
theorem dX1_init_47 : decode cX1_init 47 = .ok (.aload_n 0, 1) := by decide +kernel
theorem dX1_init_48 : decode cX1_init 48 = .ok (.new 13, 3) := by decide +kernel
theorem dX1_init_51 : decode cX1_init 51 = .ok (.dup, 1) := by decide +kernel
theorem dX1_init_52 : decode cX1_init 52 = .ok (.invokespecial 19, 3) := by decide +kernel
theorem dX1_init_55 : decode cX1_init 55 = .ok (.putfield 20, 3) := by decide +kernel
theorem dX1_init_58 : decode cX1_init 58 = .ok (.aload_n 0, 1) := by decide +kernel
theorem dX1_init_59 : decode cX1_init 59 = .ok (.iconst 0, 1) := by decide +kernel
theorem dX1_init_60 : decode cX1_init 60 = .ok (.putfield 24, 3) := by decide +kernel
theorem dX1_init_63 : decode cX1_init 63 = .ok (.aload_n 0, 1) := by decide +kernel
theorem dX1_init_64 : decode cX1_init 64 = .ok (.iconst 0, 1) := by decide +kernel
theorem dX1_init_65 : decode cX1_init 65 = .ok (.putfield 28, 3) := by decide +kernel
theorem dX1_init_68 : decode cX1_init 68 = .ok (.aload_n 0, 1) := by decide +kernel
theorem dX1_init_69 : decode cX1_init 69 = .ok (.iconst 0, 1) := by decide +kernel
theorem dX1_init_70 : decode cX1_init 70 = .ok (.putfield 31, 3) := by decide +kernel
theorem dX1_init_73 : decode cX1_init 73 = .ok (.return_, 1) := by decide +kernel
set_option maxRecDepth 20000 in
theorem ggX1_feed_X1_putWord : GoodIn wsX1_feed wsX1_putWord := goodIn_r _ [6, 7, 8, 9, 10, 11, 12, 13] (by decide +kernel) (by decide +kernel)
set_option maxRecDepth 20000 in
theorem gX1_feed_X1_putWord : GoodIn wsX1_feed (wsV RX1 34 RX1 yX1_putWord wsX1_putWord) := goodIn_app (goodIn_of _ (by decide +kernel)) ggX1_feed_X1_putWord
theorem dX1_feed_0 : decode cX1_feed 0 = .ok (.aload_n 0, 1) := by decide +kernel
theorem dX1_feed_1 : decode cX1_feed 1 = .ok (.getfield 24, 3) := by decide +kernel
theorem dX1_feed_4 : decode cX1_feed 4 = .ok (.sipush 1460, 3) := by decide +kernel
theorem dX1_feed_7 : decode cX1_feed 7 = .ok (.if_icmp .le 5, 3) := by decide +kernel
theorem dX1_feed_10 : decode cX1_feed 10 = .ok (.iconst (-1), 1) := by decide +kernel
theorem dX1_feed_11 : decode cX1_feed 11 = .ok (.ireturn, 1) := by decide +kernel
theorem dX1_feed_12 : decode cX1_feed 12 = .ok (.aload_n 0, 1) := by decide +kernel
theorem dX1_feed_13 : decode cX1_feed 13 = .ok (.iload_n 1, 1) := by decide +kernel
theorem dX1_feed_14 : decode cX1_feed 14 = .ok (.aload_n 0, 1) := by decide +kernel
theorem dX1_feed_15 : decode cX1_feed 15 = .ok (.getfield 24, 3) := by decide +kernel
theorem dX1_feed_18 : decode cX1_feed 18 = .ok (.invokevirtual 34, 3) := by decide +kernel
theorem dX1_feed_21 : decode cX1_feed 21 = .ok (.aload_n 0, 1) := by decide +kernel
theorem dX1_feed_22 : decode cX1_feed 22 = .ok (.iload_n 2, 1) := by decide +kernel
theorem dX1_feed_23 : decode cX1_feed 23 = .ok (.aload_n 0, 1) := by decide +kernel
theorem dX1_feed_24 : decode cX1_feed 24 = .ok (.getfield 24, 3) := by decide +kernel
theorem dX1_feed_27 : decode cX1_feed 27 = .ok (.iconst 4, 1) := by decide +kernel
theorem dX1_feed_28 : decode cX1_feed 28 = .ok (.iadd, 1) := by decide +kernel
theorem dX1_feed_29 : decode cX1_feed 29 = .ok (.invokevirtual 34, 3) := by decide +kernel
theorem dX1_feed_32 : decode cX1_feed 32 = .ok (.aload_n 0, 1) := by decide +kernel
theorem dX1_feed_33 : decode cX1_feed 33 = .ok (.iload_n 3, 1) := by decide +kernel
theorem dX1_feed_34 : decode cX1_feed 34 = .ok (.aload_n 0, 1) := by decide +kernel
theorem dX1_feed_35 : decode cX1_feed 35 = .ok (.getfield 24, 3) := by decide +kernel
theorem dX1_feed_38 : decode cX1_feed 38 = .ok (.bipush 8, 2) := by decide +kernel
theorem dX1_feed_40 : decode cX1_feed 40 = .ok (.iadd, 1) := by decide +kernel
theorem dX1_feed_41 : decode cX1_feed 41 = .ok (.invokevirtual 34, 3) := by decide +kernel
theorem dX1_feed_44 : decode cX1_feed 44 = .ok (.aload_n 0, 1) := by decide +kernel
theorem dX1_feed_45 : decode cX1_feed 45 = .ok (.iload 4, 2) := by decide +kernel
theorem dX1_feed_47 : decode cX1_feed 47 = .ok (.aload_n 0, 1) := by decide +kernel
theorem dX1_feed_48 : decode cX1_feed 48 = .ok (.getfield 24, 3) := by decide +kernel
theorem dX1_feed_51 : decode cX1_feed 51 = .ok (.bipush 12, 2) := by decide +kernel
theorem dX1_feed_53 : decode cX1_feed 53 = .ok (.iadd, 1) := by decide +kernel
theorem dX1_feed_54 : decode cX1_feed 54 = .ok (.invokevirtual 34, 3) := by decide +kernel
theorem dX1_feed_57 : decode cX1_feed 57 = .ok (.aload_n 0, 1) := by decide +kernel
theorem dX1_feed_58 : decode cX1_feed 58 = .ok (.iload 5, 2) := by decide +kernel
theorem dX1_feed_60 : decode cX1_feed 60 = .ok (.aload_n 0, 1) := by decide +kernel
theorem dX1_feed_61 : decode cX1_feed 61 = .ok (.getfield 24, 3) := by decide +kernel
theorem dX1_feed_64 : decode cX1_feed 64 = .ok (.bipush 16, 2) := by decide +kernel
theorem dX1_feed_66 : decode cX1_feed 66 = .ok (.iadd, 1) := by decide +kernel
theorem dX1_feed_67 : decode cX1_feed 67 = .ok (.invokevirtual 34, 3) := by decide +kernel
theorem dX1_feed_70 : decode cX1_feed 70 = .ok (.aload_n 0, 1) := by decide +kernel
theorem dX1_feed_71 : decode cX1_feed 71 = .ok (.dup, 1) := by decide +kernel
theorem dX1_feed_72 : decode cX1_feed 72 = .ok (.getfield 24, 3) := by decide +kernel
theorem dX1_feed_75 : decode cX1_feed 75 = .ok (.bipush 20, 2) := by decide +kernel
theorem dX1_feed_77 : decode cX1_feed 77 = .ok (.iadd, 1) := by decide +kernel
theorem dX1_feed_78 : decode cX1_feed 78 = .ok (.putfield 24, 3) := by decide +kernel
theorem dX1_feed_81 : decode cX1_feed 81 = .ok (.aload_n 0, 1) := by decide +kernel
theorem dX1_feed_82 : decode cX1_feed 82 = .ok (.getfield 24, 3) := by decide +kernel
theorem dX1_feed_85 : decode cX1_feed 85 = .ok (.ireturn, 1) := by decide +kernel
theorem dX1_end_0 : decode cX1_end 0 = .ok (.iload_n 1, 1) := by decide +kernel
theorem dX1_end_1 : decode cX1_end 1 = .ok (.ifCond .lt 11, 3) := by decide +kernel
theorem dX1_end_4 : decode cX1_end 4 = .ok (.iload_n 1, 1) := by decide +kernel
theorem dX1_end_5 : decode cX1_end 5 = .ok (.aload_n 0, 1) := by decide +kernel
theorem dX1_end_6 : decode cX1_end 6 = .ok (.getfield 24, 3) := by decide +kernel
theorem dX1_end_9 : decode cX1_end 9 = .ok (.if_icmp .le 5, 3) := by decide +kernel
theorem dX1_end_12 : decode cX1_end 12 = .ok (.iconst (-1), 1) := by decide +kernel
theorem dX1_end_13 : decode cX1_end 13 = .ok (.ireturn, 1) := by decide +kernel
theorem dX1_end_14 : decode cX1_end 14 = .ok (.aload_n 0, 1) := by decide +kernel
theorem dX1_end_15 : decode cX1_end 15 = .ok (.iload_n 1, 1) := by decide +kernel
theorem dX1_end_16 : decode cX1_end 16 = .ok (.putfield 24, 3) := by decide +kernel
theorem dX1_end_19 : decode cX1_end 19 = .ok (.iload_n 1, 1) := by decide +kernel
theorem dX1_end_20 : decode cX1_end 20 = .ok (.ireturn, 1) := by decide +kernel
set_option maxRecDepth 20000 in
theorem ggX1_take_X1_isSound : GoodIn wsX1_take wsX1_isSound := goodIn_r _ [5] (by decide +kernel) (by decide +kernel)
set_option maxRecDepth 20000 in
theorem gX1_take_X1_isSound : GoodIn wsX1_take (va_wsS RX1 38 yX1_isSound wsX1_isSound) := goodIn_app (goodIn_of _ (by decide +kernel)) ggX1_take_X1_isSound
set_option maxRecDepth 20000 in
theorem ggX1_take_X1_slotFor : GoodIn wsX1_take wsX1_slotFor := goodIn_r _ [9, 10, 11, 12, 13, 14, 15, 16, 17, 18, 19, 20, 21, 22, 23, 24, 25, 26, 27, 28, 29, 30, 31, 32, 33, 34, 67, 68, 69, 70, 71, 72, 73, 74, 75, 76, 77, 78, 79, 80, 81] (by decide +kernel) (by decide +kernel)
set_option maxRecDepth 20000 in
theorem gX1_take_X1_slotFor : GoodIn wsX1_take (wsV RX1 42 RX1 yX1_slotFor wsX1_slotFor) := goodIn_app (goodIn_of _ (by decide +kernel)) ggX1_take_X1_slotFor
set_option maxRecDepth 20000 in
theorem ggX1_take_X1_join : GoodIn wsX1_take wsX1_join := goodIn_r _ [38, 10, 11, 39, 40, 41, 42, 43, 44, 16, 45, 28, 29, 46, 47, 48, 49, 50, 51, 52, 53, 54, 55, 56, 57, 25, 30, 58, 59, 60, 61, 62, 63, 64, 4, 65, 66, 67, 68, 69, 70, 71, 72, 73, 74, 75, 76, 77, 78, 79, 80, 81] (by decide +kernel) (by decide +kernel)
set_option maxRecDepth 20000 in
theorem gX1_take_X1_join : GoodIn wsX1_take (wsV RX1 46 RX1 yX1_join wsX1_join) := goodIn_app (goodIn_of _ (by decide +kernel)) ggX1_take_X1_join
theorem dX1_take_0 : decode cX1_take 0 = .ok (.iload 4, 2) := by decide +kernel
theorem dX1_take_2 : decode cX1_take 2 = .ok (.ifCond .lt 11, 3) := by decide +kernel
theorem dX1_take_5 : decode cX1_take 5 = .ok (.iload 4, 2) := by decide +kernel
theorem dX1_take_7 : decode cX1_take 7 = .ok (.sipush 8191, 3) := by decide +kernel
theorem dX1_take_10 : decode cX1_take 10 = .ok (.if_icmp .le 6, 3) := by decide +kernel
theorem dX1_take_13 : decode cX1_take 13 = .ok (.bipush (-4), 2) := by decide +kernel
theorem dX1_take_15 : decode cX1_take 15 = .ok (.ireturn, 1) := by decide +kernel
theorem dX1_take_16 : decode cX1_take 16 = .ok (.aload_n 0, 1) := by decide +kernel
theorem dX1_take_17 : decode cX1_take 17 = .ok (.getfield 24, 3) := by decide +kernel
theorem dX1_take_20 : decode cX1_take 20 = .ok (.istore 6, 2) := by decide +kernel
theorem dX1_take_22 : decode cX1_take 22 = .ok (.aload_n 0, 1) := by decide +kernel
theorem dX1_take_23 : decode cX1_take 23 = .ok (.iconst 0, 1) := by decide +kernel
theorem dX1_take_24 : decode cX1_take 24 = .ok (.putfield 24, 3) := by decide +kernel
theorem dX1_take_27 : decode cX1_take 27 = .ok (.iload 4, 2) := by decide +kernel
theorem dX1_take_29 : decode cX1_take 29 = .ok (.bipush 8, 2) := by decide +kernel
theorem dX1_take_31 : decode cX1_take 31 = .ok (.imul, 1) := by decide +kernel
theorem dX1_take_32 : decode cX1_take 32 = .ok (.istore 7, 2) := by decide +kernel
theorem dX1_take_34 : decode cX1_take 34 = .ok (.iload 7, 2) := by decide +kernel
theorem dX1_take_36 : decode cX1_take 36 = .ok (.iload 6, 2) := by decide +kernel
theorem dX1_take_38 : decode cX1_take 38 = .ok (.iload 5, 2) := by decide +kernel
theorem dX1_take_40 : decode cX1_take 40 = .ok (.invokestatic 38, 3) := by decide +kernel
theorem dX1_take_43 : decode cX1_take 43 = .ok (.ifCond .ne 6, 3) := by decide +kernel
theorem dX1_take_46 : decode cX1_take 46 = .ok (.bipush (-2), 2) := by decide +kernel
theorem dX1_take_48 : decode cX1_take 48 = .ok (.ireturn, 1) := by decide +kernel
theorem dX1_take_49 : decode cX1_take 49 = .ok (.aload_n 0, 1) := by decide +kernel
theorem dX1_take_50 : decode cX1_take 50 = .ok (.iload_n 1, 1) := by decide +kernel
theorem dX1_take_51 : decode cX1_take 51 = .ok (.iload_n 2, 1) := by decide +kernel
theorem dX1_take_52 : decode cX1_take 52 = .ok (.iload_n 3, 1) := by decide +kernel
theorem dX1_take_53 : decode cX1_take 53 = .ok (.invokevirtual 42, 3) := by decide +kernel
theorem dX1_take_56 : decode cX1_take 56 = .ok (.istore 8, 2) := by decide +kernel
theorem dX1_take_58 : decode cX1_take 58 = .ok (.iload 8, 2) := by decide +kernel
theorem dX1_take_60 : decode cX1_take 60 = .ok (.iconst (-1), 1) := by decide +kernel
theorem dX1_take_61 : decode cX1_take 61 = .ok (.if_icmp .ne 6, 3) := by decide +kernel
theorem dX1_take_64 : decode cX1_take 64 = .ok (.bipush (-2), 2) := by decide +kernel
theorem dX1_take_66 : decode cX1_take 66 = .ok (.ireturn, 1) := by decide +kernel
theorem dX1_take_67 : decode cX1_take 67 = .ok (.aload_n 0, 1) := by decide +kernel
theorem dX1_take_68 : decode cX1_take 68 = .ok (.iload 8, 2) := by decide +kernel
theorem dX1_take_70 : decode cX1_take 70 = .ok (.iload 7, 2) := by decide +kernel
theorem dX1_take_72 : decode cX1_take 72 = .ok (.iload 6, 2) := by decide +kernel
theorem dX1_take_74 : decode cX1_take 74 = .ok (.iload 5, 2) := by decide +kernel
theorem dX1_take_76 : decode cX1_take 76 = .ok (.invokevirtual 46, 3) := by decide +kernel
theorem dX1_take_79 : decode cX1_take 79 = .ok (.ireturn, 1) := by decide +kernel
theorem dX1_pass_0 : decode cX1_pass 0 = .ok (.iload_n 1, 1) := by decide +kernel
theorem dX1_pass_1 : decode cX1_pass 1 = .ok (.aload_n 0, 1) := by decide +kernel
theorem dX1_pass_2 : decode cX1_pass 2 = .ok (.getfield 31, 3) := by decide +kernel
theorem dX1_pass_5 : decode cX1_pass 5 = .ok (.if_icmp .lt 9, 3) := by decide +kernel
theorem dX1_pass_8 : decode cX1_pass 8 = .ok (.iload_n 1, 1) := by decide +kernel
theorem dX1_pass_9 : decode cX1_pass 9 = .ok (.ldc 50, 2) := by decide +kernel
theorem dX1_pass_11 : decode cX1_pass 11 = .ok (.if_icmp .le 5, 3) := by decide +kernel
theorem dX1_pass_14 : decode cX1_pass 14 = .ok (.iconst (-1), 1) := by decide +kernel
theorem dX1_pass_15 : decode cX1_pass 15 = .ok (.ireturn, 1) := by decide +kernel
theorem dX1_pass_16 : decode cX1_pass 16 = .ok (.aload_n 0, 1) := by decide +kernel
theorem dX1_pass_17 : decode cX1_pass 17 = .ok (.iload_n 1, 1) := by decide +kernel
theorem dX1_pass_18 : decode cX1_pass 18 = .ok (.putfield 31, 3) := by decide +kernel
theorem dX1_pass_21 : decode cX1_pass 21 = .ok (.iconst 0, 1) := by decide +kernel
theorem dX1_pass_22 : decode cX1_pass 22 = .ok (.istore_n 2, 1) := by decide +kernel
theorem dX1_pass_23 : decode cX1_pass 23 = .ok (.iconst 0, 1) := by decide +kernel
theorem dX1_pass_24 : decode cX1_pass 24 = .ok (.istore_n 3, 1) := by decide +kernel
theorem dX1_pass_25 : decode cX1_pass 25 = .ok (.iload_n 3, 1) := by decide +kernel
theorem dX1_pass_26 : decode cX1_pass 26 = .ok (.iconst 4, 1) := by decide +kernel
theorem dX1_pass_27 : decode cX1_pass 27 = .ok (.if_icmp .ge 54, 3) := by decide +kernel
theorem dX1_pass_30 : decode cX1_pass 30 = .ok (.aload_n 0, 1) := by decide +kernel
theorem dX1_pass_31 : decode cX1_pass 31 = .ok (.getfield 15, 3) := by decide +kernel
theorem dX1_pass_34 : decode cX1_pass 34 = .ok (.iload_n 3, 1) := by decide +kernel
theorem dX1_pass_35 : decode cX1_pass 35 = .ok (.aaload, 1) := by decide +kernel
theorem dX1_pass_36 : decode cX1_pass 36 = .ok (.getfield 51, 3) := by decide +kernel
theorem dX1_pass_39 : decode cX1_pass 39 = .ok (.ifCond .eq 36, 3) := by decide +kernel
theorem dX1_pass_42 : decode cX1_pass 42 = .ok (.aload_n 0, 1) := by decide +kernel
theorem dX1_pass_43 : decode cX1_pass 43 = .ok (.getfield 15, 3) := by decide +kernel
theorem dX1_pass_46 : decode cX1_pass 46 = .ok (.iload_n 3, 1) := by decide +kernel
theorem dX1_pass_47 : decode cX1_pass 47 = .ok (.aaload, 1) := by decide +kernel
theorem dX1_pass_48 : decode cX1_pass 48 = .ok (.getfield 55, 3) := by decide +kernel
theorem dX1_pass_51 : decode cX1_pass 51 = .ok (.sipush 15000, 3) := by decide +kernel
theorem dX1_pass_54 : decode cX1_pass 54 = .ok (.iadd, 1) := by decide +kernel
theorem dX1_pass_55 : decode cX1_pass 55 = .ok (.aload_n 0, 1) := by decide +kernel
theorem dX1_pass_56 : decode cX1_pass 56 = .ok (.getfield 31, 3) := by decide +kernel
theorem dX1_pass_59 : decode cX1_pass 59 = .ok (.if_icmp .gt 16, 3) := by decide +kernel
theorem dX1_pass_62 : decode cX1_pass 62 = .ok (.aload_n 0, 1) := by decide +kernel
theorem dX1_pass_63 : decode cX1_pass 63 = .ok (.getfield 15, 3) := by decide +kernel
theorem dX1_pass_66 : decode cX1_pass 66 = .ok (.iload_n 3, 1) := by decide +kernel
theorem dX1_pass_67 : decode cX1_pass 67 = .ok (.aaload, 1) := by decide +kernel
theorem dX1_pass_68 : decode cX1_pass 68 = .ok (.iconst 0, 1) := by decide +kernel
theorem dX1_pass_69 : decode cX1_pass 69 = .ok (.putfield 51, 3) := by decide +kernel
theorem dX1_pass_72 : decode cX1_pass 72 = .ok (.iinc 2 1, 3) := by decide +kernel
theorem dX1_pass_75 : decode cX1_pass 75 = .ok (.iinc 3 1, 3) := by decide +kernel
theorem dX1_pass_78 : decode cX1_pass 78 = .ok (.goto (-53), 3) := by decide +kernel
