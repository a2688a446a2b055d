set_option maxRecDepth 20000 in
theorem ggX4_missed_X4_begin : GoodIn wsX4_missed wsX4_begin := goodIn_r _ [7, 1, 2, 12, 13, 14] (by decide +kernel) (by decide +kernel)
set_option maxRecDepth 20000 in
theorem gX4_missed_X4_begin : GoodIn wsX4_missed (wsV RX4 25 RX4 yX4_begin wsX4_begin) := goodIn_app (goodIn_of _ (by decide +kernel)) ggX4_missed_X4_begin
set_option maxRecDepth 20000 in
theorem ggX4_missed_X4_sendNext : GoodIn wsX4_missed wsX4_sendNext := goodIn_r _ [11, 1, 12, 13, 14] (by decide +kernel) (by decide +kernel)
set_option maxRecDepth 20000 in
theorem gX4_missed_X4_sendNext : GoodIn wsX4_missed (wsV RX4 29 RX4 yX4_sendNext wsX4_sendNext) := goodIn_app (goodIn_of _ (by decide +kernel)) ggX4_missed_X4_sendNext
theorem dX4_missed_0 : decode cX4_missed 0 = .ok (.iload_n 2, 1) := by decide +kernel
theorem dX4_missed_1 : decode cX4_missed 1 = .ok (.iconst 1, 1) := by decide +kernel
theorem dX4_missed_2 : decode cX4_missed 2 = .ok (.if_icmp .lt 12, 3) := by decide +kernel
theorem dX4_missed_5 : decode cX4_missed 5 = .ok (.iload_n 2, 1) := by decide +kernel
theorem dX4_missed_6 : decode cX4_missed 6 = .ok (.aload_n 0, 1) := by decide +kernel
theorem dX4_missed_7 : decode cX4_missed 7 = .ok (.getfield 9, 3) := by decide +kernel
theorem dX4_missed_10 : decode cX4_missed 10 = .ok (.arraylength, 1) := by decide +kernel
theorem dX4_missed_11 : decode cX4_missed 11 = .ok (.if_icmp .lt 7, 3) := by decide +kernel
theorem dX4_missed_14 : decode cX4_missed 14 = .ok (.ldc2_w 23, 3) := by decide +kernel
theorem dX4_missed_17 : decode cX4_missed 17 = .ok (.lreturn, 1) := by decide +kernel
theorem dX4_missed_18 : decode cX4_missed 18 = .ok (.aload_n 0, 1) := by decide +kernel
theorem dX4_missed_19 : decode cX4_missed 19 = .ok (.iload_n 2, 1) := by decide +kernel
theorem dX4_missed_20 : decode cX4_missed 20 = .ok (.invokevirtual 25, 3) := by decide +kernel
theorem dX4_missed_23 : decode cX4_missed 23 = .ok (.iconst 0, 1) := by decide +kernel
theorem dX4_missed_24 : decode cX4_missed 24 = .ok (.istore_n 3, 1) := by decide +kernel
theorem dX4_missed_25 : decode cX4_missed 25 = .ok (.iload_n 3, 1) := by decide +kernel
theorem dX4_missed_26 : decode cX4_missed 26 = .ok (.iload_n 1, 1) := by decide +kernel
theorem dX4_missed_27 : decode cX4_missed 27 = .ok (.if_icmp .ge 27, 3) := by decide +kernel
theorem dX4_missed_30 : decode cX4_missed 30 = .ok (.aload_n 0, 1) := by decide +kernel
theorem dX4_missed_31 : decode cX4_missed 31 = .ok (.getfield 9, 3) := by decide +kernel
theorem dX4_missed_34 : decode cX4_missed 34 = .ok (.iload_n 2, 1) := by decide +kernel
theorem dX4_missed_35 : decode cX4_missed 35 = .ok (.laload, 1) := by decide +kernel
theorem dX4_missed_36 : decode cX4_missed 36 = .ok (.ldc2_w 23, 3) := by decide +kernel
theorem dX4_missed_39 : decode cX4_missed 39 = .ok (.lcmp, 1) := by decide +kernel
theorem dX4_missed_40 : decode cX4_missed 40 = .ok (.ifCond .ge 14, 3) := by decide +kernel
theorem dX4_missed_43 : decode cX4_missed 43 = .ok (.aload_n 0, 1) := by decide +kernel
theorem dX4_missed_44 : decode cX4_missed 44 = .ok (.iload_n 2, 1) := by decide +kernel
theorem dX4_missed_45 : decode cX4_missed 45 = .ok (.invokevirtual 29, 3) := by decide +kernel
theorem dX4_missed_48 : decode cX4_missed 48 = .ok (.iinc 3 1, 3) := by decide +kernel
theorem dX4_missed_51 : decode cX4_missed 51 = .ok (.goto (-26), 3) := by decide +kernel
theorem dX4_missed_54 : decode cX4_missed 54 = .ok (.ldc2_w 23, 3) := by decide +kernel
theorem dX4_missed_57 : decode cX4_missed 57 = .ok (.aload_n 0, 1) := by decide +kernel
theorem dX4_missed_58 : decode cX4_missed 58 = .ok (.getfield 9, 3) := by decide +kernel
theorem dX4_missed_61 : decode cX4_missed 61 = .ok (.iload_n 2, 1) := by decide +kernel
theorem dX4_missed_62 : decode cX4_missed 62 = .ok (.laload, 1) := by decide +kernel
theorem dX4_missed_63 : decode cX4_missed 63 = .ok (.lsub, 1) := by decide +kernel
theorem dX4_missed_64 : decode cX4_missed 64 = .ok (.lreturn, 1) := by decide +kernel
theorem dX4_begin_0 : decode cX4_begin 0 = .ok (.aload_n 0, 1) := by decide +kernel
theorem dX4_begin_1 : decode cX4_begin 1 = .ok (.getfield 9, 3) := by decide +kernel
theorem dX4_begin_4 : decode cX4_begin 4 = .ok (.iconst 0, 1) := by decide +kernel
theorem dX4_begin_5 : decode cX4_begin 5 = .ok (.ldc2_w 23, 3) := by decide +kernel
theorem dX4_begin_8 : decode cX4_begin 8 = .ok (.lastore, 1) := by decide +kernel
theorem dX4_begin_9 : decode cX4_begin 9 = .ok (.iconst 1, 1) := by decide +kernel
theorem dX4_begin_10 : decode cX4_begin 10 = .ok (.istore_n 2, 1) := by decide +kernel
theorem dX4_begin_11 : decode cX4_begin 11 = .ok (.iload_n 2, 1) := by decide +kernel
theorem dX4_begin_12 : decode cX4_begin 12 = .ok (.iload_n 1, 1) := by decide +kernel
theorem dX4_begin_13 : decode cX4_begin 13 = .ok (.if_icmp .gt 16, 3) := by decide +kernel
theorem dX4_begin_16 : decode cX4_begin 16 = .ok (.aload_n 0, 1) := by decide +kernel
theorem dX4_begin_17 : decode cX4_begin 17 = .ok (.getfield 9, 3) := by decide +kernel
theorem dX4_begin_20 : decode cX4_begin 20 = .ok (.iload_n 2, 1) := by decide +kernel
theorem dX4_begin_21 : decode cX4_begin 21 = .ok (.lconst 0, 1) := by decide +kernel
theorem dX4_begin_22 : decode cX4_begin 22 = .ok (.lastore, 1) := by decide +kernel
theorem dX4_begin_23 : decode cX4_begin 23 = .ok (.iinc 2 1, 3) := by decide +kernel
theorem dX4_begin_26 : decode cX4_begin 26 = .ok (.goto (-15), 3) := by decide +kernel
theorem dX4_begin_29 : decode cX4_begin 29 = .ok (.return_, 1) := by decide +kernel
theorem dX4_sendNext_0 : decode cX4_sendNext 0 = .ok (.iload_n 1, 1) := by decide +kernel
theorem dX4_sendNext_1 : decode cX4_sendNext 1 = .ok (.iconst 1, 1) := by decide +kernel
theorem dX4_sendNext_2 : decode cX4_sendNext 2 = .ok (.if_icmp .lt 12, 3) := by decide +kernel
theorem dX4_sendNext_5 : decode cX4_sendNext 5 = .ok (.iload_n 1, 1) := by decide +kernel
theorem dX4_sendNext_6 : decode cX4_sendNext 6 = .ok (.aload_n 0, 1) := by decide +kernel
theorem dX4_sendNext_7 : decode cX4_sendNext 7 = .ok (.getfield 9, 3) := by decide +kernel
theorem dX4_sendNext_10 : decode cX4_sendNext 10 = .ok (.arraylength, 1) := by decide +kernel
theorem dX4_sendNext_11 : decode cX4_sendNext 11 = .ok (.if_icmp .lt 4, 3) := by decide +kernel
theorem dX4_sendNext_14 : decode cX4_sendNext 14 = .ok (.return_, 1) := by decide +kernel
theorem dX4_sendNext_15 : decode cX4_sendNext 15 = .ok (.iload_n 1, 1) := by decide +kernel
theorem dX4_sendNext_16 : decode cX4_sendNext 16 = .ok (.iconst 1, 1) := by decide +kernel
theorem dX4_sendNext_17 : decode cX4_sendNext 17 = .ok (.isub, 1) := by decide +kernel
theorem dX4_sendNext_18 : decode cX4_sendNext 18 = .ok (.istore_n 2, 1) := by decide +kernel
theorem dX4_sendNext_19 : decode cX4_sendNext 19 = .ok (.iload_n 2, 1) := by decide +kernel
theorem dX4_sendNext_20 : decode cX4_sendNext 20 = .ok (.ifCond .lt 48, 3) := by decide +kernel
theorem dX4_sendNext_23 : decode cX4_sendNext 23 = .ok (.aload_n 0, 1) := by decide +kernel
theorem dX4_sendNext_24 : decode cX4_sendNext 24 = .ok (.getfield 9, 3) := by decide +kernel
theorem dX4_sendNext_27 : decode cX4_sendNext 27 = .ok (.iload_n 2, 1) := by decide +kernel
theorem dX4_sendNext_28 : decode cX4_sendNext 28 = .ok (.laload, 1) := by decide +kernel
theorem dX4_sendNext_29 : decode cX4_sendNext 29 = .ok (.iload_n 2, 1) := by decide +kernel
theorem dX4_sendNext_30 : decode cX4_sendNext 30 = .ok (.i2l, 1) := by decide +kernel
theorem dX4_sendNext_31 : decode cX4_sendNext 31 = .ok (.lmul, 1) := by decide +kernel
theorem dX4_sendNext_32 : decode cX4_sendNext 32 = .ok (.iload_n 1, 1) := by decide +kernel
theorem dX4_sendNext_33 : decode cX4_sendNext 33 = .ok (.i2l, 1) := by decide +kernel
theorem dX4_sendNext_34 : decode cX4_sendNext 34 = .ok (.ldiv, 1) := by decide +kernel
theorem dX4_sendNext_35 : decode cX4_sendNext 35 = .ok (.lstore_n 3, 1) := by decide +kernel
theorem dX4_sendNext_36 : decode cX4_sendNext 36 = .ok (.aload_n 0, 1) := by decide +kernel
theorem dX4_sendNext_37 : decode cX4_sendNext 37 = .ok (.getfield 9, 3) := by decide +kernel
theorem dX4_sendNext_40 : decode cX4_sendNext 40 = .ok (.iload_n 2, 1) := by decide +kernel
theorem dX4_sendNext_41 : decode cX4_sendNext 41 = .ok (.iconst 1, 1) := by decide +kernel
theorem dX4_sendNext_42 : decode cX4_sendNext 42 = .ok (.iadd, 1) := by decide +kernel
theorem dX4_sendNext_43 : decode cX4_sendNext 43 = .ok (.dup2, 1) := by decide +kernel
theorem dX4_sendNext_44 : decode cX4_sendNext 44 = .ok (.laload, 1) := by decide +kernel
theorem dX4_sendNext_45 : decode cX4_sendNext 45 = .ok (.aload_n 0, 1) := by decide +kernel
theorem dX4_sendNext_46 : decode cX4_sendNext 46 = .ok (.getfield 9, 3) := by decide +kernel
theorem dX4_sendNext_49 : decode cX4_sendNext 49 = .ok (.iload_n 2, 1) := by decide +kernel
theorem dX4_sendNext_50 : decode cX4_sendNext 50 = .ok (.laload, 1) := by decide +kernel
theorem dX4_sendNext_51 : decode cX4_sendNext 51 = .ok (.lload_n 3, 1) := by decide +kernel
theorem dX4_sendNext_52 : decode cX4_sendNext 52 = .ok (.lsub, 1) := by decide +kernel
theorem dX4_sendNext_53 : decode cX4_sendNext 53 = .ok (.ladd, 1) := by decide +kernel
theorem dX4_sendNext_54 : decode cX4_sendNext 54 = .ok (.lastore, 1) := by decide +kernel
theorem dX4_sendNext_55 : decode cX4_sendNext 55 = .ok (.aload_n 0, 1) := by decide +kernel
theorem dX4_sendNext_56 : decode cX4_sendNext 56 = .ok (.getfield 9, 3) := by decide +kernel
theorem dX4_sendNext_59 : decode cX4_sendNext 59 = .ok (.iload_n 2, 1) := by decide +kernel
theorem dX4_sendNext_60 : decode cX4_sendNext 60 = .ok (.lload_n 3, 1) := by decide +kernel
theorem dX4_sendNext_61 : decode cX4_sendNext 61 = .ok (.lastore, 1) := by decide +kernel
theorem dX4_sendNext_62 : decode cX4_sendNext 62 = .ok (.iinc 2 (-1), 3) := by decide +kernel
theorem dX4_sendNext_65 : decode cX4_sendNext 65 = .ok (.goto (-46), 3) := by decide +kernel
theorem dX4_sendNext_68 : decode cX4_sendNext 68 = .ok (.return_, 1) := by decide +kernel
