set_option maxRecDepth 20000 in
theorem ggX0_beginAnew_X0_forgetAllSeen : GoodIn wsX0_beginAnew wsX0_forgetAllSeen := goodIn_r _ [13, 14, 15, 16, 17, 18, 19, 20, 21, 22, 23, 24, 25] (by decide +kernel) (by decide +kernel)
set_option maxRecDepth 20000 in
theorem gX0_beginAnew_X0_forgetAllSeen : GoodIn wsX0_beginAnew (wsV RX0 44 RX0 yX0_forgetAllSeen wsX0_forgetAllSeen) := goodIn_app (goodIn_of _ (by decide +kernel)) ggX0_beginAnew_X0_forgetAllSeen
theorem dX0_beginAnew_0 : decode cX0_beginAnew 0 = .ok (.aload_n 0, 1) := by decide +kernel
theorem dX0_beginAnew_1 : decode cX0_beginAnew 1 = .ok (.invokevirtual 44, 3) := by decide +kernel
theorem dX0_beginAnew_4 : decode cX0_beginAnew 4 = .ok (.iconst 0, 1) := by decide +kernel
theorem dX0_beginAnew_5 : decode cX0_beginAnew 5 = .ok (.istore_n 2, 1) := by decide +kernel
theorem dX0_beginAnew_6 : decode cX0_beginAnew 6 = .ok (.iload_n 2, 1) := by decide +kernel
theorem dX0_beginAnew_7 : decode cX0_beginAnew 7 = .ok (.bipush 12, 2) := by decide +kernel
theorem dX0_beginAnew_9 : decode cX0_beginAnew 9 = .ok (.if_icmp .ge 23, 3) := by decide +kernel
theorem dX0_beginAnew_12 : decode cX0_beginAnew 12 = .ok (.aload_n 0, 1) := by decide +kernel
theorem dX0_beginAnew_13 : decode cX0_beginAnew 13 = .ok (.getfield 19, 3) := by decide +kernel
theorem dX0_beginAnew_16 : decode cX0_beginAnew 16 = .ok (.iload_n 2, 1) := by decide +kernel
theorem dX0_beginAnew_17 : decode cX0_beginAnew 17 = .ok (.iconst 0, 1) := by decide +kernel
theorem dX0_beginAnew_18 : decode cX0_beginAnew 18 = .ok (.iastore, 1) := by decide +kernel
theorem dX0_beginAnew_19 : decode cX0_beginAnew 19 = .ok (.aload_n 0, 1) := by decide +kernel
theorem dX0_beginAnew_20 : decode cX0_beginAnew 20 = .ok (.getfield 22, 3) := by decide +kernel
theorem dX0_beginAnew_23 : decode cX0_beginAnew 23 = .ok (.iload_n 2, 1) := by decide +kernel
theorem dX0_beginAnew_24 : decode cX0_beginAnew 24 = .ok (.iconst 0, 1) := by decide +kernel
theorem dX0_beginAnew_25 : decode cX0_beginAnew 25 = .ok (.iastore, 1) := by decide +kernel
theorem dX0_beginAnew_26 : decode cX0_beginAnew 26 = .ok (.iinc 2 1, 3) := by decide +kernel
theorem dX0_beginAnew_29 : decode cX0_beginAnew 29 = .ok (.goto (-23), 3) := by decide +kernel
theorem dX0_beginAnew_32 : decode cX0_beginAnew 32 = .ok (.aload_n 0, 1) := by decide +kernel
theorem dX0_beginAnew_33 : decode cX0_beginAnew 33 = .ok (.iload_n 1, 1) := by decide +kernel
theorem dX0_beginAnew_34 : decode cX0_beginAnew 34 = .ok (.putfield 25, 3) := by decide +kernel
theorem dX0_beginAnew_37 : decode cX0_beginAnew 37 = .ok (.aload_n 0, 1) := by decide +kernel
theorem dX0_beginAnew_38 : decode cX0_beginAnew 38 = .ok (.iconst 0, 1) := by decide +kernel
theorem dX0_beginAnew_39 : decode cX0_beginAnew 39 = .ok (.putfield 29, 3) := by decide +kernel
theorem dX0_beginAnew_42 : decode cX0_beginAnew 42 = .ok (.aload_n 0, 1) := by decide +kernel
theorem dX0_beginAnew_43 : decode cX0_beginAnew 43 = .ok (.iconst 0, 1) := by decide +kernel
theorem dX0_beginAnew_44 : decode cX0_beginAnew 44 = .ok (.putfield 32, 3) := by decide +kernel
theorem dX0_beginAnew_47 : decode cX0_beginAnew 47 = .ok (.aload_n 0, 1) := by decide +kernel
theorem dX0_beginAnew_48 : decode cX0_beginAnew 48 = .ok (.iconst 0, 1) := by decide +kernel
theorem dX0_beginAnew_49 : decode cX0_beginAnew 49 = .ok (.putfield 35, 3) := by decide +kernel
theorem dX0_beginAnew_52 : decode cX0_beginAnew 52 = .ok (.aload_n 0, 1) := by decide +kernel
theorem dX0_beginAnew_53 : decode cX0_beginAnew 53 = .ok (.iconst 0, 1) := by decide +kernel
theorem dX0_beginAnew_54 : decode cX0_beginAnew 54 = .ok (.putfield 38, 3) := by decide +kernel
theorem dX0_beginAnew_57 : decode cX0_beginAnew 57 = .ok (.aload_n 0, 1) := by decide +kernel
theorem dX0_beginAnew_58 : decode cX0_beginAnew 58 = .ok (.iconst 0, 1) := by decide +kernel
theorem dX0_beginAnew_59 : decode cX0_beginAnew 59 = .ok (.putfield 41, 3) := by decide +kernel
theorem dX0_beginAnew_62 : decode cX0_beginAnew 62 = .ok (.return_, 1) := by decide +kernel
theorem dX0_copyFrom_0 : decode cX0_copyFrom 0 = .ok (.aload_n 1, 1) := by decide +kernel
theorem dX0_copyFrom_1 : decode cX0_copyFrom 1 = .ok (.getfield 9, 3) := by decide +kernel
theorem dX0_copyFrom_4 : decode cX0_copyFrom 4 = .ok (.iconst 0, 1) := by decide +kernel
theorem dX0_copyFrom_5 : decode cX0_copyFrom 5 = .ok (.aload_n 0, 1) := by decide +kernel
theorem dX0_copyFrom_6 : decode cX0_copyFrom 6 = .ok (.getfield 9, 3) := by decide +kernel
theorem dX0_copyFrom_9 : decode cX0_copyFrom 9 = .ok (.iconst 0, 1) := by decide +kernel
theorem dX0_copyFrom_10 : decode cX0_copyFrom 10 = .ok (.bipush 96, 2) := by decide +kernel
theorem dX0_copyFrom_12 : decode cX0_copyFrom 12 = .ok (.invokestatic 47, 3) := by decide +kernel
theorem dX0_copyFrom_15 : decode cX0_copyFrom 15 = .ok (.aload_n 1, 1) := by decide +kernel
theorem dX0_copyFrom_16 : decode cX0_copyFrom 16 = .ok (.getfield 15, 3) := by decide +kernel
theorem dX0_copyFrom_19 : decode cX0_copyFrom 19 = .ok (.iconst 0, 1) := by decide +kernel
theorem dX0_copyFrom_20 : decode cX0_copyFrom 20 = .ok (.aload_n 0, 1) := by decide +kernel
theorem dX0_copyFrom_21 : decode cX0_copyFrom 21 = .ok (.getfield 15, 3) := by decide +kernel
theorem dX0_copyFrom_24 : decode cX0_copyFrom 24 = .ok (.iconst 0, 1) := by decide +kernel
theorem dX0_copyFrom_25 : decode cX0_copyFrom 25 = .ok (.bipush 30, 2) := by decide +kernel
theorem dX0_copyFrom_27 : decode cX0_copyFrom 27 = .ok (.invokestatic 47, 3) := by decide +kernel
theorem dX0_copyFrom_30 : decode cX0_copyFrom 30 = .ok (.aload_n 1, 1) := by decide +kernel
theorem dX0_copyFrom_31 : decode cX0_copyFrom 31 = .ok (.getfield 19, 3) := by decide +kernel
theorem dX0_copyFrom_34 : decode cX0_copyFrom 34 = .ok (.iconst 0, 1) := by decide +kernel
theorem dX0_copyFrom_35 : decode cX0_copyFrom 35 = .ok (.aload_n 0, 1) := by decide +kernel
theorem dX0_copyFrom_36 : decode cX0_copyFrom 36 = .ok (.getfield 19, 3) := by decide +kernel
theorem dX0_copyFrom_39 : decode cX0_copyFrom 39 = .ok (.iconst 0, 1) := by decide +kernel
theorem dX0_copyFrom_40 : decode cX0_copyFrom 40 = .ok (.bipush 12, 2) := by decide +kernel
theorem dX0_copyFrom_42 : decode cX0_copyFrom 42 = .ok (.invokestatic 47, 3) := by decide +kernel
theorem dX0_copyFrom_45 : decode cX0_copyFrom 45 = .ok (.aload_n 1, 1) := by decide +kernel
theorem dX0_copyFrom_46 : decode cX0_copyFrom 46 = .ok (.getfield 22, 3) := by decide +kernel
theorem dX0_copyFrom_49 : decode cX0_copyFrom 49 = .ok (.iconst 0, 1) := by decide +kernel
theorem dX0_copyFrom_50 : decode cX0_copyFrom 50 = .ok (.aload_n 0, 1) := by decide +kernel
theorem dX0_copyFrom_51 : decode cX0_copyFrom 51 = .ok (.getfield 22, 3) := by decide +kernel
theorem dX0_copyFrom_54 : decode cX0_copyFrom 54 = .ok (.iconst 0, 1) := by decide +kernel
theorem dX0_copyFrom_55 : decode cX0_copyFrom 55 = .ok (.bipush 12, 2) := by decide +kernel
theorem dX0_copyFrom_57 : decode cX0_copyFrom 57 = .ok (.invokestatic 47, 3) := by decide +kernel
theorem dX0_copyFrom_60 : decode cX0_copyFrom 60 = .ok (.aload_n 0, 1) := by decide +kernel
theorem dX0_copyFrom_61 : decode cX0_copyFrom 61 = .ok (.aload_n 1, 1) := by decide +kernel
theorem dX0_copyFrom_62 : decode cX0_copyFrom 62 = .ok (.getfield 25, 3) := by decide +kernel
theorem dX0_copyFrom_65 : decode cX0_copyFrom 65 = .ok (.putfield 25, 3) := by decide +kernel
theorem dX0_copyFrom_68 : decode cX0_copyFrom 68 = .ok (.aload_n 0, 1) := by decide +kernel
theorem dX0_copyFrom_69 : decode cX0_copyFrom 69 = .ok (.aload_n 1, 1) := by decide +kernel
theorem dX0_copyFrom_70 : decode cX0_copyFrom 70 = .ok (.getfield 29, 3) := by decide +kernel
theorem dX0_copyFrom_73 : decode cX0_copyFrom 73 = .ok (.putfield 29, 3) := by decide +kernel
theorem dX0_copyFrom_76 : decode cX0_copyFrom 76 = .ok (.aload_n 0, 1) := by decide +kernel
theorem dX0_copyFrom_77 : decode cX0_copyFrom 77 = .ok (.aload_n 1, 1) := by decide +kernel
theorem dX0_copyFrom_78 : decode cX0_copyFrom 78 = .ok (.getfield 32, 3) := by decide +kernel
theorem dX0_copyFrom_81 : decode cX0_copyFrom 81 = .ok (.putfield 32, 3) := by decide +kernel
theorem dX0_copyFrom_84 : decode cX0_copyFrom 84 = .ok (.aload_n 0, 1) := by decide +kernel
theorem dX0_copyFrom_85 : decode cX0_copyFrom 85 = .ok (.aload_n 1, 1) := by decide +kernel
theorem dX0_copyFrom_86 : decode cX0_copyFrom 86 = .ok (.getfield 35, 3) := by decide +kernel
theorem dX0_copyFrom_89 : decode cX0_copyFrom 89 = .ok (.putfield 35, 3) := by decide +kernel
theorem dX0_copyFrom_92 : decode cX0_copyFrom 92 = .ok (.aload_n 0, 1) := by decide +kernel
theorem dX0_copyFrom_93 : decode cX0_copyFrom 93 = .ok (.aload_n 1, 1) := by decide +kernel
theorem dX0_copyFrom_94 : decode cX0_copyFrom 94 = .ok (.getfield 38, 3) := by decide +kernel
theorem dX0_copyFrom_97 : decode cX0_copyFrom 97 = .ok (.putfield 38, 3) := by decide +kernel
theorem dX0_copyFrom_100 : decode cX0_copyFrom 100 = .ok (.aload_n 0, 1) := by decide +kernel
theorem dX0_copyFrom_101 : decode cX0_copyFrom 101 = .ok (.aload_n 1, 1) := by decide +kernel
theorem dX0_copyFrom_102 : decode cX0_copyFrom 102 = .ok (.getfield 41, 3) := by decide +kernel
theorem dX0_copyFrom_105 : decode cX0_copyFrom 105 = .ok (.putfield 41, 3) := by decide +kernel
theorem dX0_copyFrom_108 : decode cX0_copyFrom 108 = .ok (.return_, 1) := by decide +kernel
theorem dX0_forgetAllSeen_0 : decode cX0_forgetAllSeen 0 = .ok (.iconst 0, 1) := by decide +kernel
theorem dX0_forgetAllSeen_1 : decode cX0_forgetAllSeen 1 = .ok (.istore_n 1, 1) := by decide +kernel
theorem dX0_forgetAllSeen_2 : decode cX0_forgetAllSeen 2 = .ok (.iload_n 1, 1) := by decide +kernel
theorem dX0_forgetAllSeen_3 : decode cX0_forgetAllSeen 3 = .ok (.bipush 96, 2) := by decide +kernel
theorem dX0_forgetAllSeen_5 : decode cX0_forgetAllSeen 5 = .ok (.if_icmp .ge 16, 3) := by decide +kernel
theorem dX0_forgetAllSeen_8 : decode cX0_forgetAllSeen 8 = .ok (.aload_n 0, 1) := by decide +kernel
theorem dX0_forgetAllSeen_9 : decode cX0_forgetAllSeen 9 = .ok (.getfield 9, 3) := by decide +kernel
theorem dX0_forgetAllSeen_12 : decode cX0_forgetAllSeen 12 = .ok (.iload_n 1, 1) := by decide +kernel
theorem dX0_forgetAllSeen_13 : decode cX0_forgetAllSeen 13 = .ok (.lconst 0, 1) := by decide +kernel
theorem dX0_forgetAllSeen_14 : decode cX0_forgetAllSeen 14 = .ok (.lastore, 1) := by decide +kernel
theorem dX0_forgetAllSeen_15 : decode cX0_forgetAllSeen 15 = .ok (.iinc 1 1, 3) := by decide +kernel
theorem dX0_forgetAllSeen_18 : decode cX0_forgetAllSeen 18 = .ok (.goto (-16), 3) := by decide +kernel
theorem dX0_forgetAllSeen_21 : decode cX0_forgetAllSeen 21 = .ok (.iconst 0, 1) := by decide +kernel
theorem dX0_forgetAllSeen_22 : decode cX0_forgetAllSeen 22 = .ok (.istore_n 1, 1) := by decide +kernel
theorem dX0_forgetAllSeen_23 : decode cX0_forgetAllSeen 23 = .ok (.iload_n 1, 1) := by decide +kernel
theorem dX0_forgetAllSeen_24 : decode cX0_forgetAllSeen 24 = .ok (.bipush 30, 2) := by decide +kernel
theorem dX0_forgetAllSeen_26 : decode cX0_forgetAllSeen 26 = .ok (.if_icmp .ge 16, 3) := by decide +kernel
theorem dX0_forgetAllSeen_29 : decode cX0_forgetAllSeen 29 = .ok (.aload_n 0, 1) := by decide +kernel
theorem dX0_forgetAllSeen_30 : decode cX0_forgetAllSeen 30 = .ok (.getfield 15, 3) := by decide +kernel
theorem dX0_forgetAllSeen_33 : decode cX0_forgetAllSeen 33 = .ok (.iload_n 1, 1) := by decide +kernel
theorem dX0_forgetAllSeen_34 : decode cX0_forgetAllSeen 34 = .ok (.iconst 0, 1) := by decide +kernel
theorem dX0_forgetAllSeen_35 : decode cX0_forgetAllSeen 35 = .ok (.iastore, 1) := by decide +kernel
theorem dX0_forgetAllSeen_36 : decode cX0_forgetAllSeen 36 = .ok (.iinc 1 1, 3) := by decide +kernel
theorem dX0_forgetAllSeen_39 : decode cX0_forgetAllSeen 39 = .ok (.goto (-16), 3) := by decide +kernel
theorem dX0_forgetAllSeen_42 : decode cX0_forgetAllSeen 42 = .ok (.return_, 1) := by decide +kernel
theorem dX0_sentInAll_0 : decode cX0_sentInAll 0 = .ok (.iconst 0, 1) := by decide +kernel
theorem dX0_sentInAll_1 : decode cX0_sentInAll 1 = .ok (.istore_n 1, 1) := by decide +kernel
theorem dX0_sentInAll_2 : decode cX0_sentInAll 2 = .ok (.iconst 0, 1) := by decide +kernel
theorem dX0_sentInAll_3 : decode cX0_sentInAll 3 = .ok (.istore_n 2, 1) := by decide +kernel
theorem dX0_sentInAll_4 : decode cX0_sentInAll 4 = .ok (.iload_n 2, 1) := by decide +kernel
theorem dX0_sentInAll_5 : decode cX0_sentInAll 5 = .ok (.bipush 30, 2) := by decide +kernel
theorem dX0_sentInAll_7 : decode cX0_sentInAll 7 = .ok (.if_icmp .ge 18, 3) := by decide +kernel
theorem dX0_sentInAll_10 : decode cX0_sentInAll 10 = .ok (.iload_n 1, 1) := by decide +kernel
theorem dX0_sentInAll_11 : decode cX0_sentInAll 11 = .ok (.aload_n 0, 1) := by decide +kernel
theorem dX0_sentInAll_12 : decode cX0_sentInAll 12 = .ok (.getfield 15, 3) := by decide +kernel
theorem dX0_sentInAll_15 : decode cX0_sentInAll 15 = .ok (.iload_n 2, 1) := by decide +kernel
theorem dX0_sentInAll_16 : decode cX0_sentInAll 16 = .ok (.iaload, 1) := by decide +kernel
theorem dX0_sentInAll_17 : decode cX0_sentInAll 17 = .ok (.iadd, 1) := by decide +kernel
theorem dX0_sentInAll_18 : decode cX0_sentInAll 18 = .ok (.istore_n 1, 1) := by decide +kernel
theorem dX0_sentInAll_19 : decode cX0_sentInAll 19 = .ok (.iinc 2 1, 3) := by decide +kernel
theorem dX0_sentInAll_22 : decode cX0_sentInAll 22 = .ok (.goto (-18), 3) := by decide +kernel
theorem dX0_sentInAll_25 : decode cX0_sentInAll 25 = .ok (.iload_n 1, 1) := by decide +kernel
theorem dX0_sentInAll_26 : decode cX0_sentInAll 26 = .ok (.ireturn, 1) := by decide +kernel
theorem dX0_countersInAll_0 : decode cX0_countersInAll 0 = .ok (.iconst 0, 1) := by decide +kernel
theorem dX0_countersInAll_1 : decode cX0_countersInAll 1 = .ok (.istore_n 1, 1) := by decide +kernel
theorem dX0_countersInAll_2 : decode cX0_countersInAll 2 = .ok (.iconst 0, 1) := by decide +kernel
theorem dX0_countersInAll_3 : decode cX0_countersInAll 3 = .ok (.istore_n 2, 1) := by decide +kernel
theorem dX0_countersInAll_4 : decode cX0_countersInAll 4 = .ok (.iload_n 2, 1) := by decide +kernel
theorem dX0_countersInAll_5 : decode cX0_countersInAll 5 = .ok (.bipush 12, 2) := by decide +kernel
theorem dX0_countersInAll_7 : decode cX0_countersInAll 7 = .ok (.if_icmp .ge 18, 3) := by decide +kernel
theorem dX0_countersInAll_10 : decode cX0_countersInAll 10 = .ok (.iload_n 1, 1) := by decide +kernel
theorem dX0_countersInAll_11 : decode cX0_countersInAll 11 = .ok (.aload_n 0, 1) := by decide +kernel
theorem dX0_countersInAll_12 : decode cX0_countersInAll 12 = .ok (.getfield 22, 3) := by decide +kernel
theorem dX0_countersInAll_15 : decode cX0_countersInAll 15 = .ok (.iload_n 2, 1) := by decide +kernel
theorem dX0_countersInAll_16 : decode cX0_countersInAll 16 = .ok (.iaload, 1) := by decide +kernel
theorem dX0_countersInAll_17 : decode cX0_countersInAll 17 = .ok (.iadd, 1) := by decide +kernel
theorem dX0_countersInAll_18 : decode cX0_countersInAll 18 = .ok (.istore_n 1, 1) := by decide +kernel
theorem dX0_countersInAll_19 : decode cX0_countersInAll 19 = .ok (.iinc 2 1, 3) := by decide +kernel
theorem dX0_countersInAll_22 : decode cX0_countersInAll 22 = .ok (.goto (-18), 3) := by decide +kernel
theorem dX0_countersInAll_25 : decode cX0_countersInAll 25 = .ok (.iload_n 1, 1) := by decide +kernel
theorem dX0_countersInAll_26 : decode cX0_countersInAll 26 = .ok (.ireturn, 1) := by decide +kernel
set_option maxRecDepth 20000 in
theorem ggX1_keep_X1_rowOf : GoodIn wsX1_keep wsX1_rowOf := goodIn_r _ [7, 2, 8, 9, 10, 11, 12, 13, 14, 15, 16, 17, 18, 19, 20, 21, 22, 23, 24, 25, 26, 27, 28, 37, 38, 39, 40, 41, 42, 43, 44, 45, 46, 47, 48, 49] (by decide +kernel) (by decide +kernel)
set_option maxRecDepth 20000 in
theorem gX1_keep_X1_rowOf : GoodIn wsX1_keep (wsV RX1 24 RX1 yX1_rowOf wsX1_rowOf) := goodIn_app (goodIn_of _ (by decide +kernel)) ggX1_keep_X1_rowOf
set_option maxRecDepth 20000 in
theorem ggX1_keep_X0_copyFrom : GoodIn wsX1_keep wsX0_copyFrom := goodIn_r _ [32, 18, 33, 34, 35, 36, 20, 21, 22, 23, 24, 25, 26, 27, 28, 40, 41, 42, 43, 44, 45, 46, 47, 48, 49] (by decide +kernel) (by decide +kernel)
set_option maxRecDepth 20000 in
theorem gX1_keep_X0_copyFrom : GoodIn wsX1_keep (wsV RX1 28 RX0 yX0_copyFrom wsX0_copyFrom) := goodIn_app (goodIn_of _ (by decide +kernel)) ggX1_keep_X0_copyFrom
theorem dX1_keep_0 : decode cX1_keep 0 = .ok (.aload_n 0, 1) := by decide +kernel
theorem dX1_keep_1 : decode cX1_keep 1 = .ok (.getfield 21, 3) := by decide +kernel
theorem dX1_keep_4 : decode cX1_keep 4 = .ok (.bipush 40, 2) := by decide +kernel
theorem dX1_keep_6 : decode cX1_keep 6 = .ok (.if_icmp .lt 22, 3) := by decide +kernel
theorem dX1_keep_9 : decode cX1_keep 9 = .ok (.aload_n 0, 1) := by decide +kernel
theorem dX1_keep_10 : decode cX1_keep 10 = .ok (.aload_n 0, 1) := by decide +kernel
theorem dX1_keep_11 : decode cX1_keep 11 = .ok (.getfield 17, 3) := by decide +kernel
theorem dX1_keep_14 : decode cX1_keep 14 = .ok (.iconst 1, 1) := by decide +kernel
theorem dX1_keep_15 : decode cX1_keep 15 = .ok (.iadd, 1) := by decide +kernel
theorem dX1_keep_16 : decode cX1_keep 16 = .ok (.bipush 40, 2) := by decide +kernel
theorem dX1_keep_18 : decode cX1_keep 18 = .ok (.irem, 1) := by decide +kernel
theorem dX1_keep_19 : decode cX1_keep 19 = .ok (.putfield 17, 3) := by decide +kernel
theorem dX1_keep_22 : decode cX1_keep 22 = .ok (.aload_n 0, 1) := by decide +kernel
theorem dX1_keep_23 : decode cX1_keep 23 = .ok (.bipush 39, 2) := by decide +kernel
theorem dX1_keep_25 : decode cX1_keep 25 = .ok (.putfield 21, 3) := by decide +kernel
theorem dX1_keep_28 : decode cX1_keep 28 = .ok (.aload_n 0, 1) := by decide +kernel
theorem dX1_keep_29 : decode cX1_keep 29 = .ok (.aload_n 0, 1) := by decide +kernel
theorem dX1_keep_30 : decode cX1_keep 30 = .ok (.getfield 21, 3) := by decide +kernel
theorem dX1_keep_33 : decode cX1_keep 33 = .ok (.invokevirtual 24, 3) := by decide +kernel
theorem dX1_keep_36 : decode cX1_keep 36 = .ok (.aload_n 1, 1) := by decide +kernel
theorem dX1_keep_37 : decode cX1_keep 37 = .ok (.invokevirtual 28, 3) := by decide +kernel
theorem dX1_keep_40 : decode cX1_keep 40 = .ok (.aload_n 0, 1) := by decide +kernel
theorem dX1_keep_41 : decode cX1_keep 41 = .ok (.dup, 1) := by decide +kernel
theorem dX1_keep_42 : decode cX1_keep 42 = .ok (.getfield 21, 3) := by decide +kernel
theorem dX1_keep_45 : decode cX1_keep 45 = .ok (.iconst 1, 1) := by decide +kernel
theorem dX1_keep_46 : decode cX1_keep 46 = .ok (.iadd, 1) := by decide +kernel
theorem dX1_keep_47 : decode cX1_keep 47 = .ok (.putfield 21, 3) := by decide +kernel
theorem dX1_keep_50 : decode cX1_keep 50 = .ok (.return_, 1) := by decide +kernel
set_option maxRecDepth 20000 in
theorem ggX1_copyFrom_X1_rowOf : GoodIn wsX1_copyFrom wsX1_rowOf := goodIn_r _ [6, 7, 8, 9, 10, 11, 12, 13, 14, 15, 16, 17, 18, 19, 20, 21, 22, 23, 24, 25, 26, 27, 28, 41, 42, 43, 44, 45, 46, 47, 48, 49, 50, 51, 52, 53] (by decide +kernel) (by decide +kernel)
set_option maxRecDepth 20000 in
theorem gX1_copyFrom_X1_rowOf : GoodIn wsX1_copyFrom (wsV RX1 24 RX1 yX1_rowOf wsX1_rowOf) := goodIn_app (goodIn_of _ (by decide +kernel)) ggX1_copyFrom_X1_rowOf
set_option maxRecDepth 20000 in
theorem ggX1_copyFrom_X1_keep : GoodIn wsX1_copyFrom wsX1_keep := goodIn_r _ [32, 1, 7, 2, 3, 4, 5, 6, 8, 9, 10, 11, 12, 13, 14, 15, 16, 17, 18, 19, 20, 21, 22, 23, 24, 25, 26, 27, 28, 33, 34, 35, 36, 37, 38, 39, 40, 41, 42, 43, 44, 45, 46, 47, 48, 49, 50, 51, 52, 53] (by decide +kernel) (by decide +kernel)
set_option maxRecDepth 20000 in
theorem gX1_copyFrom_X1_keep : GoodIn wsX1_copyFrom (wsV RX1 32 RX1 yX1_keep wsX1_keep) := goodIn_app (goodIn_of _ (by decide +kernel)) ggX1_copyFrom_X1_keep
theorem dX1_copyFrom_0 : decode cX1_copyFrom 0 = .ok (.aload_n 0, 1) := by decide +kernel
theorem dX1_copyFrom_1 : decode cX1_copyFrom 1 = .ok (.iconst 0, 1) := by decide +kernel
theorem dX1_copyFrom_2 : decode cX1_copyFrom 2 = .ok (.putfield 21, 3) := by decide +kernel
theorem dX1_copyFrom_5 : decode cX1_copyFrom 5 = .ok (.iconst 0, 1) := by decide +kernel
theorem dX1_copyFrom_6 : decode cX1_copyFrom 6 = .ok (.istore_n 2, 1) := by decide +kernel
theorem dX1_copyFrom_7 : decode cX1_copyFrom 7 = .ok (.iload_n 2, 1) := by decide +kernel
theorem dX1_copyFrom_8 : decode cX1_copyFrom 8 = .ok (.aload_n 1, 1) := by decide +kernel
theorem dX1_copyFrom_9 : decode cX1_copyFrom 9 = .ok (.getfield 21, 3) := by decide +kernel
theorem dX1_copyFrom_12 : decode cX1_copyFrom 12 = .ok (.if_icmp .ge 18, 3) := by decide +kernel
theorem dX1_copyFrom_15 : decode cX1_copyFrom 15 = .ok (.aload_n 0, 1) := by decide +kernel
theorem dX1_copyFrom_16 : decode cX1_copyFrom 16 = .ok (.aload_n 1, 1) := by decide +kernel
theorem dX1_copyFrom_17 : decode cX1_copyFrom 17 = .ok (.iload_n 2, 1) := by decide +kernel
theorem dX1_copyFrom_18 : decode cX1_copyFrom 18 = .ok (.invokevirtual 24, 3) := by decide +kernel
theorem dX1_copyFrom_21 : decode cX1_copyFrom 21 = .ok (.invokevirtual 32, 3) := by decide +kernel
theorem dX1_copyFrom_24 : decode cX1_copyFrom 24 = .ok (.iinc 2 1, 3) := by decide +kernel
theorem dX1_copyFrom_27 : decode cX1_copyFrom 27 = .ok (.goto (-20), 3) := by decide +kernel
theorem dX1_copyFrom_30 : decode cX1_copyFrom 30 = .ok (.return_, 1) := by decide +kernel
set_option maxRecDepth 20000 in
theorem ggX1_rowOf_X0_init : GoodIn wsX1_rowOf wsX0_init := goodIn_r _ [7, 8, 9, 10, 11, 12, 13, 14, 15, 16, 17, 18, 19, 20, 21, 22, 26, 27, 28, 29, 30, 31, 32, 33, 34, 35] (by decide +kernel) (by decide +kernel)
set_option maxRecDepth 20000 in
theorem gX1_rowOf_X0_init_n35 : GoodIn wsX1_rowOf (wsX0_init) := ggX1_rowOf_X0_init
theorem dX1_rowOf_0 : decode cX1_rowOf 0 = .ok (.aload_n 0, 1) := by decide +kernel
theorem dX1_rowOf_1 : decode cX1_rowOf 1 = .ok (.getfield 17, 3) := by decide +kernel
theorem dX1_rowOf_4 : decode cX1_rowOf 4 = .ok (.iload_n 1, 1) := by decide +kernel
theorem dX1_rowOf_5 : decode cX1_rowOf 5 = .ok (.iadd, 1) := by decide +kernel
theorem dX1_rowOf_6 : decode cX1_rowOf 6 = .ok (.bipush 40, 2) := by decide +kernel
theorem dX1_rowOf_8 : decode cX1_rowOf 8 = .ok (.irem, 1) := by decide +kernel
theorem dX1_rowOf_9 : decode cX1_rowOf 9 = .ok (.istore_n 2, 1) := by decide +kernel
theorem dX1_rowOf_10 : decode cX1_rowOf 10 = .ok (.aload_n 0, 1) := by decide +kernel
theorem dX1_rowOf_11 : decode cX1_rowOf 11 = .ok (.getfield 11, 3) := by decide +kernel
theorem dX1_rowOf_14 : decode cX1_rowOf 14 = .ok (.iload_n 2, 1) := by decide +kernel
theorem dX1_rowOf_15 : decode cX1_rowOf 15 = .ok (.aaload, 1) := by decide +kernel
theorem dX1_rowOf_16 : decode cX1_rowOf 16 = .ok (.astore_n 3, 1) := by decide +kernel
theorem dX1_rowOf_17 : decode cX1_rowOf 17 = .ok (.aload_n 3, 1) := by decide +kernel
theorem dX1_rowOf_18 : decode cX1_rowOf 18 = .ok (.ifnonnull 18, 3) := by decide +kernel
theorem dX1_rowOf_21 : decode cX1_rowOf 21 = .ok (.new 9, 3) := by decide +kernel
theorem dX1_rowOf_24 : decode cX1_rowOf 24 = .ok (.dup, 1) := by decide +kernel
theorem dX1_rowOf_25 : decode cX1_rowOf 25 = .ok (.invokespecial 35, 3) := by decide +kernel
theorem dX1_rowOf_28 : decode cX1_rowOf 28 = .ok (.astore_n 3, 1) := by decide +kernel
theorem dX1_rowOf_29 : decode cX1_rowOf 29 = .ok (.aload_n 0, 1) := by decide +kernel
theorem dX1_rowOf_30 : decode cX1_rowOf 30 = .ok (.getfield 11, 3) := by decide +kernel
theorem dX1_rowOf_33 : decode cX1_rowOf 33 = .ok (.iload_n 2, 1) := by decide +kernel
theorem dX1_rowOf_34 : decode cX1_rowOf 34 = .ok (.aload_n 3, 1) := by decide +kernel
theorem dX1_rowOf_35 : decode cX1_rowOf 35 = .ok (.aastore, 1) := by decide +kernel
theorem dX1_rowOf_36 : decode cX1_rowOf 36 = .ok (.aload_n 3, 1) := by decide +kernel
theorem dX1_rowOf_37 : decode cX1_rowOf 37 = .ok (.areturn, 1) := by decide +kernel
theorem dX3_copyFrom_0 : decode cX3_copyFrom 0 = .ok (.aload_n 1, 1) := by decide +kernel
theorem dX3_copyFrom_1 : decode cX3_copyFrom 1 = .ok (.getfield 9, 3) := by decide +kernel
theorem dX3_copyFrom_4 : decode cX3_copyFrom 4 = .ok (.iconst 0, 1) := by decide +kernel
theorem dX3_copyFrom_5 : decode cX3_copyFrom 5 = .ok (.aload_n 0, 1) := by decide +kernel
theorem dX3_copyFrom_6 : decode cX3_copyFrom 6 = .ok (.getfield 9, 3) := by decide +kernel
theorem dX3_copyFrom_9 : decode cX3_copyFrom 9 = .ok (.iconst 0, 1) := by decide +kernel
theorem dX3_copyFrom_10 : decode cX3_copyFrom 10 = .ok (.bipush 8, 2) := by decide +kernel
theorem dX3_copyFrom_12 : decode cX3_copyFrom 12 = .ok (.invokestatic 42, 3) := by decide +kernel
theorem dX3_copyFrom_15 : decode cX3_copyFrom 15 = .ok (.aload_n 1, 1) := by decide +kernel
theorem dX3_copyFrom_16 : decode cX3_copyFrom 16 = .ok (.getfield 15, 3) := by decide +kernel
theorem dX3_copyFrom_19 : decode cX3_copyFrom 19 = .ok (.iconst 0, 1) := by decide +kernel
theorem dX3_copyFrom_20 : decode cX3_copyFrom 20 = .ok (.aload_n 0, 1) := by decide +kernel
theorem dX3_copyFrom_21 : decode cX3_copyFrom 21 = .ok (.getfield 15, 3) := by decide +kernel
theorem dX3_copyFrom_24 : decode cX3_copyFrom 24 = .ok (.iconst 0, 1) := by decide +kernel
theorem dX3_copyFrom_25 : decode cX3_copyFrom 25 = .ok (.bipush 8, 2) := by decide +kernel
theorem dX3_copyFrom_27 : decode cX3_copyFrom 27 = .ok (.invokestatic 42, 3) := by decide +kernel
theorem dX3_copyFrom_30 : decode cX3_copyFrom 30 = .ok (.aload_n 1, 1) := by decide +kernel
theorem dX3_copyFrom_31 : decode cX3_copyFrom 31 = .ok (.getfield 18, 3) := by decide +kernel
theorem dX3_copyFrom_34 : decode cX3_copyFrom 34 = .ok (.iconst 0, 1) := by decide +kernel
theorem dX3_copyFrom_35 : decode cX3_copyFrom 35 = .ok (.aload_n 0, 1) := by decide +kernel
theorem dX3_copyFrom_36 : decode cX3_copyFrom 36 = .ok (.getfield 18, 3) := by decide +kernel
theorem dX3_copyFrom_39 : decode cX3_copyFrom 39 = .ok (.iconst 0, 1) := by decide +kernel
theorem dX3_copyFrom_40 : decode cX3_copyFrom 40 = .ok (.bipush 8, 2) := by decide +kernel
theorem dX3_copyFrom_42 : decode cX3_copyFrom 42 = .ok (.invokestatic 42, 3) := by decide +kernel
theorem dX3_copyFrom_45 : decode cX3_copyFrom 45 = .ok (.aload_n 1, 1) := by decide +kernel
theorem dX3_copyFrom_46 : decode cX3_copyFrom 46 = .ok (.getfield 21, 3) := by decide +kernel
theorem dX3_copyFrom_49 : decode cX3_copyFrom 49 = .ok (.iconst 0, 1) := by decide +kernel
theorem dX3_copyFrom_50 : decode cX3_copyFrom 50 = .ok (.aload_n 0, 1) := by decide +kernel
theorem dX3_copyFrom_51 : decode cX3_copyFrom 51 = .ok (.getfield 21, 3) := by decide +kernel
theorem dX3_copyFrom_54 : decode cX3_copyFrom 54 = .ok (.iconst 0, 1) := by decide +kernel
theorem dX3_copyFrom_55 : decode cX3_copyFrom 55 = .ok (.bipush 8, 2) := by decide +kernel
theorem dX3_copyFrom_57 : decode cX3_copyFrom 57 = .ok (.invokestatic 42, 3) := by decide +kernel
theorem dX3_copyFrom_60 : decode cX3_copyFrom 60 = .ok (.aload_n 0, 1) := by decide +kernel
theorem dX3_copyFrom_61 : decode cX3_copyFrom 61 = .ok (.aload_n 1, 1) := by decide +kernel
theorem dX3_copyFrom_62 : decode cX3_copyFrom 62 = .ok (.getfield 24, 3) := by decide +kernel
theorem dX3_copyFrom_65 : decode cX3_copyFrom 65 = .ok (.putfield 24, 3) := by decide +kernel
theorem dX3_copyFrom_68 : decode cX3_copyFrom 68 = .ok (.return_, 1) := by decide +kernel
theorem dX8_hasRoomFor_0 : decode cX8_hasRoomFor 0 = .ok (.aload_n 0, 1) := by decide +kernel
theorem dX8_hasRoomFor_1 : decode cX8_hasRoomFor 1 = .ok (.getfield 15, 3) := by decide +kernel
theorem dX8_hasRoomFor_4 : decode cX8_hasRoomFor 4 = .ok (.iload_n 1, 1) := by decide +kernel
theorem dX8_hasRoomFor_5 : decode cX8_hasRoomFor 5 = .ok (.iadd, 1) := by decide +kernel
theorem dX8_hasRoomFor_6 : decode cX8_hasRoomFor 6 = .ok (.sipush 700, 3) := by decide +kernel
theorem dX8_hasRoomFor_9 : decode cX8_hasRoomFor 9 = .ok (.if_icmp .gt 7, 3) := by decide +kernel
theorem dX8_hasRoomFor_12 : decode cX8_hasRoomFor 12 = .ok (.iconst 1, 1) := by decide +kernel
theorem dX8_hasRoomFor_13 : decode cX8_hasRoomFor 13 = .ok (.goto 4, 3) := by decide +kernel
theorem dX8_hasRoomFor_16 : decode cX8_hasRoomFor 16 = .ok (.iconst 0, 1) := by decide +kernel
theorem dX8_hasRoomFor_17 : decode cX8_hasRoomFor 17 = .ok (.ireturn, 1) := by decide +kernel
set_option maxRecDepth 20000 in
theorem ggX8_append_X8_hasRoomFor : GoodIn wsX8_append wsX8_hasRoomFor := goodIn_r _ [7, 2, 8, 9] (by decide +kernel) (by decide +kernel)
set_option maxRecDepth 20000 in
theorem gX8_append_X8_hasRoomFor : GoodIn wsX8_append (wsV RX8 19 RX8 yX8_hasRoomFor wsX8_hasRoomFor) := goodIn_app (goodIn_of _ (by decide +kernel)) ggX8_append_X8_hasRoomFor
theorem dX8_append_0 : decode cX8_append 0 = .ok (.aload_n 0, 1) := by decide +kernel
theorem dX8_append_1 : decode cX8_append 1 = .ok (.iconst 4, 1) := by decide +kernel
theorem dX8_append_2 : decode cX8_append 2 = .ok (.invokevirtual 19, 3) := by decide +kernel
theorem dX8_append_5 : decode cX8_append 5 = .ok (.ifCond .ne 4, 3) := by decide +kernel
theorem dX8_append_8 : decode cX8_append 8 = .ok (.return_, 1) := by decide +kernel
theorem dX8_append_9 : decode cX8_append 9 = .ok (.bipush 24, 2) := by decide +kernel
theorem dX8_append_11 : decode cX8_append 11 = .ok (.istore_n 2, 1) := by decide +kernel
theorem dX8_append_12 : decode cX8_append 12 = .ok (.iload_n 2, 1) := by decide +kernel
theorem dX8_append_13 : decode cX8_append 13 = .ok (.ifCond .lt 32, 3) := by decide +kernel
theorem dX8_append_16 : decode cX8_append 16 = .ok (.aload_n 0, 1) := by decide +kernel
theorem dX8_append_17 : decode cX8_append 17 = .ok (.getfield 9, 3) := by decide +kernel
theorem dX8_append_20 : decode cX8_append 20 = .ok (.aload_n 0, 1) := by decide +kernel
theorem dX8_append_21 : decode cX8_append 21 = .ok (.getfield 15, 3) := by decide +kernel
theorem dX8_append_24 : decode cX8_append 24 = .ok (.iload_n 1, 1) := by decide +kernel
theorem dX8_append_25 : decode cX8_append 25 = .ok (.iload_n 2, 1) := by decide +kernel
theorem dX8_append_26 : decode cX8_append 26 = .ok (.ishr, 1) := by decide +kernel
theorem dX8_append_27 : decode cX8_append 27 = .ok (.i2b, 1) := by decide +kernel
theorem dX8_append_28 : decode cX8_append 28 = .ok (.bastore, 1) := by decide +kernel
theorem dX8_append_29 : decode cX8_append 29 = .ok (.aload_n 0, 1) := by decide +kernel
theorem dX8_append_30 : decode cX8_append 30 = .ok (.dup, 1) := by decide +kernel
theorem dX8_append_31 : decode cX8_append 31 = .ok (.getfield 15, 3) := by decide +kernel
theorem dX8_append_34 : decode cX8_append 34 = .ok (.iconst 1, 1) := by decide +kernel
theorem dX8_append_35 : decode cX8_append 35 = .ok (.iadd, 1) := by decide +kernel
theorem dX8_append_36 : decode cX8_append 36 = .ok (.putfield 15, 3) := by decide +kernel
theorem dX8_append_39 : decode cX8_append 39 = .ok (.iinc 2 (-8), 3) := by decide +kernel
theorem dX8_append_42 : decode cX8_append 42 = .ok (.goto (-30), 3) := by decide +kernel
theorem dX8_append_45 : decode cX8_append 45 = .ok (.return_, 1) := by decide +kernel
set_option maxRecDepth 20000 in
theorem ggX10_feed_X8_hasRoomFor : GoodIn wsX10_feed wsX8_hasRoomFor := goodIn_r _ [7, 8, 34, 35] (by decide +kernel) (by decide +kernel)
set_option maxRecDepth 20000 in
theorem gX10_feed_X8_hasRoomFor : GoodIn wsX10_feed (wsV RX10 117 RX8 yX8_hasRoomFor wsX8_hasRoomFor) := goodIn_app (goodIn_of _ (by decide +kernel)) ggX10_feed_X8_hasRoomFor
set_option maxRecDepth 20000 in
theorem ggX10_feed_X8_append : GoodIn wsX10_feed wsX8_append := goodIn_r _ [12, 13, 8, 14, 4, 5, 6, 7, 34, 35] (by decide +kernel) (by decide +kernel)
set_option maxRecDepth 20000 in
theorem gX10_feed_X8_append : GoodIn wsX10_feed (wsV RX10 121 RX8 yX8_append wsX8_append) := goodIn_app (goodIn_of _ (by decide +kernel)) ggX10_feed_X8_append
theorem dX10_feed_0 : decode cX10_feed 0 = .ok (.aload_n 0, 1) := by decide +kernel
theorem dX10_feed_1 : decode cX10_feed 1 = .ok (.getfield 12, 3) := by decide +kernel
theorem dX10_feed_4 : decode cX10_feed 4 = .ok (.bipush 20, 2) := by decide +kernel
theorem dX10_feed_6 : decode cX10_feed 6 = .ok (.invokevirtual 117, 3) := by decide +kernel
theorem dX10_feed_9 : decode cX10_feed 9 = .ok (.ifCond .ne 5, 3) := by decide +kernel
theorem dX10_feed_12 : decode cX10_feed 12 = .ok (.iconst (-1), 1) := by decide +kernel
theorem dX10_feed_13 : decode cX10_feed 13 = .ok (.ireturn, 1) := by decide +kernel
theorem dX10_feed_14 : decode cX10_feed 14 = .ok (.aload_n 0, 1) := by decide +kernel
theorem dX10_feed_15 : decode cX10_feed 15 = .ok (.getfield 12, 3) := by decide +kernel
theorem dX10_feed_18 : decode cX10_feed 18 = .ok (.iload_n 1, 1) := by decide +kernel
theorem dX10_feed_19 : decode cX10_feed 19 = .ok (.invokevirtual 121, 3) := by decide +kernel
theorem dX10_feed_22 : decode cX10_feed 22 = .ok (.aload_n 0, 1) := by decide +kernel
theorem dX10_feed_23 : decode cX10_feed 23 = .ok (.getfield 12, 3) := by decide +kernel
theorem dX10_feed_26 : decode cX10_feed 26 = .ok (.iload_n 2, 1) := by decide +kernel
theorem dX10_feed_27 : decode cX10_feed 27 = .ok (.invokevirtual 121, 3) := by decide +kernel
theorem dX10_feed_30 : decode cX10_feed 30 = .ok (.aload_n 0, 1) := by decide +kernel
theorem dX10_feed_31 : decode cX10_feed 31 = .ok (.getfield 12, 3) := by decide +kernel
theorem dX10_feed_34 : decode cX10_feed 34 = .ok (.iload_n 3, 1) := by decide +kernel
theorem dX10_feed_35 : decode cX10_feed 35 = .ok (.invokevirtual 121, 3) := by decide +kernel
theorem dX10_feed_38 : decode cX10_feed 38 = .ok (.aload_n 0, 1) := by decide +kernel
theorem dX10_feed_39 : decode cX10_feed 39 = .ok (.getfield 12, 3) := by decide +kernel
theorem dX10_feed_42 : decode cX10_feed 42 = .ok (.iload 4, 2) := by decide +kernel
theorem dX10_feed_44 : decode cX10_feed 44 = .ok (.invokevirtual 121, 3) := by decide +kernel
theorem dX10_feed_47 : decode cX10_feed 47 = .ok (.aload_n 0, 1) := by decide +kernel
theorem dX10_feed_48 : decode cX10_feed 48 = .ok (.getfield 12, 3) := by decide +kernel
theorem dX10_feed_51 : decode cX10_feed 51 = .ok (.iload 5, 2) := by decide +kernel
theorem dX10_feed_53 : decode cX10_feed 53 = .ok (.invokevirtual 121, 3) := by decide +kernel
theorem dX10_feed_56 : decode cX10_feed 56 = .ok (.aload_n 0, 1) := by decide +kernel
theorem dX10_feed_57 : decode cX10_feed 57 = .ok (.getfield 12, 3) := by decide +kernel
theorem dX10_feed_60 : decode cX10_feed 60 = .ok (.getfield 125, 3) := by decide +kernel
theorem dX10_feed_63 : decode cX10_feed 63 = .ok (.ireturn, 1) := by decide +kernel
set_option maxRecDepth 20000 in
theorem ggX10_loss_X10_refuseAct : GoodIn wsX10_loss wsX10_refuseAct := goodIn_r _ [8, 9, 50, 51, 52, 53, 54, 55, 56, 57, 58, 59, 60, 61, 62, 63, 64, 65, 66, 67, 68] (by decide +kernel) (by decide +kernel)
set_option maxRecDepth 20000 in
theorem gX10_loss_X10_refuseAct : GoodIn wsX10_loss (wsV RX10 366 RX10 yX10_refuseAct wsX10_refuseAct) := goodIn_app (goodIn_of _ (by decide +kernel)) ggX10_loss_X10_refuseAct
set_option maxRecDepth 20000 in
theorem ggX10_loss_X1_keep : GoodIn wsX10_loss wsX1_keep := goodIn_r _ [14, 15, 16, 17, 18, 19, 13, 20, 21, 22, 23, 24, 25, 26, 27, 28, 29, 30, 31, 32, 33, 34, 35, 36, 37, 38, 39, 40, 41, 42, 43, 44, 45, 46, 47, 48, 49, 79, 80, 81, 69, 70, 71, 72, 73, 74, 75, 76, 77, 78] (by decide +kernel) (by decide +kernel)
set_option maxRecDepth 20000 in
theorem gX10_loss_X1_keep : GoodIn wsX10_loss (wsV RX10 356 RX1 yX1_keep wsX1_keep) := goodIn_app (goodIn_of _ (by decide +kernel)) ggX10_loss_X1_keep
theorem dX10_loss_0 : decode cX10_loss 0 = .ok (.iload_n 1, 1) := by decide +kernel
theorem dX10_loss_1 : decode cX10_loss 1 = .ok (.iconst 1, 1) := by decide +kernel
theorem dX10_loss_2 : decode cX10_loss 2 = .ok (.if_icmp .lt 9, 3) := by decide +kernel
theorem dX10_loss_5 : decode cX10_loss 5 = .ok (.iload_n 1, 1) := by decide +kernel
theorem dX10_loss_6 : decode cX10_loss 6 = .ok (.bipush 50, 2) := by decide +kernel
theorem dX10_loss_8 : decode cX10_loss 8 = .ok (.if_icmp .le 8, 3) := by decide +kernel
theorem dX10_loss_11 : decode cX10_loss 11 = .ok (.aload_n 0, 1) := by decide +kernel
theorem dX10_loss_12 : decode cX10_loss 12 = .ok (.invokevirtual 366, 3) := by decide +kernel
theorem dX10_loss_15 : decode cX10_loss 15 = .ok (.ireturn, 1) := by decide +kernel
theorem dX10_loss_16 : decode cX10_loss 16 = .ok (.aload_n 0, 1) := by decide +kernel
theorem dX10_loss_17 : decode cX10_loss 17 = .ok (.getfield 89, 3) := by decide +kernel
theorem dX10_loss_20 : decode cX10_loss 20 = .ok (.aload_n 0, 1) := by decide +kernel
theorem dX10_loss_21 : decode cX10_loss 21 = .ok (.getfield 38, 3) := by decide +kernel
theorem dX10_loss_24 : decode cX10_loss 24 = .ok (.invokevirtual 356, 3) := by decide +kernel
theorem dX10_loss_27 : decode cX10_loss 27 = .ok (.aload_n 0, 1) := by decide +kernel
theorem dX10_loss_28 : decode cX10_loss 28 = .ok (.getfield 38, 3) := by decide +kernel
theorem dX10_loss_31 : decode cX10_loss 31 = .ok (.getfield 159, 3) := by decide +kernel
theorem dX10_loss_34 : decode cX10_loss 34 = .ok (.istore_n 2, 1) := by decide +kernel
theorem dX10_loss_35 : decode cX10_loss 35 = .ok (.aload_n 0, 1) := by decide +kernel
theorem dX10_loss_36 : decode cX10_loss 36 = .ok (.getfield 38, 3) := by decide +kernel
theorem dX10_loss_39 : decode cX10_loss 39 = .ok (.iload_n 1, 1) := by decide +kernel
theorem dX10_loss_40 : decode cX10_loss 40 = .ok (.putfield 159, 3) := by decide +kernel
theorem dX10_loss_43 : decode cX10_loss 43 = .ok (.iload_n 2, 1) := by decide +kernel
theorem dX10_loss_44 : decode cX10_loss 44 = .ok (.ireturn, 1) := by decide +kernel
set_option maxRecDepth 20000 in
theorem ggX10_clear_X1_keep : GoodIn wsX10_clear wsX1_keep := goodIn_r _ [7, 8, 9, 10, 11, 12, 6, 13, 14, 15, 16, 17, 18, 19, 20, 21, 22, 23, 24, 25, 26, 27, 28, 29, 30, 31, 32, 33, 34, 35, 36, 37, 38, 39, 40, 41, 42, 70, 71, 72, 73, 74, 75, 76, 77, 78, 79, 80, 81, 82] (by decide +kernel) (by decide +kernel)
set_option maxRecDepth 20000 in
theorem gX10_clear_X1_keep : GoodIn wsX10_clear (wsV RX10 356 RX1 yX1_keep wsX1_keep) := goodIn_app (goodIn_of _ (by decide +kernel)) ggX10_clear_X1_keep
set_option maxRecDepth 20000 in
theorem ggX10_clear_X0_sentInAll : GoodIn wsX10_clear wsX0_sentInAll := goodIn_r _ [46, 26, 73, 74, 75, 76, 77, 78, 79, 80, 81, 82] (by decide +kernel) (by decide +kernel)
set_option maxRecDepth 20000 in
theorem gX10_clear_X0_sentInAll : GoodIn wsX10_clear (wsV RX10 177 RX0 yX0_sentInAll wsX0_sentInAll) := goodIn_app (goodIn_of _ (by decide +kernel)) ggX10_clear_X0_sentInAll
set_option maxRecDepth 20000 in
theorem ggX10_clear_X0_forgetAllSeen : GoodIn wsX10_clear wsX0_forgetAllSeen := goodIn_r _ [50, 24, 26, 73, 74, 75, 76, 77, 78, 79, 80, 81, 82] (by decide +kernel) (by decide +kernel)
set_option maxRecDepth 20000 in
theorem gX10_clear_X0_forgetAllSeen : GoodIn wsX10_clear (wsV RX10 382 RX0 yX0_forgetAllSeen wsX0_forgetAllSeen) := goodIn_app (goodIn_of _ (by decide +kernel)) ggX10_clear_X0_forgetAllSeen
theorem dX10_clear_0 : decode cX10_clear 0 = .ok (.aload_n 0, 1) := by decide +kernel
theorem dX10_clear_1 : decode cX10_clear 1 = .ok (.getfield 89, 3) := by decide +kernel
theorem dX10_clear_4 : decode cX10_clear 4 = .ok (.aload_n 0, 1) := by decide +kernel
theorem dX10_clear_5 : decode cX10_clear 5 = .ok (.getfield 38, 3) := by decide +kernel
theorem dX10_clear_8 : decode cX10_clear 8 = .ok (.invokevirtual 356, 3) := by decide +kernel
theorem dX10_clear_11 : decode cX10_clear 11 = .ok (.aload_n 0, 1) := by decide +kernel
theorem dX10_clear_12 : decode cX10_clear 12 = .ok (.getfield 38, 3) := by decide +kernel
theorem dX10_clear_15 : decode cX10_clear 15 = .ok (.invokevirtual 177, 3) := by decide +kernel
theorem dX10_clear_18 : decode cX10_clear 18 = .ok (.istore_n 1, 1) := by decide +kernel
theorem dX10_clear_19 : decode cX10_clear 19 = .ok (.aload_n 0, 1) := by decide +kernel
theorem dX10_clear_20 : decode cX10_clear 20 = .ok (.getfield 38, 3) := by decide +kernel
theorem dX10_clear_23 : decode cX10_clear 23 = .ok (.invokevirtual 382, 3) := by decide +kernel
theorem dX10_clear_26 : decode cX10_clear 26 = .ok (.iload_n 1, 1) := by decide +kernel
theorem dX10_clear_27 : decode cX10_clear 27 = .ok (.ireturn, 1) := by decide +kernel
set_option maxRecDepth 20000 in
theorem ggX10_image_X0_copyFrom : GoodIn wsX10_image wsX0_copyFrom := goodIn_r _ [18, 19, 20, 11, 12, 13, 21, 22, 23, 24, 25, 26, 27, 28, 29, 86, 87, 88, 89, 90, 91, 92, 93, 94, 95] (by decide +kernel) (by decide +kernel)
set_option maxRecDepth 20000 in
theorem gX10_image_X0_copyFrom : GoodIn wsX10_image (wsV RX10 418 RX0 yX0_copyFrom wsX0_copyFrom) := goodIn_app (goodIn_of _ (by decide +kernel)) ggX10_image_X0_copyFrom
set_option maxRecDepth 20000 in
theorem ggX10_image_X1_copyFrom : GoodIn wsX10_image wsX1_copyFrom := goodIn_r _ [34, 35, 36, 37, 38, 33, 39, 40, 41, 42, 43, 17, 44, 45, 46, 47, 48, 49, 19, 50, 21, 22, 23, 24, 25, 26, 27, 28, 29, 51, 52, 53, 54, 55, 15, 16, 18, 20, 11, 12, 13, 96, 97, 98, 86, 87, 88, 89, 90, 91, 92, 93, 94, 95] (by decide +kernel) (by decide +kernel)
set_option maxRecDepth 20000 in
theorem gX10_image_X1_copyFrom : GoodIn wsX10_image (wsV RX10 432 RX1 yX1_copyFrom wsX1_copyFrom) := goodIn_app (goodIn_of _ (by decide +kernel)) ggX10_image_X1_copyFrom
set_option maxRecDepth 20000 in
theorem ggX10_image_X3_copyFrom : GoodIn wsX10_image wsX3_copyFrom := goodIn_r _ [60, 61, 62, 11, 12, 13, 63, 64, 65, 66, 99, 100, 101, 102, 103, 104, 105, 106, 107] (by decide +kernel) (by decide +kernel)
set_option maxRecDepth 20000 in
theorem gX10_image_X3_copyFrom : GoodIn wsX10_image (wsV RX10 435 RX3 yX3_copyFrom wsX3_copyFrom) := goodIn_app (goodIn_of _ (by decide +kernel)) ggX10_image_X3_copyFrom
theorem dX10_image_0 : decode cX10_image 0 = .ok (.aload_n 0, 1) := by decide +kernel
theorem dX10_image_1 : decode cX10_image 1 = .ok (.iconst 1, 1) := by decide +kernel
theorem dX10_image_2 : decode cX10_image 2 = .ok (.putfield 97, 3) := by decide +kernel
theorem dX10_image_5 : decode cX10_image 5 = .ok (.aload_n 0, 1) := by decide +kernel
theorem dX10_image_6 : decode cX10_image 6 = .ok (.getfield 101, 3) := by decide +kernel
theorem dX10_image_9 : decode cX10_image 9 = .ok (.aload_n 0, 1) := by decide +kernel
theorem dX10_image_10 : decode cX10_image 10 = .ok (.getfield 38, 3) := by decide +kernel
theorem dX10_image_13 : decode cX10_image 13 = .ok (.invokevirtual 418, 3) := by decide +kernel
theorem dX10_image_16 : decode cX10_image 16 = .ok (.aload_n 0, 1) := by decide +kernel
theorem dX10_image_17 : decode cX10_image 17 = .ok (.getfield 104, 3) := by decide +kernel
theorem dX10_image_20 : decode cX10_image 20 = .ok (.aload_n 0, 1) := by decide +kernel
theorem dX10_image_21 : decode cX10_image 21 = .ok (.getfield 89, 3) := by decide +kernel
theorem dX10_image_24 : decode cX10_image 24 = .ok (.invokevirtual 432, 3) := by decide +kernel
theorem dX10_image_27 : decode cX10_image 27 = .ok (.aload_n 0, 1) := by decide +kernel
theorem dX10_image_28 : decode cX10_image 28 = .ok (.getfield 107, 3) := by decide +kernel
theorem dX10_image_31 : decode cX10_image 31 = .ok (.aload_n 0, 1) := by decide +kernel
theorem dX10_image_32 : decode cX10_image 32 = .ok (.getfield 82, 3) := by decide +kernel
theorem dX10_image_35 : decode cX10_image 35 = .ok (.invokevirtual 435, 3) := by decide +kernel
theorem dX10_image_38 : decode cX10_image 38 = .ok (.aload_n 0, 1) := by decide +kernel
theorem dX10_image_39 : decode cX10_image 39 = .ok (.getfield 93, 3) := by decide +kernel
theorem dX10_image_42 : decode cX10_image 42 = .ok (.iconst 0, 1) := by decide +kernel
theorem dX10_image_43 : decode cX10_image 43 = .ok (.aload_n 0, 1) := by decide +kernel
theorem dX10_image_44 : decode cX10_image 44 = .ok (.getfield 110, 3) := by decide +kernel
theorem dX10_image_47 : decode cX10_image 47 = .ok (.iconst 0, 1) := by decide +kernel
theorem dX10_image_48 : decode cX10_image 48 = .ok (.iconst 3, 1) := by decide +kernel
theorem dX10_image_49 : decode cX10_image 49 = .ok (.invokestatic 438, 3) := by decide +kernel
theorem dX10_image_52 : decode cX10_image 52 = .ok (.return_, 1) := by decide +kernel
theorem dX11_feed_0 : decode cX11_feed 0 = .ok (.aload_n 0, 1) := by decide +kernel
theorem dX11_feed_1 : decode cX11_feed 1 = .ok (.iconst 0, 1) := by decide +kernel
theorem dX11_feed_2 : decode cX11_feed 2 = .ok (.putfield 142, 3) := by decide +kernel
theorem dX11_feed_5 : decode cX11_feed 5 = .ok (.aload_n 0, 1) := by decide +kernel
theorem dX11_feed_6 : decode cX11_feed 6 = .ok (.getfield 145, 3) := by decide +kernel
theorem dX11_feed_9 : decode cX11_feed 9 = .ok (.bipush 20, 2) := by decide +kernel
theorem dX11_feed_11 : decode cX11_feed 11 = .ok (.iadd, 1) := by decide +kernel
theorem dX11_feed_12 : decode cX11_feed 12 = .ok (.sipush 700, 3) := by decide +kernel
theorem dX11_feed_15 : decode cX11_feed 15 = .ok (.if_icmp .le 5, 3) := by decide +kernel
theorem dX11_feed_18 : decode cX11_feed 18 = .ok (.iconst (-1), 1) := by decide +kernel
theorem dX11_feed_19 : decode cX11_feed 19 = .ok (.ireturn, 1) := by decide +kernel
theorem dX11_feed_20 : decode cX11_feed 20 = .ok (.iconst 0, 1) := by decide +kernel
theorem dX11_feed_21 : decode cX11_feed 21 = .ok (.istore 6, 2) := by decide +kernel
theorem dX11_feed_23 : decode cX11_feed 23 = .ok (.iload 6, 2) := by decide +kernel
theorem dX11_feed_25 : decode cX11_feed 25 = .ok (.bipush 20, 2) := by decide +kernel
theorem dX11_feed_27 : decode cX11_feed 27 = .ok (.if_icmp .ge 93, 3) := by decide +kernel
theorem dX11_feed_30 : decode cX11_feed 30 = .ok (.iload 6, 2) := by decide +kernel
theorem dX11_feed_32 : decode cX11_feed 32 = .ok (.iconst 4, 1) := by decide +kernel
theorem dX11_feed_33 : decode cX11_feed 33 = .ok (.if_icmp .ge 7, 3) := by decide +kernel
theorem dX11_feed_36 : decode cX11_feed 36 = .ok (.iload_n 1, 1) := by decide +kernel
theorem dX11_feed_37 : decode cX11_feed 37 = .ok (.goto 39, 3) := by decide +kernel
theorem dX11_feed_40 : decode cX11_feed 40 = .ok (.iload 6, 2) := by decide +kernel
theorem dX11_feed_42 : decode cX11_feed 42 = .ok (.bipush 8, 2) := by decide +kernel
theorem dX11_feed_44 : decode cX11_feed 44 = .ok (.if_icmp .ge 7, 3) := by decide +kernel
theorem dX11_feed_47 : decode cX11_feed 47 = .ok (.iload_n 2, 1) := by decide +kernel
theorem dX11_feed_48 : decode cX11_feed 48 = .ok (.goto 28, 3) := by decide +kernel
theorem dX11_feed_51 : decode cX11_feed 51 = .ok (.iload 6, 2) := by decide +kernel
theorem dX11_feed_53 : decode cX11_feed 53 = .ok (.bipush 12, 2) := by decide +kernel
theorem dX11_feed_55 : decode cX11_feed 55 = .ok (.if_icmp .ge 7, 3) := by decide +kernel
theorem dX11_feed_58 : decode cX11_feed 58 = .ok (.iload_n 3, 1) := by decide +kernel
theorem dX11_feed_59 : decode cX11_feed 59 = .ok (.goto 17, 3) := by decide +kernel
theorem dX11_feed_62 : decode cX11_feed 62 = .ok (.iload 6, 2) := by decide +kernel
theorem dX11_feed_64 : decode cX11_feed 64 = .ok (.bipush 16, 2) := by decide +kernel
theorem dX11_feed_66 : decode cX11_feed 66 = .ok (.if_icmp .ge 8, 3) := by decide +kernel
theorem dX11_feed_69 : decode cX11_feed 69 = .ok (.iload 4, 2) := by decide +kernel
theorem dX11_feed_71 : decode cX11_feed 71 = .ok (.goto 5, 3) := by decide +kernel
theorem dX11_feed_74 : decode cX11_feed 74 = .ok (.iload 5, 2) := by decide +kernel
theorem dX11_feed_76 : decode cX11_feed 76 = .ok (.istore 7, 2) := by decide +kernel
theorem dX11_feed_78 : decode cX11_feed 78 = .ok (.aload_n 0, 1) := by decide +kernel
theorem dX11_feed_79 : decode cX11_feed 79 = .ok (.getfield 66, 3) := by decide +kernel
theorem dX11_feed_82 : decode cX11_feed 82 = .ok (.aload_n 0, 1) := by decide +kernel
theorem dX11_feed_83 : decode cX11_feed 83 = .ok (.getfield 145, 3) := by decide +kernel
theorem dX11_feed_86 : decode cX11_feed 86 = .ok (.iload 7, 2) := by decide +kernel
theorem dX11_feed_88 : decode cX11_feed 88 = .ok (.bipush 24, 2) := by decide +kernel
theorem dX11_feed_90 : decode cX11_feed 90 = .ok (.bipush 8, 2) := by decide +kernel
theorem dX11_feed_92 : decode cX11_feed 92 = .ok (.iload 6, 2) := by decide +kernel
theorem dX11_feed_94 : decode cX11_feed 94 = .ok (.iconst 4, 1) := by decide +kernel
theorem dX11_feed_95 : decode cX11_feed 95 = .ok (.irem, 1) := by decide +kernel
theorem dX11_feed_96 : decode cX11_feed 96 = .ok (.imul, 1) := by decide +kernel
theorem dX11_feed_97 : decode cX11_feed 97 = .ok (.isub, 1) := by decide +kernel
theorem dX11_feed_98 : decode cX11_feed 98 = .ok (.ishr, 1) := by decide +kernel
theorem dX11_feed_99 : decode cX11_feed 99 = .ok (.sipush 255, 3) := by decide +kernel
theorem dX11_feed_102 : decode cX11_feed 102 = .ok (.iand, 1) := by decide +kernel
theorem dX11_feed_103 : decode cX11_feed 103 = .ok (.iastore, 1) := by decide +kernel
theorem dX11_feed_104 : decode cX11_feed 104 = .ok (.aload_n 0, 1) := by decide +kernel
theorem dX11_feed_105 : decode cX11_feed 105 = .ok (.dup, 1) := by decide +kernel
theorem dX11_feed_106 : decode cX11_feed 106 = .ok (.getfield 145, 3) := by decide +kernel
theorem dX11_feed_109 : decode cX11_feed 109 = .ok (.iconst 1, 1) := by decide +kernel
theorem dX11_feed_110 : decode cX11_feed 110 = .ok (.iadd, 1) := by decide +kernel
theorem dX11_feed_111 : decode cX11_feed 111 = .ok (.putfield 145, 3) := by decide +kernel
theorem dX11_feed_114 : decode cX11_feed 114 = .ok (.iinc 6 1, 3) := by decide +kernel
theorem dX11_feed_117 : decode cX11_feed 117 = .ok (.goto (-94), 3) := by decide +kernel
theorem dX11_feed_120 : decode cX11_feed 120 = .ok (.aload_n 0, 1) := by decide +kernel
theorem dX11_feed_121 : decode cX11_feed 121 = .ok (.getfield 145, 3) := by decide +kernel
theorem dX11_feed_124 : decode cX11_feed 124 = .ok (.ireturn, 1) := by decide +kernel
theorem dX11_sentAll_0 : decode cX11_sentAll 0 = .ok (.iconst 0, 1) := by decide +kernel
theorem dX11_sentAll_1 : decode cX11_sentAll 1 = .ok (.istore_n 1, 1) := by decide +kernel
theorem dX11_sentAll_2 : decode cX11_sentAll 2 = .ok (.iconst 0, 1) := by decide +kernel
theorem dX11_sentAll_3 : decode cX11_sentAll 3 = .ok (.istore_n 2, 1) := by decide +kernel
theorem dX11_sentAll_4 : decode cX11_sentAll 4 = .ok (.iload_n 2, 1) := by decide +kernel
theorem dX11_sentAll_5 : decode cX11_sentAll 5 = .ok (.bipush 30, 2) := by decide +kernel
theorem dX11_sentAll_7 : decode cX11_sentAll 7 = .ok (.if_icmp .ge 21, 3) := by decide +kernel
theorem dX11_sentAll_10 : decode cX11_sentAll 10 = .ok (.iload_n 1, 1) := by decide +kernel
theorem dX11_sentAll_11 : decode cX11_sentAll 11 = .ok (.aload_n 0, 1) := by decide +kernel
theorem dX11_sentAll_12 : decode cX11_sentAll 12 = .ok (.getfield 60, 3) := by decide +kernel
theorem dX11_sentAll_15 : decode cX11_sentAll 15 = .ok (.bipush 24, 2) := by decide +kernel
theorem dX11_sentAll_17 : decode cX11_sentAll 17 = .ok (.iload_n 2, 1) := by decide +kernel
theorem dX11_sentAll_18 : decode cX11_sentAll 18 = .ok (.iadd, 1) := by decide +kernel
theorem dX11_sentAll_19 : decode cX11_sentAll 19 = .ok (.iaload, 1) := by decide +kernel
theorem dX11_sentAll_20 : decode cX11_sentAll 20 = .ok (.iadd, 1) := by decide +kernel
theorem dX11_sentAll_21 : decode cX11_sentAll 21 = .ok (.istore_n 1, 1) := by decide +kernel
theorem dX11_sentAll_22 : decode cX11_sentAll 22 = .ok (.iinc 2 1, 3) := by decide +kernel
theorem dX11_sentAll_25 : decode cX11_sentAll 25 = .ok (.goto (-21), 3) := by decide +kernel
theorem dX11_sentAll_28 : decode cX11_sentAll 28 = .ok (.iload_n 1, 1) := by decide +kernel
theorem dX11_sentAll_29 : decode cX11_sentAll 29 = .ok (.ireturn, 1) := by decide +kernel
theorem dX11_copyTo_0 : decode cX11_copyTo 0 = .ok (.iconst 0, 1) := by decide +kernel
theorem dX11_copyTo_1 : decode cX11_copyTo 1 = .ok (.istore_n 2, 1) := by decide +kernel
theorem dX11_copyTo_2 : decode cX11_copyTo 2 = .ok (.iload_n 2, 1) := by decide +kernel
theorem dX11_copyTo_3 : decode cX11_copyTo 3 = .ok (.aload_n 0, 1) := by decide +kernel
theorem dX11_copyTo_4 : decode cX11_copyTo 4 = .ok (.arraylength, 1) := by decide +kernel
theorem dX11_copyTo_5 : decode cX11_copyTo 5 = .ok (.if_icmp .ge 15, 3) := by decide +kernel
theorem dX11_copyTo_8 : decode cX11_copyTo 8 = .ok (.aload_n 0, 1) := by decide +kernel
theorem dX11_copyTo_9 : decode cX11_copyTo 9 = .ok (.iload_n 2, 1) := by decide +kernel
theorem dX11_copyTo_10 : decode cX11_copyTo 10 = .ok (.aload_n 1, 1) := by decide +kernel
theorem dX11_copyTo_11 : decode cX11_copyTo 11 = .ok (.iload_n 2, 1) := by decide +kernel
theorem dX11_copyTo_12 : decode cX11_copyTo 12 = .ok (.iaload, 1) := by decide +kernel
theorem dX11_copyTo_13 : decode cX11_copyTo 13 = .ok (.iastore, 1) := by decide +kernel
theorem dX11_copyTo_14 : decode cX11_copyTo 14 = .ok (.iinc 2 1, 3) := by decide +kernel
theorem dX11_copyTo_17 : decode cX11_copyTo 17 = .ok (.goto (-15), 3) := by decide +kernel
theorem dX11_copyTo_20 : decode cX11_copyTo 20 = .ok (.return_, 1) := by decide +kernel
theorem dX11_keep_0 : decode cX11_keep 0 = .ok (.aload_n 0, 1) := by decide +kernel
theorem dX11_keep_1 : decode cX11_keep 1 = .ok (.getfield 250, 3) := by decide +kernel
theorem dX11_keep_4 : decode cX11_keep 4 = .ok (.bipush 40, 2) := by decide +kernel
theorem dX11_keep_6 : decode cX11_keep 6 = .ok (.if_icmp .ne 48, 3) := by decide +kernel
theorem dX11_keep_9 : decode cX11_keep 9 = .ok (.sipush 1019, 3) := by decide +kernel
theorem dX11_keep_12 : decode cX11_keep 12 = .ok (.istore_n 1, 1) := by decide +kernel
theorem dX11_keep_13 : decode cX11_keep 13 = .ok (.iload_n 1, 1) := by decide +kernel
theorem dX11_keep_14 : decode cX11_keep 14 = .ok (.aload_n 0, 1) := by decide +kernel
theorem dX11_keep_15 : decode cX11_keep 15 = .ok (.getfield 84, 3) := by decide +kernel
theorem dX11_keep_18 : decode cX11_keep 18 = .ok (.arraylength, 1) := by decide +kernel
theorem dX11_keep_19 : decode cX11_keep 19 = .ok (.if_icmp .ge 25, 3) := by decide +kernel
theorem dX11_keep_22 : decode cX11_keep 22 = .ok (.aload_n 0, 1) := by decide +kernel
theorem dX11_keep_23 : decode cX11_keep 23 = .ok (.getfield 84, 3) := by decide +kernel
theorem dX11_keep_26 : decode cX11_keep 26 = .ok (.iload_n 1, 1) := by decide +kernel
theorem dX11_keep_27 : decode cX11_keep 27 = .ok (.sipush 1019, 3) := by decide +kernel
theorem dX11_keep_30 : decode cX11_keep 30 = .ok (.isub, 1) := by decide +kernel
theorem dX11_keep_31 : decode cX11_keep 31 = .ok (.aload_n 0, 1) := by decide +kernel
theorem dX11_keep_32 : decode cX11_keep 32 = .ok (.getfield 84, 3) := by decide +kernel
theorem dX11_keep_35 : decode cX11_keep 35 = .ok (.iload_n 1, 1) := by decide +kernel
theorem dX11_keep_36 : decode cX11_keep 36 = .ok (.iaload, 1) := by decide +kernel
theorem dX11_keep_37 : decode cX11_keep 37 = .ok (.iastore, 1) := by decide +kernel
theorem dX11_keep_38 : decode cX11_keep 38 = .ok (.iinc 1 1, 3) := by decide +kernel
theorem dX11_keep_41 : decode cX11_keep 41 = .ok (.goto (-28), 3) := by decide +kernel
theorem dX11_keep_44 : decode cX11_keep 44 = .ok (.aload_n 0, 1) := by decide +kernel
theorem dX11_keep_45 : decode cX11_keep 45 = .ok (.dup, 1) := by decide +kernel
theorem dX11_keep_46 : decode cX11_keep 46 = .ok (.getfield 250, 3) := by decide +kernel
theorem dX11_keep_49 : decode cX11_keep 49 = .ok (.iconst 1, 1) := by decide +kernel
theorem dX11_keep_50 : decode cX11_keep 50 = .ok (.isub, 1) := by decide +kernel
theorem dX11_keep_51 : decode cX11_keep 51 = .ok (.putfield 250, 3) := by decide +kernel
theorem dX11_keep_54 : decode cX11_keep 54 = .ok (.iconst 0, 1) := by decide +kernel
theorem dX11_keep_55 : decode cX11_keep 55 = .ok (.istore_n 1, 1) := by decide +kernel
theorem dX11_keep_56 : decode cX11_keep 56 = .ok (.iload_n 1, 1) := by decide +kernel
theorem dX11_keep_57 : decode cX11_keep 57 = .ok (.sipush 1019, 3) := by decide +kernel
theorem dX11_keep_60 : decode cX11_keep 60 = .ok (.if_icmp .ge 30, 3) := by decide +kernel
theorem dX11_keep_63 : decode cX11_keep 63 = .ok (.aload_n 0, 1) := by decide +kernel
theorem dX11_keep_64 : decode cX11_keep 64 = .ok (.getfield 84, 3) := by decide +kernel
theorem dX11_keep_67 : decode cX11_keep 67 = .ok (.sipush 1019, 3) := by decide +kernel
theorem dX11_keep_70 : decode cX11_keep 70 = .ok (.aload_n 0, 1) := by decide +kernel
theorem dX11_keep_71 : decode cX11_keep 71 = .ok (.getfield 250, 3) := by decide +kernel
theorem dX11_keep_74 : decode cX11_keep 74 = .ok (.imul, 1) := by decide +kernel
theorem dX11_keep_75 : decode cX11_keep 75 = .ok (.iload_n 1, 1) := by decide +kernel
theorem dX11_keep_76 : decode cX11_keep 76 = .ok (.iadd, 1) := by decide +kernel
theorem dX11_keep_77 : decode cX11_keep 77 = .ok (.aload_n 0, 1) := by decide +kernel
theorem dX11_keep_78 : decode cX11_keep 78 = .ok (.getfield 60, 3) := by decide +kernel
theorem dX11_keep_81 : decode cX11_keep 81 = .ok (.iload_n 1, 1) := by decide +kernel
theorem dX11_keep_82 : decode cX11_keep 82 = .ok (.iaload, 1) := by decide +kernel
theorem dX11_keep_83 : decode cX11_keep 83 = .ok (.iastore, 1) := by decide +kernel
theorem dX11_keep_84 : decode cX11_keep 84 = .ok (.iinc 1 1, 3) := by decide +kernel
theorem dX11_keep_87 : decode cX11_keep 87 = .ok (.goto (-31), 3) := by decide +kernel
theorem dX11_keep_90 : decode cX11_keep 90 = .ok (.aload_n 0, 1) := by decide +kernel
theorem dX11_keep_91 : decode cX11_keep 91 = .ok (.dup, 1) := by decide +kernel
theorem dX11_keep_92 : decode cX11_keep 92 = .ok (.getfield 250, 3) := by decide +kernel
theorem dX11_keep_95 : decode cX11_keep 95 = .ok (.iconst 1, 1) := by decide +kernel
theorem dX11_keep_96 : decode cX11_keep 96 = .ok (.iadd, 1) := by decide +kernel
theorem dX11_keep_97 : decode cX11_keep 97 = .ok (.putfield 250, 3) := by decide +kernel
theorem dX11_keep_100 : decode cX11_keep 100 = .ok (.return_, 1) := by decide +kernel
set_option maxRecDepth 20000 in
theorem ggX11_loss_X11_isIn : GoodIn wsX11_loss wsX11_isIn := goodIn_r _ [6] (by decide +kernel) (by decide +kernel)
set_option maxRecDepth 20000 in
theorem gX11_loss_X11_isIn : GoodIn wsX11_loss (va_wsS RX11 359 yX11_isIn wsX11_isIn) := goodIn_app (goodIn_of _ (by decide +kernel)) ggX11_loss_X11_isIn
set_option maxRecDepth 20000 in
theorem ggX11_loss_X11_refuse : GoodIn wsX11_loss wsX11_refuse := goodIn_r _ [10, 11, 18, 19, 20, 21, 22, 23, 24, 25, 26, 27, 28, 29, 30, 31, 32, 33, 34, 35, 36, 37, 38, 39, 40, 41, 42, 43, 44, 45, 46, 47, 48, 49, 50, 51, 52, 53, 54, 55, 56, 57, 58, 59, 60, 61, 62, 63, 64, 65, 66, 67, 68, 69, 70, 71, 72, 73, 74, 75, 76, 77, 78] (by decide +kernel) (by decide +kernel)
set_option maxRecDepth 20000 in
theorem gX11_loss_X11_refuse : GoodIn wsX11_loss (wsV RX11 377 RX11 yX11_refuse wsX11_refuse) := goodIn_app (goodIn_of _ (by decide +kernel)) ggX11_loss_X11_refuse
set_option maxRecDepth 20000 in
theorem ggX11_loss_X11_keep : GoodIn wsX11_loss wsX11_keep := goodIn_r _ [15, 16, 17, 2, 18, 19, 20, 21, 22, 23, 24, 25, 26, 27, 28, 29, 30, 31, 32, 33, 34, 35, 36, 37, 38, 39, 40, 41, 42, 43, 44, 45, 46, 47, 48, 49, 50, 51, 52, 53, 54, 55, 56, 57, 58, 59, 60, 61, 62, 63, 64, 65, 66, 67, 68, 69, 70, 71, 72, 73, 74, 75, 76, 77, 78] (by decide +kernel) (by decide +kernel)
set_option maxRecDepth 20000 in
theorem gX11_loss_X11_keep : GoodIn wsX11_loss (wsV RX11 380 RX11 yX11_keep wsX11_keep) := goodIn_app (goodIn_of _ (by decide +kernel)) ggX11_loss_X11_keep
theorem dX11_loss_0 : decode cX11_loss 0 = .ok (.aload_n 0, 1) := by decide +kernel
theorem dX11_loss_1 : decode cX11_loss 1 = .ok (.iconst 0, 1) := by decide +kernel
theorem dX11_loss_2 : decode cX11_loss 2 = .ok (.putfield 142, 3) := by decide +kernel
theorem dX11_loss_5 : decode cX11_loss 5 = .ok (.iload_n 1, 1) := by decide +kernel
theorem dX11_loss_6 : decode cX11_loss 6 = .ok (.iconst 1, 1) := by decide +kernel
theorem dX11_loss_7 : decode cX11_loss 7 = .ok (.bipush 50, 2) := by decide +kernel
theorem dX11_loss_9 : decode cX11_loss 9 = .ok (.invokestatic 359, 3) := by decide +kernel
theorem dX11_loss_12 : decode cX11_loss 12 = .ok (.ifCond .ne 9, 3) := by decide +kernel
theorem dX11_loss_15 : decode cX11_loss 15 = .ok (.aload_n 0, 1) := by decide +kernel
theorem dX11_loss_16 : decode cX11_loss 16 = .ok (.iconst 1, 1) := by decide +kernel
theorem dX11_loss_17 : decode cX11_loss 17 = .ok (.invokevirtual 377, 3) := by decide +kernel
theorem dX11_loss_20 : decode cX11_loss 20 = .ok (.ireturn, 1) := by decide +kernel
theorem dX11_loss_21 : decode cX11_loss 21 = .ok (.aload_n 0, 1) := by decide +kernel
theorem dX11_loss_22 : decode cX11_loss 22 = .ok (.invokevirtual 380, 3) := by decide +kernel
theorem dX11_loss_25 : decode cX11_loss 25 = .ok (.aload_n 0, 1) := by decide +kernel
theorem dX11_loss_26 : decode cX11_loss 26 = .ok (.getfield 60, 3) := by decide +kernel
theorem dX11_loss_29 : decode cX11_loss 29 = .ok (.bipush 54, 2) := by decide +kernel
theorem dX11_loss_31 : decode cX11_loss 31 = .ok (.iaload, 1) := by decide +kernel
theorem dX11_loss_32 : decode cX11_loss 32 = .ok (.istore_n 2, 1) := by decide +kernel
theorem dX11_loss_33 : decode cX11_loss 33 = .ok (.aload_n 0, 1) := by decide +kernel
theorem dX11_loss_34 : decode cX11_loss 34 = .ok (.getfield 60, 3) := by decide +kernel
theorem dX11_loss_37 : decode cX11_loss 37 = .ok (.bipush 54, 2) := by decide +kernel
theorem dX11_loss_39 : decode cX11_loss 39 = .ok (.iload_n 1, 1) := by decide +kernel
theorem dX11_loss_40 : decode cX11_loss 40 = .ok (.iastore, 1) := by decide +kernel
theorem dX11_loss_41 : decode cX11_loss 41 = .ok (.iload_n 2, 1) := by decide +kernel
theorem dX11_loss_42 : decode cX11_loss 42 = .ok (.ireturn, 1) := by decide +kernel
set_option maxRecDepth 20000 in
theorem ggX11_image_X11_copyTo : GoodIn wsX11_image wsX11_copyTo := goodIn_r _ [24] (by decide +kernel) (by decide +kernel)
set_option maxRecDepth 20000 in
theorem gX11_image_X11_copyTo : GoodIn wsX11_image (va_wsS RX11 467 yX11_copyTo wsX11_copyTo) := goodIn_app (goodIn_of _ (by decide +kernel)) ggX11_image_X11_copyTo
theorem dX11_image_0 : decode cX11_image 0 = .ok (.aload_n 0, 1) := by decide +kernel
theorem dX11_image_1 : decode cX11_image 1 = .ok (.iconst 0, 1) := by decide +kernel
theorem dX11_image_2 : decode cX11_image 2 = .ok (.putfield 142, 3) := by decide +kernel
theorem dX11_image_5 : decode cX11_image 5 = .ok (.aload_n 0, 1) := by decide +kernel
theorem dX11_image_6 : decode cX11_image 6 = .ok (.iconst 1, 1) := by decide +kernel
theorem dX11_image_7 : decode cX11_image 7 = .ok (.putfield 256, 3) := by decide +kernel
theorem dX11_image_10 : decode cX11_image 10 = .ok (.aload_n 0, 1) := by decide +kernel
theorem dX11_image_11 : decode cX11_image 11 = .ok (.aload_n 0, 1) := by decide +kernel
theorem dX11_image_12 : decode cX11_image 12 = .ok (.getfield 250, 3) := by decide +kernel
theorem dX11_image_15 : decode cX11_image 15 = .ok (.putfield 477, 3) := by decide +kernel
theorem dX11_image_18 : decode cX11_image 18 = .ok (.aload_n 0, 1) := by decide +kernel
theorem dX11_image_19 : decode cX11_image 19 = .ok (.aload_n 0, 1) := by decide +kernel
theorem dX11_image_20 : decode cX11_image 20 = .ok (.getfield 253, 3) := by decide +kernel
theorem dX11_image_23 : decode cX11_image 23 = .ok (.putfield 480, 3) := by decide +kernel
theorem dX11_image_26 : decode cX11_image 26 = .ok (.aload_n 0, 1) := by decide +kernel
theorem dX11_image_27 : decode cX11_image 27 = .ok (.getfield 121, 3) := by decide +kernel
theorem dX11_image_30 : decode cX11_image 30 = .ok (.aload_n 0, 1) := by decide +kernel
theorem dX11_image_31 : decode cX11_image 31 = .ok (.getfield 60, 3) := by decide +kernel
theorem dX11_image_34 : decode cX11_image 34 = .ok (.invokestatic 467, 3) := by decide +kernel
theorem dX11_image_37 : decode cX11_image 37 = .ok (.aload_n 0, 1) := by decide +kernel
theorem dX11_image_38 : decode cX11_image 38 = .ok (.getfield 124, 3) := by decide +kernel
theorem dX11_image_41 : decode cX11_image 41 = .ok (.aload_n 0, 1) := by decide +kernel
theorem dX11_image_42 : decode cX11_image 42 = .ok (.getfield 84, 3) := by decide +kernel
theorem dX11_image_45 : decode cX11_image 45 = .ok (.invokestatic 467, 3) := by decide +kernel
theorem dX11_image_48 : decode cX11_image 48 = .ok (.aload_n 0, 1) := by decide +kernel
theorem dX11_image_49 : decode cX11_image 49 = .ok (.getfield 127, 3) := by decide +kernel
theorem dX11_image_52 : decode cX11_image 52 = .ok (.aload_n 0, 1) := by decide +kernel
theorem dX11_image_53 : decode cX11_image 53 = .ok (.getfield 103, 3) := by decide +kernel
theorem dX11_image_56 : decode cX11_image 56 = .ok (.invokestatic 467, 3) := by decide +kernel
theorem dX11_image_59 : decode cX11_image 59 = .ok (.aload_n 0, 1) := by decide +kernel
theorem dX11_image_60 : decode cX11_image 60 = .ok (.getfield 130, 3) := by decide +kernel
theorem dX11_image_63 : decode cX11_image 63 = .ok (.aload_n 0, 1) := by decide +kernel
theorem dX11_image_64 : decode cX11_image 64 = .ok (.getfield 106, 3) := by decide +kernel
theorem dX11_image_67 : decode cX11_image 67 = .ok (.invokestatic 467, 3) := by decide +kernel
theorem dX11_image_70 : decode cX11_image 70 = .ok (.aload_n 0, 1) := by decide +kernel
theorem dX11_image_71 : decode cX11_image 71 = .ok (.getfield 133, 3) := by decide +kernel
theorem dX11_image_74 : decode cX11_image 74 = .ok (.aload_n 0, 1) := by decide +kernel
theorem dX11_image_75 : decode cX11_image 75 = .ok (.getfield 109, 3) := by decide +kernel
theorem dX11_image_78 : decode cX11_image 78 = .ok (.invokestatic 467, 3) := by decide +kernel
theorem dX11_image_81 : decode cX11_image 81 = .ok (.aload_n 0, 1) := by decide +kernel
theorem dX11_image_82 : decode cX11_image 82 = .ok (.getfield 136, 3) := by decide +kernel
theorem dX11_image_85 : decode cX11_image 85 = .ok (.aload_n 0, 1) := by decide +kernel
theorem dX11_image_86 : decode cX11_image 86 = .ok (.getfield 112, 3) := by decide +kernel
theorem dX11_image_89 : decode cX11_image 89 = .ok (.invokestatic 467, 3) := by decide +kernel
theorem dX11_image_92 : decode cX11_image 92 = .ok (.aload_n 0, 1) := by decide +kernel
theorem dX11_image_93 : decode cX11_image 93 = .ok (.getfield 139, 3) := by decide +kernel
theorem dX11_image_96 : decode cX11_image 96 = .ok (.aload_n 0, 1) := by decide +kernel
theorem dX11_image_97 : decode cX11_image 97 = .ok (.getfield 63, 3) := by decide +kernel
theorem dX11_image_100 : decode cX11_image 100 = .ok (.invokestatic 467, 3) := by decide +kernel
theorem dX11_image_103 : decode cX11_image 103 = .ok (.return_, 1) := by decide +kernel
