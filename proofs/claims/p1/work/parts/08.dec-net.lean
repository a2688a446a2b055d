theorem dX2_empty_0 : decode cX2_empty 0 = .ok (.aload_n 0, 1) := by decide +kernel
theorem dX2_empty_1 : decode cX2_empty 1 = .ok (.iconst 0, 1) := by decide +kernel
theorem dX2_empty_2 : decode cX2_empty 2 = .ok (.putfield 33, 3) := by decide +kernel
theorem dX2_empty_5 : decode cX2_empty 5 = .ok (.aload_n 0, 1) := by decide +kernel
theorem dX2_empty_6 : decode cX2_empty 6 = .ok (.iconst 0, 1) := by decide +kernel
theorem dX2_empty_7 : decode cX2_empty 7 = .ok (.putfield 37, 3) := by decide +kernel
theorem dX2_empty_10 : decode cX2_empty 10 = .ok (.aload_n 0, 1) := by decide +kernel
theorem dX2_empty_11 : decode cX2_empty 11 = .ok (.iconst 0, 1) := by decide +kernel
theorem dX2_empty_12 : decode cX2_empty 12 = .ok (.putfield 40, 3) := by decide +kernel
theorem dX2_empty_15 : decode cX2_empty 15 = .ok (.aload_n 0, 1) := by decide +kernel
theorem dX2_empty_16 : decode cX2_empty 16 = .ok (.iconst 5, 1) := by decide +kernel
theorem dX2_empty_17 : decode cX2_empty 17 = .ok (.putfield 43, 3) := by decide +kernel
theorem dX2_empty_20 : decode cX2_empty 20 = .ok (.return_, 1) := by decide +kernel
theorem dX2_copyFrom_0 : decode cX2_copyFrom 0 = .ok (.aload_n 1, 1) := by decide +kernel
theorem dX2_copyFrom_1 : decode cX2_copyFrom 1 = .ok (.getfield 9, 3) := by decide +kernel
theorem dX2_copyFrom_4 : decode cX2_copyFrom 4 = .ok (.iconst 0, 1) := by decide +kernel
theorem dX2_copyFrom_5 : decode cX2_copyFrom 5 = .ok (.aload_n 0, 1) := by decide +kernel
theorem dX2_copyFrom_6 : decode cX2_copyFrom 6 = .ok (.getfield 9, 3) := by decide +kernel
theorem dX2_copyFrom_9 : decode cX2_copyFrom 9 = .ok (.iconst 0, 1) := by decide +kernel
theorem dX2_copyFrom_10 : decode cX2_copyFrom 10 = .ok (.bipush 12, 2) := by decide +kernel
theorem dX2_copyFrom_12 : decode cX2_copyFrom 12 = .ok (.invokestatic 58, 3) := by decide +kernel
theorem dX2_copyFrom_15 : decode cX2_copyFrom 15 = .ok (.aload_n 1, 1) := by decide +kernel
theorem dX2_copyFrom_16 : decode cX2_copyFrom 16 = .ok (.getfield 15, 3) := by decide +kernel
theorem dX2_copyFrom_19 : decode cX2_copyFrom 19 = .ok (.iconst 0, 1) := by decide +kernel
theorem dX2_copyFrom_20 : decode cX2_copyFrom 20 = .ok (.aload_n 0, 1) := by decide +kernel
theorem dX2_copyFrom_21 : decode cX2_copyFrom 21 = .ok (.getfield 15, 3) := by decide +kernel
theorem dX2_copyFrom_24 : decode cX2_copyFrom 24 = .ok (.iconst 0, 1) := by decide +kernel
theorem dX2_copyFrom_25 : decode cX2_copyFrom 25 = .ok (.bipush 12, 2) := by decide +kernel
theorem dX2_copyFrom_27 : decode cX2_copyFrom 27 = .ok (.invokestatic 58, 3) := by decide +kernel
theorem dX2_copyFrom_30 : decode cX2_copyFrom 30 = .ok (.aload_n 1, 1) := by decide +kernel
theorem dX2_copyFrom_31 : decode cX2_copyFrom 31 = .ok (.getfield 18, 3) := by decide +kernel
theorem dX2_copyFrom_34 : decode cX2_copyFrom 34 = .ok (.iconst 0, 1) := by decide +kernel
theorem dX2_copyFrom_35 : decode cX2_copyFrom 35 = .ok (.aload_n 0, 1) := by decide +kernel
theorem dX2_copyFrom_36 : decode cX2_copyFrom 36 = .ok (.getfield 18, 3) := by decide +kernel
theorem dX2_copyFrom_39 : decode cX2_copyFrom 39 = .ok (.iconst 0, 1) := by decide +kernel
theorem dX2_copyFrom_40 : decode cX2_copyFrom 40 = .ok (.bipush 12, 2) := by decide +kernel
theorem dX2_copyFrom_42 : decode cX2_copyFrom 42 = .ok (.invokestatic 58, 3) := by decide +kernel
theorem dX2_copyFrom_45 : decode cX2_copyFrom 45 = .ok (.aload_n 1, 1) := by decide +kernel
theorem dX2_copyFrom_46 : decode cX2_copyFrom 46 = .ok (.getfield 21, 3) := by decide +kernel
theorem dX2_copyFrom_49 : decode cX2_copyFrom 49 = .ok (.iconst 0, 1) := by decide +kernel
theorem dX2_copyFrom_50 : decode cX2_copyFrom 50 = .ok (.aload_n 0, 1) := by decide +kernel
theorem dX2_copyFrom_51 : decode cX2_copyFrom 51 = .ok (.getfield 21, 3) := by decide +kernel
theorem dX2_copyFrom_54 : decode cX2_copyFrom 54 = .ok (.iconst 0, 1) := by decide +kernel
theorem dX2_copyFrom_55 : decode cX2_copyFrom 55 = .ok (.bipush 12, 2) := by decide +kernel
theorem dX2_copyFrom_57 : decode cX2_copyFrom 57 = .ok (.invokestatic 58, 3) := by decide +kernel
theorem dX2_copyFrom_60 : decode cX2_copyFrom 60 = .ok (.aload_n 1, 1) := by decide +kernel
theorem dX2_copyFrom_61 : decode cX2_copyFrom 61 = .ok (.getfield 24, 3) := by decide +kernel
theorem dX2_copyFrom_64 : decode cX2_copyFrom 64 = .ok (.iconst 0, 1) := by decide +kernel
theorem dX2_copyFrom_65 : decode cX2_copyFrom 65 = .ok (.aload_n 0, 1) := by decide +kernel
theorem dX2_copyFrom_66 : decode cX2_copyFrom 66 = .ok (.getfield 24, 3) := by decide +kernel
theorem dX2_copyFrom_69 : decode cX2_copyFrom 69 = .ok (.iconst 0, 1) := by decide +kernel
theorem dX2_copyFrom_70 : decode cX2_copyFrom 70 = .ok (.bipush 20, 2) := by decide +kernel
theorem dX2_copyFrom_72 : decode cX2_copyFrom 72 = .ok (.invokestatic 58, 3) := by decide +kernel
theorem dX2_copyFrom_75 : decode cX2_copyFrom 75 = .ok (.aload_n 1, 1) := by decide +kernel
theorem dX2_copyFrom_76 : decode cX2_copyFrom 76 = .ok (.getfield 27, 3) := by decide +kernel
theorem dX2_copyFrom_79 : decode cX2_copyFrom 79 = .ok (.iconst 0, 1) := by decide +kernel
theorem dX2_copyFrom_80 : decode cX2_copyFrom 80 = .ok (.aload_n 0, 1) := by decide +kernel
theorem dX2_copyFrom_81 : decode cX2_copyFrom 81 = .ok (.getfield 27, 3) := by decide +kernel
theorem dX2_copyFrom_84 : decode cX2_copyFrom 84 = .ok (.iconst 0, 1) := by decide +kernel
theorem dX2_copyFrom_85 : decode cX2_copyFrom 85 = .ok (.bipush 20, 2) := by decide +kernel
theorem dX2_copyFrom_87 : decode cX2_copyFrom 87 = .ok (.invokestatic 58, 3) := by decide +kernel
theorem dX2_copyFrom_90 : decode cX2_copyFrom 90 = .ok (.aload_n 1, 1) := by decide +kernel
theorem dX2_copyFrom_91 : decode cX2_copyFrom 91 = .ok (.getfield 30, 3) := by decide +kernel
theorem dX2_copyFrom_94 : decode cX2_copyFrom 94 = .ok (.iconst 0, 1) := by decide +kernel
theorem dX2_copyFrom_95 : decode cX2_copyFrom 95 = .ok (.aload_n 0, 1) := by decide +kernel
theorem dX2_copyFrom_96 : decode cX2_copyFrom 96 = .ok (.getfield 30, 3) := by decide +kernel
theorem dX2_copyFrom_99 : decode cX2_copyFrom 99 = .ok (.iconst 0, 1) := by decide +kernel
theorem dX2_copyFrom_100 : decode cX2_copyFrom 100 = .ok (.iconst 3, 1) := by decide +kernel
theorem dX2_copyFrom_101 : decode cX2_copyFrom 101 = .ok (.invokestatic 58, 3) := by decide +kernel
theorem dX2_copyFrom_104 : decode cX2_copyFrom 104 = .ok (.aload_n 0, 1) := by decide +kernel
theorem dX2_copyFrom_105 : decode cX2_copyFrom 105 = .ok (.aload_n 1, 1) := by decide +kernel
theorem dX2_copyFrom_106 : decode cX2_copyFrom 106 = .ok (.getfield 33, 3) := by decide +kernel
theorem dX2_copyFrom_109 : decode cX2_copyFrom 109 = .ok (.putfield 33, 3) := by decide +kernel
theorem dX2_copyFrom_112 : decode cX2_copyFrom 112 = .ok (.aload_n 0, 1) := by decide +kernel
theorem dX2_copyFrom_113 : decode cX2_copyFrom 113 = .ok (.aload_n 1, 1) := by decide +kernel
theorem dX2_copyFrom_114 : decode cX2_copyFrom 114 = .ok (.getfield 37, 3) := by decide +kernel
theorem dX2_copyFrom_117 : decode cX2_copyFrom 117 = .ok (.putfield 37, 3) := by decide +kernel
theorem dX2_copyFrom_120 : decode cX2_copyFrom 120 = .ok (.aload_n 0, 1) := by decide +kernel
theorem dX2_copyFrom_121 : decode cX2_copyFrom 121 = .ok (.aload_n 1, 1) := by decide +kernel
theorem dX2_copyFrom_122 : decode cX2_copyFrom 122 = .ok (.getfield 40, 3) := by decide +kernel
theorem dX2_copyFrom_125 : decode cX2_copyFrom 125 = .ok (.putfield 40, 3) := by decide +kernel
theorem dX2_copyFrom_128 : decode cX2_copyFrom 128 = .ok (.aload_n 0, 1) := by decide +kernel
theorem dX2_copyFrom_129 : decode cX2_copyFrom 129 = .ok (.aload_n 1, 1) := by decide +kernel
theorem dX2_copyFrom_130 : decode cX2_copyFrom 130 = .ok (.getfield 43, 3) := by decide +kernel
theorem dX2_copyFrom_133 : decode cX2_copyFrom 133 = .ok (.putfield 43, 3) := by decide +kernel
theorem dX2_copyFrom_136 : decode cX2_copyFrom 136 = .ok (.return_, 1) := by decide +kernel
set_option maxRecDepth 20000 in
theorem ggX2_findBranches_X2_findReach : GoodIn wsX2_findBranches wsX2_findReach := goodIn_r _ [12, 2, 13, 4, 7, 5, 23, 24, 25, 26, 27, 28, 29, 30, 31, 32, 33, 34, 35, 36, 37] (by decide +kernel) (by decide +kernel)
set_option maxRecDepth 20000 in
theorem gX2_findBranches_X2_findReach : GoodIn wsX2_findBranches (wsV RX2 64 RX2 yX2_findReach wsX2_findReach) := goodIn_app (goodIn_of _ (by decide +kernel)) ggX2_findBranches_X2_findReach
set_option maxRecDepth 20000 in
theorem ggX2_findBranches_X2_comesTo : GoodIn wsX2_findBranches wsX2_comesTo := goodIn_r _ [17, 13, 23, 24, 25, 26, 27, 28, 29, 30, 31, 32, 33, 34, 35, 36, 37] (by decide +kernel) (by decide +kernel)
set_option maxRecDepth 20000 in
theorem gX2_findBranches_X2_comesTo : GoodIn wsX2_findBranches (wsV RX2 67 RX2 yX2_comesTo wsX2_comesTo) := goodIn_app (goodIn_of _ (by decide +kernel)) ggX2_findBranches_X2_comesTo
set_option maxRecDepth 20000 in
theorem ggX2_findBranches_X2_addBranch : GoodIn wsX2_findBranches wsX2_addBranch := goodIn_r _ [21, 3, 22, 23, 24, 25, 26, 27, 28, 29, 30, 31, 32, 33, 34, 35, 36, 37] (by decide +kernel) (by decide +kernel)
set_option maxRecDepth 20000 in
theorem gX2_findBranches_X2_addBranch : GoodIn wsX2_findBranches (wsV RX2 71 RX2 yX2_addBranch wsX2_addBranch) := goodIn_app (goodIn_of _ (by decide +kernel)) ggX2_findBranches_X2_addBranch
theorem dX2_findBranches_0 : decode cX2_findBranches 0 = .ok (.aload_n 0, 1) := by decide +kernel
theorem dX2_findBranches_1 : decode cX2_findBranches 1 = .ok (.invokevirtual 64, 3) := by decide +kernel
theorem dX2_findBranches_4 : decode cX2_findBranches 4 = .ok (.iconst 0, 1) := by decide +kernel
theorem dX2_findBranches_5 : decode cX2_findBranches 5 = .ok (.istore_n 1, 1) := by decide +kernel
theorem dX2_findBranches_6 : decode cX2_findBranches 6 = .ok (.iload_n 1, 1) := by decide +kernel
theorem dX2_findBranches_7 : decode cX2_findBranches 7 = .ok (.aload_n 0, 1) := by decide +kernel
theorem dX2_findBranches_8 : decode cX2_findBranches 8 = .ok (.getfield 40, 3) := by decide +kernel
theorem dX2_findBranches_11 : decode cX2_findBranches 11 = .ok (.if_icmp .ge 88, 3) := by decide +kernel
theorem dX2_findBranches_14 : decode cX2_findBranches 14 = .ok (.iconst 0, 1) := by decide +kernel
theorem dX2_findBranches_15 : decode cX2_findBranches 15 = .ok (.istore_n 2, 1) := by decide +kernel
theorem dX2_findBranches_16 : decode cX2_findBranches 16 = .ok (.iload_n 2, 1) := by decide +kernel
theorem dX2_findBranches_17 : decode cX2_findBranches 17 = .ok (.aload_n 0, 1) := by decide +kernel
theorem dX2_findBranches_18 : decode cX2_findBranches 18 = .ok (.getfield 33, 3) := by decide +kernel
theorem dX2_findBranches_21 : decode cX2_findBranches 21 = .ok (.if_icmp .ge 21, 3) := by decide +kernel
theorem dX2_findBranches_24 : decode cX2_findBranches 24 = .ok (.aload_n 0, 1) := by decide +kernel
theorem dX2_findBranches_25 : decode cX2_findBranches 25 = .ok (.getfield 49, 3) := by decide +kernel
theorem dX2_findBranches_28 : decode cX2_findBranches 28 = .ok (.iload_n 1, 1) := by decide +kernel
theorem dX2_findBranches_29 : decode cX2_findBranches 29 = .ok (.bipush 12, 2) := by decide +kernel
theorem dX2_findBranches_31 : decode cX2_findBranches 31 = .ok (.imul, 1) := by decide +kernel
theorem dX2_findBranches_32 : decode cX2_findBranches 32 = .ok (.iload_n 2, 1) := by decide +kernel
theorem dX2_findBranches_33 : decode cX2_findBranches 33 = .ok (.iadd, 1) := by decide +kernel
theorem dX2_findBranches_34 : decode cX2_findBranches 34 = .ok (.iconst 0, 1) := by decide +kernel
theorem dX2_findBranches_35 : decode cX2_findBranches 35 = .ok (.iastore, 1) := by decide +kernel
theorem dX2_findBranches_36 : decode cX2_findBranches 36 = .ok (.iinc 2 1, 3) := by decide +kernel
theorem dX2_findBranches_39 : decode cX2_findBranches 39 = .ok (.goto (-23), 3) := by decide +kernel
theorem dX2_findBranches_42 : decode cX2_findBranches 42 = .ok (.iconst 0, 1) := by decide +kernel
theorem dX2_findBranches_43 : decode cX2_findBranches 43 = .ok (.istore_n 2, 1) := by decide +kernel
theorem dX2_findBranches_44 : decode cX2_findBranches 44 = .ok (.iload_n 2, 1) := by decide +kernel
theorem dX2_findBranches_45 : decode cX2_findBranches 45 = .ok (.aload_n 0, 1) := by decide +kernel
theorem dX2_findBranches_46 : decode cX2_findBranches 46 = .ok (.getfield 37, 3) := by decide +kernel
theorem dX2_findBranches_49 : decode cX2_findBranches 49 = .ok (.if_icmp .ge 44, 3) := by decide +kernel
theorem dX2_findBranches_52 : decode cX2_findBranches 52 = .ok (.aload_n 0, 1) := by decide +kernel
theorem dX2_findBranches_53 : decode cX2_findBranches 53 = .ok (.aload_n 0, 1) := by decide +kernel
theorem dX2_findBranches_54 : decode cX2_findBranches 54 = .ok (.getfield 27, 3) := by decide +kernel
theorem dX2_findBranches_57 : decode cX2_findBranches 57 = .ok (.iload_n 2, 1) := by decide +kernel
theorem dX2_findBranches_58 : decode cX2_findBranches 58 = .ok (.iaload, 1) := by decide +kernel
theorem dX2_findBranches_59 : decode cX2_findBranches 59 = .ok (.aload_n 0, 1) := by decide +kernel
theorem dX2_findBranches_60 : decode cX2_findBranches 60 = .ok (.getfield 30, 3) := by decide +kernel
theorem dX2_findBranches_63 : decode cX2_findBranches 63 = .ok (.iload_n 1, 1) := by decide +kernel
theorem dX2_findBranches_64 : decode cX2_findBranches 64 = .ok (.iaload, 1) := by decide +kernel
theorem dX2_findBranches_65 : decode cX2_findBranches 65 = .ok (.invokevirtual 67, 3) := by decide +kernel
theorem dX2_findBranches_68 : decode cX2_findBranches 68 = .ok (.ifCond .eq 19, 3) := by decide +kernel
theorem dX2_findBranches_71 : decode cX2_findBranches 71 = .ok (.aload_n 0, 1) := by decide +kernel
theorem dX2_findBranches_72 : decode cX2_findBranches 72 = .ok (.iload_n 1, 1) := by decide +kernel
theorem dX2_findBranches_73 : decode cX2_findBranches 73 = .ok (.bipush 12, 2) := by decide +kernel
theorem dX2_findBranches_75 : decode cX2_findBranches 75 = .ok (.imul, 1) := by decide +kernel
theorem dX2_findBranches_76 : decode cX2_findBranches 76 = .ok (.aload_n 0, 1) := by decide +kernel
theorem dX2_findBranches_77 : decode cX2_findBranches 77 = .ok (.getfield 24, 3) := by decide +kernel
theorem dX2_findBranches_80 : decode cX2_findBranches 80 = .ok (.iload_n 2, 1) := by decide +kernel
theorem dX2_findBranches_81 : decode cX2_findBranches 81 = .ok (.iaload, 1) := by decide +kernel
theorem dX2_findBranches_82 : decode cX2_findBranches 82 = .ok (.iadd, 1) := by decide +kernel
theorem dX2_findBranches_83 : decode cX2_findBranches 83 = .ok (.iload_n 2, 1) := by decide +kernel
theorem dX2_findBranches_84 : decode cX2_findBranches 84 = .ok (.invokevirtual 71, 3) := by decide +kernel
theorem dX2_findBranches_87 : decode cX2_findBranches 87 = .ok (.iinc 2 1, 3) := by decide +kernel
theorem dX2_findBranches_90 : decode cX2_findBranches 90 = .ok (.goto (-46), 3) := by decide +kernel
theorem dX2_findBranches_93 : decode cX2_findBranches 93 = .ok (.iinc 1 1, 3) := by decide +kernel
theorem dX2_findBranches_96 : decode cX2_findBranches 96 = .ok (.goto (-90), 3) := by decide +kernel
theorem dX2_findBranches_99 : decode cX2_findBranches 99 = .ok (.return_, 1) := by decide +kernel
theorem dX2_findReach_0 : decode cX2_findReach 0 = .ok (.aload_n 0, 1) := by decide +kernel
theorem dX2_findReach_1 : decode cX2_findReach 1 = .ok (.getfield 33, 3) := by decide +kernel
theorem dX2_findReach_4 : decode cX2_findReach 4 = .ok (.iconst 1, 1) := by decide +kernel
theorem dX2_findReach_5 : decode cX2_findReach 5 = .ok (.isub, 1) := by decide +kernel
theorem dX2_findReach_6 : decode cX2_findReach 6 = .ok (.istore_n 1, 1) := by decide +kernel
theorem dX2_findReach_7 : decode cX2_findReach 7 = .ok (.iload_n 1, 1) := by decide +kernel
theorem dX2_findReach_8 : decode cX2_findReach 8 = .ok (.ifCond .lt 64, 3) := by decide +kernel
theorem dX2_findReach_11 : decode cX2_findReach 11 = .ok (.aload_n 0, 1) := by decide +kernel
theorem dX2_findReach_12 : decode cX2_findReach 12 = .ok (.getfield 46, 3) := by decide +kernel
theorem dX2_findReach_15 : decode cX2_findReach 15 = .ok (.iload_n 1, 1) := by decide +kernel
theorem dX2_findReach_16 : decode cX2_findReach 16 = .ok (.iconst 1, 1) := by decide +kernel
theorem dX2_findReach_17 : decode cX2_findReach 17 = .ok (.iload_n 1, 1) := by decide +kernel
theorem dX2_findReach_18 : decode cX2_findReach 18 = .ok (.ishl, 1) := by decide +kernel
theorem dX2_findReach_19 : decode cX2_findReach 19 = .ok (.iastore, 1) := by decide +kernel
theorem dX2_findReach_20 : decode cX2_findReach 20 = .ok (.iconst 0, 1) := by decide +kernel
theorem dX2_findReach_21 : decode cX2_findReach 21 = .ok (.istore_n 2, 1) := by decide +kernel
theorem dX2_findReach_22 : decode cX2_findReach 22 = .ok (.iload_n 2, 1) := by decide +kernel
theorem dX2_findReach_23 : decode cX2_findReach 23 = .ok (.aload_n 0, 1) := by decide +kernel
theorem dX2_findReach_24 : decode cX2_findReach 24 = .ok (.getfield 37, 3) := by decide +kernel
theorem dX2_findReach_27 : decode cX2_findReach 27 = .ok (.if_icmp .ge 39, 3) := by decide +kernel
theorem dX2_findReach_30 : decode cX2_findReach 30 = .ok (.aload_n 0, 1) := by decide +kernel
theorem dX2_findReach_31 : decode cX2_findReach 31 = .ok (.getfield 24, 3) := by decide +kernel
theorem dX2_findReach_34 : decode cX2_findReach 34 = .ok (.iload_n 2, 1) := by decide +kernel
theorem dX2_findReach_35 : decode cX2_findReach 35 = .ok (.iaload, 1) := by decide +kernel
theorem dX2_findReach_36 : decode cX2_findReach 36 = .ok (.iload_n 1, 1) := by decide +kernel
theorem dX2_findReach_37 : decode cX2_findReach 37 = .ok (.if_icmp .ne 23, 3) := by decide +kernel
theorem dX2_findReach_40 : decode cX2_findReach 40 = .ok (.aload_n 0, 1) := by decide +kernel
theorem dX2_findReach_41 : decode cX2_findReach 41 = .ok (.getfield 46, 3) := by decide +kernel
theorem dX2_findReach_44 : decode cX2_findReach 44 = .ok (.iload_n 1, 1) := by decide +kernel
theorem dX2_findReach_45 : decode cX2_findReach 45 = .ok (.dup2, 1) := by decide +kernel
theorem dX2_findReach_46 : decode cX2_findReach 46 = .ok (.iaload, 1) := by decide +kernel
theorem dX2_findReach_47 : decode cX2_findReach 47 = .ok (.aload_n 0, 1) := by decide +kernel
theorem dX2_findReach_48 : decode cX2_findReach 48 = .ok (.getfield 46, 3) := by decide +kernel
theorem dX2_findReach_51 : decode cX2_findReach 51 = .ok (.aload_n 0, 1) := by decide +kernel
theorem dX2_findReach_52 : decode cX2_findReach 52 = .ok (.getfield 27, 3) := by decide +kernel
theorem dX2_findReach_55 : decode cX2_findReach 55 = .ok (.iload_n 2, 1) := by decide +kernel
theorem dX2_findReach_56 : decode cX2_findReach 56 = .ok (.iaload, 1) := by decide +kernel
theorem dX2_findReach_57 : decode cX2_findReach 57 = .ok (.iaload, 1) := by decide +kernel
theorem dX2_findReach_58 : decode cX2_findReach 58 = .ok (.ior, 1) := by decide +kernel
theorem dX2_findReach_59 : decode cX2_findReach 59 = .ok (.iastore, 1) := by decide +kernel
theorem dX2_findReach_60 : decode cX2_findReach 60 = .ok (.iinc 2 1, 3) := by decide +kernel
theorem dX2_findReach_63 : decode cX2_findReach 63 = .ok (.goto (-41), 3) := by decide +kernel
theorem dX2_findReach_66 : decode cX2_findReach 66 = .ok (.iinc 1 (-1), 3) := by decide +kernel
theorem dX2_findReach_69 : decode cX2_findReach 69 = .ok (.goto (-62), 3) := by decide +kernel
theorem dX2_findReach_72 : decode cX2_findReach 72 = .ok (.return_, 1) := by decide +kernel
set_option maxRecDepth 20000 in
theorem ggX5_readText_X2_empty : GoodIn wsX5_readText wsX2_empty := goodIn_r _ [17, 18, 19, 20, 21, 173, 174, 175, 176, 177, 178, 179, 180, 181, 182, 183, 184, 185, 186, 187] (by decide +kernel) (by decide +kernel)
set_option maxRecDepth 20000 in
theorem gX5_readText_X2_empty : GoodIn wsX5_readText (wsV RX5 53 RX2 yX2_empty wsX2_empty) := goodIn_app (goodIn_of _ (by decide +kernel)) ggX5_readText_X2_empty
set_option maxRecDepth 20000 in
theorem ggX5_readText_X5_step : GoodIn wsX5_readText wsX5_step := goodIn_r _ [26, 7, 9, 27, 6, 1, 12, 28, 29, 25, 30, 31, 32, 33, 164, 165, 166, 167, 168, 169, 170, 171, 172] (by decide +kernel) (by decide +kernel)
set_option maxRecDepth 20000 in
theorem gX5_readText_X5_step : GoodIn wsX5_readText (wsV RX5 58 RX5 yX5_step wsX5_step) := goodIn_app (goodIn_of _ (by decide +kernel)) ggX5_readText_X5_step
set_option maxRecDepth 20000 in
theorem ggX5_readText_X5_readClause : GoodIn wsX5_readText wsX5_readClause := goodIn_r _ [37, 7, 12, 38, 39, 40, 25, 41, 9, 27, 1, 42, 43, 44, 45, 46, 47, 48, 49, 50, 51, 52, 53, 54, 55, 56, 57, 58, 59, 60, 61, 62, 63, 64, 65, 66, 67, 68, 69, 70, 71, 72, 73, 74, 75, 76, 77, 78, 79, 80, 81, 82, 83, 84, 85, 86, 87, 88, 89, 90, 91, 92, 93, 94, 11, 95, 96, 97, 98, 99, 100, 101, 102, 103, 8, 22, 23, 24, 26, 6, 28, 29, 30, 31, 32, 33, 104, 105, 106, 107, 108, 109, 110, 111, 112, 113, 114, 115, 116, 117, 118, 119, 120, 121, 122, 123, 124, 125, 126, 127, 128, 129, 130, 131, 132, 133, 16, 134, 19, 135, 136, 137, 138, 139, 140, 141, 142, 143, 144, 145, 146, 147, 148, 149, 150, 151, 152, 153, 154, 155, 156, 157, 20, 158, 159, 160, 161, 162, 10, 163, 164, 165, 166, 167, 168, 169, 170, 171, 172, 173, 174, 175, 176, 177, 178, 179, 180, 181, 182, 183, 184, 185, 186, 187] (by decide +kernel) (by decide +kernel)
set_option maxRecDepth 20000 in
theorem gX5_readText_X5_readClause : GoodIn wsX5_readText (wsV RX5 61 RX5 yX5_readClause wsX5_readClause) := goodIn_app (goodIn_of _ (by decide +kernel)) ggX5_readText_X5_readClause
theorem dX5_readText_0 : decode cX5_readText 0 = .ok (.aload_n 0, 1) := by decide +kernel
theorem dX5_readText_1 : decode cX5_readText 1 = .ok (.iload_n 1, 1) := by decide +kernel
theorem dX5_readText_2 : decode cX5_readText 2 = .ok (.aload_n 0, 1) := by decide +kernel
theorem dX5_readText_3 : decode cX5_readText 3 = .ok (.getfield 44, 3) := by decide +kernel
theorem dX5_readText_6 : decode cX5_readText 6 = .ok (.arraylength, 1) := by decide +kernel
theorem dX5_readText_7 : decode cX5_readText 7 = .ok (.invokestatic 47, 3) := by decide +kernel
theorem dX5_readText_10 : decode cX5_readText 10 = .ok (.putfield 18, 3) := by decide +kernel
theorem dX5_readText_13 : decode cX5_readText 13 = .ok (.aload_n 0, 1) := by decide +kernel
theorem dX5_readText_14 : decode cX5_readText 14 = .ok (.iconst 0, 1) := by decide +kernel
theorem dX5_readText_15 : decode cX5_readText 15 = .ok (.putfield 15, 3) := by decide +kernel
theorem dX5_readText_18 : decode cX5_readText 18 = .ok (.aload_n 0, 1) := by decide +kernel
theorem dX5_readText_19 : decode cX5_readText 19 = .ok (.iconst (-1), 1) := by decide +kernel
theorem dX5_readText_20 : decode cX5_readText 20 = .ok (.putfield 9, 3) := by decide +kernel
theorem dX5_readText_23 : decode cX5_readText 23 = .ok (.aload_n 0, 1) := by decide +kernel
theorem dX5_readText_24 : decode cX5_readText 24 = .ok (.iconst 0, 1) := by decide +kernel
theorem dX5_readText_25 : decode cX5_readText 25 = .ok (.putfield 27, 3) := by decide +kernel
theorem dX5_readText_28 : decode cX5_readText 28 = .ok (.aload_n 0, 1) := by decide +kernel
theorem dX5_readText_29 : decode cX5_readText 29 = .ok (.iconst 0, 1) := by decide +kernel
theorem dX5_readText_30 : decode cX5_readText 30 = .ok (.putfield 30, 3) := by decide +kernel
theorem dX5_readText_33 : decode cX5_readText 33 = .ok (.aload_n 0, 1) := by decide +kernel
theorem dX5_readText_34 : decode cX5_readText 34 = .ok (.getfield 34, 3) := by decide +kernel
theorem dX5_readText_37 : decode cX5_readText 37 = .ok (.invokevirtual 53, 3) := by decide +kernel
theorem dX5_readText_40 : decode cX5_readText 40 = .ok (.aload_n 0, 1) := by decide +kernel
theorem dX5_readText_41 : decode cX5_readText 41 = .ok (.invokevirtual 58, 3) := by decide +kernel
theorem dX5_readText_44 : decode cX5_readText 44 = .ok (.iconst 0, 1) := by decide +kernel
theorem dX5_readText_45 : decode cX5_readText 45 = .ok (.istore_n 2, 1) := by decide +kernel
theorem dX5_readText_46 : decode cX5_readText 46 = .ok (.iload_n 2, 1) := by decide +kernel
theorem dX5_readText_47 : decode cX5_readText 47 = .ok (.sipush 700, 3) := by decide +kernel
theorem dX5_readText_50 : decode cX5_readText 50 = .ok (.if_icmp .ge 27, 3) := by decide +kernel
theorem dX5_readText_53 : decode cX5_readText 53 = .ok (.aload_n 0, 1) := by decide +kernel
theorem dX5_readText_54 : decode cX5_readText 54 = .ok (.getfield 15, 3) := by decide +kernel
theorem dX5_readText_57 : decode cX5_readText 57 = .ok (.ifCond .ne 20, 3) := by decide +kernel
theorem dX5_readText_60 : decode cX5_readText 60 = .ok (.aload_n 0, 1) := by decide +kernel
theorem dX5_readText_61 : decode cX5_readText 61 = .ok (.getfield 21, 3) := by decide +kernel
theorem dX5_readText_64 : decode cX5_readText 64 = .ok (.ifCond .eq 13, 3) := by decide +kernel
theorem dX5_readText_67 : decode cX5_readText 67 = .ok (.aload_n 0, 1) := by decide +kernel
theorem dX5_readText_68 : decode cX5_readText 68 = .ok (.invokevirtual 61, 3) := by decide +kernel
theorem dX5_readText_71 : decode cX5_readText 71 = .ok (.iinc 2 1, 3) := by decide +kernel
theorem dX5_readText_74 : decode cX5_readText 74 = .ok (.goto (-28), 3) := by decide +kernel
theorem dX5_readText_77 : decode cX5_readText 77 = .ok (.aload_n 0, 1) := by decide +kernel
theorem dX5_readText_78 : decode cX5_readText 78 = .ok (.getfield 15, 3) := by decide +kernel
theorem dX5_readText_81 : decode cX5_readText 81 = .ok (.ireturn, 1) := by decide +kernel
set_option maxRecDepth 20000 in
theorem ggX5_step_X5_isLetter : GoodIn wsX5_step wsX5_isLetter := goodIn_r _ [10] (by decide +kernel) (by decide +kernel)
set_option maxRecDepth 20000 in
theorem gX5_step_X5_isLetter : GoodIn wsX5_step (va_wsS RX5 167 yX5_isLetter wsX5_isLetter) := goodIn_app (goodIn_of _ (by decide +kernel)) ggX5_step_X5_isLetter
set_option maxRecDepth 20000 in
theorem ggX5_step_X5_isDigit : GoodIn wsX5_step wsX5_isDigit := goodIn_r _ [13] (by decide +kernel) (by decide +kernel)
set_option maxRecDepth 20000 in
theorem gX5_step_X5_isDigit : GoodIn wsX5_step (va_wsS RX5 171 yX5_isDigit wsX5_isDigit) := goodIn_app (goodIn_of _ (by decide +kernel)) ggX5_step_X5_isDigit
theorem dX5_step_0 : decode cX5_step 0 = .ok (.aload_n 0, 1) := by decide +kernel
theorem dX5_step_1 : decode cX5_step 1 = .ok (.getfield 15, 3) := by decide +kernel
theorem dX5_step_4 : decode cX5_step 4 = .ok (.ifCond .eq 4, 3) := by decide +kernel
theorem dX5_step_7 : decode cX5_step 7 = .ok (.return_, 1) := by decide +kernel
theorem dX5_step_8 : decode cX5_step 8 = .ok (.aload_n 0, 1) := by decide +kernel
theorem dX5_step_9 : decode cX5_step 9 = .ok (.aload_n 0, 1) := by decide +kernel
theorem dX5_step_10 : decode cX5_step 10 = .ok (.getfield 27, 3) := by decide +kernel
theorem dX5_step_13 : decode cX5_step 13 = .ok (.putfield 24, 3) := by decide +kernel
theorem dX5_step_16 : decode cX5_step 16 = .ok (.aload_n 0, 1) := by decide +kernel
theorem dX5_step_17 : decode cX5_step 17 = .ok (.getfield 24, 3) := by decide +kernel
theorem dX5_step_20 : decode cX5_step 20 = .ok (.aload_n 0, 1) := by decide +kernel
theorem dX5_step_21 : decode cX5_step 21 = .ok (.getfield 18, 3) := by decide +kernel
theorem dX5_step_24 : decode cX5_step 24 = .ok (.if_icmp .ge 44, 3) := by decide +kernel
theorem dX5_step_27 : decode cX5_step 27 = .ok (.aload_n 0, 1) := by decide +kernel
theorem dX5_step_28 : decode cX5_step 28 = .ok (.getfield 44, 3) := by decide +kernel
theorem dX5_step_31 : decode cX5_step 31 = .ok (.aload_n 0, 1) := by decide +kernel
theorem dX5_step_32 : decode cX5_step 32 = .ok (.getfield 24, 3) := by decide +kernel
theorem dX5_step_35 : decode cX5_step 35 = .ok (.baload, 1) := by decide +kernel
theorem dX5_step_36 : decode cX5_step 36 = .ok (.bipush 32, 2) := by decide +kernel
theorem dX5_step_38 : decode cX5_step 38 = .ok (.if_icmp .eq 17, 3) := by decide +kernel
theorem dX5_step_41 : decode cX5_step 41 = .ok (.aload_n 0, 1) := by decide +kernel
theorem dX5_step_42 : decode cX5_step 42 = .ok (.getfield 44, 3) := by decide +kernel
theorem dX5_step_45 : decode cX5_step 45 = .ok (.aload_n 0, 1) := by decide +kernel
theorem dX5_step_46 : decode cX5_step 46 = .ok (.getfield 24, 3) := by decide +kernel
theorem dX5_step_49 : decode cX5_step 49 = .ok (.baload, 1) := by decide +kernel
theorem dX5_step_50 : decode cX5_step 50 = .ok (.bipush 10, 2) := by decide +kernel
theorem dX5_step_52 : decode cX5_step 52 = .ok (.if_icmp .ne 16, 3) := by decide +kernel
theorem dX5_step_55 : decode cX5_step 55 = .ok (.aload_n 0, 1) := by decide +kernel
theorem dX5_step_56 : decode cX5_step 56 = .ok (.dup, 1) := by decide +kernel
theorem dX5_step_57 : decode cX5_step 57 = .ok (.getfield 24, 3) := by decide +kernel
theorem dX5_step_60 : decode cX5_step 60 = .ok (.iconst 1, 1) := by decide +kernel
theorem dX5_step_61 : decode cX5_step 61 = .ok (.iadd, 1) := by decide +kernel
theorem dX5_step_62 : decode cX5_step 62 = .ok (.putfield 24, 3) := by decide +kernel
theorem dX5_step_65 : decode cX5_step 65 = .ok (.goto (-49), 3) := by decide +kernel
theorem dX5_step_68 : decode cX5_step 68 = .ok (.aload_n 0, 1) := by decide +kernel
theorem dX5_step_69 : decode cX5_step 69 = .ok (.aload_n 0, 1) := by decide +kernel
theorem dX5_step_70 : decode cX5_step 70 = .ok (.getfield 24, 3) := by decide +kernel
theorem dX5_step_73 : decode cX5_step 73 = .ok (.putfield 27, 3) := by decide +kernel
theorem dX5_step_76 : decode cX5_step 76 = .ok (.aload_n 0, 1) := by decide +kernel
theorem dX5_step_77 : decode cX5_step 77 = .ok (.getfield 24, 3) := by decide +kernel
theorem dX5_step_80 : decode cX5_step 80 = .ok (.aload_n 0, 1) := by decide +kernel
theorem dX5_step_81 : decode cX5_step 81 = .ok (.getfield 18, 3) := by decide +kernel
theorem dX5_step_84 : decode cX5_step 84 = .ok (.if_icmp .lt 11, 3) := by decide +kernel
theorem dX5_step_87 : decode cX5_step 87 = .ok (.aload_n 0, 1) := by decide +kernel
theorem dX5_step_88 : decode cX5_step 88 = .ok (.iconst 0, 1) := by decide +kernel
theorem dX5_step_89 : decode cX5_step 89 = .ok (.putfield 21, 3) := by decide +kernel
theorem dX5_step_92 : decode cX5_step 92 = .ok (.goto 154, 3) := by decide +kernel
theorem dX5_step_95 : decode cX5_step 95 = .ok (.aload_n 0, 1) := by decide +kernel
theorem dX5_step_96 : decode cX5_step 96 = .ok (.getfield 44, 3) := by decide +kernel
theorem dX5_step_99 : decode cX5_step 99 = .ok (.aload_n 0, 1) := by decide +kernel
theorem dX5_step_100 : decode cX5_step 100 = .ok (.getfield 24, 3) := by decide +kernel
theorem dX5_step_103 : decode cX5_step 103 = .ok (.baload, 1) := by decide +kernel
theorem dX5_step_104 : decode cX5_step 104 = .ok (.invokestatic 167, 3) := by decide +kernel
theorem dX5_step_107 : decode cX5_step 107 = .ok (.ifCond .eq 47, 3) := by decide +kernel
theorem dX5_step_110 : decode cX5_step 110 = .ok (.aload_n 0, 1) := by decide +kernel
theorem dX5_step_111 : decode cX5_step 111 = .ok (.iconst 1, 1) := by decide +kernel
theorem dX5_step_112 : decode cX5_step 112 = .ok (.putfield 21, 3) := by decide +kernel
theorem dX5_step_115 : decode cX5_step 115 = .ok (.aload_n 0, 1) := by decide +kernel
theorem dX5_step_116 : decode cX5_step 116 = .ok (.getfield 27, 3) := by decide +kernel
theorem dX5_step_119 : decode cX5_step 119 = .ok (.aload_n 0, 1) := by decide +kernel
theorem dX5_step_120 : decode cX5_step 120 = .ok (.getfield 18, 3) := by decide +kernel
theorem dX5_step_123 : decode cX5_step 123 = .ok (.if_icmp .ge 123, 3) := by decide +kernel
theorem dX5_step_126 : decode cX5_step 126 = .ok (.aload_n 0, 1) := by decide +kernel
theorem dX5_step_127 : decode cX5_step 127 = .ok (.getfield 44, 3) := by decide +kernel
theorem dX5_step_130 : decode cX5_step 130 = .ok (.aload_n 0, 1) := by decide +kernel
theorem dX5_step_131 : decode cX5_step 131 = .ok (.getfield 27, 3) := by decide +kernel
theorem dX5_step_134 : decode cX5_step 134 = .ok (.baload, 1) := by decide +kernel
theorem dX5_step_135 : decode cX5_step 135 = .ok (.invokestatic 167, 3) := by decide +kernel
theorem dX5_step_138 : decode cX5_step 138 = .ok (.ifCond .eq 108, 3) := by decide +kernel
theorem dX5_step_141 : decode cX5_step 141 = .ok (.aload_n 0, 1) := by decide +kernel
theorem dX5_step_142 : decode cX5_step 142 = .ok (.dup, 1) := by decide +kernel
theorem dX5_step_143 : decode cX5_step 143 = .ok (.getfield 27, 3) := by decide +kernel
theorem dX5_step_146 : decode cX5_step 146 = .ok (.iconst 1, 1) := by decide +kernel
theorem dX5_step_147 : decode cX5_step 147 = .ok (.iadd, 1) := by decide +kernel
theorem dX5_step_148 : decode cX5_step 148 = .ok (.putfield 27, 3) := by decide +kernel
theorem dX5_step_151 : decode cX5_step 151 = .ok (.goto (-36), 3) := by decide +kernel
theorem dX5_step_154 : decode cX5_step 154 = .ok (.aload_n 0, 1) := by decide +kernel
theorem dX5_step_155 : decode cX5_step 155 = .ok (.getfield 44, 3) := by decide +kernel
theorem dX5_step_158 : decode cX5_step 158 = .ok (.aload_n 0, 1) := by decide +kernel
theorem dX5_step_159 : decode cX5_step 159 = .ok (.getfield 24, 3) := by decide +kernel
theorem dX5_step_162 : decode cX5_step 162 = .ok (.baload, 1) := by decide +kernel
theorem dX5_step_163 : decode cX5_step 163 = .ok (.invokestatic 171, 3) := by decide +kernel
theorem dX5_step_166 : decode cX5_step 166 = .ok (.ifCond .eq 47, 3) := by decide +kernel
theorem dX5_step_169 : decode cX5_step 169 = .ok (.aload_n 0, 1) := by decide +kernel
theorem dX5_step_170 : decode cX5_step 170 = .ok (.iconst 2, 1) := by decide +kernel
theorem dX5_step_171 : decode cX5_step 171 = .ok (.putfield 21, 3) := by decide +kernel
theorem dX5_step_174 : decode cX5_step 174 = .ok (.aload_n 0, 1) := by decide +kernel
theorem dX5_step_175 : decode cX5_step 175 = .ok (.getfield 27, 3) := by decide +kernel
theorem dX5_step_178 : decode cX5_step 178 = .ok (.aload_n 0, 1) := by decide +kernel
theorem dX5_step_179 : decode cX5_step 179 = .ok (.getfield 18, 3) := by decide +kernel
theorem dX5_step_182 : decode cX5_step 182 = .ok (.if_icmp .ge 64, 3) := by decide +kernel
theorem dX5_step_185 : decode cX5_step 185 = .ok (.aload_n 0, 1) := by decide +kernel
theorem dX5_step_186 : decode cX5_step 186 = .ok (.getfield 44, 3) := by decide +kernel
theorem dX5_step_189 : decode cX5_step 189 = .ok (.aload_n 0, 1) := by decide +kernel
theorem dX5_step_190 : decode cX5_step 190 = .ok (.getfield 27, 3) := by decide +kernel
theorem dX5_step_193 : decode cX5_step 193 = .ok (.baload, 1) := by decide +kernel
theorem dX5_step_194 : decode cX5_step 194 = .ok (.invokestatic 171, 3) := by decide +kernel
theorem dX5_step_197 : decode cX5_step 197 = .ok (.ifCond .eq 49, 3) := by decide +kernel
theorem dX5_step_200 : decode cX5_step 200 = .ok (.aload_n 0, 1) := by decide +kernel
theorem dX5_step_201 : decode cX5_step 201 = .ok (.dup, 1) := by decide +kernel
theorem dX5_step_202 : decode cX5_step 202 = .ok (.getfield 27, 3) := by decide +kernel
theorem dX5_step_205 : decode cX5_step 205 = .ok (.iconst 1, 1) := by decide +kernel
theorem dX5_step_206 : decode cX5_step 206 = .ok (.iadd, 1) := by decide +kernel
theorem dX5_step_207 : decode cX5_step 207 = .ok (.putfield 27, 3) := by decide +kernel
theorem dX5_step_210 : decode cX5_step 210 = .ok (.goto (-36), 3) := by decide +kernel
theorem dX5_step_213 : decode cX5_step 213 = .ok (.aload_n 0, 1) := by decide +kernel
theorem dX5_step_214 : decode cX5_step 214 = .ok (.aload_n 0, 1) := by decide +kernel
theorem dX5_step_215 : decode cX5_step 215 = .ok (.getfield 44, 3) := by decide +kernel
theorem dX5_step_218 : decode cX5_step 218 = .ok (.aload_n 0, 1) := by decide +kernel
theorem dX5_step_219 : decode cX5_step 219 = .ok (.getfield 24, 3) := by decide +kernel
theorem dX5_step_222 : decode cX5_step 222 = .ok (.baload, 1) := by decide +kernel
theorem dX5_step_223 : decode cX5_step 223 = .ok (.bipush 59, 2) := by decide +kernel
theorem dX5_step_225 : decode cX5_step 225 = .ok (.if_icmp .ne 7, 3) := by decide +kernel
theorem dX5_step_228 : decode cX5_step 228 = .ok (.iconst 3, 1) := by decide +kernel
theorem dX5_step_229 : decode cX5_step 229 = .ok (.goto 4, 3) := by decide +kernel
theorem dX5_step_232 : decode cX5_step 232 = .ok (.iconst 4, 1) := by decide +kernel
theorem dX5_step_233 : decode cX5_step 233 = .ok (.putfield 21, 3) := by decide +kernel
theorem dX5_step_236 : decode cX5_step 236 = .ok (.aload_n 0, 1) := by decide +kernel
theorem dX5_step_237 : decode cX5_step 237 = .ok (.dup, 1) := by decide +kernel
theorem dX5_step_238 : decode cX5_step 238 = .ok (.getfield 27, 3) := by decide +kernel
theorem dX5_step_241 : decode cX5_step 241 = .ok (.iconst 1, 1) := by decide +kernel
theorem dX5_step_242 : decode cX5_step 242 = .ok (.iadd, 1) := by decide +kernel
theorem dX5_step_243 : decode cX5_step 243 = .ok (.putfield 27, 3) := by decide +kernel
theorem dX5_step_246 : decode cX5_step 246 = .ok (.return_, 1) := by decide +kernel
set_option maxRecDepth 20000 in
theorem ggX6_passYear_X6_draw : GoodIn wsX6_passYear wsX6_draw := goodIn_r _ [7, 8, 9, 170, 171, 172, 173, 174] (by decide +kernel) (by decide +kernel)
set_option maxRecDepth 20000 in
theorem gX6_passYear_X6_draw : GoodIn wsX6_passYear (wsV RX6 141 RX6 yX6_draw wsX6_draw) := goodIn_app (goodIn_of _ (by decide +kernel)) ggX6_passYear_X6_draw
set_option maxRecDepth 20000 in
theorem ggX6_passYear_X6_sendSweep : GoodIn wsX6_passYear wsX6_sendSweep := goodIn_r _ [13, 14, 15, 16, 17, 18, 19, 20, 21, 22, 23, 24, 25, 26, 27, 28, 29, 6, 30, 31, 32, 33, 34, 35, 36, 37, 38, 39, 40, 41, 42, 43, 44, 45, 46, 47, 48, 49, 50, 51, 52, 53, 54, 55, 56, 57, 58, 59, 60, 61, 62, 63, 64, 65, 66, 67, 68, 69, 70, 71, 72, 73, 74, 75, 76, 77, 78, 79, 80, 81, 82, 83, 84, 85, 86, 87, 88, 89, 90, 91, 92, 93, 94, 95, 96, 97, 98, 99, 100, 101, 102, 103, 104, 105, 106, 107, 108, 109, 110, 111, 112, 113, 114, 115, 116, 117, 118, 119, 120, 121, 122, 123, 124, 125, 126, 127, 128, 129, 1, 130, 131, 132, 133, 134, 135, 136, 137, 138, 139, 140, 141, 142, 143, 144, 145, 146, 147, 148, 149, 150, 151, 152, 153, 154, 155, 156, 157, 158, 170, 171, 172, 173, 174, 190, 191, 192, 193, 194, 195, 196, 197, 198, 199, 200, 201, 202, 203, 204, 205, 206, 207, 208, 209, 210, 211, 212, 175, 176, 177, 178, 179, 180, 181, 182, 183, 184, 185, 186, 187, 188, 189] (by decide +kernel) (by decide +kernel)
set_option maxRecDepth 20000 in
theorem gX6_passYear_X6_sendSweep : GoodIn wsX6_passYear (wsV RX6 147 RX6 yX6_sendSweep wsX6_sendSweep) := goodIn_app (goodIn_of _ (by decide +kernel)) ggX6_passYear_X6_sendSweep
set_option maxRecDepth 20000 in
theorem ggX6_passYear_X6_sendTrace : GoodIn wsX6_passYear wsX6_sendTrace := goodIn_r _ [162, 14, 1, 163, 15, 16, 17, 18, 19, 20, 21, 22, 23, 24, 25, 26, 72, 73, 74, 6, 75, 76, 77, 78, 79, 80, 81, 82, 83, 84, 85, 86, 87, 88, 89, 90, 91, 92, 93, 94, 95, 96, 97, 98, 99, 100, 101, 102, 103, 104, 105, 106, 107, 108, 109, 110, 111, 112, 113, 114, 115, 116, 117, 118, 119, 120, 121, 122, 123, 124, 125, 126, 127, 128, 129, 130, 131, 132, 133, 134, 135, 136, 137, 138, 139, 140, 141, 142, 143, 144, 145, 146, 147, 148, 149, 150, 151, 152, 153, 41, 42, 154, 155, 156, 157, 158, 164, 165, 166, 167, 168, 169, 170, 171, 172, 173, 174, 175, 176, 177, 178, 179, 180, 181, 182, 183, 184, 185, 186, 187, 188, 189, 190, 191, 192, 193, 194, 195, 196, 197, 198, 199, 203, 204, 205, 206, 207, 208, 209, 210, 211, 212] (by decide +kernel) (by decide +kernel)
set_option maxRecDepth 20000 in
theorem gX6_passYear_X6_sendTrace : GoodIn wsX6_passYear (wsV RX6 150 RX6 yX6_sendTrace wsX6_sendTrace) := goodIn_app (goodIn_of _ (by decide +kernel)) ggX6_passYear_X6_sendTrace
set_option maxRecDepth 20000 in
theorem ggX6_passYear_X6_sendOne : GoodIn wsX6_passYear wsX6_sendOne := goodIn_r _ [75, 14, 76, 77, 78, 79, 80, 81, 15, 16, 17, 18, 19, 20, 21, 22, 23, 24, 25, 26, 82, 83, 84, 85, 86, 87, 88, 89, 90, 91, 92, 93, 94, 95, 96, 97, 98, 99, 100, 101, 102, 103, 104, 105, 106, 107, 108, 109, 110, 111, 112, 113, 114, 115, 116, 117, 118, 119, 120, 121, 122, 123, 124, 125, 126, 127, 128, 6, 129, 1, 130, 131, 132, 133, 134, 135, 136, 137, 138, 139, 140, 141, 142, 143, 144, 145, 146, 147, 148, 149, 150, 151, 152, 153, 41, 42, 154, 155, 156, 157, 158, 170, 171, 172, 173, 174, 203, 204, 205, 206, 207, 208, 209, 210, 211, 212, 190, 191, 192, 193, 194, 195, 196, 197, 198, 199, 175, 176, 177, 178, 179, 180, 181, 182, 183, 184, 185, 186, 187, 188, 189] (by decide +kernel) (by decide +kernel)
set_option maxRecDepth 20000 in
theorem gX6_passYear_X6_sendOne : GoodIn wsX6_passYear (wsV RX6 110 RX6 yX6_sendOne wsX6_sendOne) := goodIn_app (goodIn_of _ (by decide +kernel)) ggX6_passYear_X6_sendOne
theorem dX6_passYear_0 : decode cX6_passYear 0 = .ok (.aload_n 0, 1) := by decide +kernel
theorem dX6_passYear_1 : decode cX6_passYear 1 = .ok (.iconst 4, 1) := by decide +kernel
theorem dX6_passYear_2 : decode cX6_passYear 2 = .ok (.invokevirtual 141, 3) := by decide +kernel
theorem dX6_passYear_5 : decode cX6_passYear 5 = .ok (.istore_n 1, 1) := by decide +kernel
theorem dX6_passYear_6 : decode cX6_passYear 6 = .ok (.aload_n 0, 1) := by decide +kernel
theorem dX6_passYear_7 : decode cX6_passYear 7 = .ok (.getfield 15, 3) := by decide +kernel
theorem dX6_passYear_10 : decode cX6_passYear 10 = .ok (.getfield 144, 3) := by decide +kernel
theorem dX6_passYear_13 : decode cX6_passYear 13 = .ok (.ifCond .gt 5, 3) := by decide +kernel
theorem dX6_passYear_16 : decode cX6_passYear 16 = .ok (.iconst 0, 1) := by decide +kernel
theorem dX6_passYear_17 : decode cX6_passYear 17 = .ok (.ireturn, 1) := by decide +kernel
theorem dX6_passYear_18 : decode cX6_passYear 18 = .ok (.iload_n 1, 1) := by decide +kernel
theorem dX6_passYear_19 : decode cX6_passYear 19 = .ok (.iconst 2, 1) := by decide +kernel
theorem dX6_passYear_20 : decode cX6_passYear 20 = .ok (.if_icmp .ne 29, 3) := by decide +kernel
theorem dX6_passYear_23 : decode cX6_passYear 23 = .ok (.aload_n 0, 1) := by decide +kernel
theorem dX6_passYear_24 : decode cX6_passYear 24 = .ok (.aload_n 0, 1) := by decide +kernel
theorem dX6_passYear_25 : decode cX6_passYear 25 = .ok (.getfield 15, 3) := by decide +kernel
theorem dX6_passYear_28 : decode cX6_passYear 28 = .ok (.getfield 144, 3) := by decide +kernel
theorem dX6_passYear_31 : decode cX6_passYear 31 = .ok (.invokevirtual 141, 3) := by decide +kernel
theorem dX6_passYear_34 : decode cX6_passYear 34 = .ok (.istore_n 2, 1) := by decide +kernel
theorem dX6_passYear_35 : decode cX6_passYear 35 = .ok (.aload_n 0, 1) := by decide +kernel
theorem dX6_passYear_36 : decode cX6_passYear 36 = .ok (.iload_n 2, 1) := by decide +kernel
theorem dX6_passYear_37 : decode cX6_passYear 37 = .ok (.aload_n 0, 1) := by decide +kernel
theorem dX6_passYear_38 : decode cX6_passYear 38 = .ok (.bipush 10, 2) := by decide +kernel
theorem dX6_passYear_40 : decode cX6_passYear 40 = .ok (.invokevirtual 141, 3) := by decide +kernel
theorem dX6_passYear_43 : decode cX6_passYear 43 = .ok (.iconst 1, 1) := by decide +kernel
theorem dX6_passYear_44 : decode cX6_passYear 44 = .ok (.iadd, 1) := by decide +kernel
theorem dX6_passYear_45 : decode cX6_passYear 45 = .ok (.invokevirtual 147, 3) := by decide +kernel
theorem dX6_passYear_48 : decode cX6_passYear 48 = .ok (.ireturn, 1) := by decide +kernel
theorem dX6_passYear_49 : decode cX6_passYear 49 = .ok (.aload_n 0, 1) := by decide +kernel
theorem dX6_passYear_50 : decode cX6_passYear 50 = .ok (.bipush 32, 2) := by decide +kernel
theorem dX6_passYear_52 : decode cX6_passYear 52 = .ok (.invokevirtual 141, 3) := by decide +kernel
theorem dX6_passYear_55 : decode cX6_passYear 55 = .ok (.istore_n 2, 1) := by decide +kernel
theorem dX6_passYear_56 : decode cX6_passYear 56 = .ok (.aload_n 0, 1) := by decide +kernel
theorem dX6_passYear_57 : decode cX6_passYear 57 = .ok (.aload_n 0, 1) := by decide +kernel
theorem dX6_passYear_58 : decode cX6_passYear 58 = .ok (.getfield 15, 3) := by decide +kernel
theorem dX6_passYear_61 : decode cX6_passYear 61 = .ok (.getfield 144, 3) := by decide +kernel
theorem dX6_passYear_64 : decode cX6_passYear 64 = .ok (.invokevirtual 141, 3) := by decide +kernel
theorem dX6_passYear_67 : decode cX6_passYear 67 = .ok (.istore_n 3, 1) := by decide +kernel
theorem dX6_passYear_68 : decode cX6_passYear 68 = .ok (.iload_n 1, 1) := by decide +kernel
theorem dX6_passYear_69 : decode cX6_passYear 69 = .ok (.iconst 3, 1) := by decide +kernel
theorem dX6_passYear_70 : decode cX6_passYear 70 = .ok (.if_icmp .ne 10, 3) := by decide +kernel
theorem dX6_passYear_73 : decode cX6_passYear 73 = .ok (.aload_n 0, 1) := by decide +kernel
theorem dX6_passYear_74 : decode cX6_passYear 74 = .ok (.iload_n 2, 1) := by decide +kernel
theorem dX6_passYear_75 : decode cX6_passYear 75 = .ok (.iload_n 3, 1) := by decide +kernel
theorem dX6_passYear_76 : decode cX6_passYear 76 = .ok (.invokevirtual 150, 3) := by decide +kernel
theorem dX6_passYear_79 : decode cX6_passYear 79 = .ok (.ireturn, 1) := by decide +kernel
theorem dX6_passYear_80 : decode cX6_passYear 80 = .ok (.aload_n 0, 1) := by decide +kernel
theorem dX6_passYear_81 : decode cX6_passYear 81 = .ok (.iload_n 2, 1) := by decide +kernel
theorem dX6_passYear_82 : decode cX6_passYear 82 = .ok (.iload_n 3, 1) := by decide +kernel
theorem dX6_passYear_83 : decode cX6_passYear 83 = .ok (.aload_n 0, 1) := by decide +kernel
theorem dX6_passYear_84 : decode cX6_passYear 84 = .ok (.bipush 10, 2) := by decide +kernel
theorem dX6_passYear_86 : decode cX6_passYear 86 = .ok (.invokevirtual 141, 3) := by decide +kernel
theorem dX6_passYear_89 : decode cX6_passYear 89 = .ok (.iconst 1, 1) := by decide +kernel
theorem dX6_passYear_90 : decode cX6_passYear 90 = .ok (.iadd, 1) := by decide +kernel
theorem dX6_passYear_91 : decode cX6_passYear 91 = .ok (.invokevirtual 110, 3) := by decide +kernel
theorem dX6_passYear_94 : decode cX6_passYear 94 = .ok (.pop, 1) := by decide +kernel
theorem dX6_passYear_95 : decode cX6_passYear 95 = .ok (.iconst 1, 1) := by decide +kernel
theorem dX6_passYear_96 : decode cX6_passYear 96 = .ok (.ireturn, 1) := by decide +kernel
theorem dX6_draw_0 : decode cX6_draw 0 = .ok (.aload_n 0, 1) := by decide +kernel
theorem dX6_draw_1 : decode cX6_draw 1 = .ok (.aload_n 0, 1) := by decide +kernel
theorem dX6_draw_2 : decode cX6_draw 2 = .ok (.getfield 9, 3) := by decide +kernel
theorem dX6_draw_5 : decode cX6_draw 5 = .ok (.ldc 153, 2) := by decide +kernel
theorem dX6_draw_7 : decode cX6_draw 7 = .ok (.imul, 1) := by decide +kernel
theorem dX6_draw_8 : decode cX6_draw 8 = .ok (.sipush 12345, 3) := by decide +kernel
theorem dX6_draw_11 : decode cX6_draw 11 = .ok (.iadd, 1) := by decide +kernel
theorem dX6_draw_12 : decode cX6_draw 12 = .ok (.putfield 9, 3) := by decide +kernel
theorem dX6_draw_15 : decode cX6_draw 15 = .ok (.iload_n 1, 1) := by decide +kernel
theorem dX6_draw_16 : decode cX6_draw 16 = .ok (.ifCond .gt 7, 3) := by decide +kernel
theorem dX6_draw_19 : decode cX6_draw 19 = .ok (.iconst 0, 1) := by decide +kernel
theorem dX6_draw_20 : decode cX6_draw 20 = .ok (.goto 16, 3) := by decide +kernel
theorem dX6_draw_23 : decode cX6_draw 23 = .ok (.aload_n 0, 1) := by decide +kernel
theorem dX6_draw_24 : decode cX6_draw 24 = .ok (.getfield 9, 3) := by decide +kernel
theorem dX6_draw_27 : decode cX6_draw 27 = .ok (.bipush 16, 2) := by decide +kernel
theorem dX6_draw_29 : decode cX6_draw 29 = .ok (.ishr, 1) := by decide +kernel
theorem dX6_draw_30 : decode cX6_draw 30 = .ok (.sipush 32767, 3) := by decide +kernel
theorem dX6_draw_33 : decode cX6_draw 33 = .ok (.iand, 1) := by decide +kernel
theorem dX6_draw_34 : decode cX6_draw 34 = .ok (.iload_n 1, 1) := by decide +kernel
theorem dX6_draw_35 : decode cX6_draw 35 = .ok (.irem, 1) := by decide +kernel
theorem dX6_draw_36 : decode cX6_draw 36 = .ok (.ireturn, 1) := by decide +kernel
set_option maxRecDepth 20000 in
theorem ggX7_addressesEverywhere_X0_seenAt : GoodIn wsX7_addressesEverywhere wsX0_seenAt := goodIn_r _ [8, 9, 10, 31, 32, 33, 34, 35, 36, 37, 38, 39, 40] (by decide +kernel) (by decide +kernel)
set_option maxRecDepth 20000 in
theorem gX7_addressesEverywhere_X0_seenAt : GoodIn wsX7_addressesEverywhere (wsV RX7 29 RX0 yX0_seenAt wsX0_seenAt) := goodIn_app (goodIn_of _ (by decide +kernel)) ggX7_addressesEverywhere_X0_seenAt
theorem dX7_addressesEverywhere_0 : decode cX7_addressesEverywhere 0 = .ok (.iconst 0, 1) := by decide +kernel
theorem dX7_addressesEverywhere_1 : decode cX7_addressesEverywhere 1 = .ok (.istore_n 1, 1) := by decide +kernel
theorem dX7_addressesEverywhere_2 : decode cX7_addressesEverywhere 2 = .ok (.iconst 0, 1) := by decide +kernel
theorem dX7_addressesEverywhere_3 : decode cX7_addressesEverywhere 3 = .ok (.istore_n 2, 1) := by decide +kernel
theorem dX7_addressesEverywhere_4 : decode cX7_addressesEverywhere 4 = .ok (.iload_n 2, 1) := by decide +kernel
theorem dX7_addressesEverywhere_5 : decode cX7_addressesEverywhere 5 = .ok (.aload_n 0, 1) := by decide +kernel
theorem dX7_addressesEverywhere_6 : decode cX7_addressesEverywhere 6 = .ok (.getfield 21, 3) := by decide +kernel
theorem dX7_addressesEverywhere_9 : decode cX7_addressesEverywhere 9 = .ok (.getfield 41, 3) := by decide +kernel
theorem dX7_addressesEverywhere_12 : decode cX7_addressesEverywhere 12 = .ok (.if_icmp .ge 35, 3) := by decide +kernel
theorem dX7_addressesEverywhere_15 : decode cX7_addressesEverywhere 15 = .ok (.iconst 1, 1) := by decide +kernel
theorem dX7_addressesEverywhere_16 : decode cX7_addressesEverywhere 16 = .ok (.istore_n 3, 1) := by decide +kernel
theorem dX7_addressesEverywhere_17 : decode cX7_addressesEverywhere 17 = .ok (.iload_n 3, 1) := by decide +kernel
theorem dX7_addressesEverywhere_18 : decode cX7_addressesEverywhere 18 = .ok (.bipush 10, 2) := by decide +kernel
theorem dX7_addressesEverywhere_20 : decode cX7_addressesEverywhere 20 = .ok (.if_icmp .gt 21, 3) := by decide +kernel
theorem dX7_addressesEverywhere_23 : decode cX7_addressesEverywhere 23 = .ok (.iload_n 1, 1) := by decide +kernel
theorem dX7_addressesEverywhere_24 : decode cX7_addressesEverywhere 24 = .ok (.aload_n 0, 1) := by decide +kernel
theorem dX7_addressesEverywhere_25 : decode cX7_addressesEverywhere 25 = .ok (.getfield 25, 3) := by decide +kernel
theorem dX7_addressesEverywhere_28 : decode cX7_addressesEverywhere 28 = .ok (.iload_n 2, 1) := by decide +kernel
theorem dX7_addressesEverywhere_29 : decode cX7_addressesEverywhere 29 = .ok (.iload_n 3, 1) := by decide +kernel
theorem dX7_addressesEverywhere_30 : decode cX7_addressesEverywhere 30 = .ok (.invokevirtual 29, 3) := by decide +kernel
theorem dX7_addressesEverywhere_33 : decode cX7_addressesEverywhere 33 = .ok (.ior, 1) := by decide +kernel
theorem dX7_addressesEverywhere_34 : decode cX7_addressesEverywhere 34 = .ok (.istore_n 1, 1) := by decide +kernel
theorem dX7_addressesEverywhere_35 : decode cX7_addressesEverywhere 35 = .ok (.iinc 3 1, 3) := by decide +kernel
theorem dX7_addressesEverywhere_38 : decode cX7_addressesEverywhere 38 = .ok (.goto (-21), 3) := by decide +kernel
theorem dX7_addressesEverywhere_41 : decode cX7_addressesEverywhere 41 = .ok (.iinc 2 1, 3) := by decide +kernel
theorem dX7_addressesEverywhere_44 : decode cX7_addressesEverywhere 44 = .ok (.goto (-40), 3) := by decide +kernel
theorem dX7_addressesEverywhere_47 : decode cX7_addressesEverywhere 47 = .ok (.iload_n 1, 1) := by decide +kernel
theorem dX7_addressesEverywhere_48 : decode cX7_addressesEverywhere 48 = .ok (.ireturn, 1) := by decide +kernel
set_option maxRecDepth 20000 in
theorem ggX7_edgesInAll_X7_edgesAt : GoodIn wsX7_edgesInAll wsX7_edgesAt := goodIn_r _ [7, 8, 9, 10, 11, 6, 12, 13, 14, 15, 16, 17, 18, 19, 20, 21, 22, 23, 24, 25, 26, 27, 28, 29, 30, 31, 32, 48, 49, 50, 51, 52, 53, 54, 55, 56, 57] (by decide +kernel) (by decide +kernel)
set_option maxRecDepth 20000 in
theorem gX7_edgesInAll_X7_edgesAt : GoodIn wsX7_edgesInAll (wsV RX7 55 RX7 yX7_edgesAt wsX7_edgesAt) := goodIn_app (goodIn_of _ (by decide +kernel)) ggX7_edgesInAll_X7_edgesAt
theorem dX7_edgesInAll_0 : decode cX7_edgesInAll 0 = .ok (.iconst 0, 1) := by decide +kernel
theorem dX7_edgesInAll_1 : decode cX7_edgesInAll 1 = .ok (.istore_n 1, 1) := by decide +kernel
theorem dX7_edgesInAll_2 : decode cX7_edgesInAll 2 = .ok (.iconst 0, 1) := by decide +kernel
theorem dX7_edgesInAll_3 : decode cX7_edgesInAll 3 = .ok (.istore_n 2, 1) := by decide +kernel
theorem dX7_edgesInAll_4 : decode cX7_edgesInAll 4 = .ok (.iload_n 2, 1) := by decide +kernel
theorem dX7_edgesInAll_5 : decode cX7_edgesInAll 5 = .ok (.aload_n 0, 1) := by decide +kernel
theorem dX7_edgesInAll_6 : decode cX7_edgesInAll 6 = .ok (.getfield 21, 3) := by decide +kernel
theorem dX7_edgesInAll_9 : decode cX7_edgesInAll 9 = .ok (.getfield 41, 3) := by decide +kernel
theorem dX7_edgesInAll_12 : decode cX7_edgesInAll 12 = .ok (.if_icmp .ge 32, 3) := by decide +kernel
theorem dX7_edgesInAll_15 : decode cX7_edgesInAll 15 = .ok (.iconst 1, 1) := by decide +kernel
theorem dX7_edgesInAll_16 : decode cX7_edgesInAll 16 = .ok (.istore_n 3, 1) := by decide +kernel
theorem dX7_edgesInAll_17 : decode cX7_edgesInAll 17 = .ok (.iload_n 3, 1) := by decide +kernel
theorem dX7_edgesInAll_18 : decode cX7_edgesInAll 18 = .ok (.bipush 10, 2) := by decide +kernel
theorem dX7_edgesInAll_20 : decode cX7_edgesInAll 20 = .ok (.if_icmp .ge 18, 3) := by decide +kernel
theorem dX7_edgesInAll_23 : decode cX7_edgesInAll 23 = .ok (.iload_n 1, 1) := by decide +kernel
theorem dX7_edgesInAll_24 : decode cX7_edgesInAll 24 = .ok (.aload_n 0, 1) := by decide +kernel
theorem dX7_edgesInAll_25 : decode cX7_edgesInAll 25 = .ok (.iload_n 2, 1) := by decide +kernel
theorem dX7_edgesInAll_26 : decode cX7_edgesInAll 26 = .ok (.iload_n 3, 1) := by decide +kernel
theorem dX7_edgesInAll_27 : decode cX7_edgesInAll 27 = .ok (.invokevirtual 55, 3) := by decide +kernel
theorem dX7_edgesInAll_30 : decode cX7_edgesInAll 30 = .ok (.iadd, 1) := by decide +kernel
theorem dX7_edgesInAll_31 : decode cX7_edgesInAll 31 = .ok (.istore_n 1, 1) := by decide +kernel
theorem dX7_edgesInAll_32 : decode cX7_edgesInAll 32 = .ok (.iinc 3 1, 3) := by decide +kernel
theorem dX7_edgesInAll_35 : decode cX7_edgesInAll 35 = .ok (.goto (-18), 3) := by decide +kernel
theorem dX7_edgesInAll_38 : decode cX7_edgesInAll 38 = .ok (.iinc 2 1, 3) := by decide +kernel
theorem dX7_edgesInAll_41 : decode cX7_edgesInAll 41 = .ok (.goto (-37), 3) := by decide +kernel
theorem dX7_edgesInAll_44 : decode cX7_edgesInAll 44 = .ok (.iload_n 1, 1) := by decide +kernel
theorem dX7_edgesInAll_45 : decode cX7_edgesInAll 45 = .ok (.ireturn, 1) := by decide +kernel
set_option maxRecDepth 20000 in
theorem ggX10_net_X5_readText : GoodIn wsX10_net wsX5_readText := goodIn_r _ [22, 23, 24, 25, 26, 27, 28, 29, 30, 31, 32, 33, 34, 35, 36, 37, 38, 39, 40, 41, 42, 43, 44, 45, 46, 21, 47, 48, 49, 50, 51, 52, 53, 54, 55, 56, 57, 58, 59, 60, 61, 62, 63, 64, 65, 66, 67, 68, 69, 70, 71, 72, 73, 74, 75, 76, 77, 78, 79, 80, 81, 82, 83, 84, 85, 86, 87, 88, 89, 90, 91, 92, 93, 94, 95, 96, 97, 98, 99, 100, 101, 102, 103, 104, 105, 106, 107, 108, 109, 110, 111, 112, 113, 114, 115, 116, 117, 118, 119, 120, 121, 122, 123, 124, 125, 126, 127, 128, 129, 130, 131, 132, 133, 134, 135, 136, 137, 138, 139, 140, 141, 142, 143, 144, 145, 146, 147, 148, 149, 150, 151, 152, 153, 154, 155, 156, 157, 158, 159, 160, 161, 162, 163, 164, 165, 166, 167, 168, 169, 170, 171, 172, 173, 174, 175, 176, 177, 178, 179, 180, 181, 182, 183, 184, 256, 257, 258, 259, 260, 261, 262, 263, 264, 265, 266, 267, 268, 269, 270, 271, 272, 273, 274, 275, 276, 277, 278, 279] (by decide +kernel) (by decide +kernel)
set_option maxRecDepth 20000 in
theorem gX10_net_X5_readText : GoodIn wsX10_net (wsV RX10 135 RX5 yX5_readText wsX5_readText) := goodIn_app (goodIn_of _ (by decide +kernel)) ggX10_net_X5_readText
set_option maxRecDepth 20000 in
theorem ggX10_net_X2_copyFrom : GoodIn wsX10_net wsX2_copyFrom := goodIn_r _ [188, 189, 190, 191, 192, 193, 194, 195, 196, 156, 168, 179, 40, 41, 42, 43, 265, 266, 267, 268, 269, 270, 271, 272, 273, 274, 275, 276, 277, 278, 279] (by decide +kernel) (by decide +kernel)
set_option maxRecDepth 20000 in
theorem gX10_net_X2_copyFrom : GoodIn wsX10_net (wsV RX10 142 RX2 yX2_copyFrom wsX2_copyFrom) := goodIn_app (goodIn_of _ (by decide +kernel)) ggX10_net_X2_copyFrom
set_option maxRecDepth 20000 in
theorem ggX10_net_X2_findBranches : GoodIn wsX10_net wsX2_findBranches := goodIn_r _ [200, 42, 40, 201, 41, 168, 179, 156, 202, 203, 204, 38, 205, 206, 207, 208, 209, 210, 211, 212, 213, 214, 215, 265, 266, 267, 268, 269, 270, 271, 272, 273, 274, 275, 276, 277, 278, 279] (by decide +kernel) (by decide +kernel)
set_option maxRecDepth 20000 in
theorem gX10_net_X2_findBranches : GoodIn wsX10_net (wsV RX10 146 RX2 yX2_findBranches wsX2_findBranches) := goodIn_app (goodIn_of _ (by decide +kernel)) ggX10_net_X2_findBranches
set_option maxRecDepth 20000 in
theorem ggX10_net_X0_beginAnew : GoodIn wsX10_net wsX0_beginAnew := goodIn_r _ [220, 221, 222, 223, 224, 225, 226, 227, 228, 229, 230, 231, 219, 232, 233, 234, 292, 293, 294, 295, 296, 297, 298, 299, 300, 301] (by decide +kernel) (by decide +kernel)
set_option maxRecDepth 20000 in
theorem gX10_net_X0_beginAnew : GoodIn wsX10_net (wsV RX10 152 RX0 yX0_beginAnew wsX0_beginAnew) := goodIn_app (goodIn_of _ (by decide +kernel)) ggX10_net_X0_beginAnew
theorem dX10_net_0 : decode cX10_net 0 = .ok (.iload_n 1, 1) := by decide +kernel
theorem dX10_net_1 : decode cX10_net 1 = .ok (.ifCond .lt 14, 3) := by decide +kernel
theorem dX10_net_4 : decode cX10_net 4 = .ok (.iload_n 1, 1) := by decide +kernel
theorem dX10_net_5 : decode cX10_net 5 = .ok (.aload_n 0, 1) := by decide +kernel
theorem dX10_net_6 : decode cX10_net 6 = .ok (.getfield 12, 3) := by decide +kernel
theorem dX10_net_9 : decode cX10_net 9 = .ok (.getfield 125, 3) := by decide +kernel
theorem dX10_net_12 : decode cX10_net 12 = .ok (.if_icmp .le 13, 3) := by decide +kernel
theorem dX10_net_15 : decode cX10_net 15 = .ok (.new 128, 3) := by decide +kernel
theorem dX10_net_18 : decode cX10_net 18 = .ok (.dup, 1) := by decide +kernel
theorem dX10_net_19 : decode cX10_net 19 = .ok (.ldc 130, 2) := by decide +kernel
theorem dX10_net_21 : decode cX10_net 21 = .ok (.invokespecial 132, 3) := by decide +kernel
theorem dX10_net_24 : decode cX10_net 24 = .ok (.athrow, 1) := by decide +kernel
theorem dX10_net_25 : decode cX10_net 25 = .ok (.aload_n 0, 1) := by decide +kernel
theorem dX10_net_26 : decode cX10_net 26 = .ok (.getfield 31, 3) := by decide +kernel
theorem dX10_net_29 : decode cX10_net 29 = .ok (.iload_n 1, 1) := by decide +kernel
theorem dX10_net_30 : decode cX10_net 30 = .ok (.invokevirtual 135, 3) := by decide +kernel
theorem dX10_net_33 : decode cX10_net 33 = .ok (.istore_n 2, 1) := by decide +kernel
theorem dX10_net_34 : decode cX10_net 34 = .ok (.aload_n 0, 1) := by decide +kernel
theorem dX10_net_35 : decode cX10_net 35 = .ok (.getfield 12, 3) := by decide +kernel
theorem dX10_net_38 : decode cX10_net 38 = .ok (.iconst 0, 1) := by decide +kernel
theorem dX10_net_39 : decode cX10_net 39 = .ok (.putfield 125, 3) := by decide +kernel
theorem dX10_net_42 : decode cX10_net 42 = .ok (.aload_n 0, 1) := by decide +kernel
theorem dX10_net_43 : decode cX10_net 43 = .ok (.iload_n 2, 1) := by decide +kernel
theorem dX10_net_44 : decode cX10_net 44 = .ok (.ifCond .ne 7, 3) := by decide +kernel
theorem dX10_net_47 : decode cX10_net 47 = .ok (.iconst (-1), 1) := by decide +kernel
theorem dX10_net_48 : decode cX10_net 48 = .ok (.goto 10, 3) := by decide +kernel
theorem dX10_net_51 : decode cX10_net 51 = .ok (.aload_n 0, 1) := by decide +kernel
theorem dX10_net_52 : decode cX10_net 52 = .ok (.getfield 31, 3) := by decide +kernel
theorem dX10_net_55 : decode cX10_net 55 = .ok (.getfield 139, 3) := by decide +kernel
theorem dX10_net_58 : decode cX10_net 58 = .ok (.putfield 113, 3) := by decide +kernel
theorem dX10_net_61 : decode cX10_net 61 = .ok (.iload_n 2, 1) := by decide +kernel
theorem dX10_net_62 : decode cX10_net 62 = .ok (.ifCond .eq 15, 3) := by decide +kernel
theorem dX10_net_65 : decode cX10_net 65 = .ok (.aload_n 0, 1) := by decide +kernel
theorem dX10_net_66 : decode cX10_net 66 = .ok (.getfield 93, 3) := by decide +kernel
theorem dX10_net_69 : decode cX10_net 69 = .ok (.iconst 0, 1) := by decide +kernel
theorem dX10_net_70 : decode cX10_net 70 = .ok (.dup2, 1) := by decide +kernel
theorem dX10_net_71 : decode cX10_net 71 = .ok (.iaload, 1) := by decide +kernel
theorem dX10_net_72 : decode cX10_net 72 = .ok (.iconst 1, 1) := by decide +kernel
theorem dX10_net_73 : decode cX10_net 73 = .ok (.iadd, 1) := by decide +kernel
theorem dX10_net_74 : decode cX10_net 74 = .ok (.iastore, 1) := by decide +kernel
theorem dX10_net_75 : decode cX10_net 75 = .ok (.iload_n 2, 1) := by decide +kernel
theorem dX10_net_76 : decode cX10_net 76 = .ok (.ireturn, 1) := by decide +kernel
theorem dX10_net_77 : decode cX10_net 77 = .ok (.aload_n 0, 1) := by decide +kernel
theorem dX10_net_78 : decode cX10_net 78 = .ok (.getfield 19, 3) := by decide +kernel
theorem dX10_net_81 : decode cX10_net 81 = .ok (.aload_n 0, 1) := by decide +kernel
theorem dX10_net_82 : decode cX10_net 82 = .ok (.getfield 23, 3) := by decide +kernel
theorem dX10_net_85 : decode cX10_net 85 = .ok (.invokevirtual 142, 3) := by decide +kernel
theorem dX10_net_88 : decode cX10_net 88 = .ok (.aload_n 0, 1) := by decide +kernel
theorem dX10_net_89 : decode cX10_net 89 = .ok (.getfield 19, 3) := by decide +kernel
theorem dX10_net_92 : decode cX10_net 92 = .ok (.invokevirtual 146, 3) := by decide +kernel
theorem dX10_net_95 : decode cX10_net 95 = .ok (.aload_n 0, 1) := by decide +kernel
theorem dX10_net_96 : decode cX10_net 96 = .ok (.getfield 38, 3) := by decide +kernel
theorem dX10_net_99 : decode cX10_net 99 = .ok (.aload_n 0, 1) := by decide +kernel
theorem dX10_net_100 : decode cX10_net 100 = .ok (.getfield 19, 3) := by decide +kernel
theorem dX10_net_103 : decode cX10_net 103 = .ok (.getfield 149, 3) := by decide +kernel
theorem dX10_net_106 : decode cX10_net 106 = .ok (.invokevirtual 152, 3) := by decide +kernel
theorem dX10_net_109 : decode cX10_net 109 = .ok (.aload_n 0, 1) := by decide +kernel
theorem dX10_net_110 : decode cX10_net 110 = .ok (.getfield 89, 3) := by decide +kernel
theorem dX10_net_113 : decode cX10_net 113 = .ok (.iconst 0, 1) := by decide +kernel
theorem dX10_net_114 : decode cX10_net 114 = .ok (.putfield 155, 3) := by decide +kernel
theorem dX10_net_117 : decode cX10_net 117 = .ok (.aload_n 0, 1) := by decide +kernel
theorem dX10_net_118 : decode cX10_net 118 = .ok (.getfield 82, 3) := by decide +kernel
theorem dX10_net_121 : decode cX10_net 121 = .ok (.iconst 0, 1) := by decide +kernel
theorem dX10_net_122 : decode cX10_net 122 = .ok (.putfield 158, 3) := by decide +kernel
theorem dX10_net_125 : decode cX10_net 125 = .ok (.aload_n 0, 1) := by decide +kernel
theorem dX10_net_126 : decode cX10_net 126 = .ok (.iconst 0, 1) := by decide +kernel
theorem dX10_net_127 : decode cX10_net 127 = .ok (.putfield 97, 3) := by decide +kernel
theorem dX10_net_130 : decode cX10_net 130 = .ok (.iconst 0, 1) := by decide +kernel
theorem dX10_net_131 : decode cX10_net 131 = .ok (.ireturn, 1) := by decide +kernel
set_option maxRecDepth 20000 in
theorem ggX10_years_X10_mustBeWhat : GoodIn wsX10_years wsX10_mustBeWhat := goodIn_ca (goodIn_r _ [11, 12, 13] (by decide +kernel) (by decide +kernel)) (goodIn_sub (fun _ h => List.mem_cons_of_mem _ (List.mem_append_right _ h)) (by decide +kernel))
set_option maxRecDepth 20000 in
theorem gX10_years_X10_mustBeWhat : GoodIn wsX10_years (va_wsS RX10 232 yX10_mustBeWhat wsX10_mustBeWhat) := goodIn_app (goodIn_of _ (by decide +kernel)) ggX10_years_X10_mustBeWhat
set_option maxRecDepth 20000 in
theorem ggX10_years_X0_copyFrom : GoodIn wsX10_years wsX0_copyFrom := goodIn_r _ [18, 19, 20, 21, 22, 23, 24, 25, 26, 27, 28, 29, 30, 31, 32, 250, 251, 252, 253, 254, 255, 256, 257, 258, 259] (by decide +kernel) (by decide +kernel)
set_option maxRecDepth 20000 in
theorem gX10_years_X0_copyFrom : GoodIn wsX10_years (wsV RX10 418 RX0 yX0_copyFrom wsX0_copyFrom) := goodIn_app (goodIn_of _ (by decide +kernel)) ggX10_years_X0_copyFrom
set_option maxRecDepth 20000 in
theorem ggX10_years_X6_passYear : GoodIn wsX10_years wsX6_passYear := goodIn_r _ [37, 38, 39, 40, 41, 42, 36, 43, 44, 45, 46, 47, 48, 49, 50, 51, 52, 53, 17, 54, 28, 29, 30, 55, 56, 57, 58, 59, 60, 61, 62, 63, 64, 65, 66, 67, 68, 69, 70, 71, 72, 19, 73, 74, 75, 76, 77, 78, 79, 80, 81, 82, 83, 84, 85, 86, 87, 88, 89, 90, 91, 92, 93, 94, 95, 96, 97, 98, 99, 100, 101, 102, 103, 104, 105, 106, 107, 108, 109, 110, 111, 112, 113, 114, 115, 116, 24, 117, 118, 119, 120, 121, 122, 123, 124, 125, 126, 127, 128, 129, 130, 131, 132, 133, 134, 135, 136, 137, 138, 139, 140, 141, 142, 143, 144, 145, 146, 147, 148, 149, 150, 151, 152, 153, 154, 155, 156, 157, 158, 159, 160, 161, 162, 163, 164, 165, 166, 167, 168, 169, 170, 171, 172, 173, 174, 175, 176, 177, 178, 179, 180, 181, 182, 183, 184, 185, 186, 187, 188, 189, 190, 191, 192, 193, 194, 195, 196, 197, 198, 199, 245, 246, 247, 248, 249, 260, 261, 262, 263, 264, 265, 266, 267, 268, 269, 270, 271, 272, 273, 274, 250, 251, 252, 253, 254, 255, 256, 257, 258, 259, 275, 276, 277, 278, 279, 280, 281, 282, 283, 284, 285, 286, 287] (by decide +kernel) (by decide +kernel)
set_option maxRecDepth 20000 in
theorem gX10_years_X6_passYear : GoodIn wsX10_years (wsV RX10 423 RX6 yX6_passYear wsX6_passYear) := goodIn_app (goodIn_of _ (by decide +kernel)) ggX10_years_X6_passYear
set_option maxRecDepth 20000 in
theorem ggX10_years_X7_edgesInAll : GoodIn wsX10_years wsX7_edgesInAll := goodIn_r _ [204, 205, 206, 207, 208, 209, 203, 210, 211, 212, 213, 214, 215, 216, 217, 218, 219, 17, 220, 19, 73, 221, 75, 76, 77, 78, 79, 80, 288, 289, 290, 291, 292, 260, 261, 262, 263, 264, 265, 266, 267, 268, 269, 270, 271, 272, 273, 274, 250, 251, 252, 253, 254, 255, 256, 257, 258, 259] (by decide +kernel) (by decide +kernel)
set_option maxRecDepth 20000 in
theorem gX10_years_X7_edgesInAll : GoodIn wsX10_years (wsV RX10 426 RX7 yX7_edgesInAll wsX7_edgesInAll) := goodIn_app (goodIn_of _ (by decide +kernel)) ggX10_years_X7_edgesInAll
set_option maxRecDepth 20000 in
theorem ggX10_years_X0_countersInAll : GoodIn wsX10_years wsX0_countersInAll := goodIn_r _ [225, 26, 250, 251, 252, 253, 254, 255, 256, 257, 258, 259] (by decide +kernel) (by decide +kernel)
set_option maxRecDepth 20000 in
theorem gX10_years_X0_countersInAll : GoodIn wsX10_years (wsV RX10 429 RX0 yX0_countersInAll wsX0_countersInAll) := goodIn_app (goodIn_of _ (by decide +kernel)) ggX10_years_X0_countersInAll
theorem dX10_years_0 : decode cX10_years 0 = .ok (.iload_n 3, 1) := by decide +kernel
theorem dX10_years_1 : decode cX10_years 1 = .ok (.iconst 2, 1) := by decide +kernel
theorem dX10_years_2 : decode cX10_years 2 = .ok (.invokestatic 232, 3) := by decide +kernel
theorem dX10_years_5 : decode cX10_years 5 = .ok (.iload_n 2, 1) := by decide +kernel
theorem dX10_years_6 : decode cX10_years 6 = .ok (.ifCond .lt 9, 3) := by decide +kernel
theorem dX10_years_9 : decode cX10_years 9 = .ok (.iload_n 2, 1) := by decide +kernel
theorem dX10_years_10 : decode cX10_years 10 = .ok (.bipush 40, 2) := by decide +kernel
theorem dX10_years_12 : decode cX10_years 12 = .ok (.if_icmp .le 14, 3) := by decide +kernel
theorem dX10_years_15 : decode cX10_years 15 = .ok (.new 128, 3) := by decide +kernel
theorem dX10_years_18 : decode cX10_years 18 = .ok (.dup, 1) := by decide +kernel
theorem dX10_years_19 : decode cX10_years 19 = .ok (.ldc_w 416, 3) := by decide +kernel
theorem dX10_years_22 : decode cX10_years 22 = .ok (.invokespecial 132, 3) := by decide +kernel
theorem dX10_years_25 : decode cX10_years 25 = .ok (.athrow, 1) := by decide +kernel
theorem dX10_years_26 : decode cX10_years 26 = .ok (.aload_n 0, 1) := by decide +kernel
theorem dX10_years_27 : decode cX10_years 27 = .ok (.getfield 42, 3) := by decide +kernel
theorem dX10_years_30 : decode cX10_years 30 = .ok (.aload_n 0, 1) := by decide +kernel
theorem dX10_years_31 : decode cX10_years 31 = .ok (.getfield 38, 3) := by decide +kernel
theorem dX10_years_34 : decode cX10_years 34 = .ok (.invokevirtual 418, 3) := by decide +kernel
theorem dX10_years_37 : decode cX10_years 37 = .ok (.aload_n 0, 1) := by decide +kernel
theorem dX10_years_38 : decode cX10_years 38 = .ok (.getfield 73, 3) := by decide +kernel
theorem dX10_years_41 : decode cX10_years 41 = .ok (.iload_n 1, 1) := by decide +kernel
theorem dX10_years_42 : decode cX10_years 42 = .ok (.putfield 420, 3) := by decide +kernel
theorem dX10_years_45 : decode cX10_years 45 = .ok (.iconst 0, 1) := by decide +kernel
theorem dX10_years_46 : decode cX10_years 46 = .ok (.istore 4, 2) := by decide +kernel
theorem dX10_years_48 : decode cX10_years 48 = .ok (.iconst 0, 1) := by decide +kernel
theorem dX10_years_49 : decode cX10_years 49 = .ok (.istore 5, 2) := by decide +kernel
theorem dX10_years_51 : decode cX10_years 51 = .ok (.iload 5, 2) := by decide +kernel
theorem dX10_years_53 : decode cX10_years 53 = .ok (.iload_n 2, 1) := by decide +kernel
theorem dX10_years_54 : decode cX10_years 54 = .ok (.if_icmp .ge 21, 3) := by decide +kernel
theorem dX10_years_57 : decode cX10_years 57 = .ok (.iload 4, 2) := by decide +kernel
theorem dX10_years_59 : decode cX10_years 59 = .ok (.aload_n 0, 1) := by decide +kernel
theorem dX10_years_60 : decode cX10_years 60 = .ok (.getfield 73, 3) := by decide +kernel
theorem dX10_years_63 : decode cX10_years 63 = .ok (.invokevirtual 423, 3) := by decide +kernel
theorem dX10_years_66 : decode cX10_years 66 = .ok (.iadd, 1) := by decide +kernel
theorem dX10_years_67 : decode cX10_years 67 = .ok (.istore 4, 2) := by decide +kernel
theorem dX10_years_69 : decode cX10_years 69 = .ok (.iinc 5 1, 3) := by decide +kernel
theorem dX10_years_72 : decode cX10_years 72 = .ok (.goto (-21), 3) := by decide +kernel
theorem dX10_years_75 : decode cX10_years 75 = .ok (.iload 4, 2) := by decide +kernel
theorem dX10_years_77 : decode cX10_years 77 = .ok (.istore 5, 2) := by decide +kernel
theorem dX10_years_79 : decode cX10_years 79 = .ok (.iload_n 3, 1) := by decide +kernel
theorem dX10_years_80 : decode cX10_years 80 = .ok (.ifCond .ne 15, 3) := by decide +kernel
theorem dX10_years_83 : decode cX10_years 83 = .ok (.aload_n 0, 1) := by decide +kernel
theorem dX10_years_84 : decode cX10_years 84 = .ok (.getfield 57, 3) := by decide +kernel
theorem dX10_years_87 : decode cX10_years 87 = .ok (.invokevirtual 426, 3) := by decide +kernel
theorem dX10_years_90 : decode cX10_years 90 = .ok (.istore 5, 2) := by decide +kernel
theorem dX10_years_92 : decode cX10_years 92 = .ok (.goto 17, 3) := by decide +kernel
theorem dX10_years_95 : decode cX10_years 95 = .ok (.iload_n 3, 1) := by decide +kernel
theorem dX10_years_96 : decode cX10_years 96 = .ok (.iconst 2, 1) := by decide +kernel
theorem dX10_years_97 : decode cX10_years 97 = .ok (.if_icmp .ne 12, 3) := by decide +kernel
theorem dX10_years_100 : decode cX10_years 100 = .ok (.aload_n 0, 1) := by decide +kernel
theorem dX10_years_101 : decode cX10_years 101 = .ok (.getfield 38, 3) := by decide +kernel
theorem dX10_years_104 : decode cX10_years 104 = .ok (.invokevirtual 429, 3) := by decide +kernel
theorem dX10_years_107 : decode cX10_years 107 = .ok (.istore 5, 2) := by decide +kernel
theorem dX10_years_109 : decode cX10_years 109 = .ok (.aload_n 0, 1) := by decide +kernel
theorem dX10_years_110 : decode cX10_years 110 = .ok (.getfield 38, 3) := by decide +kernel
theorem dX10_years_113 : decode cX10_years 113 = .ok (.aload_n 0, 1) := by decide +kernel
theorem dX10_years_114 : decode cX10_years 114 = .ok (.getfield 42, 3) := by decide +kernel
theorem dX10_years_117 : decode cX10_years 117 = .ok (.invokevirtual 418, 3) := by decide +kernel
theorem dX10_years_120 : decode cX10_years 120 = .ok (.iload 5, 2) := by decide +kernel
theorem dX10_years_122 : decode cX10_years 122 = .ok (.ireturn, 1) := by decide +kernel
theorem dX11_byteAt_0 : decode cX11_byteAt 0 = .ok (.iload_n 1, 1) := by decide +kernel
theorem dX11_byteAt_1 : decode cX11_byteAt 1 = .ok (.aload_n 0, 1) := by decide +kernel
theorem dX11_byteAt_2 : decode cX11_byteAt 2 = .ok (.getfield 148, 3) := by decide +kernel
theorem dX11_byteAt_5 : decode cX11_byteAt 5 = .ok (.if_icmp .ge 12, 3) := by decide +kernel
theorem dX11_byteAt_8 : decode cX11_byteAt 8 = .ok (.aload_n 0, 1) := by decide +kernel
theorem dX11_byteAt_9 : decode cX11_byteAt 9 = .ok (.getfield 66, 3) := by decide +kernel
theorem dX11_byteAt_12 : decode cX11_byteAt 12 = .ok (.iload_n 1, 1) := by decide +kernel
theorem dX11_byteAt_13 : decode cX11_byteAt 13 = .ok (.iaload, 1) := by decide +kernel
theorem dX11_byteAt_14 : decode cX11_byteAt 14 = .ok (.goto 4, 3) := by decide +kernel
theorem dX11_byteAt_17 : decode cX11_byteAt 17 = .ok (.iconst (-1), 1) := by decide +kernel
theorem dX11_byteAt_18 : decode cX11_byteAt 18 = .ok (.ireturn, 1) := by decide +kernel
set_option maxRecDepth 20000 in
theorem ggX11_stepOn_X11_byteAt : GoodIn wsX11_stepOn wsX11_byteAt := goodIn_r _ [15, 16, 17, 24, 25, 26, 27, 28, 29, 30, 31, 32, 33, 34, 35, 36, 37, 38, 39, 40, 41, 42, 43, 44, 45, 46, 47, 48, 49, 50, 51, 52, 53, 54, 55, 56, 57, 58, 59, 60, 61, 62, 63, 64, 65, 66, 67, 68, 69, 70, 71, 72, 73, 74, 75, 76, 77, 78, 79, 80, 81, 82, 83, 84] (by decide +kernel) (by decide +kernel)
set_option maxRecDepth 20000 in
theorem gX11_stepOn_X11_byteAt : GoodIn wsX11_stepOn (wsV RX11 154 RX11 yX11_byteAt wsX11_byteAt) := goodIn_app (goodIn_of _ (by decide +kernel)) ggX11_stepOn_X11_byteAt
set_option maxRecDepth 20000 in
theorem ggX11_stepOn_X11_isLetter : GoodIn wsX11_stepOn wsX11_isLetter := goodIn_r _ [20] (by decide +kernel) (by decide +kernel)
set_option maxRecDepth 20000 in
theorem gX11_stepOn_X11_isLetter : GoodIn wsX11_stepOn (va_wsS RX11 164 yX11_isLetter wsX11_isLetter) := goodIn_app (goodIn_of _ (by decide +kernel)) ggX11_stepOn_X11_isLetter
set_option maxRecDepth 20000 in
theorem ggX11_stepOn_X11_isDigit : GoodIn wsX11_stepOn wsX11_isDigit := goodIn_r _ [23] (by decide +kernel) (by decide +kernel)
set_option maxRecDepth 20000 in
theorem gX11_stepOn_X11_isDigit : GoodIn wsX11_stepOn (va_wsS RX11 168 yX11_isDigit wsX11_isDigit) := goodIn_app (goodIn_of _ (by decide +kernel)) ggX11_stepOn_X11_isDigit
theorem dX11_stepOn_0 : decode cX11_stepOn 0 = .ok (.aload_n 0, 1) := by decide +kernel
theorem dX11_stepOn_1 : decode cX11_stepOn 1 = .ok (.aload_n 0, 1) := by decide +kernel
theorem dX11_stepOn_2 : decode cX11_stepOn 2 = .ok (.getfield 151, 3) := by decide +kernel
theorem dX11_stepOn_5 : decode cX11_stepOn 5 = .ok (.invokevirtual 154, 3) := by decide +kernel
theorem dX11_stepOn_8 : decode cX11_stepOn 8 = .ok (.bipush 32, 2) := by decide +kernel
theorem dX11_stepOn_10 : decode cX11_stepOn 10 = .ok (.if_icmp .eq 16, 3) := by decide +kernel
theorem dX11_stepOn_13 : decode cX11_stepOn 13 = .ok (.aload_n 0, 1) := by decide +kernel
theorem dX11_stepOn_14 : decode cX11_stepOn 14 = .ok (.aload_n 0, 1) := by decide +kernel
theorem dX11_stepOn_15 : decode cX11_stepOn 15 = .ok (.getfield 151, 3) := by decide +kernel
theorem dX11_stepOn_18 : decode cX11_stepOn 18 = .ok (.invokevirtual 154, 3) := by decide +kernel
theorem dX11_stepOn_21 : decode cX11_stepOn 21 = .ok (.bipush 10, 2) := by decide +kernel
theorem dX11_stepOn_23 : decode cX11_stepOn 23 = .ok (.if_icmp .ne 16, 3) := by decide +kernel
theorem dX11_stepOn_26 : decode cX11_stepOn 26 = .ok (.aload_n 0, 1) := by decide +kernel
theorem dX11_stepOn_27 : decode cX11_stepOn 27 = .ok (.dup, 1) := by decide +kernel
theorem dX11_stepOn_28 : decode cX11_stepOn 28 = .ok (.getfield 151, 3) := by decide +kernel
theorem dX11_stepOn_31 : decode cX11_stepOn 31 = .ok (.iconst 1, 1) := by decide +kernel
theorem dX11_stepOn_32 : decode cX11_stepOn 32 = .ok (.iadd, 1) := by decide +kernel
theorem dX11_stepOn_33 : decode cX11_stepOn 33 = .ok (.putfield 151, 3) := by decide +kernel
theorem dX11_stepOn_36 : decode cX11_stepOn 36 = .ok (.goto (-36), 3) := by decide +kernel
theorem dX11_stepOn_39 : decode cX11_stepOn 39 = .ok (.aload_n 0, 1) := by decide +kernel
theorem dX11_stepOn_40 : decode cX11_stepOn 40 = .ok (.aload_n 0, 1) := by decide +kernel
theorem dX11_stepOn_41 : decode cX11_stepOn 41 = .ok (.getfield 151, 3) := by decide +kernel
theorem dX11_stepOn_44 : decode cX11_stepOn 44 = .ok (.putfield 158, 3) := by decide +kernel
theorem dX11_stepOn_47 : decode cX11_stepOn 47 = .ok (.aload_n 0, 1) := by decide +kernel
theorem dX11_stepOn_48 : decode cX11_stepOn 48 = .ok (.aload_n 0, 1) := by decide +kernel
theorem dX11_stepOn_49 : decode cX11_stepOn 49 = .ok (.getfield 151, 3) := by decide +kernel
theorem dX11_stepOn_52 : decode cX11_stepOn 52 = .ok (.invokevirtual 154, 3) := by decide +kernel
theorem dX11_stepOn_55 : decode cX11_stepOn 55 = .ok (.istore_n 1, 1) := by decide +kernel
theorem dX11_stepOn_56 : decode cX11_stepOn 56 = .ok (.iload_n 1, 1) := by decide +kernel
theorem dX11_stepOn_57 : decode cX11_stepOn 57 = .ok (.iconst (-1), 1) := by decide +kernel
theorem dX11_stepOn_58 : decode cX11_stepOn 58 = .ok (.if_icmp .ne 11, 3) := by decide +kernel
theorem dX11_stepOn_61 : decode cX11_stepOn 61 = .ok (.aload_n 0, 1) := by decide +kernel
theorem dX11_stepOn_62 : decode cX11_stepOn 62 = .ok (.iconst 0, 1) := by decide +kernel
theorem dX11_stepOn_63 : decode cX11_stepOn 63 = .ok (.putfield 161, 3) := by decide +kernel
theorem dX11_stepOn_66 : decode cX11_stepOn 66 = .ok (.goto 145, 3) := by decide +kernel
theorem dX11_stepOn_69 : decode cX11_stepOn 69 = .ok (.iload_n 1, 1) := by decide +kernel
theorem dX11_stepOn_70 : decode cX11_stepOn 70 = .ok (.invokestatic 164, 3) := by decide +kernel
theorem dX11_stepOn_73 : decode cX11_stepOn 73 = .ok (.ifCond .eq 38, 3) := by decide +kernel
theorem dX11_stepOn_76 : decode cX11_stepOn 76 = .ok (.aload_n 0, 1) := by decide +kernel
theorem dX11_stepOn_77 : decode cX11_stepOn 77 = .ok (.aload_n 0, 1) := by decide +kernel
theorem dX11_stepOn_78 : decode cX11_stepOn 78 = .ok (.getfield 151, 3) := by decide +kernel
theorem dX11_stepOn_81 : decode cX11_stepOn 81 = .ok (.invokevirtual 154, 3) := by decide +kernel
theorem dX11_stepOn_84 : decode cX11_stepOn 84 = .ok (.invokestatic 164, 3) := by decide +kernel
theorem dX11_stepOn_87 : decode cX11_stepOn 87 = .ok (.ifCond .eq 16, 3) := by decide +kernel
theorem dX11_stepOn_90 : decode cX11_stepOn 90 = .ok (.aload_n 0, 1) := by decide +kernel
theorem dX11_stepOn_91 : decode cX11_stepOn 91 = .ok (.dup, 1) := by decide +kernel
theorem dX11_stepOn_92 : decode cX11_stepOn 92 = .ok (.getfield 151, 3) := by decide +kernel
theorem dX11_stepOn_95 : decode cX11_stepOn 95 = .ok (.iconst 1, 1) := by decide +kernel
theorem dX11_stepOn_96 : decode cX11_stepOn 96 = .ok (.iadd, 1) := by decide +kernel
theorem dX11_stepOn_97 : decode cX11_stepOn 97 = .ok (.putfield 151, 3) := by decide +kernel
theorem dX11_stepOn_100 : decode cX11_stepOn 100 = .ok (.goto (-24), 3) := by decide +kernel
theorem dX11_stepOn_103 : decode cX11_stepOn 103 = .ok (.aload_n 0, 1) := by decide +kernel
theorem dX11_stepOn_104 : decode cX11_stepOn 104 = .ok (.iconst 1, 1) := by decide +kernel
theorem dX11_stepOn_105 : decode cX11_stepOn 105 = .ok (.putfield 161, 3) := by decide +kernel
theorem dX11_stepOn_108 : decode cX11_stepOn 108 = .ok (.goto 103, 3) := by decide +kernel
theorem dX11_stepOn_111 : decode cX11_stepOn 111 = .ok (.iload_n 1, 1) := by decide +kernel
theorem dX11_stepOn_112 : decode cX11_stepOn 112 = .ok (.invokestatic 168, 3) := by decide +kernel
theorem dX11_stepOn_115 : decode cX11_stepOn 115 = .ok (.ifCond .eq 71, 3) := by decide +kernel
theorem dX11_stepOn_118 : decode cX11_stepOn 118 = .ok (.aload_n 0, 1) := by decide +kernel
theorem dX11_stepOn_119 : decode cX11_stepOn 119 = .ok (.iconst 0, 1) := by decide +kernel
theorem dX11_stepOn_120 : decode cX11_stepOn 120 = .ok (.putfield 171, 3) := by decide +kernel
theorem dX11_stepOn_123 : decode cX11_stepOn 123 = .ok (.aload_n 0, 1) := by decide +kernel
theorem dX11_stepOn_124 : decode cX11_stepOn 124 = .ok (.aload_n 0, 1) := by decide +kernel
theorem dX11_stepOn_125 : decode cX11_stepOn 125 = .ok (.getfield 151, 3) := by decide +kernel
theorem dX11_stepOn_128 : decode cX11_stepOn 128 = .ok (.invokevirtual 154, 3) := by decide +kernel
theorem dX11_stepOn_131 : decode cX11_stepOn 131 = .ok (.invokestatic 168, 3) := by decide +kernel
theorem dX11_stepOn_134 : decode cX11_stepOn 134 = .ok (.ifCond .eq 44, 3) := by decide +kernel
theorem dX11_stepOn_137 : decode cX11_stepOn 137 = .ok (.aload_n 0, 1) := by decide +kernel
theorem dX11_stepOn_138 : decode cX11_stepOn 138 = .ok (.ldc 174, 2) := by decide +kernel
theorem dX11_stepOn_140 : decode cX11_stepOn 140 = .ok (.bipush 10, 2) := by decide +kernel
theorem dX11_stepOn_142 : decode cX11_stepOn 142 = .ok (.aload_n 0, 1) := by decide +kernel
theorem dX11_stepOn_143 : decode cX11_stepOn 143 = .ok (.getfield 171, 3) := by decide +kernel
theorem dX11_stepOn_146 : decode cX11_stepOn 146 = .ok (.imul, 1) := by decide +kernel
theorem dX11_stepOn_147 : decode cX11_stepOn 147 = .ok (.aload_n 0, 1) := by decide +kernel
theorem dX11_stepOn_148 : decode cX11_stepOn 148 = .ok (.aload_n 0, 1) := by decide +kernel
theorem dX11_stepOn_149 : decode cX11_stepOn 149 = .ok (.getfield 151, 3) := by decide +kernel
theorem dX11_stepOn_152 : decode cX11_stepOn 152 = .ok (.invokevirtual 154, 3) := by decide +kernel
theorem dX11_stepOn_155 : decode cX11_stepOn 155 = .ok (.iadd, 1) := by decide +kernel
theorem dX11_stepOn_156 : decode cX11_stepOn 156 = .ok (.bipush 48, 2) := by decide +kernel
theorem dX11_stepOn_158 : decode cX11_stepOn 158 = .ok (.isub, 1) := by decide +kernel
theorem dX11_stepOn_159 : decode cX11_stepOn 159 = .ok (.invokestatic 175, 3) := by decide +kernel
theorem dX11_stepOn_162 : decode cX11_stepOn 162 = .ok (.putfield 171, 3) := by decide +kernel
theorem dX11_stepOn_165 : decode cX11_stepOn 165 = .ok (.aload_n 0, 1) := by decide +kernel
theorem dX11_stepOn_166 : decode cX11_stepOn 166 = .ok (.dup, 1) := by decide +kernel
theorem dX11_stepOn_167 : decode cX11_stepOn 167 = .ok (.getfield 151, 3) := by decide +kernel
theorem dX11_stepOn_170 : decode cX11_stepOn 170 = .ok (.iconst 1, 1) := by decide +kernel
theorem dX11_stepOn_171 : decode cX11_stepOn 171 = .ok (.iadd, 1) := by decide +kernel
theorem dX11_stepOn_172 : decode cX11_stepOn 172 = .ok (.putfield 151, 3) := by decide +kernel
theorem dX11_stepOn_175 : decode cX11_stepOn 175 = .ok (.goto (-52), 3) := by decide +kernel
theorem dX11_stepOn_178 : decode cX11_stepOn 178 = .ok (.aload_n 0, 1) := by decide +kernel
theorem dX11_stepOn_179 : decode cX11_stepOn 179 = .ok (.iconst 2, 1) := by decide +kernel
theorem dX11_stepOn_180 : decode cX11_stepOn 180 = .ok (.putfield 161, 3) := by decide +kernel
theorem dX11_stepOn_183 : decode cX11_stepOn 183 = .ok (.goto 28, 3) := by decide +kernel
theorem dX11_stepOn_186 : decode cX11_stepOn 186 = .ok (.aload_n 0, 1) := by decide +kernel
theorem dX11_stepOn_187 : decode cX11_stepOn 187 = .ok (.dup, 1) := by decide +kernel
theorem dX11_stepOn_188 : decode cX11_stepOn 188 = .ok (.getfield 151, 3) := by decide +kernel
theorem dX11_stepOn_191 : decode cX11_stepOn 191 = .ok (.iconst 1, 1) := by decide +kernel
theorem dX11_stepOn_192 : decode cX11_stepOn 192 = .ok (.iadd, 1) := by decide +kernel
theorem dX11_stepOn_193 : decode cX11_stepOn 193 = .ok (.putfield 151, 3) := by decide +kernel
theorem dX11_stepOn_196 : decode cX11_stepOn 196 = .ok (.aload_n 0, 1) := by decide +kernel
theorem dX11_stepOn_197 : decode cX11_stepOn 197 = .ok (.iload_n 1, 1) := by decide +kernel
theorem dX11_stepOn_198 : decode cX11_stepOn 198 = .ok (.bipush 59, 2) := by decide +kernel
theorem dX11_stepOn_200 : decode cX11_stepOn 200 = .ok (.if_icmp .ne 7, 3) := by decide +kernel
theorem dX11_stepOn_203 : decode cX11_stepOn 203 = .ok (.iconst 3, 1) := by decide +kernel
theorem dX11_stepOn_204 : decode cX11_stepOn 204 = .ok (.goto 4, 3) := by decide +kernel
theorem dX11_stepOn_207 : decode cX11_stepOn 207 = .ok (.iconst 4, 1) := by decide +kernel
theorem dX11_stepOn_208 : decode cX11_stepOn 208 = .ok (.putfield 161, 3) := by decide +kernel
theorem dX11_stepOn_211 : decode cX11_stepOn 211 = .ok (.aload_n 0, 1) := by decide +kernel
theorem dX11_stepOn_212 : decode cX11_stepOn 212 = .ok (.aload_n 0, 1) := by decide +kernel
theorem dX11_stepOn_213 : decode cX11_stepOn 213 = .ok (.getfield 151, 3) := by decide +kernel
theorem dX11_stepOn_216 : decode cX11_stepOn 216 = .ok (.putfield 181, 3) := by decide +kernel
theorem dX11_stepOn_219 : decode cX11_stepOn 219 = .ok (.return_, 1) := by decide +kernel
theorem dX11_takeHalf_0 : decode cX11_takeHalf 0 = .ok (.iconst 0, 1) := by decide +kernel
theorem dX11_takeHalf_1 : decode cX11_takeHalf 1 = .ok (.istore_n 1, 1) := by decide +kernel
theorem dX11_takeHalf_2 : decode cX11_takeHalf 2 = .ok (.iload_n 1, 1) := by decide +kernel
theorem dX11_takeHalf_3 : decode cX11_takeHalf 3 = .ok (.aload_n 0, 1) := by decide +kernel
theorem dX11_takeHalf_4 : decode cX11_takeHalf 4 = .ok (.arraylength, 1) := by decide +kernel
theorem dX11_takeHalf_5 : decode cX11_takeHalf 5 = .ok (.iconst 2, 1) := by decide +kernel
theorem dX11_takeHalf_6 : decode cX11_takeHalf 6 = .ok (.idiv, 1) := by decide +kernel
theorem dX11_takeHalf_7 : decode cX11_takeHalf 7 = .ok (.if_icmp .ge 20, 3) := by decide +kernel
theorem dX11_takeHalf_10 : decode cX11_takeHalf 10 = .ok (.aload_n 0, 1) := by decide +kernel
theorem dX11_takeHalf_11 : decode cX11_takeHalf 11 = .ok (.iload_n 1, 1) := by decide +kernel
theorem dX11_takeHalf_12 : decode cX11_takeHalf 12 = .ok (.aload_n 0, 1) := by decide +kernel
theorem dX11_takeHalf_13 : decode cX11_takeHalf 13 = .ok (.aload_n 0, 1) := by decide +kernel
theorem dX11_takeHalf_14 : decode cX11_takeHalf 14 = .ok (.arraylength, 1) := by decide +kernel
theorem dX11_takeHalf_15 : decode cX11_takeHalf 15 = .ok (.iconst 2, 1) := by decide +kernel
theorem dX11_takeHalf_16 : decode cX11_takeHalf 16 = .ok (.idiv, 1) := by decide +kernel
theorem dX11_takeHalf_17 : decode cX11_takeHalf 17 = .ok (.iload_n 1, 1) := by decide +kernel
theorem dX11_takeHalf_18 : decode cX11_takeHalf 18 = .ok (.iadd, 1) := by decide +kernel
theorem dX11_takeHalf_19 : decode cX11_takeHalf 19 = .ok (.iaload, 1) := by decide +kernel
theorem dX11_takeHalf_20 : decode cX11_takeHalf 20 = .ok (.iastore, 1) := by decide +kernel
theorem dX11_takeHalf_21 : decode cX11_takeHalf 21 = .ok (.iinc 1 1, 3) := by decide +kernel
theorem dX11_takeHalf_24 : decode cX11_takeHalf 24 = .ok (.goto (-22), 3) := by decide +kernel
theorem dX11_takeHalf_27 : decode cX11_takeHalf 27 = .ok (.return_, 1) := by decide +kernel
set_option maxRecDepth 20000 in
theorem ggX11_net_X11_fail : GoodIn wsX11_net wsX11_fail := goodIn_r _ [27, 1, 166, 167, 168, 169, 170, 171, 172, 173, 174, 175, 176, 177, 178, 179, 180, 181, 182, 183, 184, 185, 186, 187, 188, 189, 190, 191, 192, 193, 194, 195, 196, 197, 198, 199, 200, 201, 202, 203, 204, 205, 206, 207, 208, 209, 210, 211, 212, 213, 214, 215, 216, 217, 218, 219, 220, 221, 222, 223, 224, 225, 226] (by decide +kernel) (by decide +kernel)
set_option maxRecDepth 20000 in
theorem gX11_net_X11_fail : GoodIn wsX11_net (wsV RX11 240 RX11 yX11_fail wsX11_fail) := goodIn_app (goodIn_of _ (by decide +kernel)) ggX11_net_X11_fail
set_option maxRecDepth 20000 in
theorem ggX11_net_X11_stepOn : GoodIn wsX11_net wsX11_stepOn := goodIn_r _ [31, 4, 32, 8, 33, 34, 35, 36, 37, 38, 39, 40, 41, 42, 26, 43, 3, 44, 45, 46, 47, 48, 49, 50, 166, 167, 168, 169, 170, 171, 172, 173, 174, 175, 176, 177, 178, 179, 180, 181, 182, 183, 184, 185, 186, 187, 188, 189, 190, 191, 192, 193, 194, 195, 196, 197, 198, 199, 200, 201, 202, 203, 204, 205, 206, 207, 208, 209, 210, 211, 212, 213, 214, 215, 216, 217, 218, 219, 220, 221, 222, 223, 224, 225, 226] (by decide +kernel) (by decide +kernel)
set_option maxRecDepth 20000 in
theorem gX11_net_X11_stepOn : GoodIn wsX11_net (wsV RX11 209 RX11 yX11_stepOn wsX11_stepOn) := goodIn_app (goodIn_of _ (by decide +kernel)) ggX11_net_X11_stepOn
set_option maxRecDepth 20000 in
theorem ggX11_net_X11_readClause : GoodIn wsX11_net wsX11_readClause := goodIn_r _ [54, 55, 7, 5, 8, 56, 57, 58, 26, 59, 60, 61, 62, 63, 39, 32, 44, 64, 65, 66, 67, 68, 69, 70, 71, 72, 73, 74, 75, 76, 77, 78, 79, 80, 81, 82, 83, 84, 85, 86, 87, 88, 89, 90, 91, 92, 93, 94, 95, 96, 97, 98, 99, 100, 101, 102, 103, 104, 105, 106, 107, 108, 109, 110, 111, 112, 113, 114, 115, 116, 9, 117, 118, 119, 120, 121, 11, 12, 13, 14, 15, 28, 29, 30, 31, 4, 33, 34, 35, 36, 37, 38, 40, 41, 42, 43, 3, 45, 46, 47, 48, 49, 50, 122, 123, 124, 125, 126, 127, 128, 129, 130, 131, 132, 133, 16, 17, 134, 135, 136, 137, 138, 139, 140, 141, 142, 143, 144, 145, 146, 147, 148, 149, 18, 166, 167, 168, 169, 170, 171, 172, 173, 174, 175, 176, 177, 178, 179, 180, 181, 182, 183, 184, 185, 186, 187, 188, 189, 190, 191, 192, 193, 194, 195, 196, 197, 198, 199, 200, 201, 202, 203, 204, 205, 206, 207, 208, 209, 210, 211, 212, 213, 214, 215, 216, 217, 218, 219, 220, 221, 222, 223, 224, 225, 226] (by decide +kernel) (by decide +kernel)
set_option maxRecDepth 20000 in
theorem gX11_net_X11_readClause : GoodIn wsX11_net (wsV RX11 243 RX11 yX11_readClause wsX11_readClause) := goodIn_app (goodIn_of _ (by decide +kernel)) ggX11_net_X11_readClause
set_option maxRecDepth 20000 in
theorem ggX11_net_X11_takeHalf : GoodIn wsX11_net wsX11_takeHalf := goodIn_r _ [152] (by decide +kernel) (by decide +kernel)
set_option maxRecDepth 20000 in
theorem gX11_net_X11_takeHalf : GoodIn wsX11_net (va_wsS RX11 246 yX11_takeHalf wsX11_takeHalf) := goodIn_app (goodIn_of _ (by decide +kernel)) ggX11_net_X11_takeHalf
set_option maxRecDepth 20000 in
theorem ggX11_net_X11_tellReach : GoodIn wsX11_net wsX11_tellReach := goodIn_r _ [156, 157, 16, 17, 158, 159, 160, 26, 161, 7, 162, 163, 164, 165, 166, 167, 168, 169, 170, 171, 172, 173, 174, 175, 176, 177, 178, 179, 180, 181, 182, 183, 184, 185, 186, 187, 188, 189, 190, 191, 192, 193, 194, 195, 196, 197, 198, 199, 200, 201, 202, 203, 204, 205, 206, 207, 208, 209, 210, 211, 212, 213, 214, 215, 216, 217, 218, 219, 220, 221, 222, 223, 224, 225, 226] (by decide +kernel) (by decide +kernel)
set_option maxRecDepth 20000 in
theorem gX11_net_X11_tellReach : GoodIn wsX11_net (wsV RX11 260 RX11 yX11_tellReach wsX11_tellReach) := goodIn_app (goodIn_of _ (by decide +kernel)) ggX11_net_X11_tellReach
theorem dX11_net_0 : decode cX11_net 0 = .ok (.aload_n 0, 1) := by decide +kernel
theorem dX11_net_1 : decode cX11_net 1 = .ok (.iconst 0, 1) := by decide +kernel
theorem dX11_net_2 : decode cX11_net 2 = .ok (.putfield 142, 3) := by decide +kernel
theorem dX11_net_5 : decode cX11_net 5 = .ok (.iload_n 1, 1) := by decide +kernel
theorem dX11_net_6 : decode cX11_net 6 = .ok (.ifCond .lt 11, 3) := by decide +kernel
theorem dX11_net_9 : decode cX11_net 9 = .ok (.iload_n 1, 1) := by decide +kernel
theorem dX11_net_10 : decode cX11_net 10 = .ok (.aload_n 0, 1) := by decide +kernel
theorem dX11_net_11 : decode cX11_net 11 = .ok (.getfield 145, 3) := by decide +kernel
theorem dX11_net_14 : decode cX11_net 14 = .ok (.if_icmp .le 9, 3) := by decide +kernel
theorem dX11_net_17 : decode cX11_net 17 = .ok (.aload_n 0, 1) := by decide +kernel
theorem dX11_net_18 : decode cX11_net 18 = .ok (.iconst 1, 1) := by decide +kernel
theorem dX11_net_19 : decode cX11_net 19 = .ok (.invokevirtual 240, 3) := by decide +kernel
theorem dX11_net_22 : decode cX11_net 22 = .ok (.ireturn, 1) := by decide +kernel
theorem dX11_net_23 : decode cX11_net 23 = .ok (.aload_n 0, 1) := by decide +kernel
theorem dX11_net_24 : decode cX11_net 24 = .ok (.iconst 0, 1) := by decide +kernel
theorem dX11_net_25 : decode cX11_net 25 = .ok (.putfield 145, 3) := by decide +kernel
theorem dX11_net_28 : decode cX11_net 28 = .ok (.aload_n 0, 1) := by decide +kernel
theorem dX11_net_29 : decode cX11_net 29 = .ok (.iload_n 1, 1) := by decide +kernel
theorem dX11_net_30 : decode cX11_net 30 = .ok (.putfield 148, 3) := by decide +kernel
theorem dX11_net_33 : decode cX11_net 33 = .ok (.aload_n 0, 1) := by decide +kernel
theorem dX11_net_34 : decode cX11_net 34 = .ok (.iconst 0, 1) := by decide +kernel
theorem dX11_net_35 : decode cX11_net 35 = .ok (.putfield 151, 3) := by decide +kernel
theorem dX11_net_38 : decode cX11_net 38 = .ok (.aload_n 0, 1) := by decide +kernel
theorem dX11_net_39 : decode cX11_net 39 = .ok (.iconst 0, 1) := by decide +kernel
theorem dX11_net_40 : decode cX11_net 40 = .ok (.putfield 184, 3) := by decide +kernel
theorem dX11_net_43 : decode cX11_net 43 = .ok (.aload_n 0, 1) := by decide +kernel
theorem dX11_net_44 : decode cX11_net 44 = .ok (.iconst (-1), 1) := by decide +kernel
theorem dX11_net_45 : decode cX11_net 45 = .ok (.putfield 69, 3) := by decide +kernel
theorem dX11_net_48 : decode cX11_net 48 = .ok (.iconst 4, 1) := by decide +kernel
theorem dX11_net_49 : decode cX11_net 49 = .ok (.istore_n 2, 1) := by decide +kernel
theorem dX11_net_50 : decode cX11_net 50 = .ok (.iload_n 2, 1) := by decide +kernel
theorem dX11_net_51 : decode cX11_net 51 = .ok (.bipush 8, 2) := by decide +kernel
theorem dX11_net_53 : decode cX11_net 53 = .ok (.if_icmp .ge 26, 3) := by decide +kernel
theorem dX11_net_56 : decode cX11_net 56 = .ok (.aload_n 0, 1) := by decide +kernel
theorem dX11_net_57 : decode cX11_net 57 = .ok (.getfield 34, 3) := by decide +kernel
theorem dX11_net_60 : decode cX11_net 60 = .ok (.iload_n 2, 1) := by decide +kernel
theorem dX11_net_61 : decode cX11_net 61 = .ok (.iload_n 2, 1) := by decide +kernel
theorem dX11_net_62 : decode cX11_net 62 = .ok (.bipush 7, 2) := by decide +kernel
theorem dX11_net_64 : decode cX11_net 64 = .ok (.if_icmp .ne 7, 3) := by decide +kernel
theorem dX11_net_67 : decode cX11_net 67 = .ok (.iconst (-1), 1) := by decide +kernel
theorem dX11_net_68 : decode cX11_net 68 = .ok (.goto 4, 3) := by decide +kernel
theorem dX11_net_71 : decode cX11_net 71 = .ok (.iconst 0, 1) := by decide +kernel
theorem dX11_net_72 : decode cX11_net 72 = .ok (.iastore, 1) := by decide +kernel
theorem dX11_net_73 : decode cX11_net 73 = .ok (.iinc 2 1, 3) := by decide +kernel
theorem dX11_net_76 : decode cX11_net 76 = .ok (.goto (-26), 3) := by decide +kernel
theorem dX11_net_79 : decode cX11_net 79 = .ok (.aload_n 0, 1) := by decide +kernel
theorem dX11_net_80 : decode cX11_net 80 = .ok (.invokevirtual 209, 3) := by decide +kernel
theorem dX11_net_83 : decode cX11_net 83 = .ok (.aload_n 0, 1) := by decide +kernel
theorem dX11_net_84 : decode cX11_net 84 = .ok (.getfield 184, 3) := by decide +kernel
theorem dX11_net_87 : decode cX11_net 87 = .ok (.ifCond .ne 17, 3) := by decide +kernel
theorem dX11_net_90 : decode cX11_net 90 = .ok (.aload_n 0, 1) := by decide +kernel
theorem dX11_net_91 : decode cX11_net 91 = .ok (.getfield 161, 3) := by decide +kernel
theorem dX11_net_94 : decode cX11_net 94 = .ok (.ifCond .eq 10, 3) := by decide +kernel
theorem dX11_net_97 : decode cX11_net 97 = .ok (.aload_n 0, 1) := by decide +kernel
theorem dX11_net_98 : decode cX11_net 98 = .ok (.invokevirtual 243, 3) := by decide +kernel
theorem dX11_net_101 : decode cX11_net 101 = .ok (.goto (-18), 3) := by decide +kernel
theorem dX11_net_104 : decode cX11_net 104 = .ok (.aload_n 0, 1) := by decide +kernel
theorem dX11_net_105 : decode cX11_net 105 = .ok (.getfield 184, 3) := by decide +kernel
theorem dX11_net_108 : decode cX11_net 108 = .ok (.ifCond .eq 26, 3) := by decide +kernel
theorem dX11_net_111 : decode cX11_net 111 = .ok (.aload_n 0, 1) := by decide +kernel
theorem dX11_net_112 : decode cX11_net 112 = .ok (.aload_n 0, 1) := by decide +kernel
theorem dX11_net_113 : decode cX11_net 113 = .ok (.getfield 187, 3) := by decide +kernel
theorem dX11_net_116 : decode cX11_net 116 = .ok (.putfield 69, 3) := by decide +kernel
theorem dX11_net_119 : decode cX11_net 119 = .ok (.aload_n 0, 1) := by decide +kernel
theorem dX11_net_120 : decode cX11_net 120 = .ok (.getfield 63, 3) := by decide +kernel
theorem dX11_net_123 : decode cX11_net 123 = .ok (.iconst 0, 1) := by decide +kernel
theorem dX11_net_124 : decode cX11_net 124 = .ok (.dup2, 1) := by decide +kernel
theorem dX11_net_125 : decode cX11_net 125 = .ok (.iaload, 1) := by decide +kernel
theorem dX11_net_126 : decode cX11_net 126 = .ok (.iconst 1, 1) := by decide +kernel
theorem dX11_net_127 : decode cX11_net 127 = .ok (.iadd, 1) := by decide +kernel
theorem dX11_net_128 : decode cX11_net 128 = .ok (.iastore, 1) := by decide +kernel
theorem dX11_net_129 : decode cX11_net 129 = .ok (.aload_n 0, 1) := by decide +kernel
theorem dX11_net_130 : decode cX11_net 130 = .ok (.getfield 184, 3) := by decide +kernel
theorem dX11_net_133 : decode cX11_net 133 = .ok (.ireturn, 1) := by decide +kernel
theorem dX11_net_134 : decode cX11_net 134 = .ok (.aload_n 0, 1) := by decide +kernel
theorem dX11_net_135 : decode cX11_net 135 = .ok (.getfield 34, 3) := by decide +kernel
theorem dX11_net_138 : decode cX11_net 138 = .ok (.invokestatic 246, 3) := by decide +kernel
theorem dX11_net_141 : decode cX11_net 141 = .ok (.aload_n 0, 1) := by decide +kernel
theorem dX11_net_142 : decode cX11_net 142 = .ok (.getfield 38, 3) := by decide +kernel
theorem dX11_net_145 : decode cX11_net 145 = .ok (.invokestatic 246, 3) := by decide +kernel
theorem dX11_net_148 : decode cX11_net 148 = .ok (.aload_n 0, 1) := by decide +kernel
theorem dX11_net_149 : decode cX11_net 149 = .ok (.getfield 41, 3) := by decide +kernel
theorem dX11_net_152 : decode cX11_net 152 = .ok (.invokestatic 246, 3) := by decide +kernel
theorem dX11_net_155 : decode cX11_net 155 = .ok (.aload_n 0, 1) := by decide +kernel
theorem dX11_net_156 : decode cX11_net 156 = .ok (.getfield 44, 3) := by decide +kernel
theorem dX11_net_159 : decode cX11_net 159 = .ok (.invokestatic 246, 3) := by decide +kernel
theorem dX11_net_162 : decode cX11_net 162 = .ok (.aload_n 0, 1) := by decide +kernel
theorem dX11_net_163 : decode cX11_net 163 = .ok (.getfield 47, 3) := by decide +kernel
theorem dX11_net_166 : decode cX11_net 166 = .ok (.invokestatic 246, 3) := by decide +kernel
theorem dX11_net_169 : decode cX11_net 169 = .ok (.aload_n 0, 1) := by decide +kernel
theorem dX11_net_170 : decode cX11_net 170 = .ok (.getfield 50, 3) := by decide +kernel
theorem dX11_net_173 : decode cX11_net 173 = .ok (.invokestatic 246, 3) := by decide +kernel
theorem dX11_net_176 : decode cX11_net 176 = .ok (.aload_n 0, 1) := by decide +kernel
theorem dX11_net_177 : decode cX11_net 177 = .ok (.getfield 53, 3) := by decide +kernel
theorem dX11_net_180 : decode cX11_net 180 = .ok (.invokestatic 246, 3) := by decide +kernel
theorem dX11_net_183 : decode cX11_net 183 = .ok (.aload_n 0, 1) := by decide +kernel
theorem dX11_net_184 : decode cX11_net 184 = .ok (.getfield 56, 3) := by decide +kernel
theorem dX11_net_187 : decode cX11_net 187 = .ok (.invokestatic 246, 3) := by decide +kernel
theorem dX11_net_190 : decode cX11_net 190 = .ok (.aload_n 0, 1) := by decide +kernel
theorem dX11_net_191 : decode cX11_net 191 = .ok (.getfield 58, 3) := by decide +kernel
theorem dX11_net_194 : decode cX11_net 194 = .ok (.invokestatic 246, 3) := by decide +kernel
theorem dX11_net_197 : decode cX11_net 197 = .ok (.iconst 0, 1) := by decide +kernel
theorem dX11_net_198 : decode cX11_net 198 = .ok (.istore_n 2, 1) := by decide +kernel
theorem dX11_net_199 : decode cX11_net 199 = .ok (.iload_n 2, 1) := by decide +kernel
theorem dX11_net_200 : decode cX11_net 200 = .ok (.sipush 1019, 3) := by decide +kernel
theorem dX11_net_203 : decode cX11_net 203 = .ok (.if_icmp .ge 16, 3) := by decide +kernel
theorem dX11_net_206 : decode cX11_net 206 = .ok (.aload_n 0, 1) := by decide +kernel
theorem dX11_net_207 : decode cX11_net 207 = .ok (.getfield 60, 3) := by decide +kernel
theorem dX11_net_210 : decode cX11_net 210 = .ok (.iload_n 2, 1) := by decide +kernel
theorem dX11_net_211 : decode cX11_net 211 = .ok (.iconst 0, 1) := by decide +kernel
theorem dX11_net_212 : decode cX11_net 212 = .ok (.iastore, 1) := by decide +kernel
theorem dX11_net_213 : decode cX11_net 213 = .ok (.iinc 2 1, 3) := by decide +kernel
theorem dX11_net_216 : decode cX11_net 216 = .ok (.goto (-17), 3) := by decide +kernel
theorem dX11_net_219 : decode cX11_net 219 = .ok (.aload_n 0, 1) := by decide +kernel
theorem dX11_net_220 : decode cX11_net 220 = .ok (.getfield 60, 3) := by decide +kernel
theorem dX11_net_223 : decode cX11_net 223 = .ok (.bipush 54, 2) := by decide +kernel
theorem dX11_net_225 : decode cX11_net 225 = .ok (.aload_n 0, 1) := by decide +kernel
theorem dX11_net_226 : decode cX11_net 226 = .ok (.getfield 34, 3) := by decide +kernel
theorem dX11_net_229 : decode cX11_net 229 = .ok (.iconst 3, 1) := by decide +kernel
theorem dX11_net_230 : decode cX11_net 230 = .ok (.iaload, 1) := by decide +kernel
theorem dX11_net_231 : decode cX11_net 231 = .ok (.iconst (-1), 1) := by decide +kernel
theorem dX11_net_232 : decode cX11_net 232 = .ok (.if_icmp .ne 7, 3) := by decide +kernel
theorem dX11_net_235 : decode cX11_net 235 = .ok (.iconst 5, 1) := by decide +kernel
theorem dX11_net_236 : decode cX11_net 236 = .ok (.goto 9, 3) := by decide +kernel
theorem dX11_net_239 : decode cX11_net 239 = .ok (.aload_n 0, 1) := by decide +kernel
theorem dX11_net_240 : decode cX11_net 240 = .ok (.getfield 34, 3) := by decide +kernel
theorem dX11_net_243 : decode cX11_net 243 = .ok (.iconst 3, 1) := by decide +kernel
theorem dX11_net_244 : decode cX11_net 244 = .ok (.iaload, 1) := by decide +kernel
theorem dX11_net_245 : decode cX11_net 245 = .ok (.iastore, 1) := by decide +kernel
theorem dX11_net_246 : decode cX11_net 246 = .ok (.aload_n 0, 1) := by decide +kernel
theorem dX11_net_247 : decode cX11_net 247 = .ok (.iconst 0, 1) := by decide +kernel
theorem dX11_net_248 : decode cX11_net 248 = .ok (.putfield 250, 3) := by decide +kernel
theorem dX11_net_251 : decode cX11_net 251 = .ok (.aload_n 0, 1) := by decide +kernel
theorem dX11_net_252 : decode cX11_net 252 = .ok (.iconst 0, 1) := by decide +kernel
theorem dX11_net_253 : decode cX11_net 253 = .ok (.putfield 253, 3) := by decide +kernel
theorem dX11_net_256 : decode cX11_net 256 = .ok (.aload_n 0, 1) := by decide +kernel
theorem dX11_net_257 : decode cX11_net 257 = .ok (.iconst 0, 1) := by decide +kernel
theorem dX11_net_258 : decode cX11_net 258 = .ok (.putfield 256, 3) := by decide +kernel
theorem dX11_net_261 : decode cX11_net 261 = .ok (.aload_n 0, 1) := by decide +kernel
theorem dX11_net_262 : decode cX11_net 262 = .ok (.invokevirtual 260, 3) := by decide +kernel
theorem dX11_net_265 : decode cX11_net 265 = .ok (.iconst 0, 1) := by decide +kernel
theorem dX11_net_266 : decode cX11_net 266 = .ok (.ireturn, 1) := by decide +kernel
set_option maxRecDepth 20000 in
theorem ggX11_tellReach_X11_routers : GoodIn wsX11_tellReach wsX11_routers := goodIn_r _ [8, 9, 14, 15, 16, 17, 18, 19, 20, 21, 22, 23, 24, 25, 26, 27, 28, 29, 30, 31, 32, 33, 34, 35, 36, 37, 38, 39, 40, 41, 42, 43, 44, 45, 46, 47, 48, 49, 50, 51, 52, 53, 54, 55, 56, 57, 58, 59, 60, 61, 62, 63, 64, 65, 66, 67, 68, 69, 70, 71, 72, 73, 74] (by decide +kernel) (by decide +kernel)
set_option maxRecDepth 20000 in
theorem gX11_tellReach_X11_routers : GoodIn wsX11_tellReach (wsV RX11 263 RX11 yX11_routers wsX11_routers) := goodIn_app (goodIn_of _ (by decide +kernel)) ggX11_tellReach_X11_routers
set_option maxRecDepth 20000 in
theorem ggX11_tellReach_X11_links : GoodIn wsX11_tellReach wsX11_links := goodIn_r _ [13, 9, 14, 15, 16, 17, 18, 19, 20, 21, 22, 23, 24, 25, 26, 27, 28, 29, 30, 31, 32, 33, 34, 35, 36, 37, 38, 39, 40, 41, 42, 43, 44, 45, 46, 47, 48, 49, 50, 51, 52, 53, 54, 55, 56, 57, 58, 59, 60, 61, 62, 63, 64, 65, 66, 67, 68, 69, 70, 71, 72, 73, 74] (by decide +kernel) (by decide +kernel)
set_option maxRecDepth 20000 in
theorem gX11_tellReach_X11_links : GoodIn wsX11_tellReach (wsV RX11 266 RX11 yX11_links wsX11_links) := goodIn_app (goodIn_of _ (by decide +kernel)) ggX11_tellReach_X11_links
theorem dX11_tellReach_0 : decode cX11_tellReach 0 = .ok (.iconst 0, 1) := by decide +kernel
theorem dX11_tellReach_1 : decode cX11_tellReach 1 = .ok (.istore_n 1, 1) := by decide +kernel
theorem dX11_tellReach_2 : decode cX11_tellReach 2 = .ok (.iload_n 1, 1) := by decide +kernel
theorem dX11_tellReach_3 : decode cX11_tellReach 3 = .ok (.aload_n 0, 1) := by decide +kernel
theorem dX11_tellReach_4 : decode cX11_tellReach 4 = .ok (.invokevirtual 263, 3) := by decide +kernel
theorem dX11_tellReach_7 : decode cX11_tellReach 7 = .ok (.if_icmp .ge 87, 3) := by decide +kernel
theorem dX11_tellReach_10 : decode cX11_tellReach 10 = .ok (.aload_n 0, 1) := by decide +kernel
theorem dX11_tellReach_11 : decode cX11_tellReach 11 = .ok (.getfield 73, 3) := by decide +kernel
theorem dX11_tellReach_14 : decode cX11_tellReach 14 = .ok (.iload_n 1, 1) := by decide +kernel
theorem dX11_tellReach_15 : decode cX11_tellReach 15 = .ok (.iconst 1, 1) := by decide +kernel
theorem dX11_tellReach_16 : decode cX11_tellReach 16 = .ok (.iload_n 1, 1) := by decide +kernel
theorem dX11_tellReach_17 : decode cX11_tellReach 17 = .ok (.ishl, 1) := by decide +kernel
theorem dX11_tellReach_18 : decode cX11_tellReach 18 = .ok (.iastore, 1) := by decide +kernel
theorem dX11_tellReach_19 : decode cX11_tellReach 19 = .ok (.iload_n 1, 1) := by decide +kernel
theorem dX11_tellReach_20 : decode cX11_tellReach 20 = .ok (.istore_n 2, 1) := by decide +kernel
theorem dX11_tellReach_21 : decode cX11_tellReach 21 = .ok (.iload_n 2, 1) := by decide +kernel
theorem dX11_tellReach_22 : decode cX11_tellReach 22 = .ok (.ifCond .lt 66, 3) := by decide +kernel
theorem dX11_tellReach_25 : decode cX11_tellReach 25 = .ok (.iconst 0, 1) := by decide +kernel
theorem dX11_tellReach_26 : decode cX11_tellReach 26 = .ok (.istore_n 3, 1) := by decide +kernel
theorem dX11_tellReach_27 : decode cX11_tellReach 27 = .ok (.iload_n 3, 1) := by decide +kernel
theorem dX11_tellReach_28 : decode cX11_tellReach 28 = .ok (.aload_n 0, 1) := by decide +kernel
theorem dX11_tellReach_29 : decode cX11_tellReach 29 = .ok (.invokevirtual 266, 3) := by decide +kernel
theorem dX11_tellReach_32 : decode cX11_tellReach 32 = .ok (.if_icmp .ge 50, 3) := by decide +kernel
theorem dX11_tellReach_35 : decode cX11_tellReach 35 = .ok (.aload_n 0, 1) := by decide +kernel
theorem dX11_tellReach_36 : decode cX11_tellReach 36 = .ok (.getfield 53, 3) := by decide +kernel
theorem dX11_tellReach_39 : decode cX11_tellReach 39 = .ok (.iload_n 3, 1) := by decide +kernel
theorem dX11_tellReach_40 : decode cX11_tellReach 40 = .ok (.iaload, 1) := by decide +kernel
theorem dX11_tellReach_41 : decode cX11_tellReach 41 = .ok (.iload_n 2, 1) := by decide +kernel
theorem dX11_tellReach_42 : decode cX11_tellReach 42 = .ok (.if_icmp .ne 34, 3) := by decide +kernel
theorem dX11_tellReach_45 : decode cX11_tellReach 45 = .ok (.aload_n 0, 1) := by decide +kernel
theorem dX11_tellReach_46 : decode cX11_tellReach 46 = .ok (.getfield 73, 3) := by decide +kernel
theorem dX11_tellReach_49 : decode cX11_tellReach 49 = .ok (.iload_n 1, 1) := by decide +kernel
theorem dX11_tellReach_50 : decode cX11_tellReach 50 = .ok (.iaload, 1) := by decide +kernel
theorem dX11_tellReach_51 : decode cX11_tellReach 51 = .ok (.aload_n 0, 1) := by decide +kernel
theorem dX11_tellReach_52 : decode cX11_tellReach 52 = .ok (.getfield 56, 3) := by decide +kernel
theorem dX11_tellReach_55 : decode cX11_tellReach 55 = .ok (.iload_n 3, 1) := by decide +kernel
theorem dX11_tellReach_56 : decode cX11_tellReach 56 = .ok (.iaload, 1) := by decide +kernel
theorem dX11_tellReach_57 : decode cX11_tellReach 57 = .ok (.ishr, 1) := by decide +kernel
theorem dX11_tellReach_58 : decode cX11_tellReach 58 = .ok (.iconst 1, 1) := by decide +kernel
theorem dX11_tellReach_59 : decode cX11_tellReach 59 = .ok (.iand, 1) := by decide +kernel
theorem dX11_tellReach_60 : decode cX11_tellReach 60 = .ok (.iconst 1, 1) := by decide +kernel
theorem dX11_tellReach_61 : decode cX11_tellReach 61 = .ok (.if_icmp .ne 15, 3) := by decide +kernel
theorem dX11_tellReach_64 : decode cX11_tellReach 64 = .ok (.aload_n 0, 1) := by decide +kernel
theorem dX11_tellReach_65 : decode cX11_tellReach 65 = .ok (.getfield 73, 3) := by decide +kernel
theorem dX11_tellReach_68 : decode cX11_tellReach 68 = .ok (.iload_n 1, 1) := by decide +kernel
theorem dX11_tellReach_69 : decode cX11_tellReach 69 = .ok (.dup2, 1) := by decide +kernel
theorem dX11_tellReach_70 : decode cX11_tellReach 70 = .ok (.iaload, 1) := by decide +kernel
theorem dX11_tellReach_71 : decode cX11_tellReach 71 = .ok (.iconst 1, 1) := by decide +kernel
theorem dX11_tellReach_72 : decode cX11_tellReach 72 = .ok (.iload_n 2, 1) := by decide +kernel
theorem dX11_tellReach_73 : decode cX11_tellReach 73 = .ok (.ishl, 1) := by decide +kernel
theorem dX11_tellReach_74 : decode cX11_tellReach 74 = .ok (.ior, 1) := by decide +kernel
theorem dX11_tellReach_75 : decode cX11_tellReach 75 = .ok (.iastore, 1) := by decide +kernel
theorem dX11_tellReach_76 : decode cX11_tellReach 76 = .ok (.iinc 3 1, 3) := by decide +kernel
theorem dX11_tellReach_79 : decode cX11_tellReach 79 = .ok (.goto (-52), 3) := by decide +kernel
theorem dX11_tellReach_82 : decode cX11_tellReach 82 = .ok (.iinc 2 (-1), 3) := by decide +kernel
theorem dX11_tellReach_85 : decode cX11_tellReach 85 = .ok (.goto (-64), 3) := by decide +kernel
theorem dX11_tellReach_88 : decode cX11_tellReach 88 = .ok (.iinc 1 1, 3) := by decide +kernel
theorem dX11_tellReach_91 : decode cX11_tellReach 91 = .ok (.goto (-89), 3) := by decide +kernel
theorem dX11_tellReach_94 : decode cX11_tellReach 94 = .ok (.return_, 1) := by decide +kernel
set_option maxRecDepth 20000 in
theorem ggX11_edgesAll_X11_goals : GoodIn wsX11_edgesAll wsX11_goals := goodIn_r _ [5, 6, 31, 32, 33, 34, 35, 36, 37, 38, 39, 40, 41, 42, 43, 44, 45, 46, 47, 48, 49, 50, 51, 52, 53, 54, 55, 56, 57, 58, 59, 60, 61, 62, 63, 64, 65, 66, 67, 68, 69, 70, 71, 72, 73, 74, 75, 76, 77, 78, 79, 80, 81, 82, 83, 84, 85, 86, 87, 88, 89, 90, 91] (by decide +kernel) (by decide +kernel)
set_option maxRecDepth 20000 in
theorem gX11_edgesAll_X11_goals : GoodIn wsX11_edgesAll (wsV RX11 304 RX11 yX11_goals wsX11_goals) := goodIn_app (goodIn_of _ (by decide +kernel)) ggX11_edgesAll_X11_goals
set_option maxRecDepth 20000 in
theorem ggX11_edgesAll_X11_edgesAt : GoodIn wsX11_edgesAll wsX11_edgesAt := goodIn_r _ [10, 11, 12, 13, 4, 14, 6, 15, 16, 17, 18, 19, 20, 21, 22, 23, 24, 25, 26, 27, 28, 29, 30, 31, 32, 33, 34, 35, 36, 37, 38, 39, 40, 41, 42, 43, 44, 45, 46, 47, 48, 49, 50, 51, 52, 53, 54, 55, 56, 57, 58, 59, 60, 61, 62, 63, 64, 65, 66, 67, 68, 69, 70, 71, 72, 73, 74, 75, 76, 77, 78, 79, 80, 81, 82, 83, 84, 85, 86, 87, 88, 89, 90, 91] (by decide +kernel) (by decide +kernel)
set_option maxRecDepth 20000 in
theorem gX11_edgesAll_X11_edgesAt : GoodIn wsX11_edgesAll (wsV RX11 317 RX11 yX11_edgesAt wsX11_edgesAt) := goodIn_app (goodIn_of _ (by decide +kernel)) ggX11_edgesAll_X11_edgesAt
theorem dX11_edgesAll_0 : decode cX11_edgesAll 0 = .ok (.iconst 0, 1) := by decide +kernel
theorem dX11_edgesAll_1 : decode cX11_edgesAll 1 = .ok (.istore_n 1, 1) := by decide +kernel
theorem dX11_edgesAll_2 : decode cX11_edgesAll 2 = .ok (.iconst 0, 1) := by decide +kernel
theorem dX11_edgesAll_3 : decode cX11_edgesAll 3 = .ok (.istore_n 2, 1) := by decide +kernel
theorem dX11_edgesAll_4 : decode cX11_edgesAll 4 = .ok (.iload_n 2, 1) := by decide +kernel
theorem dX11_edgesAll_5 : decode cX11_edgesAll 5 = .ok (.aload_n 0, 1) := by decide +kernel
theorem dX11_edgesAll_6 : decode cX11_edgesAll 6 = .ok (.invokevirtual 304, 3) := by decide +kernel
theorem dX11_edgesAll_9 : decode cX11_edgesAll 9 = .ok (.if_icmp .ge 32, 3) := by decide +kernel
theorem dX11_edgesAll_12 : decode cX11_edgesAll 12 = .ok (.iconst 1, 1) := by decide +kernel
theorem dX11_edgesAll_13 : decode cX11_edgesAll 13 = .ok (.istore_n 3, 1) := by decide +kernel
theorem dX11_edgesAll_14 : decode cX11_edgesAll 14 = .ok (.iload_n 3, 1) := by decide +kernel
theorem dX11_edgesAll_15 : decode cX11_edgesAll 15 = .ok (.bipush 10, 2) := by decide +kernel
theorem dX11_edgesAll_17 : decode cX11_edgesAll 17 = .ok (.if_icmp .ge 18, 3) := by decide +kernel
theorem dX11_edgesAll_20 : decode cX11_edgesAll 20 = .ok (.iload_n 1, 1) := by decide +kernel
theorem dX11_edgesAll_21 : decode cX11_edgesAll 21 = .ok (.aload_n 0, 1) := by decide +kernel
theorem dX11_edgesAll_22 : decode cX11_edgesAll 22 = .ok (.iload_n 2, 1) := by decide +kernel
theorem dX11_edgesAll_23 : decode cX11_edgesAll 23 = .ok (.iload_n 3, 1) := by decide +kernel
theorem dX11_edgesAll_24 : decode cX11_edgesAll 24 = .ok (.invokevirtual 317, 3) := by decide +kernel
theorem dX11_edgesAll_27 : decode cX11_edgesAll 27 = .ok (.iadd, 1) := by decide +kernel
theorem dX11_edgesAll_28 : decode cX11_edgesAll 28 = .ok (.istore_n 1, 1) := by decide +kernel
theorem dX11_edgesAll_29 : decode cX11_edgesAll 29 = .ok (.iinc 3 1, 3) := by decide +kernel
theorem dX11_edgesAll_32 : decode cX11_edgesAll 32 = .ok (.goto (-18), 3) := by decide +kernel
theorem dX11_edgesAll_35 : decode cX11_edgesAll 35 = .ok (.iinc 2 1, 3) := by decide +kernel
theorem dX11_edgesAll_38 : decode cX11_edgesAll 38 = .ok (.goto (-34), 3) := by decide +kernel
theorem dX11_edgesAll_41 : decode cX11_edgesAll 41 = .ok (.iload_n 1, 1) := by decide +kernel
theorem dX11_edgesAll_42 : decode cX11_edgesAll 42 = .ok (.ireturn, 1) := by decide +kernel
set_option maxRecDepth 20000 in
theorem ggX11_clear_X11_keep : GoodIn wsX11_clear wsX11_keep := goodIn_r _ [7, 8, 9, 2, 14, 15, 16, 17, 18, 19, 20, 21, 22, 23, 24, 25, 26, 27, 28, 29, 30, 31, 32, 33, 34, 35, 36, 37, 38, 39, 40, 41, 42, 43, 44, 45, 46, 47, 48, 49, 50, 51, 52, 53, 54, 55, 56, 57, 58, 59, 60, 61, 62, 63, 64, 65, 66, 67, 68, 69, 70, 71, 72, 73, 74] (by decide +kernel) (by decide +kernel)
set_option maxRecDepth 20000 in
theorem gX11_clear_X11_keep : GoodIn wsX11_clear (wsV RX11 380 RX11 yX11_keep wsX11_keep) := goodIn_app (goodIn_of _ (by decide +kernel)) ggX11_clear_X11_keep
set_option maxRecDepth 20000 in
theorem ggX11_clear_X11_sentAll : GoodIn wsX11_clear wsX11_sentAll := goodIn_r _ [13, 2, 14, 15, 16, 17, 18, 19, 20, 21, 22, 23, 24, 25, 26, 27, 28, 29, 30, 31, 32, 33, 34, 35, 36, 37, 38, 39, 40, 41, 42, 43, 44, 45, 46, 47, 48, 49, 50, 51, 52, 53, 54, 55, 56, 57, 58, 59, 60, 61, 62, 63, 64, 65, 66, 67, 68, 69, 70, 71, 72, 73, 74] (by decide +kernel) (by decide +kernel)
set_option maxRecDepth 20000 in
theorem gX11_clear_X11_sentAll : GoodIn wsX11_clear (wsV RX11 395 RX11 yX11_sentAll wsX11_sentAll) := goodIn_app (goodIn_of _ (by decide +kernel)) ggX11_clear_X11_sentAll
theorem dX11_clear_0 : decode cX11_clear 0 = .ok (.aload_n 0, 1) := by decide +kernel
theorem dX11_clear_1 : decode cX11_clear 1 = .ok (.iconst 0, 1) := by decide +kernel
theorem dX11_clear_2 : decode cX11_clear 2 = .ok (.putfield 142, 3) := by decide +kernel
theorem dX11_clear_5 : decode cX11_clear 5 = .ok (.aload_n 0, 1) := by decide +kernel
theorem dX11_clear_6 : decode cX11_clear 6 = .ok (.invokevirtual 380, 3) := by decide +kernel
theorem dX11_clear_9 : decode cX11_clear 9 = .ok (.aload_n 0, 1) := by decide +kernel
theorem dX11_clear_10 : decode cX11_clear 10 = .ok (.invokevirtual 395, 3) := by decide +kernel
theorem dX11_clear_13 : decode cX11_clear 13 = .ok (.istore_n 1, 1) := by decide +kernel
theorem dX11_clear_14 : decode cX11_clear 14 = .ok (.iconst 0, 1) := by decide +kernel
theorem dX11_clear_15 : decode cX11_clear 15 = .ok (.istore_n 2, 1) := by decide +kernel
theorem dX11_clear_16 : decode cX11_clear 16 = .ok (.iload_n 2, 1) := by decide +kernel
theorem dX11_clear_17 : decode cX11_clear 17 = .ok (.bipush 30, 2) := by decide +kernel
theorem dX11_clear_19 : decode cX11_clear 19 = .ok (.if_icmp .ge 19, 3) := by decide +kernel
theorem dX11_clear_22 : decode cX11_clear 22 = .ok (.aload_n 0, 1) := by decide +kernel
theorem dX11_clear_23 : decode cX11_clear 23 = .ok (.getfield 60, 3) := by decide +kernel
theorem dX11_clear_26 : decode cX11_clear 26 = .ok (.bipush 24, 2) := by decide +kernel
theorem dX11_clear_28 : decode cX11_clear 28 = .ok (.iload_n 2, 1) := by decide +kernel
theorem dX11_clear_29 : decode cX11_clear 29 = .ok (.iadd, 1) := by decide +kernel
theorem dX11_clear_30 : decode cX11_clear 30 = .ok (.iconst 0, 1) := by decide +kernel
theorem dX11_clear_31 : decode cX11_clear 31 = .ok (.iastore, 1) := by decide +kernel
theorem dX11_clear_32 : decode cX11_clear 32 = .ok (.iinc 2 1, 3) := by decide +kernel
theorem dX11_clear_35 : decode cX11_clear 35 = .ok (.goto (-19), 3) := by decide +kernel
theorem dX11_clear_38 : decode cX11_clear 38 = .ok (.bipush 59, 2) := by decide +kernel
theorem dX11_clear_40 : decode cX11_clear 40 = .ok (.istore_n 2, 1) := by decide +kernel
theorem dX11_clear_41 : decode cX11_clear 41 = .ok (.iload_n 2, 1) := by decide +kernel
theorem dX11_clear_42 : decode cX11_clear 42 = .ok (.sipush 1019, 3) := by decide +kernel
theorem dX11_clear_45 : decode cX11_clear 45 = .ok (.if_icmp .ge 16, 3) := by decide +kernel
theorem dX11_clear_48 : decode cX11_clear 48 = .ok (.aload_n 0, 1) := by decide +kernel
theorem dX11_clear_49 : decode cX11_clear 49 = .ok (.getfield 60, 3) := by decide +kernel
theorem dX11_clear_52 : decode cX11_clear 52 = .ok (.iload_n 2, 1) := by decide +kernel
theorem dX11_clear_53 : decode cX11_clear 53 = .ok (.iconst 0, 1) := by decide +kernel
theorem dX11_clear_54 : decode cX11_clear 54 = .ok (.iastore, 1) := by decide +kernel
theorem dX11_clear_55 : decode cX11_clear 55 = .ok (.iinc 2 1, 3) := by decide +kernel
theorem dX11_clear_58 : decode cX11_clear 58 = .ok (.goto (-17), 3) := by decide +kernel
theorem dX11_clear_61 : decode cX11_clear 61 = .ok (.iload_n 1, 1) := by decide +kernel
theorem dX11_clear_62 : decode cX11_clear 62 = .ok (.ireturn, 1) := by decide +kernel
theorem dX11_draw_0 : decode cX11_draw 0 = .ok (.aload_n 0, 1) := by decide +kernel
theorem dX11_draw_1 : decode cX11_draw 1 = .ok (.aload_n 0, 1) := by decide +kernel
theorem dX11_draw_2 : decode cX11_draw 2 = .ok (.getfield 460, 3) := by decide +kernel
theorem dX11_draw_5 : decode cX11_draw 5 = .ok (.ldc_w 463, 3) := by decide +kernel
theorem dX11_draw_8 : decode cX11_draw 8 = .ok (.imul, 1) := by decide +kernel
theorem dX11_draw_9 : decode cX11_draw 9 = .ok (.sipush 12345, 3) := by decide +kernel
theorem dX11_draw_12 : decode cX11_draw 12 = .ok (.iadd, 1) := by decide +kernel
theorem dX11_draw_13 : decode cX11_draw 13 = .ok (.putfield 460, 3) := by decide +kernel
theorem dX11_draw_16 : decode cX11_draw 16 = .ok (.aload_n 0, 1) := by decide +kernel
theorem dX11_draw_17 : decode cX11_draw 17 = .ok (.getfield 460, 3) := by decide +kernel
theorem dX11_draw_20 : decode cX11_draw 20 = .ok (.bipush 16, 2) := by decide +kernel
theorem dX11_draw_22 : decode cX11_draw 22 = .ok (.ishr, 1) := by decide +kernel
theorem dX11_draw_23 : decode cX11_draw 23 = .ok (.sipush 32767, 3) := by decide +kernel
theorem dX11_draw_26 : decode cX11_draw 26 = .ok (.iand, 1) := by decide +kernel
theorem dX11_draw_27 : decode cX11_draw 27 = .ok (.iload_n 1, 1) := by decide +kernel
theorem dX11_draw_28 : decode cX11_draw 28 = .ok (.irem, 1) := by decide +kernel
theorem dX11_draw_29 : decode cX11_draw 29 = .ok (.ireturn, 1) := by decide +kernel
set_option maxRecDepth 20000 in
theorem ggX11_happens_X11_draw : GoodIn wsX11_happens wsX11_draw := goodIn_r _ [5, 6, 7, 116, 117, 118, 119, 120, 121, 122, 123, 124, 125, 126, 127, 128, 129, 130, 131, 132, 133, 134, 135, 136, 137, 138, 139, 140, 141, 142, 143, 144, 145, 146, 147, 148, 149, 150, 151, 152, 153, 154, 155, 156, 157, 158, 159, 160, 161, 162, 163, 164, 165, 166, 167, 168, 169, 170, 171, 172, 173, 174, 175, 176] (by decide +kernel) (by decide +kernel)
set_option maxRecDepth 20000 in
theorem gX11_happens_X11_draw : GoodIn wsX11_happens (wsV RX11 464 RX11 yX11_draw wsX11_draw) := goodIn_app (goodIn_of _ (by decide +kernel)) ggX11_happens_X11_draw
set_option maxRecDepth 20000 in
theorem ggX11_happens_X11_goals : GoodIn wsX11_happens wsX11_goals := goodIn_r _ [11, 12, 116, 117, 118, 119, 120, 121, 122, 123, 124, 125, 126, 127, 128, 129, 130, 131, 132, 133, 134, 135, 136, 137, 138, 139, 140, 141, 142, 143, 144, 145, 146, 147, 148, 149, 150, 151, 152, 153, 154, 155, 156, 157, 158, 159, 160, 161, 162, 163, 164, 165, 166, 167, 168, 169, 170, 171, 172, 173, 174, 175, 176] (by decide +kernel) (by decide +kernel)
set_option maxRecDepth 20000 in
theorem gX11_happens_X11_goals : GoodIn wsX11_happens (wsV RX11 304 RX11 yX11_goals wsX11_goals) := goodIn_app (goodIn_of _ (by decide +kernel)) ggX11_happens_X11_goals
set_option maxRecDepth 20000 in
theorem ggX11_happens_X11_probeNow : GoodIn wsX11_happens wsX11_probeNow := goodIn_r _ [16, 17, 18, 19, 20, 21, 22, 23, 4, 24, 25, 26, 27, 28, 29, 30, 31, 32, 33, 34, 35, 36, 37, 38, 39, 40, 41, 42, 43, 44, 45, 46, 47, 48, 49, 50, 51, 52, 53, 54, 55, 12, 56, 57, 58, 59, 60, 61, 62, 63, 64, 65, 66, 67, 68, 69, 70, 71, 72, 73, 74, 75, 76, 77, 78, 116, 117, 118, 119, 120, 121, 122, 123, 124, 125, 126, 127, 128, 129, 130, 131, 132, 133, 134, 135, 136, 137, 138, 139, 140, 141, 142, 143, 144, 145, 146, 147, 148, 149, 150, 151, 152, 153, 154, 155, 156, 157, 158, 159, 160, 161, 162, 163, 164, 165, 166, 167, 168, 169, 170, 171, 172, 173, 174, 175, 176] (by decide +kernel) (by decide +kernel)
set_option maxRecDepth 20000 in
theorem gX11_happens_X11_probeNow : GoodIn wsX11_happens (wsV RX11 347 RX11 yX11_probeNow wsX11_probeNow) := goodIn_app (goodIn_of _ (by decide +kernel)) ggX11_happens_X11_probeNow
set_option maxRecDepth 20000 in
theorem ggX11_happens_X11_sweepNow : GoodIn wsX11_happens wsX11_sweepNow := goodIn_r _ [82, 83, 84, 27, 85, 25, 26, 28, 21, 22, 23, 4, 24, 17, 13, 14, 15, 16, 18, 19, 20, 29, 30, 31, 32, 33, 34, 35, 36, 37, 38, 39, 40, 41, 42, 43, 44, 45, 46, 47, 48, 49, 50, 51, 52, 53, 54, 55, 12, 56, 57, 58, 59, 60, 61, 62, 63, 64, 65, 66, 67, 68, 69, 70, 71, 72, 73, 74, 75, 76, 77, 78, 86, 87, 88, 89, 90, 91, 92, 93, 94, 95, 96, 97, 98, 99, 100, 101, 102, 103, 104, 105, 106, 107, 108, 109, 110, 111, 116, 117, 118, 119, 120, 121, 122, 123, 124, 125, 126, 127, 128, 129, 130, 131, 132, 133, 134, 135, 136, 137, 138, 139, 140, 141, 142, 143, 144, 145, 146, 147, 148, 149, 150, 151, 152, 153, 154, 155, 156, 157, 158, 159, 160, 161, 162, 163, 164, 165, 166, 167, 168, 169, 170, 171, 172, 173, 174, 175, 176] (by decide +kernel) (by decide +kernel)
set_option maxRecDepth 20000 in
theorem gX11_happens_X11_sweepNow : GoodIn wsX11_happens (wsV RX11 389 RX11 yX11_sweepNow wsX11_sweepNow) := goodIn_app (goodIn_of _ (by decide +kernel)) ggX11_happens_X11_sweepNow
set_option maxRecDepth 20000 in
theorem ggX11_happens_X11_traceNow : GoodIn wsX11_happens wsX11_traceNow := goodIn_r _ [115, 19, 36, 21, 22, 23, 4, 24, 17, 25, 26, 27, 28, 13, 14, 15, 16, 18, 20, 29, 30, 31, 32, 33, 34, 35, 37, 38, 39, 40, 41, 42, 43, 44, 45, 46, 47, 48, 49, 50, 51, 52, 53, 54, 55, 12, 56, 57, 58, 59, 60, 61, 62, 63, 64, 65, 66, 67, 68, 69, 70, 71, 72, 73, 74, 75, 76, 77, 78, 116, 117, 118, 119, 120, 121, 122, 123, 124, 125, 126, 127, 128, 129, 130, 131, 132, 133, 134, 135, 136, 137, 138, 139, 140, 141, 142, 143, 144, 145, 146, 147, 148, 149, 150, 151, 152, 153, 154, 155, 156, 157, 158, 159, 160, 161, 162, 163, 164, 165, 166, 167, 168, 169, 170, 171, 172, 173, 174, 175, 176] (by decide +kernel) (by decide +kernel)
set_option maxRecDepth 20000 in
theorem gX11_happens_X11_traceNow : GoodIn wsX11_happens (wsV RX11 392 RX11 yX11_traceNow wsX11_traceNow) := goodIn_app (goodIn_of _ (by decide +kernel)) ggX11_happens_X11_traceNow
theorem dX11_happens_0 : decode cX11_happens 0 = .ok (.aload_n 0, 1) := by decide +kernel
theorem dX11_happens_1 : decode cX11_happens 1 = .ok (.iconst 4, 1) := by decide +kernel
theorem dX11_happens_2 : decode cX11_happens 2 = .ok (.invokevirtual 464, 3) := by decide +kernel
theorem dX11_happens_5 : decode cX11_happens 5 = .ok (.istore_n 1, 1) := by decide +kernel
theorem dX11_happens_6 : decode cX11_happens 6 = .ok (.aload_n 0, 1) := by decide +kernel
theorem dX11_happens_7 : decode cX11_happens 7 = .ok (.invokevirtual 304, 3) := by decide +kernel
theorem dX11_happens_10 : decode cX11_happens 10 = .ok (.ifCond .ne 4, 3) := by decide +kernel
theorem dX11_happens_13 : decode cX11_happens 13 = .ok (.return_, 1) := by decide +kernel
theorem dX11_happens_14 : decode cX11_happens 14 = .ok (.iload_n 1, 1) := by decide +kernel
theorem dX11_happens_15 : decode cX11_happens 15 = .ok (.iconst 2, 1) := by decide +kernel
theorem dX11_happens_16 : decode cX11_happens 16 = .ok (.if_icmp .ne 7, 3) := by decide +kernel
theorem dX11_happens_19 : decode cX11_happens 19 = .ok (.iconst 0, 1) := by decide +kernel
theorem dX11_happens_20 : decode cX11_happens 20 = .ok (.goto 9, 3) := by decide +kernel
theorem dX11_happens_23 : decode cX11_happens 23 = .ok (.aload_n 0, 1) := by decide +kernel
theorem dX11_happens_24 : decode cX11_happens 24 = .ok (.bipush 32, 2) := by decide +kernel
theorem dX11_happens_26 : decode cX11_happens 26 = .ok (.invokevirtual 464, 3) := by decide +kernel
theorem dX11_happens_29 : decode cX11_happens 29 = .ok (.istore_n 2, 1) := by decide +kernel
theorem dX11_happens_30 : decode cX11_happens 30 = .ok (.aload_n 0, 1) := by decide +kernel
theorem dX11_happens_31 : decode cX11_happens 31 = .ok (.aload_n 0, 1) := by decide +kernel
theorem dX11_happens_32 : decode cX11_happens 32 = .ok (.invokevirtual 304, 3) := by decide +kernel
theorem dX11_happens_35 : decode cX11_happens 35 = .ok (.invokevirtual 464, 3) := by decide +kernel
theorem dX11_happens_38 : decode cX11_happens 38 = .ok (.istore_n 3, 1) := by decide +kernel
theorem dX11_happens_39 : decode cX11_happens 39 = .ok (.iload_n 1, 1) := by decide +kernel
theorem dX11_happens_40 : decode cX11_happens 40 = .ok (.iconst 3, 1) := by decide +kernel
theorem dX11_happens_41 : decode cX11_happens 41 = .ok (.if_icmp .ne 7, 3) := by decide +kernel
theorem dX11_happens_44 : decode cX11_happens 44 = .ok (.iconst 0, 1) := by decide +kernel
theorem dX11_happens_45 : decode cX11_happens 45 = .ok (.goto 11, 3) := by decide +kernel
theorem dX11_happens_48 : decode cX11_happens 48 = .ok (.aload_n 0, 1) := by decide +kernel
theorem dX11_happens_49 : decode cX11_happens 49 = .ok (.bipush 10, 2) := by decide +kernel
theorem dX11_happens_51 : decode cX11_happens 51 = .ok (.invokevirtual 464, 3) := by decide +kernel
theorem dX11_happens_54 : decode cX11_happens 54 = .ok (.iconst 1, 1) := by decide +kernel
theorem dX11_happens_55 : decode cX11_happens 55 = .ok (.iadd, 1) := by decide +kernel
theorem dX11_happens_56 : decode cX11_happens 56 = .ok (.istore 4, 2) := by decide +kernel
theorem dX11_happens_58 : decode cX11_happens 58 = .ok (.iload_n 1, 1) := by decide +kernel
theorem dX11_happens_59 : decode cX11_happens 59 = .ok (.iconst 2, 1) := by decide +kernel
theorem dX11_happens_60 : decode cX11_happens 60 = .ok (.if_icmp .ge 15, 3) := by decide +kernel
theorem dX11_happens_63 : decode cX11_happens 63 = .ok (.aload_n 0, 1) := by decide +kernel
theorem dX11_happens_64 : decode cX11_happens 64 = .ok (.iload_n 2, 1) := by decide +kernel
theorem dX11_happens_65 : decode cX11_happens 65 = .ok (.iload_n 3, 1) := by decide +kernel
theorem dX11_happens_66 : decode cX11_happens 66 = .ok (.iload 4, 2) := by decide +kernel
theorem dX11_happens_68 : decode cX11_happens 68 = .ok (.iconst 1, 1) := by decide +kernel
theorem dX11_happens_69 : decode cX11_happens 69 = .ok (.invokevirtual 347, 3) := by decide +kernel
theorem dX11_happens_72 : decode cX11_happens 72 = .ok (.goto 24, 3) := by decide +kernel
theorem dX11_happens_75 : decode cX11_happens 75 = .ok (.iload_n 1, 1) := by decide +kernel
theorem dX11_happens_76 : decode cX11_happens 76 = .ok (.iconst 2, 1) := by decide +kernel
theorem dX11_happens_77 : decode cX11_happens 77 = .ok (.if_icmp .ne 13, 3) := by decide +kernel
theorem dX11_happens_80 : decode cX11_happens 80 = .ok (.aload_n 0, 1) := by decide +kernel
theorem dX11_happens_81 : decode cX11_happens 81 = .ok (.iload_n 3, 1) := by decide +kernel
theorem dX11_happens_82 : decode cX11_happens 82 = .ok (.iload 4, 2) := by decide +kernel
theorem dX11_happens_84 : decode cX11_happens 84 = .ok (.invokevirtual 389, 3) := by decide +kernel
theorem dX11_happens_87 : decode cX11_happens 87 = .ok (.goto 9, 3) := by decide +kernel
theorem dX11_happens_90 : decode cX11_happens 90 = .ok (.aload_n 0, 1) := by decide +kernel
theorem dX11_happens_91 : decode cX11_happens 91 = .ok (.iload_n 2, 1) := by decide +kernel
theorem dX11_happens_92 : decode cX11_happens 92 = .ok (.iload_n 3, 1) := by decide +kernel
theorem dX11_happens_93 : decode cX11_happens 93 = .ok (.invokevirtual 392, 3) := by decide +kernel
theorem dX11_happens_96 : decode cX11_happens 96 = .ok (.istore 5, 2) := by decide +kernel
theorem dX11_happens_98 : decode cX11_happens 98 = .ok (.return_, 1) := by decide +kernel
set_option maxRecDepth 20000 in
theorem ggX11_years_X11_isIn : GoodIn wsX11_years wsX11_isIn := goodIn_r _ [8] (by decide +kernel) (by decide +kernel)
set_option maxRecDepth 20000 in
theorem gX11_years_X11_isIn : GoodIn wsX11_years (va_wsS RX11 359 yX11_isIn wsX11_isIn) := goodIn_app (goodIn_of _ (by decide +kernel)) ggX11_years_X11_isIn
set_option maxRecDepth 20000 in
theorem ggX11_years_X11_fail : GoodIn wsX11_years wsX11_fail := goodIn_r _ [12, 1, 156, 157, 158, 159, 160, 161, 162, 163, 164, 165, 166, 167, 168, 169, 170, 171, 172, 173, 174, 175, 176, 177, 178, 179, 180, 181, 182, 183, 184, 185, 186, 187, 188, 189, 190, 191, 192, 193, 194, 195, 196, 197, 198, 199, 200, 201, 202, 203, 204, 205, 206, 207, 208, 209, 210, 211, 212, 213, 214, 215, 216] (by decide +kernel) (by decide +kernel)
set_option maxRecDepth 20000 in
theorem gX11_years_X11_fail : GoodIn wsX11_years (wsV RX11 240 RX11 yX11_fail wsX11_fail) := goodIn_app (goodIn_of _ (by decide +kernel)) ggX11_years_X11_fail
set_option maxRecDepth 20000 in
theorem ggX11_years_X11_copyTo : GoodIn wsX11_years wsX11_copyTo := goodIn_r _ [15] (by decide +kernel) (by decide +kernel)
set_option maxRecDepth 20000 in
theorem gX11_years_X11_copyTo : GoodIn wsX11_years (va_wsS RX11 467 yX11_copyTo wsX11_copyTo) := goodIn_app (goodIn_of _ (by decide +kernel)) ggX11_years_X11_copyTo
set_option maxRecDepth 20000 in
theorem ggX11_years_X11_sentAll : GoodIn wsX11_years wsX11_sentAll := goodIn_r _ [19, 3, 156, 157, 158, 159, 160, 161, 162, 163, 164, 165, 166, 167, 168, 169, 170, 171, 172, 173, 174, 175, 176, 177, 178, 179, 180, 181, 182, 183, 184, 185, 186, 187, 188, 189, 190, 191, 192, 193, 194, 195, 196, 197, 198, 199, 200, 201, 202, 203, 204, 205, 206, 207, 208, 209, 210, 211, 212, 213, 214, 215, 216] (by decide +kernel) (by decide +kernel)
set_option maxRecDepth 20000 in
theorem gX11_years_X11_sentAll : GoodIn wsX11_years (wsV RX11 395 RX11 yX11_sentAll wsX11_sentAll) := goodIn_app (goodIn_of _ (by decide +kernel)) ggX11_years_X11_sentAll
set_option maxRecDepth 20000 in
theorem ggX11_years_X11_happens : GoodIn wsX11_years wsX11_happens := goodIn_r _ [23, 24, 25, 26, 7, 27, 4, 28, 29, 30, 31, 32, 33, 34, 35, 36, 37, 3, 38, 39, 40, 41, 42, 43, 44, 45, 46, 47, 48, 49, 50, 51, 52, 53, 54, 55, 56, 57, 58, 59, 60, 61, 62, 63, 64, 65, 66, 67, 68, 69, 70, 71, 72, 73, 74, 75, 76, 77, 78, 79, 80, 81, 82, 83, 84, 85, 86, 87, 88, 89, 90, 91, 92, 93, 94, 95, 96, 97, 98, 99, 100, 101, 102, 103, 104, 105, 106, 107, 108, 109, 110, 111, 112, 113, 114, 115, 116, 117, 118, 119, 120, 121, 122, 123, 124, 125, 126, 127, 128, 129, 130, 131, 132, 133, 134, 135, 156, 157, 158, 159, 160, 161, 162, 163, 164, 165, 166, 167, 168, 169, 170, 171, 172, 173, 174, 175, 176, 177, 178, 179, 180, 181, 182, 183, 184, 185, 186, 187, 188, 189, 190, 191, 192, 193, 194, 195, 196, 197, 198, 199, 200, 201, 202, 203, 204, 205, 206, 207, 208, 209, 210, 211, 212, 213, 214, 215, 216] (by decide +kernel) (by decide +kernel)
set_option maxRecDepth 20000 in
theorem gX11_years_X11_happens : GoodIn wsX11_years (wsV RX11 471 RX11 yX11_happens wsX11_happens) := goodIn_app (goodIn_of _ (by decide +kernel)) ggX11_years_X11_happens
set_option maxRecDepth 20000 in
theorem ggX11_years_X11_routers : GoodIn wsX11_years wsX11_routers := goodIn_r _ [139, 33, 156, 157, 158, 159, 160, 161, 162, 163, 164, 165, 166, 167, 168, 169, 170, 171, 172, 173, 174, 175, 176, 177, 178, 179, 180, 181, 182, 183, 184, 185, 186, 187, 188, 189, 190, 191, 192, 193, 194, 195, 196, 197, 198, 199, 200, 201, 202, 203, 204, 205, 206, 207, 208, 209, 210, 211, 212, 213, 214, 215, 216] (by decide +kernel) (by decide +kernel)
set_option maxRecDepth 20000 in
theorem gX11_years_X11_routers : GoodIn wsX11_years (wsV RX11 263 RX11 yX11_routers wsX11_routers) := goodIn_app (goodIn_of _ (by decide +kernel)) ggX11_years_X11_routers
set_option maxRecDepth 20000 in
theorem ggX11_years_X11_edgesAll : GoodIn wsX11_years wsX11_edgesAll := goodIn_r _ [143, 29, 30, 31, 7, 32, 33, 144, 145, 146, 147, 72, 73, 74, 75, 148, 149, 150, 151, 152, 153, 154, 155, 110, 111, 112, 113, 3, 96, 97, 98, 156, 157, 158, 159, 160, 161, 162, 163, 164, 165, 166, 167, 168, 169, 170, 171, 172, 173, 174, 175, 176, 177, 178, 179, 180, 181, 182, 183, 184, 185, 186, 187, 188, 189, 190, 191, 192, 193, 194, 195, 196, 197, 198, 199, 200, 201, 202, 203, 204, 205, 206, 207, 208, 209, 210, 211, 212, 213, 214, 215, 216] (by decide +kernel) (by decide +kernel)
set_option maxRecDepth 20000 in
theorem gX11_years_X11_edgesAll : GoodIn wsX11_years (wsV RX11 474 RX11 yX11_edgesAll wsX11_edgesAll) := goodIn_app (goodIn_of _ (by decide +kernel)) ggX11_years_X11_edgesAll
theorem dX11_years_0 : decode cX11_years 0 = .ok (.aload_n 0, 1) := by decide +kernel
theorem dX11_years_1 : decode cX11_years 1 = .ok (.iconst 0, 1) := by decide +kernel
theorem dX11_years_2 : decode cX11_years 2 = .ok (.putfield 142, 3) := by decide +kernel
theorem dX11_years_5 : decode cX11_years 5 = .ok (.iload_n 3, 1) := by decide +kernel
theorem dX11_years_6 : decode cX11_years 6 = .ok (.iconst 0, 1) := by decide +kernel
theorem dX11_years_7 : decode cX11_years 7 = .ok (.iconst 2, 1) := by decide +kernel
theorem dX11_years_8 : decode cX11_years 8 = .ok (.invokestatic 359, 3) := by decide +kernel
theorem dX11_years_11 : decode cX11_years 11 = .ok (.ifCond .ne 9, 3) := by decide +kernel
theorem dX11_years_14 : decode cX11_years 14 = .ok (.aload_n 0, 1) := by decide +kernel
theorem dX11_years_15 : decode cX11_years 15 = .ok (.iconst 1, 1) := by decide +kernel
theorem dX11_years_16 : decode cX11_years 16 = .ok (.invokevirtual 240, 3) := by decide +kernel
theorem dX11_years_19 : decode cX11_years 19 = .ok (.ireturn, 1) := by decide +kernel
theorem dX11_years_20 : decode cX11_years 20 = .ok (.iload_n 2, 1) := by decide +kernel
theorem dX11_years_21 : decode cX11_years 21 = .ok (.iconst 0, 1) := by decide +kernel
theorem dX11_years_22 : decode cX11_years 22 = .ok (.bipush 40, 2) := by decide +kernel
theorem dX11_years_24 : decode cX11_years 24 = .ok (.invokestatic 359, 3) := by decide +kernel
theorem dX11_years_27 : decode cX11_years 27 = .ok (.ifCond .ne 9, 3) := by decide +kernel
theorem dX11_years_30 : decode cX11_years 30 = .ok (.aload_n 0, 1) := by decide +kernel
theorem dX11_years_31 : decode cX11_years 31 = .ok (.iconst 2, 1) := by decide +kernel
theorem dX11_years_32 : decode cX11_years 32 = .ok (.invokevirtual 240, 3) := by decide +kernel
theorem dX11_years_35 : decode cX11_years 35 = .ok (.ireturn, 1) := by decide +kernel
theorem dX11_years_36 : decode cX11_years 36 = .ok (.aload_n 0, 1) := by decide +kernel
theorem dX11_years_37 : decode cX11_years 37 = .ok (.getfield 118, 3) := by decide +kernel
theorem dX11_years_40 : decode cX11_years 40 = .ok (.aload_n 0, 1) := by decide +kernel
theorem dX11_years_41 : decode cX11_years 41 = .ok (.getfield 60, 3) := by decide +kernel
theorem dX11_years_44 : decode cX11_years 44 = .ok (.invokestatic 467, 3) := by decide +kernel
theorem dX11_years_47 : decode cX11_years 47 = .ok (.aload_n 0, 1) := by decide +kernel
theorem dX11_years_48 : decode cX11_years 48 = .ok (.invokevirtual 395, 3) := by decide +kernel
theorem dX11_years_51 : decode cX11_years 51 = .ok (.istore 4, 2) := by decide +kernel
theorem dX11_years_53 : decode cX11_years 53 = .ok (.aload_n 0, 1) := by decide +kernel
theorem dX11_years_54 : decode cX11_years 54 = .ok (.iload_n 1, 1) := by decide +kernel
theorem dX11_years_55 : decode cX11_years 55 = .ok (.putfield 460, 3) := by decide +kernel
theorem dX11_years_58 : decode cX11_years 58 = .ok (.iconst 0, 1) := by decide +kernel
theorem dX11_years_59 : decode cX11_years 59 = .ok (.istore 5, 2) := by decide +kernel
theorem dX11_years_61 : decode cX11_years 61 = .ok (.iload 5, 2) := by decide +kernel
theorem dX11_years_63 : decode cX11_years 63 = .ok (.iload_n 2, 1) := by decide +kernel
theorem dX11_years_64 : decode cX11_years 64 = .ok (.if_icmp .ge 13, 3) := by decide +kernel
theorem dX11_years_67 : decode cX11_years 67 = .ok (.aload_n 0, 1) := by decide +kernel
theorem dX11_years_68 : decode cX11_years 68 = .ok (.invokevirtual 471, 3) := by decide +kernel
theorem dX11_years_71 : decode cX11_years 71 = .ok (.iinc 5 1, 3) := by decide +kernel
theorem dX11_years_74 : decode cX11_years 74 = .ok (.goto (-13), 3) := by decide +kernel
theorem dX11_years_77 : decode cX11_years 77 = .ok (.iconst 0, 1) := by decide +kernel
theorem dX11_years_78 : decode cX11_years 78 = .ok (.istore 5, 2) := by decide +kernel
theorem dX11_years_80 : decode cX11_years 80 = .ok (.iconst 0, 1) := by decide +kernel
theorem dX11_years_81 : decode cX11_years 81 = .ok (.istore 6, 2) := by decide +kernel
theorem dX11_years_83 : decode cX11_years 83 = .ok (.iload 6, 2) := by decide +kernel
theorem dX11_years_85 : decode cX11_years 85 = .ok (.aload_n 0, 1) := by decide +kernel
theorem dX11_years_86 : decode cX11_years 86 = .ok (.invokevirtual 263, 3) := by decide +kernel
theorem dX11_years_89 : decode cX11_years 89 = .ok (.if_icmp .ge 24, 3) := by decide +kernel
theorem dX11_years_92 : decode cX11_years 92 = .ok (.iload 5, 2) := by decide +kernel
theorem dX11_years_94 : decode cX11_years 94 = .ok (.aload_n 0, 1) := by decide +kernel
theorem dX11_years_95 : decode cX11_years 95 = .ok (.getfield 60, 3) := by decide +kernel
theorem dX11_years_98 : decode cX11_years 98 = .ok (.bipush 12, 2) := by decide +kernel
theorem dX11_years_100 : decode cX11_years 100 = .ok (.iload 6, 2) := by decide +kernel
theorem dX11_years_102 : decode cX11_years 102 = .ok (.iadd, 1) := by decide +kernel
theorem dX11_years_103 : decode cX11_years 103 = .ok (.iaload, 1) := by decide +kernel
theorem dX11_years_104 : decode cX11_years 104 = .ok (.iadd, 1) := by decide +kernel
theorem dX11_years_105 : decode cX11_years 105 = .ok (.istore 5, 2) := by decide +kernel
theorem dX11_years_107 : decode cX11_years 107 = .ok (.iinc 6 1, 3) := by decide +kernel
theorem dX11_years_110 : decode cX11_years 110 = .ok (.goto (-27), 3) := by decide +kernel
theorem dX11_years_113 : decode cX11_years 113 = .ok (.iload_n 3, 1) := by decide +kernel
theorem dX11_years_114 : decode cX11_years 114 = .ok (.ifCond .ne 10, 3) := by decide +kernel
theorem dX11_years_117 : decode cX11_years 117 = .ok (.aload_n 0, 1) := by decide +kernel
theorem dX11_years_118 : decode cX11_years 118 = .ok (.invokevirtual 474, 3) := by decide +kernel
theorem dX11_years_121 : decode cX11_years 121 = .ok (.goto 20, 3) := by decide +kernel
theorem dX11_years_124 : decode cX11_years 124 = .ok (.iload_n 3, 1) := by decide +kernel
theorem dX11_years_125 : decode cX11_years 125 = .ok (.iconst 1, 1) := by decide +kernel
theorem dX11_years_126 : decode cX11_years 126 = .ok (.if_icmp .ne 13, 3) := by decide +kernel
theorem dX11_years_129 : decode cX11_years 129 = .ok (.aload_n 0, 1) := by decide +kernel
theorem dX11_years_130 : decode cX11_years 130 = .ok (.invokevirtual 395, 3) := by decide +kernel
theorem dX11_years_133 : decode cX11_years 133 = .ok (.iload 4, 2) := by decide +kernel
theorem dX11_years_135 : decode cX11_years 135 = .ok (.isub, 1) := by decide +kernel
theorem dX11_years_136 : decode cX11_years 136 = .ok (.goto 5, 3) := by decide +kernel
theorem dX11_years_139 : decode cX11_years 139 = .ok (.iload 5, 2) := by decide +kernel
theorem dX11_years_141 : decode cX11_years 141 = .ok (.istore 6, 2) := by decide +kernel
theorem dX11_years_143 : decode cX11_years 143 = .ok (.aload_n 0, 1) := by decide +kernel
theorem dX11_years_144 : decode cX11_years 144 = .ok (.getfield 60, 3) := by decide +kernel
theorem dX11_years_147 : decode cX11_years 147 = .ok (.aload_n 0, 1) := by decide +kernel
theorem dX11_years_148 : decode cX11_years 148 = .ok (.getfield 118, 3) := by decide +kernel
theorem dX11_years_151 : decode cX11_years 151 = .ok (.invokestatic 467, 3) := by decide +kernel
theorem dX11_years_154 : decode cX11_years 154 = .ok (.iload 6, 2) := by decide +kernel
theorem dX11_years_156 : decode cX11_years 156 = .ok (.ireturn, 1) := by decide +kernel
