set_option maxRecDepth 20000 in
theorem ggX0_beginAnew_X0_forgetAllSeen : GoodIn wsX0_beginAnew wsX0_forgetAllSeen := by
  have h := goodIn_app (goodIn_r (big := wsX0_beginAnew) (.code yX0_forgetAllSeen cX0_forgetAllSeen 2 none :: ([.fieldLink RX0 9 "PathProber$Condition" "seen" "[J", .fieldLink RX0 15 "PathProber$Condition" "sent" "[I"]) : List Cond) [13, 14, 15] rfl (by decide +kernel)) (goodIn_few (big := wsX0_beginAnew) (fun _ h9 => List.mem_cons_of_mem _ (List.mem_append_right _ h9)) gb_1)
  exact h
set_option maxRecDepth 20000 in
theorem gX0_beginAnew_X0_forgetAllSeen : GoodIn wsX0_beginAnew (wsV RX0 44 RX0 yX0_forgetAllSeen wsX0_forgetAllSeen) := goodIn_app (goodIn_r _ [9, 10, 11, 12] rfl (by decide +kernel)) ggX0_beginAnew_X0_forgetAllSeen
theorem eX0_beginAnew_0q : (decode cX0_beginAnew 0 = .ok (.aload_n 0, 1)) ∧ (decode cX0_beginAnew 1 = .ok (.invokevirtual 44, 3)) ∧ (decode cX0_beginAnew 4 = .ok (.iconst 0, 1)) ∧ (decode cX0_beginAnew 5 = .ok (.istore_n 2, 1)) ∧ (decode cX0_beginAnew 6 = .ok (.iload_n 2, 1)) ∧ (decode cX0_beginAnew 7 = .ok (.bipush 12, 2)) ∧ (decode cX0_beginAnew 9 = .ok (.if_icmp .ge 23, 3)) ∧ (decode cX0_beginAnew 12 = .ok (.aload_n 0, 1)) := by decide +kernel
theorem dX0_beginAnew_0 : decode cX0_beginAnew 0 = .ok (.aload_n 0, 1) := eX0_beginAnew_0q.1
theorem dX0_beginAnew_1 : decode cX0_beginAnew 1 = .ok (.invokevirtual 44, 3) := eX0_beginAnew_0q.2.1
theorem dX0_beginAnew_4 : decode cX0_beginAnew 4 = .ok (.iconst 0, 1) := eX0_beginAnew_0q.2.2.1
theorem dX0_beginAnew_5 : decode cX0_beginAnew 5 = .ok (.istore_n 2, 1) := eX0_beginAnew_0q.2.2.2.1
theorem dX0_beginAnew_6 : decode cX0_beginAnew 6 = .ok (.iload_n 2, 1) := eX0_beginAnew_0q.2.2.2.2.1
theorem dX0_beginAnew_7 : decode cX0_beginAnew 7 = .ok (.bipush 12, 2) := eX0_beginAnew_0q.2.2.2.2.2.1
theorem dX0_beginAnew_9 : decode cX0_beginAnew 9 = .ok (.if_icmp .ge 23, 3) := eX0_beginAnew_0q.2.2.2.2.2.2.1
theorem dX0_beginAnew_12 : decode cX0_beginAnew 12 = .ok (.aload_n 0, 1) := eX0_beginAnew_0q.2.2.2.2.2.2.2
theorem eX0_beginAnew_13q : (decode cX0_beginAnew 13 = .ok (.getfield 19, 3)) ∧ (decode cX0_beginAnew 16 = .ok (.iload_n 2, 1)) ∧ (decode cX0_beginAnew 17 = .ok (.iconst 0, 1)) ∧ (decode cX0_beginAnew 18 = .ok (.iastore, 1)) ∧ (decode cX0_beginAnew 19 = .ok (.aload_n 0, 1)) ∧ (decode cX0_beginAnew 20 = .ok (.getfield 22, 3)) ∧ (decode cX0_beginAnew 23 = .ok (.iload_n 2, 1)) ∧ (decode cX0_beginAnew 24 = .ok (.iconst 0, 1)) := by decide +kernel
theorem dX0_beginAnew_13 : decode cX0_beginAnew 13 = .ok (.getfield 19, 3) := eX0_beginAnew_13q.1
theorem dX0_beginAnew_16 : decode cX0_beginAnew 16 = .ok (.iload_n 2, 1) := eX0_beginAnew_13q.2.1
theorem dX0_beginAnew_17 : decode cX0_beginAnew 17 = .ok (.iconst 0, 1) := eX0_beginAnew_13q.2.2.1
theorem dX0_beginAnew_18 : decode cX0_beginAnew 18 = .ok (.iastore, 1) := eX0_beginAnew_13q.2.2.2.1
theorem dX0_beginAnew_19 : decode cX0_beginAnew 19 = .ok (.aload_n 0, 1) := eX0_beginAnew_13q.2.2.2.2.1
theorem dX0_beginAnew_20 : decode cX0_beginAnew 20 = .ok (.getfield 22, 3) := eX0_beginAnew_13q.2.2.2.2.2.1
theorem dX0_beginAnew_23 : decode cX0_beginAnew 23 = .ok (.iload_n 2, 1) := eX0_beginAnew_13q.2.2.2.2.2.2.1
theorem dX0_beginAnew_24 : decode cX0_beginAnew 24 = .ok (.iconst 0, 1) := eX0_beginAnew_13q.2.2.2.2.2.2.2
theorem eX0_beginAnew_25q : (decode cX0_beginAnew 25 = .ok (.iastore, 1)) ∧ (decode cX0_beginAnew 26 = .ok (.iinc 2 1, 3)) ∧ (decode cX0_beginAnew 29 = .ok (.goto (-23), 3)) ∧ (decode cX0_beginAnew 32 = .ok (.aload_n 0, 1)) ∧ (decode cX0_beginAnew 33 = .ok (.iload_n 1, 1)) ∧ (decode cX0_beginAnew 34 = .ok (.putfield 25, 3)) ∧ (decode cX0_beginAnew 37 = .ok (.aload_n 0, 1)) ∧ (decode cX0_beginAnew 38 = .ok (.iconst 0, 1)) := by decide +kernel
theorem dX0_beginAnew_25 : decode cX0_beginAnew 25 = .ok (.iastore, 1) := eX0_beginAnew_25q.1
theorem dX0_beginAnew_26 : decode cX0_beginAnew 26 = .ok (.iinc 2 1, 3) := eX0_beginAnew_25q.2.1
theorem dX0_beginAnew_29 : decode cX0_beginAnew 29 = .ok (.goto (-23), 3) := eX0_beginAnew_25q.2.2.1
theorem dX0_beginAnew_32 : decode cX0_beginAnew 32 = .ok (.aload_n 0, 1) := eX0_beginAnew_25q.2.2.2.1
theorem dX0_beginAnew_33 : decode cX0_beginAnew 33 = .ok (.iload_n 1, 1) := eX0_beginAnew_25q.2.2.2.2.1
theorem dX0_beginAnew_34 : decode cX0_beginAnew 34 = .ok (.putfield 25, 3) := eX0_beginAnew_25q.2.2.2.2.2.1
theorem dX0_beginAnew_37 : decode cX0_beginAnew 37 = .ok (.aload_n 0, 1) := eX0_beginAnew_25q.2.2.2.2.2.2.1
theorem dX0_beginAnew_38 : decode cX0_beginAnew 38 = .ok (.iconst 0, 1) := eX0_beginAnew_25q.2.2.2.2.2.2.2
theorem eX0_beginAnew_39q : (decode cX0_beginAnew 39 = .ok (.putfield 29, 3)) ∧ (decode cX0_beginAnew 42 = .ok (.aload_n 0, 1)) ∧ (decode cX0_beginAnew 43 = .ok (.iconst 0, 1)) ∧ (decode cX0_beginAnew 44 = .ok (.putfield 32, 3)) ∧ (decode cX0_beginAnew 47 = .ok (.aload_n 0, 1)) ∧ (decode cX0_beginAnew 48 = .ok (.iconst 0, 1)) ∧ (decode cX0_beginAnew 49 = .ok (.putfield 35, 3)) ∧ (decode cX0_beginAnew 52 = .ok (.aload_n 0, 1)) := by decide +kernel
theorem dX0_beginAnew_39 : decode cX0_beginAnew 39 = .ok (.putfield 29, 3) := eX0_beginAnew_39q.1
theorem dX0_beginAnew_42 : decode cX0_beginAnew 42 = .ok (.aload_n 0, 1) := eX0_beginAnew_39q.2.1
theorem dX0_beginAnew_43 : decode cX0_beginAnew 43 = .ok (.iconst 0, 1) := eX0_beginAnew_39q.2.2.1
theorem dX0_beginAnew_44 : decode cX0_beginAnew 44 = .ok (.putfield 32, 3) := eX0_beginAnew_39q.2.2.2.1
theorem dX0_beginAnew_47 : decode cX0_beginAnew 47 = .ok (.aload_n 0, 1) := eX0_beginAnew_39q.2.2.2.2.1
theorem dX0_beginAnew_48 : decode cX0_beginAnew 48 = .ok (.iconst 0, 1) := eX0_beginAnew_39q.2.2.2.2.2.1
theorem dX0_beginAnew_49 : decode cX0_beginAnew 49 = .ok (.putfield 35, 3) := eX0_beginAnew_39q.2.2.2.2.2.2.1
theorem dX0_beginAnew_52 : decode cX0_beginAnew 52 = .ok (.aload_n 0, 1) := eX0_beginAnew_39q.2.2.2.2.2.2.2
theorem eX0_beginAnew_53q : (decode cX0_beginAnew 53 = .ok (.iconst 0, 1)) ∧ (decode cX0_beginAnew 54 = .ok (.putfield 38, 3)) ∧ (decode cX0_beginAnew 57 = .ok (.aload_n 0, 1)) ∧ (decode cX0_beginAnew 58 = .ok (.iconst 0, 1)) ∧ (decode cX0_beginAnew 59 = .ok (.putfield 41, 3)) ∧ (decode cX0_beginAnew 62 = .ok (.return_, 1)) := by decide +kernel
theorem dX0_beginAnew_53 : decode cX0_beginAnew 53 = .ok (.iconst 0, 1) := eX0_beginAnew_53q.1
theorem dX0_beginAnew_54 : decode cX0_beginAnew 54 = .ok (.putfield 38, 3) := eX0_beginAnew_53q.2.1
theorem dX0_beginAnew_57 : decode cX0_beginAnew 57 = .ok (.aload_n 0, 1) := eX0_beginAnew_53q.2.2.1
theorem dX0_beginAnew_58 : decode cX0_beginAnew 58 = .ok (.iconst 0, 1) := eX0_beginAnew_53q.2.2.2.1
theorem dX0_beginAnew_59 : decode cX0_beginAnew 59 = .ok (.putfield 41, 3) := eX0_beginAnew_53q.2.2.2.2.1
theorem dX0_beginAnew_62 : decode cX0_beginAnew 62 = .ok (.return_, 1) := eX0_beginAnew_53q.2.2.2.2.2
theorem eX0_copyFrom_0q : (decode cX0_copyFrom 0 = .ok (.aload_n 1, 1)) ∧ (decode cX0_copyFrom 1 = .ok (.getfield 9, 3)) ∧ (decode cX0_copyFrom 4 = .ok (.iconst 0, 1)) ∧ (decode cX0_copyFrom 5 = .ok (.aload_n 0, 1)) ∧ (decode cX0_copyFrom 6 = .ok (.getfield 9, 3)) ∧ (decode cX0_copyFrom 9 = .ok (.iconst 0, 1)) ∧ (decode cX0_copyFrom 10 = .ok (.bipush 96, 2)) ∧ (decode cX0_copyFrom 12 = .ok (.invokestatic 47, 3)) := by decide +kernel
theorem dX0_copyFrom_0 : decode cX0_copyFrom 0 = .ok (.aload_n 1, 1) := eX0_copyFrom_0q.1
theorem dX0_copyFrom_1 : decode cX0_copyFrom 1 = .ok (.getfield 9, 3) := eX0_copyFrom_0q.2.1
theorem dX0_copyFrom_4 : decode cX0_copyFrom 4 = .ok (.iconst 0, 1) := eX0_copyFrom_0q.2.2.1
theorem dX0_copyFrom_5 : decode cX0_copyFrom 5 = .ok (.aload_n 0, 1) := eX0_copyFrom_0q.2.2.2.1
theorem dX0_copyFrom_6 : decode cX0_copyFrom 6 = .ok (.getfield 9, 3) := eX0_copyFrom_0q.2.2.2.2.1
theorem dX0_copyFrom_9 : decode cX0_copyFrom 9 = .ok (.iconst 0, 1) := eX0_copyFrom_0q.2.2.2.2.2.1
theorem dX0_copyFrom_10 : decode cX0_copyFrom 10 = .ok (.bipush 96, 2) := eX0_copyFrom_0q.2.2.2.2.2.2.1
theorem dX0_copyFrom_12 : decode cX0_copyFrom 12 = .ok (.invokestatic 47, 3) := eX0_copyFrom_0q.2.2.2.2.2.2.2
theorem eX0_copyFrom_15q : (decode cX0_copyFrom 15 = .ok (.aload_n 1, 1)) ∧ (decode cX0_copyFrom 16 = .ok (.getfield 15, 3)) ∧ (decode cX0_copyFrom 19 = .ok (.iconst 0, 1)) ∧ (decode cX0_copyFrom 20 = .ok (.aload_n 0, 1)) ∧ (decode cX0_copyFrom 21 = .ok (.getfield 15, 3)) ∧ (decode cX0_copyFrom 24 = .ok (.iconst 0, 1)) ∧ (decode cX0_copyFrom 25 = .ok (.bipush 30, 2)) ∧ (decode cX0_copyFrom 27 = .ok (.invokestatic 47, 3)) := by decide +kernel
theorem dX0_copyFrom_15 : decode cX0_copyFrom 15 = .ok (.aload_n 1, 1) := eX0_copyFrom_15q.1
theorem dX0_copyFrom_16 : decode cX0_copyFrom 16 = .ok (.getfield 15, 3) := eX0_copyFrom_15q.2.1
theorem dX0_copyFrom_19 : decode cX0_copyFrom 19 = .ok (.iconst 0, 1) := eX0_copyFrom_15q.2.2.1
theorem dX0_copyFrom_20 : decode cX0_copyFrom 20 = .ok (.aload_n 0, 1) := eX0_copyFrom_15q.2.2.2.1
theorem dX0_copyFrom_21 : decode cX0_copyFrom 21 = .ok (.getfield 15, 3) := eX0_copyFrom_15q.2.2.2.2.1
theorem dX0_copyFrom_24 : decode cX0_copyFrom 24 = .ok (.iconst 0, 1) := eX0_copyFrom_15q.2.2.2.2.2.1
theorem dX0_copyFrom_25 : decode cX0_copyFrom 25 = .ok (.bipush 30, 2) := eX0_copyFrom_15q.2.2.2.2.2.2.1
theorem dX0_copyFrom_27 : decode cX0_copyFrom 27 = .ok (.invokestatic 47, 3) := eX0_copyFrom_15q.2.2.2.2.2.2.2
theorem eX0_copyFrom_30q : (decode cX0_copyFrom 30 = .ok (.aload_n 1, 1)) ∧ (decode cX0_copyFrom 31 = .ok (.getfield 19, 3)) ∧ (decode cX0_copyFrom 34 = .ok (.iconst 0, 1)) ∧ (decode cX0_copyFrom 35 = .ok (.aload_n 0, 1)) ∧ (decode cX0_copyFrom 36 = .ok (.getfield 19, 3)) ∧ (decode cX0_copyFrom 39 = .ok (.iconst 0, 1)) ∧ (decode cX0_copyFrom 40 = .ok (.bipush 12, 2)) ∧ (decode cX0_copyFrom 42 = .ok (.invokestatic 47, 3)) := by decide +kernel
theorem dX0_copyFrom_30 : decode cX0_copyFrom 30 = .ok (.aload_n 1, 1) := eX0_copyFrom_30q.1
theorem dX0_copyFrom_31 : decode cX0_copyFrom 31 = .ok (.getfield 19, 3) := eX0_copyFrom_30q.2.1
theorem dX0_copyFrom_34 : decode cX0_copyFrom 34 = .ok (.iconst 0, 1) := eX0_copyFrom_30q.2.2.1
theorem dX0_copyFrom_35 : decode cX0_copyFrom 35 = .ok (.aload_n 0, 1) := eX0_copyFrom_30q.2.2.2.1
theorem dX0_copyFrom_36 : decode cX0_copyFrom 36 = .ok (.getfield 19, 3) := eX0_copyFrom_30q.2.2.2.2.1
theorem dX0_copyFrom_39 : decode cX0_copyFrom 39 = .ok (.iconst 0, 1) := eX0_copyFrom_30q.2.2.2.2.2.1
theorem dX0_copyFrom_40 : decode cX0_copyFrom 40 = .ok (.bipush 12, 2) := eX0_copyFrom_30q.2.2.2.2.2.2.1
theorem dX0_copyFrom_42 : decode cX0_copyFrom 42 = .ok (.invokestatic 47, 3) := eX0_copyFrom_30q.2.2.2.2.2.2.2
theorem eX0_copyFrom_45q : (decode cX0_copyFrom 45 = .ok (.aload_n 1, 1)) ∧ (decode cX0_copyFrom 46 = .ok (.getfield 22, 3)) ∧ (decode cX0_copyFrom 49 = .ok (.iconst 0, 1)) ∧ (decode cX0_copyFrom 50 = .ok (.aload_n 0, 1)) ∧ (decode cX0_copyFrom 51 = .ok (.getfield 22, 3)) ∧ (decode cX0_copyFrom 54 = .ok (.iconst 0, 1)) ∧ (decode cX0_copyFrom 55 = .ok (.bipush 12, 2)) ∧ (decode cX0_copyFrom 57 = .ok (.invokestatic 47, 3)) := by decide +kernel
theorem dX0_copyFrom_45 : decode cX0_copyFrom 45 = .ok (.aload_n 1, 1) := eX0_copyFrom_45q.1
theorem dX0_copyFrom_46 : decode cX0_copyFrom 46 = .ok (.getfield 22, 3) := eX0_copyFrom_45q.2.1
theorem dX0_copyFrom_49 : decode cX0_copyFrom 49 = .ok (.iconst 0, 1) := eX0_copyFrom_45q.2.2.1
theorem dX0_copyFrom_50 : decode cX0_copyFrom 50 = .ok (.aload_n 0, 1) := eX0_copyFrom_45q.2.2.2.1
theorem dX0_copyFrom_51 : decode cX0_copyFrom 51 = .ok (.getfield 22, 3) := eX0_copyFrom_45q.2.2.2.2.1
theorem dX0_copyFrom_54 : decode cX0_copyFrom 54 = .ok (.iconst 0, 1) := eX0_copyFrom_45q.2.2.2.2.2.1
theorem dX0_copyFrom_55 : decode cX0_copyFrom 55 = .ok (.bipush 12, 2) := eX0_copyFrom_45q.2.2.2.2.2.2.1
theorem dX0_copyFrom_57 : decode cX0_copyFrom 57 = .ok (.invokestatic 47, 3) := eX0_copyFrom_45q.2.2.2.2.2.2.2
theorem eX0_copyFrom_60q : (decode cX0_copyFrom 60 = .ok (.aload_n 0, 1)) ∧ (decode cX0_copyFrom 61 = .ok (.aload_n 1, 1)) ∧ (decode cX0_copyFrom 62 = .ok (.getfield 25, 3)) ∧ (decode cX0_copyFrom 65 = .ok (.putfield 25, 3)) ∧ (decode cX0_copyFrom 68 = .ok (.aload_n 0, 1)) ∧ (decode cX0_copyFrom 69 = .ok (.aload_n 1, 1)) ∧ (decode cX0_copyFrom 70 = .ok (.getfield 29, 3)) ∧ (decode cX0_copyFrom 73 = .ok (.putfield 29, 3)) := by decide +kernel
theorem dX0_copyFrom_60 : decode cX0_copyFrom 60 = .ok (.aload_n 0, 1) := eX0_copyFrom_60q.1
theorem dX0_copyFrom_61 : decode cX0_copyFrom 61 = .ok (.aload_n 1, 1) := eX0_copyFrom_60q.2.1
theorem dX0_copyFrom_62 : decode cX0_copyFrom 62 = .ok (.getfield 25, 3) := eX0_copyFrom_60q.2.2.1
theorem dX0_copyFrom_65 : decode cX0_copyFrom 65 = .ok (.putfield 25, 3) := eX0_copyFrom_60q.2.2.2.1
theorem dX0_copyFrom_68 : decode cX0_copyFrom 68 = .ok (.aload_n 0, 1) := eX0_copyFrom_60q.2.2.2.2.1
theorem dX0_copyFrom_69 : decode cX0_copyFrom 69 = .ok (.aload_n 1, 1) := eX0_copyFrom_60q.2.2.2.2.2.1
theorem dX0_copyFrom_70 : decode cX0_copyFrom 70 = .ok (.getfield 29, 3) := eX0_copyFrom_60q.2.2.2.2.2.2.1
theorem dX0_copyFrom_73 : decode cX0_copyFrom 73 = .ok (.putfield 29, 3) := eX0_copyFrom_60q.2.2.2.2.2.2.2
theorem eX0_copyFrom_76q : (decode cX0_copyFrom 76 = .ok (.aload_n 0, 1)) ∧ (decode cX0_copyFrom 77 = .ok (.aload_n 1, 1)) ∧ (decode cX0_copyFrom 78 = .ok (.getfield 32, 3)) ∧ (decode cX0_copyFrom 81 = .ok (.putfield 32, 3)) ∧ (decode cX0_copyFrom 84 = .ok (.aload_n 0, 1)) ∧ (decode cX0_copyFrom 85 = .ok (.aload_n 1, 1)) ∧ (decode cX0_copyFrom 86 = .ok (.getfield 35, 3)) ∧ (decode cX0_copyFrom 89 = .ok (.putfield 35, 3)) := by decide +kernel
theorem dX0_copyFrom_76 : decode cX0_copyFrom 76 = .ok (.aload_n 0, 1) := eX0_copyFrom_76q.1
theorem dX0_copyFrom_77 : decode cX0_copyFrom 77 = .ok (.aload_n 1, 1) := eX0_copyFrom_76q.2.1
theorem dX0_copyFrom_78 : decode cX0_copyFrom 78 = .ok (.getfield 32, 3) := eX0_copyFrom_76q.2.2.1
theorem dX0_copyFrom_81 : decode cX0_copyFrom 81 = .ok (.putfield 32, 3) := eX0_copyFrom_76q.2.2.2.1
theorem dX0_copyFrom_84 : decode cX0_copyFrom 84 = .ok (.aload_n 0, 1) := eX0_copyFrom_76q.2.2.2.2.1
theorem dX0_copyFrom_85 : decode cX0_copyFrom 85 = .ok (.aload_n 1, 1) := eX0_copyFrom_76q.2.2.2.2.2.1
theorem dX0_copyFrom_86 : decode cX0_copyFrom 86 = .ok (.getfield 35, 3) := eX0_copyFrom_76q.2.2.2.2.2.2.1
theorem dX0_copyFrom_89 : decode cX0_copyFrom 89 = .ok (.putfield 35, 3) := eX0_copyFrom_76q.2.2.2.2.2.2.2
theorem eX0_copyFrom_92q : (decode cX0_copyFrom 92 = .ok (.aload_n 0, 1)) ∧ (decode cX0_copyFrom 93 = .ok (.aload_n 1, 1)) ∧ (decode cX0_copyFrom 94 = .ok (.getfield 38, 3)) ∧ (decode cX0_copyFrom 97 = .ok (.putfield 38, 3)) ∧ (decode cX0_copyFrom 100 = .ok (.aload_n 0, 1)) ∧ (decode cX0_copyFrom 101 = .ok (.aload_n 1, 1)) ∧ (decode cX0_copyFrom 102 = .ok (.getfield 41, 3)) ∧ (decode cX0_copyFrom 105 = .ok (.putfield 41, 3)) := by decide +kernel
theorem dX0_copyFrom_92 : decode cX0_copyFrom 92 = .ok (.aload_n 0, 1) := eX0_copyFrom_92q.1
theorem dX0_copyFrom_93 : decode cX0_copyFrom 93 = .ok (.aload_n 1, 1) := eX0_copyFrom_92q.2.1
theorem dX0_copyFrom_94 : decode cX0_copyFrom 94 = .ok (.getfield 38, 3) := eX0_copyFrom_92q.2.2.1
theorem dX0_copyFrom_97 : decode cX0_copyFrom 97 = .ok (.putfield 38, 3) := eX0_copyFrom_92q.2.2.2.1
theorem dX0_copyFrom_100 : decode cX0_copyFrom 100 = .ok (.aload_n 0, 1) := eX0_copyFrom_92q.2.2.2.2.1
theorem dX0_copyFrom_101 : decode cX0_copyFrom 101 = .ok (.aload_n 1, 1) := eX0_copyFrom_92q.2.2.2.2.2.1
theorem dX0_copyFrom_102 : decode cX0_copyFrom 102 = .ok (.getfield 41, 3) := eX0_copyFrom_92q.2.2.2.2.2.2.1
theorem dX0_copyFrom_105 : decode cX0_copyFrom 105 = .ok (.putfield 41, 3) := eX0_copyFrom_92q.2.2.2.2.2.2.2
theorem dX0_copyFrom_108 : decode cX0_copyFrom 108 = .ok (.return_, 1) := by decide +kernel
theorem eX0_forgetAllSeen_0q : (decode cX0_forgetAllSeen 0 = .ok (.iconst 0, 1)) ∧ (decode cX0_forgetAllSeen 1 = .ok (.istore_n 1, 1)) ∧ (decode cX0_forgetAllSeen 2 = .ok (.iload_n 1, 1)) ∧ (decode cX0_forgetAllSeen 3 = .ok (.bipush 96, 2)) ∧ (decode cX0_forgetAllSeen 5 = .ok (.if_icmp .ge 16, 3)) ∧ (decode cX0_forgetAllSeen 8 = .ok (.aload_n 0, 1)) ∧ (decode cX0_forgetAllSeen 9 = .ok (.getfield 9, 3)) ∧ (decode cX0_forgetAllSeen 12 = .ok (.iload_n 1, 1)) := by decide +kernel
theorem dX0_forgetAllSeen_0 : decode cX0_forgetAllSeen 0 = .ok (.iconst 0, 1) := eX0_forgetAllSeen_0q.1
theorem dX0_forgetAllSeen_1 : decode cX0_forgetAllSeen 1 = .ok (.istore_n 1, 1) := eX0_forgetAllSeen_0q.2.1
theorem dX0_forgetAllSeen_2 : decode cX0_forgetAllSeen 2 = .ok (.iload_n 1, 1) := eX0_forgetAllSeen_0q.2.2.1
theorem dX0_forgetAllSeen_3 : decode cX0_forgetAllSeen 3 = .ok (.bipush 96, 2) := eX0_forgetAllSeen_0q.2.2.2.1
theorem dX0_forgetAllSeen_5 : decode cX0_forgetAllSeen 5 = .ok (.if_icmp .ge 16, 3) := eX0_forgetAllSeen_0q.2.2.2.2.1
theorem dX0_forgetAllSeen_8 : decode cX0_forgetAllSeen 8 = .ok (.aload_n 0, 1) := eX0_forgetAllSeen_0q.2.2.2.2.2.1
theorem dX0_forgetAllSeen_9 : decode cX0_forgetAllSeen 9 = .ok (.getfield 9, 3) := eX0_forgetAllSeen_0q.2.2.2.2.2.2.1
theorem dX0_forgetAllSeen_12 : decode cX0_forgetAllSeen 12 = .ok (.iload_n 1, 1) := eX0_forgetAllSeen_0q.2.2.2.2.2.2.2
theorem eX0_forgetAllSeen_13q : (decode cX0_forgetAllSeen 13 = .ok (.lconst 0, 1)) ∧ (decode cX0_forgetAllSeen 14 = .ok (.lastore, 1)) ∧ (decode cX0_forgetAllSeen 15 = .ok (.iinc 1 1, 3)) ∧ (decode cX0_forgetAllSeen 18 = .ok (.goto (-16), 3)) ∧ (decode cX0_forgetAllSeen 21 = .ok (.iconst 0, 1)) ∧ (decode cX0_forgetAllSeen 22 = .ok (.istore_n 1, 1)) ∧ (decode cX0_forgetAllSeen 23 = .ok (.iload_n 1, 1)) ∧ (decode cX0_forgetAllSeen 24 = .ok (.bipush 30, 2)) := by decide +kernel
theorem dX0_forgetAllSeen_13 : decode cX0_forgetAllSeen 13 = .ok (.lconst 0, 1) := eX0_forgetAllSeen_13q.1
theorem dX0_forgetAllSeen_14 : decode cX0_forgetAllSeen 14 = .ok (.lastore, 1) := eX0_forgetAllSeen_13q.2.1
theorem dX0_forgetAllSeen_15 : decode cX0_forgetAllSeen 15 = .ok (.iinc 1 1, 3) := eX0_forgetAllSeen_13q.2.2.1
theorem dX0_forgetAllSeen_18 : decode cX0_forgetAllSeen 18 = .ok (.goto (-16), 3) := eX0_forgetAllSeen_13q.2.2.2.1
theorem dX0_forgetAllSeen_21 : decode cX0_forgetAllSeen 21 = .ok (.iconst 0, 1) := eX0_forgetAllSeen_13q.2.2.2.2.1
theorem dX0_forgetAllSeen_22 : decode cX0_forgetAllSeen 22 = .ok (.istore_n 1, 1) := eX0_forgetAllSeen_13q.2.2.2.2.2.1
theorem dX0_forgetAllSeen_23 : decode cX0_forgetAllSeen 23 = .ok (.iload_n 1, 1) := eX0_forgetAllSeen_13q.2.2.2.2.2.2.1
theorem dX0_forgetAllSeen_24 : decode cX0_forgetAllSeen 24 = .ok (.bipush 30, 2) := eX0_forgetAllSeen_13q.2.2.2.2.2.2.2
theorem eX0_forgetAllSeen_26q : (decode cX0_forgetAllSeen 26 = .ok (.if_icmp .ge 16, 3)) ∧ (decode cX0_forgetAllSeen 29 = .ok (.aload_n 0, 1)) ∧ (decode cX0_forgetAllSeen 30 = .ok (.getfield 15, 3)) ∧ (decode cX0_forgetAllSeen 33 = .ok (.iload_n 1, 1)) ∧ (decode cX0_forgetAllSeen 34 = .ok (.iconst 0, 1)) ∧ (decode cX0_forgetAllSeen 35 = .ok (.iastore, 1)) ∧ (decode cX0_forgetAllSeen 36 = .ok (.iinc 1 1, 3)) ∧ (decode cX0_forgetAllSeen 39 = .ok (.goto (-16), 3)) := by decide +kernel
theorem dX0_forgetAllSeen_26 : decode cX0_forgetAllSeen 26 = .ok (.if_icmp .ge 16, 3) := eX0_forgetAllSeen_26q.1
theorem dX0_forgetAllSeen_29 : decode cX0_forgetAllSeen 29 = .ok (.aload_n 0, 1) := eX0_forgetAllSeen_26q.2.1
theorem dX0_forgetAllSeen_30 : decode cX0_forgetAllSeen 30 = .ok (.getfield 15, 3) := eX0_forgetAllSeen_26q.2.2.1
theorem dX0_forgetAllSeen_33 : decode cX0_forgetAllSeen 33 = .ok (.iload_n 1, 1) := eX0_forgetAllSeen_26q.2.2.2.1
theorem dX0_forgetAllSeen_34 : decode cX0_forgetAllSeen 34 = .ok (.iconst 0, 1) := eX0_forgetAllSeen_26q.2.2.2.2.1
theorem dX0_forgetAllSeen_35 : decode cX0_forgetAllSeen 35 = .ok (.iastore, 1) := eX0_forgetAllSeen_26q.2.2.2.2.2.1
theorem dX0_forgetAllSeen_36 : decode cX0_forgetAllSeen 36 = .ok (.iinc 1 1, 3) := eX0_forgetAllSeen_26q.2.2.2.2.2.2.1
theorem dX0_forgetAllSeen_39 : decode cX0_forgetAllSeen 39 = .ok (.goto (-16), 3) := eX0_forgetAllSeen_26q.2.2.2.2.2.2.2
theorem dX0_forgetAllSeen_42 : decode cX0_forgetAllSeen 42 = .ok (.return_, 1) := by decide +kernel
theorem eX0_seenBy_0q : (decode cX0_seenBy 0 = .ok (.aload_n 0, 1)) ∧ (decode cX0_seenBy 1 = .ok (.getfield 9, 3)) ∧ (decode cX0_seenBy 4 = .ok (.iload_n 2, 1)) ∧ (decode cX0_seenBy 5 = .ok (.bipush 32, 2)) ∧ (decode cX0_seenBy 7 = .ok (.imul, 1)) ∧ (decode cX0_seenBy 8 = .ok (.iload_n 1, 1)) ∧ (decode cX0_seenBy 9 = .ok (.iadd, 1)) ∧ (decode cX0_seenBy 10 = .ok (.laload, 1)) := by decide +kernel
theorem dX0_seenBy_0 : decode cX0_seenBy 0 = .ok (.aload_n 0, 1) := eX0_seenBy_0q.1
theorem dX0_seenBy_1 : decode cX0_seenBy 1 = .ok (.getfield 9, 3) := eX0_seenBy_0q.2.1
theorem dX0_seenBy_4 : decode cX0_seenBy 4 = .ok (.iload_n 2, 1) := eX0_seenBy_0q.2.2.1
theorem dX0_seenBy_5 : decode cX0_seenBy 5 = .ok (.bipush 32, 2) := eX0_seenBy_0q.2.2.2.1
theorem dX0_seenBy_7 : decode cX0_seenBy 7 = .ok (.imul, 1) := eX0_seenBy_0q.2.2.2.2.1
theorem dX0_seenBy_8 : decode cX0_seenBy 8 = .ok (.iload_n 1, 1) := eX0_seenBy_0q.2.2.2.2.2.1
theorem dX0_seenBy_9 : decode cX0_seenBy 9 = .ok (.iadd, 1) := eX0_seenBy_0q.2.2.2.2.2.2.1
theorem dX0_seenBy_10 : decode cX0_seenBy 10 = .ok (.laload, 1) := eX0_seenBy_0q.2.2.2.2.2.2.2
theorem eX0_seenBy_11q : (decode cX0_seenBy 11 = .ok (.lstore 4, 2)) ∧ (decode cX0_seenBy 13 = .ok (.lload 4, 2)) ∧ (decode cX0_seenBy 15 = .ok (.iconst 5, 1)) ∧ (decode cX0_seenBy 16 = .ok (.iload_n 3, 1)) ∧ (decode cX0_seenBy 17 = .ok (.iconst 1, 1)) ∧ (decode cX0_seenBy 18 = .ok (.isub, 1)) ∧ (decode cX0_seenBy 19 = .ok (.imul, 1)) ∧ (decode cX0_seenBy 20 = .ok (.lushr, 1)) := by decide +kernel
theorem dX0_seenBy_11 : decode cX0_seenBy 11 = .ok (.lstore 4, 2) := eX0_seenBy_11q.1
theorem dX0_seenBy_13 : decode cX0_seenBy 13 = .ok (.lload 4, 2) := eX0_seenBy_11q.2.1
theorem dX0_seenBy_15 : decode cX0_seenBy 15 = .ok (.iconst 5, 1) := eX0_seenBy_11q.2.2.1
theorem dX0_seenBy_16 : decode cX0_seenBy 16 = .ok (.iload_n 3, 1) := eX0_seenBy_11q.2.2.2.1
theorem dX0_seenBy_17 : decode cX0_seenBy 17 = .ok (.iconst 1, 1) := eX0_seenBy_11q.2.2.2.2.1
theorem dX0_seenBy_18 : decode cX0_seenBy 18 = .ok (.isub, 1) := eX0_seenBy_11q.2.2.2.2.2.1
theorem dX0_seenBy_19 : decode cX0_seenBy 19 = .ok (.imul, 1) := eX0_seenBy_11q.2.2.2.2.2.2.1
theorem dX0_seenBy_20 : decode cX0_seenBy 20 = .ok (.lushr, 1) := eX0_seenBy_11q.2.2.2.2.2.2.2
theorem eX0_seenBy_21q : (decode cX0_seenBy 21 = .ok (.ldc2_w 53, 3)) ∧ (decode cX0_seenBy 24 = .ok (.land, 1)) ∧ (decode cX0_seenBy 25 = .ok (.l2i, 1)) ∧ (decode cX0_seenBy 26 = .ok (.iconst 1, 1)) ∧ (decode cX0_seenBy 27 = .ok (.isub, 1)) ∧ (decode cX0_seenBy 28 = .ok (.ireturn, 1)) := by decide +kernel
theorem dX0_seenBy_21 : decode cX0_seenBy 21 = .ok (.ldc2_w 53, 3) := eX0_seenBy_21q.1
theorem dX0_seenBy_24 : decode cX0_seenBy 24 = .ok (.land, 1) := eX0_seenBy_21q.2.1
theorem dX0_seenBy_25 : decode cX0_seenBy 25 = .ok (.l2i, 1) := eX0_seenBy_21q.2.2.1
theorem dX0_seenBy_26 : decode cX0_seenBy 26 = .ok (.iconst 1, 1) := eX0_seenBy_21q.2.2.2.1
theorem dX0_seenBy_27 : decode cX0_seenBy 27 = .ok (.isub, 1) := eX0_seenBy_21q.2.2.2.2.1
theorem dX0_seenBy_28 : decode cX0_seenBy 28 = .ok (.ireturn, 1) := eX0_seenBy_21q.2.2.2.2.2
theorem eX0_seenAt_0q : (decode cX0_seenAt 0 = .ok (.iconst 5, 1)) ∧ (decode cX0_seenAt 1 = .ok (.iload_n 2, 1)) ∧ (decode cX0_seenAt 2 = .ok (.iconst 1, 1)) ∧ (decode cX0_seenAt 3 = .ok (.isub, 1)) ∧ (decode cX0_seenAt 4 = .ok (.imul, 1)) ∧ (decode cX0_seenAt 5 = .ok (.istore_n 3, 1)) ∧ (decode cX0_seenAt 6 = .ok (.iconst 0, 1)) ∧ (decode cX0_seenAt 7 = .ok (.istore 4, 2)) := by decide +kernel
theorem dX0_seenAt_0 : decode cX0_seenAt 0 = .ok (.iconst 5, 1) := eX0_seenAt_0q.1
theorem dX0_seenAt_1 : decode cX0_seenAt 1 = .ok (.iload_n 2, 1) := eX0_seenAt_0q.2.1
theorem dX0_seenAt_2 : decode cX0_seenAt 2 = .ok (.iconst 1, 1) := eX0_seenAt_0q.2.2.1
theorem dX0_seenAt_3 : decode cX0_seenAt 3 = .ok (.isub, 1) := eX0_seenAt_0q.2.2.2.1
theorem dX0_seenAt_4 : decode cX0_seenAt 4 = .ok (.imul, 1) := eX0_seenAt_0q.2.2.2.2.1
theorem dX0_seenAt_5 : decode cX0_seenAt 5 = .ok (.istore_n 3, 1) := eX0_seenAt_0q.2.2.2.2.2.1
theorem dX0_seenAt_6 : decode cX0_seenAt 6 = .ok (.iconst 0, 1) := eX0_seenAt_0q.2.2.2.2.2.2.1
theorem dX0_seenAt_7 : decode cX0_seenAt 7 = .ok (.istore 4, 2) := eX0_seenAt_0q.2.2.2.2.2.2.2
theorem eX0_seenAt_9q : (decode cX0_seenAt 9 = .ok (.iconst 0, 1)) ∧ (decode cX0_seenAt 10 = .ok (.istore 5, 2)) ∧ (decode cX0_seenAt 12 = .ok (.iload 5, 2)) ∧ (decode cX0_seenAt 14 = .ok (.bipush 32, 2)) ∧ (decode cX0_seenAt 16 = .ok (.if_icmp .ge 35, 3)) ∧ (decode cX0_seenAt 19 = .ok (.iload 4, 2)) ∧ (decode cX0_seenAt 21 = .ok (.iconst 1, 1)) ∧ (decode cX0_seenAt 22 = .ok (.aload_n 0, 1)) := by decide +kernel
theorem dX0_seenAt_9 : decode cX0_seenAt 9 = .ok (.iconst 0, 1) := eX0_seenAt_9q.1
theorem dX0_seenAt_10 : decode cX0_seenAt 10 = .ok (.istore 5, 2) := eX0_seenAt_9q.2.1
theorem dX0_seenAt_12 : decode cX0_seenAt 12 = .ok (.iload 5, 2) := eX0_seenAt_9q.2.2.1
theorem dX0_seenAt_14 : decode cX0_seenAt 14 = .ok (.bipush 32, 2) := eX0_seenAt_9q.2.2.2.1
theorem dX0_seenAt_16 : decode cX0_seenAt 16 = .ok (.if_icmp .ge 35, 3) := eX0_seenAt_9q.2.2.2.2.1
theorem dX0_seenAt_19 : decode cX0_seenAt 19 = .ok (.iload 4, 2) := eX0_seenAt_9q.2.2.2.2.2.1
theorem dX0_seenAt_21 : decode cX0_seenAt 21 = .ok (.iconst 1, 1) := eX0_seenAt_9q.2.2.2.2.2.2.1
theorem dX0_seenAt_22 : decode cX0_seenAt 22 = .ok (.aload_n 0, 1) := eX0_seenAt_9q.2.2.2.2.2.2.2
theorem eX0_seenAt_23q : (decode cX0_seenAt 23 = .ok (.getfield 9, 3)) ∧ (decode cX0_seenAt 26 = .ok (.iload_n 1, 1)) ∧ (decode cX0_seenAt 27 = .ok (.bipush 32, 2)) ∧ (decode cX0_seenAt 29 = .ok (.imul, 1)) ∧ (decode cX0_seenAt 30 = .ok (.iload 5, 2)) ∧ (decode cX0_seenAt 32 = .ok (.iadd, 1)) ∧ (decode cX0_seenAt 33 = .ok (.laload, 1)) ∧ (decode cX0_seenAt 34 = .ok (.iload_n 3, 1)) := by decide +kernel
theorem dX0_seenAt_23 : decode cX0_seenAt 23 = .ok (.getfield 9, 3) := eX0_seenAt_23q.1
theorem dX0_seenAt_26 : decode cX0_seenAt 26 = .ok (.iload_n 1, 1) := eX0_seenAt_23q.2.1
theorem dX0_seenAt_27 : decode cX0_seenAt 27 = .ok (.bipush 32, 2) := eX0_seenAt_23q.2.2.1
theorem dX0_seenAt_29 : decode cX0_seenAt 29 = .ok (.imul, 1) := eX0_seenAt_23q.2.2.2.1
theorem dX0_seenAt_30 : decode cX0_seenAt 30 = .ok (.iload 5, 2) := eX0_seenAt_23q.2.2.2.2.1
theorem dX0_seenAt_32 : decode cX0_seenAt 32 = .ok (.iadd, 1) := eX0_seenAt_23q.2.2.2.2.2.1
theorem dX0_seenAt_33 : decode cX0_seenAt 33 = .ok (.laload, 1) := eX0_seenAt_23q.2.2.2.2.2.2.1
theorem dX0_seenAt_34 : decode cX0_seenAt 34 = .ok (.iload_n 3, 1) := eX0_seenAt_23q.2.2.2.2.2.2.2
theorem eX0_seenAt_35q : (decode cX0_seenAt 35 = .ok (.lushr, 1)) ∧ (decode cX0_seenAt 36 = .ok (.ldc2_w 53, 3)) ∧ (decode cX0_seenAt 39 = .ok (.land, 1)) ∧ (decode cX0_seenAt 40 = .ok (.l2i, 1)) ∧ (decode cX0_seenAt 41 = .ok (.ishl, 1)) ∧ (decode cX0_seenAt 42 = .ok (.ior, 1)) ∧ (decode cX0_seenAt 43 = .ok (.istore 4, 2)) ∧ (decode cX0_seenAt 45 = .ok (.iinc 5 1, 3)) := by decide +kernel
theorem dX0_seenAt_35 : decode cX0_seenAt 35 = .ok (.lushr, 1) := eX0_seenAt_35q.1
theorem dX0_seenAt_36 : decode cX0_seenAt 36 = .ok (.ldc2_w 53, 3) := eX0_seenAt_35q.2.1
theorem dX0_seenAt_39 : decode cX0_seenAt 39 = .ok (.land, 1) := eX0_seenAt_35q.2.2.1
theorem dX0_seenAt_40 : decode cX0_seenAt 40 = .ok (.l2i, 1) := eX0_seenAt_35q.2.2.2.1
theorem dX0_seenAt_41 : decode cX0_seenAt 41 = .ok (.ishl, 1) := eX0_seenAt_35q.2.2.2.2.1
theorem dX0_seenAt_42 : decode cX0_seenAt 42 = .ok (.ior, 1) := eX0_seenAt_35q.2.2.2.2.2.1
theorem dX0_seenAt_43 : decode cX0_seenAt 43 = .ok (.istore 4, 2) := eX0_seenAt_35q.2.2.2.2.2.2.1
theorem dX0_seenAt_45 : decode cX0_seenAt 45 = .ok (.iinc 5 1, 3) := eX0_seenAt_35q.2.2.2.2.2.2.2
theorem eX0_seenAt_48q : (decode cX0_seenAt 48 = .ok (.goto (-36), 3)) ∧ (decode cX0_seenAt 51 = .ok (.iload 4, 2)) ∧ (decode cX0_seenAt 53 = .ok (.iconst 1, 1)) ∧ (decode cX0_seenAt 54 = .ok (.iushr, 1)) ∧ (decode cX0_seenAt 55 = .ok (.ireturn, 1)) := by decide +kernel
theorem dX0_seenAt_48 : decode cX0_seenAt 48 = .ok (.goto (-36), 3) := eX0_seenAt_48q.1
theorem dX0_seenAt_51 : decode cX0_seenAt 51 = .ok (.iload 4, 2) := eX0_seenAt_48q.2.1
theorem dX0_seenAt_53 : decode cX0_seenAt 53 = .ok (.iconst 1, 1) := eX0_seenAt_48q.2.2.1
theorem dX0_seenAt_54 : decode cX0_seenAt 54 = .ok (.iushr, 1) := eX0_seenAt_48q.2.2.2.1
theorem dX0_seenAt_55 : decode cX0_seenAt 55 = .ok (.ireturn, 1) := eX0_seenAt_48q.2.2.2.2
theorem eX0_see_0q : (decode cX0_see 0 = .ok (.iconst 5, 1)) ∧ (decode cX0_see 1 = .ok (.iload_n 3, 1)) ∧ (decode cX0_see 2 = .ok (.iconst 1, 1)) ∧ (decode cX0_see 3 = .ok (.isub, 1)) ∧ (decode cX0_see 4 = .ok (.imul, 1)) ∧ (decode cX0_see 5 = .ok (.istore 5, 2)) ∧ (decode cX0_see 7 = .ok (.aload_n 0, 1)) ∧ (decode cX0_see 8 = .ok (.getfield 9, 3)) := by decide +kernel
theorem dX0_see_0 : decode cX0_see 0 = .ok (.iconst 5, 1) := eX0_see_0q.1
theorem dX0_see_1 : decode cX0_see 1 = .ok (.iload_n 3, 1) := eX0_see_0q.2.1
theorem dX0_see_2 : decode cX0_see 2 = .ok (.iconst 1, 1) := eX0_see_0q.2.2.1
theorem dX0_see_3 : decode cX0_see 3 = .ok (.isub, 1) := eX0_see_0q.2.2.2.1
theorem dX0_see_4 : decode cX0_see 4 = .ok (.imul, 1) := eX0_see_0q.2.2.2.2.1
theorem dX0_see_5 : decode cX0_see 5 = .ok (.istore 5, 2) := eX0_see_0q.2.2.2.2.2.1
theorem dX0_see_7 : decode cX0_see 7 = .ok (.aload_n 0, 1) := eX0_see_0q.2.2.2.2.2.2.1
theorem dX0_see_8 : decode cX0_see 8 = .ok (.getfield 9, 3) := eX0_see_0q.2.2.2.2.2.2.2
theorem eX0_see_11q : (decode cX0_see 11 = .ok (.iload_n 2, 1)) ∧ (decode cX0_see 12 = .ok (.bipush 32, 2)) ∧ (decode cX0_see 14 = .ok (.imul, 1)) ∧ (decode cX0_see 15 = .ok (.iload_n 1, 1)) ∧ (decode cX0_see 16 = .ok (.iadd, 1)) ∧ (decode cX0_see 17 = .ok (.laload, 1)) ∧ (decode cX0_see 18 = .ok (.ldc2_w 53, 3)) ∧ (decode cX0_see 21 = .ok (.iload 5, 2)) := by decide +kernel
theorem dX0_see_11 : decode cX0_see 11 = .ok (.iload_n 2, 1) := eX0_see_11q.1
theorem dX0_see_12 : decode cX0_see 12 = .ok (.bipush 32, 2) := eX0_see_11q.2.1
theorem dX0_see_14 : decode cX0_see 14 = .ok (.imul, 1) := eX0_see_11q.2.2.1
theorem dX0_see_15 : decode cX0_see 15 = .ok (.iload_n 1, 1) := eX0_see_11q.2.2.2.1
theorem dX0_see_16 : decode cX0_see 16 = .ok (.iadd, 1) := eX0_see_11q.2.2.2.2.1
theorem dX0_see_17 : decode cX0_see 17 = .ok (.laload, 1) := eX0_see_11q.2.2.2.2.2.1
theorem dX0_see_18 : decode cX0_see 18 = .ok (.ldc2_w 53, 3) := eX0_see_11q.2.2.2.2.2.2.1
theorem dX0_see_21 : decode cX0_see 21 = .ok (.iload 5, 2) := eX0_see_11q.2.2.2.2.2.2.2
theorem eX0_see_23q : (decode cX0_see 23 = .ok (.lshl, 1)) ∧ (decode cX0_see 24 = .ok (.ldc2_w 55, 3)) ∧ (decode cX0_see 27 = .ok (.lxor, 1)) ∧ (decode cX0_see 28 = .ok (.land, 1)) ∧ (decode cX0_see 29 = .ok (.lstore 6, 2)) ∧ (decode cX0_see 31 = .ok (.aload_n 0, 1)) ∧ (decode cX0_see 32 = .ok (.getfield 9, 3)) ∧ (decode cX0_see 35 = .ok (.iload_n 2, 1)) := by decide +kernel
theorem dX0_see_23 : decode cX0_see 23 = .ok (.lshl, 1) := eX0_see_23q.1
theorem dX0_see_24 : decode cX0_see 24 = .ok (.ldc2_w 55, 3) := eX0_see_23q.2.1
theorem dX0_see_27 : decode cX0_see 27 = .ok (.lxor, 1) := eX0_see_23q.2.2.1
theorem dX0_see_28 : decode cX0_see 28 = .ok (.land, 1) := eX0_see_23q.2.2.2.1
theorem dX0_see_29 : decode cX0_see 29 = .ok (.lstore 6, 2) := eX0_see_23q.2.2.2.2.1
theorem dX0_see_31 : decode cX0_see 31 = .ok (.aload_n 0, 1) := eX0_see_23q.2.2.2.2.2.1
theorem dX0_see_32 : decode cX0_see 32 = .ok (.getfield 9, 3) := eX0_see_23q.2.2.2.2.2.2.1
theorem dX0_see_35 : decode cX0_see 35 = .ok (.iload_n 2, 1) := eX0_see_23q.2.2.2.2.2.2.2
theorem eX0_see_36q : (decode cX0_see 36 = .ok (.bipush 32, 2)) ∧ (decode cX0_see 38 = .ok (.imul, 1)) ∧ (decode cX0_see 39 = .ok (.iload_n 1, 1)) ∧ (decode cX0_see 40 = .ok (.iadd, 1)) ∧ (decode cX0_see 41 = .ok (.lload 6, 2)) ∧ (decode cX0_see 43 = .ok (.iload 4, 2)) ∧ (decode cX0_see 45 = .ok (.iconst 1, 1)) ∧ (decode cX0_see 46 = .ok (.iadd, 1)) := by decide +kernel
theorem dX0_see_36 : decode cX0_see 36 = .ok (.bipush 32, 2) := eX0_see_36q.1
theorem dX0_see_38 : decode cX0_see 38 = .ok (.imul, 1) := eX0_see_36q.2.1
theorem dX0_see_39 : decode cX0_see 39 = .ok (.iload_n 1, 1) := eX0_see_36q.2.2.1
theorem dX0_see_40 : decode cX0_see 40 = .ok (.iadd, 1) := eX0_see_36q.2.2.2.1
theorem dX0_see_41 : decode cX0_see 41 = .ok (.lload 6, 2) := eX0_see_36q.2.2.2.2.1
theorem dX0_see_43 : decode cX0_see 43 = .ok (.iload 4, 2) := eX0_see_36q.2.2.2.2.2.1
theorem dX0_see_45 : decode cX0_see 45 = .ok (.iconst 1, 1) := eX0_see_36q.2.2.2.2.2.2.1
theorem dX0_see_46 : decode cX0_see 46 = .ok (.iadd, 1) := eX0_see_36q.2.2.2.2.2.2.2
theorem eX0_see_47q : (decode cX0_see 47 = .ok (.i2l, 1)) ∧ (decode cX0_see 48 = .ok (.iload 5, 2)) ∧ (decode cX0_see 50 = .ok (.lshl, 1)) ∧ (decode cX0_see 51 = .ok (.lor, 1)) ∧ (decode cX0_see 52 = .ok (.lastore, 1)) ∧ (decode cX0_see 53 = .ok (.return_, 1)) := by decide +kernel
theorem dX0_see_47 : decode cX0_see 47 = .ok (.i2l, 1) := eX0_see_47q.1
theorem dX0_see_48 : decode cX0_see 48 = .ok (.iload 5, 2) := eX0_see_47q.2.1
theorem dX0_see_50 : decode cX0_see 50 = .ok (.lshl, 1) := eX0_see_47q.2.2.1
theorem dX0_see_51 : decode cX0_see 51 = .ok (.lor, 1) := eX0_see_47q.2.2.2.1
theorem dX0_see_52 : decode cX0_see 52 = .ok (.lastore, 1) := eX0_see_47q.2.2.2.2.1
theorem dX0_see_53 : decode cX0_see 53 = .ok (.return_, 1) := eX0_see_47q.2.2.2.2.2
theorem eX0_sentAt_0q : (decode cX0_sentAt 0 = .ok (.aload_n 0, 1)) ∧ (decode cX0_sentAt 1 = .ok (.getfield 15, 3)) ∧ (decode cX0_sentAt 4 = .ok (.iload_n 1, 1)) ∧ (decode cX0_sentAt 5 = .ok (.bipush 10, 2)) ∧ (decode cX0_sentAt 7 = .ok (.imul, 1)) ∧ (decode cX0_sentAt 8 = .ok (.iload_n 2, 1)) ∧ (decode cX0_sentAt 9 = .ok (.iadd, 1)) ∧ (decode cX0_sentAt 10 = .ok (.iconst 1, 1)) := by decide +kernel
theorem dX0_sentAt_0 : decode cX0_sentAt 0 = .ok (.aload_n 0, 1) := eX0_sentAt_0q.1
theorem dX0_sentAt_1 : decode cX0_sentAt 1 = .ok (.getfield 15, 3) := eX0_sentAt_0q.2.1
theorem dX0_sentAt_4 : decode cX0_sentAt 4 = .ok (.iload_n 1, 1) := eX0_sentAt_0q.2.2.1
theorem dX0_sentAt_5 : decode cX0_sentAt 5 = .ok (.bipush 10, 2) := eX0_sentAt_0q.2.2.2.1
theorem dX0_sentAt_7 : decode cX0_sentAt 7 = .ok (.imul, 1) := eX0_sentAt_0q.2.2.2.2.1
theorem dX0_sentAt_8 : decode cX0_sentAt 8 = .ok (.iload_n 2, 1) := eX0_sentAt_0q.2.2.2.2.2.1
theorem dX0_sentAt_9 : decode cX0_sentAt 9 = .ok (.iadd, 1) := eX0_sentAt_0q.2.2.2.2.2.2.1
theorem dX0_sentAt_10 : decode cX0_sentAt 10 = .ok (.iconst 1, 1) := eX0_sentAt_0q.2.2.2.2.2.2.2
theorem eX0_sentAt_11q : (decode cX0_sentAt 11 = .ok (.isub, 1)) ∧ (decode cX0_sentAt 12 = .ok (.iaload, 1)) ∧ (decode cX0_sentAt 13 = .ok (.ireturn, 1)) := by decide +kernel
theorem dX0_sentAt_11 : decode cX0_sentAt 11 = .ok (.isub, 1) := eX0_sentAt_11q.1
theorem dX0_sentAt_12 : decode cX0_sentAt 12 = .ok (.iaload, 1) := eX0_sentAt_11q.2.1
theorem dX0_sentAt_13 : decode cX0_sentAt 13 = .ok (.ireturn, 1) := eX0_sentAt_11q.2.2
theorem eX0_countSent_0q : (decode cX0_countSent 0 = .ok (.aload_n 0, 1)) ∧ (decode cX0_countSent 1 = .ok (.getfield 15, 3)) ∧ (decode cX0_countSent 4 = .ok (.iload_n 1, 1)) ∧ (decode cX0_countSent 5 = .ok (.bipush 10, 2)) ∧ (decode cX0_countSent 7 = .ok (.imul, 1)) ∧ (decode cX0_countSent 8 = .ok (.iload_n 2, 1)) ∧ (decode cX0_countSent 9 = .ok (.iadd, 1)) ∧ (decode cX0_countSent 10 = .ok (.iconst 1, 1)) := by decide +kernel
theorem dX0_countSent_0 : decode cX0_countSent 0 = .ok (.aload_n 0, 1) := eX0_countSent_0q.1
theorem dX0_countSent_1 : decode cX0_countSent 1 = .ok (.getfield 15, 3) := eX0_countSent_0q.2.1
theorem dX0_countSent_4 : decode cX0_countSent 4 = .ok (.iload_n 1, 1) := eX0_countSent_0q.2.2.1
theorem dX0_countSent_5 : decode cX0_countSent 5 = .ok (.bipush 10, 2) := eX0_countSent_0q.2.2.2.1
theorem dX0_countSent_7 : decode cX0_countSent 7 = .ok (.imul, 1) := eX0_countSent_0q.2.2.2.2.1
theorem dX0_countSent_8 : decode cX0_countSent 8 = .ok (.iload_n 2, 1) := eX0_countSent_0q.2.2.2.2.2.1
theorem dX0_countSent_9 : decode cX0_countSent 9 = .ok (.iadd, 1) := eX0_countSent_0q.2.2.2.2.2.2.1
theorem dX0_countSent_10 : decode cX0_countSent 10 = .ok (.iconst 1, 1) := eX0_countSent_0q.2.2.2.2.2.2.2
theorem eX0_countSent_11q : (decode cX0_countSent 11 = .ok (.isub, 1)) ∧ (decode cX0_countSent 12 = .ok (.dup2, 1)) ∧ (decode cX0_countSent 13 = .ok (.iaload, 1)) ∧ (decode cX0_countSent 14 = .ok (.iconst 1, 1)) ∧ (decode cX0_countSent 15 = .ok (.iadd, 1)) ∧ (decode cX0_countSent 16 = .ok (.iastore, 1)) ∧ (decode cX0_countSent 17 = .ok (.return_, 1)) := by decide +kernel
theorem dX0_countSent_11 : decode cX0_countSent 11 = .ok (.isub, 1) := eX0_countSent_11q.1
theorem dX0_countSent_12 : decode cX0_countSent 12 = .ok (.dup2, 1) := eX0_countSent_11q.2.1
theorem dX0_countSent_13 : decode cX0_countSent 13 = .ok (.iaload, 1) := eX0_countSent_11q.2.2.1
theorem dX0_countSent_14 : decode cX0_countSent 14 = .ok (.iconst 1, 1) := eX0_countSent_11q.2.2.2.1
theorem dX0_countSent_15 : decode cX0_countSent 15 = .ok (.iadd, 1) := eX0_countSent_11q.2.2.2.2.1
theorem dX0_countSent_16 : decode cX0_countSent 16 = .ok (.iastore, 1) := eX0_countSent_11q.2.2.2.2.2.1
theorem dX0_countSent_17 : decode cX0_countSent 17 = .ok (.return_, 1) := eX0_countSent_11q.2.2.2.2.2.2
theorem eX0_sentInAll_0q : (decode cX0_sentInAll 0 = .ok (.iconst 0, 1)) ∧ (decode cX0_sentInAll 1 = .ok (.istore_n 1, 1)) ∧ (decode cX0_sentInAll 2 = .ok (.iconst 0, 1)) ∧ (decode cX0_sentInAll 3 = .ok (.istore_n 2, 1)) ∧ (decode cX0_sentInAll 4 = .ok (.iload_n 2, 1)) ∧ (decode cX0_sentInAll 5 = .ok (.bipush 30, 2)) ∧ (decode cX0_sentInAll 7 = .ok (.if_icmp .ge 18, 3)) ∧ (decode cX0_sentInAll 10 = .ok (.iload_n 1, 1)) := by decide +kernel
theorem dX0_sentInAll_0 : decode cX0_sentInAll 0 = .ok (.iconst 0, 1) := eX0_sentInAll_0q.1
theorem dX0_sentInAll_1 : decode cX0_sentInAll 1 = .ok (.istore_n 1, 1) := eX0_sentInAll_0q.2.1
theorem dX0_sentInAll_2 : decode cX0_sentInAll 2 = .ok (.iconst 0, 1) := eX0_sentInAll_0q.2.2.1
theorem dX0_sentInAll_3 : decode cX0_sentInAll 3 = .ok (.istore_n 2, 1) := eX0_sentInAll_0q.2.2.2.1
theorem dX0_sentInAll_4 : decode cX0_sentInAll 4 = .ok (.iload_n 2, 1) := eX0_sentInAll_0q.2.2.2.2.1
theorem dX0_sentInAll_5 : decode cX0_sentInAll 5 = .ok (.bipush 30, 2) := eX0_sentInAll_0q.2.2.2.2.2.1
theorem dX0_sentInAll_7 : decode cX0_sentInAll 7 = .ok (.if_icmp .ge 18, 3) := eX0_sentInAll_0q.2.2.2.2.2.2.1
theorem dX0_sentInAll_10 : decode cX0_sentInAll 10 = .ok (.iload_n 1, 1) := eX0_sentInAll_0q.2.2.2.2.2.2.2
theorem eX0_sentInAll_11q : (decode cX0_sentInAll 11 = .ok (.aload_n 0, 1)) ∧ (decode cX0_sentInAll 12 = .ok (.getfield 15, 3)) ∧ (decode cX0_sentInAll 15 = .ok (.iload_n 2, 1)) ∧ (decode cX0_sentInAll 16 = .ok (.iaload, 1)) ∧ (decode cX0_sentInAll 17 = .ok (.iadd, 1)) ∧ (decode cX0_sentInAll 18 = .ok (.istore_n 1, 1)) ∧ (decode cX0_sentInAll 19 = .ok (.iinc 2 1, 3)) ∧ (decode cX0_sentInAll 22 = .ok (.goto (-18), 3)) := by decide +kernel
theorem dX0_sentInAll_11 : decode cX0_sentInAll 11 = .ok (.aload_n 0, 1) := eX0_sentInAll_11q.1
theorem dX0_sentInAll_12 : decode cX0_sentInAll 12 = .ok (.getfield 15, 3) := eX0_sentInAll_11q.2.1
theorem dX0_sentInAll_15 : decode cX0_sentInAll 15 = .ok (.iload_n 2, 1) := eX0_sentInAll_11q.2.2.1
theorem dX0_sentInAll_16 : decode cX0_sentInAll 16 = .ok (.iaload, 1) := eX0_sentInAll_11q.2.2.2.1
theorem dX0_sentInAll_17 : decode cX0_sentInAll 17 = .ok (.iadd, 1) := eX0_sentInAll_11q.2.2.2.2.1
theorem dX0_sentInAll_18 : decode cX0_sentInAll 18 = .ok (.istore_n 1, 1) := eX0_sentInAll_11q.2.2.2.2.2.1
theorem dX0_sentInAll_19 : decode cX0_sentInAll 19 = .ok (.iinc 2 1, 3) := eX0_sentInAll_11q.2.2.2.2.2.2.1
theorem dX0_sentInAll_22 : decode cX0_sentInAll 22 = .ok (.goto (-18), 3) := eX0_sentInAll_11q.2.2.2.2.2.2.2
theorem dX0_sentInAll_25 : decode cX0_sentInAll 25 = .ok (.iload_n 1, 1) := by decide +kernel
theorem dX0_sentInAll_26 : decode cX0_sentInAll 26 = .ok (.ireturn, 1) := by decide +kernel
theorem eX0_countersInAll_0q : (decode cX0_countersInAll 0 = .ok (.iconst 0, 1)) ∧ (decode cX0_countersInAll 1 = .ok (.istore_n 1, 1)) ∧ (decode cX0_countersInAll 2 = .ok (.iconst 0, 1)) ∧ (decode cX0_countersInAll 3 = .ok (.istore_n 2, 1)) ∧ (decode cX0_countersInAll 4 = .ok (.iload_n 2, 1)) ∧ (decode cX0_countersInAll 5 = .ok (.bipush 12, 2)) ∧ (decode cX0_countersInAll 7 = .ok (.if_icmp .ge 18, 3)) ∧ (decode cX0_countersInAll 10 = .ok (.iload_n 1, 1)) := by decide +kernel
theorem dX0_countersInAll_0 : decode cX0_countersInAll 0 = .ok (.iconst 0, 1) := eX0_countersInAll_0q.1
theorem dX0_countersInAll_1 : decode cX0_countersInAll 1 = .ok (.istore_n 1, 1) := eX0_countersInAll_0q.2.1
theorem dX0_countersInAll_2 : decode cX0_countersInAll 2 = .ok (.iconst 0, 1) := eX0_countersInAll_0q.2.2.1
theorem dX0_countersInAll_3 : decode cX0_countersInAll 3 = .ok (.istore_n 2, 1) := eX0_countersInAll_0q.2.2.2.1
theorem dX0_countersInAll_4 : decode cX0_countersInAll 4 = .ok (.iload_n 2, 1) := eX0_countersInAll_0q.2.2.2.2.1
theorem dX0_countersInAll_5 : decode cX0_countersInAll 5 = .ok (.bipush 12, 2) := eX0_countersInAll_0q.2.2.2.2.2.1
theorem dX0_countersInAll_7 : decode cX0_countersInAll 7 = .ok (.if_icmp .ge 18, 3) := eX0_countersInAll_0q.2.2.2.2.2.2.1
theorem dX0_countersInAll_10 : decode cX0_countersInAll 10 = .ok (.iload_n 1, 1) := eX0_countersInAll_0q.2.2.2.2.2.2.2
theorem eX0_countersInAll_11q : (decode cX0_countersInAll 11 = .ok (.aload_n 0, 1)) ∧ (decode cX0_countersInAll 12 = .ok (.getfield 22, 3)) ∧ (decode cX0_countersInAll 15 = .ok (.iload_n 2, 1)) ∧ (decode cX0_countersInAll 16 = .ok (.iaload, 1)) ∧ (decode cX0_countersInAll 17 = .ok (.iadd, 1)) ∧ (decode cX0_countersInAll 18 = .ok (.istore_n 1, 1)) ∧ (decode cX0_countersInAll 19 = .ok (.iinc 2 1, 3)) ∧ (decode cX0_countersInAll 22 = .ok (.goto (-18), 3)) := by decide +kernel
theorem dX0_countersInAll_11 : decode cX0_countersInAll 11 = .ok (.aload_n 0, 1) := eX0_countersInAll_11q.1
theorem dX0_countersInAll_12 : decode cX0_countersInAll 12 = .ok (.getfield 22, 3) := eX0_countersInAll_11q.2.1
theorem dX0_countersInAll_15 : decode cX0_countersInAll 15 = .ok (.iload_n 2, 1) := eX0_countersInAll_11q.2.2.1
theorem dX0_countersInAll_16 : decode cX0_countersInAll 16 = .ok (.iaload, 1) := eX0_countersInAll_11q.2.2.2.1
theorem dX0_countersInAll_17 : decode cX0_countersInAll 17 = .ok (.iadd, 1) := eX0_countersInAll_11q.2.2.2.2.1
theorem dX0_countersInAll_18 : decode cX0_countersInAll 18 = .ok (.istore_n 1, 1) := eX0_countersInAll_11q.2.2.2.2.2.1
theorem dX0_countersInAll_19 : decode cX0_countersInAll 19 = .ok (.iinc 2 1, 3) := eX0_countersInAll_11q.2.2.2.2.2.2.1
theorem dX0_countersInAll_22 : decode cX0_countersInAll 22 = .ok (.goto (-18), 3) := eX0_countersInAll_11q.2.2.2.2.2.2.2
theorem dX0_countersInAll_25 : decode cX0_countersInAll 25 = .ok (.iload_n 1, 1) := by decide +kernel
theorem dX0_countersInAll_26 : decode cX0_countersInAll 26 = .ok (.ireturn, 1) := by decide +kernel
theorem eX0_openWindow_0q : (decode cX0_openWindow 0 = .ok (.aload_n 0, 1)) ∧ (decode cX0_openWindow 1 = .ok (.dup, 1)) ∧ (decode cX0_openWindow 2 = .ok (.getfield 29, 3)) ∧ (decode cX0_openWindow 5 = .ok (.iconst 1, 1)) ∧ (decode cX0_openWindow 6 = .ok (.iadd, 1)) ∧ (decode cX0_openWindow 7 = .ok (.putfield 29, 3)) ∧ (decode cX0_openWindow 10 = .ok (.aload_n 0, 1)) ∧ (decode cX0_openWindow 11 = .ok (.dup, 1)) := by decide +kernel
theorem dX0_openWindow_0 : decode cX0_openWindow 0 = .ok (.aload_n 0, 1) := eX0_openWindow_0q.1
theorem dX0_openWindow_1 : decode cX0_openWindow 1 = .ok (.dup, 1) := eX0_openWindow_0q.2.1
theorem dX0_openWindow_2 : decode cX0_openWindow 2 = .ok (.getfield 29, 3) := eX0_openWindow_0q.2.2.1
theorem dX0_openWindow_5 : decode cX0_openWindow 5 = .ok (.iconst 1, 1) := eX0_openWindow_0q.2.2.2.1
theorem dX0_openWindow_6 : decode cX0_openWindow 6 = .ok (.iadd, 1) := eX0_openWindow_0q.2.2.2.2.1
theorem dX0_openWindow_7 : decode cX0_openWindow 7 = .ok (.putfield 29, 3) := eX0_openWindow_0q.2.2.2.2.2.1
theorem dX0_openWindow_10 : decode cX0_openWindow 10 = .ok (.aload_n 0, 1) := eX0_openWindow_0q.2.2.2.2.2.2.1
theorem dX0_openWindow_11 : decode cX0_openWindow 11 = .ok (.dup, 1) := eX0_openWindow_0q.2.2.2.2.2.2.2
theorem eX0_openWindow_12q : (decode cX0_openWindow 12 = .ok (.getfield 32, 3)) ∧ (decode cX0_openWindow 15 = .ok (.iconst 1, 1)) ∧ (decode cX0_openWindow 16 = .ok (.iadd, 1)) ∧ (decode cX0_openWindow 17 = .ok (.putfield 32, 3)) ∧ (decode cX0_openWindow 20 = .ok (.aload_n 0, 1)) ∧ (decode cX0_openWindow 21 = .ok (.aload_n 0, 1)) ∧ (decode cX0_openWindow 22 = .ok (.getfield 35, 3)) ∧ (decode cX0_openWindow 25 = .ok (.aload_n 0, 1)) := by decide +kernel
theorem dX0_openWindow_12 : decode cX0_openWindow 12 = .ok (.getfield 32, 3) := eX0_openWindow_12q.1
theorem dX0_openWindow_15 : decode cX0_openWindow 15 = .ok (.iconst 1, 1) := eX0_openWindow_12q.2.1
theorem dX0_openWindow_16 : decode cX0_openWindow 16 = .ok (.iadd, 1) := eX0_openWindow_12q.2.2.1
theorem dX0_openWindow_17 : decode cX0_openWindow 17 = .ok (.putfield 32, 3) := eX0_openWindow_12q.2.2.2.1
theorem dX0_openWindow_20 : decode cX0_openWindow 20 = .ok (.aload_n 0, 1) := eX0_openWindow_12q.2.2.2.2.1
theorem dX0_openWindow_21 : decode cX0_openWindow 21 = .ok (.aload_n 0, 1) := eX0_openWindow_12q.2.2.2.2.2.1
theorem dX0_openWindow_22 : decode cX0_openWindow 22 = .ok (.getfield 35, 3) := eX0_openWindow_12q.2.2.2.2.2.2.1
theorem dX0_openWindow_25 : decode cX0_openWindow 25 = .ok (.aload_n 0, 1) := eX0_openWindow_12q.2.2.2.2.2.2.2
theorem eX0_openWindow_26q : (decode cX0_openWindow 26 = .ok (.getfield 32, 3)) ∧ (decode cX0_openWindow 29 = .ok (.invokestatic 57, 3)) ∧ (decode cX0_openWindow 32 = .ok (.putfield 35, 3)) ∧ (decode cX0_openWindow 35 = .ok (.return_, 1)) := by decide +kernel
theorem dX0_openWindow_26 : decode cX0_openWindow 26 = .ok (.getfield 32, 3) := eX0_openWindow_26q.1
theorem dX0_openWindow_29 : decode cX0_openWindow 29 = .ok (.invokestatic 57, 3) := eX0_openWindow_26q.2.1
theorem dX0_openWindow_32 : decode cX0_openWindow 32 = .ok (.putfield 35, 3) := eX0_openWindow_26q.2.2.1
theorem dX0_openWindow_35 : decode cX0_openWindow 35 = .ok (.return_, 1) := eX0_openWindow_26q.2.2.2
theorem eX0_shutWindow_0q : (decode cX0_shutWindow 0 = .ok (.aload_n 0, 1)) ∧ (decode cX0_shutWindow 1 = .ok (.dup, 1)) ∧ (decode cX0_shutWindow 2 = .ok (.getfield 32, 3)) ∧ (decode cX0_shutWindow 5 = .ok (.iconst 1, 1)) ∧ (decode cX0_shutWindow 6 = .ok (.isub, 1)) ∧ (decode cX0_shutWindow 7 = .ok (.putfield 32, 3)) ∧ (decode cX0_shutWindow 10 = .ok (.return_, 1)) := by decide +kernel
theorem dX0_shutWindow_0 : decode cX0_shutWindow 0 = .ok (.aload_n 0, 1) := eX0_shutWindow_0q.1
theorem dX0_shutWindow_1 : decode cX0_shutWindow 1 = .ok (.dup, 1) := eX0_shutWindow_0q.2.1
theorem dX0_shutWindow_2 : decode cX0_shutWindow 2 = .ok (.getfield 32, 3) := eX0_shutWindow_0q.2.2.1
theorem dX0_shutWindow_5 : decode cX0_shutWindow 5 = .ok (.iconst 1, 1) := eX0_shutWindow_0q.2.2.2.1
theorem dX0_shutWindow_6 : decode cX0_shutWindow 6 = .ok (.isub, 1) := eX0_shutWindow_0q.2.2.2.2.1
theorem dX0_shutWindow_7 : decode cX0_shutWindow 7 = .ok (.putfield 32, 3) := eX0_shutWindow_0q.2.2.2.2.2.1
theorem dX0_shutWindow_10 : decode cX0_shutWindow 10 = .ok (.return_, 1) := eX0_shutWindow_0q.2.2.2.2.2.2
theorem eX2_empty_0q : (decode cX2_empty 0 = .ok (.aload_n 0, 1)) ∧ (decode cX2_empty 1 = .ok (.iconst 0, 1)) ∧ (decode cX2_empty 2 = .ok (.putfield 33, 3)) ∧ (decode cX2_empty 5 = .ok (.aload_n 0, 1)) ∧ (decode cX2_empty 6 = .ok (.iconst 0, 1)) ∧ (decode cX2_empty 7 = .ok (.putfield 37, 3)) ∧ (decode cX2_empty 10 = .ok (.aload_n 0, 1)) ∧ (decode cX2_empty 11 = .ok (.iconst 0, 1)) := by decide +kernel
theorem dX2_empty_0 : decode cX2_empty 0 = .ok (.aload_n 0, 1) := eX2_empty_0q.1
theorem dX2_empty_1 : decode cX2_empty 1 = .ok (.iconst 0, 1) := eX2_empty_0q.2.1
theorem dX2_empty_2 : decode cX2_empty 2 = .ok (.putfield 33, 3) := eX2_empty_0q.2.2.1
theorem dX2_empty_5 : decode cX2_empty 5 = .ok (.aload_n 0, 1) := eX2_empty_0q.2.2.2.1
theorem dX2_empty_6 : decode cX2_empty 6 = .ok (.iconst 0, 1) := eX2_empty_0q.2.2.2.2.1
theorem dX2_empty_7 : decode cX2_empty 7 = .ok (.putfield 37, 3) := eX2_empty_0q.2.2.2.2.2.1
theorem dX2_empty_10 : decode cX2_empty 10 = .ok (.aload_n 0, 1) := eX2_empty_0q.2.2.2.2.2.2.1
theorem dX2_empty_11 : decode cX2_empty 11 = .ok (.iconst 0, 1) := eX2_empty_0q.2.2.2.2.2.2.2
theorem eX2_empty_12q : (decode cX2_empty 12 = .ok (.putfield 40, 3)) ∧ (decode cX2_empty 15 = .ok (.aload_n 0, 1)) ∧ (decode cX2_empty 16 = .ok (.iconst 5, 1)) ∧ (decode cX2_empty 17 = .ok (.putfield 43, 3)) ∧ (decode cX2_empty 20 = .ok (.return_, 1)) := by decide +kernel
theorem dX2_empty_12 : decode cX2_empty 12 = .ok (.putfield 40, 3) := eX2_empty_12q.1
theorem dX2_empty_15 : decode cX2_empty 15 = .ok (.aload_n 0, 1) := eX2_empty_12q.2.1
theorem dX2_empty_16 : decode cX2_empty 16 = .ok (.iconst 5, 1) := eX2_empty_12q.2.2.1
theorem dX2_empty_17 : decode cX2_empty 17 = .ok (.putfield 43, 3) := eX2_empty_12q.2.2.2.1
theorem dX2_empty_20 : decode cX2_empty 20 = .ok (.return_, 1) := eX2_empty_12q.2.2.2.2
theorem eX2_copyFrom_0q : (decode cX2_copyFrom 0 = .ok (.aload_n 1, 1)) ∧ (decode cX2_copyFrom 1 = .ok (.getfield 9, 3)) ∧ (decode cX2_copyFrom 4 = .ok (.iconst 0, 1)) ∧ (decode cX2_copyFrom 5 = .ok (.aload_n 0, 1)) ∧ (decode cX2_copyFrom 6 = .ok (.getfield 9, 3)) ∧ (decode cX2_copyFrom 9 = .ok (.iconst 0, 1)) ∧ (decode cX2_copyFrom 10 = .ok (.bipush 12, 2)) ∧ (decode cX2_copyFrom 12 = .ok (.invokestatic 58, 3)) := by decide +kernel
theorem dX2_copyFrom_0 : decode cX2_copyFrom 0 = .ok (.aload_n 1, 1) := eX2_copyFrom_0q.1
theorem dX2_copyFrom_1 : decode cX2_copyFrom 1 = .ok (.getfield 9, 3) := eX2_copyFrom_0q.2.1
theorem dX2_copyFrom_4 : decode cX2_copyFrom 4 = .ok (.iconst 0, 1) := eX2_copyFrom_0q.2.2.1
theorem dX2_copyFrom_5 : decode cX2_copyFrom 5 = .ok (.aload_n 0, 1) := eX2_copyFrom_0q.2.2.2.1
theorem dX2_copyFrom_6 : decode cX2_copyFrom 6 = .ok (.getfield 9, 3) := eX2_copyFrom_0q.2.2.2.2.1
theorem dX2_copyFrom_9 : decode cX2_copyFrom 9 = .ok (.iconst 0, 1) := eX2_copyFrom_0q.2.2.2.2.2.1
theorem dX2_copyFrom_10 : decode cX2_copyFrom 10 = .ok (.bipush 12, 2) := eX2_copyFrom_0q.2.2.2.2.2.2.1
theorem dX2_copyFrom_12 : decode cX2_copyFrom 12 = .ok (.invokestatic 58, 3) := eX2_copyFrom_0q.2.2.2.2.2.2.2
theorem eX2_copyFrom_15q : (decode cX2_copyFrom 15 = .ok (.aload_n 1, 1)) ∧ (decode cX2_copyFrom 16 = .ok (.getfield 15, 3)) ∧ (decode cX2_copyFrom 19 = .ok (.iconst 0, 1)) ∧ (decode cX2_copyFrom 20 = .ok (.aload_n 0, 1)) ∧ (decode cX2_copyFrom 21 = .ok (.getfield 15, 3)) ∧ (decode cX2_copyFrom 24 = .ok (.iconst 0, 1)) ∧ (decode cX2_copyFrom 25 = .ok (.bipush 12, 2)) ∧ (decode cX2_copyFrom 27 = .ok (.invokestatic 58, 3)) := by decide +kernel
theorem dX2_copyFrom_15 : decode cX2_copyFrom 15 = .ok (.aload_n 1, 1) := eX2_copyFrom_15q.1
theorem dX2_copyFrom_16 : decode cX2_copyFrom 16 = .ok (.getfield 15, 3) := eX2_copyFrom_15q.2.1
theorem dX2_copyFrom_19 : decode cX2_copyFrom 19 = .ok (.iconst 0, 1) := eX2_copyFrom_15q.2.2.1
theorem dX2_copyFrom_20 : decode cX2_copyFrom 20 = .ok (.aload_n 0, 1) := eX2_copyFrom_15q.2.2.2.1
theorem dX2_copyFrom_21 : decode cX2_copyFrom 21 = .ok (.getfield 15, 3) := eX2_copyFrom_15q.2.2.2.2.1
theorem dX2_copyFrom_24 : decode cX2_copyFrom 24 = .ok (.iconst 0, 1) := eX2_copyFrom_15q.2.2.2.2.2.1
theorem dX2_copyFrom_25 : decode cX2_copyFrom 25 = .ok (.bipush 12, 2) := eX2_copyFrom_15q.2.2.2.2.2.2.1
theorem dX2_copyFrom_27 : decode cX2_copyFrom 27 = .ok (.invokestatic 58, 3) := eX2_copyFrom_15q.2.2.2.2.2.2.2
theorem eX2_copyFrom_30q : (decode cX2_copyFrom 30 = .ok (.aload_n 1, 1)) ∧ (decode cX2_copyFrom 31 = .ok (.getfield 18, 3)) ∧ (decode cX2_copyFrom 34 = .ok (.iconst 0, 1)) ∧ (decode cX2_copyFrom 35 = .ok (.aload_n 0, 1)) ∧ (decode cX2_copyFrom 36 = .ok (.getfield 18, 3)) ∧ (decode cX2_copyFrom 39 = .ok (.iconst 0, 1)) ∧ (decode cX2_copyFrom 40 = .ok (.bipush 12, 2)) ∧ (decode cX2_copyFrom 42 = .ok (.invokestatic 58, 3)) := by decide +kernel
theorem dX2_copyFrom_30 : decode cX2_copyFrom 30 = .ok (.aload_n 1, 1) := eX2_copyFrom_30q.1
theorem dX2_copyFrom_31 : decode cX2_copyFrom 31 = .ok (.getfield 18, 3) := eX2_copyFrom_30q.2.1
theorem dX2_copyFrom_34 : decode cX2_copyFrom 34 = .ok (.iconst 0, 1) := eX2_copyFrom_30q.2.2.1
theorem dX2_copyFrom_35 : decode cX2_copyFrom 35 = .ok (.aload_n 0, 1) := eX2_copyFrom_30q.2.2.2.1
theorem dX2_copyFrom_36 : decode cX2_copyFrom 36 = .ok (.getfield 18, 3) := eX2_copyFrom_30q.2.2.2.2.1
theorem dX2_copyFrom_39 : decode cX2_copyFrom 39 = .ok (.iconst 0, 1) := eX2_copyFrom_30q.2.2.2.2.2.1
theorem dX2_copyFrom_40 : decode cX2_copyFrom 40 = .ok (.bipush 12, 2) := eX2_copyFrom_30q.2.2.2.2.2.2.1
theorem dX2_copyFrom_42 : decode cX2_copyFrom 42 = .ok (.invokestatic 58, 3) := eX2_copyFrom_30q.2.2.2.2.2.2.2
theorem eX2_copyFrom_45q : (decode cX2_copyFrom 45 = .ok (.aload_n 1, 1)) ∧ (decode cX2_copyFrom 46 = .ok (.getfield 21, 3)) ∧ (decode cX2_copyFrom 49 = .ok (.iconst 0, 1)) ∧ (decode cX2_copyFrom 50 = .ok (.aload_n 0, 1)) ∧ (decode cX2_copyFrom 51 = .ok (.getfield 21, 3)) ∧ (decode cX2_copyFrom 54 = .ok (.iconst 0, 1)) ∧ (decode cX2_copyFrom 55 = .ok (.bipush 12, 2)) ∧ (decode cX2_copyFrom 57 = .ok (.invokestatic 58, 3)) := by decide +kernel
theorem dX2_copyFrom_45 : decode cX2_copyFrom 45 = .ok (.aload_n 1, 1) := eX2_copyFrom_45q.1
theorem dX2_copyFrom_46 : decode cX2_copyFrom 46 = .ok (.getfield 21, 3) := eX2_copyFrom_45q.2.1
theorem dX2_copyFrom_49 : decode cX2_copyFrom 49 = .ok (.iconst 0, 1) := eX2_copyFrom_45q.2.2.1
theorem dX2_copyFrom_50 : decode cX2_copyFrom 50 = .ok (.aload_n 0, 1) := eX2_copyFrom_45q.2.2.2.1
theorem dX2_copyFrom_51 : decode cX2_copyFrom 51 = .ok (.getfield 21, 3) := eX2_copyFrom_45q.2.2.2.2.1
theorem dX2_copyFrom_54 : decode cX2_copyFrom 54 = .ok (.iconst 0, 1) := eX2_copyFrom_45q.2.2.2.2.2.1
theorem dX2_copyFrom_55 : decode cX2_copyFrom 55 = .ok (.bipush 12, 2) := eX2_copyFrom_45q.2.2.2.2.2.2.1
theorem dX2_copyFrom_57 : decode cX2_copyFrom 57 = .ok (.invokestatic 58, 3) := eX2_copyFrom_45q.2.2.2.2.2.2.2
theorem eX2_copyFrom_60q : (decode cX2_copyFrom 60 = .ok (.aload_n 1, 1)) ∧ (decode cX2_copyFrom 61 = .ok (.getfield 24, 3)) ∧ (decode cX2_copyFrom 64 = .ok (.iconst 0, 1)) ∧ (decode cX2_copyFrom 65 = .ok (.aload_n 0, 1)) ∧ (decode cX2_copyFrom 66 = .ok (.getfield 24, 3)) ∧ (decode cX2_copyFrom 69 = .ok (.iconst 0, 1)) ∧ (decode cX2_copyFrom 70 = .ok (.bipush 20, 2)) ∧ (decode cX2_copyFrom 72 = .ok (.invokestatic 58, 3)) := by decide +kernel
theorem dX2_copyFrom_60 : decode cX2_copyFrom 60 = .ok (.aload_n 1, 1) := eX2_copyFrom_60q.1
theorem dX2_copyFrom_61 : decode cX2_copyFrom 61 = .ok (.getfield 24, 3) := eX2_copyFrom_60q.2.1
theorem dX2_copyFrom_64 : decode cX2_copyFrom 64 = .ok (.iconst 0, 1) := eX2_copyFrom_60q.2.2.1
theorem dX2_copyFrom_65 : decode cX2_copyFrom 65 = .ok (.aload_n 0, 1) := eX2_copyFrom_60q.2.2.2.1
theorem dX2_copyFrom_66 : decode cX2_copyFrom 66 = .ok (.getfield 24, 3) := eX2_copyFrom_60q.2.2.2.2.1
theorem dX2_copyFrom_69 : decode cX2_copyFrom 69 = .ok (.iconst 0, 1) := eX2_copyFrom_60q.2.2.2.2.2.1
theorem dX2_copyFrom_70 : decode cX2_copyFrom 70 = .ok (.bipush 20, 2) := eX2_copyFrom_60q.2.2.2.2.2.2.1
theorem dX2_copyFrom_72 : decode cX2_copyFrom 72 = .ok (.invokestatic 58, 3) := eX2_copyFrom_60q.2.2.2.2.2.2.2
theorem eX2_copyFrom_75q : (decode cX2_copyFrom 75 = .ok (.aload_n 1, 1)) ∧ (decode cX2_copyFrom 76 = .ok (.getfield 27, 3)) ∧ (decode cX2_copyFrom 79 = .ok (.iconst 0, 1)) ∧ (decode cX2_copyFrom 80 = .ok (.aload_n 0, 1)) ∧ (decode cX2_copyFrom 81 = .ok (.getfield 27, 3)) ∧ (decode cX2_copyFrom 84 = .ok (.iconst 0, 1)) ∧ (decode cX2_copyFrom 85 = .ok (.bipush 20, 2)) ∧ (decode cX2_copyFrom 87 = .ok (.invokestatic 58, 3)) := by decide +kernel
theorem dX2_copyFrom_75 : decode cX2_copyFrom 75 = .ok (.aload_n 1, 1) := eX2_copyFrom_75q.1
theorem dX2_copyFrom_76 : decode cX2_copyFrom 76 = .ok (.getfield 27, 3) := eX2_copyFrom_75q.2.1
theorem dX2_copyFrom_79 : decode cX2_copyFrom 79 = .ok (.iconst 0, 1) := eX2_copyFrom_75q.2.2.1
theorem dX2_copyFrom_80 : decode cX2_copyFrom 80 = .ok (.aload_n 0, 1) := eX2_copyFrom_75q.2.2.2.1
theorem dX2_copyFrom_81 : decode cX2_copyFrom 81 = .ok (.getfield 27, 3) := eX2_copyFrom_75q.2.2.2.2.1
theorem dX2_copyFrom_84 : decode cX2_copyFrom 84 = .ok (.iconst 0, 1) := eX2_copyFrom_75q.2.2.2.2.2.1
theorem dX2_copyFrom_85 : decode cX2_copyFrom 85 = .ok (.bipush 20, 2) := eX2_copyFrom_75q.2.2.2.2.2.2.1
theorem dX2_copyFrom_87 : decode cX2_copyFrom 87 = .ok (.invokestatic 58, 3) := eX2_copyFrom_75q.2.2.2.2.2.2.2
theorem eX2_copyFrom_90q : (decode cX2_copyFrom 90 = .ok (.aload_n 1, 1)) ∧ (decode cX2_copyFrom 91 = .ok (.getfield 30, 3)) ∧ (decode cX2_copyFrom 94 = .ok (.iconst 0, 1)) ∧ (decode cX2_copyFrom 95 = .ok (.aload_n 0, 1)) ∧ (decode cX2_copyFrom 96 = .ok (.getfield 30, 3)) ∧ (decode cX2_copyFrom 99 = .ok (.iconst 0, 1)) ∧ (decode cX2_copyFrom 100 = .ok (.iconst 3, 1)) ∧ (decode cX2_copyFrom 101 = .ok (.invokestatic 58, 3)) := by decide +kernel
theorem dX2_copyFrom_90 : decode cX2_copyFrom 90 = .ok (.aload_n 1, 1) := eX2_copyFrom_90q.1
theorem dX2_copyFrom_91 : decode cX2_copyFrom 91 = .ok (.getfield 30, 3) := eX2_copyFrom_90q.2.1
theorem dX2_copyFrom_94 : decode cX2_copyFrom 94 = .ok (.iconst 0, 1) := eX2_copyFrom_90q.2.2.1
theorem dX2_copyFrom_95 : decode cX2_copyFrom 95 = .ok (.aload_n 0, 1) := eX2_copyFrom_90q.2.2.2.1
theorem dX2_copyFrom_96 : decode cX2_copyFrom 96 = .ok (.getfield 30, 3) := eX2_copyFrom_90q.2.2.2.2.1
theorem dX2_copyFrom_99 : decode cX2_copyFrom 99 = .ok (.iconst 0, 1) := eX2_copyFrom_90q.2.2.2.2.2.1
theorem dX2_copyFrom_100 : decode cX2_copyFrom 100 = .ok (.iconst 3, 1) := eX2_copyFrom_90q.2.2.2.2.2.2.1
theorem dX2_copyFrom_101 : decode cX2_copyFrom 101 = .ok (.invokestatic 58, 3) := eX2_copyFrom_90q.2.2.2.2.2.2.2
theorem eX2_copyFrom_104q : (decode cX2_copyFrom 104 = .ok (.aload_n 0, 1)) ∧ (decode cX2_copyFrom 105 = .ok (.aload_n 1, 1)) ∧ (decode cX2_copyFrom 106 = .ok (.getfield 33, 3)) ∧ (decode cX2_copyFrom 109 = .ok (.putfield 33, 3)) ∧ (decode cX2_copyFrom 112 = .ok (.aload_n 0, 1)) ∧ (decode cX2_copyFrom 113 = .ok (.aload_n 1, 1)) ∧ (decode cX2_copyFrom 114 = .ok (.getfield 37, 3)) ∧ (decode cX2_copyFrom 117 = .ok (.putfield 37, 3)) := by decide +kernel
theorem dX2_copyFrom_104 : decode cX2_copyFrom 104 = .ok (.aload_n 0, 1) := eX2_copyFrom_104q.1
theorem dX2_copyFrom_105 : decode cX2_copyFrom 105 = .ok (.aload_n 1, 1) := eX2_copyFrom_104q.2.1
theorem dX2_copyFrom_106 : decode cX2_copyFrom 106 = .ok (.getfield 33, 3) := eX2_copyFrom_104q.2.2.1
theorem dX2_copyFrom_109 : decode cX2_copyFrom 109 = .ok (.putfield 33, 3) := eX2_copyFrom_104q.2.2.2.1
theorem dX2_copyFrom_112 : decode cX2_copyFrom 112 = .ok (.aload_n 0, 1) := eX2_copyFrom_104q.2.2.2.2.1
theorem dX2_copyFrom_113 : decode cX2_copyFrom 113 = .ok (.aload_n 1, 1) := eX2_copyFrom_104q.2.2.2.2.2.1
theorem dX2_copyFrom_114 : decode cX2_copyFrom 114 = .ok (.getfield 37, 3) := eX2_copyFrom_104q.2.2.2.2.2.2.1
theorem dX2_copyFrom_117 : decode cX2_copyFrom 117 = .ok (.putfield 37, 3) := eX2_copyFrom_104q.2.2.2.2.2.2.2
theorem eX2_copyFrom_120q : (decode cX2_copyFrom 120 = .ok (.aload_n 0, 1)) ∧ (decode cX2_copyFrom 121 = .ok (.aload_n 1, 1)) ∧ (decode cX2_copyFrom 122 = .ok (.getfield 40, 3)) ∧ (decode cX2_copyFrom 125 = .ok (.putfield 40, 3)) ∧ (decode cX2_copyFrom 128 = .ok (.aload_n 0, 1)) ∧ (decode cX2_copyFrom 129 = .ok (.aload_n 1, 1)) ∧ (decode cX2_copyFrom 130 = .ok (.getfield 43, 3)) ∧ (decode cX2_copyFrom 133 = .ok (.putfield 43, 3)) := by decide +kernel
theorem dX2_copyFrom_120 : decode cX2_copyFrom 120 = .ok (.aload_n 0, 1) := eX2_copyFrom_120q.1
theorem dX2_copyFrom_121 : decode cX2_copyFrom 121 = .ok (.aload_n 1, 1) := eX2_copyFrom_120q.2.1
theorem dX2_copyFrom_122 : decode cX2_copyFrom 122 = .ok (.getfield 40, 3) := eX2_copyFrom_120q.2.2.1
theorem dX2_copyFrom_125 : decode cX2_copyFrom 125 = .ok (.putfield 40, 3) := eX2_copyFrom_120q.2.2.2.1
theorem dX2_copyFrom_128 : decode cX2_copyFrom 128 = .ok (.aload_n 0, 1) := eX2_copyFrom_120q.2.2.2.2.1
theorem dX2_copyFrom_129 : decode cX2_copyFrom 129 = .ok (.aload_n 1, 1) := eX2_copyFrom_120q.2.2.2.2.2.1
theorem dX2_copyFrom_130 : decode cX2_copyFrom 130 = .ok (.getfield 43, 3) := eX2_copyFrom_120q.2.2.2.2.2.2.1
theorem dX2_copyFrom_133 : decode cX2_copyFrom 133 = .ok (.putfield 43, 3) := eX2_copyFrom_120q.2.2.2.2.2.2.2
theorem dX2_copyFrom_136 : decode cX2_copyFrom 136 = .ok (.return_, 1) := by decide +kernel
theorem eX2_hasRouter_0q : (decode cX2_hasRouter 0 = .ok (.iload_n 1, 1)) ∧ (decode cX2_hasRouter 1 = .ok (.ifCond .lt 15, 3)) ∧ (decode cX2_hasRouter 4 = .ok (.iload_n 1, 1)) ∧ (decode cX2_hasRouter 5 = .ok (.aload_n 0, 1)) ∧ (decode cX2_hasRouter 6 = .ok (.getfield 33, 3)) ∧ (decode cX2_hasRouter 9 = .ok (.if_icmp .ge 7, 3)) ∧ (decode cX2_hasRouter 12 = .ok (.iconst 1, 1)) ∧ (decode cX2_hasRouter 13 = .ok (.goto 4, 3)) := by decide +kernel
theorem dX2_hasRouter_0 : decode cX2_hasRouter 0 = .ok (.iload_n 1, 1) := eX2_hasRouter_0q.1
theorem dX2_hasRouter_1 : decode cX2_hasRouter 1 = .ok (.ifCond .lt 15, 3) := eX2_hasRouter_0q.2.1
theorem dX2_hasRouter_4 : decode cX2_hasRouter 4 = .ok (.iload_n 1, 1) := eX2_hasRouter_0q.2.2.1
theorem dX2_hasRouter_5 : decode cX2_hasRouter 5 = .ok (.aload_n 0, 1) := eX2_hasRouter_0q.2.2.2.1
theorem dX2_hasRouter_6 : decode cX2_hasRouter 6 = .ok (.getfield 33, 3) := eX2_hasRouter_0q.2.2.2.2.1
theorem dX2_hasRouter_9 : decode cX2_hasRouter 9 = .ok (.if_icmp .ge 7, 3) := eX2_hasRouter_0q.2.2.2.2.2.1
theorem dX2_hasRouter_12 : decode cX2_hasRouter 12 = .ok (.iconst 1, 1) := eX2_hasRouter_0q.2.2.2.2.2.2.1
theorem dX2_hasRouter_13 : decode cX2_hasRouter 13 = .ok (.goto 4, 3) := eX2_hasRouter_0q.2.2.2.2.2.2.2
theorem dX2_hasRouter_16 : decode cX2_hasRouter 16 = .ok (.iconst 0, 1) := by decide +kernel
theorem dX2_hasRouter_17 : decode cX2_hasRouter 17 = .ok (.ireturn, 1) := by decide +kernel
theorem eX2_hasLink_0q : (decode cX2_hasLink 0 = .ok (.iload_n 1, 1)) ∧ (decode cX2_hasLink 1 = .ok (.ifCond .lt 15, 3)) ∧ (decode cX2_hasLink 4 = .ok (.iload_n 1, 1)) ∧ (decode cX2_hasLink 5 = .ok (.aload_n 0, 1)) ∧ (decode cX2_hasLink 6 = .ok (.getfield 37, 3)) ∧ (decode cX2_hasLink 9 = .ok (.if_icmp .ge 7, 3)) ∧ (decode cX2_hasLink 12 = .ok (.iconst 1, 1)) ∧ (decode cX2_hasLink 13 = .ok (.goto 4, 3)) := by decide +kernel
theorem dX2_hasLink_0 : decode cX2_hasLink 0 = .ok (.iload_n 1, 1) := eX2_hasLink_0q.1
theorem dX2_hasLink_1 : decode cX2_hasLink 1 = .ok (.ifCond .lt 15, 3) := eX2_hasLink_0q.2.1
theorem dX2_hasLink_4 : decode cX2_hasLink 4 = .ok (.iload_n 1, 1) := eX2_hasLink_0q.2.2.1
theorem dX2_hasLink_5 : decode cX2_hasLink 5 = .ok (.aload_n 0, 1) := eX2_hasLink_0q.2.2.2.1
theorem dX2_hasLink_6 : decode cX2_hasLink 6 = .ok (.getfield 37, 3) := eX2_hasLink_0q.2.2.2.2.1
theorem dX2_hasLink_9 : decode cX2_hasLink 9 = .ok (.if_icmp .ge 7, 3) := eX2_hasLink_0q.2.2.2.2.2.1
theorem dX2_hasLink_12 : decode cX2_hasLink 12 = .ok (.iconst 1, 1) := eX2_hasLink_0q.2.2.2.2.2.2.1
theorem dX2_hasLink_13 : decode cX2_hasLink 13 = .ok (.goto 4, 3) := eX2_hasLink_0q.2.2.2.2.2.2.2
theorem dX2_hasLink_16 : decode cX2_hasLink 16 = .ok (.iconst 0, 1) := by decide +kernel
theorem dX2_hasLink_17 : decode cX2_hasLink 17 = .ok (.ireturn, 1) := by decide +kernel
