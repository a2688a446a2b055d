set_option maxRecDepth 20000 in
theorem ggX3_lookNext_X3_fitting : GoodIn wsX3_lookNext wsX3_fitting := by
  have h := goodIn_app (goodIn_app (goodIn_app (goodIn_app (goodIn_r (big := wsX3_lookNext) (.code yX3_fitting cX3_fitting 5 (some .long) :: (wsX3_fitting_r1 ++ (wsX3_fitting_r2 ++ (wsX3_fitting_r3 ++ wsX3_fitting_r4))) : List Cond) [7, 8, 9, 10, 11, 12, 6, 13, 14, 15, 16, 17, 18, 19, 20, 21, 22, 23, 24, 25, 26, 27, 28, 29, 30, 31, 32, 33, 34, 35, 36, 37, 38, 39, 40, 41, 42, 43, 44, 45, 46, 47, 48, 49, 50, 51, 52, 53, 54, 55, 56, 57, 58, 59, 60, 61, 62, 63, 64, 65, 66, 67, 68, 69, 70, 71, 72, 73, 74, 75, 76, 77, 78, 79, 80, 81, 82, 83, 84, 85] rfl (by decide +kernel)) (goodIn_few (big := wsX3_lookNext) (fun _ h9 => List.mem_cons_of_mem _ (List.mem_append_left _ (List.mem_append_left _ (List.mem_append_left _ (List.mem_append_right _ h9))))) gb_8)) (goodIn_few (big := wsX3_lookNext) (fun _ h9 => List.mem_cons_of_mem _ (List.mem_append_left _ (List.mem_append_left _ (List.mem_append_right _ h9)))) gb_5)) (goodIn_few (big := wsX3_lookNext) (fun _ h9 => List.mem_cons_of_mem _ (List.mem_append_left _ (List.mem_append_right _ h9))) gb_2)) (goodIn_few (big := wsX3_lookNext) (fun _ h9 => List.mem_cons_of_mem _ (List.mem_append_right _ h9)) gb_1)
  exact h
set_option maxRecDepth 20000 in
theorem gX3_lookNext_X3_fitting : GoodIn wsX3_lookNext (wsV RX3 88 RX3 yX3_fitting wsX3_fitting) := goodIn_app (goodIn_r _ [3, 4, 5, 6] rfl (by decide +kernel)) ggX3_lookNext_X3_fitting
set_option maxRecDepth 20000 in
theorem ggX3_lookNext_X3_unlikeBy : GoodIn wsX3_lookNext wsX3_unlikeBy := by
  have h := goodIn_app (goodIn_app (goodIn_app (goodIn_app (goodIn_r (big := wsX3_lookNext) (.code yX3_unlikeBy cX3_unlikeBy 10 (some .int) :: (wsX3_unlikeBy_r1 ++ (wsX3_unlikeBy_r2 ++ wsX3_unlikeBy_r3)) : List Cond) [89, 14, 20, 90, 25, 26, 27, 28, 29, 30, 83, 84, 34, 85, 61, 62, 63, 31, 32, 33, 35, 36, 37, 91, 92, 93, 94, 95, 39, 40, 41, 42, 43, 44, 45, 46, 47, 48, 49, 50, 51, 52, 53, 54, 55, 56, 57, 58, 59, 60, 64, 65, 66, 67, 68, 79, 80, 81, 82, 96, 97, 98, 99, 100, 101, 102] rfl (by decide +kernel)) (goodIn_few (big := wsX3_lookNext) (fun _ h9 => List.mem_cons_of_mem _ (List.mem_append_left _ (List.mem_append_left _ (List.mem_append_left _ (List.mem_append_right _ h9))))) gb_8)) (goodIn_few (big := wsX3_lookNext) (fun _ h9 => List.mem_cons_of_mem _ (List.mem_append_left _ (List.mem_append_left _ (List.mem_append_right _ h9)))) gb_5)) (goodIn_few (big := wsX3_lookNext) (fun _ h9 => List.mem_cons_of_mem _ (List.mem_append_left _ (List.mem_append_right _ h9))) gb_2)) (goodIn_few (big := wsX3_lookNext) (fun _ h9 => List.mem_cons_of_mem _ (List.mem_append_right _ h9)) gb_1)
  exact h
set_option maxRecDepth 20000 in
theorem gX3_lookNext_X3_unlikeBy : GoodIn wsX3_lookNext (wsV RX3 92 RX3 yX3_unlikeBy wsX3_unlikeBy) := goodIn_app (goodIn_r _ [86, 87, 88, 6] rfl (by decide +kernel)) ggX3_lookNext_X3_unlikeBy
theorem eX3_lookNext_0q : (decode cX3_lookNext 0 = .ok (.aload_n 0, 1)) ∧ (decode cX3_lookNext 1 = .ok (.iconst (-1), 1)) ∧ (decode cX3_lookNext 2 = .ok (.putfield 28, 3)) ∧ (decode cX3_lookNext 5 = .ok (.aload_n 0, 1)) ∧ (decode cX3_lookNext 6 = .ok (.iconst 0, 1)) ∧ (decode cX3_lookNext 7 = .ok (.putfield 31, 3)) ∧ (decode cX3_lookNext 10 = .ok (.aload_n 0, 1)) ∧ (decode cX3_lookNext 11 = .ok (.iload_n 1, 1)) := by decide +kernel
theorem dX3_lookNext_0 : decode cX3_lookNext 0 = .ok (.aload_n 0, 1) := eX3_lookNext_0q.1
theorem dX3_lookNext_1 : decode cX3_lookNext 1 = .ok (.iconst (-1), 1) := eX3_lookNext_0q.2.1
theorem dX3_lookNext_2 : decode cX3_lookNext 2 = .ok (.putfield 28, 3) := eX3_lookNext_0q.2.2.1
theorem dX3_lookNext_5 : decode cX3_lookNext 5 = .ok (.aload_n 0, 1) := eX3_lookNext_0q.2.2.2.1
theorem dX3_lookNext_6 : decode cX3_lookNext 6 = .ok (.iconst 0, 1) := eX3_lookNext_0q.2.2.2.2.1
theorem dX3_lookNext_7 : decode cX3_lookNext 7 = .ok (.putfield 31, 3) := eX3_lookNext_0q.2.2.2.2.2.1
theorem dX3_lookNext_10 : decode cX3_lookNext 10 = .ok (.aload_n 0, 1) := eX3_lookNext_0q.2.2.2.2.2.2.1
theorem dX3_lookNext_11 : decode cX3_lookNext 11 = .ok (.iload_n 1, 1) := eX3_lookNext_0q.2.2.2.2.2.2.2
theorem eX3_lookNext_12q : (decode cX3_lookNext 12 = .ok (.invokevirtual 88, 3)) ∧ (decode cX3_lookNext 15 = .ok (.lstore_n 3, 1)) ∧ (decode cX3_lookNext 16 = .ok (.iconst 0, 1)) ∧ (decode cX3_lookNext 17 = .ok (.istore 5, 2)) ∧ (decode cX3_lookNext 19 = .ok (.iload 5, 2)) ∧ (decode cX3_lookNext 21 = .ok (.bipush 32, 2)) ∧ (decode cX3_lookNext 23 = .ok (.if_icmp .ge 47, 3)) ∧ (decode cX3_lookNext 26 = .ok (.lload_n 3, 1)) := by decide +kernel
theorem dX3_lookNext_12 : decode cX3_lookNext 12 = .ok (.invokevirtual 88, 3) := eX3_lookNext_12q.1
theorem dX3_lookNext_15 : decode cX3_lookNext 15 = .ok (.lstore_n 3, 1) := eX3_lookNext_12q.2.1
theorem dX3_lookNext_16 : decode cX3_lookNext 16 = .ok (.iconst 0, 1) := eX3_lookNext_12q.2.2.1
theorem dX3_lookNext_17 : decode cX3_lookNext 17 = .ok (.istore 5, 2) := eX3_lookNext_12q.2.2.2.1
theorem dX3_lookNext_19 : decode cX3_lookNext 19 = .ok (.iload 5, 2) := eX3_lookNext_12q.2.2.2.2.1
theorem dX3_lookNext_21 : decode cX3_lookNext 21 = .ok (.bipush 32, 2) := eX3_lookNext_12q.2.2.2.2.2.1
theorem dX3_lookNext_23 : decode cX3_lookNext 23 = .ok (.if_icmp .ge 47, 3) := eX3_lookNext_12q.2.2.2.2.2.2.1
theorem dX3_lookNext_26 : decode cX3_lookNext 26 = .ok (.lload_n 3, 1) := eX3_lookNext_12q.2.2.2.2.2.2.2
theorem eX3_lookNext_27q : (decode cX3_lookNext 27 = .ok (.lconst 0, 1)) ∧ (decode cX3_lookNext 28 = .ok (.lcmp, 1)) ∧ (decode cX3_lookNext 29 = .ok (.ifCond .eq 41, 3)) ∧ (decode cX3_lookNext 32 = .ok (.aload_n 0, 1)) ∧ (decode cX3_lookNext 33 = .ok (.lload_n 3, 1)) ∧ (decode cX3_lookNext 34 = .ok (.iload_n 1, 1)) ∧ (decode cX3_lookNext 35 = .ok (.iload 5, 2)) ∧ (decode cX3_lookNext 37 = .ok (.iload_n 2, 1)) := by decide +kernel
theorem dX3_lookNext_27 : decode cX3_lookNext 27 = .ok (.lconst 0, 1) := eX3_lookNext_27q.1
theorem dX3_lookNext_28 : decode cX3_lookNext 28 = .ok (.lcmp, 1) := eX3_lookNext_27q.2.1
theorem dX3_lookNext_29 : decode cX3_lookNext 29 = .ok (.ifCond .eq 41, 3) := eX3_lookNext_27q.2.2.1
theorem dX3_lookNext_32 : decode cX3_lookNext 32 = .ok (.aload_n 0, 1) := eX3_lookNext_27q.2.2.2.1
theorem dX3_lookNext_33 : decode cX3_lookNext 33 = .ok (.lload_n 3, 1) := eX3_lookNext_27q.2.2.2.2.1
theorem dX3_lookNext_34 : decode cX3_lookNext 34 = .ok (.iload_n 1, 1) := eX3_lookNext_27q.2.2.2.2.2.1
theorem dX3_lookNext_35 : decode cX3_lookNext 35 = .ok (.iload 5, 2) := eX3_lookNext_27q.2.2.2.2.2.2.1
theorem dX3_lookNext_37 : decode cX3_lookNext 37 = .ok (.iload_n 2, 1) := eX3_lookNext_27q.2.2.2.2.2.2.2
theorem eX3_lookNext_38q : (decode cX3_lookNext 38 = .ok (.invokevirtual 92, 3)) ∧ (decode cX3_lookNext 41 = .ok (.istore 6, 2)) ∧ (decode cX3_lookNext 43 = .ok (.iload 6, 2)) ∧ (decode cX3_lookNext 45 = .ok (.aload_n 0, 1)) ∧ (decode cX3_lookNext 46 = .ok (.getfield 31, 3)) ∧ (decode cX3_lookNext 49 = .ok (.if_icmp .le 15, 3)) ∧ (decode cX3_lookNext 52 = .ok (.aload_n 0, 1)) ∧ (decode cX3_lookNext 53 = .ok (.iload 6, 2)) := by decide +kernel
theorem dX3_lookNext_38 : decode cX3_lookNext 38 = .ok (.invokevirtual 92, 3) := eX3_lookNext_38q.1
theorem dX3_lookNext_41 : decode cX3_lookNext 41 = .ok (.istore 6, 2) := eX3_lookNext_38q.2.1
theorem dX3_lookNext_43 : decode cX3_lookNext 43 = .ok (.iload 6, 2) := eX3_lookNext_38q.2.2.1
theorem dX3_lookNext_45 : decode cX3_lookNext 45 = .ok (.aload_n 0, 1) := eX3_lookNext_38q.2.2.2.1
theorem dX3_lookNext_46 : decode cX3_lookNext 46 = .ok (.getfield 31, 3) := eX3_lookNext_38q.2.2.2.2.1
theorem dX3_lookNext_49 : decode cX3_lookNext 49 = .ok (.if_icmp .le 15, 3) := eX3_lookNext_38q.2.2.2.2.2.1
theorem dX3_lookNext_52 : decode cX3_lookNext 52 = .ok (.aload_n 0, 1) := eX3_lookNext_38q.2.2.2.2.2.2.1
theorem dX3_lookNext_53 : decode cX3_lookNext 53 = .ok (.iload 6, 2) := eX3_lookNext_38q.2.2.2.2.2.2.2
theorem eX3_lookNext_55q : (decode cX3_lookNext 55 = .ok (.putfield 31, 3)) ∧ (decode cX3_lookNext 58 = .ok (.aload_n 0, 1)) ∧ (decode cX3_lookNext 59 = .ok (.iload 5, 2)) ∧ (decode cX3_lookNext 61 = .ok (.putfield 28, 3)) ∧ (decode cX3_lookNext 64 = .ok (.iinc 5 1, 3)) ∧ (decode cX3_lookNext 67 = .ok (.goto (-48), 3)) ∧ (decode cX3_lookNext 70 = .ok (.return_, 1)) := by decide +kernel
theorem dX3_lookNext_55 : decode cX3_lookNext 55 = .ok (.putfield 31, 3) := eX3_lookNext_55q.1
theorem dX3_lookNext_58 : decode cX3_lookNext 58 = .ok (.aload_n 0, 1) := eX3_lookNext_55q.2.1
theorem dX3_lookNext_59 : decode cX3_lookNext 59 = .ok (.iload 5, 2) := eX3_lookNext_55q.2.2.1
theorem dX3_lookNext_61 : decode cX3_lookNext 61 = .ok (.putfield 28, 3) := eX3_lookNext_55q.2.2.2.1
theorem dX3_lookNext_64 : decode cX3_lookNext 64 = .ok (.iinc 5 1, 3) := eX3_lookNext_55q.2.2.2.2.1
theorem dX3_lookNext_67 : decode cX3_lookNext 67 = .ok (.goto (-48), 3) := eX3_lookNext_55q.2.2.2.2.2.1
theorem dX3_lookNext_70 : decode cX3_lookNext 70 = .ok (.return_, 1) := eX3_lookNext_55q.2.2.2.2.2.2
set_option maxRecDepth 20000 in
theorem ggX7_findDiamonds_X7_widthAt : GoodIn wsX7_findDiamonds wsX7_widthAt := by
  have h := goodIn_app (goodIn_app (goodIn_r (big := wsX7_findDiamonds) (.code yX7_widthAt cX7_widthAt 3 (some .int) :: ([.fieldLink RX7 25 "PathProber$Sight" "now" "LPathProber$Condition;", .methodLink RX7 29 yX0_seenAt, .instanceMethod yX0_seenAt, .selects RX0 yX0_seenAt yX0_seenAt, .initialized RX0, .code yX0_seenAt cX0_seenAt 6 (some .int), .fieldLink RX0 9 "PathProber$Condition" "seen" "[J", .constantLong RX0 53 (31), .methodLink RX7 35 yJ6_bitCount_0f7a4, .static yJ6_bitCount_0f7a4, .initialized RJ6, .code yJ6_bitCount_0f7a4 cJ6_bitCount_0f7a4 1 (some .int), .constant RJ6 265 (1431655765), .constant RJ6 266 (858993459), .constant RJ6 267 (252645135)]) : List Cond) [7, 8, 9, 10, 11, 12, 13, 14, 15, 16, 17, 18, 19, 20, 21, 22] rfl (by decide +kernel)) (goodIn_few (big := wsX7_findDiamonds) (fun _ h9 => List.mem_cons_of_mem _ (List.mem_append_left _ (List.mem_append_right _ h9))) gb_7)) (goodIn_few (big := wsX7_findDiamonds) (fun _ h9 => List.mem_cons_of_mem _ (List.mem_append_right _ h9)) gb_1)
  exact h
set_option maxRecDepth 20000 in
theorem gX7_findDiamonds_X7_widthAt : GoodIn wsX7_findDiamonds (wsV RX7 58 RX7 yX7_widthAt wsX7_widthAt) := goodIn_app (goodIn_r _ [3, 4, 5, 6] rfl (by decide +kernel)) ggX7_findDiamonds_X7_widthAt
theorem eX7_findDiamonds_0q : (decode cX7_findDiamonds 0 = .ok (.iconst 0, 1)) ∧ (decode cX7_findDiamonds 1 = .ok (.istore_n 2, 1)) ∧ (decode cX7_findDiamonds 2 = .ok (.iconst (-1), 1)) ∧ (decode cX7_findDiamonds 3 = .ok (.istore_n 3, 1)) ∧ (decode cX7_findDiamonds 4 = .ok (.iconst 1, 1)) ∧ (decode cX7_findDiamonds 5 = .ok (.istore 4, 2)) ∧ (decode cX7_findDiamonds 7 = .ok (.iload 4, 2)) ∧ (decode cX7_findDiamonds 9 = .ok (.bipush 10, 2)) := by decide +kernel
theorem dX7_findDiamonds_0 : decode cX7_findDiamonds 0 = .ok (.iconst 0, 1) := eX7_findDiamonds_0q.1
theorem dX7_findDiamonds_1 : decode cX7_findDiamonds 1 = .ok (.istore_n 2, 1) := eX7_findDiamonds_0q.2.1
theorem dX7_findDiamonds_2 : decode cX7_findDiamonds 2 = .ok (.iconst (-1), 1) := eX7_findDiamonds_0q.2.2.1
theorem dX7_findDiamonds_3 : decode cX7_findDiamonds 3 = .ok (.istore_n 3, 1) := eX7_findDiamonds_0q.2.2.2.1
theorem dX7_findDiamonds_4 : decode cX7_findDiamonds 4 = .ok (.iconst 1, 1) := eX7_findDiamonds_0q.2.2.2.2.1
theorem dX7_findDiamonds_5 : decode cX7_findDiamonds 5 = .ok (.istore 4, 2) := eX7_findDiamonds_0q.2.2.2.2.2.1
theorem dX7_findDiamonds_7 : decode cX7_findDiamonds 7 = .ok (.iload 4, 2) := eX7_findDiamonds_0q.2.2.2.2.2.2.1
theorem dX7_findDiamonds_9 : decode cX7_findDiamonds 9 = .ok (.bipush 10, 2) := eX7_findDiamonds_0q.2.2.2.2.2.2.2
theorem eX7_findDiamonds_11q : (decode cX7_findDiamonds 11 = .ok (.if_icmp .gt 74, 3)) ∧ (decode cX7_findDiamonds 14 = .ok (.aload_n 0, 1)) ∧ (decode cX7_findDiamonds 15 = .ok (.iload_n 1, 1)) ∧ (decode cX7_findDiamonds 16 = .ok (.iload 4, 2)) ∧ (decode cX7_findDiamonds 18 = .ok (.invokevirtual 58, 3)) ∧ (decode cX7_findDiamonds 21 = .ok (.istore 5, 2)) ∧ (decode cX7_findDiamonds 23 = .ok (.iload 5, 2)) ∧ (decode cX7_findDiamonds 25 = .ok (.iconst 1, 1)) := by decide +kernel
theorem dX7_findDiamonds_11 : decode cX7_findDiamonds 11 = .ok (.if_icmp .gt 74, 3) := eX7_findDiamonds_11q.1
theorem dX7_findDiamonds_14 : decode cX7_findDiamonds 14 = .ok (.aload_n 0, 1) := eX7_findDiamonds_11q.2.1
theorem dX7_findDiamonds_15 : decode cX7_findDiamonds 15 = .ok (.iload_n 1, 1) := eX7_findDiamonds_11q.2.2.1
theorem dX7_findDiamonds_16 : decode cX7_findDiamonds 16 = .ok (.iload 4, 2) := eX7_findDiamonds_11q.2.2.2.1
theorem dX7_findDiamonds_18 : decode cX7_findDiamonds 18 = .ok (.invokevirtual 58, 3) := eX7_findDiamonds_11q.2.2.2.2.1
theorem dX7_findDiamonds_21 : decode cX7_findDiamonds 21 = .ok (.istore 5, 2) := eX7_findDiamonds_11q.2.2.2.2.2.1
theorem dX7_findDiamonds_23 : decode cX7_findDiamonds 23 = .ok (.iload 5, 2) := eX7_findDiamonds_11q.2.2.2.2.2.2.1
theorem dX7_findDiamonds_25 : decode cX7_findDiamonds 25 = .ok (.iconst 1, 1) := eX7_findDiamonds_11q.2.2.2.2.2.2.2
theorem eX7_findDiamonds_26q : (decode cX7_findDiamonds 26 = .ok (.if_icmp .ne 34, 3)) ∧ (decode cX7_findDiamonds 29 = .ok (.iload_n 3, 1)) ∧ (decode cX7_findDiamonds 30 = .ok (.iconst (-1), 1)) ∧ (decode cX7_findDiamonds 31 = .ok (.if_icmp .eq 29, 3)) ∧ (decode cX7_findDiamonds 34 = .ok (.iload 4, 2)) ∧ (decode cX7_findDiamonds 36 = .ok (.iload_n 3, 1)) ∧ (decode cX7_findDiamonds 37 = .ok (.isub, 1)) ∧ (decode cX7_findDiamonds 38 = .ok (.iconst 1, 1)) := by decide +kernel
theorem dX7_findDiamonds_26 : decode cX7_findDiamonds 26 = .ok (.if_icmp .ne 34, 3) := eX7_findDiamonds_26q.1
theorem dX7_findDiamonds_29 : decode cX7_findDiamonds 29 = .ok (.iload_n 3, 1) := eX7_findDiamonds_26q.2.1
theorem dX7_findDiamonds_30 : decode cX7_findDiamonds 30 = .ok (.iconst (-1), 1) := eX7_findDiamonds_26q.2.2.1
theorem dX7_findDiamonds_31 : decode cX7_findDiamonds 31 = .ok (.if_icmp .eq 29, 3) := eX7_findDiamonds_26q.2.2.2.1
theorem dX7_findDiamonds_34 : decode cX7_findDiamonds 34 = .ok (.iload 4, 2) := eX7_findDiamonds_26q.2.2.2.2.1
theorem dX7_findDiamonds_36 : decode cX7_findDiamonds 36 = .ok (.iload_n 3, 1) := eX7_findDiamonds_26q.2.2.2.2.2.1
theorem dX7_findDiamonds_37 : decode cX7_findDiamonds 37 = .ok (.isub, 1) := eX7_findDiamonds_26q.2.2.2.2.2.2.1
theorem dX7_findDiamonds_38 : decode cX7_findDiamonds 38 = .ok (.iconst 1, 1) := eX7_findDiamonds_26q.2.2.2.2.2.2.2
theorem eX7_findDiamonds_39q : (decode cX7_findDiamonds 39 = .ok (.if_icmp .le 21, 3)) ∧ (decode cX7_findDiamonds 42 = .ok (.aload_n 0, 1)) ∧ (decode cX7_findDiamonds 43 = .ok (.getfield 15, 3)) ∧ (decode cX7_findDiamonds 46 = .ok (.iload_n 2, 1)) ∧ (decode cX7_findDiamonds 47 = .ok (.iload_n 3, 1)) ∧ (decode cX7_findDiamonds 48 = .ok (.iastore, 1)) ∧ (decode cX7_findDiamonds 49 = .ok (.aload_n 0, 1)) ∧ (decode cX7_findDiamonds 50 = .ok (.getfield 18, 3)) := by decide +kernel
theorem dX7_findDiamonds_39 : decode cX7_findDiamonds 39 = .ok (.if_icmp .le 21, 3) := eX7_findDiamonds_39q.1
theorem dX7_findDiamonds_42 : decode cX7_findDiamonds 42 = .ok (.aload_n 0, 1) := eX7_findDiamonds_39q.2.1
theorem dX7_findDiamonds_43 : decode cX7_findDiamonds 43 = .ok (.getfield 15, 3) := eX7_findDiamonds_39q.2.2.1
theorem dX7_findDiamonds_46 : decode cX7_findDiamonds 46 = .ok (.iload_n 2, 1) := eX7_findDiamonds_39q.2.2.2.1
theorem dX7_findDiamonds_47 : decode cX7_findDiamonds 47 = .ok (.iload_n 3, 1) := eX7_findDiamonds_39q.2.2.2.2.1
theorem dX7_findDiamonds_48 : decode cX7_findDiamonds 48 = .ok (.iastore, 1) := eX7_findDiamonds_39q.2.2.2.2.2.1
theorem dX7_findDiamonds_49 : decode cX7_findDiamonds 49 = .ok (.aload_n 0, 1) := eX7_findDiamonds_39q.2.2.2.2.2.2.1
theorem dX7_findDiamonds_50 : decode cX7_findDiamonds 50 = .ok (.getfield 18, 3) := eX7_findDiamonds_39q.2.2.2.2.2.2.2
theorem eX7_findDiamonds_53q : (decode cX7_findDiamonds 53 = .ok (.iload_n 2, 1)) ∧ (decode cX7_findDiamonds 54 = .ok (.iload 4, 2)) ∧ (decode cX7_findDiamonds 56 = .ok (.iastore, 1)) ∧ (decode cX7_findDiamonds 57 = .ok (.iinc 2 1, 3)) ∧ (decode cX7_findDiamonds 60 = .ok (.iload 5, 2)) ∧ (decode cX7_findDiamonds 62 = .ok (.iconst 1, 1)) ∧ (decode cX7_findDiamonds 63 = .ok (.if_icmp .ne 9, 3)) ∧ (decode cX7_findDiamonds 66 = .ok (.iload 4, 2)) := by decide +kernel
theorem dX7_findDiamonds_53 : decode cX7_findDiamonds 53 = .ok (.iload_n 2, 1) := eX7_findDiamonds_53q.1
theorem dX7_findDiamonds_54 : decode cX7_findDiamonds 54 = .ok (.iload 4, 2) := eX7_findDiamonds_53q.2.1
theorem dX7_findDiamonds_56 : decode cX7_findDiamonds 56 = .ok (.iastore, 1) := eX7_findDiamonds_53q.2.2.1
theorem dX7_findDiamonds_57 : decode cX7_findDiamonds 57 = .ok (.iinc 2 1, 3) := eX7_findDiamonds_53q.2.2.2.1
theorem dX7_findDiamonds_60 : decode cX7_findDiamonds 60 = .ok (.iload 5, 2) := eX7_findDiamonds_53q.2.2.2.2.1
theorem dX7_findDiamonds_62 : decode cX7_findDiamonds 62 = .ok (.iconst 1, 1) := eX7_findDiamonds_53q.2.2.2.2.2.1
theorem dX7_findDiamonds_63 : decode cX7_findDiamonds 63 = .ok (.if_icmp .ne 9, 3) := eX7_findDiamonds_53q.2.2.2.2.2.2.1
theorem dX7_findDiamonds_66 : decode cX7_findDiamonds 66 = .ok (.iload 4, 2) := eX7_findDiamonds_53q.2.2.2.2.2.2.2
theorem eX7_findDiamonds_68q : (decode cX7_findDiamonds 68 = .ok (.istore_n 3, 1)) ∧ (decode cX7_findDiamonds 69 = .ok (.goto 10, 3)) ∧ (decode cX7_findDiamonds 72 = .ok (.iload 5, 2)) ∧ (decode cX7_findDiamonds 74 = .ok (.ifCond .ne 5, 3)) ∧ (decode cX7_findDiamonds 77 = .ok (.iconst (-1), 1)) ∧ (decode cX7_findDiamonds 78 = .ok (.istore_n 3, 1)) ∧ (decode cX7_findDiamonds 79 = .ok (.iinc 4 1, 3)) ∧ (decode cX7_findDiamonds 82 = .ok (.goto (-75), 3)) := by decide +kernel
theorem dX7_findDiamonds_68 : decode cX7_findDiamonds 68 = .ok (.istore_n 3, 1) := eX7_findDiamonds_68q.1
theorem dX7_findDiamonds_69 : decode cX7_findDiamonds 69 = .ok (.goto 10, 3) := eX7_findDiamonds_68q.2.1
theorem dX7_findDiamonds_72 : decode cX7_findDiamonds 72 = .ok (.iload 5, 2) := eX7_findDiamonds_68q.2.2.1
theorem dX7_findDiamonds_74 : decode cX7_findDiamonds 74 = .ok (.ifCond .ne 5, 3) := eX7_findDiamonds_68q.2.2.2.1
theorem dX7_findDiamonds_77 : decode cX7_findDiamonds 77 = .ok (.iconst (-1), 1) := eX7_findDiamonds_68q.2.2.2.2.1
theorem dX7_findDiamonds_78 : decode cX7_findDiamonds 78 = .ok (.istore_n 3, 1) := eX7_findDiamonds_68q.2.2.2.2.2.1
theorem dX7_findDiamonds_79 : decode cX7_findDiamonds 79 = .ok (.iinc 4 1, 3) := eX7_findDiamonds_68q.2.2.2.2.2.2.1
theorem dX7_findDiamonds_82 : decode cX7_findDiamonds 82 = .ok (.goto (-75), 3) := eX7_findDiamonds_68q.2.2.2.2.2.2.2
theorem dX7_findDiamonds_85 : decode cX7_findDiamonds 85 = .ok (.iload_n 2, 1) := by decide +kernel
theorem dX7_findDiamonds_86 : decode cX7_findDiamonds 86 = .ok (.ireturn, 1) := by decide +kernel
theorem eX10_isPort_0q : (decode cX10_isPort 0 = .ok (.iload_n 0, 1)) ∧ (decode cX10_isPort 1 = .ok (.ifCond .lt 13, 3)) ∧ (decode cX10_isPort 4 = .ok (.iload_n 0, 1)) ∧ (decode cX10_isPort 5 = .ok (.bipush 32, 2)) ∧ (decode cX10_isPort 7 = .ok (.if_icmp .ge 7, 3)) ∧ (decode cX10_isPort 10 = .ok (.iconst 1, 1)) ∧ (decode cX10_isPort 11 = .ok (.goto 4, 3)) ∧ (decode cX10_isPort 14 = .ok (.iconst 0, 1)) := by decide +kernel
theorem dX10_isPort_0 : decode cX10_isPort 0 = .ok (.iload_n 0, 1) := eX10_isPort_0q.1
theorem dX10_isPort_1 : decode cX10_isPort 1 = .ok (.ifCond .lt 13, 3) := eX10_isPort_0q.2.1
theorem dX10_isPort_4 : decode cX10_isPort 4 = .ok (.iload_n 0, 1) := eX10_isPort_0q.2.2.1
theorem dX10_isPort_5 : decode cX10_isPort 5 = .ok (.bipush 32, 2) := eX10_isPort_0q.2.2.2.1
theorem dX10_isPort_7 : decode cX10_isPort 7 = .ok (.if_icmp .ge 7, 3) := eX10_isPort_0q.2.2.2.2.1
theorem dX10_isPort_10 : decode cX10_isPort 10 = .ok (.iconst 1, 1) := eX10_isPort_0q.2.2.2.2.2.1
theorem dX10_isPort_11 : decode cX10_isPort 11 = .ok (.goto 4, 3) := eX10_isPort_0q.2.2.2.2.2.2.1
theorem dX10_isPort_14 : decode cX10_isPort 14 = .ok (.iconst 0, 1) := eX10_isPort_0q.2.2.2.2.2.2.2
theorem dX10_isPort_15 : decode cX10_isPort 15 = .ok (.ireturn, 1) := by decide +kernel
theorem eX10_isHops_0q : (decode cX10_isHops 0 = .ok (.iload_n 0, 1)) ∧ (decode cX10_isHops 1 = .ok (.iconst 1, 1)) ∧ (decode cX10_isHops 2 = .ok (.if_icmp .lt 13, 3)) ∧ (decode cX10_isHops 5 = .ok (.iload_n 0, 1)) ∧ (decode cX10_isHops 6 = .ok (.bipush 10, 2)) ∧ (decode cX10_isHops 8 = .ok (.if_icmp .gt 7, 3)) ∧ (decode cX10_isHops 11 = .ok (.iconst 1, 1)) ∧ (decode cX10_isHops 12 = .ok (.goto 4, 3)) := by decide +kernel
theorem dX10_isHops_0 : decode cX10_isHops 0 = .ok (.iload_n 0, 1) := eX10_isHops_0q.1
theorem dX10_isHops_1 : decode cX10_isHops 1 = .ok (.iconst 1, 1) := eX10_isHops_0q.2.1
theorem dX10_isHops_2 : decode cX10_isHops 2 = .ok (.if_icmp .lt 13, 3) := eX10_isHops_0q.2.2.1
theorem dX10_isHops_5 : decode cX10_isHops 5 = .ok (.iload_n 0, 1) := eX10_isHops_0q.2.2.2.1
theorem dX10_isHops_6 : decode cX10_isHops 6 = .ok (.bipush 10, 2) := eX10_isHops_0q.2.2.2.2.1
theorem dX10_isHops_8 : decode cX10_isHops 8 = .ok (.if_icmp .gt 7, 3) := eX10_isHops_0q.2.2.2.2.2.1
theorem dX10_isHops_11 : decode cX10_isHops 11 = .ok (.iconst 1, 1) := eX10_isHops_0q.2.2.2.2.2.2.1
theorem dX10_isHops_12 : decode cX10_isHops 12 = .ok (.goto 4, 3) := eX10_isHops_0q.2.2.2.2.2.2.2
theorem dX10_isHops_15 : decode cX10_isHops 15 = .ok (.iconst 0, 1) := by decide +kernel
theorem dX10_isHops_16 : decode cX10_isHops 16 = .ok (.ireturn, 1) := by decide +kernel
set_option maxRecDepth 20000 in
theorem ggX10_mustBePort_X10_isPort : GoodIn wsX10_mustBePort wsX10_isPort := goodIn_r _ [6] rfl (by decide +kernel)
set_option maxRecDepth 20000 in
theorem gX10_mustBePort_X10_isPort : GoodIn wsX10_mustBePort (va_wsS RX10 347 yX10_isPort wsX10_isPort) := goodIn_app (goodIn_r _ [3, 4, 5] rfl (by decide +kernel)) ggX10_mustBePort_X10_isPort
theorem eX10_mustBePort_0q : (decode cX10_mustBePort 0 = .ok (.iload_n 0, 1)) ∧ (decode cX10_mustBePort 1 = .ok (.invokestatic 347, 3)) ∧ (decode cX10_mustBePort 4 = .ok (.ifCond .ne 14, 3)) ∧ (decode cX10_mustBePort 7 = .ok (.new 195, 3)) ∧ (decode cX10_mustBePort 10 = .ok (.dup, 1)) ∧ (decode cX10_mustBePort 11 = .ok (.ldc_w 444, 3)) ∧ (decode cX10_mustBePort 14 = .ok (.invokespecial 199, 3)) ∧ (decode cX10_mustBePort 17 = .ok (.athrow, 1)) := by decide +kernel
theorem dX10_mustBePort_0 : decode cX10_mustBePort 0 = .ok (.iload_n 0, 1) := eX10_mustBePort_0q.1
theorem dX10_mustBePort_1 : decode cX10_mustBePort 1 = .ok (.invokestatic 347, 3) := eX10_mustBePort_0q.2.1
theorem dX10_mustBePort_4 : decode cX10_mustBePort 4 = .ok (.ifCond .ne 14, 3) := eX10_mustBePort_0q.2.2.1
theorem dX10_mustBePort_7 : decode cX10_mustBePort 7 = .ok (.new 195, 3) := eX10_mustBePort_0q.2.2.2.1
theorem dX10_mustBePort_10 : decode cX10_mustBePort 10 = .ok (.dup, 1) := eX10_mustBePort_0q.2.2.2.2.1
theorem dX10_mustBePort_11 : decode cX10_mustBePort 11 = .ok (.ldc_w 444, 3) := eX10_mustBePort_0q.2.2.2.2.2.1
theorem dX10_mustBePort_14 : decode cX10_mustBePort 14 = .ok (.invokespecial 199, 3) := eX10_mustBePort_0q.2.2.2.2.2.2.1
theorem dX10_mustBePort_17 : decode cX10_mustBePort 17 = .ok (.athrow, 1) := eX10_mustBePort_0q.2.2.2.2.2.2.2
theorem dX10_mustBePort_18 : decode cX10_mustBePort 18 = .ok (.return_, 1) := by decide +kernel
set_option maxRecDepth 20000 in
theorem ggX10_mustBeHops_X10_isHops : GoodIn wsX10_mustBeHops wsX10_isHops := goodIn_r _ [6] rfl (by decide +kernel)
set_option maxRecDepth 20000 in
theorem gX10_mustBeHops_X10_isHops : GoodIn wsX10_mustBeHops (va_wsS RX10 353 yX10_isHops wsX10_isHops) := goodIn_app (goodIn_r _ [3, 4, 5] rfl (by decide +kernel)) ggX10_mustBeHops_X10_isHops
theorem eX10_mustBeHops_0q : (decode cX10_mustBeHops 0 = .ok (.iload_n 0, 1)) ∧ (decode cX10_mustBeHops 1 = .ok (.invokestatic 353, 3)) ∧ (decode cX10_mustBeHops 4 = .ok (.ifCond .ne 14, 3)) ∧ (decode cX10_mustBeHops 7 = .ok (.new 195, 3)) ∧ (decode cX10_mustBeHops 10 = .ok (.dup, 1)) ∧ (decode cX10_mustBeHops 11 = .ok (.ldc_w 446, 3)) ∧ (decode cX10_mustBeHops 14 = .ok (.invokespecial 199, 3)) ∧ (decode cX10_mustBeHops 17 = .ok (.athrow, 1)) := by decide +kernel
theorem dX10_mustBeHops_0 : decode cX10_mustBeHops 0 = .ok (.iload_n 0, 1) := eX10_mustBeHops_0q.1
theorem dX10_mustBeHops_1 : decode cX10_mustBeHops 1 = .ok (.invokestatic 353, 3) := eX10_mustBeHops_0q.2.1
theorem dX10_mustBeHops_4 : decode cX10_mustBeHops 4 = .ok (.ifCond .ne 14, 3) := eX10_mustBeHops_0q.2.2.1
theorem dX10_mustBeHops_7 : decode cX10_mustBeHops 7 = .ok (.new 195, 3) := eX10_mustBeHops_0q.2.2.2.1
theorem dX10_mustBeHops_10 : decode cX10_mustBeHops 10 = .ok (.dup, 1) := eX10_mustBeHops_0q.2.2.2.2.1
theorem dX10_mustBeHops_11 : decode cX10_mustBeHops 11 = .ok (.ldc_w 446, 3) := eX10_mustBeHops_0q.2.2.2.2.2.1
theorem dX10_mustBeHops_14 : decode cX10_mustBeHops 14 = .ok (.invokespecial 199, 3) := eX10_mustBeHops_0q.2.2.2.2.2.2.1
theorem dX10_mustBeHops_17 : decode cX10_mustBeHops 17 = .ok (.athrow, 1) := eX10_mustBeHops_0q.2.2.2.2.2.2.2
theorem dX10_mustBeHops_18 : decode cX10_mustBeHops 18 = .ok (.return_, 1) := by decide +kernel
theorem eX10_mustBeWhat_0q : (decode cX10_mustBeWhat 0 = .ok (.iload_n 0, 1)) ∧ (decode cX10_mustBeWhat 1 = .ok (.ifCond .lt 8, 3)) ∧ (decode cX10_mustBeWhat 4 = .ok (.iload_n 0, 1)) ∧ (decode cX10_mustBeWhat 5 = .ok (.iload_n 1, 1)) ∧ (decode cX10_mustBeWhat 6 = .ok (.if_icmp .le 14, 3)) ∧ (decode cX10_mustBeWhat 9 = .ok (.new 195, 3)) ∧ (decode cX10_mustBeWhat 12 = .ok (.dup, 1)) ∧ (decode cX10_mustBeWhat 13 = .ok (.ldc_w 448, 3)) := by decide +kernel
theorem dX10_mustBeWhat_0 : decode cX10_mustBeWhat 0 = .ok (.iload_n 0, 1) := eX10_mustBeWhat_0q.1
theorem dX10_mustBeWhat_1 : decode cX10_mustBeWhat 1 = .ok (.ifCond .lt 8, 3) := eX10_mustBeWhat_0q.2.1
theorem dX10_mustBeWhat_4 : decode cX10_mustBeWhat 4 = .ok (.iload_n 0, 1) := eX10_mustBeWhat_0q.2.2.1
theorem dX10_mustBeWhat_5 : decode cX10_mustBeWhat 5 = .ok (.iload_n 1, 1) := eX10_mustBeWhat_0q.2.2.2.1
theorem dX10_mustBeWhat_6 : decode cX10_mustBeWhat 6 = .ok (.if_icmp .le 14, 3) := eX10_mustBeWhat_0q.2.2.2.2.1
theorem dX10_mustBeWhat_9 : decode cX10_mustBeWhat 9 = .ok (.new 195, 3) := eX10_mustBeWhat_0q.2.2.2.2.2.1
theorem dX10_mustBeWhat_12 : decode cX10_mustBeWhat 12 = .ok (.dup, 1) := eX10_mustBeWhat_0q.2.2.2.2.2.2.1
theorem dX10_mustBeWhat_13 : decode cX10_mustBeWhat 13 = .ok (.ldc_w 448, 3) := eX10_mustBeWhat_0q.2.2.2.2.2.2.2
theorem eX10_mustBeWhat_16q : (decode cX10_mustBeWhat 16 = .ok (.invokespecial 199, 3)) ∧ (decode cX10_mustBeWhat 19 = .ok (.athrow, 1)) ∧ (decode cX10_mustBeWhat 20 = .ok (.return_, 1)) := by decide +kernel
theorem dX10_mustBeWhat_16 : decode cX10_mustBeWhat 16 = .ok (.invokespecial 199, 3) := eX10_mustBeWhat_16q.1
theorem dX10_mustBeWhat_19 : decode cX10_mustBeWhat 19 = .ok (.athrow, 1) := eX10_mustBeWhat_16q.2.1
theorem dX10_mustBeWhat_20 : decode cX10_mustBeWhat 20 = .ok (.return_, 1) := eX10_mustBeWhat_16q.2.2
set_option maxRecDepth 20000 in
theorem ggX10_mustBeRouter_X2_hasRouter : GoodIn wsX10_mustBeRouter wsX2_hasRouter := by
  have h := goodIn_app (goodIn_r (big := wsX10_mustBeRouter) (.code yX2_hasRouter cX2_hasRouter 2 (some .boolean) :: ([.fieldLink RX2 33 "PathProber$Net" "routers" "I"]) : List Cond) [8, 9] rfl (by decide +kernel)) (goodIn_few (big := wsX10_mustBeRouter) (fun _ h9 => List.mem_cons_of_mem _ (List.mem_append_left _ (List.mem_append_right _ h9))) gb_2)
  exact h
set_option maxRecDepth 20000 in
theorem gX10_mustBeRouter_X2_hasRouter : GoodIn wsX10_mustBeRouter (wsV RX10 450 RX2 yX2_hasRouter wsX2_hasRouter) := goodIn_app (goodIn_r _ [4, 5, 6, 7] rfl (by decide +kernel)) ggX10_mustBeRouter_X2_hasRouter
theorem eX10_mustBeRouter_0q : (decode cX10_mustBeRouter 0 = .ok (.aload_n 0, 1)) ∧ (decode cX10_mustBeRouter 1 = .ok (.getfield 19, 3)) ∧ (decode cX10_mustBeRouter 4 = .ok (.iload_n 1, 1)) ∧ (decode cX10_mustBeRouter 5 = .ok (.invokevirtual 450, 3)) ∧ (decode cX10_mustBeRouter 8 = .ok (.ifCond .ne 14, 3)) ∧ (decode cX10_mustBeRouter 11 = .ok (.new 195, 3)) ∧ (decode cX10_mustBeRouter 14 = .ok (.dup, 1)) ∧ (decode cX10_mustBeRouter 15 = .ok (.ldc_w 453, 3)) := by decide +kernel
theorem dX10_mustBeRouter_0 : decode cX10_mustBeRouter 0 = .ok (.aload_n 0, 1) := eX10_mustBeRouter_0q.1
theorem dX10_mustBeRouter_1 : decode cX10_mustBeRouter 1 = .ok (.getfield 19, 3) := eX10_mustBeRouter_0q.2.1
theorem dX10_mustBeRouter_4 : decode cX10_mustBeRouter 4 = .ok (.iload_n 1, 1) := eX10_mustBeRouter_0q.2.2.1
theorem dX10_mustBeRouter_5 : decode cX10_mustBeRouter 5 = .ok (.invokevirtual 450, 3) := eX10_mustBeRouter_0q.2.2.2.1
theorem dX10_mustBeRouter_8 : decode cX10_mustBeRouter 8 = .ok (.ifCond .ne 14, 3) := eX10_mustBeRouter_0q.2.2.2.2.1
theorem dX10_mustBeRouter_11 : decode cX10_mustBeRouter 11 = .ok (.new 195, 3) := eX10_mustBeRouter_0q.2.2.2.2.2.1
theorem dX10_mustBeRouter_14 : decode cX10_mustBeRouter 14 = .ok (.dup, 1) := eX10_mustBeRouter_0q.2.2.2.2.2.2.1
theorem dX10_mustBeRouter_15 : decode cX10_mustBeRouter 15 = .ok (.ldc_w 453, 3) := eX10_mustBeRouter_0q.2.2.2.2.2.2.2
theorem eX10_mustBeRouter_18q : (decode cX10_mustBeRouter 18 = .ok (.invokespecial 199, 3)) ∧ (decode cX10_mustBeRouter 21 = .ok (.athrow, 1)) ∧ (decode cX10_mustBeRouter 22 = .ok (.return_, 1)) := by decide +kernel
theorem dX10_mustBeRouter_18 : decode cX10_mustBeRouter 18 = .ok (.invokespecial 199, 3) := eX10_mustBeRouter_18q.1
theorem dX10_mustBeRouter_21 : decode cX10_mustBeRouter 21 = .ok (.athrow, 1) := eX10_mustBeRouter_18q.2.1
theorem dX10_mustBeRouter_22 : decode cX10_mustBeRouter 22 = .ok (.return_, 1) := eX10_mustBeRouter_18q.2.2
set_option maxRecDepth 20000 in
theorem ggX10_mustBeLink_X2_hasLink : GoodIn wsX10_mustBeLink wsX2_hasLink := by
  have h := goodIn_app (goodIn_r (big := wsX10_mustBeLink) (.code yX2_hasLink cX2_hasLink 2 (some .boolean) :: ([.fieldLink RX2 37 "PathProber$Net" "links" "I"]) : List Cond) [8, 9] rfl (by decide +kernel)) (goodIn_few (big := wsX10_mustBeLink) (fun _ h9 => List.mem_cons_of_mem _ (List.mem_append_left _ (List.mem_append_right _ h9))) gb_2)
  exact h
set_option maxRecDepth 20000 in
theorem gX10_mustBeLink_X2_hasLink : GoodIn wsX10_mustBeLink (wsV RX10 455 RX2 yX2_hasLink wsX2_hasLink) := goodIn_app (goodIn_r _ [4, 5, 6, 7] rfl (by decide +kernel)) ggX10_mustBeLink_X2_hasLink
theorem eX10_mustBeLink_0q : (decode cX10_mustBeLink 0 = .ok (.aload_n 0, 1)) ∧ (decode cX10_mustBeLink 1 = .ok (.getfield 19, 3)) ∧ (decode cX10_mustBeLink 4 = .ok (.iload_n 1, 1)) ∧ (decode cX10_mustBeLink 5 = .ok (.invokevirtual 455, 3)) ∧ (decode cX10_mustBeLink 8 = .ok (.ifCond .ne 14, 3)) ∧ (decode cX10_mustBeLink 11 = .ok (.new 195, 3)) ∧ (decode cX10_mustBeLink 14 = .ok (.dup, 1)) ∧ (decode cX10_mustBeLink 15 = .ok (.ldc_w 458, 3)) := by decide +kernel
theorem dX10_mustBeLink_0 : decode cX10_mustBeLink 0 = .ok (.aload_n 0, 1) := eX10_mustBeLink_0q.1
theorem dX10_mustBeLink_1 : decode cX10_mustBeLink 1 = .ok (.getfield 19, 3) := eX10_mustBeLink_0q.2.1
theorem dX10_mustBeLink_4 : decode cX10_mustBeLink 4 = .ok (.iload_n 1, 1) := eX10_mustBeLink_0q.2.2.1
theorem dX10_mustBeLink_5 : decode cX10_mustBeLink 5 = .ok (.invokevirtual 455, 3) := eX10_mustBeLink_0q.2.2.2.1
theorem dX10_mustBeLink_8 : decode cX10_mustBeLink 8 = .ok (.ifCond .ne 14, 3) := eX10_mustBeLink_0q.2.2.2.2.1
theorem dX10_mustBeLink_11 : decode cX10_mustBeLink 11 = .ok (.new 195, 3) := eX10_mustBeLink_0q.2.2.2.2.2.1
theorem dX10_mustBeLink_14 : decode cX10_mustBeLink 14 = .ok (.dup, 1) := eX10_mustBeLink_0q.2.2.2.2.2.2.1
theorem dX10_mustBeLink_15 : decode cX10_mustBeLink 15 = .ok (.ldc_w 458, 3) := eX10_mustBeLink_0q.2.2.2.2.2.2.2
theorem eX10_mustBeLink_18q : (decode cX10_mustBeLink 18 = .ok (.invokespecial 199, 3)) ∧ (decode cX10_mustBeLink 21 = .ok (.athrow, 1)) ∧ (decode cX10_mustBeLink 22 = .ok (.return_, 1)) := by decide +kernel
theorem dX10_mustBeLink_18 : decode cX10_mustBeLink 18 = .ok (.invokespecial 199, 3) := eX10_mustBeLink_18q.1
theorem dX10_mustBeLink_21 : decode cX10_mustBeLink 21 = .ok (.athrow, 1) := eX10_mustBeLink_18q.2.1
theorem dX10_mustBeLink_22 : decode cX10_mustBeLink 22 = .ok (.return_, 1) := eX10_mustBeLink_18q.2.2
set_option maxRecDepth 20000 in
theorem ggX10_mustBeGoal_X2_hasGoal : GoodIn wsX10_mustBeGoal wsX2_hasGoal := by
  have h := goodIn_app (goodIn_r (big := wsX10_mustBeGoal) (.code yX2_hasGoal cX2_hasGoal 2 (some .boolean) :: ([.fieldLink RX2 40 "PathProber$Net" "goals" "I"]) : List Cond) [8, 9] rfl (by decide +kernel)) (goodIn_few (big := wsX10_mustBeGoal) (fun _ h9 => List.mem_cons_of_mem _ (List.mem_append_left _ (List.mem_append_right _ h9))) gb_2)
  exact h
set_option maxRecDepth 20000 in
theorem gX10_mustBeGoal_X2_hasGoal : GoodIn wsX10_mustBeGoal (wsV RX10 350 RX2 yX2_hasGoal wsX2_hasGoal) := goodIn_app (goodIn_r _ [4, 5, 6, 7] rfl (by decide +kernel)) ggX10_mustBeGoal_X2_hasGoal
theorem eX10_mustBeGoal_0q : (decode cX10_mustBeGoal 0 = .ok (.aload_n 0, 1)) ∧ (decode cX10_mustBeGoal 1 = .ok (.getfield 19, 3)) ∧ (decode cX10_mustBeGoal 4 = .ok (.iload_n 1, 1)) ∧ (decode cX10_mustBeGoal 5 = .ok (.invokevirtual 350, 3)) ∧ (decode cX10_mustBeGoal 8 = .ok (.ifCond .ne 14, 3)) ∧ (decode cX10_mustBeGoal 11 = .ok (.new 195, 3)) ∧ (decode cX10_mustBeGoal 14 = .ok (.dup, 1)) ∧ (decode cX10_mustBeGoal 15 = .ok (.ldc_w 460, 3)) := by decide +kernel
theorem dX10_mustBeGoal_0 : decode cX10_mustBeGoal 0 = .ok (.aload_n 0, 1) := eX10_mustBeGoal_0q.1
theorem dX10_mustBeGoal_1 : decode cX10_mustBeGoal 1 = .ok (.getfield 19, 3) := eX10_mustBeGoal_0q.2.1
theorem dX10_mustBeGoal_4 : decode cX10_mustBeGoal 4 = .ok (.iload_n 1, 1) := eX10_mustBeGoal_0q.2.2.1
theorem dX10_mustBeGoal_5 : decode cX10_mustBeGoal 5 = .ok (.invokevirtual 350, 3) := eX10_mustBeGoal_0q.2.2.2.1
theorem dX10_mustBeGoal_8 : decode cX10_mustBeGoal 8 = .ok (.ifCond .ne 14, 3) := eX10_mustBeGoal_0q.2.2.2.2.1
theorem dX10_mustBeGoal_11 : decode cX10_mustBeGoal 11 = .ok (.new 195, 3) := eX10_mustBeGoal_0q.2.2.2.2.2.1
theorem dX10_mustBeGoal_14 : decode cX10_mustBeGoal 14 = .ok (.dup, 1) := eX10_mustBeGoal_0q.2.2.2.2.2.2.1
theorem dX10_mustBeGoal_15 : decode cX10_mustBeGoal 15 = .ok (.ldc_w 460, 3) := eX10_mustBeGoal_0q.2.2.2.2.2.2.2
theorem eX10_mustBeGoal_18q : (decode cX10_mustBeGoal 18 = .ok (.invokespecial 199, 3)) ∧ (decode cX10_mustBeGoal 21 = .ok (.athrow, 1)) ∧ (decode cX10_mustBeGoal 22 = .ok (.return_, 1)) := by decide +kernel
theorem dX10_mustBeGoal_18 : decode cX10_mustBeGoal 18 = .ok (.invokespecial 199, 3) := eX10_mustBeGoal_18q.1
theorem dX10_mustBeGoal_21 : decode cX10_mustBeGoal 21 = .ok (.athrow, 1) := eX10_mustBeGoal_18q.2.1
theorem dX10_mustBeGoal_22 : decode cX10_mustBeGoal 22 = .ok (.return_, 1) := eX10_mustBeGoal_18q.2.2
set_option maxRecDepth 20000 in
theorem ggX10_mustBeAddress_X2_hasAddress : GoodIn wsX10_mustBeAddress wsX2_hasAddress := by
  have h := goodIn_app (goodIn_r (big := wsX10_mustBeAddress) (.code yX2_hasAddress cX2_hasAddress 2 (some .boolean) :: ([.fieldLink RX2 33 "PathProber$Net" "routers" "I", .fieldLink RX2 37 "PathProber$Net" "links" "I"]) : List Cond) [8, 9, 10] rfl (by decide +kernel)) (goodIn_few (big := wsX10_mustBeAddress) (fun _ h9 => List.mem_cons_of_mem _ (List.mem_append_left _ (List.mem_append_right _ h9))) gb_2)
  exact h
set_option maxRecDepth 20000 in
theorem gX10_mustBeAddress_X2_hasAddress : GoodIn wsX10_mustBeAddress (wsV RX10 388 RX2 yX2_hasAddress wsX2_hasAddress) := goodIn_app (goodIn_r _ [4, 5, 6, 7] rfl (by decide +kernel)) ggX10_mustBeAddress_X2_hasAddress
theorem eX10_mustBeAddress_0q : (decode cX10_mustBeAddress 0 = .ok (.aload_n 0, 1)) ∧ (decode cX10_mustBeAddress 1 = .ok (.getfield 19, 3)) ∧ (decode cX10_mustBeAddress 4 = .ok (.iload_n 1, 1)) ∧ (decode cX10_mustBeAddress 5 = .ok (.invokevirtual 388, 3)) ∧ (decode cX10_mustBeAddress 8 = .ok (.ifCond .ne 14, 3)) ∧ (decode cX10_mustBeAddress 11 = .ok (.new 195, 3)) ∧ (decode cX10_mustBeAddress 14 = .ok (.dup, 1)) ∧ (decode cX10_mustBeAddress 15 = .ok (.ldc_w 462, 3)) := by decide +kernel
theorem dX10_mustBeAddress_0 : decode cX10_mustBeAddress 0 = .ok (.aload_n 0, 1) := eX10_mustBeAddress_0q.1
theorem dX10_mustBeAddress_1 : decode cX10_mustBeAddress 1 = .ok (.getfield 19, 3) := eX10_mustBeAddress_0q.2.1
theorem dX10_mustBeAddress_4 : decode cX10_mustBeAddress 4 = .ok (.iload_n 1, 1) := eX10_mustBeAddress_0q.2.2.1
theorem dX10_mustBeAddress_5 : decode cX10_mustBeAddress 5 = .ok (.invokevirtual 388, 3) := eX10_mustBeAddress_0q.2.2.2.1
theorem dX10_mustBeAddress_8 : decode cX10_mustBeAddress 8 = .ok (.ifCond .ne 14, 3) := eX10_mustBeAddress_0q.2.2.2.2.1
theorem dX10_mustBeAddress_11 : decode cX10_mustBeAddress 11 = .ok (.new 195, 3) := eX10_mustBeAddress_0q.2.2.2.2.2.1
theorem dX10_mustBeAddress_14 : decode cX10_mustBeAddress 14 = .ok (.dup, 1) := eX10_mustBeAddress_0q.2.2.2.2.2.2.1
theorem dX10_mustBeAddress_15 : decode cX10_mustBeAddress 15 = .ok (.ldc_w 462, 3) := eX10_mustBeAddress_0q.2.2.2.2.2.2.2
theorem eX10_mustBeAddress_18q : (decode cX10_mustBeAddress 18 = .ok (.invokespecial 199, 3)) ∧ (decode cX10_mustBeAddress 21 = .ok (.athrow, 1)) ∧ (decode cX10_mustBeAddress 22 = .ok (.return_, 1)) := by decide +kernel
theorem dX10_mustBeAddress_18 : decode cX10_mustBeAddress 18 = .ok (.invokespecial 199, 3) := eX10_mustBeAddress_18q.1
theorem dX10_mustBeAddress_21 : decode cX10_mustBeAddress 21 = .ok (.athrow, 1) := eX10_mustBeAddress_18q.2.1
theorem dX10_mustBeAddress_22 : decode cX10_mustBeAddress 22 = .ok (.return_, 1) := eX10_mustBeAddress_18q.2.2
set_option maxRecDepth 20000 in
theorem ggX10_wasSeen_X2_hasAddress : GoodIn wsX10_wasSeen wsX2_hasAddress := by
  have h := goodIn_app (goodIn_r (big := wsX10_wasSeen) (.code yX2_hasAddress cX2_hasAddress 2 (some .boolean) :: ([.fieldLink RX2 33 "PathProber$Net" "routers" "I", .fieldLink RX2 37 "PathProber$Net" "links" "I"]) : List Cond) [7, 8, 9] rfl (by decide +kernel)) (goodIn_few (big := wsX10_wasSeen) (fun _ h9 => List.mem_cons_of_mem _ (List.mem_append_left _ (List.mem_append_left _ (List.mem_append_right _ h9)))) gb_2)
  exact h
set_option maxRecDepth 20000 in
theorem gX10_wasSeen_X2_hasAddress : GoodIn wsX10_wasSeen (wsV RX10 388 RX2 yX2_hasAddress wsX2_hasAddress) := goodIn_app (goodIn_r _ [3, 4, 5, 6] rfl (by decide +kernel)) ggX10_wasSeen_X2_hasAddress
set_option maxRecDepth 20000 in
theorem ggX10_wasSeen_X7_addressesEverywhere : GoodIn wsX10_wasSeen wsX7_addressesEverywhere := by
  have h := goodIn_app (goodIn_app (goodIn_app (goodIn_r (big := wsX10_wasSeen) (.code yX7_addressesEverywhere cX7_addressesEverywhere 4 (some .int) :: ([.fieldLink RX7 21 "PathProber$Sight" "net" "LPathProber$Net;", .fieldLink RX7 41 "PathProber$Net" "goals" "I", .fieldLink RX7 25 "PathProber$Sight" "now" "LPathProber$Condition;", .methodLink RX7 29 yX0_seenAt, .instanceMethod yX0_seenAt, .selects RX0 yX0_seenAt yX0_seenAt, .initialized RX0, .code yX0_seenAt cX0_seenAt 6 (some .int), .fieldLink RX0 9 "PathProber$Condition" "seen" "[J", .constantLong RX0 53 (31)]) : List Cond) [14, 15, 16, 17, 18, 19, 20, 21, 22, 23, 24] rfl (by decide +kernel)) (goodIn_few (big := wsX10_wasSeen) (fun _ h9 => List.mem_cons_of_mem _ (List.mem_append_left _ (List.mem_append_right _ h9))) gb_7)) (goodIn_few (big := wsX10_wasSeen) (fun _ h9 => List.mem_cons_of_mem _ (List.mem_append_left _ (List.mem_append_left _ (List.mem_append_right _ h9)))) gb_2)) (goodIn_few (big := wsX10_wasSeen) (fun _ h9 => List.mem_cons_of_mem _ (List.mem_append_right _ h9)) gb_1)
  exact h
set_option maxRecDepth 20000 in
theorem gX10_wasSeen_X7_addressesEverywhere : GoodIn wsX10_wasSeen (wsV RX10 173 RX7 yX7_addressesEverywhere wsX7_addressesEverywhere) := goodIn_app (goodIn_r _ [10, 11, 12, 13] rfl (by decide +kernel)) ggX10_wasSeen_X7_addressesEverywhere
theorem eX10_wasSeen_0q : (decode cX10_wasSeen 0 = .ok (.aload_n 0, 1)) ∧ (decode cX10_wasSeen 1 = .ok (.getfield 19, 3)) ∧ (decode cX10_wasSeen 4 = .ok (.iload_n 1, 1)) ∧ (decode cX10_wasSeen 5 = .ok (.invokevirtual 388, 3)) ∧ (decode cX10_wasSeen 8 = .ok (.ifCond .eq 22, 3)) ∧ (decode cX10_wasSeen 11 = .ok (.aload_n 0, 1)) ∧ (decode cX10_wasSeen 12 = .ok (.getfield 57, 3)) ∧ (decode cX10_wasSeen 15 = .ok (.invokevirtual 173, 3)) := by decide +kernel
theorem dX10_wasSeen_0 : decode cX10_wasSeen 0 = .ok (.aload_n 0, 1) := eX10_wasSeen_0q.1
theorem dX10_wasSeen_1 : decode cX10_wasSeen 1 = .ok (.getfield 19, 3) := eX10_wasSeen_0q.2.1
theorem dX10_wasSeen_4 : decode cX10_wasSeen 4 = .ok (.iload_n 1, 1) := eX10_wasSeen_0q.2.2.1
theorem dX10_wasSeen_5 : decode cX10_wasSeen 5 = .ok (.invokevirtual 388, 3) := eX10_wasSeen_0q.2.2.2.1
theorem dX10_wasSeen_8 : decode cX10_wasSeen 8 = .ok (.ifCond .eq 22, 3) := eX10_wasSeen_0q.2.2.2.2.1
theorem dX10_wasSeen_11 : decode cX10_wasSeen 11 = .ok (.aload_n 0, 1) := eX10_wasSeen_0q.2.2.2.2.2.1
theorem dX10_wasSeen_12 : decode cX10_wasSeen 12 = .ok (.getfield 57, 3) := eX10_wasSeen_0q.2.2.2.2.2.2.1
theorem dX10_wasSeen_15 : decode cX10_wasSeen 15 = .ok (.invokevirtual 173, 3) := eX10_wasSeen_0q.2.2.2.2.2.2.2
theorem eX10_wasSeen_18q : (decode cX10_wasSeen 18 = .ok (.iload_n 1, 1)) ∧ (decode cX10_wasSeen 19 = .ok (.ishr, 1)) ∧ (decode cX10_wasSeen 20 = .ok (.iconst 1, 1)) ∧ (decode cX10_wasSeen 21 = .ok (.iand, 1)) ∧ (decode cX10_wasSeen 22 = .ok (.iconst 1, 1)) ∧ (decode cX10_wasSeen 23 = .ok (.if_icmp .ne 7, 3)) ∧ (decode cX10_wasSeen 26 = .ok (.iconst 1, 1)) ∧ (decode cX10_wasSeen 27 = .ok (.goto 4, 3)) := by decide +kernel
theorem dX10_wasSeen_18 : decode cX10_wasSeen 18 = .ok (.iload_n 1, 1) := eX10_wasSeen_18q.1
theorem dX10_wasSeen_19 : decode cX10_wasSeen 19 = .ok (.ishr, 1) := eX10_wasSeen_18q.2.1
theorem dX10_wasSeen_20 : decode cX10_wasSeen 20 = .ok (.iconst 1, 1) := eX10_wasSeen_18q.2.2.1
theorem dX10_wasSeen_21 : decode cX10_wasSeen 21 = .ok (.iand, 1) := eX10_wasSeen_18q.2.2.2.1
theorem dX10_wasSeen_22 : decode cX10_wasSeen 22 = .ok (.iconst 1, 1) := eX10_wasSeen_18q.2.2.2.2.1
theorem dX10_wasSeen_23 : decode cX10_wasSeen 23 = .ok (.if_icmp .ne 7, 3) := eX10_wasSeen_18q.2.2.2.2.2.1
theorem dX10_wasSeen_26 : decode cX10_wasSeen 26 = .ok (.iconst 1, 1) := eX10_wasSeen_18q.2.2.2.2.2.2.1
theorem dX10_wasSeen_27 : decode cX10_wasSeen 27 = .ok (.goto 4, 3) := eX10_wasSeen_18q.2.2.2.2.2.2.2
theorem dX10_wasSeen_30 : decode cX10_wasSeen 30 = .ok (.iconst 0, 1) := by decide +kernel
theorem dX10_wasSeen_31 : decode cX10_wasSeen 31 = .ok (.ireturn, 1) := by decide +kernel
theorem eX10_refuseAct_0q : (decode cX10_refuseAct 0 = .ok (.aload_n 0, 1)) ∧ (decode cX10_refuseAct 1 = .ok (.getfield 93, 3)) ∧ (decode cX10_refuseAct 4 = .ok (.iconst 1, 1)) ∧ (decode cX10_refuseAct 5 = .ok (.dup2, 1)) ∧ (decode cX10_refuseAct 6 = .ok (.iaload, 1)) ∧ (decode cX10_refuseAct 7 = .ok (.iconst 1, 1)) ∧ (decode cX10_refuseAct 8 = .ok (.iadd, 1)) ∧ (decode cX10_refuseAct 9 = .ok (.iastore, 1)) := by decide +kernel
theorem dX10_refuseAct_0 : decode cX10_refuseAct 0 = .ok (.aload_n 0, 1) := eX10_refuseAct_0q.1
theorem dX10_refuseAct_1 : decode cX10_refuseAct 1 = .ok (.getfield 93, 3) := eX10_refuseAct_0q.2.1
theorem dX10_refuseAct_4 : decode cX10_refuseAct 4 = .ok (.iconst 1, 1) := eX10_refuseAct_0q.2.2.1
theorem dX10_refuseAct_5 : decode cX10_refuseAct 5 = .ok (.dup2, 1) := eX10_refuseAct_0q.2.2.2.1
theorem dX10_refuseAct_6 : decode cX10_refuseAct 6 = .ok (.iaload, 1) := eX10_refuseAct_0q.2.2.2.2.1
theorem dX10_refuseAct_7 : decode cX10_refuseAct 7 = .ok (.iconst 1, 1) := eX10_refuseAct_0q.2.2.2.2.2.1
theorem dX10_refuseAct_8 : decode cX10_refuseAct 8 = .ok (.iadd, 1) := eX10_refuseAct_0q.2.2.2.2.2.2.1
theorem dX10_refuseAct_9 : decode cX10_refuseAct 9 = .ok (.iastore, 1) := eX10_refuseAct_0q.2.2.2.2.2.2.2
theorem dX10_refuseAct_10 : decode cX10_refuseAct 10 = .ok (.iconst (-1), 1) := by decide +kernel
theorem dX10_refuseAct_11 : decode cX10_refuseAct 11 = .ok (.ireturn, 1) := by decide +kernel
set_option maxRecDepth 20000 in
theorem ggX10_goesBy_X9_takeAll : GoodIn wsX10_goesBy wsX9_takeAll := by
  have h := goodIn_app (goodIn_app (goodIn_app (goodIn_r (big := wsX10_goesBy) (.code yX9_takeAll cX9_takeAll 3 none :: (wsX9_takeAll_r1 ++ wsX9_takeAll_r2) : List Cond) [7, 8, 9, 10, 6, 11, 12, 13, 14, 15, 16, 17, 18, 19, 20, 21, 22, 23, 24, 25, 26, 27, 28, 29, 30, 31, 32, 33, 34, 35, 36, 37, 38, 39, 40, 41, 42, 43, 44, 45] rfl (by decide +kernel)) (goodIn_few (big := wsX10_goesBy) (fun _ h9 => List.mem_cons_of_mem _ (List.mem_append_left _ (List.mem_append_left _ (List.mem_append_right _ h9)))) gb_5)) (goodIn_few (big := wsX10_goesBy) (fun _ h9 => List.mem_cons_of_mem _ (List.mem_append_left _ (List.mem_append_right _ h9))) gb_2)) (goodIn_few (big := wsX10_goesBy) (fun _ h9 => List.mem_cons_of_mem _ (List.mem_append_right _ h9)) gb_1)
  exact h
set_option maxRecDepth 20000 in
theorem gX10_goesBy_X9_takeAll : GoodIn wsX10_goesBy (wsV RX10 343 RX9 yX9_takeAll wsX9_takeAll) := goodIn_app (goodIn_r _ [3, 4, 5, 6] rfl (by decide +kernel)) ggX10_goesBy_X9_takeAll
theorem eX10_goesBy_0q : (decode cX10_goesBy 0 = .ok (.aload_n 0, 1)) ∧ (decode cX10_goesBy 1 = .ok (.getfield 64, 3)) ∧ (decode cX10_goesBy 4 = .ok (.iload_n 1, 1)) ∧ (decode cX10_goesBy 5 = .ok (.iload_n 2, 1)) ∧ (decode cX10_goesBy 6 = .ok (.invokevirtual 343, 3)) ∧ (decode cX10_goesBy 9 = .ok (.aload_n 0, 1)) ∧ (decode cX10_goesBy 10 = .ok (.getfield 64, 3)) ∧ (decode cX10_goesBy 13 = .ok (.getfield 346, 3)) := by decide +kernel
theorem dX10_goesBy_0 : decode cX10_goesBy 0 = .ok (.aload_n 0, 1) := eX10_goesBy_0q.1
theorem dX10_goesBy_1 : decode cX10_goesBy 1 = .ok (.getfield 64, 3) := eX10_goesBy_0q.2.1
theorem dX10_goesBy_4 : decode cX10_goesBy 4 = .ok (.iload_n 1, 1) := eX10_goesBy_0q.2.2.1
theorem dX10_goesBy_5 : decode cX10_goesBy 5 = .ok (.iload_n 2, 1) := eX10_goesBy_0q.2.2.2.1
theorem dX10_goesBy_6 : decode cX10_goesBy 6 = .ok (.invokevirtual 343, 3) := eX10_goesBy_0q.2.2.2.2.1
theorem dX10_goesBy_9 : decode cX10_goesBy 9 = .ok (.aload_n 0, 1) := eX10_goesBy_0q.2.2.2.2.2.1
theorem dX10_goesBy_10 : decode cX10_goesBy 10 = .ok (.getfield 64, 3) := eX10_goesBy_0q.2.2.2.2.2.2.1
theorem dX10_goesBy_13 : decode cX10_goesBy 13 = .ok (.getfield 346, 3) := eX10_goesBy_0q.2.2.2.2.2.2.2
theorem eX10_goesBy_16q : (decode cX10_goesBy 16 = .ok (.iload_n 3, 1)) ∧ (decode cX10_goesBy 17 = .ok (.ishr, 1)) ∧ (decode cX10_goesBy 18 = .ok (.iconst 1, 1)) ∧ (decode cX10_goesBy 19 = .ok (.iand, 1)) ∧ (decode cX10_goesBy 20 = .ok (.iconst 1, 1)) ∧ (decode cX10_goesBy 21 = .ok (.if_icmp .ne 7, 3)) ∧ (decode cX10_goesBy 24 = .ok (.iconst 1, 1)) ∧ (decode cX10_goesBy 25 = .ok (.goto 4, 3)) := by decide +kernel
theorem dX10_goesBy_16 : decode cX10_goesBy 16 = .ok (.iload_n 3, 1) := eX10_goesBy_16q.1
theorem dX10_goesBy_17 : decode cX10_goesBy 17 = .ok (.ishr, 1) := eX10_goesBy_16q.2.1
theorem dX10_goesBy_18 : decode cX10_goesBy 18 = .ok (.iconst 1, 1) := eX10_goesBy_16q.2.2.1
theorem dX10_goesBy_19 : decode cX10_goesBy 19 = .ok (.iand, 1) := eX10_goesBy_16q.2.2.2.1
theorem dX10_goesBy_20 : decode cX10_goesBy 20 = .ok (.iconst 1, 1) := eX10_goesBy_16q.2.2.2.2.1
theorem dX10_goesBy_21 : decode cX10_goesBy 21 = .ok (.if_icmp .ne 7, 3) := eX10_goesBy_16q.2.2.2.2.2.1
theorem dX10_goesBy_24 : decode cX10_goesBy 24 = .ok (.iconst 1, 1) := eX10_goesBy_16q.2.2.2.2.2.2.1
theorem dX10_goesBy_25 : decode cX10_goesBy 25 = .ok (.goto 4, 3) := eX10_goesBy_16q.2.2.2.2.2.2.2
theorem dX10_goesBy_28 : decode cX10_goesBy 28 = .ok (.iconst 0, 1) := by decide +kernel
theorem dX10_goesBy_29 : decode cX10_goesBy 29 = .ok (.ireturn, 1) := by decide +kernel
