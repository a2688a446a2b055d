set_option maxRecDepth 20000 in
theorem ggX5_readText_X2_empty : GoodIn wsX5_readText wsX2_empty := by
  have h := goodIn_app (goodIn_r (big := wsX5_readText) (.code yX2_empty cX2_empty 1 none :: ([.fieldLink RX2 33 "PathProber$Net" "routers" "I", .fieldLink RX2 37 "PathProber$Net" "links" "I", .fieldLink RX2 40 "PathProber$Net" "goals" "I", .fieldLink RX2 43 "PathProber$Net" "loss" "I"]) : List Cond) [17, 18, 19, 20, 21] rfl (by decide +kernel)) (goodIn_few (big := wsX5_readText) (fun _ h9 => List.mem_cons_of_mem _ (List.mem_append_right _ h9)) gb_2)
  exact h
set_option maxRecDepth 20000 in
theorem gX5_readText_X2_empty : GoodIn wsX5_readText (wsV RX5 53 RX2 yX2_empty wsX2_empty) := goodIn_app (goodIn_r _ [13, 14, 15, 16] rfl (by decide +kernel)) ggX5_readText_X2_empty
set_option maxRecDepth 20000 in
theorem ggX5_readText_X5_step : GoodIn wsX5_readText wsX5_step := by
  have h := goodIn_app (goodIn_r (big := wsX5_readText) (.code yX5_step cX5_step 1 none :: ([.fieldLink RX5 15 "PathProber$Reader" "code" "I", .fieldLink RX5 27 "PathProber$Reader" "end" "I", .fieldLink RX5 24 "PathProber$Reader" "start" "I", .fieldLink RX5 18 "PathProber$Reader" "length" "I", .fieldLink RX5 44 "PathProber$Reader" "text" "[B", .fieldLink RX5 21 "PathProber$Reader" "token" "I", .methodLink RX5 167 yX5_isLetter, .static yX5_isLetter, .initialized RX5, .code yX5_isLetter cX5_isLetter 1 (some .boolean), .methodLink RX5 171 yX5_isDigit, .static yX5_isDigit, .code yX5_isDigit cX5_isDigit 1 (some .boolean)]) : List Cond) [26, 7, 9, 27, 6, 1, 12, 28, 29, 25, 30, 31, 32, 33] rfl (by decide +kernel)) (goodIn_few (big := wsX5_readText) (fun _ h9 => List.mem_cons_of_mem _ (List.mem_append_left _ (List.mem_append_right _ h9))) gb_10)
  exact h
set_option maxRecDepth 20000 in
theorem gX5_readText_X5_step : GoodIn wsX5_readText (wsV RX5 58 RX5 yX5_step wsX5_step) := goodIn_app (goodIn_r _ [22, 23, 24, 25] rfl (by decide +kernel)) ggX5_readText_X5_step
set_option maxRecDepth 20000 in
theorem ggX5_readText_X5_readClause : GoodIn wsX5_readText wsX5_readClause := by
  have h := goodIn_app (goodIn_app (goodIn_r (big := wsX5_readText) (.code yX5_readClause cX5_readClause 1 none :: (wsX5_readClause_r1 ++ (wsX5_readClause_r2 ++ (wsX5_readClause_r3 ++ (wsX5_readClause_r4 ++ (wsX5_readClause_r5 ++ (wsX5_readClause_r6 ++ wsX5_readClause_r7)))))) : List Cond) [37, 7, 12, 38, 39, 40, 25, 41, 9, 27, 1, 42, 43, 44, 45, 46, 47, 48, 49, 50, 51, 52, 53, 54, 55, 56, 57, 58, 59, 60, 61, 62, 63, 64, 65, 66, 67, 68, 69, 70, 71, 72, 73, 74, 75, 76, 77, 78, 79, 80, 81, 82, 83, 84, 85, 86, 87, 88, 89, 90, 91, 92, 93, 94, 11, 95, 96, 97, 98, 99, 100, 101, 102, 103, 8, 22, 23, 24, 26, 6, 28, 29, 30, 31, 32, 33, 104, 105, 106, 107, 108, 109, 110, 111, 112, 113, 114, 115, 116, 117, 118, 119, 120, 121, 122, 123, 124, 125, 126, 127, 128, 129, 130, 131, 132, 133, 16, 134, 19, 135, 136, 137, 138, 139, 140, 141, 142, 143, 144, 145, 146, 147, 148, 149, 150, 151, 152, 153, 154, 155, 156, 157, 20, 158, 159, 160, 161, 162, 10, 163] rfl (by decide +kernel)) (goodIn_few (big := wsX5_readText) (fun _ h9 => List.mem_cons_of_mem _ (List.mem_append_left _ (List.mem_append_right _ h9))) gb_10)) (goodIn_few (big := wsX5_readText) (fun _ h9 => List.mem_cons_of_mem _ (List.mem_append_right _ h9)) gb_2)
  exact h
set_option maxRecDepth 20000 in
theorem gX5_readText_X5_readClause : GoodIn wsX5_readText (wsV RX5 61 RX5 yX5_readClause wsX5_readClause) := goodIn_app (goodIn_r _ [34, 35, 36, 25] rfl (by decide +kernel)) ggX5_readText_X5_readClause
theorem eX5_readText_0q : (decode cX5_readText 0 = .ok (.aload_n 0, 1)) ∧ (decode cX5_readText 1 = .ok (.iload_n 1, 1)) ∧ (decode cX5_readText 2 = .ok (.aload_n 0, 1)) ∧ (decode cX5_readText 3 = .ok (.getfield 44, 3)) ∧ (decode cX5_readText 6 = .ok (.arraylength, 1)) ∧ (decode cX5_readText 7 = .ok (.invokestatic 47, 3)) ∧ (decode cX5_readText 10 = .ok (.putfield 18, 3)) ∧ (decode cX5_readText 13 = .ok (.aload_n 0, 1)) := by decide +kernel
theorem dX5_readText_0 : decode cX5_readText 0 = .ok (.aload_n 0, 1) := eX5_readText_0q.1
theorem dX5_readText_1 : decode cX5_readText 1 = .ok (.iload_n 1, 1) := eX5_readText_0q.2.1
theorem dX5_readText_2 : decode cX5_readText 2 = .ok (.aload_n 0, 1) := eX5_readText_0q.2.2.1
theorem dX5_readText_3 : decode cX5_readText 3 = .ok (.getfield 44, 3) := eX5_readText_0q.2.2.2.1
theorem dX5_readText_6 : decode cX5_readText 6 = .ok (.arraylength, 1) := eX5_readText_0q.2.2.2.2.1
theorem dX5_readText_7 : decode cX5_readText 7 = .ok (.invokestatic 47, 3) := eX5_readText_0q.2.2.2.2.2.1
theorem dX5_readText_10 : decode cX5_readText 10 = .ok (.putfield 18, 3) := eX5_readText_0q.2.2.2.2.2.2.1
theorem dX5_readText_13 : decode cX5_readText 13 = .ok (.aload_n 0, 1) := eX5_readText_0q.2.2.2.2.2.2.2
theorem eX5_readText_14q : (decode cX5_readText 14 = .ok (.iconst 0, 1)) ∧ (decode cX5_readText 15 = .ok (.putfield 15, 3)) ∧ (decode cX5_readText 18 = .ok (.aload_n 0, 1)) ∧ (decode cX5_readText 19 = .ok (.iconst (-1), 1)) ∧ (decode cX5_readText 20 = .ok (.putfield 9, 3)) ∧ (decode cX5_readText 23 = .ok (.aload_n 0, 1)) ∧ (decode cX5_readText 24 = .ok (.iconst 0, 1)) ∧ (decode cX5_readText 25 = .ok (.putfield 27, 3)) := by decide +kernel
theorem dX5_readText_14 : decode cX5_readText 14 = .ok (.iconst 0, 1) := eX5_readText_14q.1
theorem dX5_readText_15 : decode cX5_readText 15 = .ok (.putfield 15, 3) := eX5_readText_14q.2.1
theorem dX5_readText_18 : decode cX5_readText 18 = .ok (.aload_n 0, 1) := eX5_readText_14q.2.2.1
theorem dX5_readText_19 : decode cX5_readText 19 = .ok (.iconst (-1), 1) := eX5_readText_14q.2.2.2.1
theorem dX5_readText_20 : decode cX5_readText 20 = .ok (.putfield 9, 3) := eX5_readText_14q.2.2.2.2.1
theorem dX5_readText_23 : decode cX5_readText 23 = .ok (.aload_n 0, 1) := eX5_readText_14q.2.2.2.2.2.1
theorem dX5_readText_24 : decode cX5_readText 24 = .ok (.iconst 0, 1) := eX5_readText_14q.2.2.2.2.2.2.1
theorem dX5_readText_25 : decode cX5_readText 25 = .ok (.putfield 27, 3) := eX5_readText_14q.2.2.2.2.2.2.2
theorem eX5_readText_28q : (decode cX5_readText 28 = .ok (.aload_n 0, 1)) ∧ (decode cX5_readText 29 = .ok (.iconst 0, 1)) ∧ (decode cX5_readText 30 = .ok (.putfield 30, 3)) ∧ (decode cX5_readText 33 = .ok (.aload_n 0, 1)) ∧ (decode cX5_readText 34 = .ok (.getfield 34, 3)) ∧ (decode cX5_readText 37 = .ok (.invokevirtual 53, 3)) ∧ (decode cX5_readText 40 = .ok (.aload_n 0, 1)) ∧ (decode cX5_readText 41 = .ok (.invokevirtual 58, 3)) := by decide +kernel
theorem dX5_readText_28 : decode cX5_readText 28 = .ok (.aload_n 0, 1) := eX5_readText_28q.1
theorem dX5_readText_29 : decode cX5_readText 29 = .ok (.iconst 0, 1) := eX5_readText_28q.2.1
theorem dX5_readText_30 : decode cX5_readText 30 = .ok (.putfield 30, 3) := eX5_readText_28q.2.2.1
theorem dX5_readText_33 : decode cX5_readText 33 = .ok (.aload_n 0, 1) := eX5_readText_28q.2.2.2.1
theorem dX5_readText_34 : decode cX5_readText 34 = .ok (.getfield 34, 3) := eX5_readText_28q.2.2.2.2.1
theorem dX5_readText_37 : decode cX5_readText 37 = .ok (.invokevirtual 53, 3) := eX5_readText_28q.2.2.2.2.2.1
theorem dX5_readText_40 : decode cX5_readText 40 = .ok (.aload_n 0, 1) := eX5_readText_28q.2.2.2.2.2.2.1
theorem dX5_readText_41 : decode cX5_readText 41 = .ok (.invokevirtual 58, 3) := eX5_readText_28q.2.2.2.2.2.2.2
theorem eX5_readText_44q : (decode cX5_readText 44 = .ok (.iconst 0, 1)) ∧ (decode cX5_readText 45 = .ok (.istore_n 2, 1)) ∧ (decode cX5_readText 46 = .ok (.iload_n 2, 1)) ∧ (decode cX5_readText 47 = .ok (.sipush 700, 3)) ∧ (decode cX5_readText 50 = .ok (.if_icmp .ge 27, 3)) ∧ (decode cX5_readText 53 = .ok (.aload_n 0, 1)) ∧ (decode cX5_readText 54 = .ok (.getfield 15, 3)) ∧ (decode cX5_readText 57 = .ok (.ifCond .ne 20, 3)) := by decide +kernel
theorem dX5_readText_44 : decode cX5_readText 44 = .ok (.iconst 0, 1) := eX5_readText_44q.1
theorem dX5_readText_45 : decode cX5_readText 45 = .ok (.istore_n 2, 1) := eX5_readText_44q.2.1
theorem dX5_readText_46 : decode cX5_readText 46 = .ok (.iload_n 2, 1) := eX5_readText_44q.2.2.1
theorem dX5_readText_47 : decode cX5_readText 47 = .ok (.sipush 700, 3) := eX5_readText_44q.2.2.2.1
theorem dX5_readText_50 : decode cX5_readText 50 = .ok (.if_icmp .ge 27, 3) := eX5_readText_44q.2.2.2.2.1
theorem dX5_readText_53 : decode cX5_readText 53 = .ok (.aload_n 0, 1) := eX5_readText_44q.2.2.2.2.2.1
theorem dX5_readText_54 : decode cX5_readText 54 = .ok (.getfield 15, 3) := eX5_readText_44q.2.2.2.2.2.2.1
theorem dX5_readText_57 : decode cX5_readText 57 = .ok (.ifCond .ne 20, 3) := eX5_readText_44q.2.2.2.2.2.2.2
theorem eX5_readText_60q : (decode cX5_readText 60 = .ok (.aload_n 0, 1)) ∧ (decode cX5_readText 61 = .ok (.getfield 21, 3)) ∧ (decode cX5_readText 64 = .ok (.ifCond .eq 13, 3)) ∧ (decode cX5_readText 67 = .ok (.aload_n 0, 1)) ∧ (decode cX5_readText 68 = .ok (.invokevirtual 61, 3)) ∧ (decode cX5_readText 71 = .ok (.iinc 2 1, 3)) ∧ (decode cX5_readText 74 = .ok (.goto (-28), 3)) ∧ (decode cX5_readText 77 = .ok (.aload_n 0, 1)) := by decide +kernel
theorem dX5_readText_60 : decode cX5_readText 60 = .ok (.aload_n 0, 1) := eX5_readText_60q.1
theorem dX5_readText_61 : decode cX5_readText 61 = .ok (.getfield 21, 3) := eX5_readText_60q.2.1
theorem dX5_readText_64 : decode cX5_readText 64 = .ok (.ifCond .eq 13, 3) := eX5_readText_60q.2.2.1
theorem dX5_readText_67 : decode cX5_readText 67 = .ok (.aload_n 0, 1) := eX5_readText_60q.2.2.2.1
theorem dX5_readText_68 : decode cX5_readText 68 = .ok (.invokevirtual 61, 3) := eX5_readText_60q.2.2.2.2.1
theorem dX5_readText_71 : decode cX5_readText 71 = .ok (.iinc 2 1, 3) := eX5_readText_60q.2.2.2.2.2.1
theorem dX5_readText_74 : decode cX5_readText 74 = .ok (.goto (-28), 3) := eX5_readText_60q.2.2.2.2.2.2.1
theorem dX5_readText_77 : decode cX5_readText 77 = .ok (.aload_n 0, 1) := eX5_readText_60q.2.2.2.2.2.2.2
theorem dX5_readText_78 : decode cX5_readText 78 = .ok (.getfield 15, 3) := by decide +kernel
theorem dX5_readText_81 : decode cX5_readText 81 = .ok (.ireturn, 1) := by decide +kernel
set_option maxRecDepth 20000 in
theorem ggX5_readClause_X5_isWord : GoodIn wsX5_readClause wsX5_isWord := by
  have h := goodIn_app (goodIn_r (big := wsX5_readClause) (.code yX5_isWord cX5_isWord 3 (some .boolean) :: (wsX5_isWord_r1 ++ (wsX5_isWord_r2 ++ wsX5_isWord_r3)) : List Cond) [7, 2, 8, 9, 10, 11, 12, 13, 14, 15, 16, 17, 18, 19, 20, 21, 22, 23, 24, 25, 26, 27, 28, 29, 30, 31, 32, 33, 34, 35, 36, 37, 38, 39, 40, 41, 42, 43, 44, 45, 46, 47, 48, 49, 50, 51, 52, 53, 54, 55, 56, 57, 58, 59] rfl (by decide +kernel)) (goodIn_few (big := wsX5_readClause) (fun _ h9 => List.mem_cons_of_mem _ (List.mem_append_left _ (List.mem_append_right _ h9))) gb_10)
  exact h
set_option maxRecDepth 20000 in
theorem gX5_readClause_X5_isWord : GoodIn wsX5_readClause (wsV RX5 66 RX5 yX5_isWord wsX5_isWord) := goodIn_app (goodIn_r _ [3, 4, 5, 6] rfl (by decide +kernel)) ggX5_readClause_X5_isWord
set_option maxRecDepth 20000 in
theorem ggX5_readClause_X5_readRouter : GoodIn wsX5_readClause wsX5_readRouter := by
  have h := goodIn_app (goodIn_app (goodIn_r (big := wsX5_readClause) (.code yX5_readRouter cX5_readRouter 6 none :: (wsX5_readRouter_r1 ++ (wsX5_readRouter_r2 ++ (wsX5_readRouter_r3 ++ (wsX5_readRouter_r4 ++ wsX5_readRouter_r5)))) : List Cond) [63, 64, 65, 1, 66, 67, 68, 69, 70, 71, 72, 6, 73, 9, 74, 75, 76, 77, 78, 8, 79, 10, 2, 80, 81, 82, 83, 84, 85, 86, 87, 88, 89, 3, 4, 5, 7, 11, 12, 13, 14, 15, 16, 17, 18, 19, 20, 21, 22, 23, 24, 25, 26, 27, 28, 29, 30, 31, 32, 33, 34, 35, 36, 37, 38, 39, 40, 41, 42, 43, 44, 45, 46, 47, 48, 49, 50, 51, 52, 53, 54, 55, 56, 57, 58, 59, 90, 91, 92, 93, 94, 95, 96, 97, 98, 99, 100, 101] rfl (by decide +kernel)) (goodIn_few (big := wsX5_readClause) (fun _ h9 => List.mem_cons_of_mem _ (List.mem_append_left _ (List.mem_append_right _ h9))) gb_10)) (goodIn_few (big := wsX5_readClause) (fun _ h9 => List.mem_cons_of_mem _ (List.mem_append_right _ h9)) gb_2)
  exact h
set_option maxRecDepth 20000 in
theorem gX5_readClause_X5_readRouter : GoodIn wsX5_readClause (wsV RX5 70 RX5 yX5_readRouter wsX5_readRouter) := goodIn_app (goodIn_r _ [60, 61, 62, 6] rfl (by decide +kernel)) ggX5_readClause_X5_readRouter
set_option maxRecDepth 20000 in
theorem ggX5_readClause_X5_readLink : GoodIn wsX5_readClause wsX5_readLink := by
  have h := goodIn_app (goodIn_app (goodIn_r (big := wsX5_readClause) (.code yX5_readLink cX5_readLink 3 none :: (wsX5_readLink_r1 ++ (wsX5_readLink_r2 ++ wsX5_readLink_r3)) : List Cond) [105, 64, 106, 1, 107, 108, 70, 71, 72, 6, 73, 9, 74, 75, 76, 77, 78, 8, 79, 10, 2, 80, 81, 82, 83, 84, 85, 109, 110, 111, 112, 65, 94, 95, 96, 97, 113, 114, 115, 116, 117, 118, 119, 120, 121, 122, 123, 124, 125, 126, 127, 128, 129, 130, 131] rfl (by decide +kernel)) (goodIn_few (big := wsX5_readClause) (fun _ h9 => List.mem_cons_of_mem _ (List.mem_append_left _ (List.mem_append_right _ h9))) gb_10)) (goodIn_few (big := wsX5_readClause) (fun _ h9 => List.mem_cons_of_mem _ (List.mem_append_right _ h9)) gb_2)
  exact h
set_option maxRecDepth 20000 in
theorem gX5_readClause_X5_readLink : GoodIn wsX5_readClause (wsV RX5 75 RX5 yX5_readLink wsX5_readLink) := goodIn_app (goodIn_r _ [102, 103, 104, 6] rfl (by decide +kernel)) ggX5_readClause_X5_readLink
set_option maxRecDepth 20000 in
theorem ggX5_readClause_X5_readGoal : GoodIn wsX5_readClause wsX5_readGoal := by
  have h := goodIn_app (goodIn_app (goodIn_r (big := wsX5_readClause) (.code yX5_readGoal cX5_readGoal 2 none :: (wsX5_readGoal_r1 ++ wsX5_readGoal_r2) : List Cond) [135, 64, 136, 1, 137, 70, 71, 72, 6, 73, 9, 74, 75, 76, 77, 78, 8, 79, 10, 2, 80, 81, 82, 83, 84, 85, 109, 110, 111, 112, 65, 94, 95, 96, 97, 138, 139, 140, 116, 141, 142, 143] rfl (by decide +kernel)) (goodIn_few (big := wsX5_readClause) (fun _ h9 => List.mem_cons_of_mem _ (List.mem_append_left _ (List.mem_append_right _ h9))) gb_10)) (goodIn_few (big := wsX5_readClause) (fun _ h9 => List.mem_cons_of_mem _ (List.mem_append_right _ h9)) gb_2)
  exact h
set_option maxRecDepth 20000 in
theorem gX5_readClause_X5_readGoal : GoodIn wsX5_readClause (wsV RX5 80 RX5 yX5_readGoal wsX5_readGoal) := goodIn_app (goodIn_r _ [132, 133, 134, 6] rfl (by decide +kernel)) ggX5_readClause_X5_readGoal
set_option maxRecDepth 20000 in
theorem ggX5_readClause_X5_readLoss : GoodIn wsX5_readClause wsX5_readLoss := by
  have h := goodIn_app (goodIn_app (goodIn_r (big := wsX5_readClause) (.code yX5_readLoss cX5_readLoss 2 none :: (wsX5_readLoss_r1 ++ wsX5_readLoss_r2) : List Cond) [147, 148, 1, 64, 149, 70, 71, 72, 6, 73, 9, 74, 75, 76, 77, 78, 8, 79, 10, 2, 80, 81, 82, 83, 84, 85, 90, 91, 92, 93, 94, 95, 96, 97] rfl (by decide +kernel)) (goodIn_few (big := wsX5_readClause) (fun _ h9 => List.mem_cons_of_mem _ (List.mem_append_left _ (List.mem_append_right _ h9))) gb_10)) (goodIn_few (big := wsX5_readClause) (fun _ h9 => List.mem_cons_of_mem _ (List.mem_append_right _ h9)) gb_2)
  exact h
set_option maxRecDepth 20000 in
theorem gX5_readClause_X5_readLoss : GoodIn wsX5_readClause (wsV RX5 85 RX5 yX5_readLoss wsX5_readLoss) := goodIn_app (goodIn_r _ [144, 145, 146, 6] rfl (by decide +kernel)) ggX5_readClause_X5_readLoss
set_option maxRecDepth 20000 in
theorem ggX5_readClause_X5_fail : GoodIn wsX5_readClause wsX5_fail := by
  have h := goodIn_app (goodIn_r (big := wsX5_readClause) (.code yX5_fail cX5_fail 2 none :: ([.fieldLink RX5 15 "PathProber$Reader" "code" "I", .fieldLink RX5 24 "PathProber$Reader" "start" "I", .fieldLink RX5 9 "PathProber$Reader" "place" "I"]) : List Cond) [73, 1, 9, 74] rfl (by decide +kernel)) (goodIn_few (big := wsX5_readClause) (fun _ h9 => List.mem_cons_of_mem _ (List.mem_append_left _ (List.mem_append_right _ h9))) gb_10)
  exact h
set_option maxRecDepth 20000 in
theorem gX5_readClause_X5_fail : GoodIn wsX5_readClause (wsV RX5 88 RX5 yX5_fail wsX5_fail) := goodIn_app (goodIn_r _ [70, 71, 72, 6] rfl (by decide +kernel)) ggX5_readClause_X5_fail
set_option maxRecDepth 20000 in
theorem ggX5_readClause_X5_step : GoodIn wsX5_readClause wsX5_step := by
  have h := goodIn_app (goodIn_r (big := wsX5_readClause) (.code yX5_step cX5_step 1 none :: ([.fieldLink RX5 15 "PathProber$Reader" "code" "I", .fieldLink RX5 27 "PathProber$Reader" "end" "I", .fieldLink RX5 24 "PathProber$Reader" "start" "I", .fieldLink RX5 18 "PathProber$Reader" "length" "I", .fieldLink RX5 44 "PathProber$Reader" "text" "[B", .fieldLink RX5 21 "PathProber$Reader" "token" "I", .methodLink RX5 167 yX5_isLetter, .static yX5_isLetter, .initialized RX5, .code yX5_isLetter cX5_isLetter 1 (some .boolean), .methodLink RX5 171 yX5_isDigit, .static yX5_isDigit, .code yX5_isDigit cX5_isDigit 1 (some .boolean)]) : List Cond) [78, 1, 8, 9, 79, 10, 2, 80, 81, 6, 82, 83, 84, 85] rfl (by decide +kernel)) (goodIn_few (big := wsX5_readClause) (fun _ h9 => List.mem_cons_of_mem _ (List.mem_append_left _ (List.mem_append_right _ h9))) gb_10)
  exact h
set_option maxRecDepth 20000 in
theorem gX5_readClause_X5_step : GoodIn wsX5_readClause (wsV RX5 58 RX5 yX5_step wsX5_step) := goodIn_app (goodIn_r _ [75, 76, 77, 6] rfl (by decide +kernel)) ggX5_readClause_X5_step
theorem eX5_readClause_0q : (decode cX5_readClause 0 = .ok (.aload_n 0, 1)) ∧ (decode cX5_readClause 1 = .ok (.ldc 64, 2)) ∧ (decode cX5_readClause 3 = .ok (.invokevirtual 66, 3)) ∧ (decode cX5_readClause 6 = .ok (.ifCond .eq 10, 3)) ∧ (decode cX5_readClause 9 = .ok (.aload_n 0, 1)) ∧ (decode cX5_readClause 10 = .ok (.invokevirtual 70, 3)) ∧ (decode cX5_readClause 13 = .ok (.goto 56, 3)) ∧ (decode cX5_readClause 16 = .ok (.aload_n 0, 1)) := by decide +kernel
theorem dX5_readClause_0 : decode cX5_readClause 0 = .ok (.aload_n 0, 1) := eX5_readClause_0q.1
theorem dX5_readClause_1 : decode cX5_readClause 1 = .ok (.ldc 64, 2) := eX5_readClause_0q.2.1
theorem dX5_readClause_3 : decode cX5_readClause 3 = .ok (.invokevirtual 66, 3) := eX5_readClause_0q.2.2.1
theorem dX5_readClause_6 : decode cX5_readClause 6 = .ok (.ifCond .eq 10, 3) := eX5_readClause_0q.2.2.2.1
theorem dX5_readClause_9 : decode cX5_readClause 9 = .ok (.aload_n 0, 1) := eX5_readClause_0q.2.2.2.2.1
theorem dX5_readClause_10 : decode cX5_readClause 10 = .ok (.invokevirtual 70, 3) := eX5_readClause_0q.2.2.2.2.2.1
theorem dX5_readClause_13 : decode cX5_readClause 13 = .ok (.goto 56, 3) := eX5_readClause_0q.2.2.2.2.2.2.1
theorem dX5_readClause_16 : decode cX5_readClause 16 = .ok (.aload_n 0, 1) := eX5_readClause_0q.2.2.2.2.2.2.2
theorem eX5_readClause_17q : (decode cX5_readClause 17 = .ok (.ldc 73, 2)) ∧ (decode cX5_readClause 19 = .ok (.invokevirtual 66, 3)) ∧ (decode cX5_readClause 22 = .ok (.ifCond .eq 10, 3)) ∧ (decode cX5_readClause 25 = .ok (.aload_n 0, 1)) ∧ (decode cX5_readClause 26 = .ok (.invokevirtual 75, 3)) ∧ (decode cX5_readClause 29 = .ok (.goto 40, 3)) ∧ (decode cX5_readClause 32 = .ok (.aload_n 0, 1)) ∧ (decode cX5_readClause 33 = .ok (.ldc 78, 2)) := by decide +kernel
theorem dX5_readClause_17 : decode cX5_readClause 17 = .ok (.ldc 73, 2) := eX5_readClause_17q.1
theorem dX5_readClause_19 : decode cX5_readClause 19 = .ok (.invokevirtual 66, 3) := eX5_readClause_17q.2.1
theorem dX5_readClause_22 : decode cX5_readClause 22 = .ok (.ifCond .eq 10, 3) := eX5_readClause_17q.2.2.1
theorem dX5_readClause_25 : decode cX5_readClause 25 = .ok (.aload_n 0, 1) := eX5_readClause_17q.2.2.2.1
theorem dX5_readClause_26 : decode cX5_readClause 26 = .ok (.invokevirtual 75, 3) := eX5_readClause_17q.2.2.2.2.1
theorem dX5_readClause_29 : decode cX5_readClause 29 = .ok (.goto 40, 3) := eX5_readClause_17q.2.2.2.2.2.1
theorem dX5_readClause_32 : decode cX5_readClause 32 = .ok (.aload_n 0, 1) := eX5_readClause_17q.2.2.2.2.2.2.1
theorem dX5_readClause_33 : decode cX5_readClause 33 = .ok (.ldc 78, 2) := eX5_readClause_17q.2.2.2.2.2.2.2
theorem eX5_readClause_35q : (decode cX5_readClause 35 = .ok (.invokevirtual 66, 3)) ∧ (decode cX5_readClause 38 = .ok (.ifCond .eq 10, 3)) ∧ (decode cX5_readClause 41 = .ok (.aload_n 0, 1)) ∧ (decode cX5_readClause 42 = .ok (.invokevirtual 80, 3)) ∧ (decode cX5_readClause 45 = .ok (.goto 24, 3)) ∧ (decode cX5_readClause 48 = .ok (.aload_n 0, 1)) ∧ (decode cX5_readClause 49 = .ok (.ldc 83, 2)) ∧ (decode cX5_readClause 51 = .ok (.invokevirtual 66, 3)) := by decide +kernel
theorem dX5_readClause_35 : decode cX5_readClause 35 = .ok (.invokevirtual 66, 3) := eX5_readClause_35q.1
theorem dX5_readClause_38 : decode cX5_readClause 38 = .ok (.ifCond .eq 10, 3) := eX5_readClause_35q.2.1
theorem dX5_readClause_41 : decode cX5_readClause 41 = .ok (.aload_n 0, 1) := eX5_readClause_35q.2.2.1
theorem dX5_readClause_42 : decode cX5_readClause 42 = .ok (.invokevirtual 80, 3) := eX5_readClause_35q.2.2.2.1
theorem dX5_readClause_45 : decode cX5_readClause 45 = .ok (.goto 24, 3) := eX5_readClause_35q.2.2.2.2.1
theorem dX5_readClause_48 : decode cX5_readClause 48 = .ok (.aload_n 0, 1) := eX5_readClause_35q.2.2.2.2.2.1
theorem dX5_readClause_49 : decode cX5_readClause 49 = .ok (.ldc 83, 2) := eX5_readClause_35q.2.2.2.2.2.2.1
theorem dX5_readClause_51 : decode cX5_readClause 51 = .ok (.invokevirtual 66, 3) := eX5_readClause_35q.2.2.2.2.2.2.2
theorem eX5_readClause_54q : (decode cX5_readClause 54 = .ok (.ifCond .eq 10, 3)) ∧ (decode cX5_readClause 57 = .ok (.aload_n 0, 1)) ∧ (decode cX5_readClause 58 = .ok (.invokevirtual 85, 3)) ∧ (decode cX5_readClause 61 = .ok (.goto 8, 3)) ∧ (decode cX5_readClause 64 = .ok (.aload_n 0, 1)) ∧ (decode cX5_readClause 65 = .ok (.iconst 1, 1)) ∧ (decode cX5_readClause 66 = .ok (.invokevirtual 88, 3)) ∧ (decode cX5_readClause 69 = .ok (.aload_n 0, 1)) := by decide +kernel
theorem dX5_readClause_54 : decode cX5_readClause 54 = .ok (.ifCond .eq 10, 3) := eX5_readClause_54q.1
theorem dX5_readClause_57 : decode cX5_readClause 57 = .ok (.aload_n 0, 1) := eX5_readClause_54q.2.1
theorem dX5_readClause_58 : decode cX5_readClause 58 = .ok (.invokevirtual 85, 3) := eX5_readClause_54q.2.2.1
theorem dX5_readClause_61 : decode cX5_readClause 61 = .ok (.goto 8, 3) := eX5_readClause_54q.2.2.2.1
theorem dX5_readClause_64 : decode cX5_readClause 64 = .ok (.aload_n 0, 1) := eX5_readClause_54q.2.2.2.2.1
theorem dX5_readClause_65 : decode cX5_readClause 65 = .ok (.iconst 1, 1) := eX5_readClause_54q.2.2.2.2.2.1
theorem dX5_readClause_66 : decode cX5_readClause 66 = .ok (.invokevirtual 88, 3) := eX5_readClause_54q.2.2.2.2.2.2.1
theorem dX5_readClause_69 : decode cX5_readClause 69 = .ok (.aload_n 0, 1) := eX5_readClause_54q.2.2.2.2.2.2.2
theorem eX5_readClause_70q : (decode cX5_readClause 70 = .ok (.getfield 15, 3)) ∧ (decode cX5_readClause 73 = .ok (.ifCond .ne 16, 3)) ∧ (decode cX5_readClause 76 = .ok (.aload_n 0, 1)) ∧ (decode cX5_readClause 77 = .ok (.getfield 21, 3)) ∧ (decode cX5_readClause 80 = .ok (.iconst 3, 1)) ∧ (decode cX5_readClause 81 = .ok (.if_icmp .eq 8, 3)) ∧ (decode cX5_readClause 84 = .ok (.aload_n 0, 1)) ∧ (decode cX5_readClause 85 = .ok (.iconst 1, 1)) := by decide +kernel
theorem dX5_readClause_70 : decode cX5_readClause 70 = .ok (.getfield 15, 3) := eX5_readClause_70q.1
theorem dX5_readClause_73 : decode cX5_readClause 73 = .ok (.ifCond .ne 16, 3) := eX5_readClause_70q.2.1
theorem dX5_readClause_76 : decode cX5_readClause 76 = .ok (.aload_n 0, 1) := eX5_readClause_70q.2.2.1
theorem dX5_readClause_77 : decode cX5_readClause 77 = .ok (.getfield 21, 3) := eX5_readClause_70q.2.2.2.1
theorem dX5_readClause_80 : decode cX5_readClause 80 = .ok (.iconst 3, 1) := eX5_readClause_70q.2.2.2.2.1
theorem dX5_readClause_81 : decode cX5_readClause 81 = .ok (.if_icmp .eq 8, 3) := eX5_readClause_70q.2.2.2.2.2.1
theorem dX5_readClause_84 : decode cX5_readClause 84 = .ok (.aload_n 0, 1) := eX5_readClause_70q.2.2.2.2.2.2.1
theorem dX5_readClause_85 : decode cX5_readClause 85 = .ok (.iconst 1, 1) := eX5_readClause_70q.2.2.2.2.2.2.2
theorem eX5_readClause_86q : (decode cX5_readClause 86 = .ok (.invokevirtual 88, 3)) ∧ (decode cX5_readClause 89 = .ok (.aload_n 0, 1)) ∧ (decode cX5_readClause 90 = .ok (.invokevirtual 58, 3)) ∧ (decode cX5_readClause 93 = .ok (.return_, 1)) := by decide +kernel
theorem dX5_readClause_86 : decode cX5_readClause 86 = .ok (.invokevirtual 88, 3) := eX5_readClause_86q.1
theorem dX5_readClause_89 : decode cX5_readClause 89 = .ok (.aload_n 0, 1) := eX5_readClause_86q.2.1
theorem dX5_readClause_90 : decode cX5_readClause 90 = .ok (.invokevirtual 58, 3) := eX5_readClause_86q.2.2.1
theorem dX5_readClause_93 : decode cX5_readClause 93 = .ok (.return_, 1) := eX5_readClause_86q.2.2.2
set_option maxRecDepth 20000 in
theorem ggX5_readRouter_X5_fail : GoodIn wsX5_readRouter wsX5_fail := by
  have h := goodIn_app (goodIn_r (big := wsX5_readRouter) (.code yX5_fail cX5_fail 2 none :: ([.fieldLink RX5 15 "PathProber$Reader" "code" "I", .fieldLink RX5 24 "PathProber$Reader" "start" "I", .fieldLink RX5 9 "PathProber$Reader" "place" "I"]) : List Cond) [12, 3, 13, 14] rfl (by decide +kernel)) (goodIn_few (big := wsX5_readRouter) (fun _ h9 => List.mem_cons_of_mem _ (List.mem_append_left _ (List.mem_append_right _ h9))) gb_10)
  exact h
set_option maxRecDepth 20000 in
theorem gX5_readRouter_X5_fail : GoodIn wsX5_readRouter (wsV RX5 88 RX5 yX5_fail wsX5_fail) := goodIn_app (goodIn_r _ [8, 9, 10, 11] rfl (by decide +kernel)) ggX5_readRouter_X5_fail
set_option maxRecDepth 20000 in
theorem ggX5_readRouter_X5_step : GoodIn wsX5_readRouter wsX5_step := by
  have h := goodIn_app (goodIn_r (big := wsX5_readRouter) (.code yX5_step cX5_step 1 none :: ([.fieldLink RX5 15 "PathProber$Reader" "code" "I", .fieldLink RX5 27 "PathProber$Reader" "end" "I", .fieldLink RX5 24 "PathProber$Reader" "start" "I", .fieldLink RX5 18 "PathProber$Reader" "length" "I", .fieldLink RX5 44 "PathProber$Reader" "text" "[B", .fieldLink RX5 21 "PathProber$Reader" "token" "I", .methodLink RX5 167 yX5_isLetter, .static yX5_isLetter, .initialized RX5, .code yX5_isLetter cX5_isLetter 1 (some .boolean), .methodLink RX5 171 yX5_isDigit, .static yX5_isDigit, .code yX5_isDigit cX5_isDigit 1 (some .boolean)]) : List Cond) [18, 3, 19, 13, 20, 21, 22, 23, 24, 11, 25, 26, 27, 28] rfl (by decide +kernel)) (goodIn_few (big := wsX5_readRouter) (fun _ h9 => List.mem_cons_of_mem _ (List.mem_append_left _ (List.mem_append_right _ h9))) gb_10)
  exact h
set_option maxRecDepth 20000 in
theorem gX5_readRouter_X5_step : GoodIn wsX5_readRouter (wsV RX5 58 RX5 yX5_step wsX5_step) := goodIn_app (goodIn_r _ [15, 16, 17, 11] rfl (by decide +kernel)) ggX5_readRouter_X5_step
set_option maxRecDepth 20000 in
theorem ggX5_readRouter_X5_readKind : GoodIn wsX5_readRouter wsX5_readKind := by
  have h := goodIn_app (goodIn_r (big := wsX5_readRouter) (.code yX5_readKind cX5_readKind 2 (some .int) :: (wsX5_readKind_r1 ++ (wsX5_readKind_r2 ++ (wsX5_readKind_r3 ++ wsX5_readKind_r4))) : List Cond) [32, 33, 34, 35, 11, 36, 22, 19, 13, 21, 37, 38, 39, 40, 41, 42, 43, 44, 45, 46, 47, 48, 49, 50, 51, 52, 53, 54, 55, 56, 57, 58, 59, 60, 61, 62, 63, 64, 65, 66, 67, 68, 69, 70, 71, 72, 73, 74, 75, 76, 77, 78, 79, 80, 81, 82, 83, 84, 85, 8, 9, 10, 12, 3, 14, 15, 16, 17, 18, 20, 23, 24, 25, 26, 27, 28] rfl (by decide +kernel)) (goodIn_few (big := wsX5_readRouter) (fun _ h9 => List.mem_cons_of_mem _ (List.mem_append_left _ (List.mem_append_right _ h9))) gb_10)
  exact h
set_option maxRecDepth 20000 in
theorem gX5_readRouter_X5_readKind : GoodIn wsX5_readRouter (wsV RX5 95 RX5 yX5_readKind wsX5_readKind) := goodIn_app (goodIn_r _ [29, 30, 31, 11] rfl (by decide +kernel)) ggX5_readRouter_X5_readKind
set_option maxRecDepth 20000 in
theorem ggX5_readRouter_X5_readNumber : GoodIn wsX5_readRouter wsX5_readNumber := by
  have h := goodIn_app (goodIn_r (big := wsX5_readRouter) (.code yX5_readNumber cX5_readNumber 4 (some .int) :: (wsX5_readNumber_r1 ++ wsX5_readNumber_r2) : List Cond) [89, 90, 91, 92, 11, 93, 22, 19, 13, 21, 8, 9, 10, 12, 3, 14, 15, 16, 17, 18, 20, 23, 24, 25, 26, 27, 28] rfl (by decide +kernel)) (goodIn_few (big := wsX5_readRouter) (fun _ h9 => List.mem_cons_of_mem _ (List.mem_append_left _ (List.mem_append_right _ h9))) gb_10)
  exact h
set_option maxRecDepth 20000 in
theorem gX5_readRouter_X5_readNumber : GoodIn wsX5_readRouter (wsV RX5 99 RX5 yX5_readNumber wsX5_readNumber) := goodIn_app (goodIn_r _ [86, 87, 88, 11] rfl (by decide +kernel)) ggX5_readRouter_X5_readNumber
set_option maxRecDepth 20000 in
theorem ggX5_readRouter_X5_readManner : GoodIn wsX5_readRouter wsX5_readManner := by
  have h := goodIn_app (goodIn_r (big := wsX5_readRouter) (.code yX5_readManner cX5_readManner 2 (some .int) :: (wsX5_readManner_r1 ++ (wsX5_readManner_r2 ++ wsX5_readManner_r3)) : List Cond) [97, 33, 34, 35, 11, 36, 22, 19, 13, 21, 37, 38, 39, 40, 41, 42, 43, 44, 45, 46, 47, 48, 49, 50, 51, 52, 53, 54, 55, 56, 57, 58, 59, 60, 61, 62, 63, 64, 65, 66, 67, 68, 69, 70, 71, 72, 73, 74, 75, 76, 77, 78, 79, 80, 81, 82, 83, 84, 85, 15, 16, 17, 18, 3, 20, 23, 24, 25, 26, 27, 28] rfl (by decide +kernel)) (goodIn_few (big := wsX5_readRouter) (fun _ h9 => List.mem_cons_of_mem _ (List.mem_append_left _ (List.mem_append_right _ h9))) gb_10)
  exact h
set_option maxRecDepth 20000 in
theorem gX5_readRouter_X5_readManner : GoodIn wsX5_readRouter (wsV RX5 102 RX5 yX5_readManner wsX5_readManner) := goodIn_app (goodIn_r _ [94, 95, 96, 11] rfl (by decide +kernel)) ggX5_readRouter_X5_readManner
theorem eX5_readRouter_0q : (decode cX5_readRouter 0 = .ok (.aload_n 0, 1)) ∧ (decode cX5_readRouter 1 = .ok (.getfield 34, 3)) ∧ (decode cX5_readRouter 4 = .ok (.getfield 92, 3)) ∧ (decode cX5_readRouter 7 = .ok (.bipush 12, 2)) ∧ (decode cX5_readRouter 9 = .ok (.if_icmp .ne 9, 3)) ∧ (decode cX5_readRouter 12 = .ok (.aload_n 0, 1)) ∧ (decode cX5_readRouter 13 = .ok (.iconst 2, 1)) ∧ (decode cX5_readRouter 14 = .ok (.invokevirtual 88, 3)) := by decide +kernel
theorem dX5_readRouter_0 : decode cX5_readRouter 0 = .ok (.aload_n 0, 1) := eX5_readRouter_0q.1
theorem dX5_readRouter_1 : decode cX5_readRouter 1 = .ok (.getfield 34, 3) := eX5_readRouter_0q.2.1
theorem dX5_readRouter_4 : decode cX5_readRouter 4 = .ok (.getfield 92, 3) := eX5_readRouter_0q.2.2.1
theorem dX5_readRouter_7 : decode cX5_readRouter 7 = .ok (.bipush 12, 2) := eX5_readRouter_0q.2.2.2.1
theorem dX5_readRouter_9 : decode cX5_readRouter 9 = .ok (.if_icmp .ne 9, 3) := eX5_readRouter_0q.2.2.2.2.1
theorem dX5_readRouter_12 : decode cX5_readRouter 12 = .ok (.aload_n 0, 1) := eX5_readRouter_0q.2.2.2.2.2.1
theorem dX5_readRouter_13 : decode cX5_readRouter 13 = .ok (.iconst 2, 1) := eX5_readRouter_0q.2.2.2.2.2.2.1
theorem dX5_readRouter_14 : decode cX5_readRouter 14 = .ok (.invokevirtual 88, 3) := eX5_readRouter_0q.2.2.2.2.2.2.2
theorem eX5_readRouter_17q : (decode cX5_readRouter 17 = .ok (.return_, 1)) ∧ (decode cX5_readRouter 18 = .ok (.aload_n 0, 1)) ∧ (decode cX5_readRouter 19 = .ok (.invokevirtual 58, 3)) ∧ (decode cX5_readRouter 22 = .ok (.aload_n 0, 1)) ∧ (decode cX5_readRouter 23 = .ok (.invokevirtual 95, 3)) ∧ (decode cX5_readRouter 26 = .ok (.istore_n 1, 1)) ∧ (decode cX5_readRouter 27 = .ok (.aload_n 0, 1)) ∧ (decode cX5_readRouter 28 = .ok (.iconst 0, 1)) := by decide +kernel
theorem dX5_readRouter_17 : decode cX5_readRouter 17 = .ok (.return_, 1) := eX5_readRouter_17q.1
theorem dX5_readRouter_18 : decode cX5_readRouter 18 = .ok (.aload_n 0, 1) := eX5_readRouter_17q.2.1
theorem dX5_readRouter_19 : decode cX5_readRouter 19 = .ok (.invokevirtual 58, 3) := eX5_readRouter_17q.2.2.1
theorem dX5_readRouter_22 : decode cX5_readRouter 22 = .ok (.aload_n 0, 1) := eX5_readRouter_17q.2.2.2.1
theorem dX5_readRouter_23 : decode cX5_readRouter 23 = .ok (.invokevirtual 95, 3) := eX5_readRouter_17q.2.2.2.2.1
theorem dX5_readRouter_26 : decode cX5_readRouter 26 = .ok (.istore_n 1, 1) := eX5_readRouter_17q.2.2.2.2.2.1
theorem dX5_readRouter_27 : decode cX5_readRouter 27 = .ok (.aload_n 0, 1) := eX5_readRouter_17q.2.2.2.2.2.2.1
theorem dX5_readRouter_28 : decode cX5_readRouter 28 = .ok (.iconst 0, 1) := eX5_readRouter_17q.2.2.2.2.2.2.2
theorem eX5_readRouter_29q : (decode cX5_readRouter 29 = .ok (.bipush 15, 2)) ∧ (decode cX5_readRouter 31 = .ok (.invokevirtual 99, 3)) ∧ (decode cX5_readRouter 34 = .ok (.istore_n 2, 1)) ∧ (decode cX5_readRouter 35 = .ok (.aload_n 0, 1)) ∧ (decode cX5_readRouter 36 = .ok (.iconst 1, 1)) ∧ (decode cX5_readRouter 37 = .ok (.bipush 60, 2)) ∧ (decode cX5_readRouter 39 = .ok (.invokevirtual 99, 3)) ∧ (decode cX5_readRouter 42 = .ok (.istore_n 3, 1)) := by decide +kernel
theorem dX5_readRouter_29 : decode cX5_readRouter 29 = .ok (.bipush 15, 2) := eX5_readRouter_29q.1
theorem dX5_readRouter_31 : decode cX5_readRouter 31 = .ok (.invokevirtual 99, 3) := eX5_readRouter_29q.2.1
theorem dX5_readRouter_34 : decode cX5_readRouter 34 = .ok (.istore_n 2, 1) := eX5_readRouter_29q.2.2.1
theorem dX5_readRouter_35 : decode cX5_readRouter 35 = .ok (.aload_n 0, 1) := eX5_readRouter_29q.2.2.2.1
theorem dX5_readRouter_36 : decode cX5_readRouter 36 = .ok (.iconst 1, 1) := eX5_readRouter_29q.2.2.2.2.1
theorem dX5_readRouter_37 : decode cX5_readRouter 37 = .ok (.bipush 60, 2) := eX5_readRouter_29q.2.2.2.2.2.1
theorem dX5_readRouter_39 : decode cX5_readRouter 39 = .ok (.invokevirtual 99, 3) := eX5_readRouter_29q.2.2.2.2.2.2.1
theorem dX5_readRouter_42 : decode cX5_readRouter 42 = .ok (.istore_n 3, 1) := eX5_readRouter_29q.2.2.2.2.2.2.2
theorem eX5_readRouter_43q : (decode cX5_readRouter 43 = .ok (.aload_n 0, 1)) ∧ (decode cX5_readRouter 44 = .ok (.invokevirtual 102, 3)) ∧ (decode cX5_readRouter 47 = .ok (.istore 4, 2)) ∧ (decode cX5_readRouter 49 = .ok (.aload_n 0, 1)) ∧ (decode cX5_readRouter 50 = .ok (.getfield 15, 3)) ∧ (decode cX5_readRouter 53 = .ok (.ifCond .ne 70, 3)) ∧ (decode cX5_readRouter 56 = .ok (.aload_n 0, 1)) ∧ (decode cX5_readRouter 57 = .ok (.getfield 34, 3)) := by decide +kernel
theorem dX5_readRouter_43 : decode cX5_readRouter 43 = .ok (.aload_n 0, 1) := eX5_readRouter_43q.1
theorem dX5_readRouter_44 : decode cX5_readRouter 44 = .ok (.invokevirtual 102, 3) := eX5_readRouter_43q.2.1
theorem dX5_readRouter_47 : decode cX5_readRouter 47 = .ok (.istore 4, 2) := eX5_readRouter_43q.2.2.1
theorem dX5_readRouter_49 : decode cX5_readRouter 49 = .ok (.aload_n 0, 1) := eX5_readRouter_43q.2.2.2.1
theorem dX5_readRouter_50 : decode cX5_readRouter 50 = .ok (.getfield 15, 3) := eX5_readRouter_43q.2.2.2.2.1
theorem dX5_readRouter_53 : decode cX5_readRouter 53 = .ok (.ifCond .ne 70, 3) := eX5_readRouter_43q.2.2.2.2.2.1
theorem dX5_readRouter_56 : decode cX5_readRouter 56 = .ok (.aload_n 0, 1) := eX5_readRouter_43q.2.2.2.2.2.2.1
theorem dX5_readRouter_57 : decode cX5_readRouter 57 = .ok (.getfield 34, 3) := eX5_readRouter_43q.2.2.2.2.2.2.2
theorem eX5_readRouter_60q : (decode cX5_readRouter 60 = .ok (.getfield 92, 3)) ∧ (decode cX5_readRouter 63 = .ok (.istore 5, 2)) ∧ (decode cX5_readRouter 65 = .ok (.aload_n 0, 1)) ∧ (decode cX5_readRouter 66 = .ok (.getfield 34, 3)) ∧ (decode cX5_readRouter 69 = .ok (.getfield 105, 3)) ∧ (decode cX5_readRouter 72 = .ok (.iload 5, 2)) ∧ (decode cX5_readRouter 74 = .ok (.iload_n 1, 1)) ∧ (decode cX5_readRouter 75 = .ok (.iastore, 1)) := by decide +kernel
theorem dX5_readRouter_60 : decode cX5_readRouter 60 = .ok (.getfield 92, 3) := eX5_readRouter_60q.1
theorem dX5_readRouter_63 : decode cX5_readRouter 63 = .ok (.istore 5, 2) := eX5_readRouter_60q.2.1
theorem dX5_readRouter_65 : decode cX5_readRouter 65 = .ok (.aload_n 0, 1) := eX5_readRouter_60q.2.2.1
theorem dX5_readRouter_66 : decode cX5_readRouter 66 = .ok (.getfield 34, 3) := eX5_readRouter_60q.2.2.2.1
theorem dX5_readRouter_69 : decode cX5_readRouter 69 = .ok (.getfield 105, 3) := eX5_readRouter_60q.2.2.2.2.1
theorem dX5_readRouter_72 : decode cX5_readRouter 72 = .ok (.iload 5, 2) := eX5_readRouter_60q.2.2.2.2.2.1
theorem dX5_readRouter_74 : decode cX5_readRouter 74 = .ok (.iload_n 1, 1) := eX5_readRouter_60q.2.2.2.2.2.2.1
theorem dX5_readRouter_75 : decode cX5_readRouter 75 = .ok (.iastore, 1) := eX5_readRouter_60q.2.2.2.2.2.2.2
theorem eX5_readRouter_76q : (decode cX5_readRouter 76 = .ok (.aload_n 0, 1)) ∧ (decode cX5_readRouter 77 = .ok (.getfield 34, 3)) ∧ (decode cX5_readRouter 80 = .ok (.getfield 109, 3)) ∧ (decode cX5_readRouter 83 = .ok (.iload 5, 2)) ∧ (decode cX5_readRouter 85 = .ok (.iload_n 2, 1)) ∧ (decode cX5_readRouter 86 = .ok (.iastore, 1)) ∧ (decode cX5_readRouter 87 = .ok (.aload_n 0, 1)) ∧ (decode cX5_readRouter 88 = .ok (.getfield 34, 3)) := by decide +kernel
theorem dX5_readRouter_76 : decode cX5_readRouter 76 = .ok (.aload_n 0, 1) := eX5_readRouter_76q.1
theorem dX5_readRouter_77 : decode cX5_readRouter 77 = .ok (.getfield 34, 3) := eX5_readRouter_76q.2.1
theorem dX5_readRouter_80 : decode cX5_readRouter 80 = .ok (.getfield 109, 3) := eX5_readRouter_76q.2.2.1
theorem dX5_readRouter_83 : decode cX5_readRouter 83 = .ok (.iload 5, 2) := eX5_readRouter_76q.2.2.2.1
theorem dX5_readRouter_85 : decode cX5_readRouter 85 = .ok (.iload_n 2, 1) := eX5_readRouter_76q.2.2.2.2.1
theorem dX5_readRouter_86 : decode cX5_readRouter 86 = .ok (.iastore, 1) := eX5_readRouter_76q.2.2.2.2.2.1
theorem dX5_readRouter_87 : decode cX5_readRouter 87 = .ok (.aload_n 0, 1) := eX5_readRouter_76q.2.2.2.2.2.2.1
theorem dX5_readRouter_88 : decode cX5_readRouter 88 = .ok (.getfield 34, 3) := eX5_readRouter_76q.2.2.2.2.2.2.2
theorem eX5_readRouter_91q : (decode cX5_readRouter 91 = .ok (.getfield 112, 3)) ∧ (decode cX5_readRouter 94 = .ok (.iload 5, 2)) ∧ (decode cX5_readRouter 96 = .ok (.iload_n 3, 1)) ∧ (decode cX5_readRouter 97 = .ok (.iastore, 1)) ∧ (decode cX5_readRouter 98 = .ok (.aload_n 0, 1)) ∧ (decode cX5_readRouter 99 = .ok (.getfield 34, 3)) ∧ (decode cX5_readRouter 102 = .ok (.getfield 115, 3)) ∧ (decode cX5_readRouter 105 = .ok (.iload 5, 2)) := by decide +kernel
theorem dX5_readRouter_91 : decode cX5_readRouter 91 = .ok (.getfield 112, 3) := eX5_readRouter_91q.1
theorem dX5_readRouter_94 : decode cX5_readRouter 94 = .ok (.iload 5, 2) := eX5_readRouter_91q.2.1
theorem dX5_readRouter_96 : decode cX5_readRouter 96 = .ok (.iload_n 3, 1) := eX5_readRouter_91q.2.2.1
theorem dX5_readRouter_97 : decode cX5_readRouter 97 = .ok (.iastore, 1) := eX5_readRouter_91q.2.2.2.1
theorem dX5_readRouter_98 : decode cX5_readRouter 98 = .ok (.aload_n 0, 1) := eX5_readRouter_91q.2.2.2.2.1
theorem dX5_readRouter_99 : decode cX5_readRouter 99 = .ok (.getfield 34, 3) := eX5_readRouter_91q.2.2.2.2.2.1
theorem dX5_readRouter_102 : decode cX5_readRouter 102 = .ok (.getfield 115, 3) := eX5_readRouter_91q.2.2.2.2.2.2.1
theorem dX5_readRouter_105 : decode cX5_readRouter 105 = .ok (.iload 5, 2) := eX5_readRouter_91q.2.2.2.2.2.2.2
theorem eX5_readRouter_107q : (decode cX5_readRouter 107 = .ok (.iload 4, 2)) ∧ (decode cX5_readRouter 109 = .ok (.iastore, 1)) ∧ (decode cX5_readRouter 110 = .ok (.aload_n 0, 1)) ∧ (decode cX5_readRouter 111 = .ok (.getfield 34, 3)) ∧ (decode cX5_readRouter 114 = .ok (.dup, 1)) ∧ (decode cX5_readRouter 115 = .ok (.getfield 92, 3)) ∧ (decode cX5_readRouter 118 = .ok (.iconst 1, 1)) ∧ (decode cX5_readRouter 119 = .ok (.iadd, 1)) := by decide +kernel
theorem dX5_readRouter_107 : decode cX5_readRouter 107 = .ok (.iload 4, 2) := eX5_readRouter_107q.1
theorem dX5_readRouter_109 : decode cX5_readRouter 109 = .ok (.iastore, 1) := eX5_readRouter_107q.2.1
theorem dX5_readRouter_110 : decode cX5_readRouter 110 = .ok (.aload_n 0, 1) := eX5_readRouter_107q.2.2.1
theorem dX5_readRouter_111 : decode cX5_readRouter 111 = .ok (.getfield 34, 3) := eX5_readRouter_107q.2.2.2.1
theorem dX5_readRouter_114 : decode cX5_readRouter 114 = .ok (.dup, 1) := eX5_readRouter_107q.2.2.2.2.1
theorem dX5_readRouter_115 : decode cX5_readRouter 115 = .ok (.getfield 92, 3) := eX5_readRouter_107q.2.2.2.2.2.1
theorem dX5_readRouter_118 : decode cX5_readRouter 118 = .ok (.iconst 1, 1) := eX5_readRouter_107q.2.2.2.2.2.2.1
theorem dX5_readRouter_119 : decode cX5_readRouter 119 = .ok (.iadd, 1) := eX5_readRouter_107q.2.2.2.2.2.2.2
theorem dX5_readRouter_120 : decode cX5_readRouter 120 = .ok (.putfield 92, 3) := by decide +kernel
theorem dX5_readRouter_123 : decode cX5_readRouter 123 = .ok (.return_, 1) := by decide +kernel
set_option maxRecDepth 20000 in
theorem ggX5_readKind_X5_isWord : GoodIn wsX5_readKind wsX5_isWord := by
  have h := goodIn_app (goodIn_r (big := wsX5_readKind) (.code yX5_isWord cX5_isWord 3 (some .boolean) :: (wsX5_isWord_r1 ++ (wsX5_isWord_r2 ++ wsX5_isWord_r3)) : List Cond) [5, 6, 7, 8, 9, 10, 11, 12, 13, 14, 15, 16, 17, 18, 19, 20, 21, 22, 23, 24, 25, 26, 27, 28, 29, 30, 31, 32, 33, 34, 35, 36, 37, 38, 39, 40, 41, 42, 43, 44, 45, 46, 47, 48, 49, 50, 51, 52, 53, 54, 55, 56, 57, 58] rfl (by decide +kernel)) (goodIn_few (big := wsX5_readKind) (fun _ h9 => List.mem_cons_of_mem _ (List.mem_append_right _ h9)) gb_10)
  exact h
set_option maxRecDepth 20000 in
theorem gX5_readKind_X5_isWord : GoodIn wsX5_readKind (wsV RX5 66 RX5 yX5_isWord wsX5_isWord) := goodIn_app (goodIn_r _ [1, 2, 3, 4] rfl (by decide +kernel)) ggX5_readKind_X5_isWord
set_option maxRecDepth 20000 in
theorem ggX5_readKind_X5_fail : GoodIn wsX5_readKind wsX5_fail := by
  have h := goodIn_app (goodIn_r (big := wsX5_readKind) (.code yX5_fail cX5_fail 2 none :: ([.fieldLink RX5 15 "PathProber$Reader" "code" "I", .fieldLink RX5 24 "PathProber$Reader" "start" "I", .fieldLink RX5 9 "PathProber$Reader" "place" "I"]) : List Cond) [62, 63, 8, 64] rfl (by decide +kernel)) (goodIn_few (big := wsX5_readKind) (fun _ h9 => List.mem_cons_of_mem _ (List.mem_append_right _ h9)) gb_10)
  exact h
set_option maxRecDepth 20000 in
theorem gX5_readKind_X5_fail : GoodIn wsX5_readKind (wsV RX5 88 RX5 yX5_fail wsX5_fail) := goodIn_app (goodIn_r _ [59, 60, 61, 4] rfl (by decide +kernel)) ggX5_readKind_X5_fail
set_option maxRecDepth 20000 in
theorem ggX5_readKind_X5_step : GoodIn wsX5_readKind wsX5_step := by
  have h := goodIn_app (goodIn_r (big := wsX5_readKind) (.code yX5_step cX5_step 1 none :: ([.fieldLink RX5 15 "PathProber$Reader" "code" "I", .fieldLink RX5 27 "PathProber$Reader" "end" "I", .fieldLink RX5 24 "PathProber$Reader" "start" "I", .fieldLink RX5 18 "PathProber$Reader" "length" "I", .fieldLink RX5 44 "PathProber$Reader" "text" "[B", .fieldLink RX5 21 "PathProber$Reader" "token" "I", .methodLink RX5 167 yX5_isLetter, .static yX5_isLetter, .initialized RX5, .code yX5_isLetter cX5_isLetter 1 (some .boolean), .methodLink RX5 171 yX5_isDigit, .static yX5_isDigit, .code yX5_isDigit cX5_isDigit 1 (some .boolean)]) : List Cond) [68, 63, 7, 8, 69, 9, 6, 70, 71, 4, 72, 73, 74, 75] rfl (by decide +kernel)) (goodIn_few (big := wsX5_readKind) (fun _ h9 => List.mem_cons_of_mem _ (List.mem_append_right _ h9)) gb_10)
  exact h
set_option maxRecDepth 20000 in
theorem gX5_readKind_X5_step : GoodIn wsX5_readKind (wsV RX5 58 RX5 yX5_step wsX5_step) := goodIn_app (goodIn_r _ [65, 66, 67, 4] rfl (by decide +kernel)) ggX5_readKind_X5_step
theorem eX5_readKind_0q : (decode cX5_readKind 0 = .ok (.iconst (-1), 1)) ∧ (decode cX5_readKind 1 = .ok (.istore_n 1, 1)) ∧ (decode cX5_readKind 2 = .ok (.aload_n 0, 1)) ∧ (decode cX5_readKind 3 = .ok (.ldc 118, 2)) ∧ (decode cX5_readKind 5 = .ok (.invokevirtual 66, 3)) ∧ (decode cX5_readKind 8 = .ok (.ifCond .eq 8, 3)) ∧ (decode cX5_readKind 11 = .ok (.iconst 0, 1)) ∧ (decode cX5_readKind 12 = .ok (.istore_n 1, 1)) := by decide +kernel
theorem dX5_readKind_0 : decode cX5_readKind 0 = .ok (.iconst (-1), 1) := eX5_readKind_0q.1
theorem dX5_readKind_1 : decode cX5_readKind 1 = .ok (.istore_n 1, 1) := eX5_readKind_0q.2.1
theorem dX5_readKind_2 : decode cX5_readKind 2 = .ok (.aload_n 0, 1) := eX5_readKind_0q.2.2.1
theorem dX5_readKind_3 : decode cX5_readKind 3 = .ok (.ldc 118, 2) := eX5_readKind_0q.2.2.2.1
theorem dX5_readKind_5 : decode cX5_readKind 5 = .ok (.invokevirtual 66, 3) := eX5_readKind_0q.2.2.2.2.1
theorem dX5_readKind_8 : decode cX5_readKind 8 = .ok (.ifCond .eq 8, 3) := eX5_readKind_0q.2.2.2.2.2.1
theorem dX5_readKind_11 : decode cX5_readKind 11 = .ok (.iconst 0, 1) := eX5_readKind_0q.2.2.2.2.2.2.1
theorem dX5_readKind_12 : decode cX5_readKind 12 = .ok (.istore_n 1, 1) := eX5_readKind_0q.2.2.2.2.2.2.2
theorem eX5_readKind_13q : (decode cX5_readKind 13 = .ok (.goto 50, 3)) ∧ (decode cX5_readKind 16 = .ok (.aload_n 0, 1)) ∧ (decode cX5_readKind 17 = .ok (.ldc 120, 2)) ∧ (decode cX5_readKind 19 = .ok (.invokevirtual 66, 3)) ∧ (decode cX5_readKind 22 = .ok (.ifCond .eq 8, 3)) ∧ (decode cX5_readKind 25 = .ok (.iconst 1, 1)) ∧ (decode cX5_readKind 26 = .ok (.istore_n 1, 1)) ∧ (decode cX5_readKind 27 = .ok (.goto 36, 3)) := by decide +kernel
theorem dX5_readKind_13 : decode cX5_readKind 13 = .ok (.goto 50, 3) := eX5_readKind_13q.1
theorem dX5_readKind_16 : decode cX5_readKind 16 = .ok (.aload_n 0, 1) := eX5_readKind_13q.2.1
theorem dX5_readKind_17 : decode cX5_readKind 17 = .ok (.ldc 120, 2) := eX5_readKind_13q.2.2.1
theorem dX5_readKind_19 : decode cX5_readKind 19 = .ok (.invokevirtual 66, 3) := eX5_readKind_13q.2.2.2.1
theorem dX5_readKind_22 : decode cX5_readKind 22 = .ok (.ifCond .eq 8, 3) := eX5_readKind_13q.2.2.2.2.1
theorem dX5_readKind_25 : decode cX5_readKind 25 = .ok (.iconst 1, 1) := eX5_readKind_13q.2.2.2.2.2.1
theorem dX5_readKind_26 : decode cX5_readKind 26 = .ok (.istore_n 1, 1) := eX5_readKind_13q.2.2.2.2.2.2.1
theorem dX5_readKind_27 : decode cX5_readKind 27 = .ok (.goto 36, 3) := eX5_readKind_13q.2.2.2.2.2.2.2
theorem eX5_readKind_30q : (decode cX5_readKind 30 = .ok (.aload_n 0, 1)) ∧ (decode cX5_readKind 31 = .ok (.ldc 122, 2)) ∧ (decode cX5_readKind 33 = .ok (.invokevirtual 66, 3)) ∧ (decode cX5_readKind 36 = .ok (.ifCond .eq 8, 3)) ∧ (decode cX5_readKind 39 = .ok (.iconst 2, 1)) ∧ (decode cX5_readKind 40 = .ok (.istore_n 1, 1)) ∧ (decode cX5_readKind 41 = .ok (.goto 22, 3)) ∧ (decode cX5_readKind 44 = .ok (.aload_n 0, 1)) := by decide +kernel
theorem dX5_readKind_30 : decode cX5_readKind 30 = .ok (.aload_n 0, 1) := eX5_readKind_30q.1
theorem dX5_readKind_31 : decode cX5_readKind 31 = .ok (.ldc 122, 2) := eX5_readKind_30q.2.1
theorem dX5_readKind_33 : decode cX5_readKind 33 = .ok (.invokevirtual 66, 3) := eX5_readKind_30q.2.2.1
theorem dX5_readKind_36 : decode cX5_readKind 36 = .ok (.ifCond .eq 8, 3) := eX5_readKind_30q.2.2.2.1
theorem dX5_readKind_39 : decode cX5_readKind 39 = .ok (.iconst 2, 1) := eX5_readKind_30q.2.2.2.2.1
theorem dX5_readKind_40 : decode cX5_readKind 40 = .ok (.istore_n 1, 1) := eX5_readKind_30q.2.2.2.2.2.1
theorem dX5_readKind_41 : decode cX5_readKind 41 = .ok (.goto 22, 3) := eX5_readKind_30q.2.2.2.2.2.2.1
theorem dX5_readKind_44 : decode cX5_readKind 44 = .ok (.aload_n 0, 1) := eX5_readKind_30q.2.2.2.2.2.2.2
theorem eX5_readKind_45q : (decode cX5_readKind 45 = .ok (.ldc 124, 2)) ∧ (decode cX5_readKind 47 = .ok (.invokevirtual 66, 3)) ∧ (decode cX5_readKind 50 = .ok (.ifCond .eq 8, 3)) ∧ (decode cX5_readKind 53 = .ok (.iconst 3, 1)) ∧ (decode cX5_readKind 54 = .ok (.istore_n 1, 1)) ∧ (decode cX5_readKind 55 = .ok (.goto 8, 3)) ∧ (decode cX5_readKind 58 = .ok (.aload_n 0, 1)) ∧ (decode cX5_readKind 59 = .ok (.iconst 1, 1)) := by decide +kernel
theorem dX5_readKind_45 : decode cX5_readKind 45 = .ok (.ldc 124, 2) := eX5_readKind_45q.1
theorem dX5_readKind_47 : decode cX5_readKind 47 = .ok (.invokevirtual 66, 3) := eX5_readKind_45q.2.1
theorem dX5_readKind_50 : decode cX5_readKind 50 = .ok (.ifCond .eq 8, 3) := eX5_readKind_45q.2.2.1
theorem dX5_readKind_53 : decode cX5_readKind 53 = .ok (.iconst 3, 1) := eX5_readKind_45q.2.2.2.1
theorem dX5_readKind_54 : decode cX5_readKind 54 = .ok (.istore_n 1, 1) := eX5_readKind_45q.2.2.2.2.1
theorem dX5_readKind_55 : decode cX5_readKind 55 = .ok (.goto 8, 3) := eX5_readKind_45q.2.2.2.2.2.1
theorem dX5_readKind_58 : decode cX5_readKind 58 = .ok (.aload_n 0, 1) := eX5_readKind_45q.2.2.2.2.2.2.1
theorem dX5_readKind_59 : decode cX5_readKind 59 = .ok (.iconst 1, 1) := eX5_readKind_45q.2.2.2.2.2.2.2
theorem eX5_readKind_60q : (decode cX5_readKind 60 = .ok (.invokevirtual 88, 3)) ∧ (decode cX5_readKind 63 = .ok (.aload_n 0, 1)) ∧ (decode cX5_readKind 64 = .ok (.invokevirtual 58, 3)) ∧ (decode cX5_readKind 67 = .ok (.iload_n 1, 1)) ∧ (decode cX5_readKind 68 = .ok (.ireturn, 1)) := by decide +kernel
theorem dX5_readKind_60 : decode cX5_readKind 60 = .ok (.invokevirtual 88, 3) := eX5_readKind_60q.1
theorem dX5_readKind_63 : decode cX5_readKind 63 = .ok (.aload_n 0, 1) := eX5_readKind_60q.2.1
theorem dX5_readKind_64 : decode cX5_readKind 64 = .ok (.invokevirtual 58, 3) := eX5_readKind_60q.2.2.1
theorem dX5_readKind_67 : decode cX5_readKind 67 = .ok (.iload_n 1, 1) := eX5_readKind_60q.2.2.2.1
theorem dX5_readKind_68 : decode cX5_readKind 68 = .ok (.ireturn, 1) := eX5_readKind_60q.2.2.2.2
set_option maxRecDepth 20000 in
theorem ggX5_readManner_X5_isWord : GoodIn wsX5_readManner wsX5_isWord := by
  have h := goodIn_app (goodIn_r (big := wsX5_readManner) (.code yX5_isWord cX5_isWord 3 (some .boolean) :: (wsX5_isWord_r1 ++ (wsX5_isWord_r2 ++ wsX5_isWord_r3)) : List Cond) [5, 6, 7, 8, 9, 10, 11, 12, 13, 14, 15, 16, 17, 18, 19, 20, 21, 22, 23, 24, 25, 26, 27, 28, 29, 30, 31, 32, 33, 34, 35, 36, 37, 38, 39, 40, 41, 42, 43, 44, 45, 46, 47, 48, 49, 50, 51, 52, 53, 54, 55, 56, 57, 58] rfl (by decide +kernel)) (goodIn_few (big := wsX5_readManner) (fun _ h9 => List.mem_cons_of_mem _ (List.mem_append_right _ h9)) gb_10)
  exact h
set_option maxRecDepth 20000 in
theorem gX5_readManner_X5_isWord : GoodIn wsX5_readManner (wsV RX5 66 RX5 yX5_isWord wsX5_isWord) := goodIn_app (goodIn_r _ [1, 2, 3, 4] rfl (by decide +kernel)) ggX5_readManner_X5_isWord
set_option maxRecDepth 20000 in
theorem ggX5_readManner_X5_step : GoodIn wsX5_readManner wsX5_step := by
  have h := goodIn_app (goodIn_r (big := wsX5_readManner) (.code yX5_step cX5_step 1 none :: ([.fieldLink RX5 15 "PathProber$Reader" "code" "I", .fieldLink RX5 27 "PathProber$Reader" "end" "I", .fieldLink RX5 24 "PathProber$Reader" "start" "I", .fieldLink RX5 18 "PathProber$Reader" "length" "I", .fieldLink RX5 44 "PathProber$Reader" "text" "[B", .fieldLink RX5 21 "PathProber$Reader" "token" "I", .methodLink RX5 167 yX5_isLetter, .static yX5_isLetter, .initialized RX5, .code yX5_isLetter cX5_isLetter 1 (some .boolean), .methodLink RX5 171 yX5_isDigit, .static yX5_isDigit, .code yX5_isDigit cX5_isDigit 1 (some .boolean)]) : List Cond) [62, 63, 7, 8, 64, 9, 6, 65, 66, 4, 67, 68, 69, 70] rfl (by decide +kernel)) (goodIn_few (big := wsX5_readManner) (fun _ h9 => List.mem_cons_of_mem _ (List.mem_append_right _ h9)) gb_10)
  exact h
set_option maxRecDepth 20000 in
theorem gX5_readManner_X5_step : GoodIn wsX5_readManner (wsV RX5 58 RX5 yX5_step wsX5_step) := goodIn_app (goodIn_r _ [59, 60, 61, 4] rfl (by decide +kernel)) ggX5_readManner_X5_step
theorem eX5_readManner_0q : (decode cX5_readManner 0 = .ok (.iconst 0, 1)) ∧ (decode cX5_readManner 1 = .ok (.istore_n 1, 1)) ∧ (decode cX5_readManner 2 = .ok (.aload_n 0, 1)) ∧ (decode cX5_readManner 3 = .ok (.ldc 126, 2)) ∧ (decode cX5_readManner 5 = .ok (.invokevirtual 66, 3)) ∧ (decode cX5_readManner 8 = .ok (.ifCond .eq 8, 3)) ∧ (decode cX5_readManner 11 = .ok (.iconst 1, 1)) ∧ (decode cX5_readManner 12 = .ok (.istore_n 1, 1)) := by decide +kernel
theorem dX5_readManner_0 : decode cX5_readManner 0 = .ok (.iconst 0, 1) := eX5_readManner_0q.1
theorem dX5_readManner_1 : decode cX5_readManner 1 = .ok (.istore_n 1, 1) := eX5_readManner_0q.2.1
theorem dX5_readManner_2 : decode cX5_readManner 2 = .ok (.aload_n 0, 1) := eX5_readManner_0q.2.2.1
theorem dX5_readManner_3 : decode cX5_readManner 3 = .ok (.ldc 126, 2) := eX5_readManner_0q.2.2.2.1
theorem dX5_readManner_5 : decode cX5_readManner 5 = .ok (.invokevirtual 66, 3) := eX5_readManner_0q.2.2.2.2.1
theorem dX5_readManner_8 : decode cX5_readManner 8 = .ok (.ifCond .eq 8, 3) := eX5_readManner_0q.2.2.2.2.2.1
theorem dX5_readManner_11 : decode cX5_readManner 11 = .ok (.iconst 1, 1) := eX5_readManner_0q.2.2.2.2.2.2.1
theorem dX5_readManner_12 : decode cX5_readManner 12 = .ok (.istore_n 1, 1) := eX5_readManner_0q.2.2.2.2.2.2.2
theorem eX5_readManner_13q : (decode cX5_readManner 13 = .ok (.goto 14, 3)) ∧ (decode cX5_readManner 16 = .ok (.aload_n 0, 1)) ∧ (decode cX5_readManner 17 = .ok (.ldc 128, 2)) ∧ (decode cX5_readManner 19 = .ok (.invokevirtual 66, 3)) ∧ (decode cX5_readManner 22 = .ok (.ifCond .eq 5, 3)) ∧ (decode cX5_readManner 25 = .ok (.iconst 2, 1)) ∧ (decode cX5_readManner 26 = .ok (.istore_n 1, 1)) ∧ (decode cX5_readManner 27 = .ok (.iload_n 1, 1)) := by decide +kernel
theorem dX5_readManner_13 : decode cX5_readManner 13 = .ok (.goto 14, 3) := eX5_readManner_13q.1
theorem dX5_readManner_16 : decode cX5_readManner 16 = .ok (.aload_n 0, 1) := eX5_readManner_13q.2.1
theorem dX5_readManner_17 : decode cX5_readManner 17 = .ok (.ldc 128, 2) := eX5_readManner_13q.2.2.1
theorem dX5_readManner_19 : decode cX5_readManner 19 = .ok (.invokevirtual 66, 3) := eX5_readManner_13q.2.2.2.1
theorem dX5_readManner_22 : decode cX5_readManner 22 = .ok (.ifCond .eq 5, 3) := eX5_readManner_13q.2.2.2.2.1
theorem dX5_readManner_25 : decode cX5_readManner 25 = .ok (.iconst 2, 1) := eX5_readManner_13q.2.2.2.2.2.1
theorem dX5_readManner_26 : decode cX5_readManner 26 = .ok (.istore_n 1, 1) := eX5_readManner_13q.2.2.2.2.2.2.1
theorem dX5_readManner_27 : decode cX5_readManner 27 = .ok (.iload_n 1, 1) := eX5_readManner_13q.2.2.2.2.2.2.2
theorem eX5_readManner_28q : (decode cX5_readManner 28 = .ok (.ifCond .eq 7, 3)) ∧ (decode cX5_readManner 31 = .ok (.aload_n 0, 1)) ∧ (decode cX5_readManner 32 = .ok (.invokevirtual 58, 3)) ∧ (decode cX5_readManner 35 = .ok (.iload_n 1, 1)) ∧ (decode cX5_readManner 36 = .ok (.ireturn, 1)) := by decide +kernel
theorem dX5_readManner_28 : decode cX5_readManner 28 = .ok (.ifCond .eq 7, 3) := eX5_readManner_28q.1
theorem dX5_readManner_31 : decode cX5_readManner 31 = .ok (.aload_n 0, 1) := eX5_readManner_28q.2.1
theorem dX5_readManner_32 : decode cX5_readManner 32 = .ok (.invokevirtual 58, 3) := eX5_readManner_28q.2.2.1
theorem dX5_readManner_35 : decode cX5_readManner 35 = .ok (.iload_n 1, 1) := eX5_readManner_28q.2.2.2.1
theorem dX5_readManner_36 : decode cX5_readManner 36 = .ok (.ireturn, 1) := eX5_readManner_28q.2.2.2.2
set_option maxRecDepth 20000 in
theorem ggX5_readLink_X5_fail : GoodIn wsX5_readLink wsX5_fail := by
  have h := goodIn_app (goodIn_r (big := wsX5_readLink) (.code yX5_fail cX5_fail 2 none :: ([.fieldLink RX5 15 "PathProber$Reader" "code" "I", .fieldLink RX5 24 "PathProber$Reader" "start" "I", .fieldLink RX5 9 "PathProber$Reader" "place" "I"]) : List Cond) [10, 3, 11, 12] rfl (by decide +kernel)) (goodIn_few (big := wsX5_readLink) (fun _ h9 => List.mem_cons_of_mem _ (List.mem_append_left _ (List.mem_append_right _ h9))) gb_10)
  exact h
set_option maxRecDepth 20000 in
theorem gX5_readLink_X5_fail : GoodIn wsX5_readLink (wsV RX5 88 RX5 yX5_fail wsX5_fail) := goodIn_app (goodIn_r _ [6, 7, 8, 9] rfl (by decide +kernel)) ggX5_readLink_X5_fail
set_option maxRecDepth 20000 in
theorem ggX5_readLink_X5_step : GoodIn wsX5_readLink wsX5_step := by
  have h := goodIn_app (goodIn_r (big := wsX5_readLink) (.code yX5_step cX5_step 1 none :: ([.fieldLink RX5 15 "PathProber$Reader" "code" "I", .fieldLink RX5 27 "PathProber$Reader" "end" "I", .fieldLink RX5 24 "PathProber$Reader" "start" "I", .fieldLink RX5 18 "PathProber$Reader" "length" "I", .fieldLink RX5 44 "PathProber$Reader" "text" "[B", .fieldLink RX5 21 "PathProber$Reader" "token" "I", .methodLink RX5 167 yX5_isLetter, .static yX5_isLetter, .initialized RX5, .code yX5_isLetter cX5_isLetter 1 (some .boolean), .methodLink RX5 171 yX5_isDigit, .static yX5_isDigit, .code yX5_isDigit cX5_isDigit 1 (some .boolean)]) : List Cond) [16, 3, 17, 11, 18, 19, 20, 21, 22, 9, 23, 24, 25, 26] rfl (by decide +kernel)) (goodIn_few (big := wsX5_readLink) (fun _ h9 => List.mem_cons_of_mem _ (List.mem_append_left _ (List.mem_append_right _ h9))) gb_10)
  exact h
set_option maxRecDepth 20000 in
theorem gX5_readLink_X5_step : GoodIn wsX5_readLink (wsV RX5 58 RX5 yX5_step wsX5_step) := goodIn_app (goodIn_r _ [13, 14, 15, 9] rfl (by decide +kernel)) ggX5_readLink_X5_step
set_option maxRecDepth 20000 in
theorem ggX5_readLink_X5_routerHere : GoodIn wsX5_readLink wsX5_routerHere := by
  have h := goodIn_app (goodIn_app (goodIn_r (big := wsX5_readLink) (.code yX5_routerHere cX5_routerHere 2 (some .int) :: ([.fieldLink RX5 15 "PathProber$Reader" "code" "I", .fieldLink RX5 34 "PathProber$Reader" "net" "LPathProber$Net;", .fieldLink RX5 92 "PathProber$Net" "routers" "I", .methodLink RX5 164 yX5_numberHere, .instanceMethod yX5_numberHere, .selects RX5 yX5_numberHere yX5_numberHere, .initialized RX5, .code yX5_numberHere cX5_numberHere 5 (some .int), .fieldLink RX5 21 "PathProber$Reader" "token" "I", .fieldLink RX5 27 "PathProber$Reader" "end" "I", .fieldLink RX5 24 "PathProber$Reader" "start" "I", .fieldLink RX5 44 "PathProber$Reader" "text" "[B", .methodLink RX5 88 yX5_fail, .instanceMethod yX5_fail, .selects RX5 yX5_fail yX5_fail, .code yX5_fail cX5_fail 2 none, .fieldLink RX5 9 "PathProber$Reader" "place" "I"]) : List Cond) [30, 3, 1, 31, 32, 33, 34, 9, 35, 20, 17, 11, 19, 6, 7, 8, 10, 12] rfl (by decide +kernel)) (goodIn_few (big := wsX5_readLink) (fun _ h9 => List.mem_cons_of_mem _ (List.mem_append_left _ (List.mem_append_right _ h9))) gb_10)) (goodIn_few (big := wsX5_readLink) (fun _ h9 => List.mem_cons_of_mem _ (List.mem_append_right _ h9)) gb_2)
  exact h
set_option maxRecDepth 20000 in
theorem gX5_readLink_X5_routerHere : GoodIn wsX5_readLink (wsV RX5 133 RX5 yX5_routerHere wsX5_routerHere) := goodIn_app (goodIn_r _ [27, 28, 29, 9] rfl (by decide +kernel)) ggX5_readLink_X5_routerHere
set_option maxRecDepth 20000 in
theorem ggX5_readLink_X2_linksFrom : GoodIn wsX5_readLink wsX2_linksFrom := by
  have h := goodIn_app (goodIn_r (big := wsX5_readLink) (.code yX2_linksFrom cX2_linksFrom 4 (some .int) :: ([.fieldLink RX2 37 "PathProber$Net" "links" "I", .fieldLink RX2 24 "PathProber$Net" "from" "[I"]) : List Cond) [40, 41, 42] rfl (by decide +kernel)) (goodIn_few (big := wsX5_readLink) (fun _ h9 => List.mem_cons_of_mem _ (List.mem_append_right _ h9)) gb_2)
  exact h
set_option maxRecDepth 20000 in
theorem gX5_readLink_X2_linksFrom : GoodIn wsX5_readLink (wsV RX5 136 RX2 yX2_linksFrom wsX2_linksFrom) := goodIn_app (goodIn_r _ [36, 37, 38, 39] rfl (by decide +kernel)) ggX5_readLink_X2_linksFrom
set_option maxRecDepth 20000 in
theorem ggX5_readLink_J6_bitCount_0f7a4 : GoodIn wsX5_readLink wsJ6_bitCount_0f7a4 := goodIn_r _ [46, 47, 48, 49] rfl (by decide +kernel)
set_option maxRecDepth 20000 in
theorem gX5_readLink_J6_bitCount_0f7a4 : GoodIn wsX5_readLink (va_wsS RX5 140 yJ6_bitCount_0f7a4 wsJ6_bitCount_0f7a4) := goodIn_app (goodIn_r _ [43, 44, 45] rfl (by decide +kernel)) ggX5_readLink_J6_bitCount_0f7a4
set_option maxRecDepth 20000 in
theorem ggX5_readLink_X2_hasLinkBetween : GoodIn wsX5_readLink wsX2_hasLinkBetween := by
  have h := goodIn_app (goodIn_r (big := wsX5_readLink) (.code yX2_hasLinkBetween cX2_hasLinkBetween 4 (some .boolean) :: ([.fieldLink RX2 37 "PathProber$Net" "links" "I", .fieldLink RX2 24 "PathProber$Net" "from" "[I", .fieldLink RX2 27 "PathProber$Net" "to" "[I"]) : List Cond) [53, 41, 42, 54] rfl (by decide +kernel)) (goodIn_few (big := wsX5_readLink) (fun _ h9 => List.mem_cons_of_mem _ (List.mem_append_right _ h9)) gb_2)
  exact h
set_option maxRecDepth 20000 in
theorem gX5_readLink_X2_hasLinkBetween : GoodIn wsX5_readLink (wsV RX5 145 RX2 yX2_hasLinkBetween wsX2_hasLinkBetween) := goodIn_app (goodIn_r _ [50, 51, 52, 39] rfl (by decide +kernel)) ggX5_readLink_X2_hasLinkBetween
theorem eX5_readLink_0q : (decode cX5_readLink 0 = .ok (.aload_n 0, 1)) ∧ (decode cX5_readLink 1 = .ok (.getfield 34, 3)) ∧ (decode cX5_readLink 4 = .ok (.getfield 130, 3)) ∧ (decode cX5_readLink 7 = .ok (.bipush 20, 2)) ∧ (decode cX5_readLink 9 = .ok (.if_icmp .ne 9, 3)) ∧ (decode cX5_readLink 12 = .ok (.aload_n 0, 1)) ∧ (decode cX5_readLink 13 = .ok (.iconst 2, 1)) ∧ (decode cX5_readLink 14 = .ok (.invokevirtual 88, 3)) := by decide +kernel
theorem dX5_readLink_0 : decode cX5_readLink 0 = .ok (.aload_n 0, 1) := eX5_readLink_0q.1
theorem dX5_readLink_1 : decode cX5_readLink 1 = .ok (.getfield 34, 3) := eX5_readLink_0q.2.1
theorem dX5_readLink_4 : decode cX5_readLink 4 = .ok (.getfield 130, 3) := eX5_readLink_0q.2.2.1
theorem dX5_readLink_7 : decode cX5_readLink 7 = .ok (.bipush 20, 2) := eX5_readLink_0q.2.2.2.1
theorem dX5_readLink_9 : decode cX5_readLink 9 = .ok (.if_icmp .ne 9, 3) := eX5_readLink_0q.2.2.2.2.1
theorem dX5_readLink_12 : decode cX5_readLink 12 = .ok (.aload_n 0, 1) := eX5_readLink_0q.2.2.2.2.2.1
theorem dX5_readLink_13 : decode cX5_readLink 13 = .ok (.iconst 2, 1) := eX5_readLink_0q.2.2.2.2.2.2.1
theorem dX5_readLink_14 : decode cX5_readLink 14 = .ok (.invokevirtual 88, 3) := eX5_readLink_0q.2.2.2.2.2.2.2
theorem eX5_readLink_17q : (decode cX5_readLink 17 = .ok (.return_, 1)) ∧ (decode cX5_readLink 18 = .ok (.aload_n 0, 1)) ∧ (decode cX5_readLink 19 = .ok (.invokevirtual 58, 3)) ∧ (decode cX5_readLink 22 = .ok (.aload_n 0, 1)) ∧ (decode cX5_readLink 23 = .ok (.invokevirtual 133, 3)) ∧ (decode cX5_readLink 26 = .ok (.istore_n 1, 1)) ∧ (decode cX5_readLink 27 = .ok (.aload_n 0, 1)) ∧ (decode cX5_readLink 28 = .ok (.getfield 15, 3)) := by decide +kernel
theorem dX5_readLink_17 : decode cX5_readLink 17 = .ok (.return_, 1) := eX5_readLink_17q.1
theorem dX5_readLink_18 : decode cX5_readLink 18 = .ok (.aload_n 0, 1) := eX5_readLink_17q.2.1
theorem dX5_readLink_19 : decode cX5_readLink 19 = .ok (.invokevirtual 58, 3) := eX5_readLink_17q.2.2.1
theorem dX5_readLink_22 : decode cX5_readLink 22 = .ok (.aload_n 0, 1) := eX5_readLink_17q.2.2.2.1
theorem dX5_readLink_23 : decode cX5_readLink 23 = .ok (.invokevirtual 133, 3) := eX5_readLink_17q.2.2.2.2.1
theorem dX5_readLink_26 : decode cX5_readLink 26 = .ok (.istore_n 1, 1) := eX5_readLink_17q.2.2.2.2.2.1
theorem dX5_readLink_27 : decode cX5_readLink 27 = .ok (.aload_n 0, 1) := eX5_readLink_17q.2.2.2.2.2.2.1
theorem dX5_readLink_28 : decode cX5_readLink 28 = .ok (.getfield 15, 3) := eX5_readLink_17q.2.2.2.2.2.2.2
theorem eX5_readLink_31q : (decode cX5_readLink 31 = .ok (.ifCond .ne 23, 3)) ∧ (decode cX5_readLink 34 = .ok (.aload_n 0, 1)) ∧ (decode cX5_readLink 35 = .ok (.getfield 34, 3)) ∧ (decode cX5_readLink 38 = .ok (.iload_n 1, 1)) ∧ (decode cX5_readLink 39 = .ok (.invokevirtual 136, 3)) ∧ (decode cX5_readLink 42 = .ok (.invokestatic 140, 3)) ∧ (decode cX5_readLink 45 = .ok (.iconst 4, 1)) ∧ (decode cX5_readLink 46 = .ok (.if_icmp .ne 8, 3)) := by decide +kernel
theorem dX5_readLink_31 : decode cX5_readLink 31 = .ok (.ifCond .ne 23, 3) := eX5_readLink_31q.1
theorem dX5_readLink_34 : decode cX5_readLink 34 = .ok (.aload_n 0, 1) := eX5_readLink_31q.2.1
theorem dX5_readLink_35 : decode cX5_readLink 35 = .ok (.getfield 34, 3) := eX5_readLink_31q.2.2.1
theorem dX5_readLink_38 : decode cX5_readLink 38 = .ok (.iload_n 1, 1) := eX5_readLink_31q.2.2.2.1
theorem dX5_readLink_39 : decode cX5_readLink 39 = .ok (.invokevirtual 136, 3) := eX5_readLink_31q.2.2.2.2.1
theorem dX5_readLink_42 : decode cX5_readLink 42 = .ok (.invokestatic 140, 3) := eX5_readLink_31q.2.2.2.2.2.1
theorem dX5_readLink_45 : decode cX5_readLink 45 = .ok (.iconst 4, 1) := eX5_readLink_31q.2.2.2.2.2.2.1
theorem dX5_readLink_46 : decode cX5_readLink 46 = .ok (.if_icmp .ne 8, 3) := eX5_readLink_31q.2.2.2.2.2.2.2
theorem eX5_readLink_49q : (decode cX5_readLink 49 = .ok (.aload_n 0, 1)) ∧ (decode cX5_readLink 50 = .ok (.iconst 2, 1)) ∧ (decode cX5_readLink 51 = .ok (.invokevirtual 88, 3)) ∧ (decode cX5_readLink 54 = .ok (.aload_n 0, 1)) ∧ (decode cX5_readLink 55 = .ok (.invokevirtual 58, 3)) ∧ (decode cX5_readLink 58 = .ok (.aload_n 0, 1)) ∧ (decode cX5_readLink 59 = .ok (.invokevirtual 133, 3)) ∧ (decode cX5_readLink 62 = .ok (.istore_n 2, 1)) := by decide +kernel
theorem dX5_readLink_49 : decode cX5_readLink 49 = .ok (.aload_n 0, 1) := eX5_readLink_49q.1
theorem dX5_readLink_50 : decode cX5_readLink 50 = .ok (.iconst 2, 1) := eX5_readLink_49q.2.1
theorem dX5_readLink_51 : decode cX5_readLink 51 = .ok (.invokevirtual 88, 3) := eX5_readLink_49q.2.2.1
theorem dX5_readLink_54 : decode cX5_readLink 54 = .ok (.aload_n 0, 1) := eX5_readLink_49q.2.2.2.1
theorem dX5_readLink_55 : decode cX5_readLink 55 = .ok (.invokevirtual 58, 3) := eX5_readLink_49q.2.2.2.2.1
theorem dX5_readLink_58 : decode cX5_readLink 58 = .ok (.aload_n 0, 1) := eX5_readLink_49q.2.2.2.2.2.1
theorem dX5_readLink_59 : decode cX5_readLink 59 = .ok (.invokevirtual 133, 3) := eX5_readLink_49q.2.2.2.2.2.2.1
theorem dX5_readLink_62 : decode cX5_readLink 62 = .ok (.istore_n 2, 1) := eX5_readLink_49q.2.2.2.2.2.2.2
theorem eX5_readLink_63q : (decode cX5_readLink 63 = .ok (.aload_n 0, 1)) ∧ (decode cX5_readLink 64 = .ok (.getfield 15, 3)) ∧ (decode cX5_readLink 67 = .ok (.ifCond .ne 25, 3)) ∧ (decode cX5_readLink 70 = .ok (.iload_n 2, 1)) ∧ (decode cX5_readLink 71 = .ok (.iload_n 1, 1)) ∧ (decode cX5_readLink 72 = .ok (.if_icmp .le 15, 3)) ∧ (decode cX5_readLink 75 = .ok (.aload_n 0, 1)) ∧ (decode cX5_readLink 76 = .ok (.getfield 34, 3)) := by decide +kernel
theorem dX5_readLink_63 : decode cX5_readLink 63 = .ok (.aload_n 0, 1) := eX5_readLink_63q.1
theorem dX5_readLink_64 : decode cX5_readLink 64 = .ok (.getfield 15, 3) := eX5_readLink_63q.2.1
theorem dX5_readLink_67 : decode cX5_readLink 67 = .ok (.ifCond .ne 25, 3) := eX5_readLink_63q.2.2.1
theorem dX5_readLink_70 : decode cX5_readLink 70 = .ok (.iload_n 2, 1) := eX5_readLink_63q.2.2.2.1
theorem dX5_readLink_71 : decode cX5_readLink 71 = .ok (.iload_n 1, 1) := eX5_readLink_63q.2.2.2.2.1
theorem dX5_readLink_72 : decode cX5_readLink 72 = .ok (.if_icmp .le 15, 3) := eX5_readLink_63q.2.2.2.2.2.1
theorem dX5_readLink_75 : decode cX5_readLink 75 = .ok (.aload_n 0, 1) := eX5_readLink_63q.2.2.2.2.2.2.1
theorem dX5_readLink_76 : decode cX5_readLink 76 = .ok (.getfield 34, 3) := eX5_readLink_63q.2.2.2.2.2.2.2
theorem eX5_readLink_79q : (decode cX5_readLink 79 = .ok (.iload_n 1, 1)) ∧ (decode cX5_readLink 80 = .ok (.iload_n 2, 1)) ∧ (decode cX5_readLink 81 = .ok (.invokevirtual 145, 3)) ∧ (decode cX5_readLink 84 = .ok (.ifCond .eq 8, 3)) ∧ (decode cX5_readLink 87 = .ok (.aload_n 0, 1)) ∧ (decode cX5_readLink 88 = .ok (.iconst 5, 1)) ∧ (decode cX5_readLink 89 = .ok (.invokevirtual 88, 3)) ∧ (decode cX5_readLink 92 = .ok (.aload_n 0, 1)) := by decide +kernel
theorem dX5_readLink_79 : decode cX5_readLink 79 = .ok (.iload_n 1, 1) := eX5_readLink_79q.1
theorem dX5_readLink_80 : decode cX5_readLink 80 = .ok (.iload_n 2, 1) := eX5_readLink_79q.2.1
theorem dX5_readLink_81 : decode cX5_readLink 81 = .ok (.invokevirtual 145, 3) := eX5_readLink_79q.2.2.1
theorem dX5_readLink_84 : decode cX5_readLink 84 = .ok (.ifCond .eq 8, 3) := eX5_readLink_79q.2.2.2.1
theorem dX5_readLink_87 : decode cX5_readLink 87 = .ok (.aload_n 0, 1) := eX5_readLink_79q.2.2.2.2.1
theorem dX5_readLink_88 : decode cX5_readLink 88 = .ok (.iconst 5, 1) := eX5_readLink_79q.2.2.2.2.2.1
theorem dX5_readLink_89 : decode cX5_readLink 89 = .ok (.invokevirtual 88, 3) := eX5_readLink_79q.2.2.2.2.2.2.1
theorem dX5_readLink_92 : decode cX5_readLink 92 = .ok (.aload_n 0, 1) := eX5_readLink_79q.2.2.2.2.2.2.2
theorem eX5_readLink_93q : (decode cX5_readLink 93 = .ok (.invokevirtual 58, 3)) ∧ (decode cX5_readLink 96 = .ok (.aload_n 0, 1)) ∧ (decode cX5_readLink 97 = .ok (.getfield 15, 3)) ∧ (decode cX5_readLink 100 = .ok (.ifCond .ne 48, 3)) ∧ (decode cX5_readLink 103 = .ok (.aload_n 0, 1)) ∧ (decode cX5_readLink 104 = .ok (.getfield 34, 3)) ∧ (decode cX5_readLink 107 = .ok (.getfield 149, 3)) ∧ (decode cX5_readLink 110 = .ok (.aload_n 0, 1)) := by decide +kernel
theorem dX5_readLink_93 : decode cX5_readLink 93 = .ok (.invokevirtual 58, 3) := eX5_readLink_93q.1
theorem dX5_readLink_96 : decode cX5_readLink 96 = .ok (.aload_n 0, 1) := eX5_readLink_93q.2.1
theorem dX5_readLink_97 : decode cX5_readLink 97 = .ok (.getfield 15, 3) := eX5_readLink_93q.2.2.1
theorem dX5_readLink_100 : decode cX5_readLink 100 = .ok (.ifCond .ne 48, 3) := eX5_readLink_93q.2.2.2.1
theorem dX5_readLink_103 : decode cX5_readLink 103 = .ok (.aload_n 0, 1) := eX5_readLink_93q.2.2.2.2.1
theorem dX5_readLink_104 : decode cX5_readLink 104 = .ok (.getfield 34, 3) := eX5_readLink_93q.2.2.2.2.2.1
theorem dX5_readLink_107 : decode cX5_readLink 107 = .ok (.getfield 149, 3) := eX5_readLink_93q.2.2.2.2.2.2.1
theorem dX5_readLink_110 : decode cX5_readLink 110 = .ok (.aload_n 0, 1) := eX5_readLink_93q.2.2.2.2.2.2.2
theorem eX5_readLink_111q : (decode cX5_readLink 111 = .ok (.getfield 34, 3)) ∧ (decode cX5_readLink 114 = .ok (.getfield 130, 3)) ∧ (decode cX5_readLink 117 = .ok (.iload_n 1, 1)) ∧ (decode cX5_readLink 118 = .ok (.iastore, 1)) ∧ (decode cX5_readLink 119 = .ok (.aload_n 0, 1)) ∧ (decode cX5_readLink 120 = .ok (.getfield 34, 3)) ∧ (decode cX5_readLink 123 = .ok (.getfield 152, 3)) ∧ (decode cX5_readLink 126 = .ok (.aload_n 0, 1)) := by decide +kernel
theorem dX5_readLink_111 : decode cX5_readLink 111 = .ok (.getfield 34, 3) := eX5_readLink_111q.1
theorem dX5_readLink_114 : decode cX5_readLink 114 = .ok (.getfield 130, 3) := eX5_readLink_111q.2.1
theorem dX5_readLink_117 : decode cX5_readLink 117 = .ok (.iload_n 1, 1) := eX5_readLink_111q.2.2.1
theorem dX5_readLink_118 : decode cX5_readLink 118 = .ok (.iastore, 1) := eX5_readLink_111q.2.2.2.1
theorem dX5_readLink_119 : decode cX5_readLink 119 = .ok (.aload_n 0, 1) := eX5_readLink_111q.2.2.2.2.1
theorem dX5_readLink_120 : decode cX5_readLink 120 = .ok (.getfield 34, 3) := eX5_readLink_111q.2.2.2.2.2.1
theorem dX5_readLink_123 : decode cX5_readLink 123 = .ok (.getfield 152, 3) := eX5_readLink_111q.2.2.2.2.2.2.1
theorem dX5_readLink_126 : decode cX5_readLink 126 = .ok (.aload_n 0, 1) := eX5_readLink_111q.2.2.2.2.2.2.2
theorem eX5_readLink_127q : (decode cX5_readLink 127 = .ok (.getfield 34, 3)) ∧ (decode cX5_readLink 130 = .ok (.getfield 130, 3)) ∧ (decode cX5_readLink 133 = .ok (.iload_n 2, 1)) ∧ (decode cX5_readLink 134 = .ok (.iastore, 1)) ∧ (decode cX5_readLink 135 = .ok (.aload_n 0, 1)) ∧ (decode cX5_readLink 136 = .ok (.getfield 34, 3)) ∧ (decode cX5_readLink 139 = .ok (.dup, 1)) ∧ (decode cX5_readLink 140 = .ok (.getfield 130, 3)) := by decide +kernel
theorem dX5_readLink_127 : decode cX5_readLink 127 = .ok (.getfield 34, 3) := eX5_readLink_127q.1
theorem dX5_readLink_130 : decode cX5_readLink 130 = .ok (.getfield 130, 3) := eX5_readLink_127q.2.1
theorem dX5_readLink_133 : decode cX5_readLink 133 = .ok (.iload_n 2, 1) := eX5_readLink_127q.2.2.1
theorem dX5_readLink_134 : decode cX5_readLink 134 = .ok (.iastore, 1) := eX5_readLink_127q.2.2.2.1
theorem dX5_readLink_135 : decode cX5_readLink 135 = .ok (.aload_n 0, 1) := eX5_readLink_127q.2.2.2.2.1
theorem dX5_readLink_136 : decode cX5_readLink 136 = .ok (.getfield 34, 3) := eX5_readLink_127q.2.2.2.2.2.1
theorem dX5_readLink_139 : decode cX5_readLink 139 = .ok (.dup, 1) := eX5_readLink_127q.2.2.2.2.2.2.1
theorem dX5_readLink_140 : decode cX5_readLink 140 = .ok (.getfield 130, 3) := eX5_readLink_127q.2.2.2.2.2.2.2
theorem eX5_readLink_143q : (decode cX5_readLink 143 = .ok (.iconst 1, 1)) ∧ (decode cX5_readLink 144 = .ok (.iadd, 1)) ∧ (decode cX5_readLink 145 = .ok (.putfield 130, 3)) ∧ (decode cX5_readLink 148 = .ok (.return_, 1)) := by decide +kernel
theorem dX5_readLink_143 : decode cX5_readLink 143 = .ok (.iconst 1, 1) := eX5_readLink_143q.1
theorem dX5_readLink_144 : decode cX5_readLink 144 = .ok (.iadd, 1) := eX5_readLink_143q.2.1
theorem dX5_readLink_145 : decode cX5_readLink 145 = .ok (.putfield 130, 3) := eX5_readLink_143q.2.2.1
theorem dX5_readLink_148 : decode cX5_readLink 148 = .ok (.return_, 1) := eX5_readLink_143q.2.2.2
set_option maxRecDepth 20000 in
theorem ggX5_readGoal_X5_fail : GoodIn wsX5_readGoal wsX5_fail := by
  have h := goodIn_app (goodIn_r (big := wsX5_readGoal) (.code yX5_fail cX5_fail 2 none :: ([.fieldLink RX5 15 "PathProber$Reader" "code" "I", .fieldLink RX5 24 "PathProber$Reader" "start" "I", .fieldLink RX5 9 "PathProber$Reader" "place" "I"]) : List Cond) [9, 3, 10, 11] rfl (by decide +kernel)) (goodIn_few (big := wsX5_readGoal) (fun _ h9 => List.mem_cons_of_mem _ (List.mem_append_left _ (List.mem_append_right _ h9))) gb_10)
  exact h
set_option maxRecDepth 20000 in
theorem gX5_readGoal_X5_fail : GoodIn wsX5_readGoal (wsV RX5 88 RX5 yX5_fail wsX5_fail) := goodIn_app (goodIn_r _ [5, 6, 7, 8] rfl (by decide +kernel)) ggX5_readGoal_X5_fail
set_option maxRecDepth 20000 in
theorem ggX5_readGoal_X5_step : GoodIn wsX5_readGoal wsX5_step := by
  have h := goodIn_app (goodIn_r (big := wsX5_readGoal) (.code yX5_step cX5_step 1 none :: ([.fieldLink RX5 15 "PathProber$Reader" "code" "I", .fieldLink RX5 27 "PathProber$Reader" "end" "I", .fieldLink RX5 24 "PathProber$Reader" "start" "I", .fieldLink RX5 18 "PathProber$Reader" "length" "I", .fieldLink RX5 44 "PathProber$Reader" "text" "[B", .fieldLink RX5 21 "PathProber$Reader" "token" "I", .methodLink RX5 167 yX5_isLetter, .static yX5_isLetter, .initialized RX5, .code yX5_isLetter cX5_isLetter 1 (some .boolean), .methodLink RX5 171 yX5_isDigit, .static yX5_isDigit, .code yX5_isDigit cX5_isDigit 1 (some .boolean)]) : List Cond) [15, 3, 16, 10, 17, 18, 19, 20, 21, 8, 22, 23, 24, 25] rfl (by decide +kernel)) (goodIn_few (big := wsX5_readGoal) (fun _ h9 => List.mem_cons_of_mem _ (List.mem_append_left _ (List.mem_append_right _ h9))) gb_10)
  exact h
set_option maxRecDepth 20000 in
theorem gX5_readGoal_X5_step : GoodIn wsX5_readGoal (wsV RX5 58 RX5 yX5_step wsX5_step) := goodIn_app (goodIn_r _ [12, 13, 14, 8] rfl (by decide +kernel)) ggX5_readGoal_X5_step
set_option maxRecDepth 20000 in
theorem ggX5_readGoal_X5_routerHere : GoodIn wsX5_readGoal wsX5_routerHere := by
  have h := goodIn_app (goodIn_app (goodIn_r (big := wsX5_readGoal) (.code yX5_routerHere cX5_routerHere 2 (some .int) :: ([.fieldLink RX5 15 "PathProber$Reader" "code" "I", .fieldLink RX5 34 "PathProber$Reader" "net" "LPathProber$Net;", .fieldLink RX5 92 "PathProber$Net" "routers" "I", .methodLink RX5 164 yX5_numberHere, .instanceMethod yX5_numberHere, .selects RX5 yX5_numberHere yX5_numberHere, .initialized RX5, .code yX5_numberHere cX5_numberHere 5 (some .int), .fieldLink RX5 21 "PathProber$Reader" "token" "I", .fieldLink RX5 27 "PathProber$Reader" "end" "I", .fieldLink RX5 24 "PathProber$Reader" "start" "I", .fieldLink RX5 44 "PathProber$Reader" "text" "[B", .methodLink RX5 88 yX5_fail, .instanceMethod yX5_fail, .selects RX5 yX5_fail yX5_fail, .code yX5_fail cX5_fail 2 none, .fieldLink RX5 9 "PathProber$Reader" "place" "I"]) : List Cond) [29, 3, 1, 30, 31, 32, 33, 8, 34, 19, 16, 10, 18, 5, 6, 7, 9, 11] rfl (by decide +kernel)) (goodIn_few (big := wsX5_readGoal) (fun _ h9 => List.mem_cons_of_mem _ (List.mem_append_left _ (List.mem_append_right _ h9))) gb_10)) (goodIn_few (big := wsX5_readGoal) (fun _ h9 => List.mem_cons_of_mem _ (List.mem_append_right _ h9)) gb_2)
  exact h
set_option maxRecDepth 20000 in
theorem gX5_readGoal_X5_routerHere : GoodIn wsX5_readGoal (wsV RX5 133 RX5 yX5_routerHere wsX5_routerHere) := goodIn_app (goodIn_r _ [26, 27, 28, 8] rfl (by decide +kernel)) ggX5_readGoal_X5_routerHere
set_option maxRecDepth 20000 in
theorem ggX5_readGoal_X2_goalAt : GoodIn wsX5_readGoal wsX2_goalAt := by
  have h := goodIn_app (goodIn_r (big := wsX5_readGoal) (.code yX2_goalAt cX2_goalAt 3 (some .int) :: ([.fieldLink RX2 40 "PathProber$Net" "goals" "I", .fieldLink RX2 30 "PathProber$Net" "goal" "[I"]) : List Cond) [39, 40, 41] rfl (by decide +kernel)) (goodIn_few (big := wsX5_readGoal) (fun _ h9 => List.mem_cons_of_mem _ (List.mem_append_right _ h9)) gb_2)
  exact h
set_option maxRecDepth 20000 in
theorem gX5_readGoal_X2_goalAt : GoodIn wsX5_readGoal (wsV RX5 157 RX2 yX2_goalAt wsX2_goalAt) := goodIn_app (goodIn_r _ [35, 36, 37, 38] rfl (by decide +kernel)) ggX5_readGoal_X2_goalAt
theorem eX5_readGoal_0q : (decode cX5_readGoal 0 = .ok (.aload_n 0, 1)) ∧ (decode cX5_readGoal 1 = .ok (.getfield 34, 3)) ∧ (decode cX5_readGoal 4 = .ok (.getfield 154, 3)) ∧ (decode cX5_readGoal 7 = .ok (.iconst 3, 1)) ∧ (decode cX5_readGoal 8 = .ok (.if_icmp .ne 9, 3)) ∧ (decode cX5_readGoal 11 = .ok (.aload_n 0, 1)) ∧ (decode cX5_readGoal 12 = .ok (.iconst 2, 1)) ∧ (decode cX5_readGoal 13 = .ok (.invokevirtual 88, 3)) := by decide +kernel
theorem dX5_readGoal_0 : decode cX5_readGoal 0 = .ok (.aload_n 0, 1) := eX5_readGoal_0q.1
theorem dX5_readGoal_1 : decode cX5_readGoal 1 = .ok (.getfield 34, 3) := eX5_readGoal_0q.2.1
theorem dX5_readGoal_4 : decode cX5_readGoal 4 = .ok (.getfield 154, 3) := eX5_readGoal_0q.2.2.1
theorem dX5_readGoal_7 : decode cX5_readGoal 7 = .ok (.iconst 3, 1) := eX5_readGoal_0q.2.2.2.1
theorem dX5_readGoal_8 : decode cX5_readGoal 8 = .ok (.if_icmp .ne 9, 3) := eX5_readGoal_0q.2.2.2.2.1
theorem dX5_readGoal_11 : decode cX5_readGoal 11 = .ok (.aload_n 0, 1) := eX5_readGoal_0q.2.2.2.2.2.1
theorem dX5_readGoal_12 : decode cX5_readGoal 12 = .ok (.iconst 2, 1) := eX5_readGoal_0q.2.2.2.2.2.2.1
theorem dX5_readGoal_13 : decode cX5_readGoal 13 = .ok (.invokevirtual 88, 3) := eX5_readGoal_0q.2.2.2.2.2.2.2
theorem eX5_readGoal_16q : (decode cX5_readGoal 16 = .ok (.return_, 1)) ∧ (decode cX5_readGoal 17 = .ok (.aload_n 0, 1)) ∧ (decode cX5_readGoal 18 = .ok (.invokevirtual 58, 3)) ∧ (decode cX5_readGoal 21 = .ok (.aload_n 0, 1)) ∧ (decode cX5_readGoal 22 = .ok (.invokevirtual 133, 3)) ∧ (decode cX5_readGoal 25 = .ok (.istore_n 1, 1)) ∧ (decode cX5_readGoal 26 = .ok (.aload_n 0, 1)) ∧ (decode cX5_readGoal 27 = .ok (.getfield 15, 3)) := by decide +kernel
theorem dX5_readGoal_16 : decode cX5_readGoal 16 = .ok (.return_, 1) := eX5_readGoal_16q.1
theorem dX5_readGoal_17 : decode cX5_readGoal 17 = .ok (.aload_n 0, 1) := eX5_readGoal_16q.2.1
theorem dX5_readGoal_18 : decode cX5_readGoal 18 = .ok (.invokevirtual 58, 3) := eX5_readGoal_16q.2.2.1
theorem dX5_readGoal_21 : decode cX5_readGoal 21 = .ok (.aload_n 0, 1) := eX5_readGoal_16q.2.2.2.1
theorem dX5_readGoal_22 : decode cX5_readGoal 22 = .ok (.invokevirtual 133, 3) := eX5_readGoal_16q.2.2.2.2.1
theorem dX5_readGoal_25 : decode cX5_readGoal 25 = .ok (.istore_n 1, 1) := eX5_readGoal_16q.2.2.2.2.2.1
theorem dX5_readGoal_26 : decode cX5_readGoal 26 = .ok (.aload_n 0, 1) := eX5_readGoal_16q.2.2.2.2.2.2.1
theorem dX5_readGoal_27 : decode cX5_readGoal 27 = .ok (.getfield 15, 3) := eX5_readGoal_16q.2.2.2.2.2.2.2
theorem eX5_readGoal_30q : (decode cX5_readGoal 30 = .ok (.ifCond .ne 20, 3)) ∧ (decode cX5_readGoal 33 = .ok (.aload_n 0, 1)) ∧ (decode cX5_readGoal 34 = .ok (.getfield 34, 3)) ∧ (decode cX5_readGoal 37 = .ok (.iload_n 1, 1)) ∧ (decode cX5_readGoal 38 = .ok (.invokevirtual 157, 3)) ∧ (decode cX5_readGoal 41 = .ok (.iconst (-1), 1)) ∧ (decode cX5_readGoal 42 = .ok (.if_icmp .eq 8, 3)) ∧ (decode cX5_readGoal 45 = .ok (.aload_n 0, 1)) := by decide +kernel
theorem dX5_readGoal_30 : decode cX5_readGoal 30 = .ok (.ifCond .ne 20, 3) := eX5_readGoal_30q.1
theorem dX5_readGoal_33 : decode cX5_readGoal 33 = .ok (.aload_n 0, 1) := eX5_readGoal_30q.2.1
theorem dX5_readGoal_34 : decode cX5_readGoal 34 = .ok (.getfield 34, 3) := eX5_readGoal_30q.2.2.1
theorem dX5_readGoal_37 : decode cX5_readGoal 37 = .ok (.iload_n 1, 1) := eX5_readGoal_30q.2.2.2.1
theorem dX5_readGoal_38 : decode cX5_readGoal 38 = .ok (.invokevirtual 157, 3) := eX5_readGoal_30q.2.2.2.2.1
theorem dX5_readGoal_41 : decode cX5_readGoal 41 = .ok (.iconst (-1), 1) := eX5_readGoal_30q.2.2.2.2.2.1
theorem dX5_readGoal_42 : decode cX5_readGoal 42 = .ok (.if_icmp .eq 8, 3) := eX5_readGoal_30q.2.2.2.2.2.2.1
theorem dX5_readGoal_45 : decode cX5_readGoal 45 = .ok (.aload_n 0, 1) := eX5_readGoal_30q.2.2.2.2.2.2.2
theorem eX5_readGoal_46q : (decode cX5_readGoal 46 = .ok (.iconst 4, 1)) ∧ (decode cX5_readGoal 47 = .ok (.invokevirtual 88, 3)) ∧ (decode cX5_readGoal 50 = .ok (.aload_n 0, 1)) ∧ (decode cX5_readGoal 51 = .ok (.invokevirtual 58, 3)) ∧ (decode cX5_readGoal 54 = .ok (.aload_n 0, 1)) ∧ (decode cX5_readGoal 55 = .ok (.getfield 15, 3)) ∧ (decode cX5_readGoal 58 = .ok (.ifCond .ne 32, 3)) ∧ (decode cX5_readGoal 61 = .ok (.aload_n 0, 1)) := by decide +kernel
theorem dX5_readGoal_46 : decode cX5_readGoal 46 = .ok (.iconst 4, 1) := eX5_readGoal_46q.1
theorem dX5_readGoal_47 : decode cX5_readGoal 47 = .ok (.invokevirtual 88, 3) := eX5_readGoal_46q.2.1
theorem dX5_readGoal_50 : decode cX5_readGoal 50 = .ok (.aload_n 0, 1) := eX5_readGoal_46q.2.2.1
theorem dX5_readGoal_51 : decode cX5_readGoal 51 = .ok (.invokevirtual 58, 3) := eX5_readGoal_46q.2.2.2.1
theorem dX5_readGoal_54 : decode cX5_readGoal 54 = .ok (.aload_n 0, 1) := eX5_readGoal_46q.2.2.2.2.1
theorem dX5_readGoal_55 : decode cX5_readGoal 55 = .ok (.getfield 15, 3) := eX5_readGoal_46q.2.2.2.2.2.1
theorem dX5_readGoal_58 : decode cX5_readGoal 58 = .ok (.ifCond .ne 32, 3) := eX5_readGoal_46q.2.2.2.2.2.2.1
theorem dX5_readGoal_61 : decode cX5_readGoal 61 = .ok (.aload_n 0, 1) := eX5_readGoal_46q.2.2.2.2.2.2.2
theorem eX5_readGoal_62q : (decode cX5_readGoal 62 = .ok (.getfield 34, 3)) ∧ (decode cX5_readGoal 65 = .ok (.getfield 160, 3)) ∧ (decode cX5_readGoal 68 = .ok (.aload_n 0, 1)) ∧ (decode cX5_readGoal 69 = .ok (.getfield 34, 3)) ∧ (decode cX5_readGoal 72 = .ok (.getfield 154, 3)) ∧ (decode cX5_readGoal 75 = .ok (.iload_n 1, 1)) ∧ (decode cX5_readGoal 76 = .ok (.iastore, 1)) ∧ (decode cX5_readGoal 77 = .ok (.aload_n 0, 1)) := by decide +kernel
theorem dX5_readGoal_62 : decode cX5_readGoal 62 = .ok (.getfield 34, 3) := eX5_readGoal_62q.1
theorem dX5_readGoal_65 : decode cX5_readGoal 65 = .ok (.getfield 160, 3) := eX5_readGoal_62q.2.1
theorem dX5_readGoal_68 : decode cX5_readGoal 68 = .ok (.aload_n 0, 1) := eX5_readGoal_62q.2.2.1
theorem dX5_readGoal_69 : decode cX5_readGoal 69 = .ok (.getfield 34, 3) := eX5_readGoal_62q.2.2.2.1
theorem dX5_readGoal_72 : decode cX5_readGoal 72 = .ok (.getfield 154, 3) := eX5_readGoal_62q.2.2.2.2.1
theorem dX5_readGoal_75 : decode cX5_readGoal 75 = .ok (.iload_n 1, 1) := eX5_readGoal_62q.2.2.2.2.2.1
theorem dX5_readGoal_76 : decode cX5_readGoal 76 = .ok (.iastore, 1) := eX5_readGoal_62q.2.2.2.2.2.2.1
theorem dX5_readGoal_77 : decode cX5_readGoal 77 = .ok (.aload_n 0, 1) := eX5_readGoal_62q.2.2.2.2.2.2.2
theorem eX5_readGoal_78q : (decode cX5_readGoal 78 = .ok (.getfield 34, 3)) ∧ (decode cX5_readGoal 81 = .ok (.dup, 1)) ∧ (decode cX5_readGoal 82 = .ok (.getfield 154, 3)) ∧ (decode cX5_readGoal 85 = .ok (.iconst 1, 1)) ∧ (decode cX5_readGoal 86 = .ok (.iadd, 1)) ∧ (decode cX5_readGoal 87 = .ok (.putfield 154, 3)) ∧ (decode cX5_readGoal 90 = .ok (.return_, 1)) := by decide +kernel
theorem dX5_readGoal_78 : decode cX5_readGoal 78 = .ok (.getfield 34, 3) := eX5_readGoal_78q.1
theorem dX5_readGoal_81 : decode cX5_readGoal 81 = .ok (.dup, 1) := eX5_readGoal_78q.2.1
theorem dX5_readGoal_82 : decode cX5_readGoal 82 = .ok (.getfield 154, 3) := eX5_readGoal_78q.2.2.1
theorem dX5_readGoal_85 : decode cX5_readGoal 85 = .ok (.iconst 1, 1) := eX5_readGoal_78q.2.2.2.1
theorem dX5_readGoal_86 : decode cX5_readGoal 86 = .ok (.iadd, 1) := eX5_readGoal_78q.2.2.2.2.1
theorem dX5_readGoal_87 : decode cX5_readGoal 87 = .ok (.putfield 154, 3) := eX5_readGoal_78q.2.2.2.2.2.1
theorem dX5_readGoal_90 : decode cX5_readGoal 90 = .ok (.return_, 1) := eX5_readGoal_78q.2.2.2.2.2.2
set_option maxRecDepth 20000 in
theorem ggX5_readLoss_X5_fail : GoodIn wsX5_readLoss wsX5_fail := by
  have h := goodIn_app (goodIn_r (big := wsX5_readLoss) (.code yX5_fail cX5_fail 2 none :: ([.fieldLink RX5 15 "PathProber$Reader" "code" "I", .fieldLink RX5 24 "PathProber$Reader" "start" "I", .fieldLink RX5 9 "PathProber$Reader" "place" "I"]) : List Cond) [9, 2, 10, 11] rfl (by decide +kernel)) (goodIn_few (big := wsX5_readLoss) (fun _ h9 => List.mem_cons_of_mem _ (List.mem_append_left _ (List.mem_append_right _ h9))) gb_10)
  exact h
set_option maxRecDepth 20000 in
theorem gX5_readLoss_X5_fail : GoodIn wsX5_readLoss (wsV RX5 88 RX5 yX5_fail wsX5_fail) := goodIn_app (goodIn_r _ [5, 6, 7, 8] rfl (by decide +kernel)) ggX5_readLoss_X5_fail
set_option maxRecDepth 20000 in
theorem ggX5_readLoss_X5_step : GoodIn wsX5_readLoss wsX5_step := by
  have h := goodIn_app (goodIn_r (big := wsX5_readLoss) (.code yX5_step cX5_step 1 none :: ([.fieldLink RX5 15 "PathProber$Reader" "code" "I", .fieldLink RX5 27 "PathProber$Reader" "end" "I", .fieldLink RX5 24 "PathProber$Reader" "start" "I", .fieldLink RX5 18 "PathProber$Reader" "length" "I", .fieldLink RX5 44 "PathProber$Reader" "text" "[B", .fieldLink RX5 21 "PathProber$Reader" "token" "I", .methodLink RX5 167 yX5_isLetter, .static yX5_isLetter, .initialized RX5, .code yX5_isLetter cX5_isLetter 1 (some .boolean), .methodLink RX5 171 yX5_isDigit, .static yX5_isDigit, .code yX5_isDigit cX5_isDigit 1 (some .boolean)]) : List Cond) [15, 2, 16, 10, 17, 18, 19, 20, 21, 8, 22, 23, 24, 25] rfl (by decide +kernel)) (goodIn_few (big := wsX5_readLoss) (fun _ h9 => List.mem_cons_of_mem _ (List.mem_append_left _ (List.mem_append_right _ h9))) gb_10)
  exact h
set_option maxRecDepth 20000 in
theorem gX5_readLoss_X5_step : GoodIn wsX5_readLoss (wsV RX5 58 RX5 yX5_step wsX5_step) := goodIn_app (goodIn_r _ [12, 13, 14, 8] rfl (by decide +kernel)) ggX5_readLoss_X5_step
set_option maxRecDepth 20000 in
theorem ggX5_readLoss_X5_readNumber : GoodIn wsX5_readLoss wsX5_readNumber := by
  have h := goodIn_app (goodIn_r (big := wsX5_readLoss) (.code yX5_readNumber cX5_readNumber 4 (some .int) :: (wsX5_readNumber_r1 ++ wsX5_readNumber_r2) : List Cond) [29, 30, 31, 32, 8, 33, 19, 16, 10, 18, 5, 6, 7, 9, 2, 11, 12, 13, 14, 15, 17, 20, 21, 22, 23, 24, 25] rfl (by decide +kernel)) (goodIn_few (big := wsX5_readLoss) (fun _ h9 => List.mem_cons_of_mem _ (List.mem_append_left _ (List.mem_append_right _ h9))) gb_10)
  exact h
set_option maxRecDepth 20000 in
theorem gX5_readLoss_X5_readNumber : GoodIn wsX5_readLoss (wsV RX5 99 RX5 yX5_readNumber wsX5_readNumber) := goodIn_app (goodIn_r _ [26, 27, 28, 8] rfl (by decide +kernel)) ggX5_readLoss_X5_readNumber
theorem eX5_readLoss_0q : (decode cX5_readLoss 0 = .ok (.aload_n 0, 1)) ∧ (decode cX5_readLoss 1 = .ok (.getfield 30, 3)) ∧ (decode cX5_readLoss 4 = .ok (.ifCond .eq 9, 3)) ∧ (decode cX5_readLoss 7 = .ok (.aload_n 0, 1)) ∧ (decode cX5_readLoss 8 = .ok (.iconst 4, 1)) ∧ (decode cX5_readLoss 9 = .ok (.invokevirtual 88, 3)) ∧ (decode cX5_readLoss 12 = .ok (.return_, 1)) ∧ (decode cX5_readLoss 13 = .ok (.aload_n 0, 1)) := by decide +kernel
theorem dX5_readLoss_0 : decode cX5_readLoss 0 = .ok (.aload_n 0, 1) := eX5_readLoss_0q.1
theorem dX5_readLoss_1 : decode cX5_readLoss 1 = .ok (.getfield 30, 3) := eX5_readLoss_0q.2.1
theorem dX5_readLoss_4 : decode cX5_readLoss 4 = .ok (.ifCond .eq 9, 3) := eX5_readLoss_0q.2.2.1
theorem dX5_readLoss_7 : decode cX5_readLoss 7 = .ok (.aload_n 0, 1) := eX5_readLoss_0q.2.2.2.1
theorem dX5_readLoss_8 : decode cX5_readLoss 8 = .ok (.iconst 4, 1) := eX5_readLoss_0q.2.2.2.2.1
theorem dX5_readLoss_9 : decode cX5_readLoss 9 = .ok (.invokevirtual 88, 3) := eX5_readLoss_0q.2.2.2.2.2.1
theorem dX5_readLoss_12 : decode cX5_readLoss 12 = .ok (.return_, 1) := eX5_readLoss_0q.2.2.2.2.2.2.1
theorem dX5_readLoss_13 : decode cX5_readLoss 13 = .ok (.aload_n 0, 1) := eX5_readLoss_0q.2.2.2.2.2.2.2
theorem eX5_readLoss_14q : (decode cX5_readLoss 14 = .ok (.invokevirtual 58, 3)) ∧ (decode cX5_readLoss 17 = .ok (.aload_n 0, 1)) ∧ (decode cX5_readLoss 18 = .ok (.iconst 1, 1)) ∧ (decode cX5_readLoss 19 = .ok (.bipush 50, 2)) ∧ (decode cX5_readLoss 21 = .ok (.invokevirtual 99, 3)) ∧ (decode cX5_readLoss 24 = .ok (.istore_n 1, 1)) ∧ (decode cX5_readLoss 25 = .ok (.aload_n 0, 1)) ∧ (decode cX5_readLoss 26 = .ok (.getfield 15, 3)) := by decide +kernel
theorem dX5_readLoss_14 : decode cX5_readLoss 14 = .ok (.invokevirtual 58, 3) := eX5_readLoss_14q.1
theorem dX5_readLoss_17 : decode cX5_readLoss 17 = .ok (.aload_n 0, 1) := eX5_readLoss_14q.2.1
theorem dX5_readLoss_18 : decode cX5_readLoss 18 = .ok (.iconst 1, 1) := eX5_readLoss_14q.2.2.1
theorem dX5_readLoss_19 : decode cX5_readLoss 19 = .ok (.bipush 50, 2) := eX5_readLoss_14q.2.2.2.1
theorem dX5_readLoss_21 : decode cX5_readLoss 21 = .ok (.invokevirtual 99, 3) := eX5_readLoss_14q.2.2.2.2.1
theorem dX5_readLoss_24 : decode cX5_readLoss 24 = .ok (.istore_n 1, 1) := eX5_readLoss_14q.2.2.2.2.2.1
theorem dX5_readLoss_25 : decode cX5_readLoss 25 = .ok (.aload_n 0, 1) := eX5_readLoss_14q.2.2.2.2.2.2.1
theorem dX5_readLoss_26 : decode cX5_readLoss 26 = .ok (.getfield 15, 3) := eX5_readLoss_14q.2.2.2.2.2.2.2
theorem eX5_readLoss_29q : (decode cX5_readLoss 29 = .ok (.ifCond .ne 16, 3)) ∧ (decode cX5_readLoss 32 = .ok (.aload_n 0, 1)) ∧ (decode cX5_readLoss 33 = .ok (.getfield 34, 3)) ∧ (decode cX5_readLoss 36 = .ok (.iload_n 1, 1)) ∧ (decode cX5_readLoss 37 = .ok (.putfield 162, 3)) ∧ (decode cX5_readLoss 40 = .ok (.aload_n 0, 1)) ∧ (decode cX5_readLoss 41 = .ok (.iconst 1, 1)) ∧ (decode cX5_readLoss 42 = .ok (.putfield 30, 3)) := by decide +kernel
theorem dX5_readLoss_29 : decode cX5_readLoss 29 = .ok (.ifCond .ne 16, 3) := eX5_readLoss_29q.1
theorem dX5_readLoss_32 : decode cX5_readLoss 32 = .ok (.aload_n 0, 1) := eX5_readLoss_29q.2.1
theorem dX5_readLoss_33 : decode cX5_readLoss 33 = .ok (.getfield 34, 3) := eX5_readLoss_29q.2.2.1
theorem dX5_readLoss_36 : decode cX5_readLoss 36 = .ok (.iload_n 1, 1) := eX5_readLoss_29q.2.2.2.1
theorem dX5_readLoss_37 : decode cX5_readLoss 37 = .ok (.putfield 162, 3) := eX5_readLoss_29q.2.2.2.2.1
theorem dX5_readLoss_40 : decode cX5_readLoss 40 = .ok (.aload_n 0, 1) := eX5_readLoss_29q.2.2.2.2.2.1
theorem dX5_readLoss_41 : decode cX5_readLoss 41 = .ok (.iconst 1, 1) := eX5_readLoss_29q.2.2.2.2.2.2.1
theorem dX5_readLoss_42 : decode cX5_readLoss 42 = .ok (.putfield 30, 3) := eX5_readLoss_29q.2.2.2.2.2.2.2
theorem dX5_readLoss_45 : decode cX5_readLoss 45 = .ok (.return_, 1) := by decide +kernel
set_option maxRecDepth 20000 in
theorem ggX5_readNumber_X5_numberHere : GoodIn wsX5_readNumber wsX5_numberHere := by
  have h := goodIn_app (goodIn_r (big := wsX5_readNumber) (.code yX5_numberHere cX5_numberHere 5 (some .int) :: ([.fieldLink RX5 21 "PathProber$Reader" "token" "I", .fieldLink RX5 27 "PathProber$Reader" "end" "I", .fieldLink RX5 24 "PathProber$Reader" "start" "I", .fieldLink RX5 44 "PathProber$Reader" "text" "[B", .methodLink RX5 88 yX5_fail, .instanceMethod yX5_fail, .selects RX5 yX5_fail yX5_fail, .initialized RX5, .code yX5_fail cX5_fail 2 none, .fieldLink RX5 15 "PathProber$Reader" "code" "I", .fieldLink RX5 9 "PathProber$Reader" "place" "I"]) : List Cond) [5, 6, 7, 8, 9, 10, 11, 12, 4, 13, 14, 15] rfl (by decide +kernel)) (goodIn_few (big := wsX5_readNumber) (fun _ h9 => List.mem_cons_of_mem _ (List.mem_append_right _ h9)) gb_10)
  exact h
set_option maxRecDepth 20000 in
theorem gX5_readNumber_X5_numberHere : GoodIn wsX5_readNumber (wsV RX5 164 RX5 yX5_numberHere wsX5_numberHere) := goodIn_app (goodIn_r _ [1, 2, 3, 4] rfl (by decide +kernel)) ggX5_readNumber_X5_numberHere
set_option maxRecDepth 20000 in
theorem ggX5_readNumber_X5_step : GoodIn wsX5_readNumber wsX5_step := by
  have h := goodIn_app (goodIn_r (big := wsX5_readNumber) (.code yX5_step cX5_step 1 none :: ([.fieldLink RX5 15 "PathProber$Reader" "code" "I", .fieldLink RX5 27 "PathProber$Reader" "end" "I", .fieldLink RX5 24 "PathProber$Reader" "start" "I", .fieldLink RX5 18 "PathProber$Reader" "length" "I", .fieldLink RX5 44 "PathProber$Reader" "text" "[B", .fieldLink RX5 21 "PathProber$Reader" "token" "I", .methodLink RX5 167 yX5_isLetter, .static yX5_isLetter, .initialized RX5, .code yX5_isLetter cX5_isLetter 1 (some .boolean), .methodLink RX5 171 yX5_isDigit, .static yX5_isDigit, .code yX5_isDigit cX5_isDigit 1 (some .boolean)]) : List Cond) [19, 14, 7, 8, 20, 9, 6, 21, 22, 4, 23, 24, 25, 26] rfl (by decide +kernel)) (goodIn_few (big := wsX5_readNumber) (fun _ h9 => List.mem_cons_of_mem _ (List.mem_append_right _ h9)) gb_10)
  exact h
set_option maxRecDepth 20000 in
theorem gX5_readNumber_X5_step : GoodIn wsX5_readNumber (wsV RX5 58 RX5 yX5_step wsX5_step) := goodIn_app (goodIn_r _ [16, 17, 18, 4] rfl (by decide +kernel)) ggX5_readNumber_X5_step
theorem eX5_readNumber_0q : (decode cX5_readNumber 0 = .ok (.aload_n 0, 1)) ∧ (decode cX5_readNumber 1 = .ok (.iload_n 1, 1)) ∧ (decode cX5_readNumber 2 = .ok (.iload_n 2, 1)) ∧ (decode cX5_readNumber 3 = .ok (.invokevirtual 164, 3)) ∧ (decode cX5_readNumber 6 = .ok (.istore_n 3, 1)) ∧ (decode cX5_readNumber 7 = .ok (.aload_n 0, 1)) ∧ (decode cX5_readNumber 8 = .ok (.invokevirtual 58, 3)) ∧ (decode cX5_readNumber 11 = .ok (.iload_n 3, 1)) := by decide +kernel
theorem dX5_readNumber_0 : decode cX5_readNumber 0 = .ok (.aload_n 0, 1) := eX5_readNumber_0q.1
theorem dX5_readNumber_1 : decode cX5_readNumber 1 = .ok (.iload_n 1, 1) := eX5_readNumber_0q.2.1
theorem dX5_readNumber_2 : decode cX5_readNumber 2 = .ok (.iload_n 2, 1) := eX5_readNumber_0q.2.2.1
theorem dX5_readNumber_3 : decode cX5_readNumber 3 = .ok (.invokevirtual 164, 3) := eX5_readNumber_0q.2.2.2.1
theorem dX5_readNumber_6 : decode cX5_readNumber 6 = .ok (.istore_n 3, 1) := eX5_readNumber_0q.2.2.2.2.1
theorem dX5_readNumber_7 : decode cX5_readNumber 7 = .ok (.aload_n 0, 1) := eX5_readNumber_0q.2.2.2.2.2.1
theorem dX5_readNumber_8 : decode cX5_readNumber 8 = .ok (.invokevirtual 58, 3) := eX5_readNumber_0q.2.2.2.2.2.2.1
theorem dX5_readNumber_11 : decode cX5_readNumber 11 = .ok (.iload_n 3, 1) := eX5_readNumber_0q.2.2.2.2.2.2.2
theorem dX5_readNumber_12 : decode cX5_readNumber 12 = .ok (.ireturn, 1) := by decide +kernel
set_option maxRecDepth 20000 in
theorem ggX5_routerHere_X5_numberHere : GoodIn wsX5_routerHere wsX5_numberHere := by
  have h := goodIn_app (goodIn_r (big := wsX5_routerHere) (.code yX5_numberHere cX5_numberHere 5 (some .int) :: ([.fieldLink RX5 21 "PathProber$Reader" "token" "I", .fieldLink RX5 27 "PathProber$Reader" "end" "I", .fieldLink RX5 24 "PathProber$Reader" "start" "I", .fieldLink RX5 44 "PathProber$Reader" "text" "[B", .methodLink RX5 88 yX5_fail, .instanceMethod yX5_fail, .selects RX5 yX5_fail yX5_fail, .initialized RX5, .code yX5_fail cX5_fail 2 none, .fieldLink RX5 15 "PathProber$Reader" "code" "I", .fieldLink RX5 9 "PathProber$Reader" "place" "I"]) : List Cond) [8, 9, 10, 11, 12, 13, 14, 15, 7, 16, 1, 17] rfl (by decide +kernel)) (goodIn_few (big := wsX5_routerHere) (fun _ h9 => List.mem_cons_of_mem _ (List.mem_append_left _ (List.mem_append_right _ h9))) gb_10)
  exact h
set_option maxRecDepth 20000 in
theorem gX5_routerHere_X5_numberHere : GoodIn wsX5_routerHere (wsV RX5 164 RX5 yX5_numberHere wsX5_numberHere) := goodIn_app (goodIn_r _ [4, 5, 6, 7] rfl (by decide +kernel)) ggX5_routerHere_X5_numberHere
set_option maxRecDepth 20000 in
theorem ggX5_routerHere_X5_fail : GoodIn wsX5_routerHere wsX5_fail := by
  have h := goodIn_app (goodIn_r (big := wsX5_routerHere) (.code yX5_fail cX5_fail 2 none :: ([.fieldLink RX5 15 "PathProber$Reader" "code" "I", .fieldLink RX5 24 "PathProber$Reader" "start" "I", .fieldLink RX5 9 "PathProber$Reader" "place" "I"]) : List Cond) [16, 1, 11, 17] rfl (by decide +kernel)) (goodIn_few (big := wsX5_routerHere) (fun _ h9 => List.mem_cons_of_mem _ (List.mem_append_left _ (List.mem_append_right _ h9))) gb_10)
  exact h
set_option maxRecDepth 20000 in
theorem gX5_routerHere_X5_fail : GoodIn wsX5_routerHere (wsV RX5 88 RX5 yX5_fail wsX5_fail) := goodIn_app (goodIn_r _ [13, 14, 15, 7] rfl (by decide +kernel)) ggX5_routerHere_X5_fail
theorem eX5_routerHere_0q : (decode cX5_routerHere 0 = .ok (.aload_n 0, 1)) ∧ (decode cX5_routerHere 1 = .ok (.iconst 0, 1)) ∧ (decode cX5_routerHere 2 = .ok (.bipush 11, 2)) ∧ (decode cX5_routerHere 4 = .ok (.invokevirtual 164, 3)) ∧ (decode cX5_routerHere 7 = .ok (.istore_n 1, 1)) ∧ (decode cX5_routerHere 8 = .ok (.aload_n 0, 1)) ∧ (decode cX5_routerHere 9 = .ok (.getfield 15, 3)) ∧ (decode cX5_routerHere 12 = .ok (.ifCond .ne 19, 3)) := by decide +kernel
theorem dX5_routerHere_0 : decode cX5_routerHere 0 = .ok (.aload_n 0, 1) := eX5_routerHere_0q.1
theorem dX5_routerHere_1 : decode cX5_routerHere 1 = .ok (.iconst 0, 1) := eX5_routerHere_0q.2.1
theorem dX5_routerHere_2 : decode cX5_routerHere 2 = .ok (.bipush 11, 2) := eX5_routerHere_0q.2.2.1
theorem dX5_routerHere_4 : decode cX5_routerHere 4 = .ok (.invokevirtual 164, 3) := eX5_routerHere_0q.2.2.2.1
theorem dX5_routerHere_7 : decode cX5_routerHere 7 = .ok (.istore_n 1, 1) := eX5_routerHere_0q.2.2.2.2.1
theorem dX5_routerHere_8 : decode cX5_routerHere 8 = .ok (.aload_n 0, 1) := eX5_routerHere_0q.2.2.2.2.2.1
theorem dX5_routerHere_9 : decode cX5_routerHere 9 = .ok (.getfield 15, 3) := eX5_routerHere_0q.2.2.2.2.2.2.1
theorem dX5_routerHere_12 : decode cX5_routerHere 12 = .ok (.ifCond .ne 19, 3) := eX5_routerHere_0q.2.2.2.2.2.2.2
theorem eX5_routerHere_15q : (decode cX5_routerHere 15 = .ok (.iload_n 1, 1)) ∧ (decode cX5_routerHere 16 = .ok (.aload_n 0, 1)) ∧ (decode cX5_routerHere 17 = .ok (.getfield 34, 3)) ∧ (decode cX5_routerHere 20 = .ok (.getfield 92, 3)) ∧ (decode cX5_routerHere 23 = .ok (.if_icmp .lt 8, 3)) ∧ (decode cX5_routerHere 26 = .ok (.aload_n 0, 1)) ∧ (decode cX5_routerHere 27 = .ok (.iconst 3, 1)) ∧ (decode cX5_routerHere 28 = .ok (.invokevirtual 88, 3)) := by decide +kernel
theorem dX5_routerHere_15 : decode cX5_routerHere 15 = .ok (.iload_n 1, 1) := eX5_routerHere_15q.1
theorem dX5_routerHere_16 : decode cX5_routerHere 16 = .ok (.aload_n 0, 1) := eX5_routerHere_15q.2.1
theorem dX5_routerHere_17 : decode cX5_routerHere 17 = .ok (.getfield 34, 3) := eX5_routerHere_15q.2.2.1
theorem dX5_routerHere_20 : decode cX5_routerHere 20 = .ok (.getfield 92, 3) := eX5_routerHere_15q.2.2.2.1
theorem dX5_routerHere_23 : decode cX5_routerHere 23 = .ok (.if_icmp .lt 8, 3) := eX5_routerHere_15q.2.2.2.2.1
theorem dX5_routerHere_26 : decode cX5_routerHere 26 = .ok (.aload_n 0, 1) := eX5_routerHere_15q.2.2.2.2.2.1
theorem dX5_routerHere_27 : decode cX5_routerHere 27 = .ok (.iconst 3, 1) := eX5_routerHere_15q.2.2.2.2.2.2.1
theorem dX5_routerHere_28 : decode cX5_routerHere 28 = .ok (.invokevirtual 88, 3) := eX5_routerHere_15q.2.2.2.2.2.2.2
theorem dX5_routerHere_31 : decode cX5_routerHere 31 = .ok (.iload_n 1, 1) := by decide +kernel
theorem dX5_routerHere_32 : decode cX5_routerHere 32 = .ok (.ireturn, 1) := by decide +kernel
set_option maxRecDepth 20000 in
theorem ggX10_net_X5_readText : GoodIn wsX10_net wsX5_readText := by
  have h := goodIn_app (goodIn_app (goodIn_r (big := wsX10_net) (.code yX5_readText cX5_readText 3 (some .int) :: (wsX5_readText_r1 ++ (wsX5_readText_r2 ++ (wsX5_readText_r3 ++ (wsX5_readText_r4 ++ (wsX5_readText_r5 ++ (wsX5_readText_r6 ++ wsX5_readText_r7)))))) : List Cond) [22, 23, 24, 25, 26, 27, 28, 29, 30, 31, 32, 33, 34, 35, 36, 37, 38, 39, 40, 41, 42, 43, 44, 45, 46, 21, 47, 48, 49, 50, 51, 52, 53, 54, 55, 56, 57, 58, 59, 60, 61, 62, 63, 64, 65, 66, 67, 68, 69, 70, 71, 72, 73, 74, 75, 76, 77, 78, 79, 80, 81, 82, 83, 84, 85, 86, 87, 88, 89, 90, 91, 92, 93, 94, 95, 96, 97, 98, 99, 100, 101, 102, 103, 104, 105, 106, 107, 108, 109, 110, 111, 112, 113, 114, 115, 116, 117, 118, 119, 120, 121, 122, 123, 124, 125, 126, 127, 128, 129, 130, 131, 132, 133, 134, 135, 136, 137, 138, 139, 140, 141, 142, 143, 144, 145, 146, 147, 148, 149, 150, 151, 152, 153, 154, 155, 156, 157, 158, 159, 160, 161, 162, 163, 164, 165, 166, 167, 168, 169, 170, 171, 172, 173, 174, 175, 176, 177, 178, 179, 180, 181, 182, 183, 184] rfl (by decide +kernel)) (goodIn_few (big := wsX10_net) (fun _ h9 => List.mem_cons_of_mem _ (List.mem_append_left _ (List.mem_append_left _ (List.mem_append_left _ (List.mem_append_left _ (List.mem_append_left _ (List.mem_append_right _ h9))))))) gb_10)) (goodIn_few (big := wsX10_net) (fun _ h9 => List.mem_cons_of_mem _ (List.mem_append_left _ (List.mem_append_left _ (List.mem_append_left _ (List.mem_append_left _ (List.mem_append_right _ h9)))))) gb_2)
  exact h
set_option maxRecDepth 20000 in
theorem gX10_net_X5_readText : GoodIn wsX10_net (wsV RX10 135 RX5 yX5_readText wsX5_readText) := goodIn_app (goodIn_r _ [18, 19, 20, 21] rfl (by decide +kernel)) ggX10_net_X5_readText
set_option maxRecDepth 20000 in
theorem ggX10_net_X2_copyFrom : GoodIn wsX10_net wsX2_copyFrom := by
  have h := goodIn_app (goodIn_r (big := wsX10_net) (.code yX2_copyFrom cX2_copyFrom 2 none :: ([.fieldLink RX2 9 "PathProber$Net" "kind" "[I", .methodLink RX2 58 arraycopyName, .native arraycopyName, .static arraycopyName, .initialized "java/lang/System", .fieldLink RX2 15 "PathProber$Net" "salt" "[I", .fieldLink RX2 18 "PathProber$Net" "pace" "[I", .fieldLink RX2 21 "PathProber$Net" "manner" "[I", .fieldLink RX2 24 "PathProber$Net" "from" "[I", .fieldLink RX2 27 "PathProber$Net" "to" "[I", .fieldLink RX2 30 "PathProber$Net" "goal" "[I", .fieldLink RX2 33 "PathProber$Net" "routers" "I", .fieldLink RX2 37 "PathProber$Net" "links" "I", .fieldLink RX2 40 "PathProber$Net" "goals" "I", .fieldLink RX2 43 "PathProber$Net" "loss" "I"]) : List Cond) [188, 189, 190, 191, 192, 193, 194, 195, 196, 156, 168, 179, 40, 41, 42, 43] rfl (by decide +kernel)) (goodIn_few (big := wsX10_net) (fun _ h9 => List.mem_cons_of_mem _ (List.mem_append_left _ (List.mem_append_left _ (List.mem_append_left _ (List.mem_append_left _ (List.mem_append_right _ h9)))))) gb_2)
  exact h
set_option maxRecDepth 20000 in
theorem gX10_net_X2_copyFrom : GoodIn wsX10_net (wsV RX10 142 RX2 yX2_copyFrom wsX2_copyFrom) := goodIn_app (goodIn_r _ [185, 186, 187, 38] rfl (by decide +kernel)) ggX10_net_X2_copyFrom
set_option maxRecDepth 20000 in
theorem ggX10_net_X2_findBranches : GoodIn wsX10_net wsX2_findBranches := by
  have h := goodIn_app (goodIn_r (big := wsX10_net) (.code yX2_findBranches cX2_findBranches 3 none :: ([.fieldLink RX2 40 "PathProber$Net" "goals" "I", .fieldLink RX2 33 "PathProber$Net" "routers" "I", .fieldLink RX2 49 "PathProber$Net" "branches" "[I", .fieldLink RX2 37 "PathProber$Net" "links" "I", .fieldLink RX2 27 "PathProber$Net" "to" "[I", .fieldLink RX2 30 "PathProber$Net" "goal" "[I", .fieldLink RX2 24 "PathProber$Net" "from" "[I", .methodLink RX2 64 yX2_findReach, .instanceMethod yX2_findReach, .selects RX2 yX2_findReach yX2_findReach, .initialized RX2, .code yX2_findReach cX2_findReach 3 none, .fieldLink RX2 46 "PathProber$Net" "reach" "[I", .methodLink RX2 67 yX2_comesTo, .instanceMethod yX2_comesTo, .selects RX2 yX2_comesTo yX2_comesTo, .code yX2_comesTo cX2_comesTo 3 (some .boolean), .methodLink RX2 71 yX2_addBranch, .instanceMethod yX2_addBranch, .selects RX2 yX2_addBranch yX2_addBranch, .code yX2_addBranch cX2_addBranch 3 none, .fieldLink RX2 52 "PathProber$Net" "branch" "[I"]) : List Cond) [200, 42, 40, 201, 41, 168, 179, 156, 202, 203, 204, 38, 205, 206, 207, 208, 209, 210, 211, 212, 213, 214, 215] rfl (by decide +kernel)) (goodIn_few (big := wsX10_net) (fun _ h9 => List.mem_cons_of_mem _ (List.mem_append_left _ (List.mem_append_left _ (List.mem_append_left _ (List.mem_append_left _ (List.mem_append_right _ h9)))))) gb_2)
  exact h
set_option maxRecDepth 20000 in
theorem gX10_net_X2_findBranches : GoodIn wsX10_net (wsV RX10 146 RX2 yX2_findBranches wsX2_findBranches) := goodIn_app (goodIn_r _ [197, 198, 199, 38] rfl (by decide +kernel)) ggX10_net_X2_findBranches
set_option maxRecDepth 20000 in
theorem ggX10_net_X0_beginAnew : GoodIn wsX10_net wsX0_beginAnew := by
  have h := goodIn_app (goodIn_r (big := wsX10_net) (.code yX0_beginAnew cX0_beginAnew 3 none :: ([.fieldLink RX0 19 "PathProber$Condition" "turn" "[I", .fieldLink RX0 22 "PathProber$Condition" "counter" "[I", .fieldLink RX0 25 "PathProber$Condition" "loss" "I", .fieldLink RX0 29 "PathProber$Condition" "opened" "I", .fieldLink RX0 32 "PathProber$Condition" "open" "I", .fieldLink RX0 35 "PathProber$Condition" "deep" "I", .fieldLink RX0 38 "PathProber$Condition" "muted" "I", .fieldLink RX0 41 "PathProber$Condition" "lost" "I", .methodLink RX0 44 yX0_forgetAllSeen, .instanceMethod yX0_forgetAllSeen, .selects RX0 yX0_forgetAllSeen yX0_forgetAllSeen, .initialized RX0, .code yX0_forgetAllSeen cX0_forgetAllSeen 2 none, .fieldLink RX0 9 "PathProber$Condition" "seen" "[J", .fieldLink RX0 15 "PathProber$Condition" "sent" "[I"]) : List Cond) [220, 221, 222, 223, 224, 225, 226, 227, 228, 229, 230, 231, 219, 232, 233, 234] rfl (by decide +kernel)) (goodIn_few (big := wsX10_net) (fun _ h9 => List.mem_cons_of_mem _ (List.mem_append_left _ (List.mem_append_right _ h9))) gb_1)
  exact h
set_option maxRecDepth 20000 in
theorem gX10_net_X0_beginAnew : GoodIn wsX10_net (wsV RX10 152 RX0 yX0_beginAnew wsX0_beginAnew) := goodIn_app (goodIn_r _ [216, 217, 218, 219] rfl (by decide +kernel)) ggX10_net_X0_beginAnew
theorem eX10_net_0q : (decode cX10_net 0 = .ok (.iload_n 1, 1)) ∧ (decode cX10_net 1 = .ok (.ifCond .lt 14, 3)) ∧ (decode cX10_net 4 = .ok (.iload_n 1, 1)) ∧ (decode cX10_net 5 = .ok (.aload_n 0, 1)) ∧ (decode cX10_net 6 = .ok (.getfield 12, 3)) ∧ (decode cX10_net 9 = .ok (.getfield 125, 3)) ∧ (decode cX10_net 12 = .ok (.if_icmp .le 13, 3)) ∧ (decode cX10_net 15 = .ok (.new 128, 3)) := by decide +kernel
theorem dX10_net_0 : decode cX10_net 0 = .ok (.iload_n 1, 1) := eX10_net_0q.1
theorem dX10_net_1 : decode cX10_net 1 = .ok (.ifCond .lt 14, 3) := eX10_net_0q.2.1
theorem dX10_net_4 : decode cX10_net 4 = .ok (.iload_n 1, 1) := eX10_net_0q.2.2.1
theorem dX10_net_5 : decode cX10_net 5 = .ok (.aload_n 0, 1) := eX10_net_0q.2.2.2.1
theorem dX10_net_6 : decode cX10_net 6 = .ok (.getfield 12, 3) := eX10_net_0q.2.2.2.2.1
theorem dX10_net_9 : decode cX10_net 9 = .ok (.getfield 125, 3) := eX10_net_0q.2.2.2.2.2.1
theorem dX10_net_12 : decode cX10_net 12 = .ok (.if_icmp .le 13, 3) := eX10_net_0q.2.2.2.2.2.2.1
theorem dX10_net_15 : decode cX10_net 15 = .ok (.new 128, 3) := eX10_net_0q.2.2.2.2.2.2.2
theorem eX10_net_18q : (decode cX10_net 18 = .ok (.dup, 1)) ∧ (decode cX10_net 19 = .ok (.ldc 130, 2)) ∧ (decode cX10_net 21 = .ok (.invokespecial 132, 3)) ∧ (decode cX10_net 24 = .ok (.athrow, 1)) ∧ (decode cX10_net 25 = .ok (.aload_n 0, 1)) ∧ (decode cX10_net 26 = .ok (.getfield 31, 3)) ∧ (decode cX10_net 29 = .ok (.iload_n 1, 1)) ∧ (decode cX10_net 30 = .ok (.invokevirtual 135, 3)) := by decide +kernel
theorem dX10_net_18 : decode cX10_net 18 = .ok (.dup, 1) := eX10_net_18q.1
theorem dX10_net_19 : decode cX10_net 19 = .ok (.ldc 130, 2) := eX10_net_18q.2.1
theorem dX10_net_21 : decode cX10_net 21 = .ok (.invokespecial 132, 3) := eX10_net_18q.2.2.1
theorem dX10_net_24 : decode cX10_net 24 = .ok (.athrow, 1) := eX10_net_18q.2.2.2.1
theorem dX10_net_25 : decode cX10_net 25 = .ok (.aload_n 0, 1) := eX10_net_18q.2.2.2.2.1
theorem dX10_net_26 : decode cX10_net 26 = .ok (.getfield 31, 3) := eX10_net_18q.2.2.2.2.2.1
theorem dX10_net_29 : decode cX10_net 29 = .ok (.iload_n 1, 1) := eX10_net_18q.2.2.2.2.2.2.1
theorem dX10_net_30 : decode cX10_net 30 = .ok (.invokevirtual 135, 3) := eX10_net_18q.2.2.2.2.2.2.2
theorem eX10_net_33q : (decode cX10_net 33 = .ok (.istore_n 2, 1)) ∧ (decode cX10_net 34 = .ok (.aload_n 0, 1)) ∧ (decode cX10_net 35 = .ok (.getfield 12, 3)) ∧ (decode cX10_net 38 = .ok (.iconst 0, 1)) ∧ (decode cX10_net 39 = .ok (.putfield 125, 3)) ∧ (decode cX10_net 42 = .ok (.aload_n 0, 1)) ∧ (decode cX10_net 43 = .ok (.iload_n 2, 1)) ∧ (decode cX10_net 44 = .ok (.ifCond .ne 7, 3)) := by decide +kernel
theorem dX10_net_33 : decode cX10_net 33 = .ok (.istore_n 2, 1) := eX10_net_33q.1
theorem dX10_net_34 : decode cX10_net 34 = .ok (.aload_n 0, 1) := eX10_net_33q.2.1
theorem dX10_net_35 : decode cX10_net 35 = .ok (.getfield 12, 3) := eX10_net_33q.2.2.1
theorem dX10_net_38 : decode cX10_net 38 = .ok (.iconst 0, 1) := eX10_net_33q.2.2.2.1
theorem dX10_net_39 : decode cX10_net 39 = .ok (.putfield 125, 3) := eX10_net_33q.2.2.2.2.1
theorem dX10_net_42 : decode cX10_net 42 = .ok (.aload_n 0, 1) := eX10_net_33q.2.2.2.2.2.1
theorem dX10_net_43 : decode cX10_net 43 = .ok (.iload_n 2, 1) := eX10_net_33q.2.2.2.2.2.2.1
theorem dX10_net_44 : decode cX10_net 44 = .ok (.ifCond .ne 7, 3) := eX10_net_33q.2.2.2.2.2.2.2
theorem eX10_net_47q : (decode cX10_net 47 = .ok (.iconst (-1), 1)) ∧ (decode cX10_net 48 = .ok (.goto 10, 3)) ∧ (decode cX10_net 51 = .ok (.aload_n 0, 1)) ∧ (decode cX10_net 52 = .ok (.getfield 31, 3)) ∧ (decode cX10_net 55 = .ok (.getfield 139, 3)) ∧ (decode cX10_net 58 = .ok (.putfield 113, 3)) ∧ (decode cX10_net 61 = .ok (.iload_n 2, 1)) ∧ (decode cX10_net 62 = .ok (.ifCond .eq 15, 3)) := by decide +kernel
theorem dX10_net_47 : decode cX10_net 47 = .ok (.iconst (-1), 1) := eX10_net_47q.1
theorem dX10_net_48 : decode cX10_net 48 = .ok (.goto 10, 3) := eX10_net_47q.2.1
theorem dX10_net_51 : decode cX10_net 51 = .ok (.aload_n 0, 1) := eX10_net_47q.2.2.1
theorem dX10_net_52 : decode cX10_net 52 = .ok (.getfield 31, 3) := eX10_net_47q.2.2.2.1
theorem dX10_net_55 : decode cX10_net 55 = .ok (.getfield 139, 3) := eX10_net_47q.2.2.2.2.1
theorem dX10_net_58 : decode cX10_net 58 = .ok (.putfield 113, 3) := eX10_net_47q.2.2.2.2.2.1
theorem dX10_net_61 : decode cX10_net 61 = .ok (.iload_n 2, 1) := eX10_net_47q.2.2.2.2.2.2.1
theorem dX10_net_62 : decode cX10_net 62 = .ok (.ifCond .eq 15, 3) := eX10_net_47q.2.2.2.2.2.2.2
theorem eX10_net_65q : (decode cX10_net 65 = .ok (.aload_n 0, 1)) ∧ (decode cX10_net 66 = .ok (.getfield 93, 3)) ∧ (decode cX10_net 69 = .ok (.iconst 0, 1)) ∧ (decode cX10_net 70 = .ok (.dup2, 1)) ∧ (decode cX10_net 71 = .ok (.iaload, 1)) ∧ (decode cX10_net 72 = .ok (.iconst 1, 1)) ∧ (decode cX10_net 73 = .ok (.iadd, 1)) ∧ (decode cX10_net 74 = .ok (.iastore, 1)) := by decide +kernel
theorem dX10_net_65 : decode cX10_net 65 = .ok (.aload_n 0, 1) := eX10_net_65q.1
theorem dX10_net_66 : decode cX10_net 66 = .ok (.getfield 93, 3) := eX10_net_65q.2.1
theorem dX10_net_69 : decode cX10_net 69 = .ok (.iconst 0, 1) := eX10_net_65q.2.2.1
theorem dX10_net_70 : decode cX10_net 70 = .ok (.dup2, 1) := eX10_net_65q.2.2.2.1
theorem dX10_net_71 : decode cX10_net 71 = .ok (.iaload, 1) := eX10_net_65q.2.2.2.2.1
theorem dX10_net_72 : decode cX10_net 72 = .ok (.iconst 1, 1) := eX10_net_65q.2.2.2.2.2.1
theorem dX10_net_73 : decode cX10_net 73 = .ok (.iadd, 1) := eX10_net_65q.2.2.2.2.2.2.1
theorem dX10_net_74 : decode cX10_net 74 = .ok (.iastore, 1) := eX10_net_65q.2.2.2.2.2.2.2
theorem eX10_net_75q : (decode cX10_net 75 = .ok (.iload_n 2, 1)) ∧ (decode cX10_net 76 = .ok (.ireturn, 1)) ∧ (decode cX10_net 77 = .ok (.aload_n 0, 1)) ∧ (decode cX10_net 78 = .ok (.getfield 19, 3)) ∧ (decode cX10_net 81 = .ok (.aload_n 0, 1)) ∧ (decode cX10_net 82 = .ok (.getfield 23, 3)) ∧ (decode cX10_net 85 = .ok (.invokevirtual 142, 3)) ∧ (decode cX10_net 88 = .ok (.aload_n 0, 1)) := by decide +kernel
theorem dX10_net_75 : decode cX10_net 75 = .ok (.iload_n 2, 1) := eX10_net_75q.1
theorem dX10_net_76 : decode cX10_net 76 = .ok (.ireturn, 1) := eX10_net_75q.2.1
theorem dX10_net_77 : decode cX10_net 77 = .ok (.aload_n 0, 1) := eX10_net_75q.2.2.1
theorem dX10_net_78 : decode cX10_net 78 = .ok (.getfield 19, 3) := eX10_net_75q.2.2.2.1
theorem dX10_net_81 : decode cX10_net 81 = .ok (.aload_n 0, 1) := eX10_net_75q.2.2.2.2.1
theorem dX10_net_82 : decode cX10_net 82 = .ok (.getfield 23, 3) := eX10_net_75q.2.2.2.2.2.1
theorem dX10_net_85 : decode cX10_net 85 = .ok (.invokevirtual 142, 3) := eX10_net_75q.2.2.2.2.2.2.1
theorem dX10_net_88 : decode cX10_net 88 = .ok (.aload_n 0, 1) := eX10_net_75q.2.2.2.2.2.2.2
theorem eX10_net_89q : (decode cX10_net 89 = .ok (.getfield 19, 3)) ∧ (decode cX10_net 92 = .ok (.invokevirtual 146, 3)) ∧ (decode cX10_net 95 = .ok (.aload_n 0, 1)) ∧ (decode cX10_net 96 = .ok (.getfield 38, 3)) ∧ (decode cX10_net 99 = .ok (.aload_n 0, 1)) ∧ (decode cX10_net 100 = .ok (.getfield 19, 3)) ∧ (decode cX10_net 103 = .ok (.getfield 149, 3)) ∧ (decode cX10_net 106 = .ok (.invokevirtual 152, 3)) := by decide +kernel
theorem dX10_net_89 : decode cX10_net 89 = .ok (.getfield 19, 3) := eX10_net_89q.1
theorem dX10_net_92 : decode cX10_net 92 = .ok (.invokevirtual 146, 3) := eX10_net_89q.2.1
theorem dX10_net_95 : decode cX10_net 95 = .ok (.aload_n 0, 1) := eX10_net_89q.2.2.1
theorem dX10_net_96 : decode cX10_net 96 = .ok (.getfield 38, 3) := eX10_net_89q.2.2.2.1
theorem dX10_net_99 : decode cX10_net 99 = .ok (.aload_n 0, 1) := eX10_net_89q.2.2.2.2.1
theorem dX10_net_100 : decode cX10_net 100 = .ok (.getfield 19, 3) := eX10_net_89q.2.2.2.2.2.1
theorem dX10_net_103 : decode cX10_net 103 = .ok (.getfield 149, 3) := eX10_net_89q.2.2.2.2.2.2.1
theorem dX10_net_106 : decode cX10_net 106 = .ok (.invokevirtual 152, 3) := eX10_net_89q.2.2.2.2.2.2.2
theorem eX10_net_109q : (decode cX10_net 109 = .ok (.aload_n 0, 1)) ∧ (decode cX10_net 110 = .ok (.getfield 89, 3)) ∧ (decode cX10_net 113 = .ok (.iconst 0, 1)) ∧ (decode cX10_net 114 = .ok (.putfield 155, 3)) ∧ (decode cX10_net 117 = .ok (.aload_n 0, 1)) ∧ (decode cX10_net 118 = .ok (.getfield 82, 3)) ∧ (decode cX10_net 121 = .ok (.iconst 0, 1)) ∧ (decode cX10_net 122 = .ok (.putfield 158, 3)) := by decide +kernel
theorem dX10_net_109 : decode cX10_net 109 = .ok (.aload_n 0, 1) := eX10_net_109q.1
theorem dX10_net_110 : decode cX10_net 110 = .ok (.getfield 89, 3) := eX10_net_109q.2.1
theorem dX10_net_113 : decode cX10_net 113 = .ok (.iconst 0, 1) := eX10_net_109q.2.2.1
theorem dX10_net_114 : decode cX10_net 114 = .ok (.putfield 155, 3) := eX10_net_109q.2.2.2.1
theorem dX10_net_117 : decode cX10_net 117 = .ok (.aload_n 0, 1) := eX10_net_109q.2.2.2.2.1
theorem dX10_net_118 : decode cX10_net 118 = .ok (.getfield 82, 3) := eX10_net_109q.2.2.2.2.2.1
theorem dX10_net_121 : decode cX10_net 121 = .ok (.iconst 0, 1) := eX10_net_109q.2.2.2.2.2.2.1
theorem dX10_net_122 : decode cX10_net 122 = .ok (.putfield 158, 3) := eX10_net_109q.2.2.2.2.2.2.2
theorem eX10_net_125q : (decode cX10_net 125 = .ok (.aload_n 0, 1)) ∧ (decode cX10_net 126 = .ok (.iconst 0, 1)) ∧ (decode cX10_net 127 = .ok (.putfield 97, 3)) ∧ (decode cX10_net 130 = .ok (.iconst 0, 1)) ∧ (decode cX10_net 131 = .ok (.ireturn, 1)) := by decide +kernel
theorem dX10_net_125 : decode cX10_net 125 = .ok (.aload_n 0, 1) := eX10_net_125q.1
theorem dX10_net_126 : decode cX10_net 126 = .ok (.iconst 0, 1) := eX10_net_125q.2.1
theorem dX10_net_127 : decode cX10_net 127 = .ok (.putfield 97, 3) := eX10_net_125q.2.2.1
theorem dX10_net_130 : decode cX10_net 130 = .ok (.iconst 0, 1) := eX10_net_125q.2.2.2.1
theorem dX10_net_131 : decode cX10_net 131 = .ok (.ireturn, 1) := eX10_net_125q.2.2.2.2
