set_option maxRecDepth 20000 in
theorem ggX1_keep_X1_rowOf : GoodIn wsX1_keep wsX1_rowOf := by
  have h := goodIn_app (goodIn_app (goodIn_r (big := wsX1_keep) (.code yX1_rowOf cX1_rowOf 4 (some (.object "PathProber$Condition")) :: ([.fieldLink RX1 17 "PathProber$History" "oldest" "I", .fieldLink RX1 11 "PathProber$History" "ahead" "[LPathProber$Condition;", .classLink RX1 9 RX0, .instantiable RX0 10, .initialized RX0, .instanceMethod yX0_init, .code yX0_init cX0_init 1 none, .methodLink RX0 3 objectInit, .instanceMethod objectInit, .code objectInit ⟨#[0xb1]⟩ 1 none, .arrayClass .long, .fieldLink RX0 9 "PathProber$Condition" "seen" "[J", .arrayClass .int, .fieldLink RX0 15 "PathProber$Condition" "sent" "[I", .fieldLink RX0 19 "PathProber$Condition" "turn" "[I", .fieldLink RX0 22 "PathProber$Condition" "counter" "[I", .fieldLink RX0 25 "PathProber$Condition" "loss" "I", .fieldLink RX0 29 "PathProber$Condition" "opened" "I", .fieldLink RX0 32 "PathProber$Condition" "open" "I", .fieldLink RX0 35 "PathProber$Condition" "deep" "I", .fieldLink RX0 38 "PathProber$Condition" "muted" "I", .fieldLink RX0 41 "PathProber$Condition" "lost" "I"]) : List Cond) [7, 2, 8, 9, 10, 11, 12, 13, 14, 15, 16, 17, 18, 19, 20, 21, 22, 23, 24, 25, 26, 27, 28] rfl (by decide +kernel)) (goodIn_few (big := wsX1_keep) (fun _ h9 => List.mem_cons_of_mem _ (List.mem_append_left _ (List.mem_append_right _ h9))) gb_11)) (goodIn_few (big := wsX1_keep) (fun _ h9 => List.mem_cons_of_mem _ (List.mem_append_right _ h9)) gb_1)
  exact h
set_option maxRecDepth 20000 in
theorem gX1_keep_X1_rowOf : GoodIn wsX1_keep (wsV RX1 24 RX1 yX1_rowOf wsX1_rowOf) := goodIn_app (goodIn_r _ [3, 4, 5, 6] rfl (by decide +kernel)) ggX1_keep_X1_rowOf
set_option maxRecDepth 20000 in
theorem ggX1_keep_X0_copyFrom : GoodIn wsX1_keep wsX0_copyFrom := by
  have h := goodIn_app (goodIn_r (big := wsX1_keep) (.code yX0_copyFrom cX0_copyFrom 2 none :: ([.fieldLink RX0 9 "PathProber$Condition" "seen" "[J", .methodLink RX0 47 arraycopyName, .native arraycopyName, .static arraycopyName, .initialized "java/lang/System", .fieldLink RX0 15 "PathProber$Condition" "sent" "[I", .fieldLink RX0 19 "PathProber$Condition" "turn" "[I", .fieldLink RX0 22 "PathProber$Condition" "counter" "[I", .fieldLink RX0 25 "PathProber$Condition" "loss" "I", .fieldLink RX0 29 "PathProber$Condition" "opened" "I", .fieldLink RX0 32 "PathProber$Condition" "open" "I", .fieldLink RX0 35 "PathProber$Condition" "deep" "I", .fieldLink RX0 38 "PathProber$Condition" "muted" "I", .fieldLink RX0 41 "PathProber$Condition" "lost" "I"]) : List Cond) [32, 18, 33, 34, 35, 36, 20, 21, 22, 23, 24, 25, 26, 27, 28] rfl (by decide +kernel)) (goodIn_few (big := wsX1_keep) (fun _ h9 => List.mem_cons_of_mem _ (List.mem_append_right _ h9)) gb_1)
  exact h
set_option maxRecDepth 20000 in
theorem gX1_keep_X0_copyFrom : GoodIn wsX1_keep (wsV RX1 28 RX0 yX0_copyFrom wsX0_copyFrom) := goodIn_app (goodIn_r _ [29, 30, 31, 11] rfl (by decide +kernel)) ggX1_keep_X0_copyFrom
theorem eX1_keep_0q : (decode cX1_keep 0 = .ok (.aload_n 0, 1)) ∧ (decode cX1_keep 1 = .ok (.getfield 21, 3)) ∧ (decode cX1_keep 4 = .ok (.bipush 40, 2)) ∧ (decode cX1_keep 6 = .ok (.if_icmp .lt 22, 3)) ∧ (decode cX1_keep 9 = .ok (.aload_n 0, 1)) ∧ (decode cX1_keep 10 = .ok (.aload_n 0, 1)) ∧ (decode cX1_keep 11 = .ok (.getfield 17, 3)) ∧ (decode cX1_keep 14 = .ok (.iconst 1, 1)) := by decide +kernel
theorem dX1_keep_0 : decode cX1_keep 0 = .ok (.aload_n 0, 1) := eX1_keep_0q.1
theorem dX1_keep_1 : decode cX1_keep 1 = .ok (.getfield 21, 3) := eX1_keep_0q.2.1
theorem dX1_keep_4 : decode cX1_keep 4 = .ok (.bipush 40, 2) := eX1_keep_0q.2.2.1
theorem dX1_keep_6 : decode cX1_keep 6 = .ok (.if_icmp .lt 22, 3) := eX1_keep_0q.2.2.2.1
theorem dX1_keep_9 : decode cX1_keep 9 = .ok (.aload_n 0, 1) := eX1_keep_0q.2.2.2.2.1
theorem dX1_keep_10 : decode cX1_keep 10 = .ok (.aload_n 0, 1) := eX1_keep_0q.2.2.2.2.2.1
theorem dX1_keep_11 : decode cX1_keep 11 = .ok (.getfield 17, 3) := eX1_keep_0q.2.2.2.2.2.2.1
theorem dX1_keep_14 : decode cX1_keep 14 = .ok (.iconst 1, 1) := eX1_keep_0q.2.2.2.2.2.2.2
theorem eX1_keep_15q : (decode cX1_keep 15 = .ok (.iadd, 1)) ∧ (decode cX1_keep 16 = .ok (.bipush 40, 2)) ∧ (decode cX1_keep 18 = .ok (.irem, 1)) ∧ (decode cX1_keep 19 = .ok (.putfield 17, 3)) ∧ (decode cX1_keep 22 = .ok (.aload_n 0, 1)) ∧ (decode cX1_keep 23 = .ok (.bipush 39, 2)) ∧ (decode cX1_keep 25 = .ok (.putfield 21, 3)) ∧ (decode cX1_keep 28 = .ok (.aload_n 0, 1)) := by decide +kernel
theorem dX1_keep_15 : decode cX1_keep 15 = .ok (.iadd, 1) := eX1_keep_15q.1
theorem dX1_keep_16 : decode cX1_keep 16 = .ok (.bipush 40, 2) := eX1_keep_15q.2.1
theorem dX1_keep_18 : decode cX1_keep 18 = .ok (.irem, 1) := eX1_keep_15q.2.2.1
theorem dX1_keep_19 : decode cX1_keep 19 = .ok (.putfield 17, 3) := eX1_keep_15q.2.2.2.1
theorem dX1_keep_22 : decode cX1_keep 22 = .ok (.aload_n 0, 1) := eX1_keep_15q.2.2.2.2.1
theorem dX1_keep_23 : decode cX1_keep 23 = .ok (.bipush 39, 2) := eX1_keep_15q.2.2.2.2.2.1
theorem dX1_keep_25 : decode cX1_keep 25 = .ok (.putfield 21, 3) := eX1_keep_15q.2.2.2.2.2.2.1
theorem dX1_keep_28 : decode cX1_keep 28 = .ok (.aload_n 0, 1) := eX1_keep_15q.2.2.2.2.2.2.2
theorem eX1_keep_29q : (decode cX1_keep 29 = .ok (.aload_n 0, 1)) ∧ (decode cX1_keep 30 = .ok (.getfield 21, 3)) ∧ (decode cX1_keep 33 = .ok (.invokevirtual 24, 3)) ∧ (decode cX1_keep 36 = .ok (.aload_n 1, 1)) ∧ (decode cX1_keep 37 = .ok (.invokevirtual 28, 3)) ∧ (decode cX1_keep 40 = .ok (.aload_n 0, 1)) ∧ (decode cX1_keep 41 = .ok (.dup, 1)) ∧ (decode cX1_keep 42 = .ok (.getfield 21, 3)) := by decide +kernel
theorem dX1_keep_29 : decode cX1_keep 29 = .ok (.aload_n 0, 1) := eX1_keep_29q.1
theorem dX1_keep_30 : decode cX1_keep 30 = .ok (.getfield 21, 3) := eX1_keep_29q.2.1
theorem dX1_keep_33 : decode cX1_keep 33 = .ok (.invokevirtual 24, 3) := eX1_keep_29q.2.2.1
theorem dX1_keep_36 : decode cX1_keep 36 = .ok (.aload_n 1, 1) := eX1_keep_29q.2.2.2.1
theorem dX1_keep_37 : decode cX1_keep 37 = .ok (.invokevirtual 28, 3) := eX1_keep_29q.2.2.2.2.1
theorem dX1_keep_40 : decode cX1_keep 40 = .ok (.aload_n 0, 1) := eX1_keep_29q.2.2.2.2.2.1
theorem dX1_keep_41 : decode cX1_keep 41 = .ok (.dup, 1) := eX1_keep_29q.2.2.2.2.2.2.1
theorem dX1_keep_42 : decode cX1_keep 42 = .ok (.getfield 21, 3) := eX1_keep_29q.2.2.2.2.2.2.2
theorem eX1_keep_45q : (decode cX1_keep 45 = .ok (.iconst 1, 1)) ∧ (decode cX1_keep 46 = .ok (.iadd, 1)) ∧ (decode cX1_keep 47 = .ok (.putfield 21, 3)) ∧ (decode cX1_keep 50 = .ok (.return_, 1)) := by decide +kernel
theorem dX1_keep_45 : decode cX1_keep 45 = .ok (.iconst 1, 1) := eX1_keep_45q.1
theorem dX1_keep_46 : decode cX1_keep 46 = .ok (.iadd, 1) := eX1_keep_45q.2.1
theorem dX1_keep_47 : decode cX1_keep 47 = .ok (.putfield 21, 3) := eX1_keep_45q.2.2.1
theorem dX1_keep_50 : decode cX1_keep 50 = .ok (.return_, 1) := eX1_keep_45q.2.2.2
set_option maxRecDepth 20000 in
theorem ggX1_takeBack_X1_rowOf : GoodIn wsX1_takeBack wsX1_rowOf := by
  have h := goodIn_app (goodIn_app (goodIn_r (big := wsX1_takeBack) (.code yX1_rowOf cX1_rowOf 4 (some (.object "PathProber$Condition")) :: ([.fieldLink RX1 17 "PathProber$History" "oldest" "I", .fieldLink RX1 11 "PathProber$History" "ahead" "[LPathProber$Condition;", .classLink RX1 9 RX0, .instantiable RX0 10, .initialized RX0, .instanceMethod yX0_init, .code yX0_init cX0_init 1 none, .methodLink RX0 3 objectInit, .instanceMethod objectInit, .code objectInit ⟨#[0xb1]⟩ 1 none, .arrayClass .long, .fieldLink RX0 9 "PathProber$Condition" "seen" "[J", .arrayClass .int, .fieldLink RX0 15 "PathProber$Condition" "sent" "[I", .fieldLink RX0 19 "PathProber$Condition" "turn" "[I", .fieldLink RX0 22 "PathProber$Condition" "counter" "[I", .fieldLink RX0 25 "PathProber$Condition" "loss" "I", .fieldLink RX0 29 "PathProber$Condition" "opened" "I", .fieldLink RX0 32 "PathProber$Condition" "open" "I", .fieldLink RX0 35 "PathProber$Condition" "deep" "I", .fieldLink RX0 38 "PathProber$Condition" "muted" "I", .fieldLink RX0 41 "PathProber$Condition" "lost" "I"]) : List Cond) [6, 7, 8, 9, 10, 11, 12, 13, 14, 15, 16, 17, 18, 19, 20, 21, 22, 23, 24, 25, 26, 27, 28] rfl (by decide +kernel)) (goodIn_few (big := wsX1_takeBack) (fun _ h9 => List.mem_cons_of_mem _ (List.mem_append_left _ (List.mem_append_right _ h9))) gb_11)) (goodIn_few (big := wsX1_takeBack) (fun _ h9 => List.mem_cons_of_mem _ (List.mem_append_right _ h9)) gb_1)
  exact h
set_option maxRecDepth 20000 in
theorem gX1_takeBack_X1_rowOf : GoodIn wsX1_takeBack (wsV RX1 24 RX1 yX1_rowOf wsX1_rowOf) := goodIn_app (goodIn_r _ [2, 3, 4, 5] rfl (by decide +kernel)) ggX1_takeBack_X1_rowOf
set_option maxRecDepth 20000 in
theorem ggX1_takeBack_X0_copyFrom : GoodIn wsX1_takeBack wsX0_copyFrom := by
  have h := goodIn_app (goodIn_r (big := wsX1_takeBack) (.code yX0_copyFrom cX0_copyFrom 2 none :: ([.fieldLink RX0 9 "PathProber$Condition" "seen" "[J", .methodLink RX0 47 arraycopyName, .native arraycopyName, .static arraycopyName, .initialized "java/lang/System", .fieldLink RX0 15 "PathProber$Condition" "sent" "[I", .fieldLink RX0 19 "PathProber$Condition" "turn" "[I", .fieldLink RX0 22 "PathProber$Condition" "counter" "[I", .fieldLink RX0 25 "PathProber$Condition" "loss" "I", .fieldLink RX0 29 "PathProber$Condition" "opened" "I", .fieldLink RX0 32 "PathProber$Condition" "open" "I", .fieldLink RX0 35 "PathProber$Condition" "deep" "I", .fieldLink RX0 38 "PathProber$Condition" "muted" "I", .fieldLink RX0 41 "PathProber$Condition" "lost" "I"]) : List Cond) [32, 18, 33, 34, 35, 36, 20, 21, 22, 23, 24, 25, 26, 27, 28] rfl (by decide +kernel)) (goodIn_few (big := wsX1_takeBack) (fun _ h9 => List.mem_cons_of_mem _ (List.mem_append_right _ h9)) gb_1)
  exact h
set_option maxRecDepth 20000 in
theorem gX1_takeBack_X0_copyFrom : GoodIn wsX1_takeBack (wsV RX1 28 RX0 yX0_copyFrom wsX0_copyFrom) := goodIn_app (goodIn_r _ [29, 30, 31, 11] rfl (by decide +kernel)) ggX1_takeBack_X0_copyFrom
theorem eX1_takeBack_0q : (decode cX1_takeBack 0 = .ok (.aload_n 0, 1)) ∧ (decode cX1_takeBack 1 = .ok (.getfield 21, 3)) ∧ (decode cX1_takeBack 4 = .ok (.ifCond .gt 4, 3)) ∧ (decode cX1_takeBack 7 = .ok (.return_, 1)) ∧ (decode cX1_takeBack 8 = .ok (.aload_n 0, 1)) ∧ (decode cX1_takeBack 9 = .ok (.dup, 1)) ∧ (decode cX1_takeBack 10 = .ok (.getfield 21, 3)) ∧ (decode cX1_takeBack 13 = .ok (.iconst 1, 1)) := by decide +kernel
theorem dX1_takeBack_0 : decode cX1_takeBack 0 = .ok (.aload_n 0, 1) := eX1_takeBack_0q.1
theorem dX1_takeBack_1 : decode cX1_takeBack 1 = .ok (.getfield 21, 3) := eX1_takeBack_0q.2.1
theorem dX1_takeBack_4 : decode cX1_takeBack 4 = .ok (.ifCond .gt 4, 3) := eX1_takeBack_0q.2.2.1
theorem dX1_takeBack_7 : decode cX1_takeBack 7 = .ok (.return_, 1) := eX1_takeBack_0q.2.2.2.1
theorem dX1_takeBack_8 : decode cX1_takeBack 8 = .ok (.aload_n 0, 1) := eX1_takeBack_0q.2.2.2.2.1
theorem dX1_takeBack_9 : decode cX1_takeBack 9 = .ok (.dup, 1) := eX1_takeBack_0q.2.2.2.2.2.1
theorem dX1_takeBack_10 : decode cX1_takeBack 10 = .ok (.getfield 21, 3) := eX1_takeBack_0q.2.2.2.2.2.2.1
theorem dX1_takeBack_13 : decode cX1_takeBack 13 = .ok (.iconst 1, 1) := eX1_takeBack_0q.2.2.2.2.2.2.2
theorem eX1_takeBack_14q : (decode cX1_takeBack 14 = .ok (.isub, 1)) ∧ (decode cX1_takeBack 15 = .ok (.putfield 21, 3)) ∧ (decode cX1_takeBack 18 = .ok (.aload_n 1, 1)) ∧ (decode cX1_takeBack 19 = .ok (.aload_n 0, 1)) ∧ (decode cX1_takeBack 20 = .ok (.aload_n 0, 1)) ∧ (decode cX1_takeBack 21 = .ok (.getfield 21, 3)) ∧ (decode cX1_takeBack 24 = .ok (.invokevirtual 24, 3)) ∧ (decode cX1_takeBack 27 = .ok (.invokevirtual 28, 3)) := by decide +kernel
theorem dX1_takeBack_14 : decode cX1_takeBack 14 = .ok (.isub, 1) := eX1_takeBack_14q.1
theorem dX1_takeBack_15 : decode cX1_takeBack 15 = .ok (.putfield 21, 3) := eX1_takeBack_14q.2.1
theorem dX1_takeBack_18 : decode cX1_takeBack 18 = .ok (.aload_n 1, 1) := eX1_takeBack_14q.2.2.1
theorem dX1_takeBack_19 : decode cX1_takeBack 19 = .ok (.aload_n 0, 1) := eX1_takeBack_14q.2.2.2.1
theorem dX1_takeBack_20 : decode cX1_takeBack 20 = .ok (.aload_n 0, 1) := eX1_takeBack_14q.2.2.2.2.1
theorem dX1_takeBack_21 : decode cX1_takeBack 21 = .ok (.getfield 21, 3) := eX1_takeBack_14q.2.2.2.2.2.1
theorem dX1_takeBack_24 : decode cX1_takeBack 24 = .ok (.invokevirtual 24, 3) := eX1_takeBack_14q.2.2.2.2.2.2.1
theorem dX1_takeBack_27 : decode cX1_takeBack 27 = .ok (.invokevirtual 28, 3) := eX1_takeBack_14q.2.2.2.2.2.2.2
theorem dX1_takeBack_30 : decode cX1_takeBack 30 = .ok (.return_, 1) := by decide +kernel
set_option maxRecDepth 20000 in
theorem ggX1_copyFrom_X1_rowOf : GoodIn wsX1_copyFrom wsX1_rowOf := by
  have h := goodIn_app (goodIn_app (goodIn_r (big := wsX1_copyFrom) (.code yX1_rowOf cX1_rowOf 4 (some (.object "PathProber$Condition")) :: ([.fieldLink RX1 17 "PathProber$History" "oldest" "I", .fieldLink RX1 11 "PathProber$History" "ahead" "[LPathProber$Condition;", .classLink RX1 9 RX0, .instantiable RX0 10, .initialized RX0, .instanceMethod yX0_init, .code yX0_init cX0_init 1 none, .methodLink RX0 3 objectInit, .instanceMethod objectInit, .code objectInit ⟨#[0xb1]⟩ 1 none, .arrayClass .long, .fieldLink RX0 9 "PathProber$Condition" "seen" "[J", .arrayClass .int, .fieldLink RX0 15 "PathProber$Condition" "sent" "[I", .fieldLink RX0 19 "PathProber$Condition" "turn" "[I", .fieldLink RX0 22 "PathProber$Condition" "counter" "[I", .fieldLink RX0 25 "PathProber$Condition" "loss" "I", .fieldLink RX0 29 "PathProber$Condition" "opened" "I", .fieldLink RX0 32 "PathProber$Condition" "open" "I", .fieldLink RX0 35 "PathProber$Condition" "deep" "I", .fieldLink RX0 38 "PathProber$Condition" "muted" "I", .fieldLink RX0 41 "PathProber$Condition" "lost" "I"]) : List Cond) [6, 7, 8, 9, 10, 11, 12, 13, 14, 15, 16, 17, 18, 19, 20, 21, 22, 23, 24, 25, 26, 27, 28] rfl (by decide +kernel)) (goodIn_few (big := wsX1_copyFrom) (fun _ h9 => List.mem_cons_of_mem _ (List.mem_append_left _ (List.mem_append_right _ h9))) gb_11)) (goodIn_few (big := wsX1_copyFrom) (fun _ h9 => List.mem_cons_of_mem _ (List.mem_append_right _ h9)) gb_1)
  exact h
set_option maxRecDepth 20000 in
theorem gX1_copyFrom_X1_rowOf : GoodIn wsX1_copyFrom (wsV RX1 24 RX1 yX1_rowOf wsX1_rowOf) := goodIn_app (goodIn_r _ [2, 3, 4, 5] rfl (by decide +kernel)) ggX1_copyFrom_X1_rowOf
set_option maxRecDepth 20000 in
theorem ggX1_copyFrom_X1_keep : GoodIn wsX1_copyFrom wsX1_keep := by
  have h := goodIn_app (goodIn_app (goodIn_r (big := wsX1_copyFrom) (.code yX1_keep cX1_keep 2 none :: (wsX1_keep_r1 ++ wsX1_keep_r2) : List Cond) [32, 1, 7, 2, 3, 4, 5, 6, 8, 9, 10, 11, 12, 13, 14, 15, 16, 17, 18, 19, 20, 21, 22, 23, 24, 25, 26, 27, 28, 33, 34, 35, 36, 37, 38, 39, 40] rfl (by decide +kernel)) (goodIn_few (big := wsX1_copyFrom) (fun _ h9 => List.mem_cons_of_mem _ (List.mem_append_left _ (List.mem_append_right _ h9))) gb_11)) (goodIn_few (big := wsX1_copyFrom) (fun _ h9 => List.mem_cons_of_mem _ (List.mem_append_right _ h9)) gb_1)
  exact h
set_option maxRecDepth 20000 in
theorem gX1_copyFrom_X1_keep : GoodIn wsX1_copyFrom (wsV RX1 32 RX1 yX1_keep wsX1_keep) := goodIn_app (goodIn_r _ [29, 30, 31, 5] rfl (by decide +kernel)) ggX1_copyFrom_X1_keep
theorem eX1_copyFrom_0q : (decode cX1_copyFrom 0 = .ok (.aload_n 0, 1)) ∧ (decode cX1_copyFrom 1 = .ok (.iconst 0, 1)) ∧ (decode cX1_copyFrom 2 = .ok (.putfield 21, 3)) ∧ (decode cX1_copyFrom 5 = .ok (.iconst 0, 1)) ∧ (decode cX1_copyFrom 6 = .ok (.istore_n 2, 1)) ∧ (decode cX1_copyFrom 7 = .ok (.iload_n 2, 1)) ∧ (decode cX1_copyFrom 8 = .ok (.aload_n 1, 1)) ∧ (decode cX1_copyFrom 9 = .ok (.getfield 21, 3)) := by decide +kernel
theorem dX1_copyFrom_0 : decode cX1_copyFrom 0 = .ok (.aload_n 0, 1) := eX1_copyFrom_0q.1
theorem dX1_copyFrom_1 : decode cX1_copyFrom 1 = .ok (.iconst 0, 1) := eX1_copyFrom_0q.2.1
theorem dX1_copyFrom_2 : decode cX1_copyFrom 2 = .ok (.putfield 21, 3) := eX1_copyFrom_0q.2.2.1
theorem dX1_copyFrom_5 : decode cX1_copyFrom 5 = .ok (.iconst 0, 1) := eX1_copyFrom_0q.2.2.2.1
theorem dX1_copyFrom_6 : decode cX1_copyFrom 6 = .ok (.istore_n 2, 1) := eX1_copyFrom_0q.2.2.2.2.1
theorem dX1_copyFrom_7 : decode cX1_copyFrom 7 = .ok (.iload_n 2, 1) := eX1_copyFrom_0q.2.2.2.2.2.1
theorem dX1_copyFrom_8 : decode cX1_copyFrom 8 = .ok (.aload_n 1, 1) := eX1_copyFrom_0q.2.2.2.2.2.2.1
theorem dX1_copyFrom_9 : decode cX1_copyFrom 9 = .ok (.getfield 21, 3) := eX1_copyFrom_0q.2.2.2.2.2.2.2
theorem eX1_copyFrom_12q : (decode cX1_copyFrom 12 = .ok (.if_icmp .ge 18, 3)) ∧ (decode cX1_copyFrom 15 = .ok (.aload_n 0, 1)) ∧ (decode cX1_copyFrom 16 = .ok (.aload_n 1, 1)) ∧ (decode cX1_copyFrom 17 = .ok (.iload_n 2, 1)) ∧ (decode cX1_copyFrom 18 = .ok (.invokevirtual 24, 3)) ∧ (decode cX1_copyFrom 21 = .ok (.invokevirtual 32, 3)) ∧ (decode cX1_copyFrom 24 = .ok (.iinc 2 1, 3)) ∧ (decode cX1_copyFrom 27 = .ok (.goto (-20), 3)) := by decide +kernel
theorem dX1_copyFrom_12 : decode cX1_copyFrom 12 = .ok (.if_icmp .ge 18, 3) := eX1_copyFrom_12q.1
theorem dX1_copyFrom_15 : decode cX1_copyFrom 15 = .ok (.aload_n 0, 1) := eX1_copyFrom_12q.2.1
theorem dX1_copyFrom_16 : decode cX1_copyFrom 16 = .ok (.aload_n 1, 1) := eX1_copyFrom_12q.2.2.1
theorem dX1_copyFrom_17 : decode cX1_copyFrom 17 = .ok (.iload_n 2, 1) := eX1_copyFrom_12q.2.2.2.1
theorem dX1_copyFrom_18 : decode cX1_copyFrom 18 = .ok (.invokevirtual 24, 3) := eX1_copyFrom_12q.2.2.2.2.1
theorem dX1_copyFrom_21 : decode cX1_copyFrom 21 = .ok (.invokevirtual 32, 3) := eX1_copyFrom_12q.2.2.2.2.2.1
theorem dX1_copyFrom_24 : decode cX1_copyFrom 24 = .ok (.iinc 2 1, 3) := eX1_copyFrom_12q.2.2.2.2.2.2.1
theorem dX1_copyFrom_27 : decode cX1_copyFrom 27 = .ok (.goto (-20), 3) := eX1_copyFrom_12q.2.2.2.2.2.2.2
theorem dX1_copyFrom_30 : decode cX1_copyFrom 30 = .ok (.return_, 1) := by decide +kernel
set_option maxRecDepth 20000 in
theorem ggX1_rowOf_X0_init : GoodIn wsX1_rowOf wsX0_init := by
  have h := goodIn_app (goodIn_r (big := wsX1_rowOf) (.code yX0_init cX0_init 1 none :: ([.methodLink RX0 3 objectInit, .instanceMethod objectInit, .code objectInit ⟨#[0xb1]⟩ 1 none, .arrayClass .long, .fieldLink RX0 9 "PathProber$Condition" "seen" "[J", .arrayClass .int, .fieldLink RX0 15 "PathProber$Condition" "sent" "[I", .fieldLink RX0 19 "PathProber$Condition" "turn" "[I", .fieldLink RX0 22 "PathProber$Condition" "counter" "[I", .fieldLink RX0 25 "PathProber$Condition" "loss" "I", .fieldLink RX0 29 "PathProber$Condition" "opened" "I", .fieldLink RX0 32 "PathProber$Condition" "open" "I", .fieldLink RX0 35 "PathProber$Condition" "deep" "I", .fieldLink RX0 38 "PathProber$Condition" "muted" "I", .fieldLink RX0 41 "PathProber$Condition" "lost" "I"]) : List Cond) [7, 8, 9, 10, 11, 12, 13, 14, 15, 16, 17, 18, 19, 20, 21, 22] rfl (by decide +kernel)) (goodIn_few (big := wsX1_rowOf) (fun _ h9 => List.mem_cons_of_mem _ (List.mem_append_right _ h9)) gb_1)
  exact h
set_option maxRecDepth 20000 in
theorem gX1_rowOf_X0_init_n35 : GoodIn wsX1_rowOf (wsX0_init) := ggX1_rowOf_X0_init
theorem eX1_rowOf_0q : (decode cX1_rowOf 0 = .ok (.aload_n 0, 1)) ∧ (decode cX1_rowOf 1 = .ok (.getfield 17, 3)) ∧ (decode cX1_rowOf 4 = .ok (.iload_n 1, 1)) ∧ (decode cX1_rowOf 5 = .ok (.iadd, 1)) ∧ (decode cX1_rowOf 6 = .ok (.bipush 40, 2)) ∧ (decode cX1_rowOf 8 = .ok (.irem, 1)) ∧ (decode cX1_rowOf 9 = .ok (.istore_n 2, 1)) ∧ (decode cX1_rowOf 10 = .ok (.aload_n 0, 1)) := by decide +kernel
theorem dX1_rowOf_0 : decode cX1_rowOf 0 = .ok (.aload_n 0, 1) := eX1_rowOf_0q.1
theorem dX1_rowOf_1 : decode cX1_rowOf 1 = .ok (.getfield 17, 3) := eX1_rowOf_0q.2.1
theorem dX1_rowOf_4 : decode cX1_rowOf 4 = .ok (.iload_n 1, 1) := eX1_rowOf_0q.2.2.1
theorem dX1_rowOf_5 : decode cX1_rowOf 5 = .ok (.iadd, 1) := eX1_rowOf_0q.2.2.2.1
theorem dX1_rowOf_6 : decode cX1_rowOf 6 = .ok (.bipush 40, 2) := eX1_rowOf_0q.2.2.2.2.1
theorem dX1_rowOf_8 : decode cX1_rowOf 8 = .ok (.irem, 1) := eX1_rowOf_0q.2.2.2.2.2.1
theorem dX1_rowOf_9 : decode cX1_rowOf 9 = .ok (.istore_n 2, 1) := eX1_rowOf_0q.2.2.2.2.2.2.1
theorem dX1_rowOf_10 : decode cX1_rowOf 10 = .ok (.aload_n 0, 1) := eX1_rowOf_0q.2.2.2.2.2.2.2
theorem eX1_rowOf_11q : (decode cX1_rowOf 11 = .ok (.getfield 11, 3)) ∧ (decode cX1_rowOf 14 = .ok (.iload_n 2, 1)) ∧ (decode cX1_rowOf 15 = .ok (.aaload, 1)) ∧ (decode cX1_rowOf 16 = .ok (.astore_n 3, 1)) ∧ (decode cX1_rowOf 17 = .ok (.aload_n 3, 1)) ∧ (decode cX1_rowOf 18 = .ok (.ifnonnull 18, 3)) ∧ (decode cX1_rowOf 21 = .ok (.new 9, 3)) ∧ (decode cX1_rowOf 24 = .ok (.dup, 1)) := by decide +kernel
theorem dX1_rowOf_11 : decode cX1_rowOf 11 = .ok (.getfield 11, 3) := eX1_rowOf_11q.1
theorem dX1_rowOf_14 : decode cX1_rowOf 14 = .ok (.iload_n 2, 1) := eX1_rowOf_11q.2.1
theorem dX1_rowOf_15 : decode cX1_rowOf 15 = .ok (.aaload, 1) := eX1_rowOf_11q.2.2.1
theorem dX1_rowOf_16 : decode cX1_rowOf 16 = .ok (.astore_n 3, 1) := eX1_rowOf_11q.2.2.2.1
theorem dX1_rowOf_17 : decode cX1_rowOf 17 = .ok (.aload_n 3, 1) := eX1_rowOf_11q.2.2.2.2.1
theorem dX1_rowOf_18 : decode cX1_rowOf 18 = .ok (.ifnonnull 18, 3) := eX1_rowOf_11q.2.2.2.2.2.1
theorem dX1_rowOf_21 : decode cX1_rowOf 21 = .ok (.new 9, 3) := eX1_rowOf_11q.2.2.2.2.2.2.1
theorem dX1_rowOf_24 : decode cX1_rowOf 24 = .ok (.dup, 1) := eX1_rowOf_11q.2.2.2.2.2.2.2
theorem eX1_rowOf_25q : (decode cX1_rowOf 25 = .ok (.invokespecial 35, 3)) ∧ (decode cX1_rowOf 28 = .ok (.astore_n 3, 1)) ∧ (decode cX1_rowOf 29 = .ok (.aload_n 0, 1)) ∧ (decode cX1_rowOf 30 = .ok (.getfield 11, 3)) ∧ (decode cX1_rowOf 33 = .ok (.iload_n 2, 1)) ∧ (decode cX1_rowOf 34 = .ok (.aload_n 3, 1)) ∧ (decode cX1_rowOf 35 = .ok (.aastore, 1)) ∧ (decode cX1_rowOf 36 = .ok (.aload_n 3, 1)) := by decide +kernel
theorem dX1_rowOf_25 : decode cX1_rowOf 25 = .ok (.invokespecial 35, 3) := eX1_rowOf_25q.1
theorem dX1_rowOf_28 : decode cX1_rowOf 28 = .ok (.astore_n 3, 1) := eX1_rowOf_25q.2.1
theorem dX1_rowOf_29 : decode cX1_rowOf 29 = .ok (.aload_n 0, 1) := eX1_rowOf_25q.2.2.1
theorem dX1_rowOf_30 : decode cX1_rowOf 30 = .ok (.getfield 11, 3) := eX1_rowOf_25q.2.2.2.1
theorem dX1_rowOf_33 : decode cX1_rowOf 33 = .ok (.iload_n 2, 1) := eX1_rowOf_25q.2.2.2.2.1
theorem dX1_rowOf_34 : decode cX1_rowOf 34 = .ok (.aload_n 3, 1) := eX1_rowOf_25q.2.2.2.2.2.1
theorem dX1_rowOf_35 : decode cX1_rowOf 35 = .ok (.aastore, 1) := eX1_rowOf_25q.2.2.2.2.2.2.1
theorem dX1_rowOf_36 : decode cX1_rowOf 36 = .ok (.aload_n 3, 1) := eX1_rowOf_25q.2.2.2.2.2.2.2
theorem dX1_rowOf_37 : decode cX1_rowOf 37 = .ok (.areturn, 1) := by decide +kernel
set_option maxRecDepth 20000 in
theorem ggX10_probe_X10_isPort : GoodIn wsX10_probe wsX10_isPort := goodIn_r _ [9] rfl (by decide +kernel)
set_option maxRecDepth 20000 in
theorem gX10_probe_X10_isPort : GoodIn wsX10_probe (va_wsS RX10 347 yX10_isPort wsX10_isPort) := goodIn_app (goodIn_r _ [6, 7, 8] rfl (by decide +kernel)) ggX10_probe_X10_isPort
set_option maxRecDepth 20000 in
theorem ggX10_probe_X2_hasGoal : GoodIn wsX10_probe wsX2_hasGoal := by
  have h := goodIn_app (goodIn_r (big := wsX10_probe) (.code yX2_hasGoal cX2_hasGoal 2 (some .boolean) :: ([.fieldLink RX2 40 "PathProber$Net" "goals" "I"]) : List Cond) [14, 15] rfl (by decide +kernel)) (goodIn_few (big := wsX10_probe) (fun _ h9 => List.mem_cons_of_mem _ (List.mem_append_left _ (List.mem_append_left _ (List.mem_append_left _ (List.mem_append_left _ (List.mem_append_right _ h9)))))) gb_2)
  exact h
set_option maxRecDepth 20000 in
theorem gX10_probe_X2_hasGoal : GoodIn wsX10_probe (wsV RX10 350 RX2 yX2_hasGoal wsX2_hasGoal) := goodIn_app (goodIn_r _ [10, 11, 12, 13] rfl (by decide +kernel)) ggX10_probe_X2_hasGoal
set_option maxRecDepth 20000 in
theorem ggX10_probe_X10_isHops : GoodIn wsX10_probe wsX10_isHops := goodIn_r _ [18] rfl (by decide +kernel)
set_option maxRecDepth 20000 in
theorem gX10_probe_X10_isHops : GoodIn wsX10_probe (va_wsS RX10 353 yX10_isHops wsX10_isHops) := goodIn_app (goodIn_r _ [16, 17, 8] rfl (by decide +kernel)) ggX10_probe_X10_isHops
set_option maxRecDepth 20000 in
theorem ggX10_probe_X1_keep : GoodIn wsX10_probe wsX1_keep := by
  have h := goodIn_app (goodIn_app (goodIn_r (big := wsX10_probe) (.code yX1_keep cX1_keep 2 none :: (wsX1_keep_r1 ++ wsX1_keep_r2) : List Cond) [23, 24, 25, 26, 27, 28, 22, 29, 30, 31, 32, 33, 34, 35, 36, 37, 38, 39, 40, 41, 42, 43, 44, 45, 46, 47, 48, 49, 50, 51, 52, 53, 54, 55, 56, 57, 58] rfl (by decide +kernel)) (goodIn_few (big := wsX10_probe) (fun _ h9 => List.mem_cons_of_mem _ (List.mem_append_left _ (List.mem_append_left _ (List.mem_append_left _ (List.mem_append_right _ h9))))) gb_11)) (goodIn_few (big := wsX10_probe) (fun _ h9 => List.mem_cons_of_mem _ (List.mem_append_left _ (List.mem_append_left _ (List.mem_append_right _ h9)))) gb_1)
  exact h
set_option maxRecDepth 20000 in
theorem gX10_probe_X1_keep : GoodIn wsX10_probe (wsV RX10 356 RX1 yX1_keep wsX1_keep) := goodIn_app (goodIn_r _ [19, 20, 21, 22] rfl (by decide +kernel)) ggX10_probe_X1_keep
set_option maxRecDepth 20000 in
theorem ggX10_probe_X6_sendOne : GoodIn wsX10_probe wsX6_sendOne := by
  have h := goodIn_app (goodIn_app (goodIn_app (goodIn_app (goodIn_r (big := wsX10_probe) (.code yX6_sendOne cX6_sendOne 5 (some .int) :: (wsX6_sendOne_r1 ++ (wsX6_sendOne_r2 ++ (wsX6_sendOne_r3 ++ (wsX6_sendOne_r4 ++ wsX6_sendOne_r5)))) : List Cond) [63, 64, 65, 66, 67, 68, 69, 70, 71, 72, 73, 33, 74, 46, 47, 48, 75, 76, 77, 78, 79, 80, 81, 82, 42, 83, 84, 85, 86, 87, 88, 89, 90, 91, 92, 93, 94, 95, 96, 97, 98, 99, 100, 101, 102, 103, 104, 105, 106, 107, 108, 109, 110, 13, 111, 112, 113, 114, 115, 116, 117, 118, 119, 120, 121, 122, 123, 62, 124, 125, 126, 127, 128, 129, 130, 131, 132, 133, 134, 135, 136, 137, 15, 138, 139, 140, 141, 142, 143, 144, 145, 146, 147, 148, 40, 149, 150, 151, 152, 153, 154] rfl (by decide +kernel)) (goodIn_few (big := wsX10_probe) (fun _ h9 => List.mem_cons_of_mem _ (List.mem_append_left _ (List.mem_append_right _ h9))) gb_6)) (goodIn_few (big := wsX10_probe) (fun _ h9 => List.mem_cons_of_mem _ (List.mem_append_right _ h9)) gb_5)) (goodIn_few (big := wsX10_probe) (fun _ h9 => List.mem_cons_of_mem _ (List.mem_append_left _ (List.mem_append_left _ (List.mem_append_right _ h9)))) gb_1)) (goodIn_few (big := wsX10_probe) (fun _ h9 => List.mem_cons_of_mem _ (List.mem_append_left _ (List.mem_append_left _ (List.mem_append_left _ (List.mem_append_left _ (List.mem_append_right _ h9)))))) gb_2)
  exact h
set_option maxRecDepth 20000 in
theorem gX10_probe_X6_sendOne : GoodIn wsX10_probe (wsV RX10 360 RX6 yX6_sendOne wsX6_sendOne) := goodIn_app (goodIn_r _ [59, 60, 61, 62] rfl (by decide +kernel)) ggX10_probe_X6_sendOne
theorem eX10_probe_0q : (decode cX10_probe 0 = .ok (.iload_n 1, 1)) ∧ (decode cX10_probe 1 = .ok (.invokestatic 347, 3)) ∧ (decode cX10_probe 4 = .ok (.ifCond .eq 21, 3)) ∧ (decode cX10_probe 7 = .ok (.aload_n 0, 1)) ∧ (decode cX10_probe 8 = .ok (.getfield 19, 3)) ∧ (decode cX10_probe 11 = .ok (.iload_n 2, 1)) ∧ (decode cX10_probe 12 = .ok (.invokevirtual 350, 3)) ∧ (decode cX10_probe 15 = .ok (.ifCond .eq 10, 3)) := by decide +kernel
theorem dX10_probe_0 : decode cX10_probe 0 = .ok (.iload_n 1, 1) := eX10_probe_0q.1
theorem dX10_probe_1 : decode cX10_probe 1 = .ok (.invokestatic 347, 3) := eX10_probe_0q.2.1
theorem dX10_probe_4 : decode cX10_probe 4 = .ok (.ifCond .eq 21, 3) := eX10_probe_0q.2.2.1
theorem dX10_probe_7 : decode cX10_probe 7 = .ok (.aload_n 0, 1) := eX10_probe_0q.2.2.2.1
theorem dX10_probe_8 : decode cX10_probe 8 = .ok (.getfield 19, 3) := eX10_probe_0q.2.2.2.2.1
theorem dX10_probe_11 : decode cX10_probe 11 = .ok (.iload_n 2, 1) := eX10_probe_0q.2.2.2.2.2.1
theorem dX10_probe_12 : decode cX10_probe 12 = .ok (.invokevirtual 350, 3) := eX10_probe_0q.2.2.2.2.2.2.1
theorem dX10_probe_15 : decode cX10_probe 15 = .ok (.ifCond .eq 10, 3) := eX10_probe_0q.2.2.2.2.2.2.2
theorem eX10_probe_18q : (decode cX10_probe 18 = .ok (.iload_n 3, 1)) ∧ (decode cX10_probe 19 = .ok (.invokestatic 353, 3)) ∧ (decode cX10_probe 22 = .ok (.ifCond .ne 16, 3)) ∧ (decode cX10_probe 25 = .ok (.aload_n 0, 1)) ∧ (decode cX10_probe 26 = .ok (.getfield 93, 3)) ∧ (decode cX10_probe 29 = .ok (.iconst 1, 1)) ∧ (decode cX10_probe 30 = .ok (.dup2, 1)) ∧ (decode cX10_probe 31 = .ok (.iaload, 1)) := by decide +kernel
theorem dX10_probe_18 : decode cX10_probe 18 = .ok (.iload_n 3, 1) := eX10_probe_18q.1
theorem dX10_probe_19 : decode cX10_probe 19 = .ok (.invokestatic 353, 3) := eX10_probe_18q.2.1
theorem dX10_probe_22 : decode cX10_probe 22 = .ok (.ifCond .ne 16, 3) := eX10_probe_18q.2.2.1
theorem dX10_probe_25 : decode cX10_probe 25 = .ok (.aload_n 0, 1) := eX10_probe_18q.2.2.2.1
theorem dX10_probe_26 : decode cX10_probe 26 = .ok (.getfield 93, 3) := eX10_probe_18q.2.2.2.2.1
theorem dX10_probe_29 : decode cX10_probe 29 = .ok (.iconst 1, 1) := eX10_probe_18q.2.2.2.2.2.1
theorem dX10_probe_30 : decode cX10_probe 30 = .ok (.dup2, 1) := eX10_probe_18q.2.2.2.2.2.2.1
theorem dX10_probe_31 : decode cX10_probe 31 = .ok (.iaload, 1) := eX10_probe_18q.2.2.2.2.2.2.2
theorem eX10_probe_32q : (decode cX10_probe 32 = .ok (.iconst 1, 1)) ∧ (decode cX10_probe 33 = .ok (.iadd, 1)) ∧ (decode cX10_probe 34 = .ok (.iastore, 1)) ∧ (decode cX10_probe 35 = .ok (.bipush (-2), 2)) ∧ (decode cX10_probe 37 = .ok (.ireturn, 1)) ∧ (decode cX10_probe 38 = .ok (.aload_n 0, 1)) ∧ (decode cX10_probe 39 = .ok (.getfield 89, 3)) ∧ (decode cX10_probe 42 = .ok (.aload_n 0, 1)) := by decide +kernel
theorem dX10_probe_32 : decode cX10_probe 32 = .ok (.iconst 1, 1) := eX10_probe_32q.1
theorem dX10_probe_33 : decode cX10_probe 33 = .ok (.iadd, 1) := eX10_probe_32q.2.1
theorem dX10_probe_34 : decode cX10_probe 34 = .ok (.iastore, 1) := eX10_probe_32q.2.2.1
theorem dX10_probe_35 : decode cX10_probe 35 = .ok (.bipush (-2), 2) := eX10_probe_32q.2.2.2.1
theorem dX10_probe_37 : decode cX10_probe 37 = .ok (.ireturn, 1) := eX10_probe_32q.2.2.2.2.1
theorem dX10_probe_38 : decode cX10_probe 38 = .ok (.aload_n 0, 1) := eX10_probe_32q.2.2.2.2.2.1
theorem dX10_probe_39 : decode cX10_probe 39 = .ok (.getfield 89, 3) := eX10_probe_32q.2.2.2.2.2.2.1
theorem dX10_probe_42 : decode cX10_probe 42 = .ok (.aload_n 0, 1) := eX10_probe_32q.2.2.2.2.2.2.2
theorem eX10_probe_43q : (decode cX10_probe 43 = .ok (.getfield 38, 3)) ∧ (decode cX10_probe 46 = .ok (.invokevirtual 356, 3)) ∧ (decode cX10_probe 49 = .ok (.aload_n 0, 1)) ∧ (decode cX10_probe 50 = .ok (.getfield 73, 3)) ∧ (decode cX10_probe 53 = .ok (.iload_n 1, 1)) ∧ (decode cX10_probe 54 = .ok (.iload_n 2, 1)) ∧ (decode cX10_probe 55 = .ok (.iload_n 3, 1)) ∧ (decode cX10_probe 56 = .ok (.invokevirtual 360, 3)) := by decide +kernel
theorem dX10_probe_43 : decode cX10_probe 43 = .ok (.getfield 38, 3) := eX10_probe_43q.1
theorem dX10_probe_46 : decode cX10_probe 46 = .ok (.invokevirtual 356, 3) := eX10_probe_43q.2.1
theorem dX10_probe_49 : decode cX10_probe 49 = .ok (.aload_n 0, 1) := eX10_probe_43q.2.2.1
theorem dX10_probe_50 : decode cX10_probe 50 = .ok (.getfield 73, 3) := eX10_probe_43q.2.2.2.1
theorem dX10_probe_53 : decode cX10_probe 53 = .ok (.iload_n 1, 1) := eX10_probe_43q.2.2.2.2.1
theorem dX10_probe_54 : decode cX10_probe 54 = .ok (.iload_n 2, 1) := eX10_probe_43q.2.2.2.2.2.1
theorem dX10_probe_55 : decode cX10_probe 55 = .ok (.iload_n 3, 1) := eX10_probe_43q.2.2.2.2.2.2.1
theorem dX10_probe_56 : decode cX10_probe 56 = .ok (.invokevirtual 360, 3) := eX10_probe_43q.2.2.2.2.2.2.2
theorem dX10_probe_59 : decode cX10_probe 59 = .ok (.ireturn, 1) := by decide +kernel
set_option maxRecDepth 20000 in
theorem ggX10_ping_X10_wasSeen : GoodIn wsX10_ping wsX10_wasSeen := by
  have h := goodIn_app (goodIn_app (goodIn_app (goodIn_app (goodIn_r (big := wsX10_ping) (.code yX10_wasSeen cX10_wasSeen 2 (some .boolean) :: ([.fieldLink RX10 19 "PathProber" "told" "LPathProber$Net;", .fieldLink RX10 57 "PathProber" "sight" "LPathProber$Sight;", .methodLink RX10 388 yX2_hasAddress, .instanceMethod yX2_hasAddress, .selects RX2 yX2_hasAddress yX2_hasAddress, .initialized RX2, .code yX2_hasAddress cX2_hasAddress 2 (some .boolean), .fieldLink RX2 33 "PathProber$Net" "routers" "I", .fieldLink RX2 37 "PathProber$Net" "links" "I", .methodLink RX10 173 yX7_addressesEverywhere, .instanceMethod yX7_addressesEverywhere, .selects RX7 yX7_addressesEverywhere yX7_addressesEverywhere, .initialized RX7, .code yX7_addressesEverywhere cX7_addressesEverywhere 4 (some .int), .fieldLink RX7 21 "PathProber$Sight" "net" "LPathProber$Net;", .fieldLink RX7 41 "PathProber$Net" "goals" "I", .fieldLink RX7 25 "PathProber$Sight" "now" "LPathProber$Condition;", .methodLink RX7 29 yX0_seenAt, .instanceMethod yX0_seenAt, .selects RX0 yX0_seenAt yX0_seenAt, .initialized RX0, .code yX0_seenAt cX0_seenAt 6 (some .int), .fieldLink RX0 9 "PathProber$Condition" "seen" "[J", .constantLong RX0 53 (31)]) : List Cond) [8, 9, 10, 11, 12, 13, 14, 15, 16, 17, 18, 19, 20, 21, 22, 23, 24, 25, 26, 27, 28, 29, 30, 31, 32] rfl (by decide +kernel)) (goodIn_few (big := wsX10_ping) (fun _ h9 => List.mem_cons_of_mem _ (List.mem_append_left _ (List.mem_append_left _ (List.mem_append_left _ (List.mem_append_left _ (List.mem_append_left _ (List.mem_append_right _ h9))))))) gb_9)) (goodIn_few (big := wsX10_ping) (fun _ h9 => List.mem_cons_of_mem _ (List.mem_append_left _ (List.mem_append_left _ (List.mem_append_left _ (List.mem_append_left _ (List.mem_append_right _ h9)))))) gb_2)) (goodIn_few (big := wsX10_ping) (fun _ h9 => List.mem_cons_of_mem _ (List.mem_append_left _ (List.mem_append_left _ (List.mem_append_left _ (List.mem_append_right _ h9))))) gb_7)) (goodIn_few (big := wsX10_ping) (fun _ h9 => List.mem_cons_of_mem _ (List.mem_append_left _ (List.mem_append_left _ (List.mem_append_right _ h9)))) gb_1)
  exact h
set_option maxRecDepth 20000 in
theorem gX10_ping_X10_wasSeen : GoodIn wsX10_ping (wsV RX10 363 RX10 yX10_wasSeen wsX10_wasSeen) := goodIn_app (goodIn_r _ [4, 5, 6, 7] rfl (by decide +kernel)) ggX10_ping_X10_wasSeen
set_option maxRecDepth 20000 in
theorem ggX10_ping_X10_refuseAct : GoodIn wsX10_ping wsX10_refuseAct := by
  have h := goodIn_app (goodIn_r (big := wsX10_ping) (.code yX10_refuseAct cX10_refuseAct 1 (some .int) :: ([.fieldLink RX10 93 "PathProber" "status" "[I"]) : List Cond) [36, 37] rfl (by decide +kernel)) (goodIn_few (big := wsX10_ping) (fun _ h9 => List.mem_cons_of_mem _ (List.mem_append_left _ (List.mem_append_left _ (List.mem_append_left _ (List.mem_append_left _ (List.mem_append_left _ (List.mem_append_right _ h9))))))) gb_9)
  exact h
set_option maxRecDepth 20000 in
theorem gX10_ping_X10_refuseAct : GoodIn wsX10_ping (wsV RX10 366 RX10 yX10_refuseAct wsX10_refuseAct) := goodIn_app (goodIn_r _ [33, 34, 35, 7] rfl (by decide +kernel)) ggX10_ping_X10_refuseAct
set_option maxRecDepth 20000 in
theorem ggX10_ping_X1_keep : GoodIn wsX10_ping wsX1_keep := by
  have h := goodIn_app (goodIn_app (goodIn_r (big := wsX10_ping) (.code yX1_keep cX1_keep 2 none :: (wsX1_keep_r1 ++ wsX1_keep_r2) : List Cond) [42, 43, 44, 45, 46, 47, 41, 48, 49, 50, 51, 29, 52, 53, 54, 55, 56, 57, 31, 58, 59, 60, 61, 62, 63, 64, 65, 66, 67, 68, 69, 70, 71, 72, 73, 74, 75] rfl (by decide +kernel)) (goodIn_few (big := wsX10_ping) (fun _ h9 => List.mem_cons_of_mem _ (List.mem_append_left _ (List.mem_append_right _ h9))) gb_11)) (goodIn_few (big := wsX10_ping) (fun _ h9 => List.mem_cons_of_mem _ (List.mem_append_left _ (List.mem_append_left _ (List.mem_append_right _ h9)))) gb_1)
  exact h
set_option maxRecDepth 20000 in
theorem gX10_ping_X1_keep : GoodIn wsX10_ping (wsV RX10 356 RX1 yX1_keep wsX1_keep) := goodIn_app (goodIn_r _ [38, 39, 40, 41] rfl (by decide +kernel)) ggX10_ping_X1_keep
set_option maxRecDepth 20000 in
theorem ggX10_ping_X6_pingOne : GoodIn wsX10_ping wsX6_pingOne := by
  have h := goodIn_app (goodIn_app (goodIn_app (goodIn_r (big := wsX10_ping) (.code yX6_pingOne cX6_pingOne 2 (some .int) :: ([.fieldLink RX6 15 "PathProber$Sender" "net" "LPathProber$Net;", .methodLink RX6 100 yX2_routerOf, .instanceMethod yX2_routerOf, .selects RX2 yX2_routerOf yX2_routerOf, .initialized RX2, .code yX2_routerOf cX2_routerOf 2 (some .int), .fieldLink RX2 37 "PathProber$Net" "links" "I", .fieldLink RX2 27 "PathProber$Net" "to" "[I", .methodLink RX6 65 yX6_stepCounter, .instanceMethod yX6_stepCounter, .selects RX6 yX6_stepCounter yX6_stepCounter, .initialized RX6, .code yX6_stepCounter cX6_stepCounter 2 (some .int), .fieldLink RX6 19 "PathProber$Sender" "now" "LPathProber$Condition;", .fieldLink RX6 94 "PathProber$Condition" "counter" "[I", .fieldLink RX6 97 "PathProber$Net" "pace" "[I"]) : List Cond) [80, 81, 82, 83, 84, 14, 85, 17, 86, 87, 88, 89, 79, 90, 91, 92, 93] rfl (by decide +kernel)) (goodIn_few (big := wsX10_ping) (fun _ h9 => List.mem_cons_of_mem _ (List.mem_append_right _ h9)) gb_6)) (goodIn_few (big := wsX10_ping) (fun _ h9 => List.mem_cons_of_mem _ (List.mem_append_left _ (List.mem_append_left _ (List.mem_append_left _ (List.mem_append_left _ (List.mem_append_right _ h9)))))) gb_2)) (goodIn_few (big := wsX10_ping) (fun _ h9 => List.mem_cons_of_mem _ (List.mem_append_left _ (List.mem_append_left _ (List.mem_append_right _ h9)))) gb_1)
  exact h
set_option maxRecDepth 20000 in
theorem gX10_ping_X6_pingOne : GoodIn wsX10_ping (wsV RX10 369 RX6 yX6_pingOne wsX6_pingOne) := goodIn_app (goodIn_r _ [76, 77, 78, 79] rfl (by decide +kernel)) ggX10_ping_X6_pingOne
theorem eX10_ping_0q : (decode cX10_ping 0 = .ok (.aload_n 0, 1)) ∧ (decode cX10_ping 1 = .ok (.iload_n 1, 1)) ∧ (decode cX10_ping 2 = .ok (.invokevirtual 363, 3)) ∧ (decode cX10_ping 5 = .ok (.ifCond .ne 8, 3)) ∧ (decode cX10_ping 8 = .ok (.aload_n 0, 1)) ∧ (decode cX10_ping 9 = .ok (.invokevirtual 366, 3)) ∧ (decode cX10_ping 12 = .ok (.ireturn, 1)) ∧ (decode cX10_ping 13 = .ok (.aload_n 0, 1)) := by decide +kernel
theorem dX10_ping_0 : decode cX10_ping 0 = .ok (.aload_n 0, 1) := eX10_ping_0q.1
theorem dX10_ping_1 : decode cX10_ping 1 = .ok (.iload_n 1, 1) := eX10_ping_0q.2.1
theorem dX10_ping_2 : decode cX10_ping 2 = .ok (.invokevirtual 363, 3) := eX10_ping_0q.2.2.1
theorem dX10_ping_5 : decode cX10_ping 5 = .ok (.ifCond .ne 8, 3) := eX10_ping_0q.2.2.2.1
theorem dX10_ping_8 : decode cX10_ping 8 = .ok (.aload_n 0, 1) := eX10_ping_0q.2.2.2.2.1
theorem dX10_ping_9 : decode cX10_ping 9 = .ok (.invokevirtual 366, 3) := eX10_ping_0q.2.2.2.2.2.1
theorem dX10_ping_12 : decode cX10_ping 12 = .ok (.ireturn, 1) := eX10_ping_0q.2.2.2.2.2.2.1
theorem dX10_ping_13 : decode cX10_ping 13 = .ok (.aload_n 0, 1) := eX10_ping_0q.2.2.2.2.2.2.2
theorem eX10_ping_14q : (decode cX10_ping 14 = .ok (.getfield 89, 3)) ∧ (decode cX10_ping 17 = .ok (.aload_n 0, 1)) ∧ (decode cX10_ping 18 = .ok (.getfield 38, 3)) ∧ (decode cX10_ping 21 = .ok (.invokevirtual 356, 3)) ∧ (decode cX10_ping 24 = .ok (.aload_n 0, 1)) ∧ (decode cX10_ping 25 = .ok (.getfield 73, 3)) ∧ (decode cX10_ping 28 = .ok (.iload_n 1, 1)) ∧ (decode cX10_ping 29 = .ok (.invokevirtual 369, 3)) := by decide +kernel
theorem dX10_ping_14 : decode cX10_ping 14 = .ok (.getfield 89, 3) := eX10_ping_14q.1
theorem dX10_ping_17 : decode cX10_ping 17 = .ok (.aload_n 0, 1) := eX10_ping_14q.2.1
theorem dX10_ping_18 : decode cX10_ping 18 = .ok (.getfield 38, 3) := eX10_ping_14q.2.2.1
theorem dX10_ping_21 : decode cX10_ping 21 = .ok (.invokevirtual 356, 3) := eX10_ping_14q.2.2.2.1
theorem dX10_ping_24 : decode cX10_ping 24 = .ok (.aload_n 0, 1) := eX10_ping_14q.2.2.2.2.1
theorem dX10_ping_25 : decode cX10_ping 25 = .ok (.getfield 73, 3) := eX10_ping_14q.2.2.2.2.2.1
theorem dX10_ping_28 : decode cX10_ping 28 = .ok (.iload_n 1, 1) := eX10_ping_14q.2.2.2.2.2.2.1
theorem dX10_ping_29 : decode cX10_ping 29 = .ok (.invokevirtual 369, 3) := eX10_ping_14q.2.2.2.2.2.2.2
theorem dX10_ping_32 : decode cX10_ping 32 = .ok (.ireturn, 1) := by decide +kernel
set_option maxRecDepth 20000 in
theorem ggX10_sweep_X2_hasGoal : GoodIn wsX10_sweep wsX2_hasGoal := by
  have h := goodIn_app (goodIn_r (big := wsX10_sweep) (.code yX2_hasGoal cX2_hasGoal 2 (some .boolean) :: ([.fieldLink RX2 40 "PathProber$Net" "goals" "I"]) : List Cond) [9, 10] rfl (by decide +kernel)) (goodIn_few (big := wsX10_sweep) (fun _ h9 => List.mem_cons_of_mem _ (List.mem_append_left _ (List.mem_append_left _ (List.mem_append_left _ (List.mem_append_left _ (List.mem_append_left _ (List.mem_append_right _ h9))))))) gb_2)
  exact h
set_option maxRecDepth 20000 in
theorem gX10_sweep_X2_hasGoal : GoodIn wsX10_sweep (wsV RX10 350 RX2 yX2_hasGoal wsX2_hasGoal) := goodIn_app (goodIn_r _ [5, 6, 7, 8] rfl (by decide +kernel)) ggX10_sweep_X2_hasGoal
set_option maxRecDepth 20000 in
theorem ggX10_sweep_X10_isHops : GoodIn wsX10_sweep wsX10_isHops := goodIn_r _ [14] rfl (by decide +kernel)
set_option maxRecDepth 20000 in
theorem gX10_sweep_X10_isHops : GoodIn wsX10_sweep (va_wsS RX10 353 yX10_isHops wsX10_isHops) := goodIn_app (goodIn_r _ [11, 12, 13] rfl (by decide +kernel)) ggX10_sweep_X10_isHops
set_option maxRecDepth 20000 in
theorem ggX10_sweep_X10_refuseAct : GoodIn wsX10_sweep wsX10_refuseAct := by
  have h := goodIn_app (goodIn_r (big := wsX10_sweep) (.code yX10_refuseAct cX10_refuseAct 1 (some .int) :: ([.fieldLink RX10 93 "PathProber" "status" "[I"]) : List Cond) [18, 19] rfl (by decide +kernel)) (goodIn_few (big := wsX10_sweep) (fun _ h9 => List.mem_cons_of_mem _ (List.mem_append_left _ (List.mem_append_left _ (List.mem_append_left _ (List.mem_append_left _ (List.mem_append_left _ (List.mem_append_left _ (List.mem_append_right _ h9)))))))) gb_9)
  exact h
set_option maxRecDepth 20000 in
theorem gX10_sweep_X10_refuseAct : GoodIn wsX10_sweep (wsV RX10 366 RX10 yX10_refuseAct wsX10_refuseAct) := goodIn_app (goodIn_r _ [15, 16, 17, 13] rfl (by decide +kernel)) ggX10_sweep_X10_refuseAct
set_option maxRecDepth 20000 in
theorem ggX10_sweep_X1_keep : GoodIn wsX10_sweep wsX1_keep := by
  have h := goodIn_app (goodIn_app (goodIn_r (big := wsX10_sweep) (.code yX1_keep cX1_keep 2 none :: (wsX1_keep_r1 ++ wsX1_keep_r2) : List Cond) [24, 25, 26, 27, 28, 29, 23, 30, 31, 32, 33, 34, 35, 36, 37, 38, 39, 40, 41, 42, 43, 44, 45, 46, 47, 48, 49, 50, 51, 52, 53, 54, 55, 56, 57, 58, 59] rfl (by decide +kernel)) (goodIn_few (big := wsX10_sweep) (fun _ h9 => List.mem_cons_of_mem _ (List.mem_append_left _ (List.mem_append_left _ (List.mem_append_left _ (List.mem_append_left _ (List.mem_append_right _ h9)))))) gb_11)) (goodIn_few (big := wsX10_sweep) (fun _ h9 => List.mem_cons_of_mem _ (List.mem_append_left _ (List.mem_append_left _ (List.mem_append_left _ (List.mem_append_right _ h9))))) gb_1)
  exact h
set_option maxRecDepth 20000 in
theorem gX10_sweep_X1_keep : GoodIn wsX10_sweep (wsV RX10 356 RX1 yX1_keep wsX1_keep) := goodIn_app (goodIn_r _ [20, 21, 22, 23] rfl (by decide +kernel)) ggX10_sweep_X1_keep
set_option maxRecDepth 20000 in
theorem ggX10_sweep_X6_sendSweep : GoodIn wsX10_sweep wsX6_sendSweep := by
  have h := goodIn_app (goodIn_app (goodIn_app (goodIn_app (goodIn_app (goodIn_r (big := wsX10_sweep) (.code yX6_sendSweep cX6_sendSweep 4 (some .int) :: (wsX6_sendSweep_r1 ++ (wsX6_sendSweep_r2 ++ (wsX6_sendSweep_r3 ++ (wsX6_sendSweep_r4 ++ (wsX6_sendSweep_r5 ++ (wsX6_sendSweep_r6 ++ wsX6_sendSweep_r7)))))) : List Cond) [64, 65, 66, 67, 68, 34, 69, 47, 48, 49, 70, 71, 72, 73, 74, 75, 76, 63, 77, 78, 79, 80, 81, 82, 83, 84, 85, 86, 87, 41, 88, 89, 90, 91, 92, 93, 94, 95, 96, 97, 98, 99, 100, 101, 102, 103, 104, 105, 106, 107, 108, 109, 110, 111, 112, 113, 114, 115, 116, 117, 118, 119, 120, 121, 122, 123, 124, 125, 126, 127, 128, 129, 130, 131, 43, 132, 133, 134, 135, 136, 137, 138, 139, 140, 141, 142, 143, 144, 145, 146, 147, 148, 149, 150, 151, 152, 153, 154, 155, 156, 157, 158, 159, 8, 160, 161, 162, 163, 164, 165, 166, 167, 168, 169, 170, 171, 172, 173, 174, 175, 176, 177, 178, 179, 180, 181, 182, 183, 184, 185, 186, 10, 187, 188, 189, 190, 191, 192, 193, 194, 195, 196, 197, 198, 199, 200, 201, 202] rfl (by decide +kernel)) (goodIn_few (big := wsX10_sweep) (fun _ h9 => List.mem_cons_of_mem _ (List.mem_append_left _ (List.mem_append_left _ (List.mem_append_right _ h9)))) gb_6)) (goodIn_few (big := wsX10_sweep) (fun _ h9 => List.mem_cons_of_mem _ (List.mem_append_left _ (List.mem_append_left _ (List.mem_append_left _ (List.mem_append_right _ h9))))) gb_1)) (goodIn_few (big := wsX10_sweep) (fun _ h9 => List.mem_cons_of_mem _ (List.mem_append_left _ (List.mem_append_right _ h9))) gb_3)) (goodIn_few (big := wsX10_sweep) (fun _ h9 => List.mem_cons_of_mem _ (List.mem_append_right _ h9)) gb_5)) (goodIn_few (big := wsX10_sweep) (fun _ h9 => List.mem_cons_of_mem _ (List.mem_append_left _ (List.mem_append_left _ (List.mem_append_left _ (List.mem_append_left _ (List.mem_append_left _ (List.mem_append_right _ h9))))))) gb_2)
  exact h
set_option maxRecDepth 20000 in
theorem gX10_sweep_X6_sendSweep : GoodIn wsX10_sweep (wsV RX10 372 RX6 yX6_sendSweep wsX6_sendSweep) := goodIn_app (goodIn_r _ [60, 61, 62, 63] rfl (by decide +kernel)) ggX10_sweep_X6_sendSweep
theorem eX10_sweep_0q : (decode cX10_sweep 0 = .ok (.aload_n 0, 1)) ∧ (decode cX10_sweep 1 = .ok (.getfield 19, 3)) ∧ (decode cX10_sweep 4 = .ok (.iload_n 1, 1)) ∧ (decode cX10_sweep 5 = .ok (.invokevirtual 350, 3)) ∧ (decode cX10_sweep 8 = .ok (.ifCond .eq 10, 3)) ∧ (decode cX10_sweep 11 = .ok (.iload_n 2, 1)) ∧ (decode cX10_sweep 12 = .ok (.invokestatic 353, 3)) ∧ (decode cX10_sweep 15 = .ok (.ifCond .ne 8, 3)) := by decide +kernel
theorem dX10_sweep_0 : decode cX10_sweep 0 = .ok (.aload_n 0, 1) := eX10_sweep_0q.1
theorem dX10_sweep_1 : decode cX10_sweep 1 = .ok (.getfield 19, 3) := eX10_sweep_0q.2.1
theorem dX10_sweep_4 : decode cX10_sweep 4 = .ok (.iload_n 1, 1) := eX10_sweep_0q.2.2.1
theorem dX10_sweep_5 : decode cX10_sweep 5 = .ok (.invokevirtual 350, 3) := eX10_sweep_0q.2.2.2.1
theorem dX10_sweep_8 : decode cX10_sweep 8 = .ok (.ifCond .eq 10, 3) := eX10_sweep_0q.2.2.2.2.1
theorem dX10_sweep_11 : decode cX10_sweep 11 = .ok (.iload_n 2, 1) := eX10_sweep_0q.2.2.2.2.2.1
theorem dX10_sweep_12 : decode cX10_sweep 12 = .ok (.invokestatic 353, 3) := eX10_sweep_0q.2.2.2.2.2.2.1
theorem dX10_sweep_15 : decode cX10_sweep 15 = .ok (.ifCond .ne 8, 3) := eX10_sweep_0q.2.2.2.2.2.2.2
theorem eX10_sweep_18q : (decode cX10_sweep 18 = .ok (.aload_n 0, 1)) ∧ (decode cX10_sweep 19 = .ok (.invokevirtual 366, 3)) ∧ (decode cX10_sweep 22 = .ok (.ireturn, 1)) ∧ (decode cX10_sweep 23 = .ok (.aload_n 0, 1)) ∧ (decode cX10_sweep 24 = .ok (.getfield 89, 3)) ∧ (decode cX10_sweep 27 = .ok (.aload_n 0, 1)) ∧ (decode cX10_sweep 28 = .ok (.getfield 38, 3)) ∧ (decode cX10_sweep 31 = .ok (.invokevirtual 356, 3)) := by decide +kernel
theorem dX10_sweep_18 : decode cX10_sweep 18 = .ok (.aload_n 0, 1) := eX10_sweep_18q.1
theorem dX10_sweep_19 : decode cX10_sweep 19 = .ok (.invokevirtual 366, 3) := eX10_sweep_18q.2.1
theorem dX10_sweep_22 : decode cX10_sweep 22 = .ok (.ireturn, 1) := eX10_sweep_18q.2.2.1
theorem dX10_sweep_23 : decode cX10_sweep 23 = .ok (.aload_n 0, 1) := eX10_sweep_18q.2.2.2.1
theorem dX10_sweep_24 : decode cX10_sweep 24 = .ok (.getfield 89, 3) := eX10_sweep_18q.2.2.2.2.1
theorem dX10_sweep_27 : decode cX10_sweep 27 = .ok (.aload_n 0, 1) := eX10_sweep_18q.2.2.2.2.2.1
theorem dX10_sweep_28 : decode cX10_sweep 28 = .ok (.getfield 38, 3) := eX10_sweep_18q.2.2.2.2.2.2.1
theorem dX10_sweep_31 : decode cX10_sweep 31 = .ok (.invokevirtual 356, 3) := eX10_sweep_18q.2.2.2.2.2.2.2
theorem eX10_sweep_34q : (decode cX10_sweep 34 = .ok (.aload_n 0, 1)) ∧ (decode cX10_sweep 35 = .ok (.getfield 73, 3)) ∧ (decode cX10_sweep 38 = .ok (.iload_n 1, 1)) ∧ (decode cX10_sweep 39 = .ok (.iload_n 2, 1)) ∧ (decode cX10_sweep 40 = .ok (.invokevirtual 372, 3)) ∧ (decode cX10_sweep 43 = .ok (.ireturn, 1)) := by decide +kernel
theorem dX10_sweep_34 : decode cX10_sweep 34 = .ok (.aload_n 0, 1) := eX10_sweep_34q.1
theorem dX10_sweep_35 : decode cX10_sweep 35 = .ok (.getfield 73, 3) := eX10_sweep_34q.2.1
theorem dX10_sweep_38 : decode cX10_sweep 38 = .ok (.iload_n 1, 1) := eX10_sweep_34q.2.2.1
theorem dX10_sweep_39 : decode cX10_sweep 39 = .ok (.iload_n 2, 1) := eX10_sweep_34q.2.2.2.1
theorem dX10_sweep_40 : decode cX10_sweep 40 = .ok (.invokevirtual 372, 3) := eX10_sweep_34q.2.2.2.2.1
theorem dX10_sweep_43 : decode cX10_sweep 43 = .ok (.ireturn, 1) := eX10_sweep_34q.2.2.2.2.2
set_option maxRecDepth 20000 in
theorem ggX10_trace_X10_isPort : GoodIn wsX10_trace wsX10_isPort := goodIn_r _ [8] rfl (by decide +kernel)
set_option maxRecDepth 20000 in
theorem gX10_trace_X10_isPort : GoodIn wsX10_trace (va_wsS RX10 347 yX10_isPort wsX10_isPort) := goodIn_app (goodIn_r _ [5, 6, 7] rfl (by decide +kernel)) ggX10_trace_X10_isPort
set_option maxRecDepth 20000 in
theorem ggX10_trace_X2_hasGoal : GoodIn wsX10_trace wsX2_hasGoal := by
  have h := goodIn_app (goodIn_r (big := wsX10_trace) (.code yX2_hasGoal cX2_hasGoal 2 (some .boolean) :: ([.fieldLink RX2 40 "PathProber$Net" "goals" "I"]) : List Cond) [13, 14] rfl (by decide +kernel)) (goodIn_few (big := wsX10_trace) (fun _ h9 => List.mem_cons_of_mem _ (List.mem_append_left _ (List.mem_append_left _ (List.mem_append_left _ (List.mem_append_left _ (List.mem_append_right _ h9)))))) gb_2)
  exact h
set_option maxRecDepth 20000 in
theorem gX10_trace_X2_hasGoal : GoodIn wsX10_trace (wsV RX10 350 RX2 yX2_hasGoal wsX2_hasGoal) := goodIn_app (goodIn_r _ [9, 10, 11, 12] rfl (by decide +kernel)) ggX10_trace_X2_hasGoal
set_option maxRecDepth 20000 in
theorem ggX10_trace_X10_refuseAct : GoodIn wsX10_trace wsX10_refuseAct := by
  have h := goodIn_app (goodIn_r (big := wsX10_trace) (.code yX10_refuseAct cX10_refuseAct 1 (some .int) :: ([.fieldLink RX10 93 "PathProber" "status" "[I"]) : List Cond) [18, 19] rfl (by decide +kernel)) (goodIn_few (big := wsX10_trace) (fun _ h9 => List.mem_cons_of_mem _ (List.mem_append_left _ (List.mem_append_left _ (List.mem_append_left _ (List.mem_append_left _ (List.mem_append_left _ (List.mem_append_right _ h9))))))) gb_9)
  exact h
set_option maxRecDepth 20000 in
theorem gX10_trace_X10_refuseAct : GoodIn wsX10_trace (wsV RX10 366 RX10 yX10_refuseAct wsX10_refuseAct) := goodIn_app (goodIn_r _ [15, 16, 17, 7] rfl (by decide +kernel)) ggX10_trace_X10_refuseAct
set_option maxRecDepth 20000 in
theorem ggX10_trace_X1_keep : GoodIn wsX10_trace wsX1_keep := by
  have h := goodIn_app (goodIn_app (goodIn_r (big := wsX10_trace) (.code yX1_keep cX1_keep 2 none :: (wsX1_keep_r1 ++ wsX1_keep_r2) : List Cond) [24, 25, 26, 27, 28, 29, 23, 30, 31, 32, 33, 34, 35, 36, 37, 38, 39, 40, 41, 42, 43, 44, 45, 46, 47, 48, 49, 50, 51, 52, 53, 54, 55, 56, 57, 58, 59] rfl (by decide +kernel)) (goodIn_few (big := wsX10_trace) (fun _ h9 => List.mem_cons_of_mem _ (List.mem_append_left _ (List.mem_append_left _ (List.mem_append_left _ (List.mem_append_right _ h9))))) gb_11)) (goodIn_few (big := wsX10_trace) (fun _ h9 => List.mem_cons_of_mem _ (List.mem_append_left _ (List.mem_append_left _ (List.mem_append_right _ h9)))) gb_1)
  exact h
set_option maxRecDepth 20000 in
theorem gX10_trace_X1_keep : GoodIn wsX10_trace (wsV RX10 356 RX1 yX1_keep wsX1_keep) := goodIn_app (goodIn_r _ [20, 21, 22, 23] rfl (by decide +kernel)) ggX10_trace_X1_keep
set_option maxRecDepth 20000 in
theorem ggX10_trace_X6_sendTrace : GoodIn wsX10_trace wsX6_sendTrace := by
  have h := goodIn_app (goodIn_app (goodIn_app (goodIn_app (goodIn_r (big := wsX10_trace) (.code yX6_sendTrace cX6_sendTrace 6 (some .int) :: (wsX6_sendTrace_r1 ++ (wsX6_sendTrace_r2 ++ (wsX6_sendTrace_r3 ++ (wsX6_sendTrace_r4 ++ wsX6_sendTrace_r5)))) : List Cond) [64, 65, 66, 67, 68, 69, 70, 34, 71, 47, 48, 49, 72, 73, 74, 75, 76, 77, 78, 63, 79, 80, 81, 82, 83, 84, 85, 86, 87, 88, 89, 43, 90, 91, 92, 93, 94, 95, 96, 97, 98, 99, 100, 101, 102, 103, 104, 105, 106, 107, 108, 109, 110, 111, 112, 113, 114, 115, 116, 117, 12, 118, 119, 120, 121, 122, 123, 124, 125, 126, 127, 128, 129, 130, 131, 132, 133, 134, 135, 136, 137, 138, 139, 140, 141, 142, 143, 14, 144, 145, 146, 147, 148, 149, 150, 151, 152, 153, 154, 41, 155, 156, 157, 158, 159, 160, 161, 162, 163, 164, 165, 166] rfl (by decide +kernel)) (goodIn_few (big := wsX10_trace) (fun _ h9 => List.mem_cons_of_mem _ (List.mem_append_left _ (List.mem_append_right _ h9))) gb_6)) (goodIn_few (big := wsX10_trace) (fun _ h9 => List.mem_cons_of_mem _ (List.mem_append_left _ (List.mem_append_left _ (List.mem_append_left _ (List.mem_append_left _ (List.mem_append_right _ h9)))))) gb_2)) (goodIn_few (big := wsX10_trace) (fun _ h9 => List.mem_cons_of_mem _ (List.mem_append_left _ (List.mem_append_left _ (List.mem_append_right _ h9)))) gb_1)) (goodIn_few (big := wsX10_trace) (fun _ h9 => List.mem_cons_of_mem _ (List.mem_append_right _ h9)) gb_5)
  exact h
set_option maxRecDepth 20000 in
theorem gX10_trace_X6_sendTrace : GoodIn wsX10_trace (wsV RX10 375 RX6 yX6_sendTrace wsX6_sendTrace) := goodIn_app (goodIn_r _ [60, 61, 62, 63] rfl (by decide +kernel)) ggX10_trace_X6_sendTrace
theorem eX10_trace_0q : (decode cX10_trace 0 = .ok (.iload_n 1, 1)) ∧ (decode cX10_trace 1 = .ok (.invokestatic 347, 3)) ∧ (decode cX10_trace 4 = .ok (.ifCond .eq 14, 3)) ∧ (decode cX10_trace 7 = .ok (.aload_n 0, 1)) ∧ (decode cX10_trace 8 = .ok (.getfield 19, 3)) ∧ (decode cX10_trace 11 = .ok (.iload_n 2, 1)) ∧ (decode cX10_trace 12 = .ok (.invokevirtual 350, 3)) ∧ (decode cX10_trace 15 = .ok (.ifCond .ne 8, 3)) := by decide +kernel
theorem dX10_trace_0 : decode cX10_trace 0 = .ok (.iload_n 1, 1) := eX10_trace_0q.1
theorem dX10_trace_1 : decode cX10_trace 1 = .ok (.invokestatic 347, 3) := eX10_trace_0q.2.1
theorem dX10_trace_4 : decode cX10_trace 4 = .ok (.ifCond .eq 14, 3) := eX10_trace_0q.2.2.1
theorem dX10_trace_7 : decode cX10_trace 7 = .ok (.aload_n 0, 1) := eX10_trace_0q.2.2.2.1
theorem dX10_trace_8 : decode cX10_trace 8 = .ok (.getfield 19, 3) := eX10_trace_0q.2.2.2.2.1
theorem dX10_trace_11 : decode cX10_trace 11 = .ok (.iload_n 2, 1) := eX10_trace_0q.2.2.2.2.2.1
theorem dX10_trace_12 : decode cX10_trace 12 = .ok (.invokevirtual 350, 3) := eX10_trace_0q.2.2.2.2.2.2.1
theorem dX10_trace_15 : decode cX10_trace 15 = .ok (.ifCond .ne 8, 3) := eX10_trace_0q.2.2.2.2.2.2.2
theorem eX10_trace_18q : (decode cX10_trace 18 = .ok (.aload_n 0, 1)) ∧ (decode cX10_trace 19 = .ok (.invokevirtual 366, 3)) ∧ (decode cX10_trace 22 = .ok (.ireturn, 1)) ∧ (decode cX10_trace 23 = .ok (.aload_n 0, 1)) ∧ (decode cX10_trace 24 = .ok (.getfield 89, 3)) ∧ (decode cX10_trace 27 = .ok (.aload_n 0, 1)) ∧ (decode cX10_trace 28 = .ok (.getfield 38, 3)) ∧ (decode cX10_trace 31 = .ok (.invokevirtual 356, 3)) := by decide +kernel
theorem dX10_trace_18 : decode cX10_trace 18 = .ok (.aload_n 0, 1) := eX10_trace_18q.1
theorem dX10_trace_19 : decode cX10_trace 19 = .ok (.invokevirtual 366, 3) := eX10_trace_18q.2.1
theorem dX10_trace_22 : decode cX10_trace 22 = .ok (.ireturn, 1) := eX10_trace_18q.2.2.1
theorem dX10_trace_23 : decode cX10_trace 23 = .ok (.aload_n 0, 1) := eX10_trace_18q.2.2.2.1
theorem dX10_trace_24 : decode cX10_trace 24 = .ok (.getfield 89, 3) := eX10_trace_18q.2.2.2.2.1
theorem dX10_trace_27 : decode cX10_trace 27 = .ok (.aload_n 0, 1) := eX10_trace_18q.2.2.2.2.2.1
theorem dX10_trace_28 : decode cX10_trace 28 = .ok (.getfield 38, 3) := eX10_trace_18q.2.2.2.2.2.2.1
theorem dX10_trace_31 : decode cX10_trace 31 = .ok (.invokevirtual 356, 3) := eX10_trace_18q.2.2.2.2.2.2.2
theorem eX10_trace_34q : (decode cX10_trace 34 = .ok (.aload_n 0, 1)) ∧ (decode cX10_trace 35 = .ok (.getfield 73, 3)) ∧ (decode cX10_trace 38 = .ok (.iload_n 1, 1)) ∧ (decode cX10_trace 39 = .ok (.iload_n 2, 1)) ∧ (decode cX10_trace 40 = .ok (.invokevirtual 375, 3)) ∧ (decode cX10_trace 43 = .ok (.ireturn, 1)) := by decide +kernel
theorem dX10_trace_34 : decode cX10_trace 34 = .ok (.aload_n 0, 1) := eX10_trace_34q.1
theorem dX10_trace_35 : decode cX10_trace 35 = .ok (.getfield 73, 3) := eX10_trace_34q.2.1
theorem dX10_trace_38 : decode cX10_trace 38 = .ok (.iload_n 1, 1) := eX10_trace_34q.2.2.1
theorem dX10_trace_39 : decode cX10_trace 39 = .ok (.iload_n 2, 1) := eX10_trace_34q.2.2.2.1
theorem dX10_trace_40 : decode cX10_trace 40 = .ok (.invokevirtual 375, 3) := eX10_trace_34q.2.2.2.2.1
theorem dX10_trace_43 : decode cX10_trace 43 = .ok (.ireturn, 1) := eX10_trace_34q.2.2.2.2.2
set_option maxRecDepth 20000 in
theorem ggX10_twins_X10_wasSeen : GoodIn wsX10_twins wsX10_wasSeen := by
  have h := goodIn_app (goodIn_app (goodIn_app (goodIn_app (goodIn_r (big := wsX10_twins) (.code yX10_wasSeen cX10_wasSeen 2 (some .boolean) :: ([.fieldLink RX10 19 "PathProber" "told" "LPathProber$Net;", .fieldLink RX10 57 "PathProber" "sight" "LPathProber$Sight;", .methodLink RX10 388 yX2_hasAddress, .instanceMethod yX2_hasAddress, .selects RX2 yX2_hasAddress yX2_hasAddress, .initialized RX2, .code yX2_hasAddress cX2_hasAddress 2 (some .boolean), .fieldLink RX2 33 "PathProber$Net" "routers" "I", .fieldLink RX2 37 "PathProber$Net" "links" "I", .methodLink RX10 173 yX7_addressesEverywhere, .instanceMethod yX7_addressesEverywhere, .selects RX7 yX7_addressesEverywhere yX7_addressesEverywhere, .initialized RX7, .code yX7_addressesEverywhere cX7_addressesEverywhere 4 (some .int), .fieldLink RX7 21 "PathProber$Sight" "net" "LPathProber$Net;", .fieldLink RX7 41 "PathProber$Net" "goals" "I", .fieldLink RX7 25 "PathProber$Sight" "now" "LPathProber$Condition;", .methodLink RX7 29 yX0_seenAt, .instanceMethod yX0_seenAt, .selects RX0 yX0_seenAt yX0_seenAt, .initialized RX0, .code yX0_seenAt cX0_seenAt 6 (some .int), .fieldLink RX0 9 "PathProber$Condition" "seen" "[J", .constantLong RX0 53 (31)]) : List Cond) [8, 9, 10, 11, 12, 13, 14, 15, 16, 17, 18, 19, 20, 21, 22, 23, 24, 25, 26, 27, 28, 29, 30, 31, 32] rfl (by decide +kernel)) (goodIn_few (big := wsX10_twins) (fun _ h9 => List.mem_cons_of_mem _ (List.mem_append_left _ (List.mem_append_left _ (List.mem_append_left _ (List.mem_append_left _ (List.mem_append_left _ (List.mem_append_right _ h9))))))) gb_9)) (goodIn_few (big := wsX10_twins) (fun _ h9 => List.mem_cons_of_mem _ (List.mem_append_left _ (List.mem_append_left _ (List.mem_append_left _ (List.mem_append_left _ (List.mem_append_right _ h9)))))) gb_2)) (goodIn_few (big := wsX10_twins) (fun _ h9 => List.mem_cons_of_mem _ (List.mem_append_left _ (List.mem_append_left _ (List.mem_append_left _ (List.mem_append_right _ h9))))) gb_7)) (goodIn_few (big := wsX10_twins) (fun _ h9 => List.mem_cons_of_mem _ (List.mem_append_left _ (List.mem_append_left _ (List.mem_append_right _ h9)))) gb_1)
  exact h
set_option maxRecDepth 20000 in
theorem gX10_twins_X10_wasSeen : GoodIn wsX10_twins (wsV RX10 363 RX10 yX10_wasSeen wsX10_wasSeen) := goodIn_app (goodIn_r _ [4, 5, 6, 7] rfl (by decide +kernel)) ggX10_twins_X10_wasSeen
set_option maxRecDepth 20000 in
theorem ggX10_twins_X10_refuseAct : GoodIn wsX10_twins wsX10_refuseAct := by
  have h := goodIn_app (goodIn_r (big := wsX10_twins) (.code yX10_refuseAct cX10_refuseAct 1 (some .int) :: ([.fieldLink RX10 93 "PathProber" "status" "[I"]) : List Cond) [36, 37] rfl (by decide +kernel)) (goodIn_few (big := wsX10_twins) (fun _ h9 => List.mem_cons_of_mem _ (List.mem_append_left _ (List.mem_append_left _ (List.mem_append_left _ (List.mem_append_left _ (List.mem_append_left _ (List.mem_append_right _ h9))))))) gb_9)
  exact h
set_option maxRecDepth 20000 in
theorem gX10_twins_X10_refuseAct : GoodIn wsX10_twins (wsV RX10 366 RX10 yX10_refuseAct wsX10_refuseAct) := goodIn_app (goodIn_r _ [33, 34, 35, 7] rfl (by decide +kernel)) ggX10_twins_X10_refuseAct
set_option maxRecDepth 20000 in
theorem ggX10_twins_X1_keep : GoodIn wsX10_twins wsX1_keep := by
  have h := goodIn_app (goodIn_app (goodIn_r (big := wsX10_twins) (.code yX1_keep cX1_keep 2 none :: (wsX1_keep_r1 ++ wsX1_keep_r2) : List Cond) [42, 43, 44, 45, 46, 47, 41, 48, 49, 50, 51, 29, 52, 53, 54, 55, 56, 57, 31, 58, 59, 60, 61, 62, 63, 64, 65, 66, 67, 68, 69, 70, 71, 72, 73, 74, 75] rfl (by decide +kernel)) (goodIn_few (big := wsX10_twins) (fun _ h9 => List.mem_cons_of_mem _ (List.mem_append_left _ (List.mem_append_right _ h9))) gb_11)) (goodIn_few (big := wsX10_twins) (fun _ h9 => List.mem_cons_of_mem _ (List.mem_append_left _ (List.mem_append_left _ (List.mem_append_right _ h9)))) gb_1)
  exact h
set_option maxRecDepth 20000 in
theorem gX10_twins_X1_keep : GoodIn wsX10_twins (wsV RX10 356 RX1 yX1_keep wsX1_keep) := goodIn_app (goodIn_r _ [38, 39, 40, 41] rfl (by decide +kernel)) ggX10_twins_X1_keep
set_option maxRecDepth 20000 in
theorem ggX10_twins_X6_pingByTurns : GoodIn wsX10_twins wsX6_pingByTurns := by
  have h := goodIn_app (goodIn_app (goodIn_app (goodIn_r (big := wsX10_twins) (.code yX6_pingByTurns cX6_pingByTurns 8 (some .boolean) :: ([.methodLink RX6 103 yX6_pingOne, .instanceMethod yX6_pingOne, .selects RX6 yX6_pingOne yX6_pingOne, .initialized RX6, .code yX6_pingOne cX6_pingOne 2 (some .int), .fieldLink RX6 15 "PathProber$Sender" "net" "LPathProber$Net;", .methodLink RX6 100 yX2_routerOf, .instanceMethod yX2_routerOf, .selects RX2 yX2_routerOf yX2_routerOf, .initialized RX2, .code yX2_routerOf cX2_routerOf 2 (some .int), .fieldLink RX2 37 "PathProber$Net" "links" "I", .fieldLink RX2 27 "PathProber$Net" "to" "[I", .methodLink RX6 65 yX6_stepCounter, .instanceMethod yX6_stepCounter, .selects RX6 yX6_stepCounter yX6_stepCounter, .code yX6_stepCounter cX6_stepCounter 2 (some .int), .fieldLink RX6 19 "PathProber$Sender" "now" "LPathProber$Condition;", .fieldLink RX6 94 "PathProber$Condition" "counter" "[I", .fieldLink RX6 97 "PathProber$Net" "pace" "[I"]) : List Cond) [80, 81, 82, 83, 79, 84, 85, 86, 87, 88, 14, 89, 17, 90, 91, 92, 93, 94, 95, 96, 97] rfl (by decide +kernel)) (goodIn_few (big := wsX10_twins) (fun _ h9 => List.mem_cons_of_mem _ (List.mem_append_right _ h9)) gb_6)) (goodIn_few (big := wsX10_twins) (fun _ h9 => List.mem_cons_of_mem _ (List.mem_append_left _ (List.mem_append_left _ (List.mem_append_left _ (List.mem_append_left _ (List.mem_append_right _ h9)))))) gb_2)) (goodIn_few (big := wsX10_twins) (fun _ h9 => List.mem_cons_of_mem _ (List.mem_append_left _ (List.mem_append_left _ (List.mem_append_right _ h9)))) gb_1)
  exact h
set_option maxRecDepth 20000 in
theorem gX10_twins_X6_pingByTurns : GoodIn wsX10_twins (wsV RX10 378 RX6 yX6_pingByTurns wsX6_pingByTurns) := goodIn_app (goodIn_r _ [76, 77, 78, 79] rfl (by decide +kernel)) ggX10_twins_X6_pingByTurns
theorem eX10_twins_0q : (decode cX10_twins 0 = .ok (.iload_n 1, 1)) ∧ (decode cX10_twins 1 = .ok (.iload_n 2, 1)) ∧ (decode cX10_twins 2 = .ok (.if_icmp .eq 19, 3)) ∧ (decode cX10_twins 5 = .ok (.aload_n 0, 1)) ∧ (decode cX10_twins 6 = .ok (.iload_n 1, 1)) ∧ (decode cX10_twins 7 = .ok (.invokevirtual 363, 3)) ∧ (decode cX10_twins 10 = .ok (.ifCond .eq 11, 3)) ∧ (decode cX10_twins 13 = .ok (.aload_n 0, 1)) := by decide +kernel
theorem dX10_twins_0 : decode cX10_twins 0 = .ok (.iload_n 1, 1) := eX10_twins_0q.1
theorem dX10_twins_1 : decode cX10_twins 1 = .ok (.iload_n 2, 1) := eX10_twins_0q.2.1
theorem dX10_twins_2 : decode cX10_twins 2 = .ok (.if_icmp .eq 19, 3) := eX10_twins_0q.2.2.1
theorem dX10_twins_5 : decode cX10_twins 5 = .ok (.aload_n 0, 1) := eX10_twins_0q.2.2.2.1
theorem dX10_twins_6 : decode cX10_twins 6 = .ok (.iload_n 1, 1) := eX10_twins_0q.2.2.2.2.1
theorem dX10_twins_7 : decode cX10_twins 7 = .ok (.invokevirtual 363, 3) := eX10_twins_0q.2.2.2.2.2.1
theorem dX10_twins_10 : decode cX10_twins 10 = .ok (.ifCond .eq 11, 3) := eX10_twins_0q.2.2.2.2.2.2.1
theorem dX10_twins_13 : decode cX10_twins 13 = .ok (.aload_n 0, 1) := eX10_twins_0q.2.2.2.2.2.2.2
theorem eX10_twins_14q : (decode cX10_twins 14 = .ok (.iload_n 2, 1)) ∧ (decode cX10_twins 15 = .ok (.invokevirtual 363, 3)) ∧ (decode cX10_twins 18 = .ok (.ifCond .ne 8, 3)) ∧ (decode cX10_twins 21 = .ok (.aload_n 0, 1)) ∧ (decode cX10_twins 22 = .ok (.invokevirtual 366, 3)) ∧ (decode cX10_twins 25 = .ok (.ireturn, 1)) ∧ (decode cX10_twins 26 = .ok (.aload_n 0, 1)) ∧ (decode cX10_twins 27 = .ok (.getfield 89, 3)) := by decide +kernel
theorem dX10_twins_14 : decode cX10_twins 14 = .ok (.iload_n 2, 1) := eX10_twins_14q.1
theorem dX10_twins_15 : decode cX10_twins 15 = .ok (.invokevirtual 363, 3) := eX10_twins_14q.2.1
theorem dX10_twins_18 : decode cX10_twins 18 = .ok (.ifCond .ne 8, 3) := eX10_twins_14q.2.2.1
theorem dX10_twins_21 : decode cX10_twins 21 = .ok (.aload_n 0, 1) := eX10_twins_14q.2.2.2.1
theorem dX10_twins_22 : decode cX10_twins 22 = .ok (.invokevirtual 366, 3) := eX10_twins_14q.2.2.2.2.1
theorem dX10_twins_25 : decode cX10_twins 25 = .ok (.ireturn, 1) := eX10_twins_14q.2.2.2.2.2.1
theorem dX10_twins_26 : decode cX10_twins 26 = .ok (.aload_n 0, 1) := eX10_twins_14q.2.2.2.2.2.2.1
theorem dX10_twins_27 : decode cX10_twins 27 = .ok (.getfield 89, 3) := eX10_twins_14q.2.2.2.2.2.2.2
theorem eX10_twins_30q : (decode cX10_twins 30 = .ok (.aload_n 0, 1)) ∧ (decode cX10_twins 31 = .ok (.getfield 38, 3)) ∧ (decode cX10_twins 34 = .ok (.invokevirtual 356, 3)) ∧ (decode cX10_twins 37 = .ok (.aload_n 0, 1)) ∧ (decode cX10_twins 38 = .ok (.getfield 73, 3)) ∧ (decode cX10_twins 41 = .ok (.iload_n 1, 1)) ∧ (decode cX10_twins 42 = .ok (.iload_n 2, 1)) ∧ (decode cX10_twins 43 = .ok (.invokevirtual 378, 3)) := by decide +kernel
theorem dX10_twins_30 : decode cX10_twins 30 = .ok (.aload_n 0, 1) := eX10_twins_30q.1
theorem dX10_twins_31 : decode cX10_twins 31 = .ok (.getfield 38, 3) := eX10_twins_30q.2.1
theorem dX10_twins_34 : decode cX10_twins 34 = .ok (.invokevirtual 356, 3) := eX10_twins_30q.2.2.1
theorem dX10_twins_37 : decode cX10_twins 37 = .ok (.aload_n 0, 1) := eX10_twins_30q.2.2.2.1
theorem dX10_twins_38 : decode cX10_twins 38 = .ok (.getfield 73, 3) := eX10_twins_30q.2.2.2.2.1
theorem dX10_twins_41 : decode cX10_twins 41 = .ok (.iload_n 1, 1) := eX10_twins_30q.2.2.2.2.2.1
theorem dX10_twins_42 : decode cX10_twins 42 = .ok (.iload_n 2, 1) := eX10_twins_30q.2.2.2.2.2.2.1
theorem dX10_twins_43 : decode cX10_twins 43 = .ok (.invokevirtual 378, 3) := eX10_twins_30q.2.2.2.2.2.2.2
theorem eX10_twins_46q : (decode cX10_twins 46 = .ok (.ifCond .eq 7, 3)) ∧ (decode cX10_twins 49 = .ok (.iconst 1, 1)) ∧ (decode cX10_twins 50 = .ok (.goto 4, 3)) ∧ (decode cX10_twins 53 = .ok (.iconst 0, 1)) ∧ (decode cX10_twins 54 = .ok (.ireturn, 1)) := by decide +kernel
theorem dX10_twins_46 : decode cX10_twins 46 = .ok (.ifCond .eq 7, 3) := eX10_twins_46q.1
theorem dX10_twins_49 : decode cX10_twins 49 = .ok (.iconst 1, 1) := eX10_twins_46q.2.1
theorem dX10_twins_50 : decode cX10_twins 50 = .ok (.goto 4, 3) := eX10_twins_46q.2.2.1
theorem dX10_twins_53 : decode cX10_twins 53 = .ok (.iconst 0, 1) := eX10_twins_46q.2.2.2.1
theorem dX10_twins_54 : decode cX10_twins 54 = .ok (.ireturn, 1) := eX10_twins_46q.2.2.2.2
set_option maxRecDepth 20000 in
theorem ggX10_loss_X10_refuseAct : GoodIn wsX10_loss wsX10_refuseAct := by
  have h := goodIn_app (goodIn_r (big := wsX10_loss) (.code yX10_refuseAct cX10_refuseAct 1 (some .int) :: ([.fieldLink RX10 93 "PathProber" "status" "[I"]) : List Cond) [8, 9] rfl (by decide +kernel)) (goodIn_few (big := wsX10_loss) (fun _ h9 => List.mem_cons_of_mem _ (List.mem_append_left _ (List.mem_append_left _ (List.mem_append_right _ h9)))) gb_9)
  exact h
set_option maxRecDepth 20000 in
theorem gX10_loss_X10_refuseAct : GoodIn wsX10_loss (wsV RX10 366 RX10 yX10_refuseAct wsX10_refuseAct) := goodIn_app (goodIn_r _ [4, 5, 6, 7] rfl (by decide +kernel)) ggX10_loss_X10_refuseAct
set_option maxRecDepth 20000 in
theorem ggX10_loss_X1_keep : GoodIn wsX10_loss wsX1_keep := by
  have h := goodIn_app (goodIn_app (goodIn_r (big := wsX10_loss) (.code yX1_keep cX1_keep 2 none :: (wsX1_keep_r1 ++ wsX1_keep_r2) : List Cond) [14, 15, 16, 17, 18, 19, 13, 20, 21, 22, 23, 24, 25, 26, 27, 28, 29, 30, 31, 32, 33, 34, 35, 36, 37, 38, 39, 40, 41, 42, 43, 44, 45, 46, 47, 48, 49] rfl (by decide +kernel)) (goodIn_few (big := wsX10_loss) (fun _ h9 => List.mem_cons_of_mem _ (List.mem_append_right _ h9)) gb_11)) (goodIn_few (big := wsX10_loss) (fun _ h9 => List.mem_cons_of_mem _ (List.mem_append_left _ (List.mem_append_right _ h9))) gb_1)
  exact h
set_option maxRecDepth 20000 in
theorem gX10_loss_X1_keep : GoodIn wsX10_loss (wsV RX10 356 RX1 yX1_keep wsX1_keep) := goodIn_app (goodIn_r _ [10, 11, 12, 13] rfl (by decide +kernel)) ggX10_loss_X1_keep
theorem eX10_loss_0q : (decode cX10_loss 0 = .ok (.iload_n 1, 1)) ∧ (decode cX10_loss 1 = .ok (.iconst 1, 1)) ∧ (decode cX10_loss 2 = .ok (.if_icmp .lt 9, 3)) ∧ (decode cX10_loss 5 = .ok (.iload_n 1, 1)) ∧ (decode cX10_loss 6 = .ok (.bipush 50, 2)) ∧ (decode cX10_loss 8 = .ok (.if_icmp .le 8, 3)) ∧ (decode cX10_loss 11 = .ok (.aload_n 0, 1)) ∧ (decode cX10_loss 12 = .ok (.invokevirtual 366, 3)) := by decide +kernel
theorem dX10_loss_0 : decode cX10_loss 0 = .ok (.iload_n 1, 1) := eX10_loss_0q.1
theorem dX10_loss_1 : decode cX10_loss 1 = .ok (.iconst 1, 1) := eX10_loss_0q.2.1
theorem dX10_loss_2 : decode cX10_loss 2 = .ok (.if_icmp .lt 9, 3) := eX10_loss_0q.2.2.1
theorem dX10_loss_5 : decode cX10_loss 5 = .ok (.iload_n 1, 1) := eX10_loss_0q.2.2.2.1
theorem dX10_loss_6 : decode cX10_loss 6 = .ok (.bipush 50, 2) := eX10_loss_0q.2.2.2.2.1
theorem dX10_loss_8 : decode cX10_loss 8 = .ok (.if_icmp .le 8, 3) := eX10_loss_0q.2.2.2.2.2.1
theorem dX10_loss_11 : decode cX10_loss 11 = .ok (.aload_n 0, 1) := eX10_loss_0q.2.2.2.2.2.2.1
theorem dX10_loss_12 : decode cX10_loss 12 = .ok (.invokevirtual 366, 3) := eX10_loss_0q.2.2.2.2.2.2.2
theorem eX10_loss_15q : (decode cX10_loss 15 = .ok (.ireturn, 1)) ∧ (decode cX10_loss 16 = .ok (.aload_n 0, 1)) ∧ (decode cX10_loss 17 = .ok (.getfield 89, 3)) ∧ (decode cX10_loss 20 = .ok (.aload_n 0, 1)) ∧ (decode cX10_loss 21 = .ok (.getfield 38, 3)) ∧ (decode cX10_loss 24 = .ok (.invokevirtual 356, 3)) ∧ (decode cX10_loss 27 = .ok (.aload_n 0, 1)) ∧ (decode cX10_loss 28 = .ok (.getfield 38, 3)) := by decide +kernel
theorem dX10_loss_15 : decode cX10_loss 15 = .ok (.ireturn, 1) := eX10_loss_15q.1
theorem dX10_loss_16 : decode cX10_loss 16 = .ok (.aload_n 0, 1) := eX10_loss_15q.2.1
theorem dX10_loss_17 : decode cX10_loss 17 = .ok (.getfield 89, 3) := eX10_loss_15q.2.2.1
theorem dX10_loss_20 : decode cX10_loss 20 = .ok (.aload_n 0, 1) := eX10_loss_15q.2.2.2.1
theorem dX10_loss_21 : decode cX10_loss 21 = .ok (.getfield 38, 3) := eX10_loss_15q.2.2.2.2.1
theorem dX10_loss_24 : decode cX10_loss 24 = .ok (.invokevirtual 356, 3) := eX10_loss_15q.2.2.2.2.2.1
theorem dX10_loss_27 : decode cX10_loss 27 = .ok (.aload_n 0, 1) := eX10_loss_15q.2.2.2.2.2.2.1
theorem dX10_loss_28 : decode cX10_loss 28 = .ok (.getfield 38, 3) := eX10_loss_15q.2.2.2.2.2.2.2
theorem eX10_loss_31q : (decode cX10_loss 31 = .ok (.getfield 159, 3)) ∧ (decode cX10_loss 34 = .ok (.istore_n 2, 1)) ∧ (decode cX10_loss 35 = .ok (.aload_n 0, 1)) ∧ (decode cX10_loss 36 = .ok (.getfield 38, 3)) ∧ (decode cX10_loss 39 = .ok (.iload_n 1, 1)) ∧ (decode cX10_loss 40 = .ok (.putfield 159, 3)) ∧ (decode cX10_loss 43 = .ok (.iload_n 2, 1)) ∧ (decode cX10_loss 44 = .ok (.ireturn, 1)) := by decide +kernel
theorem dX10_loss_31 : decode cX10_loss 31 = .ok (.getfield 159, 3) := eX10_loss_31q.1
theorem dX10_loss_34 : decode cX10_loss 34 = .ok (.istore_n 2, 1) := eX10_loss_31q.2.1
theorem dX10_loss_35 : decode cX10_loss 35 = .ok (.aload_n 0, 1) := eX10_loss_31q.2.2.1
theorem dX10_loss_36 : decode cX10_loss 36 = .ok (.getfield 38, 3) := eX10_loss_31q.2.2.2.1
theorem dX10_loss_39 : decode cX10_loss 39 = .ok (.iload_n 1, 1) := eX10_loss_31q.2.2.2.2.1
theorem dX10_loss_40 : decode cX10_loss 40 = .ok (.putfield 159, 3) := eX10_loss_31q.2.2.2.2.2.1
theorem dX10_loss_43 : decode cX10_loss 43 = .ok (.iload_n 2, 1) := eX10_loss_31q.2.2.2.2.2.2.1
theorem dX10_loss_44 : decode cX10_loss 44 = .ok (.ireturn, 1) := eX10_loss_31q.2.2.2.2.2.2.2
set_option maxRecDepth 20000 in
theorem ggX10_clear_X1_keep : GoodIn wsX10_clear wsX1_keep := by
  have h := goodIn_app (goodIn_app (goodIn_r (big := wsX10_clear) (.code yX1_keep cX1_keep 2 none :: (wsX1_keep_r1 ++ wsX1_keep_r2) : List Cond) [7, 8, 9, 10, 11, 12, 6, 13, 14, 15, 16, 17, 18, 19, 20, 21, 22, 23, 24, 25, 26, 27, 28, 29, 30, 31, 32, 33, 34, 35, 36, 37, 38, 39, 40, 41, 42] rfl (by decide +kernel)) (goodIn_few (big := wsX10_clear) (fun _ h9 => List.mem_cons_of_mem _ (List.mem_append_left _ (List.mem_append_right _ h9))) gb_11)) (goodIn_few (big := wsX10_clear) (fun _ h9 => List.mem_cons_of_mem _ (List.mem_append_right _ h9)) gb_1)
  exact h
set_option maxRecDepth 20000 in
theorem gX10_clear_X1_keep : GoodIn wsX10_clear (wsV RX10 356 RX1 yX1_keep wsX1_keep) := goodIn_app (goodIn_r _ [3, 4, 5, 6] rfl (by decide +kernel)) ggX10_clear_X1_keep
set_option maxRecDepth 20000 in
theorem ggX10_clear_X0_sentInAll : GoodIn wsX10_clear wsX0_sentInAll := by
  have h := goodIn_app (goodIn_r (big := wsX10_clear) (.code yX0_sentInAll cX0_sentInAll 3 (some .int) :: ([.fieldLink RX0 15 "PathProber$Condition" "sent" "[I"]) : List Cond) [46, 26] rfl (by decide +kernel)) (goodIn_few (big := wsX10_clear) (fun _ h9 => List.mem_cons_of_mem _ (List.mem_append_right _ h9)) gb_1)
  exact h
set_option maxRecDepth 20000 in
theorem gX10_clear_X0_sentInAll : GoodIn wsX10_clear (wsV RX10 177 RX0 yX0_sentInAll wsX0_sentInAll) := goodIn_app (goodIn_r _ [43, 44, 45, 17] rfl (by decide +kernel)) ggX10_clear_X0_sentInAll
set_option maxRecDepth 20000 in
theorem ggX10_clear_X0_forgetAllSeen : GoodIn wsX10_clear wsX0_forgetAllSeen := by
  have h := goodIn_app (goodIn_r (big := wsX10_clear) (.code yX0_forgetAllSeen cX0_forgetAllSeen 2 none :: ([.fieldLink RX0 9 "PathProber$Condition" "seen" "[J", .fieldLink RX0 15 "PathProber$Condition" "sent" "[I"]) : List Cond) [50, 24, 26] rfl (by decide +kernel)) (goodIn_few (big := wsX10_clear) (fun _ h9 => List.mem_cons_of_mem _ (List.mem_append_right _ h9)) gb_1)
  exact h
set_option maxRecDepth 20000 in
theorem gX10_clear_X0_forgetAllSeen : GoodIn wsX10_clear (wsV RX10 382 RX0 yX0_forgetAllSeen wsX0_forgetAllSeen) := goodIn_app (goodIn_r _ [47, 48, 49, 17] rfl (by decide +kernel)) ggX10_clear_X0_forgetAllSeen
theorem eX10_clear_0q : (decode cX10_clear 0 = .ok (.aload_n 0, 1)) ∧ (decode cX10_clear 1 = .ok (.getfield 89, 3)) ∧ (decode cX10_clear 4 = .ok (.aload_n 0, 1)) ∧ (decode cX10_clear 5 = .ok (.getfield 38, 3)) ∧ (decode cX10_clear 8 = .ok (.invokevirtual 356, 3)) ∧ (decode cX10_clear 11 = .ok (.aload_n 0, 1)) ∧ (decode cX10_clear 12 = .ok (.getfield 38, 3)) ∧ (decode cX10_clear 15 = .ok (.invokevirtual 177, 3)) := by decide +kernel
theorem dX10_clear_0 : decode cX10_clear 0 = .ok (.aload_n 0, 1) := eX10_clear_0q.1
theorem dX10_clear_1 : decode cX10_clear 1 = .ok (.getfield 89, 3) := eX10_clear_0q.2.1
theorem dX10_clear_4 : decode cX10_clear 4 = .ok (.aload_n 0, 1) := eX10_clear_0q.2.2.1
theorem dX10_clear_5 : decode cX10_clear 5 = .ok (.getfield 38, 3) := eX10_clear_0q.2.2.2.1
theorem dX10_clear_8 : decode cX10_clear 8 = .ok (.invokevirtual 356, 3) := eX10_clear_0q.2.2.2.2.1
theorem dX10_clear_11 : decode cX10_clear 11 = .ok (.aload_n 0, 1) := eX10_clear_0q.2.2.2.2.2.1
theorem dX10_clear_12 : decode cX10_clear 12 = .ok (.getfield 38, 3) := eX10_clear_0q.2.2.2.2.2.2.1
theorem dX10_clear_15 : decode cX10_clear 15 = .ok (.invokevirtual 177, 3) := eX10_clear_0q.2.2.2.2.2.2.2
theorem eX10_clear_18q : (decode cX10_clear 18 = .ok (.istore_n 1, 1)) ∧ (decode cX10_clear 19 = .ok (.aload_n 0, 1)) ∧ (decode cX10_clear 20 = .ok (.getfield 38, 3)) ∧ (decode cX10_clear 23 = .ok (.invokevirtual 382, 3)) ∧ (decode cX10_clear 26 = .ok (.iload_n 1, 1)) ∧ (decode cX10_clear 27 = .ok (.ireturn, 1)) := by decide +kernel
theorem dX10_clear_18 : decode cX10_clear 18 = .ok (.istore_n 1, 1) := eX10_clear_18q.1
theorem dX10_clear_19 : decode cX10_clear 19 = .ok (.aload_n 0, 1) := eX10_clear_18q.2.1
theorem dX10_clear_20 : decode cX10_clear 20 = .ok (.getfield 38, 3) := eX10_clear_18q.2.2.1
theorem dX10_clear_23 : decode cX10_clear 23 = .ok (.invokevirtual 382, 3) := eX10_clear_18q.2.2.2.1
theorem dX10_clear_26 : decode cX10_clear 26 = .ok (.iload_n 1, 1) := eX10_clear_18q.2.2.2.2.1
theorem dX10_clear_27 : decode cX10_clear 27 = .ok (.ireturn, 1) := eX10_clear_18q.2.2.2.2.2
set_option maxRecDepth 20000 in
theorem ggX10_undo_X1_takeBack : GoodIn wsX10_undo wsX1_takeBack := by
  have h := goodIn_app (goodIn_app (goodIn_r (big := wsX10_undo) (.code yX1_takeBack cX1_takeBack 2 none :: (wsX1_takeBack_r1 ++ wsX1_takeBack_r2) : List Cond) [8, 9, 10, 11, 12, 7, 13, 14, 15, 16, 17, 18, 19, 20, 21, 22, 23, 24, 25, 26, 27, 28, 29, 30, 31, 32, 33, 34, 35, 36, 37, 38, 39, 40, 41, 42, 43] rfl (by decide +kernel)) (goodIn_few (big := wsX10_undo) (fun _ h9 => List.mem_cons_of_mem _ (List.mem_append_left _ (List.mem_append_right _ h9))) gb_11)) (goodIn_few (big := wsX10_undo) (fun _ h9 => List.mem_cons_of_mem _ (List.mem_append_right _ h9)) gb_1)
  exact h
set_option maxRecDepth 20000 in
theorem gX10_undo_X1_takeBack : GoodIn wsX10_undo (wsV RX10 385 RX1 yX1_takeBack wsX1_takeBack) := goodIn_app (goodIn_r _ [4, 5, 6, 7] rfl (by decide +kernel)) ggX10_undo_X1_takeBack
theorem eX10_undo_0q : (decode cX10_undo 0 = .ok (.aload_n 0, 1)) ∧ (decode cX10_undo 1 = .ok (.getfield 89, 3)) ∧ (decode cX10_undo 4 = .ok (.getfield 155, 3)) ∧ (decode cX10_undo 7 = .ok (.ifCond .ne 5, 3)) ∧ (decode cX10_undo 10 = .ok (.iconst (-1), 1)) ∧ (decode cX10_undo 11 = .ok (.ireturn, 1)) ∧ (decode cX10_undo 12 = .ok (.aload_n 0, 1)) ∧ (decode cX10_undo 13 = .ok (.getfield 89, 3)) := by decide +kernel
theorem dX10_undo_0 : decode cX10_undo 0 = .ok (.aload_n 0, 1) := eX10_undo_0q.1
theorem dX10_undo_1 : decode cX10_undo 1 = .ok (.getfield 89, 3) := eX10_undo_0q.2.1
theorem dX10_undo_4 : decode cX10_undo 4 = .ok (.getfield 155, 3) := eX10_undo_0q.2.2.1
theorem dX10_undo_7 : decode cX10_undo 7 = .ok (.ifCond .ne 5, 3) := eX10_undo_0q.2.2.2.1
theorem dX10_undo_10 : decode cX10_undo 10 = .ok (.iconst (-1), 1) := eX10_undo_0q.2.2.2.2.1
theorem dX10_undo_11 : decode cX10_undo 11 = .ok (.ireturn, 1) := eX10_undo_0q.2.2.2.2.2.1
theorem dX10_undo_12 : decode cX10_undo 12 = .ok (.aload_n 0, 1) := eX10_undo_0q.2.2.2.2.2.2.1
theorem dX10_undo_13 : decode cX10_undo 13 = .ok (.getfield 89, 3) := eX10_undo_0q.2.2.2.2.2.2.2
theorem eX10_undo_16q : (decode cX10_undo 16 = .ok (.aload_n 0, 1)) ∧ (decode cX10_undo 17 = .ok (.getfield 38, 3)) ∧ (decode cX10_undo 20 = .ok (.invokevirtual 385, 3)) ∧ (decode cX10_undo 23 = .ok (.aload_n 0, 1)) ∧ (decode cX10_undo 24 = .ok (.getfield 89, 3)) ∧ (decode cX10_undo 27 = .ok (.getfield 155, 3)) ∧ (decode cX10_undo 30 = .ok (.ireturn, 1)) := by decide +kernel
theorem dX10_undo_16 : decode cX10_undo 16 = .ok (.aload_n 0, 1) := eX10_undo_16q.1
theorem dX10_undo_17 : decode cX10_undo 17 = .ok (.getfield 38, 3) := eX10_undo_16q.2.1
theorem dX10_undo_20 : decode cX10_undo 20 = .ok (.invokevirtual 385, 3) := eX10_undo_16q.2.2.1
theorem dX10_undo_23 : decode cX10_undo 23 = .ok (.aload_n 0, 1) := eX10_undo_16q.2.2.2.1
theorem dX10_undo_24 : decode cX10_undo 24 = .ok (.getfield 89, 3) := eX10_undo_16q.2.2.2.2.1
theorem dX10_undo_27 : decode cX10_undo 27 = .ok (.getfield 155, 3) := eX10_undo_16q.2.2.2.2.2.1
theorem dX10_undo_30 : decode cX10_undo 30 = .ok (.ireturn, 1) := eX10_undo_16q.2.2.2.2.2.2
set_option maxRecDepth 20000 in
theorem ggX10_image_X0_copyFrom : GoodIn wsX10_image wsX0_copyFrom := by
  have h := goodIn_app (goodIn_r (big := wsX10_image) (.code yX0_copyFrom cX0_copyFrom 2 none :: ([.fieldLink RX0 9 "PathProber$Condition" "seen" "[J", .methodLink RX0 47 arraycopyName, .native arraycopyName, .static arraycopyName, .initialized "java/lang/System", .fieldLink RX0 15 "PathProber$Condition" "sent" "[I", .fieldLink RX0 19 "PathProber$Condition" "turn" "[I", .fieldLink RX0 22 "PathProber$Condition" "counter" "[I", .fieldLink RX0 25 "PathProber$Condition" "loss" "I", .fieldLink RX0 29 "PathProber$Condition" "opened" "I", .fieldLink RX0 32 "PathProber$Condition" "open" "I", .fieldLink RX0 35 "PathProber$Condition" "deep" "I", .fieldLink RX0 38 "PathProber$Condition" "muted" "I", .fieldLink RX0 41 "PathProber$Condition" "lost" "I"]) : List Cond) [18, 19, 20, 11, 12, 13, 21, 22, 23, 24, 25, 26, 27, 28, 29] rfl (by decide +kernel)) (goodIn_few (big := wsX10_image) (fun _ h9 => List.mem_cons_of_mem _ (List.mem_append_left _ (List.mem_append_left _ (List.mem_append_right _ h9)))) gb_1)
  exact h
set_option maxRecDepth 20000 in
theorem gX10_image_X0_copyFrom : GoodIn wsX10_image (wsV RX10 418 RX0 yX0_copyFrom wsX0_copyFrom) := goodIn_app (goodIn_r _ [14, 15, 16, 17] rfl (by decide +kernel)) ggX10_image_X0_copyFrom
set_option maxRecDepth 20000 in
theorem ggX10_image_X1_copyFrom : GoodIn wsX10_image wsX1_copyFrom := by
  have h := goodIn_app (goodIn_app (goodIn_r (big := wsX10_image) (.code yX1_copyFrom cX1_copyFrom 3 none :: (wsX1_copyFrom_r1 ++ wsX1_copyFrom_r2) : List Cond) [34, 35, 36, 37, 38, 33, 39, 40, 41, 42, 43, 17, 44, 45, 46, 47, 48, 49, 19, 50, 21, 22, 23, 24, 25, 26, 27, 28, 29, 51, 52, 53, 54, 55, 15, 16, 18, 20, 11, 12, 13] rfl (by decide +kernel)) (goodIn_few (big := wsX10_image) (fun _ h9 => List.mem_cons_of_mem _ (List.mem_append_left _ (List.mem_append_right _ h9))) gb_11)) (goodIn_few (big := wsX10_image) (fun _ h9 => List.mem_cons_of_mem _ (List.mem_append_left _ (List.mem_append_left _ (List.mem_append_right _ h9)))) gb_1)
  exact h
set_option maxRecDepth 20000 in
theorem gX10_image_X1_copyFrom : GoodIn wsX10_image (wsV RX10 432 RX1 yX1_copyFrom wsX1_copyFrom) := goodIn_app (goodIn_r _ [30, 31, 32, 33] rfl (by decide +kernel)) ggX10_image_X1_copyFrom
set_option maxRecDepth 20000 in
theorem ggX10_image_X3_copyFrom : GoodIn wsX10_image wsX3_copyFrom := by
  have h := goodIn_app (goodIn_r (big := wsX10_image) (.code yX3_copyFrom cX3_copyFrom 2 none :: ([.fieldLink RX3 9 "PathProber$Notebook" "port" "[I", .methodLink RX3 42 arraycopyName, .native arraycopyName, .static arraycopyName, .initialized "java/lang/System", .fieldLink RX3 15 "PathProber$Notebook" "goal" "[I", .fieldLink RX3 18 "PathProber$Notebook" "hops" "[I", .fieldLink RX3 21 "PathProber$Notebook" "address" "[I", .fieldLink RX3 24 "PathProber$Notebook" "size" "I"]) : List Cond) [60, 61, 62, 11, 12, 13, 63, 64, 65, 66] rfl (by decide +kernel)) (goodIn_few (big := wsX10_image) (fun _ h9 => List.mem_cons_of_mem _ (List.mem_append_right _ h9)) gb_8)
  exact h
set_option maxRecDepth 20000 in
theorem gX10_image_X3_copyFrom : GoodIn wsX10_image (wsV RX10 435 RX3 yX3_copyFrom wsX3_copyFrom) := goodIn_app (goodIn_r _ [56, 57, 58, 59] rfl (by decide +kernel)) ggX10_image_X3_copyFrom
theorem eX10_image_0q : (decode cX10_image 0 = .ok (.aload_n 0, 1)) ∧ (decode cX10_image 1 = .ok (.iconst 1, 1)) ∧ (decode cX10_image 2 = .ok (.putfield 97, 3)) ∧ (decode cX10_image 5 = .ok (.aload_n 0, 1)) ∧ (decode cX10_image 6 = .ok (.getfield 101, 3)) ∧ (decode cX10_image 9 = .ok (.aload_n 0, 1)) ∧ (decode cX10_image 10 = .ok (.getfield 38, 3)) ∧ (decode cX10_image 13 = .ok (.invokevirtual 418, 3)) := by decide +kernel
theorem dX10_image_0 : decode cX10_image 0 = .ok (.aload_n 0, 1) := eX10_image_0q.1
theorem dX10_image_1 : decode cX10_image 1 = .ok (.iconst 1, 1) := eX10_image_0q.2.1
theorem dX10_image_2 : decode cX10_image 2 = .ok (.putfield 97, 3) := eX10_image_0q.2.2.1
theorem dX10_image_5 : decode cX10_image 5 = .ok (.aload_n 0, 1) := eX10_image_0q.2.2.2.1
theorem dX10_image_6 : decode cX10_image 6 = .ok (.getfield 101, 3) := eX10_image_0q.2.2.2.2.1
theorem dX10_image_9 : decode cX10_image 9 = .ok (.aload_n 0, 1) := eX10_image_0q.2.2.2.2.2.1
theorem dX10_image_10 : decode cX10_image 10 = .ok (.getfield 38, 3) := eX10_image_0q.2.2.2.2.2.2.1
theorem dX10_image_13 : decode cX10_image 13 = .ok (.invokevirtual 418, 3) := eX10_image_0q.2.2.2.2.2.2.2
theorem eX10_image_16q : (decode cX10_image 16 = .ok (.aload_n 0, 1)) ∧ (decode cX10_image 17 = .ok (.getfield 104, 3)) ∧ (decode cX10_image 20 = .ok (.aload_n 0, 1)) ∧ (decode cX10_image 21 = .ok (.getfield 89, 3)) ∧ (decode cX10_image 24 = .ok (.invokevirtual 432, 3)) ∧ (decode cX10_image 27 = .ok (.aload_n 0, 1)) ∧ (decode cX10_image 28 = .ok (.getfield 107, 3)) ∧ (decode cX10_image 31 = .ok (.aload_n 0, 1)) := by decide +kernel
theorem dX10_image_16 : decode cX10_image 16 = .ok (.aload_n 0, 1) := eX10_image_16q.1
theorem dX10_image_17 : decode cX10_image 17 = .ok (.getfield 104, 3) := eX10_image_16q.2.1
theorem dX10_image_20 : decode cX10_image 20 = .ok (.aload_n 0, 1) := eX10_image_16q.2.2.1
theorem dX10_image_21 : decode cX10_image 21 = .ok (.getfield 89, 3) := eX10_image_16q.2.2.2.1
theorem dX10_image_24 : decode cX10_image 24 = .ok (.invokevirtual 432, 3) := eX10_image_16q.2.2.2.2.1
theorem dX10_image_27 : decode cX10_image 27 = .ok (.aload_n 0, 1) := eX10_image_16q.2.2.2.2.2.1
theorem dX10_image_28 : decode cX10_image 28 = .ok (.getfield 107, 3) := eX10_image_16q.2.2.2.2.2.2.1
theorem dX10_image_31 : decode cX10_image 31 = .ok (.aload_n 0, 1) := eX10_image_16q.2.2.2.2.2.2.2
theorem eX10_image_32q : (decode cX10_image 32 = .ok (.getfield 82, 3)) ∧ (decode cX10_image 35 = .ok (.invokevirtual 435, 3)) ∧ (decode cX10_image 38 = .ok (.aload_n 0, 1)) ∧ (decode cX10_image 39 = .ok (.getfield 93, 3)) ∧ (decode cX10_image 42 = .ok (.iconst 0, 1)) ∧ (decode cX10_image 43 = .ok (.aload_n 0, 1)) ∧ (decode cX10_image 44 = .ok (.getfield 110, 3)) ∧ (decode cX10_image 47 = .ok (.iconst 0, 1)) := by decide +kernel
theorem dX10_image_32 : decode cX10_image 32 = .ok (.getfield 82, 3) := eX10_image_32q.1
theorem dX10_image_35 : decode cX10_image 35 = .ok (.invokevirtual 435, 3) := eX10_image_32q.2.1
theorem dX10_image_38 : decode cX10_image 38 = .ok (.aload_n 0, 1) := eX10_image_32q.2.2.1
theorem dX10_image_39 : decode cX10_image 39 = .ok (.getfield 93, 3) := eX10_image_32q.2.2.2.1
theorem dX10_image_42 : decode cX10_image 42 = .ok (.iconst 0, 1) := eX10_image_32q.2.2.2.2.1
theorem dX10_image_43 : decode cX10_image 43 = .ok (.aload_n 0, 1) := eX10_image_32q.2.2.2.2.2.1
theorem dX10_image_44 : decode cX10_image 44 = .ok (.getfield 110, 3) := eX10_image_32q.2.2.2.2.2.2.1
theorem dX10_image_47 : decode cX10_image 47 = .ok (.iconst 0, 1) := eX10_image_32q.2.2.2.2.2.2.2
theorem eX10_image_48q : (decode cX10_image 48 = .ok (.iconst 3, 1)) ∧ (decode cX10_image 49 = .ok (.invokestatic 438, 3)) ∧ (decode cX10_image 52 = .ok (.return_, 1)) := by decide +kernel
theorem dX10_image_48 : decode cX10_image 48 = .ok (.iconst 3, 1) := eX10_image_48q.1
theorem dX10_image_49 : decode cX10_image 49 = .ok (.invokestatic 438, 3) := eX10_image_48q.2.1
theorem dX10_image_52 : decode cX10_image 52 = .ok (.return_, 1) := eX10_image_48q.2.2
set_option maxRecDepth 20000 in
theorem ggX10_restore_X0_copyFrom : GoodIn wsX10_restore wsX0_copyFrom := by
  have h := goodIn_app (goodIn_r (big := wsX10_restore) (.code yX0_copyFrom cX0_copyFrom 2 none :: ([.fieldLink RX0 9 "PathProber$Condition" "seen" "[J", .methodLink RX0 47 arraycopyName, .native arraycopyName, .static arraycopyName, .initialized "java/lang/System", .fieldLink RX0 15 "PathProber$Condition" "sent" "[I", .fieldLink RX0 19 "PathProber$Condition" "turn" "[I", .fieldLink RX0 22 "PathProber$Condition" "counter" "[I", .fieldLink RX0 25 "PathProber$Condition" "loss" "I", .fieldLink RX0 29 "PathProber$Condition" "opened" "I", .fieldLink RX0 32 "PathProber$Condition" "open" "I", .fieldLink RX0 35 "PathProber$Condition" "deep" "I", .fieldLink RX0 38 "PathProber$Condition" "muted" "I", .fieldLink RX0 41 "PathProber$Condition" "lost" "I"]) : List Cond) [18, 19, 20, 11, 12, 13, 21, 22, 23, 24, 25, 26, 27, 28, 29] rfl (by decide +kernel)) (goodIn_few (big := wsX10_restore) (fun _ h9 => List.mem_cons_of_mem _ (List.mem_append_left _ (List.mem_append_left _ (List.mem_append_right _ h9)))) gb_1)
  exact h
set_option maxRecDepth 20000 in
theorem gX10_restore_X0_copyFrom : GoodIn wsX10_restore (wsV RX10 418 RX0 yX0_copyFrom wsX0_copyFrom) := goodIn_app (goodIn_r _ [14, 15, 16, 17] rfl (by decide +kernel)) ggX10_restore_X0_copyFrom
set_option maxRecDepth 20000 in
theorem ggX10_restore_X1_copyFrom : GoodIn wsX10_restore wsX1_copyFrom := by
  have h := goodIn_app (goodIn_app (goodIn_r (big := wsX10_restore) (.code yX1_copyFrom cX1_copyFrom 3 none :: (wsX1_copyFrom_r1 ++ wsX1_copyFrom_r2) : List Cond) [34, 35, 36, 37, 38, 33, 39, 40, 41, 42, 43, 17, 44, 45, 46, 47, 48, 49, 19, 50, 21, 22, 23, 24, 25, 26, 27, 28, 29, 51, 52, 53, 54, 55, 15, 16, 18, 20, 11, 12, 13] rfl (by decide +kernel)) (goodIn_few (big := wsX10_restore) (fun _ h9 => List.mem_cons_of_mem _ (List.mem_append_left _ (List.mem_append_right _ h9))) gb_11)) (goodIn_few (big := wsX10_restore) (fun _ h9 => List.mem_cons_of_mem _ (List.mem_append_left _ (List.mem_append_left _ (List.mem_append_right _ h9)))) gb_1)
  exact h
set_option maxRecDepth 20000 in
theorem gX10_restore_X1_copyFrom : GoodIn wsX10_restore (wsV RX10 432 RX1 yX1_copyFrom wsX1_copyFrom) := goodIn_app (goodIn_r _ [30, 31, 32, 33] rfl (by decide +kernel)) ggX10_restore_X1_copyFrom
set_option maxRecDepth 20000 in
theorem ggX10_restore_X3_copyFrom : GoodIn wsX10_restore wsX3_copyFrom := by
  have h := goodIn_app (goodIn_r (big := wsX10_restore) (.code yX3_copyFrom cX3_copyFrom 2 none :: ([.fieldLink RX3 9 "PathProber$Notebook" "port" "[I", .methodLink RX3 42 arraycopyName, .native arraycopyName, .static arraycopyName, .initialized "java/lang/System", .fieldLink RX3 15 "PathProber$Notebook" "goal" "[I", .fieldLink RX3 18 "PathProber$Notebook" "hops" "[I", .fieldLink RX3 21 "PathProber$Notebook" "address" "[I", .fieldLink RX3 24 "PathProber$Notebook" "size" "I"]) : List Cond) [60, 61, 62, 11, 12, 13, 63, 64, 65, 66] rfl (by decide +kernel)) (goodIn_few (big := wsX10_restore) (fun _ h9 => List.mem_cons_of_mem _ (List.mem_append_right _ h9)) gb_8)
  exact h
set_option maxRecDepth 20000 in
theorem gX10_restore_X3_copyFrom : GoodIn wsX10_restore (wsV RX10 435 RX3 yX3_copyFrom wsX3_copyFrom) := goodIn_app (goodIn_r _ [56, 57, 58, 59] rfl (by decide +kernel)) ggX10_restore_X3_copyFrom
theorem eX10_restore_0q : (decode cX10_restore 0 = .ok (.aload_n 0, 1)) ∧ (decode cX10_restore 1 = .ok (.getfield 97, 3)) ∧ (decode cX10_restore 4 = .ok (.ifCond .ne 5, 3)) ∧ (decode cX10_restore 7 = .ok (.iconst 0, 1)) ∧ (decode cX10_restore 8 = .ok (.ireturn, 1)) ∧ (decode cX10_restore 9 = .ok (.aload_n 0, 1)) ∧ (decode cX10_restore 10 = .ok (.getfield 38, 3)) ∧ (decode cX10_restore 13 = .ok (.aload_n 0, 1)) := by decide +kernel
theorem dX10_restore_0 : decode cX10_restore 0 = .ok (.aload_n 0, 1) := eX10_restore_0q.1
theorem dX10_restore_1 : decode cX10_restore 1 = .ok (.getfield 97, 3) := eX10_restore_0q.2.1
theorem dX10_restore_4 : decode cX10_restore 4 = .ok (.ifCond .ne 5, 3) := eX10_restore_0q.2.2.1
theorem dX10_restore_7 : decode cX10_restore 7 = .ok (.iconst 0, 1) := eX10_restore_0q.2.2.2.1
theorem dX10_restore_8 : decode cX10_restore 8 = .ok (.ireturn, 1) := eX10_restore_0q.2.2.2.2.1
theorem dX10_restore_9 : decode cX10_restore 9 = .ok (.aload_n 0, 1) := eX10_restore_0q.2.2.2.2.2.1
theorem dX10_restore_10 : decode cX10_restore 10 = .ok (.getfield 38, 3) := eX10_restore_0q.2.2.2.2.2.2.1
theorem dX10_restore_13 : decode cX10_restore 13 = .ok (.aload_n 0, 1) := eX10_restore_0q.2.2.2.2.2.2.2
theorem eX10_restore_14q : (decode cX10_restore 14 = .ok (.getfield 101, 3)) ∧ (decode cX10_restore 17 = .ok (.invokevirtual 418, 3)) ∧ (decode cX10_restore 20 = .ok (.aload_n 0, 1)) ∧ (decode cX10_restore 21 = .ok (.getfield 89, 3)) ∧ (decode cX10_restore 24 = .ok (.aload_n 0, 1)) ∧ (decode cX10_restore 25 = .ok (.getfield 104, 3)) ∧ (decode cX10_restore 28 = .ok (.invokevirtual 432, 3)) ∧ (decode cX10_restore 31 = .ok (.aload_n 0, 1)) := by decide +kernel
theorem dX10_restore_14 : decode cX10_restore 14 = .ok (.getfield 101, 3) := eX10_restore_14q.1
theorem dX10_restore_17 : decode cX10_restore 17 = .ok (.invokevirtual 418, 3) := eX10_restore_14q.2.1
theorem dX10_restore_20 : decode cX10_restore 20 = .ok (.aload_n 0, 1) := eX10_restore_14q.2.2.1
theorem dX10_restore_21 : decode cX10_restore 21 = .ok (.getfield 89, 3) := eX10_restore_14q.2.2.2.1
theorem dX10_restore_24 : decode cX10_restore 24 = .ok (.aload_n 0, 1) := eX10_restore_14q.2.2.2.2.1
theorem dX10_restore_25 : decode cX10_restore 25 = .ok (.getfield 104, 3) := eX10_restore_14q.2.2.2.2.2.1
theorem dX10_restore_28 : decode cX10_restore 28 = .ok (.invokevirtual 432, 3) := eX10_restore_14q.2.2.2.2.2.2.1
theorem dX10_restore_31 : decode cX10_restore 31 = .ok (.aload_n 0, 1) := eX10_restore_14q.2.2.2.2.2.2.2
theorem eX10_restore_32q : (decode cX10_restore 32 = .ok (.getfield 82, 3)) ∧ (decode cX10_restore 35 = .ok (.aload_n 0, 1)) ∧ (decode cX10_restore 36 = .ok (.getfield 107, 3)) ∧ (decode cX10_restore 39 = .ok (.invokevirtual 435, 3)) ∧ (decode cX10_restore 42 = .ok (.aload_n 0, 1)) ∧ (decode cX10_restore 43 = .ok (.getfield 110, 3)) ∧ (decode cX10_restore 46 = .ok (.iconst 0, 1)) ∧ (decode cX10_restore 47 = .ok (.aload_n 0, 1)) := by decide +kernel
theorem dX10_restore_32 : decode cX10_restore 32 = .ok (.getfield 82, 3) := eX10_restore_32q.1
theorem dX10_restore_35 : decode cX10_restore 35 = .ok (.aload_n 0, 1) := eX10_restore_32q.2.1
theorem dX10_restore_36 : decode cX10_restore 36 = .ok (.getfield 107, 3) := eX10_restore_32q.2.2.1
theorem dX10_restore_39 : decode cX10_restore 39 = .ok (.invokevirtual 435, 3) := eX10_restore_32q.2.2.2.1
theorem dX10_restore_42 : decode cX10_restore 42 = .ok (.aload_n 0, 1) := eX10_restore_32q.2.2.2.2.1
theorem dX10_restore_43 : decode cX10_restore 43 = .ok (.getfield 110, 3) := eX10_restore_32q.2.2.2.2.2.1
theorem dX10_restore_46 : decode cX10_restore 46 = .ok (.iconst 0, 1) := eX10_restore_32q.2.2.2.2.2.2.1
theorem dX10_restore_47 : decode cX10_restore 47 = .ok (.aload_n 0, 1) := eX10_restore_32q.2.2.2.2.2.2.2
theorem eX10_restore_48q : (decode cX10_restore 48 = .ok (.getfield 93, 3)) ∧ (decode cX10_restore 51 = .ok (.iconst 0, 1)) ∧ (decode cX10_restore 52 = .ok (.iconst 3, 1)) ∧ (decode cX10_restore 53 = .ok (.invokestatic 438, 3)) ∧ (decode cX10_restore 56 = .ok (.iconst 1, 1)) ∧ (decode cX10_restore 57 = .ok (.ireturn, 1)) := by decide +kernel
theorem dX10_restore_48 : decode cX10_restore 48 = .ok (.getfield 93, 3) := eX10_restore_48q.1
theorem dX10_restore_51 : decode cX10_restore 51 = .ok (.iconst 0, 1) := eX10_restore_48q.2.1
theorem dX10_restore_52 : decode cX10_restore 52 = .ok (.iconst 3, 1) := eX10_restore_48q.2.2.1
theorem dX10_restore_53 : decode cX10_restore 53 = .ok (.invokestatic 438, 3) := eX10_restore_48q.2.2.2.1
theorem dX10_restore_56 : decode cX10_restore 56 = .ok (.iconst 1, 1) := eX10_restore_48q.2.2.2.2.1
theorem dX10_restore_57 : decode cX10_restore 57 = .ok (.ireturn, 1) := eX10_restore_48q.2.2.2.2.2
