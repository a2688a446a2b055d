set_option maxRecDepth 20000 in
theorem ggX11_probe_X11_isPort : GoodIn wsX11_probe wsX11_isPort := goodIn_r _ [5, 6, 7, 4, 8] rfl (by decide +kernel)
set_option maxRecDepth 20000 in
theorem gX11_probe_X11_isPort : GoodIn wsX11_probe (va_wsS RX11 368 yX11_isPort wsX11_isPort) := goodIn_app (goodIn_r _ [2, 3, 4] rfl (by decide +kernel)) ggX11_probe_X11_isPort
set_option maxRecDepth 20000 in
theorem ggX11_probe_X11_isGoal : GoodIn wsX11_probe wsX11_isGoal := by
  have h := goodIn_app (goodIn_r (big := wsX11_probe) (.code yX11_isGoal cX11_isGoal 2 (some .boolean) :: ([.methodLink RX11 304 yX11_goals, .instanceMethod yX11_goals, .selects RX11 yX11_goals yX11_goals, .initialized RX11, .code yX11_goals cX11_goals 1 (some .int), .fieldLink RX11 34 "PathProberModel" "told" "[I", .methodLink RX11 359 yX11_isIn, .static yX11_isIn, .code yX11_isIn cX11_isIn 3 (some .boolean)]) : List Cond) [12, 13, 14, 15, 4, 16, 17, 6, 7, 8] rfl (by decide +kernel)) (goodIn_few (big := wsX11_probe) (fun _ h9 => List.mem_cons_of_mem _ (List.mem_append_right _ h9)) gb_0)
  exact h
set_option maxRecDepth 20000 in
theorem gX11_probe_X11_isGoal : GoodIn wsX11_probe (wsV RX11 371 RX11 yX11_isGoal wsX11_isGoal) := goodIn_app (goodIn_r _ [9, 10, 11, 4] rfl (by decide +kernel)) ggX11_probe_X11_isGoal
set_option maxRecDepth 20000 in
theorem ggX11_probe_X11_isHop : GoodIn wsX11_probe wsX11_isHop := goodIn_r _ [20, 6, 7, 4, 8] rfl (by decide +kernel)
set_option maxRecDepth 20000 in
theorem gX11_probe_X11_isHop : GoodIn wsX11_probe (va_wsS RX11 374 yX11_isHop wsX11_isHop) := goodIn_app (goodIn_r _ [18, 19, 4] rfl (by decide +kernel)) ggX11_probe_X11_isHop
set_option maxRecDepth 20000 in
theorem ggX11_probe_X11_refuse : GoodIn wsX11_probe wsX11_refuse := by
  have h := goodIn_app (goodIn_r (big := wsX11_probe) (.code yX11_refuse cX11_refuse 2 (some .int) :: ([.fieldLink RX11 63 "PathProberModel" "status" "[I"]) : List Cond) [24, 25] rfl (by decide +kernel)) (goodIn_few (big := wsX11_probe) (fun _ h9 => List.mem_cons_of_mem _ (List.mem_append_right _ h9)) gb_0)
  exact h
set_option maxRecDepth 20000 in
theorem gX11_probe_X11_refuse : GoodIn wsX11_probe (wsV RX11 377 RX11 yX11_refuse wsX11_refuse) := goodIn_app (goodIn_r _ [21, 22, 23, 4] rfl (by decide +kernel)) ggX11_probe_X11_refuse
set_option maxRecDepth 20000 in
theorem ggX11_probe_X11_keep : GoodIn wsX11_probe wsX11_keep := by
  have h := goodIn_app (goodIn_r (big := wsX11_probe) (.code yX11_keep cX11_keep 2 none :: ([.fieldLink RX11 250 "PathProberModel" "acts" "I", .fieldLink RX11 84 "PathProberModel" "past" "[I", .fieldLink RX11 60 "PathProberModel" "now" "[I"]) : List Cond) [29, 30, 31, 32] rfl (by decide +kernel)) (goodIn_few (big := wsX11_probe) (fun _ h9 => List.mem_cons_of_mem _ (List.mem_append_right _ h9)) gb_0)
  exact h
set_option maxRecDepth 20000 in
theorem gX11_probe_X11_keep : GoodIn wsX11_probe (wsV RX11 380 RX11 yX11_keep wsX11_keep) := goodIn_app (goodIn_r _ [26, 27, 28, 4] rfl (by decide +kernel)) ggX11_probe_X11_keep
set_option maxRecDepth 20000 in
theorem ggX11_probe_X11_probeNow : GoodIn wsX11_probe wsX11_probeNow := by
  have h := goodIn_app (goodIn_r (big := wsX11_probe) (.code yX11_probeNow cX11_probeNow 6 (some .int) :: (wsX11_probeNow_r1 ++ (wsX11_probeNow_r2 ++ wsX11_probeNow_r3)) : List Cond) [36, 32, 37, 38, 39, 40, 41, 42, 4, 43, 44, 45, 46, 47, 48, 49, 50, 51, 52, 53, 54, 55, 56, 57, 58, 59, 60, 61, 62, 63, 64, 65, 66, 67, 68, 69, 70, 71, 72, 73, 74, 17, 75, 76, 77, 78, 79, 80, 81, 82, 83, 84, 85, 86, 87, 88, 89, 90, 91, 92, 93, 94, 95, 96, 97] rfl (by decide +kernel)) (goodIn_few (big := wsX11_probe) (fun _ h9 => List.mem_cons_of_mem _ (List.mem_append_right _ h9)) gb_0)
  exact h
set_option maxRecDepth 20000 in
theorem gX11_probe_X11_probeNow : GoodIn wsX11_probe (wsV RX11 347 RX11 yX11_probeNow wsX11_probeNow) := goodIn_app (goodIn_r _ [33, 34, 35, 4] rfl (by decide +kernel)) ggX11_probe_X11_probeNow
theorem eX11_probe_0q : (decode cX11_probe 0 = .ok (.aload_n 0, 1)) ∧ (decode cX11_probe 1 = .ok (.iconst 0, 1)) ∧ (decode cX11_probe 2 = .ok (.putfield 142, 3)) ∧ (decode cX11_probe 5 = .ok (.iload_n 1, 1)) ∧ (decode cX11_probe 6 = .ok (.invokestatic 368, 3)) ∧ (decode cX11_probe 9 = .ok (.ifCond .eq 18, 3)) ∧ (decode cX11_probe 12 = .ok (.aload_n 0, 1)) ∧ (decode cX11_probe 13 = .ok (.iload_n 2, 1)) := by decide +kernel
theorem dX11_probe_0 : decode cX11_probe 0 = .ok (.aload_n 0, 1) := eX11_probe_0q.1
theorem dX11_probe_1 : decode cX11_probe 1 = .ok (.iconst 0, 1) := eX11_probe_0q.2.1
theorem dX11_probe_2 : decode cX11_probe 2 = .ok (.putfield 142, 3) := eX11_probe_0q.2.2.1
theorem dX11_probe_5 : decode cX11_probe 5 = .ok (.iload_n 1, 1) := eX11_probe_0q.2.2.2.1
theorem dX11_probe_6 : decode cX11_probe 6 = .ok (.invokestatic 368, 3) := eX11_probe_0q.2.2.2.2.1
theorem dX11_probe_9 : decode cX11_probe 9 = .ok (.ifCond .eq 18, 3) := eX11_probe_0q.2.2.2.2.2.1
theorem dX11_probe_12 : decode cX11_probe 12 = .ok (.aload_n 0, 1) := eX11_probe_0q.2.2.2.2.2.2.1
theorem dX11_probe_13 : decode cX11_probe 13 = .ok (.iload_n 2, 1) := eX11_probe_0q.2.2.2.2.2.2.2
theorem eX11_probe_14q : (decode cX11_probe 14 = .ok (.invokevirtual 371, 3)) ∧ (decode cX11_probe 17 = .ok (.ifCond .eq 10, 3)) ∧ (decode cX11_probe 20 = .ok (.iload_n 3, 1)) ∧ (decode cX11_probe 21 = .ok (.invokestatic 374, 3)) ∧ (decode cX11_probe 24 = .ok (.ifCond .ne 11, 3)) ∧ (decode cX11_probe 27 = .ok (.aload_n 0, 1)) ∧ (decode cX11_probe 28 = .ok (.iconst 1, 1)) ∧ (decode cX11_probe 29 = .ok (.invokevirtual 377, 3)) := by decide +kernel
theorem dX11_probe_14 : decode cX11_probe 14 = .ok (.invokevirtual 371, 3) := eX11_probe_14q.1
theorem dX11_probe_17 : decode cX11_probe 17 = .ok (.ifCond .eq 10, 3) := eX11_probe_14q.2.1
theorem dX11_probe_20 : decode cX11_probe 20 = .ok (.iload_n 3, 1) := eX11_probe_14q.2.2.1
theorem dX11_probe_21 : decode cX11_probe 21 = .ok (.invokestatic 374, 3) := eX11_probe_14q.2.2.2.1
theorem dX11_probe_24 : decode cX11_probe 24 = .ok (.ifCond .ne 11, 3) := eX11_probe_14q.2.2.2.2.1
theorem dX11_probe_27 : decode cX11_probe 27 = .ok (.aload_n 0, 1) := eX11_probe_14q.2.2.2.2.2.1
theorem dX11_probe_28 : decode cX11_probe 28 = .ok (.iconst 1, 1) := eX11_probe_14q.2.2.2.2.2.2.1
theorem dX11_probe_29 : decode cX11_probe 29 = .ok (.invokevirtual 377, 3) := eX11_probe_14q.2.2.2.2.2.2.2
theorem eX11_probe_32q : (decode cX11_probe 32 = .ok (.iconst 1, 1)) ∧ (decode cX11_probe 33 = .ok (.isub, 1)) ∧ (decode cX11_probe 34 = .ok (.ireturn, 1)) ∧ (decode cX11_probe 35 = .ok (.aload_n 0, 1)) ∧ (decode cX11_probe 36 = .ok (.invokevirtual 380, 3)) ∧ (decode cX11_probe 39 = .ok (.aload_n 0, 1)) ∧ (decode cX11_probe 40 = .ok (.iload_n 1, 1)) ∧ (decode cX11_probe 41 = .ok (.iload_n 2, 1)) := by decide +kernel
theorem dX11_probe_32 : decode cX11_probe 32 = .ok (.iconst 1, 1) := eX11_probe_32q.1
theorem dX11_probe_33 : decode cX11_probe 33 = .ok (.isub, 1) := eX11_probe_32q.2.1
theorem dX11_probe_34 : decode cX11_probe 34 = .ok (.ireturn, 1) := eX11_probe_32q.2.2.1
theorem dX11_probe_35 : decode cX11_probe 35 = .ok (.aload_n 0, 1) := eX11_probe_32q.2.2.2.1
theorem dX11_probe_36 : decode cX11_probe 36 = .ok (.invokevirtual 380, 3) := eX11_probe_32q.2.2.2.2.1
theorem dX11_probe_39 : decode cX11_probe 39 = .ok (.aload_n 0, 1) := eX11_probe_32q.2.2.2.2.2.1
theorem dX11_probe_40 : decode cX11_probe 40 = .ok (.iload_n 1, 1) := eX11_probe_32q.2.2.2.2.2.2.1
theorem dX11_probe_41 : decode cX11_probe 41 = .ok (.iload_n 2, 1) := eX11_probe_32q.2.2.2.2.2.2.2
theorem eX11_probe_42q : (decode cX11_probe 42 = .ok (.iload_n 3, 1)) ∧ (decode cX11_probe 43 = .ok (.iconst 1, 1)) ∧ (decode cX11_probe 44 = .ok (.invokevirtual 347, 3)) ∧ (decode cX11_probe 47 = .ok (.ireturn, 1)) := by decide +kernel
theorem dX11_probe_42 : decode cX11_probe 42 = .ok (.iload_n 3, 1) := eX11_probe_42q.1
theorem dX11_probe_43 : decode cX11_probe 43 = .ok (.iconst 1, 1) := eX11_probe_42q.2.1
theorem dX11_probe_44 : decode cX11_probe 44 = .ok (.invokevirtual 347, 3) := eX11_probe_42q.2.2.1
theorem dX11_probe_47 : decode cX11_probe 47 = .ok (.ireturn, 1) := eX11_probe_42q.2.2.2
set_option maxRecDepth 20000 in
theorem ggX11_ping_X11_wasSeen : GoodIn wsX11_ping wsX11_wasSeen := by
  have h := goodIn_app (goodIn_r (big := wsX11_ping) (.code yX11_wasSeen cX11_wasSeen 2 (some .boolean) :: (wsX11_wasSeen_r1 ++ wsX11_wasSeen_r2) : List Cond) [6, 7, 8, 9, 5, 10, 11, 12, 13, 14, 15, 16, 17, 18, 19, 20, 21, 22, 23, 24, 25, 26, 27, 28, 29, 30, 31, 32, 33, 34, 35, 36, 37, 38, 39, 40, 41, 42] rfl (by decide +kernel)) (goodIn_few (big := wsX11_ping) (fun _ h9 => List.mem_cons_of_mem _ (List.mem_append_right _ h9)) gb_0)
  exact h
set_option maxRecDepth 20000 in
theorem gX11_ping_X11_wasSeen : GoodIn wsX11_ping (wsV RX11 383 RX11 yX11_wasSeen wsX11_wasSeen) := goodIn_app (goodIn_r _ [2, 3, 4, 5] rfl (by decide +kernel)) ggX11_ping_X11_wasSeen
set_option maxRecDepth 20000 in
theorem ggX11_ping_X11_refuse : GoodIn wsX11_ping wsX11_refuse := by
  have h := goodIn_app (goodIn_r (big := wsX11_ping) (.code yX11_refuse cX11_refuse 2 (some .int) :: ([.fieldLink RX11 63 "PathProberModel" "status" "[I"]) : List Cond) [46, 47] rfl (by decide +kernel)) (goodIn_few (big := wsX11_ping) (fun _ h9 => List.mem_cons_of_mem _ (List.mem_append_right _ h9)) gb_0)
  exact h
set_option maxRecDepth 20000 in
theorem gX11_ping_X11_refuse : GoodIn wsX11_ping (wsV RX11 377 RX11 yX11_refuse wsX11_refuse) := goodIn_app (goodIn_r _ [43, 44, 45, 5] rfl (by decide +kernel)) ggX11_ping_X11_refuse
set_option maxRecDepth 20000 in
theorem ggX11_ping_X11_keep : GoodIn wsX11_ping wsX11_keep := by
  have h := goodIn_app (goodIn_r (big := wsX11_ping) (.code yX11_keep cX11_keep 2 none :: ([.fieldLink RX11 250 "PathProberModel" "acts" "I", .fieldLink RX11 84 "PathProberModel" "past" "[I", .fieldLink RX11 60 "PathProberModel" "now" "[I"]) : List Cond) [51, 52, 53, 39] rfl (by decide +kernel)) (goodIn_few (big := wsX11_ping) (fun _ h9 => List.mem_cons_of_mem _ (List.mem_append_right _ h9)) gb_0)
  exact h
set_option maxRecDepth 20000 in
theorem gX11_ping_X11_keep : GoodIn wsX11_ping (wsV RX11 380 RX11 yX11_keep wsX11_keep) := goodIn_app (goodIn_r _ [48, 49, 50, 5] rfl (by decide +kernel)) ggX11_ping_X11_keep
set_option maxRecDepth 20000 in
theorem ggX11_ping_X11_routerOf : GoodIn wsX11_ping wsX11_routerOf := by
  have h := goodIn_app (goodIn_r (big := wsX11_ping) (.code yX11_routerOf cX11_routerOf 2 (some .int) :: ([.fieldLink RX11 56 "PathProberModel" "to" "[I"]) : List Cond) [57, 58] rfl (by decide +kernel)) (goodIn_few (big := wsX11_ping) (fun _ h9 => List.mem_cons_of_mem _ (List.mem_append_right _ h9)) gb_0)
  exact h
set_option maxRecDepth 20000 in
theorem gX11_ping_X11_routerOf : GoodIn wsX11_ping (wsV RX11 386 RX11 yX11_routerOf wsX11_routerOf) := goodIn_app (goodIn_r _ [54, 55, 56, 5] rfl (by decide +kernel)) ggX11_ping_X11_routerOf
set_option maxRecDepth 20000 in
theorem ggX11_ping_X11_answered : GoodIn wsX11_ping wsX11_answered := by
  have h := goodIn_app (goodIn_r (big := wsX11_ping) (.code yX11_answered cX11_answered 2 (some .int) :: ([.fieldLink RX11 60 "PathProberModel" "now" "[I", .fieldLink RX11 44 "PathProberModel" "pace" "[I"]) : List Cond) [62, 39, 63] rfl (by decide +kernel)) (goodIn_few (big := wsX11_ping) (fun _ h9 => List.mem_cons_of_mem _ (List.mem_append_right _ h9)) gb_0)
  exact h
set_option maxRecDepth 20000 in
theorem gX11_ping_X11_answered : GoodIn wsX11_ping (wsV RX11 344 RX11 yX11_answered wsX11_answered) := goodIn_app (goodIn_r _ [59, 60, 61, 5] rfl (by decide +kernel)) ggX11_ping_X11_answered
theorem eX11_ping_0q : (decode cX11_ping 0 = .ok (.aload_n 0, 1)) ∧ (decode cX11_ping 1 = .ok (.iconst 0, 1)) ∧ (decode cX11_ping 2 = .ok (.putfield 142, 3)) ∧ (decode cX11_ping 5 = .ok (.aload_n 0, 1)) ∧ (decode cX11_ping 6 = .ok (.iload_n 1, 1)) ∧ (decode cX11_ping 7 = .ok (.invokevirtual 383, 3)) ∧ (decode cX11_ping 10 = .ok (.ifCond .ne 9, 3)) ∧ (decode cX11_ping 13 = .ok (.aload_n 0, 1)) := by decide +kernel
theorem dX11_ping_0 : decode cX11_ping 0 = .ok (.aload_n 0, 1) := eX11_ping_0q.1
theorem dX11_ping_1 : decode cX11_ping 1 = .ok (.iconst 0, 1) := eX11_ping_0q.2.1
theorem dX11_ping_2 : decode cX11_ping 2 = .ok (.putfield 142, 3) := eX11_ping_0q.2.2.1
theorem dX11_ping_5 : decode cX11_ping 5 = .ok (.aload_n 0, 1) := eX11_ping_0q.2.2.2.1
theorem dX11_ping_6 : decode cX11_ping 6 = .ok (.iload_n 1, 1) := eX11_ping_0q.2.2.2.2.1
theorem dX11_ping_7 : decode cX11_ping 7 = .ok (.invokevirtual 383, 3) := eX11_ping_0q.2.2.2.2.2.1
theorem dX11_ping_10 : decode cX11_ping 10 = .ok (.ifCond .ne 9, 3) := eX11_ping_0q.2.2.2.2.2.2.1
theorem dX11_ping_13 : decode cX11_ping 13 = .ok (.aload_n 0, 1) := eX11_ping_0q.2.2.2.2.2.2.2
theorem eX11_ping_14q : (decode cX11_ping 14 = .ok (.iconst 1, 1)) ∧ (decode cX11_ping 15 = .ok (.invokevirtual 377, 3)) ∧ (decode cX11_ping 18 = .ok (.ireturn, 1)) ∧ (decode cX11_ping 19 = .ok (.aload_n 0, 1)) ∧ (decode cX11_ping 20 = .ok (.invokevirtual 380, 3)) ∧ (decode cX11_ping 23 = .ok (.aload_n 0, 1)) ∧ (decode cX11_ping 24 = .ok (.aload_n 0, 1)) ∧ (decode cX11_ping 25 = .ok (.iload_n 1, 1)) := by decide +kernel
theorem dX11_ping_14 : decode cX11_ping 14 = .ok (.iconst 1, 1) := eX11_ping_14q.1
theorem dX11_ping_15 : decode cX11_ping 15 = .ok (.invokevirtual 377, 3) := eX11_ping_14q.2.1
theorem dX11_ping_18 : decode cX11_ping 18 = .ok (.ireturn, 1) := eX11_ping_14q.2.2.1
theorem dX11_ping_19 : decode cX11_ping 19 = .ok (.aload_n 0, 1) := eX11_ping_14q.2.2.2.1
theorem dX11_ping_20 : decode cX11_ping 20 = .ok (.invokevirtual 380, 3) := eX11_ping_14q.2.2.2.2.1
theorem dX11_ping_23 : decode cX11_ping 23 = .ok (.aload_n 0, 1) := eX11_ping_14q.2.2.2.2.2.1
theorem dX11_ping_24 : decode cX11_ping 24 = .ok (.aload_n 0, 1) := eX11_ping_14q.2.2.2.2.2.2.1
theorem dX11_ping_25 : decode cX11_ping 25 = .ok (.iload_n 1, 1) := eX11_ping_14q.2.2.2.2.2.2.2
theorem eX11_ping_26q : (decode cX11_ping 26 = .ok (.invokevirtual 386, 3)) ∧ (decode cX11_ping 29 = .ok (.invokevirtual 344, 3)) ∧ (decode cX11_ping 32 = .ok (.ireturn, 1)) := by decide +kernel
theorem dX11_ping_26 : decode cX11_ping 26 = .ok (.invokevirtual 386, 3) := eX11_ping_26q.1
theorem dX11_ping_29 : decode cX11_ping 29 = .ok (.invokevirtual 344, 3) := eX11_ping_26q.2.1
theorem dX11_ping_32 : decode cX11_ping 32 = .ok (.ireturn, 1) := eX11_ping_26q.2.2
set_option maxRecDepth 20000 in
theorem ggX11_sweep_X11_isGoal : GoodIn wsX11_sweep wsX11_isGoal := by
  have h := goodIn_app (goodIn_r (big := wsX11_sweep) (.code yX11_isGoal cX11_isGoal 2 (some .boolean) :: ([.methodLink RX11 304 yX11_goals, .instanceMethod yX11_goals, .selects RX11 yX11_goals yX11_goals, .initialized RX11, .code yX11_goals cX11_goals 1 (some .int), .fieldLink RX11 34 "PathProberModel" "told" "[I", .methodLink RX11 359 yX11_isIn, .static yX11_isIn, .code yX11_isIn cX11_isIn 3 (some .boolean)]) : List Cond) [6, 7, 8, 9, 5, 10, 11, 12, 13, 14] rfl (by decide +kernel)) (goodIn_few (big := wsX11_sweep) (fun _ h9 => List.mem_cons_of_mem _ (List.mem_append_right _ h9)) gb_0)
  exact h
set_option maxRecDepth 20000 in
theorem gX11_sweep_X11_isGoal : GoodIn wsX11_sweep (wsV RX11 371 RX11 yX11_isGoal wsX11_isGoal) := goodIn_app (goodIn_r _ [2, 3, 4, 5] rfl (by decide +kernel)) ggX11_sweep_X11_isGoal
set_option maxRecDepth 20000 in
theorem ggX11_sweep_X11_isHop : GoodIn wsX11_sweep wsX11_isHop := goodIn_r _ [17, 12, 13, 5, 14] rfl (by decide +kernel)
set_option maxRecDepth 20000 in
theorem gX11_sweep_X11_isHop : GoodIn wsX11_sweep (va_wsS RX11 374 yX11_isHop wsX11_isHop) := goodIn_app (goodIn_r _ [15, 16, 5] rfl (by decide +kernel)) ggX11_sweep_X11_isHop
set_option maxRecDepth 20000 in
theorem ggX11_sweep_X11_refuse : GoodIn wsX11_sweep wsX11_refuse := by
  have h := goodIn_app (goodIn_r (big := wsX11_sweep) (.code yX11_refuse cX11_refuse 2 (some .int) :: ([.fieldLink RX11 63 "PathProberModel" "status" "[I"]) : List Cond) [21, 22] rfl (by decide +kernel)) (goodIn_few (big := wsX11_sweep) (fun _ h9 => List.mem_cons_of_mem _ (List.mem_append_right _ h9)) gb_0)
  exact h
set_option maxRecDepth 20000 in
theorem gX11_sweep_X11_refuse : GoodIn wsX11_sweep (wsV RX11 377 RX11 yX11_refuse wsX11_refuse) := goodIn_app (goodIn_r _ [18, 19, 20, 5] rfl (by decide +kernel)) ggX11_sweep_X11_refuse
set_option maxRecDepth 20000 in
theorem ggX11_sweep_X11_keep : GoodIn wsX11_sweep wsX11_keep := by
  have h := goodIn_app (goodIn_r (big := wsX11_sweep) (.code yX11_keep cX11_keep 2 none :: ([.fieldLink RX11 250 "PathProberModel" "acts" "I", .fieldLink RX11 84 "PathProberModel" "past" "[I", .fieldLink RX11 60 "PathProberModel" "now" "[I"]) : List Cond) [26, 27, 28, 29] rfl (by decide +kernel)) (goodIn_few (big := wsX11_sweep) (fun _ h9 => List.mem_cons_of_mem _ (List.mem_append_right _ h9)) gb_0)
  exact h
set_option maxRecDepth 20000 in
theorem gX11_sweep_X11_keep : GoodIn wsX11_sweep (wsV RX11 380 RX11 yX11_keep wsX11_keep) := goodIn_app (goodIn_r _ [23, 24, 25, 5] rfl (by decide +kernel)) ggX11_sweep_X11_keep
set_option maxRecDepth 20000 in
theorem ggX11_sweep_X11_sweepNow : GoodIn wsX11_sweep wsX11_sweepNow := by
  have h := goodIn_app (goodIn_r (big := wsX11_sweep) (.code yX11_sweepNow cX11_sweepNow 7 (some .int) :: (wsX11_sweepNow_r1 ++ (wsX11_sweepNow_r2 ++ (wsX11_sweepNow_r3 ++ (wsX11_sweepNow_r4 ++ wsX11_sweepNow_r5)))) : List Cond) [33, 34, 35, 36, 37, 38, 39, 40, 41, 42, 43, 5, 44, 29, 45, 46, 47, 48, 49, 50, 51, 52, 53, 54, 55, 56, 57, 58, 59, 60, 61, 62, 63, 64, 65, 66, 67, 68, 69, 70, 71, 72, 73, 74, 75, 76, 77, 78, 11, 79, 80, 81, 82, 83, 84, 85, 86, 87, 88, 89, 90, 91, 92, 93, 94, 95, 96, 97, 98, 99, 100, 101, 102, 103, 104, 105, 106, 107, 108, 109, 110, 111, 112, 113, 114, 115, 116, 117, 118, 119, 120, 121, 122, 123, 124, 125, 126, 127] rfl (by decide +kernel)) (goodIn_few (big := wsX11_sweep) (fun _ h9 => List.mem_cons_of_mem _ (List.mem_append_right _ h9)) gb_0)
  exact h
set_option maxRecDepth 20000 in
theorem gX11_sweep_X11_sweepNow : GoodIn wsX11_sweep (wsV RX11 389 RX11 yX11_sweepNow wsX11_sweepNow) := goodIn_app (goodIn_r _ [30, 31, 32, 5] rfl (by decide +kernel)) ggX11_sweep_X11_sweepNow
theorem eX11_sweep_0q : (decode cX11_sweep 0 = .ok (.aload_n 0, 1)) ∧ (decode cX11_sweep 1 = .ok (.iconst 0, 1)) ∧ (decode cX11_sweep 2 = .ok (.putfield 142, 3)) ∧ (decode cX11_sweep 5 = .ok (.aload_n 0, 1)) ∧ (decode cX11_sweep 6 = .ok (.iload_n 1, 1)) ∧ (decode cX11_sweep 7 = .ok (.invokevirtual 371, 3)) ∧ (decode cX11_sweep 10 = .ok (.ifCond .eq 10, 3)) ∧ (decode cX11_sweep 13 = .ok (.iload_n 2, 1)) := by decide +kernel
theorem dX11_sweep_0 : decode cX11_sweep 0 = .ok (.aload_n 0, 1) := eX11_sweep_0q.1
theorem dX11_sweep_1 : decode cX11_sweep 1 = .ok (.iconst 0, 1) := eX11_sweep_0q.2.1
theorem dX11_sweep_2 : decode cX11_sweep 2 = .ok (.putfield 142, 3) := eX11_sweep_0q.2.2.1
theorem dX11_sweep_5 : decode cX11_sweep 5 = .ok (.aload_n 0, 1) := eX11_sweep_0q.2.2.2.1
theorem dX11_sweep_6 : decode cX11_sweep 6 = .ok (.iload_n 1, 1) := eX11_sweep_0q.2.2.2.2.1
theorem dX11_sweep_7 : decode cX11_sweep 7 = .ok (.invokevirtual 371, 3) := eX11_sweep_0q.2.2.2.2.2.1
theorem dX11_sweep_10 : decode cX11_sweep 10 = .ok (.ifCond .eq 10, 3) := eX11_sweep_0q.2.2.2.2.2.2.1
theorem dX11_sweep_13 : decode cX11_sweep 13 = .ok (.iload_n 2, 1) := eX11_sweep_0q.2.2.2.2.2.2.2
theorem eX11_sweep_14q : (decode cX11_sweep 14 = .ok (.invokestatic 374, 3)) ∧ (decode cX11_sweep 17 = .ok (.ifCond .ne 9, 3)) ∧ (decode cX11_sweep 20 = .ok (.aload_n 0, 1)) ∧ (decode cX11_sweep 21 = .ok (.iconst 1, 1)) ∧ (decode cX11_sweep 22 = .ok (.invokevirtual 377, 3)) ∧ (decode cX11_sweep 25 = .ok (.ireturn, 1)) ∧ (decode cX11_sweep 26 = .ok (.aload_n 0, 1)) ∧ (decode cX11_sweep 27 = .ok (.invokevirtual 380, 3)) := by decide +kernel
theorem dX11_sweep_14 : decode cX11_sweep 14 = .ok (.invokestatic 374, 3) := eX11_sweep_14q.1
theorem dX11_sweep_17 : decode cX11_sweep 17 = .ok (.ifCond .ne 9, 3) := eX11_sweep_14q.2.1
theorem dX11_sweep_20 : decode cX11_sweep 20 = .ok (.aload_n 0, 1) := eX11_sweep_14q.2.2.1
theorem dX11_sweep_21 : decode cX11_sweep 21 = .ok (.iconst 1, 1) := eX11_sweep_14q.2.2.2.1
theorem dX11_sweep_22 : decode cX11_sweep 22 = .ok (.invokevirtual 377, 3) := eX11_sweep_14q.2.2.2.2.1
theorem dX11_sweep_25 : decode cX11_sweep 25 = .ok (.ireturn, 1) := eX11_sweep_14q.2.2.2.2.2.1
theorem dX11_sweep_26 : decode cX11_sweep 26 = .ok (.aload_n 0, 1) := eX11_sweep_14q.2.2.2.2.2.2.1
theorem dX11_sweep_27 : decode cX11_sweep 27 = .ok (.invokevirtual 380, 3) := eX11_sweep_14q.2.2.2.2.2.2.2
theorem eX11_sweep_30q : (decode cX11_sweep 30 = .ok (.aload_n 0, 1)) ∧ (decode cX11_sweep 31 = .ok (.iload_n 1, 1)) ∧ (decode cX11_sweep 32 = .ok (.iload_n 2, 1)) ∧ (decode cX11_sweep 33 = .ok (.invokevirtual 389, 3)) ∧ (decode cX11_sweep 36 = .ok (.ireturn, 1)) := by decide +kernel
theorem dX11_sweep_30 : decode cX11_sweep 30 = .ok (.aload_n 0, 1) := eX11_sweep_30q.1
theorem dX11_sweep_31 : decode cX11_sweep 31 = .ok (.iload_n 1, 1) := eX11_sweep_30q.2.1
theorem dX11_sweep_32 : decode cX11_sweep 32 = .ok (.iload_n 2, 1) := eX11_sweep_30q.2.2.1
theorem dX11_sweep_33 : decode cX11_sweep 33 = .ok (.invokevirtual 389, 3) := eX11_sweep_30q.2.2.2.1
theorem dX11_sweep_36 : decode cX11_sweep 36 = .ok (.ireturn, 1) := eX11_sweep_30q.2.2.2.2
set_option maxRecDepth 20000 in
theorem ggX11_trace_X11_isPort : GoodIn wsX11_trace wsX11_isPort := goodIn_r _ [5, 6, 7, 4, 8] rfl (by decide +kernel)
set_option maxRecDepth 20000 in
theorem gX11_trace_X11_isPort : GoodIn wsX11_trace (va_wsS RX11 368 yX11_isPort wsX11_isPort) := goodIn_app (goodIn_r _ [2, 3, 4] rfl (by decide +kernel)) ggX11_trace_X11_isPort
set_option maxRecDepth 20000 in
theorem ggX11_trace_X11_isGoal : GoodIn wsX11_trace wsX11_isGoal := by
  have h := goodIn_app (goodIn_r (big := wsX11_trace) (.code yX11_isGoal cX11_isGoal 2 (some .boolean) :: ([.methodLink RX11 304 yX11_goals, .instanceMethod yX11_goals, .selects RX11 yX11_goals yX11_goals, .initialized RX11, .code yX11_goals cX11_goals 1 (some .int), .fieldLink RX11 34 "PathProberModel" "told" "[I", .methodLink RX11 359 yX11_isIn, .static yX11_isIn, .code yX11_isIn cX11_isIn 3 (some .boolean)]) : List Cond) [12, 13, 14, 15, 4, 16, 17, 6, 7, 8] rfl (by decide +kernel)) (goodIn_few (big := wsX11_trace) (fun _ h9 => List.mem_cons_of_mem _ (List.mem_append_right _ h9)) gb_0)
  exact h
set_option maxRecDepth 20000 in
theorem gX11_trace_X11_isGoal : GoodIn wsX11_trace (wsV RX11 371 RX11 yX11_isGoal wsX11_isGoal) := goodIn_app (goodIn_r _ [9, 10, 11, 4] rfl (by decide +kernel)) ggX11_trace_X11_isGoal
set_option maxRecDepth 20000 in
theorem ggX11_trace_X11_refuse : GoodIn wsX11_trace wsX11_refuse := by
  have h := goodIn_app (goodIn_r (big := wsX11_trace) (.code yX11_refuse cX11_refuse 2 (some .int) :: ([.fieldLink RX11 63 "PathProberModel" "status" "[I"]) : List Cond) [21, 22] rfl (by decide +kernel)) (goodIn_few (big := wsX11_trace) (fun _ h9 => List.mem_cons_of_mem _ (List.mem_append_right _ h9)) gb_0)
  exact h
set_option maxRecDepth 20000 in
theorem gX11_trace_X11_refuse : GoodIn wsX11_trace (wsV RX11 377 RX11 yX11_refuse wsX11_refuse) := goodIn_app (goodIn_r _ [18, 19, 20, 4] rfl (by decide +kernel)) ggX11_trace_X11_refuse
set_option maxRecDepth 20000 in
theorem ggX11_trace_X11_keep : GoodIn wsX11_trace wsX11_keep := by
  have h := goodIn_app (goodIn_r (big := wsX11_trace) (.code yX11_keep cX11_keep 2 none :: ([.fieldLink RX11 250 "PathProberModel" "acts" "I", .fieldLink RX11 84 "PathProberModel" "past" "[I", .fieldLink RX11 60 "PathProberModel" "now" "[I"]) : List Cond) [26, 27, 28, 29] rfl (by decide +kernel)) (goodIn_few (big := wsX11_trace) (fun _ h9 => List.mem_cons_of_mem _ (List.mem_append_right _ h9)) gb_0)
  exact h
set_option maxRecDepth 20000 in
theorem gX11_trace_X11_keep : GoodIn wsX11_trace (wsV RX11 380 RX11 yX11_keep wsX11_keep) := goodIn_app (goodIn_r _ [23, 24, 25, 4] rfl (by decide +kernel)) ggX11_trace_X11_keep
set_option maxRecDepth 20000 in
theorem ggX11_trace_X11_traceNow : GoodIn wsX11_trace wsX11_traceNow := by
  have h := goodIn_app (goodIn_r (big := wsX11_trace) (.code yX11_traceNow cX11_traceNow 5 (some .int) :: (wsX11_traceNow_r1 ++ (wsX11_traceNow_r2 ++ wsX11_traceNow_r3)) : List Cond) [33, 34, 35, 36, 37, 38, 4, 39, 29, 40, 41, 42, 43, 44, 45, 46, 47, 48, 49, 50, 51, 52, 53, 54, 55, 56, 57, 58, 59, 60, 61, 62, 63, 64, 65, 66, 67, 68, 69, 70, 71, 72, 73, 74, 75, 17, 76, 77, 78, 79, 80, 81, 82, 83, 84, 85, 86, 87, 88, 89, 90, 91, 92, 93, 94, 95, 96, 97, 98] rfl (by decide +kernel)) (goodIn_few (big := wsX11_trace) (fun _ h9 => List.mem_cons_of_mem _ (List.mem_append_right _ h9)) gb_0)
  exact h
set_option maxRecDepth 20000 in
theorem gX11_trace_X11_traceNow : GoodIn wsX11_trace (wsV RX11 392 RX11 yX11_traceNow wsX11_traceNow) := goodIn_app (goodIn_r _ [30, 31, 32, 4] rfl (by decide +kernel)) ggX11_trace_X11_traceNow
theorem eX11_trace_0q : (decode cX11_trace 0 = .ok (.aload_n 0, 1)) ∧ (decode cX11_trace 1 = .ok (.iconst 0, 1)) ∧ (decode cX11_trace 2 = .ok (.putfield 142, 3)) ∧ (decode cX11_trace 5 = .ok (.iload_n 1, 1)) ∧ (decode cX11_trace 6 = .ok (.invokestatic 368, 3)) ∧ (decode cX11_trace 9 = .ok (.ifCond .eq 11, 3)) ∧ (decode cX11_trace 12 = .ok (.aload_n 0, 1)) ∧ (decode cX11_trace 13 = .ok (.iload_n 2, 1)) := by decide +kernel
theorem dX11_trace_0 : decode cX11_trace 0 = .ok (.aload_n 0, 1) := eX11_trace_0q.1
theorem dX11_trace_1 : decode cX11_trace 1 = .ok (.iconst 0, 1) := eX11_trace_0q.2.1
theorem dX11_trace_2 : decode cX11_trace 2 = .ok (.putfield 142, 3) := eX11_trace_0q.2.2.1
theorem dX11_trace_5 : decode cX11_trace 5 = .ok (.iload_n 1, 1) := eX11_trace_0q.2.2.2.1
theorem dX11_trace_6 : decode cX11_trace 6 = .ok (.invokestatic 368, 3) := eX11_trace_0q.2.2.2.2.1
theorem dX11_trace_9 : decode cX11_trace 9 = .ok (.ifCond .eq 11, 3) := eX11_trace_0q.2.2.2.2.2.1
theorem dX11_trace_12 : decode cX11_trace 12 = .ok (.aload_n 0, 1) := eX11_trace_0q.2.2.2.2.2.2.1
theorem dX11_trace_13 : decode cX11_trace 13 = .ok (.iload_n 2, 1) := eX11_trace_0q.2.2.2.2.2.2.2
theorem eX11_trace_14q : (decode cX11_trace 14 = .ok (.invokevirtual 371, 3)) ∧ (decode cX11_trace 17 = .ok (.ifCond .ne 9, 3)) ∧ (decode cX11_trace 20 = .ok (.aload_n 0, 1)) ∧ (decode cX11_trace 21 = .ok (.iconst 1, 1)) ∧ (decode cX11_trace 22 = .ok (.invokevirtual 377, 3)) ∧ (decode cX11_trace 25 = .ok (.ireturn, 1)) ∧ (decode cX11_trace 26 = .ok (.aload_n 0, 1)) ∧ (decode cX11_trace 27 = .ok (.invokevirtual 380, 3)) := by decide +kernel
theorem dX11_trace_14 : decode cX11_trace 14 = .ok (.invokevirtual 371, 3) := eX11_trace_14q.1
theorem dX11_trace_17 : decode cX11_trace 17 = .ok (.ifCond .ne 9, 3) := eX11_trace_14q.2.1
theorem dX11_trace_20 : decode cX11_trace 20 = .ok (.aload_n 0, 1) := eX11_trace_14q.2.2.1
theorem dX11_trace_21 : decode cX11_trace 21 = .ok (.iconst 1, 1) := eX11_trace_14q.2.2.2.1
theorem dX11_trace_22 : decode cX11_trace 22 = .ok (.invokevirtual 377, 3) := eX11_trace_14q.2.2.2.2.1
theorem dX11_trace_25 : decode cX11_trace 25 = .ok (.ireturn, 1) := eX11_trace_14q.2.2.2.2.2.1
theorem dX11_trace_26 : decode cX11_trace 26 = .ok (.aload_n 0, 1) := eX11_trace_14q.2.2.2.2.2.2.1
theorem dX11_trace_27 : decode cX11_trace 27 = .ok (.invokevirtual 380, 3) := eX11_trace_14q.2.2.2.2.2.2.2
theorem eX11_trace_30q : (decode cX11_trace 30 = .ok (.aload_n 0, 1)) ∧ (decode cX11_trace 31 = .ok (.iload_n 1, 1)) ∧ (decode cX11_trace 32 = .ok (.iload_n 2, 1)) ∧ (decode cX11_trace 33 = .ok (.invokevirtual 392, 3)) ∧ (decode cX11_trace 36 = .ok (.ireturn, 1)) := by decide +kernel
theorem dX11_trace_30 : decode cX11_trace 30 = .ok (.aload_n 0, 1) := eX11_trace_30q.1
theorem dX11_trace_31 : decode cX11_trace 31 = .ok (.iload_n 1, 1) := eX11_trace_30q.2.1
theorem dX11_trace_32 : decode cX11_trace 32 = .ok (.iload_n 2, 1) := eX11_trace_30q.2.2.1
theorem dX11_trace_33 : decode cX11_trace 33 = .ok (.invokevirtual 392, 3) := eX11_trace_30q.2.2.2.1
theorem dX11_trace_36 : decode cX11_trace 36 = .ok (.ireturn, 1) := eX11_trace_30q.2.2.2.2
set_option maxRecDepth 20000 in
theorem ggX11_twins_X11_wasSeen : GoodIn wsX11_twins wsX11_wasSeen := by
  have h := goodIn_app (goodIn_r (big := wsX11_twins) (.code yX11_wasSeen cX11_wasSeen 2 (some .boolean) :: (wsX11_wasSeen_r1 ++ wsX11_wasSeen_r2) : List Cond) [6, 7, 8, 9, 5, 10, 11, 12, 13, 14, 15, 16, 17, 18, 19, 20, 21, 22, 23, 24, 25, 26, 27, 28, 29, 30, 31, 32, 33, 34, 35, 36, 37, 38, 39, 40, 41, 42] rfl (by decide +kernel)) (goodIn_few (big := wsX11_twins) (fun _ h9 => List.mem_cons_of_mem _ (List.mem_append_right _ h9)) gb_0)
  exact h
set_option maxRecDepth 20000 in
theorem gX11_twins_X11_wasSeen : GoodIn wsX11_twins (wsV RX11 383 RX11 yX11_wasSeen wsX11_wasSeen) := goodIn_app (goodIn_r _ [2, 3, 4, 5] rfl (by decide +kernel)) ggX11_twins_X11_wasSeen
set_option maxRecDepth 20000 in
theorem ggX11_twins_X11_refuse : GoodIn wsX11_twins wsX11_refuse := by
  have h := goodIn_app (goodIn_r (big := wsX11_twins) (.code yX11_refuse cX11_refuse 2 (some .int) :: ([.fieldLink RX11 63 "PathProberModel" "status" "[I"]) : List Cond) [46, 47] rfl (by decide +kernel)) (goodIn_few (big := wsX11_twins) (fun _ h9 => List.mem_cons_of_mem _ (List.mem_append_right _ h9)) gb_0)
  exact h
set_option maxRecDepth 20000 in
theorem gX11_twins_X11_refuse : GoodIn wsX11_twins (wsV RX11 377 RX11 yX11_refuse wsX11_refuse) := goodIn_app (goodIn_r _ [43, 44, 45, 5] rfl (by decide +kernel)) ggX11_twins_X11_refuse
set_option maxRecDepth 20000 in
theorem ggX11_twins_X11_keep : GoodIn wsX11_twins wsX11_keep := by
  have h := goodIn_app (goodIn_r (big := wsX11_twins) (.code yX11_keep cX11_keep 2 none :: ([.fieldLink RX11 250 "PathProberModel" "acts" "I", .fieldLink RX11 84 "PathProberModel" "past" "[I", .fieldLink RX11 60 "PathProberModel" "now" "[I"]) : List Cond) [51, 52, 53, 39] rfl (by decide +kernel)) (goodIn_few (big := wsX11_twins) (fun _ h9 => List.mem_cons_of_mem _ (List.mem_append_right _ h9)) gb_0)
  exact h
set_option maxRecDepth 20000 in
theorem gX11_twins_X11_keep : GoodIn wsX11_twins (wsV RX11 380 RX11 yX11_keep wsX11_keep) := goodIn_app (goodIn_r _ [48, 49, 50, 5] rfl (by decide +kernel)) ggX11_twins_X11_keep
set_option maxRecDepth 20000 in
theorem ggX11_twins_X11_routerOf : GoodIn wsX11_twins wsX11_routerOf := by
  have h := goodIn_app (goodIn_r (big := wsX11_twins) (.code yX11_routerOf cX11_routerOf 2 (some .int) :: ([.fieldLink RX11 56 "PathProberModel" "to" "[I"]) : List Cond) [57, 58] rfl (by decide +kernel)) (goodIn_few (big := wsX11_twins) (fun _ h9 => List.mem_cons_of_mem _ (List.mem_append_right _ h9)) gb_0)
  exact h
set_option maxRecDepth 20000 in
theorem gX11_twins_X11_routerOf : GoodIn wsX11_twins (wsV RX11 386 RX11 yX11_routerOf wsX11_routerOf) := goodIn_app (goodIn_r _ [54, 55, 56, 5] rfl (by decide +kernel)) ggX11_twins_X11_routerOf
set_option maxRecDepth 20000 in
theorem ggX11_twins_X11_answered : GoodIn wsX11_twins wsX11_answered := by
  have h := goodIn_app (goodIn_r (big := wsX11_twins) (.code yX11_answered cX11_answered 2 (some .int) :: ([.fieldLink RX11 60 "PathProberModel" "now" "[I", .fieldLink RX11 44 "PathProberModel" "pace" "[I"]) : List Cond) [62, 39, 63] rfl (by decide +kernel)) (goodIn_few (big := wsX11_twins) (fun _ h9 => List.mem_cons_of_mem _ (List.mem_append_right _ h9)) gb_0)
  exact h
set_option maxRecDepth 20000 in
theorem gX11_twins_X11_answered : GoodIn wsX11_twins (wsV RX11 344 RX11 yX11_answered wsX11_answered) := goodIn_app (goodIn_r _ [59, 60, 61, 5] rfl (by decide +kernel)) ggX11_twins_X11_answered
set_option maxRecDepth 20000 in
theorem ggX11_twins_X11_isIn : GoodIn wsX11_twins wsX11_isIn := goodIn_r _ [18] rfl (by decide +kernel)
set_option maxRecDepth 20000 in
theorem gX11_twins_X11_isIn : GoodIn wsX11_twins (va_wsS RX11 359 yX11_isIn wsX11_isIn) := goodIn_app (goodIn_r _ [16, 17, 5] rfl (by decide +kernel)) ggX11_twins_X11_isIn
theorem eX11_twins_0q : (decode cX11_twins 0 = .ok (.aload_n 0, 1)) ∧ (decode cX11_twins 1 = .ok (.iconst 0, 1)) ∧ (decode cX11_twins 2 = .ok (.putfield 142, 3)) ∧ (decode cX11_twins 5 = .ok (.aload_n 0, 1)) ∧ (decode cX11_twins 6 = .ok (.iload_n 1, 1)) ∧ (decode cX11_twins 7 = .ok (.invokevirtual 383, 3)) ∧ (decode cX11_twins 10 = .ok (.ifCond .eq 16, 3)) ∧ (decode cX11_twins 13 = .ok (.aload_n 0, 1)) := by decide +kernel
theorem dX11_twins_0 : decode cX11_twins 0 = .ok (.aload_n 0, 1) := eX11_twins_0q.1
theorem dX11_twins_1 : decode cX11_twins 1 = .ok (.iconst 0, 1) := eX11_twins_0q.2.1
theorem dX11_twins_2 : decode cX11_twins 2 = .ok (.putfield 142, 3) := eX11_twins_0q.2.2.1
theorem dX11_twins_5 : decode cX11_twins 5 = .ok (.aload_n 0, 1) := eX11_twins_0q.2.2.2.1
theorem dX11_twins_6 : decode cX11_twins 6 = .ok (.iload_n 1, 1) := eX11_twins_0q.2.2.2.2.1
theorem dX11_twins_7 : decode cX11_twins 7 = .ok (.invokevirtual 383, 3) := eX11_twins_0q.2.2.2.2.2.1
theorem dX11_twins_10 : decode cX11_twins 10 = .ok (.ifCond .eq 16, 3) := eX11_twins_0q.2.2.2.2.2.2.1
theorem dX11_twins_13 : decode cX11_twins 13 = .ok (.aload_n 0, 1) := eX11_twins_0q.2.2.2.2.2.2.2
theorem eX11_twins_14q : (decode cX11_twins 14 = .ok (.iload_n 2, 1)) ∧ (decode cX11_twins 15 = .ok (.invokevirtual 383, 3)) ∧ (decode cX11_twins 18 = .ok (.ifCond .eq 8, 3)) ∧ (decode cX11_twins 21 = .ok (.iload_n 1, 1)) ∧ (decode cX11_twins 22 = .ok (.iload_n 2, 1)) ∧ (decode cX11_twins 23 = .ok (.if_icmp .ne 9, 3)) ∧ (decode cX11_twins 26 = .ok (.aload_n 0, 1)) ∧ (decode cX11_twins 27 = .ok (.iconst 1, 1)) := by decide +kernel
theorem dX11_twins_14 : decode cX11_twins 14 = .ok (.iload_n 2, 1) := eX11_twins_14q.1
theorem dX11_twins_15 : decode cX11_twins 15 = .ok (.invokevirtual 383, 3) := eX11_twins_14q.2.1
theorem dX11_twins_18 : decode cX11_twins 18 = .ok (.ifCond .eq 8, 3) := eX11_twins_14q.2.2.1
theorem dX11_twins_21 : decode cX11_twins 21 = .ok (.iload_n 1, 1) := eX11_twins_14q.2.2.2.1
theorem dX11_twins_22 : decode cX11_twins 22 = .ok (.iload_n 2, 1) := eX11_twins_14q.2.2.2.2.1
theorem dX11_twins_23 : decode cX11_twins 23 = .ok (.if_icmp .ne 9, 3) := eX11_twins_14q.2.2.2.2.2.1
theorem dX11_twins_26 : decode cX11_twins 26 = .ok (.aload_n 0, 1) := eX11_twins_14q.2.2.2.2.2.2.1
theorem dX11_twins_27 : decode cX11_twins 27 = .ok (.iconst 1, 1) := eX11_twins_14q.2.2.2.2.2.2.2
theorem eX11_twins_28q : (decode cX11_twins 28 = .ok (.invokevirtual 377, 3)) ∧ (decode cX11_twins 31 = .ok (.ireturn, 1)) ∧ (decode cX11_twins 32 = .ok (.aload_n 0, 1)) ∧ (decode cX11_twins 33 = .ok (.invokevirtual 380, 3)) ∧ (decode cX11_twins 36 = .ok (.iconst 1, 1)) ∧ (decode cX11_twins 37 = .ok (.istore_n 3, 1)) ∧ (decode cX11_twins 38 = .ok (.iconst (-1), 1)) ∧ (decode cX11_twins 39 = .ok (.istore 4, 2)) := by decide +kernel
theorem dX11_twins_28 : decode cX11_twins 28 = .ok (.invokevirtual 377, 3) := eX11_twins_28q.1
theorem dX11_twins_31 : decode cX11_twins 31 = .ok (.ireturn, 1) := eX11_twins_28q.2.1
theorem dX11_twins_32 : decode cX11_twins 32 = .ok (.aload_n 0, 1) := eX11_twins_28q.2.2.1
theorem dX11_twins_33 : decode cX11_twins 33 = .ok (.invokevirtual 380, 3) := eX11_twins_28q.2.2.2.1
theorem dX11_twins_36 : decode cX11_twins 36 = .ok (.iconst 1, 1) := eX11_twins_28q.2.2.2.2.1
theorem dX11_twins_37 : decode cX11_twins 37 = .ok (.istore_n 3, 1) := eX11_twins_28q.2.2.2.2.2.1
theorem dX11_twins_38 : decode cX11_twins 38 = .ok (.iconst (-1), 1) := eX11_twins_28q.2.2.2.2.2.2.1
theorem dX11_twins_39 : decode cX11_twins 39 = .ok (.istore 4, 2) := eX11_twins_28q.2.2.2.2.2.2.2
theorem eX11_twins_41q : (decode cX11_twins 41 = .ok (.iconst 0, 1)) ∧ (decode cX11_twins 42 = .ok (.istore 5, 2)) ∧ (decode cX11_twins 44 = .ok (.iload 5, 2)) ∧ (decode cX11_twins 46 = .ok (.bipush 6, 2)) ∧ (decode cX11_twins 48 = .ok (.if_icmp .ge 76, 3)) ∧ (decode cX11_twins 51 = .ok (.aload_n 0, 1)) ∧ (decode cX11_twins 52 = .ok (.aload_n 0, 1)) ∧ (decode cX11_twins 53 = .ok (.iload 5, 2)) := by decide +kernel
theorem dX11_twins_41 : decode cX11_twins 41 = .ok (.iconst 0, 1) := eX11_twins_41q.1
theorem dX11_twins_42 : decode cX11_twins 42 = .ok (.istore 5, 2) := eX11_twins_41q.2.1
theorem dX11_twins_44 : decode cX11_twins 44 = .ok (.iload 5, 2) := eX11_twins_41q.2.2.1
theorem dX11_twins_46 : decode cX11_twins 46 = .ok (.bipush 6, 2) := eX11_twins_41q.2.2.2.1
theorem dX11_twins_48 : decode cX11_twins 48 = .ok (.if_icmp .ge 76, 3) := eX11_twins_41q.2.2.2.2.1
theorem dX11_twins_51 : decode cX11_twins 51 = .ok (.aload_n 0, 1) := eX11_twins_41q.2.2.2.2.2.1
theorem dX11_twins_52 : decode cX11_twins 52 = .ok (.aload_n 0, 1) := eX11_twins_41q.2.2.2.2.2.2.1
theorem dX11_twins_53 : decode cX11_twins 53 = .ok (.iload 5, 2) := eX11_twins_41q.2.2.2.2.2.2.2
theorem eX11_twins_55q : (decode cX11_twins 55 = .ok (.iconst 2, 1)) ∧ (decode cX11_twins 56 = .ok (.irem, 1)) ∧ (decode cX11_twins 57 = .ok (.ifCond .ne 7, 3)) ∧ (decode cX11_twins 60 = .ok (.iload_n 1, 1)) ∧ (decode cX11_twins 61 = .ok (.goto 4, 3)) ∧ (decode cX11_twins 64 = .ok (.iload_n 2, 1)) ∧ (decode cX11_twins 65 = .ok (.invokevirtual 386, 3)) ∧ (decode cX11_twins 68 = .ok (.invokevirtual 344, 3)) := by decide +kernel
theorem dX11_twins_55 : decode cX11_twins 55 = .ok (.iconst 2, 1) := eX11_twins_55q.1
theorem dX11_twins_56 : decode cX11_twins 56 = .ok (.irem, 1) := eX11_twins_55q.2.1
theorem dX11_twins_57 : decode cX11_twins 57 = .ok (.ifCond .ne 7, 3) := eX11_twins_55q.2.2.1
theorem dX11_twins_60 : decode cX11_twins 60 = .ok (.iload_n 1, 1) := eX11_twins_55q.2.2.2.1
theorem dX11_twins_61 : decode cX11_twins 61 = .ok (.goto 4, 3) := eX11_twins_55q.2.2.2.2.1
theorem dX11_twins_64 : decode cX11_twins 64 = .ok (.iload_n 2, 1) := eX11_twins_55q.2.2.2.2.2.1
theorem dX11_twins_65 : decode cX11_twins 65 = .ok (.invokevirtual 386, 3) := eX11_twins_55q.2.2.2.2.2.2.1
theorem dX11_twins_68 : decode cX11_twins 68 = .ok (.invokevirtual 344, 3) := eX11_twins_55q.2.2.2.2.2.2.2
theorem eX11_twins_71q : (decode cX11_twins 71 = .ok (.istore 6, 2)) ∧ (decode cX11_twins 73 = .ok (.iload 6, 2)) ∧ (decode cX11_twins 75 = .ok (.iload 4, 2)) ∧ (decode cX11_twins 77 = .ok (.isub, 1)) ∧ (decode cX11_twins 78 = .ok (.sipush 256, 3)) ∧ (decode cX11_twins 81 = .ok (.iadd, 1)) ∧ (decode cX11_twins 82 = .ok (.sipush 256, 3)) ∧ (decode cX11_twins 85 = .ok (.irem, 1)) := by decide +kernel
theorem dX11_twins_71 : decode cX11_twins 71 = .ok (.istore 6, 2) := eX11_twins_71q.1
theorem dX11_twins_73 : decode cX11_twins 73 = .ok (.iload 6, 2) := eX11_twins_71q.2.1
theorem dX11_twins_75 : decode cX11_twins 75 = .ok (.iload 4, 2) := eX11_twins_71q.2.2.1
theorem dX11_twins_77 : decode cX11_twins 77 = .ok (.isub, 1) := eX11_twins_71q.2.2.2.1
theorem dX11_twins_78 : decode cX11_twins 78 = .ok (.sipush 256, 3) := eX11_twins_71q.2.2.2.2.1
theorem dX11_twins_81 : decode cX11_twins 81 = .ok (.iadd, 1) := eX11_twins_71q.2.2.2.2.2.1
theorem dX11_twins_82 : decode cX11_twins 82 = .ok (.sipush 256, 3) := eX11_twins_71q.2.2.2.2.2.2.1
theorem dX11_twins_85 : decode cX11_twins 85 = .ok (.irem, 1) := eX11_twins_71q.2.2.2.2.2.2.2
theorem eX11_twins_86q : (decode cX11_twins 86 = .ok (.istore 7, 2)) ∧ (decode cX11_twins 88 = .ok (.iload_n 3, 1)) ∧ (decode cX11_twins 89 = .ok (.ifCond .eq 23, 3)) ∧ (decode cX11_twins 92 = .ok (.iload 5, 2)) ∧ (decode cX11_twins 94 = .ok (.ifCond .eq 14, 3)) ∧ (decode cX11_twins 97 = .ok (.iload 7, 2)) ∧ (decode cX11_twins 99 = .ok (.iconst 1, 1)) ∧ (decode cX11_twins 100 = .ok (.bipush 120, 2)) := by decide +kernel
theorem dX11_twins_86 : decode cX11_twins 86 = .ok (.istore 7, 2) := eX11_twins_86q.1
theorem dX11_twins_88 : decode cX11_twins 88 = .ok (.iload_n 3, 1) := eX11_twins_86q.2.1
theorem dX11_twins_89 : decode cX11_twins 89 = .ok (.ifCond .eq 23, 3) := eX11_twins_86q.2.2.1
theorem dX11_twins_92 : decode cX11_twins 92 = .ok (.iload 5, 2) := eX11_twins_86q.2.2.2.1
theorem dX11_twins_94 : decode cX11_twins 94 = .ok (.ifCond .eq 14, 3) := eX11_twins_86q.2.2.2.2.1
theorem dX11_twins_97 : decode cX11_twins 97 = .ok (.iload 7, 2) := eX11_twins_86q.2.2.2.2.2.1
theorem dX11_twins_99 : decode cX11_twins 99 = .ok (.iconst 1, 1) := eX11_twins_86q.2.2.2.2.2.2.1
theorem dX11_twins_100 : decode cX11_twins 100 = .ok (.bipush 120, 2) := eX11_twins_86q.2.2.2.2.2.2.2
theorem eX11_twins_102q : (decode cX11_twins 102 = .ok (.invokestatic 359, 3)) ∧ (decode cX11_twins 105 = .ok (.ifCond .eq 7, 3)) ∧ (decode cX11_twins 108 = .ok (.iconst 1, 1)) ∧ (decode cX11_twins 109 = .ok (.goto 4, 3)) ∧ (decode cX11_twins 112 = .ok (.iconst 0, 1)) ∧ (decode cX11_twins 113 = .ok (.istore_n 3, 1)) ∧ (decode cX11_twins 114 = .ok (.iload 6, 2)) ∧ (decode cX11_twins 116 = .ok (.istore 4, 2)) := by decide +kernel
theorem dX11_twins_102 : decode cX11_twins 102 = .ok (.invokestatic 359, 3) := eX11_twins_102q.1
theorem dX11_twins_105 : decode cX11_twins 105 = .ok (.ifCond .eq 7, 3) := eX11_twins_102q.2.1
theorem dX11_twins_108 : decode cX11_twins 108 = .ok (.iconst 1, 1) := eX11_twins_102q.2.2.1
theorem dX11_twins_109 : decode cX11_twins 109 = .ok (.goto 4, 3) := eX11_twins_102q.2.2.2.1
theorem dX11_twins_112 : decode cX11_twins 112 = .ok (.iconst 0, 1) := eX11_twins_102q.2.2.2.2.1
theorem dX11_twins_113 : decode cX11_twins 113 = .ok (.istore_n 3, 1) := eX11_twins_102q.2.2.2.2.2.1
theorem dX11_twins_114 : decode cX11_twins 114 = .ok (.iload 6, 2) := eX11_twins_102q.2.2.2.2.2.2.1
theorem dX11_twins_116 : decode cX11_twins 116 = .ok (.istore 4, 2) := eX11_twins_102q.2.2.2.2.2.2.2
theorem eX11_twins_118q : (decode cX11_twins 118 = .ok (.iinc 5 1, 3)) ∧ (decode cX11_twins 121 = .ok (.goto (-77), 3)) ∧ (decode cX11_twins 124 = .ok (.iload_n 3, 1)) ∧ (decode cX11_twins 125 = .ok (.ifCond .eq 7, 3)) ∧ (decode cX11_twins 128 = .ok (.iconst 1, 1)) ∧ (decode cX11_twins 129 = .ok (.goto 4, 3)) ∧ (decode cX11_twins 132 = .ok (.iconst 0, 1)) ∧ (decode cX11_twins 133 = .ok (.ireturn, 1)) := by decide +kernel
theorem dX11_twins_118 : decode cX11_twins 118 = .ok (.iinc 5 1, 3) := eX11_twins_118q.1
theorem dX11_twins_121 : decode cX11_twins 121 = .ok (.goto (-77), 3) := eX11_twins_118q.2.1
theorem dX11_twins_124 : decode cX11_twins 124 = .ok (.iload_n 3, 1) := eX11_twins_118q.2.2.1
theorem dX11_twins_125 : decode cX11_twins 125 = .ok (.ifCond .eq 7, 3) := eX11_twins_118q.2.2.2.1
theorem dX11_twins_128 : decode cX11_twins 128 = .ok (.iconst 1, 1) := eX11_twins_118q.2.2.2.2.1
theorem dX11_twins_129 : decode cX11_twins 129 = .ok (.goto 4, 3) := eX11_twins_118q.2.2.2.2.2.1
theorem dX11_twins_132 : decode cX11_twins 132 = .ok (.iconst 0, 1) := eX11_twins_118q.2.2.2.2.2.2.1
theorem dX11_twins_133 : decode cX11_twins 133 = .ok (.ireturn, 1) := eX11_twins_118q.2.2.2.2.2.2.2
set_option maxRecDepth 20000 in
theorem ggX11_loss_X11_isIn : GoodIn wsX11_loss wsX11_isIn := goodIn_r _ [6] rfl (by decide +kernel)
set_option maxRecDepth 20000 in
theorem gX11_loss_X11_isIn : GoodIn wsX11_loss (va_wsS RX11 359 yX11_isIn wsX11_isIn) := goodIn_app (goodIn_r _ [3, 4, 5] rfl (by decide +kernel)) ggX11_loss_X11_isIn
set_option maxRecDepth 20000 in
theorem ggX11_loss_X11_refuse : GoodIn wsX11_loss wsX11_refuse := by
  have h := goodIn_app (goodIn_r (big := wsX11_loss) (.code yX11_refuse cX11_refuse 2 (some .int) :: ([.fieldLink RX11 63 "PathProberModel" "status" "[I"]) : List Cond) [10, 11] rfl (by decide +kernel)) (goodIn_few (big := wsX11_loss) (fun _ h9 => List.mem_cons_of_mem _ (List.mem_append_right _ h9)) gb_0)
  exact h
set_option maxRecDepth 20000 in
theorem gX11_loss_X11_refuse : GoodIn wsX11_loss (wsV RX11 377 RX11 yX11_refuse wsX11_refuse) := goodIn_app (goodIn_r _ [7, 8, 9, 5] rfl (by decide +kernel)) ggX11_loss_X11_refuse
set_option maxRecDepth 20000 in
theorem ggX11_loss_X11_keep : GoodIn wsX11_loss wsX11_keep := by
  have h := goodIn_app (goodIn_r (big := wsX11_loss) (.code yX11_keep cX11_keep 2 none :: ([.fieldLink RX11 250 "PathProberModel" "acts" "I", .fieldLink RX11 84 "PathProberModel" "past" "[I", .fieldLink RX11 60 "PathProberModel" "now" "[I"]) : List Cond) [15, 16, 17, 2] rfl (by decide +kernel)) (goodIn_few (big := wsX11_loss) (fun _ h9 => List.mem_cons_of_mem _ (List.mem_append_right _ h9)) gb_0)
  exact h
set_option maxRecDepth 20000 in
theorem gX11_loss_X11_keep : GoodIn wsX11_loss (wsV RX11 380 RX11 yX11_keep wsX11_keep) := goodIn_app (goodIn_r _ [12, 13, 14, 5] rfl (by decide +kernel)) ggX11_loss_X11_keep
theorem eX11_loss_0q : (decode cX11_loss 0 = .ok (.aload_n 0, 1)) ∧ (decode cX11_loss 1 = .ok (.iconst 0, 1)) ∧ (decode cX11_loss 2 = .ok (.putfield 142, 3)) ∧ (decode cX11_loss 5 = .ok (.iload_n 1, 1)) ∧ (decode cX11_loss 6 = .ok (.iconst 1, 1)) ∧ (decode cX11_loss 7 = .ok (.bipush 50, 2)) ∧ (decode cX11_loss 9 = .ok (.invokestatic 359, 3)) ∧ (decode cX11_loss 12 = .ok (.ifCond .ne 9, 3)) := by decide +kernel
theorem dX11_loss_0 : decode cX11_loss 0 = .ok (.aload_n 0, 1) := eX11_loss_0q.1
theorem dX11_loss_1 : decode cX11_loss 1 = .ok (.iconst 0, 1) := eX11_loss_0q.2.1
theorem dX11_loss_2 : decode cX11_loss 2 = .ok (.putfield 142, 3) := eX11_loss_0q.2.2.1
theorem dX11_loss_5 : decode cX11_loss 5 = .ok (.iload_n 1, 1) := eX11_loss_0q.2.2.2.1
theorem dX11_loss_6 : decode cX11_loss 6 = .ok (.iconst 1, 1) := eX11_loss_0q.2.2.2.2.1
theorem dX11_loss_7 : decode cX11_loss 7 = .ok (.bipush 50, 2) := eX11_loss_0q.2.2.2.2.2.1
theorem dX11_loss_9 : decode cX11_loss 9 = .ok (.invokestatic 359, 3) := eX11_loss_0q.2.2.2.2.2.2.1
theorem dX11_loss_12 : decode cX11_loss 12 = .ok (.ifCond .ne 9, 3) := eX11_loss_0q.2.2.2.2.2.2.2
theorem eX11_loss_15q : (decode cX11_loss 15 = .ok (.aload_n 0, 1)) ∧ (decode cX11_loss 16 = .ok (.iconst 1, 1)) ∧ (decode cX11_loss 17 = .ok (.invokevirtual 377, 3)) ∧ (decode cX11_loss 20 = .ok (.ireturn, 1)) ∧ (decode cX11_loss 21 = .ok (.aload_n 0, 1)) ∧ (decode cX11_loss 22 = .ok (.invokevirtual 380, 3)) ∧ (decode cX11_loss 25 = .ok (.aload_n 0, 1)) ∧ (decode cX11_loss 26 = .ok (.getfield 60, 3)) := by decide +kernel
theorem dX11_loss_15 : decode cX11_loss 15 = .ok (.aload_n 0, 1) := eX11_loss_15q.1
theorem dX11_loss_16 : decode cX11_loss 16 = .ok (.iconst 1, 1) := eX11_loss_15q.2.1
theorem dX11_loss_17 : decode cX11_loss 17 = .ok (.invokevirtual 377, 3) := eX11_loss_15q.2.2.1
theorem dX11_loss_20 : decode cX11_loss 20 = .ok (.ireturn, 1) := eX11_loss_15q.2.2.2.1
theorem dX11_loss_21 : decode cX11_loss 21 = .ok (.aload_n 0, 1) := eX11_loss_15q.2.2.2.2.1
theorem dX11_loss_22 : decode cX11_loss 22 = .ok (.invokevirtual 380, 3) := eX11_loss_15q.2.2.2.2.2.1
theorem dX11_loss_25 : decode cX11_loss 25 = .ok (.aload_n 0, 1) := eX11_loss_15q.2.2.2.2.2.2.1
theorem dX11_loss_26 : decode cX11_loss 26 = .ok (.getfield 60, 3) := eX11_loss_15q.2.2.2.2.2.2.2
theorem eX11_loss_29q : (decode cX11_loss 29 = .ok (.bipush 54, 2)) ∧ (decode cX11_loss 31 = .ok (.iaload, 1)) ∧ (decode cX11_loss 32 = .ok (.istore_n 2, 1)) ∧ (decode cX11_loss 33 = .ok (.aload_n 0, 1)) ∧ (decode cX11_loss 34 = .ok (.getfield 60, 3)) ∧ (decode cX11_loss 37 = .ok (.bipush 54, 2)) ∧ (decode cX11_loss 39 = .ok (.iload_n 1, 1)) ∧ (decode cX11_loss 40 = .ok (.iastore, 1)) := by decide +kernel
theorem dX11_loss_29 : decode cX11_loss 29 = .ok (.bipush 54, 2) := eX11_loss_29q.1
theorem dX11_loss_31 : decode cX11_loss 31 = .ok (.iaload, 1) := eX11_loss_29q.2.1
theorem dX11_loss_32 : decode cX11_loss 32 = .ok (.istore_n 2, 1) := eX11_loss_29q.2.2.1
theorem dX11_loss_33 : decode cX11_loss 33 = .ok (.aload_n 0, 1) := eX11_loss_29q.2.2.2.1
theorem dX11_loss_34 : decode cX11_loss 34 = .ok (.getfield 60, 3) := eX11_loss_29q.2.2.2.2.1
theorem dX11_loss_37 : decode cX11_loss 37 = .ok (.bipush 54, 2) := eX11_loss_29q.2.2.2.2.2.1
theorem dX11_loss_39 : decode cX11_loss 39 = .ok (.iload_n 1, 1) := eX11_loss_29q.2.2.2.2.2.2.1
theorem dX11_loss_40 : decode cX11_loss 40 = .ok (.iastore, 1) := eX11_loss_29q.2.2.2.2.2.2.2
theorem dX11_loss_41 : decode cX11_loss 41 = .ok (.iload_n 2, 1) := by decide +kernel
theorem dX11_loss_42 : decode cX11_loss 42 = .ok (.ireturn, 1) := by decide +kernel
set_option maxRecDepth 20000 in
theorem ggX11_count_X11_enough : GoodIn wsX11_count wsX11_enough := by
  have h := goodIn_app (goodIn_r (big := wsX11_count) (.code yX11_enough cX11_enough 3 (some .int) :: ([.fieldLink RX11 60 "PathProberModel" "now" "[I", .constantLong RX11 326 (10000000000), .methodLink RX11 322 yX11_missingOf, .instanceMethod yX11_missingOf, .selects RX11 yX11_missingOf yX11_missingOf, .initialized RX11, .code yX11_missingOf cX11_missingOf 7 (some .long), .fieldLink RX11 79 "PathProberModel" "met" "[J", .constantLong RX11 320 (1000000000000)]) : List Cond) [12, 3, 13, 14, 15, 16, 11, 17, 18, 19] rfl (by decide +kernel)) (goodIn_few (big := wsX11_count) (fun _ h9 => List.mem_cons_of_mem _ (List.mem_append_right _ h9)) gb_0)
  exact h
set_option maxRecDepth 20000 in
theorem gX11_count_X11_enough : GoodIn wsX11_count (wsV RX11 356 RX11 yX11_enough wsX11_enough) := goodIn_app (goodIn_r _ [8, 9, 10, 11] rfl (by decide +kernel)) ggX11_count_X11_enough
set_option maxRecDepth 20000 in
theorem ggX11_count_X11_allSeen : GoodIn wsX11_count wsX11_allSeen := by
  have h := goodIn_app (goodIn_r (big := wsX11_count) (.code yX11_allSeen cX11_allSeen 4 (some .int) :: ([.methodLink RX11 304 yX11_goals, .instanceMethod yX11_goals, .selects RX11 yX11_goals yX11_goals, .initialized RX11, .code yX11_goals cX11_goals 1 (some .int), .fieldLink RX11 34 "PathProberModel" "told" "[I", .methodLink RX11 307 yX11_addresses, .instanceMethod yX11_addresses, .selects RX11 yX11_addresses yX11_addresses, .code yX11_addresses cX11_addresses 5 (some .int), .methodLink RX11 301 yX11_seenBy, .instanceMethod yX11_seenBy, .selects RX11 yX11_seenBy yX11_seenBy, .code yX11_seenBy cX11_seenBy 4 (some .int), .fieldLink RX11 60 "PathProberModel" "now" "[I", .methodLink RX11 298 yX11_seenAt, .static yX11_seenAt, .code yX11_seenAt cX11_seenAt 3 (some .int)]) : List Cond) [23, 24, 25, 26, 11, 27, 2, 28, 29, 30, 31, 32, 33, 34, 35, 3, 36, 37, 38] rfl (by decide +kernel)) (goodIn_few (big := wsX11_count) (fun _ h9 => List.mem_cons_of_mem _ (List.mem_append_right _ h9)) gb_0)
  exact h
set_option maxRecDepth 20000 in
theorem gX11_count_X11_allSeen : GoodIn wsX11_count (wsV RX11 365 RX11 yX11_allSeen wsX11_allSeen) := goodIn_app (goodIn_r _ [20, 21, 22, 11] rfl (by decide +kernel)) ggX11_count_X11_allSeen
set_option maxRecDepth 20000 in
theorem ggX11_count_X11_sentAll : GoodIn wsX11_count wsX11_sentAll := by
  have h := goodIn_app (goodIn_r (big := wsX11_count) (.code yX11_sentAll cX11_sentAll 3 (some .int) :: ([.fieldLink RX11 60 "PathProberModel" "now" "[I"]) : List Cond) [42, 3] rfl (by decide +kernel)) (goodIn_few (big := wsX11_count) (fun _ h9 => List.mem_cons_of_mem _ (List.mem_append_right _ h9)) gb_0)
  exact h
set_option maxRecDepth 20000 in
theorem gX11_count_X11_sentAll : GoodIn wsX11_count (wsV RX11 395 RX11 yX11_sentAll wsX11_sentAll) := goodIn_app (goodIn_r _ [39, 40, 41, 11] rfl (by decide +kernel)) ggX11_count_X11_sentAll
set_option maxRecDepth 20000 in
theorem ggX11_count_X11_fail : GoodIn wsX11_count wsX11_fail := by
  have h := goodIn_app (goodIn_r (big := wsX11_count) (.code yX11_fail cX11_fail 2 (some .int) :: ([.fieldLink RX11 142 "PathProberModel" "code" "I"]) : List Cond) [46, 1] rfl (by decide +kernel)) (goodIn_few (big := wsX11_count) (fun _ h9 => List.mem_cons_of_mem _ (List.mem_append_right _ h9)) gb_0)
  exact h
set_option maxRecDepth 20000 in
theorem gX11_count_X11_fail : GoodIn wsX11_count (wsV RX11 240 RX11 yX11_fail wsX11_fail) := goodIn_app (goodIn_r _ [43, 44, 45, 11] rfl (by decide +kernel)) ggX11_count_X11_fail
theorem eX11_count_0q : (decode cX11_count 0 = .ok (.aload_n 0, 1)) ∧ (decode cX11_count 1 = .ok (.iconst 0, 1)) ∧ (decode cX11_count 2 = .ok (.putfield 142, 3)) ∧ (decode cX11_count 5 = .ok (.iload_n 1, 1)) ∧ (decode cX11_count 6 = .ok (.tableswitch 190 0 20 #[98, 98, 98, 105, 113, 113, 113, 113, 121, 126, 131, 136, 141, 146, 146, 146, 156, 164, 166, 174, 182], 98)) ∧ (decode cX11_count 104 = .ok (.aload_n 0, 1)) ∧ (decode cX11_count 105 = .ok (.getfield 34, 3)) ∧ (decode cX11_count 108 = .ok (.iload_n 1, 1)) := by decide +kernel
theorem dX11_count_0 : decode cX11_count 0 = .ok (.aload_n 0, 1) := eX11_count_0q.1
theorem dX11_count_1 : decode cX11_count 1 = .ok (.iconst 0, 1) := eX11_count_0q.2.1
theorem dX11_count_2 : decode cX11_count 2 = .ok (.putfield 142, 3) := eX11_count_0q.2.2.1
theorem dX11_count_5 : decode cX11_count 5 = .ok (.iload_n 1, 1) := eX11_count_0q.2.2.2.1
theorem dX11_count_6 : decode cX11_count 6 = .ok (.tableswitch 190 0 20 #[98, 98, 98, 105, 113, 113, 113, 113, 121, 126, 131, 136, 141, 146, 146, 146, 156, 164, 166, 174, 182], 98) := eX11_count_0q.2.2.2.2.1
theorem dX11_count_104 : decode cX11_count 104 = .ok (.aload_n 0, 1) := eX11_count_0q.2.2.2.2.2.1
theorem dX11_count_105 : decode cX11_count 105 = .ok (.getfield 34, 3) := eX11_count_0q.2.2.2.2.2.2.1
theorem dX11_count_108 : decode cX11_count 108 = .ok (.iload_n 1, 1) := eX11_count_0q.2.2.2.2.2.2.2
theorem eX11_count_109q : (decode cX11_count 109 = .ok (.iaload, 1)) ∧ (decode cX11_count 110 = .ok (.ireturn, 1)) ∧ (decode cX11_count 111 = .ok (.aload_n 0, 1)) ∧ (decode cX11_count 112 = .ok (.getfield 60, 3)) ∧ (decode cX11_count 115 = .ok (.bipush 54, 2)) ∧ (decode cX11_count 117 = .ok (.iaload, 1)) ∧ (decode cX11_count 118 = .ok (.ireturn, 1)) ∧ (decode cX11_count 119 = .ok (.aload_n 0, 1)) := by decide +kernel
theorem dX11_count_109 : decode cX11_count 109 = .ok (.iaload, 1) := eX11_count_109q.1
theorem dX11_count_110 : decode cX11_count 110 = .ok (.ireturn, 1) := eX11_count_109q.2.1
theorem dX11_count_111 : decode cX11_count 111 = .ok (.aload_n 0, 1) := eX11_count_109q.2.2.1
theorem dX11_count_112 : decode cX11_count 112 = .ok (.getfield 60, 3) := eX11_count_109q.2.2.2.1
theorem dX11_count_115 : decode cX11_count 115 = .ok (.bipush 54, 2) := eX11_count_109q.2.2.2.2.1
theorem dX11_count_117 : decode cX11_count 117 = .ok (.iaload, 1) := eX11_count_109q.2.2.2.2.2.1
theorem dX11_count_118 : decode cX11_count 118 = .ok (.ireturn, 1) := eX11_count_109q.2.2.2.2.2.2.1
theorem dX11_count_119 : decode cX11_count 119 = .ok (.aload_n 0, 1) := eX11_count_109q.2.2.2.2.2.2.2
theorem eX11_count_120q : (decode cX11_count 120 = .ok (.iload_n 1, 1)) ∧ (decode cX11_count 121 = .ok (.iconst 3, 1)) ∧ (decode cX11_count 122 = .ok (.isub, 1)) ∧ (decode cX11_count 123 = .ok (.invokevirtual 356, 3)) ∧ (decode cX11_count 126 = .ok (.ireturn, 1)) ∧ (decode cX11_count 127 = .ok (.aload_n 0, 1)) ∧ (decode cX11_count 128 = .ok (.invokevirtual 365, 3)) ∧ (decode cX11_count 131 = .ok (.ireturn, 1)) := by decide +kernel
theorem dX11_count_120 : decode cX11_count 120 = .ok (.iload_n 1, 1) := eX11_count_120q.1
theorem dX11_count_121 : decode cX11_count 121 = .ok (.iconst 3, 1) := eX11_count_120q.2.1
theorem dX11_count_122 : decode cX11_count 122 = .ok (.isub, 1) := eX11_count_120q.2.2.1
theorem dX11_count_123 : decode cX11_count 123 = .ok (.invokevirtual 356, 3) := eX11_count_120q.2.2.2.1
theorem dX11_count_126 : decode cX11_count 126 = .ok (.ireturn, 1) := eX11_count_120q.2.2.2.2.1
theorem dX11_count_127 : decode cX11_count 127 = .ok (.aload_n 0, 1) := eX11_count_120q.2.2.2.2.2.1
theorem dX11_count_128 : decode cX11_count 128 = .ok (.invokevirtual 365, 3) := eX11_count_120q.2.2.2.2.2.2.1
theorem dX11_count_131 : decode cX11_count 131 = .ok (.ireturn, 1) := eX11_count_120q.2.2.2.2.2.2.2
theorem eX11_count_132q : (decode cX11_count 132 = .ok (.aload_n 0, 1)) ∧ (decode cX11_count 133 = .ok (.invokevirtual 395, 3)) ∧ (decode cX11_count 136 = .ok (.ireturn, 1)) ∧ (decode cX11_count 137 = .ok (.aload_n 0, 1)) ∧ (decode cX11_count 138 = .ok (.getfield 250, 3)) ∧ (decode cX11_count 141 = .ok (.ireturn, 1)) ∧ (decode cX11_count 142 = .ok (.aload_n 0, 1)) ∧ (decode cX11_count 143 = .ok (.getfield 253, 3)) := by decide +kernel
theorem dX11_count_132 : decode cX11_count 132 = .ok (.aload_n 0, 1) := eX11_count_132q.1
theorem dX11_count_133 : decode cX11_count 133 = .ok (.invokevirtual 395, 3) := eX11_count_132q.2.1
theorem dX11_count_136 : decode cX11_count 136 = .ok (.ireturn, 1) := eX11_count_132q.2.2.1
theorem dX11_count_137 : decode cX11_count 137 = .ok (.aload_n 0, 1) := eX11_count_132q.2.2.2.1
theorem dX11_count_138 : decode cX11_count 138 = .ok (.getfield 250, 3) := eX11_count_132q.2.2.2.2.1
theorem dX11_count_141 : decode cX11_count 141 = .ok (.ireturn, 1) := eX11_count_132q.2.2.2.2.2.1
theorem dX11_count_142 : decode cX11_count 142 = .ok (.aload_n 0, 1) := eX11_count_132q.2.2.2.2.2.2.1
theorem dX11_count_143 : decode cX11_count 143 = .ok (.getfield 253, 3) := eX11_count_132q.2.2.2.2.2.2.2
theorem eX11_count_146q : (decode cX11_count 146 = .ok (.ireturn, 1)) ∧ (decode cX11_count 147 = .ok (.aload_n 0, 1)) ∧ (decode cX11_count 148 = .ok (.getfield 145, 3)) ∧ (decode cX11_count 151 = .ok (.ireturn, 1)) ∧ (decode cX11_count 152 = .ok (.aload_n 0, 1)) ∧ (decode cX11_count 153 = .ok (.getfield 63, 3)) ∧ (decode cX11_count 156 = .ok (.iload_n 1, 1)) ∧ (decode cX11_count 157 = .ok (.bipush 13, 2)) := by decide +kernel
theorem dX11_count_146 : decode cX11_count 146 = .ok (.ireturn, 1) := eX11_count_146q.1
theorem dX11_count_147 : decode cX11_count 147 = .ok (.aload_n 0, 1) := eX11_count_146q.2.1
theorem dX11_count_148 : decode cX11_count 148 = .ok (.getfield 145, 3) := eX11_count_146q.2.2.1
theorem dX11_count_151 : decode cX11_count 151 = .ok (.ireturn, 1) := eX11_count_146q.2.2.2.1
theorem dX11_count_152 : decode cX11_count 152 = .ok (.aload_n 0, 1) := eX11_count_146q.2.2.2.2.1
theorem dX11_count_153 : decode cX11_count 153 = .ok (.getfield 63, 3) := eX11_count_146q.2.2.2.2.2.1
theorem dX11_count_156 : decode cX11_count 156 = .ok (.iload_n 1, 1) := eX11_count_146q.2.2.2.2.2.2.1
theorem dX11_count_157 : decode cX11_count 157 = .ok (.bipush 13, 2) := eX11_count_146q.2.2.2.2.2.2.2
theorem eX11_count_159q : (decode cX11_count 159 = .ok (.isub, 1)) ∧ (decode cX11_count 160 = .ok (.iaload, 1)) ∧ (decode cX11_count 161 = .ok (.ireturn, 1)) ∧ (decode cX11_count 162 = .ok (.aload_n 0, 1)) ∧ (decode cX11_count 163 = .ok (.getfield 60, 3)) ∧ (decode cX11_count 166 = .ok (.bipush 55, 2)) ∧ (decode cX11_count 168 = .ok (.iaload, 1)) ∧ (decode cX11_count 169 = .ok (.ireturn, 1)) := by decide +kernel
theorem dX11_count_159 : decode cX11_count 159 = .ok (.isub, 1) := eX11_count_159q.1
theorem dX11_count_160 : decode cX11_count 160 = .ok (.iaload, 1) := eX11_count_159q.2.1
theorem dX11_count_161 : decode cX11_count 161 = .ok (.ireturn, 1) := eX11_count_159q.2.2.1
theorem dX11_count_162 : decode cX11_count 162 = .ok (.aload_n 0, 1) := eX11_count_159q.2.2.2.1
theorem dX11_count_163 : decode cX11_count 163 = .ok (.getfield 60, 3) := eX11_count_159q.2.2.2.2.1
theorem dX11_count_166 : decode cX11_count 166 = .ok (.bipush 55, 2) := eX11_count_159q.2.2.2.2.2.1
theorem dX11_count_168 : decode cX11_count 168 = .ok (.iaload, 1) := eX11_count_159q.2.2.2.2.2.2.1
theorem dX11_count_169 : decode cX11_count 169 = .ok (.ireturn, 1) := eX11_count_159q.2.2.2.2.2.2.2
theorem eX11_count_170q : (decode cX11_count 170 = .ok (.iconst 0, 1)) ∧ (decode cX11_count 171 = .ok (.ireturn, 1)) ∧ (decode cX11_count 172 = .ok (.aload_n 0, 1)) ∧ (decode cX11_count 173 = .ok (.getfield 60, 3)) ∧ (decode cX11_count 176 = .ok (.bipush 56, 2)) ∧ (decode cX11_count 178 = .ok (.iaload, 1)) ∧ (decode cX11_count 179 = .ok (.ireturn, 1)) ∧ (decode cX11_count 180 = .ok (.aload_n 0, 1)) := by decide +kernel
theorem dX11_count_170 : decode cX11_count 170 = .ok (.iconst 0, 1) := eX11_count_170q.1
theorem dX11_count_171 : decode cX11_count 171 = .ok (.ireturn, 1) := eX11_count_170q.2.1
theorem dX11_count_172 : decode cX11_count 172 = .ok (.aload_n 0, 1) := eX11_count_170q.2.2.1
theorem dX11_count_173 : decode cX11_count 173 = .ok (.getfield 60, 3) := eX11_count_170q.2.2.2.1
theorem dX11_count_176 : decode cX11_count 176 = .ok (.bipush 56, 2) := eX11_count_170q.2.2.2.2.1
theorem dX11_count_178 : decode cX11_count 178 = .ok (.iaload, 1) := eX11_count_170q.2.2.2.2.2.1
theorem dX11_count_179 : decode cX11_count 179 = .ok (.ireturn, 1) := eX11_count_170q.2.2.2.2.2.2.1
theorem dX11_count_180 : decode cX11_count 180 = .ok (.aload_n 0, 1) := eX11_count_170q.2.2.2.2.2.2.2
theorem eX11_count_181q : (decode cX11_count 181 = .ok (.getfield 60, 3)) ∧ (decode cX11_count 184 = .ok (.bipush 57, 2)) ∧ (decode cX11_count 186 = .ok (.iaload, 1)) ∧ (decode cX11_count 187 = .ok (.ireturn, 1)) ∧ (decode cX11_count 188 = .ok (.aload_n 0, 1)) ∧ (decode cX11_count 189 = .ok (.getfield 60, 3)) ∧ (decode cX11_count 192 = .ok (.bipush 58, 2)) ∧ (decode cX11_count 194 = .ok (.iaload, 1)) := by decide +kernel
theorem dX11_count_181 : decode cX11_count 181 = .ok (.getfield 60, 3) := eX11_count_181q.1
theorem dX11_count_184 : decode cX11_count 184 = .ok (.bipush 57, 2) := eX11_count_181q.2.1
theorem dX11_count_186 : decode cX11_count 186 = .ok (.iaload, 1) := eX11_count_181q.2.2.1
theorem dX11_count_187 : decode cX11_count 187 = .ok (.ireturn, 1) := eX11_count_181q.2.2.2.1
theorem dX11_count_188 : decode cX11_count 188 = .ok (.aload_n 0, 1) := eX11_count_181q.2.2.2.2.1
theorem dX11_count_189 : decode cX11_count 189 = .ok (.getfield 60, 3) := eX11_count_181q.2.2.2.2.2.1
theorem dX11_count_192 : decode cX11_count 192 = .ok (.bipush 58, 2) := eX11_count_181q.2.2.2.2.2.2.1
theorem dX11_count_194 : decode cX11_count 194 = .ok (.iaload, 1) := eX11_count_181q.2.2.2.2.2.2.2
theorem eX11_count_195q : (decode cX11_count 195 = .ok (.ireturn, 1)) ∧ (decode cX11_count 196 = .ok (.aload_n 0, 1)) ∧ (decode cX11_count 197 = .ok (.iconst 1, 1)) ∧ (decode cX11_count 198 = .ok (.invokevirtual 240, 3)) ∧ (decode cX11_count 201 = .ok (.ireturn, 1)) := by decide +kernel
theorem dX11_count_195 : decode cX11_count 195 = .ok (.ireturn, 1) := eX11_count_195q.1
theorem dX11_count_196 : decode cX11_count 196 = .ok (.aload_n 0, 1) := eX11_count_195q.2.1
theorem dX11_count_197 : decode cX11_count 197 = .ok (.iconst 1, 1) := eX11_count_195q.2.2.1
theorem dX11_count_198 : decode cX11_count 198 = .ok (.invokevirtual 240, 3) := eX11_count_195q.2.2.2.1
theorem dX11_count_201 : decode cX11_count 201 = .ok (.ireturn, 1) := eX11_count_195q.2.2.2.2
set_option maxRecDepth 20000 in
theorem ggX11_linkSet_X11_links : GoodIn wsX11_linkSet wsX11_links := by
  have h := goodIn_app (goodIn_r (big := wsX11_linkSet) (.code yX11_links cX11_links 1 (some .int) :: ([.fieldLink RX11 34 "PathProberModel" "told" "[I"]) : List Cond) [6, 7] rfl (by decide +kernel)) (goodIn_few (big := wsX11_linkSet) (fun _ h9 => List.mem_cons_of_mem _ (List.mem_append_right _ h9)) gb_0)
  exact h
set_option maxRecDepth 20000 in
theorem gX11_linkSet_X11_links : GoodIn wsX11_linkSet (wsV RX11 266 RX11 yX11_links wsX11_links) := goodIn_app (goodIn_r _ [2, 3, 4, 5] rfl (by decide +kernel)) ggX11_linkSet_X11_links
theorem eX11_linkSet_0q : (decode cX11_linkSet 0 = .ok (.iconst 0, 1)) ∧ (decode cX11_linkSet 1 = .ok (.istore_n 2, 1)) ∧ (decode cX11_linkSet 2 = .ok (.iconst 0, 1)) ∧ (decode cX11_linkSet 3 = .ok (.istore_n 3, 1)) ∧ (decode cX11_linkSet 4 = .ok (.iload_n 3, 1)) ∧ (decode cX11_linkSet 5 = .ok (.aload_n 0, 1)) ∧ (decode cX11_linkSet 6 = .ok (.invokevirtual 266, 3)) ∧ (decode cX11_linkSet 9 = .ok (.if_icmp .ge 29, 3)) := by decide +kernel
theorem dX11_linkSet_0 : decode cX11_linkSet 0 = .ok (.iconst 0, 1) := eX11_linkSet_0q.1
theorem dX11_linkSet_1 : decode cX11_linkSet 1 = .ok (.istore_n 2, 1) := eX11_linkSet_0q.2.1
theorem dX11_linkSet_2 : decode cX11_linkSet 2 = .ok (.iconst 0, 1) := eX11_linkSet_0q.2.2.1
theorem dX11_linkSet_3 : decode cX11_linkSet 3 = .ok (.istore_n 3, 1) := eX11_linkSet_0q.2.2.2.1
theorem dX11_linkSet_4 : decode cX11_linkSet 4 = .ok (.iload_n 3, 1) := eX11_linkSet_0q.2.2.2.2.1
theorem dX11_linkSet_5 : decode cX11_linkSet 5 = .ok (.aload_n 0, 1) := eX11_linkSet_0q.2.2.2.2.2.1
theorem dX11_linkSet_6 : decode cX11_linkSet 6 = .ok (.invokevirtual 266, 3) := eX11_linkSet_0q.2.2.2.2.2.2.1
theorem dX11_linkSet_9 : decode cX11_linkSet 9 = .ok (.if_icmp .ge 29, 3) := eX11_linkSet_0q.2.2.2.2.2.2.2
theorem eX11_linkSet_12q : (decode cX11_linkSet 12 = .ok (.iload_n 2, 1)) ∧ (decode cX11_linkSet 13 = .ok (.aload_n 0, 1)) ∧ (decode cX11_linkSet 14 = .ok (.getfield 53, 3)) ∧ (decode cX11_linkSet 17 = .ok (.iload_n 3, 1)) ∧ (decode cX11_linkSet 18 = .ok (.iaload, 1)) ∧ (decode cX11_linkSet 19 = .ok (.iload_n 1, 1)) ∧ (decode cX11_linkSet 20 = .ok (.if_icmp .ne 9, 3)) ∧ (decode cX11_linkSet 23 = .ok (.iconst 1, 1)) := by decide +kernel
theorem dX11_linkSet_12 : decode cX11_linkSet 12 = .ok (.iload_n 2, 1) := eX11_linkSet_12q.1
theorem dX11_linkSet_13 : decode cX11_linkSet 13 = .ok (.aload_n 0, 1) := eX11_linkSet_12q.2.1
theorem dX11_linkSet_14 : decode cX11_linkSet 14 = .ok (.getfield 53, 3) := eX11_linkSet_12q.2.2.1
theorem dX11_linkSet_17 : decode cX11_linkSet 17 = .ok (.iload_n 3, 1) := eX11_linkSet_12q.2.2.2.1
theorem dX11_linkSet_18 : decode cX11_linkSet 18 = .ok (.iaload, 1) := eX11_linkSet_12q.2.2.2.2.1
theorem dX11_linkSet_19 : decode cX11_linkSet 19 = .ok (.iload_n 1, 1) := eX11_linkSet_12q.2.2.2.2.2.1
theorem dX11_linkSet_20 : decode cX11_linkSet 20 = .ok (.if_icmp .ne 9, 3) := eX11_linkSet_12q.2.2.2.2.2.2.1
theorem dX11_linkSet_23 : decode cX11_linkSet 23 = .ok (.iconst 1, 1) := eX11_linkSet_12q.2.2.2.2.2.2.2
theorem eX11_linkSet_24q : (decode cX11_linkSet 24 = .ok (.iload_n 3, 1)) ∧ (decode cX11_linkSet 25 = .ok (.ishl, 1)) ∧ (decode cX11_linkSet 26 = .ok (.goto 4, 3)) ∧ (decode cX11_linkSet 29 = .ok (.iconst 0, 1)) ∧ (decode cX11_linkSet 30 = .ok (.ior, 1)) ∧ (decode cX11_linkSet 31 = .ok (.istore_n 2, 1)) ∧ (decode cX11_linkSet 32 = .ok (.iinc 3 1, 3)) ∧ (decode cX11_linkSet 35 = .ok (.goto (-31), 3)) := by decide +kernel
theorem dX11_linkSet_24 : decode cX11_linkSet 24 = .ok (.iload_n 3, 1) := eX11_linkSet_24q.1
theorem dX11_linkSet_25 : decode cX11_linkSet 25 = .ok (.ishl, 1) := eX11_linkSet_24q.2.1
theorem dX11_linkSet_26 : decode cX11_linkSet 26 = .ok (.goto 4, 3) := eX11_linkSet_24q.2.2.1
theorem dX11_linkSet_29 : decode cX11_linkSet 29 = .ok (.iconst 0, 1) := eX11_linkSet_24q.2.2.2.1
theorem dX11_linkSet_30 : decode cX11_linkSet 30 = .ok (.ior, 1) := eX11_linkSet_24q.2.2.2.2.1
theorem dX11_linkSet_31 : decode cX11_linkSet 31 = .ok (.istore_n 2, 1) := eX11_linkSet_24q.2.2.2.2.2.1
theorem dX11_linkSet_32 : decode cX11_linkSet 32 = .ok (.iinc 3 1, 3) := eX11_linkSet_24q.2.2.2.2.2.2.1
theorem dX11_linkSet_35 : decode cX11_linkSet 35 = .ok (.goto (-31), 3) := eX11_linkSet_24q.2.2.2.2.2.2.2
theorem dX11_linkSet_38 : decode cX11_linkSet 38 = .ok (.iload_n 2, 1) := by decide +kernel
theorem dX11_linkSet_39 : decode cX11_linkSet 39 = .ok (.ireturn, 1) := by decide +kernel
set_option maxRecDepth 20000 in
theorem ggX11_goalOf_X11_goals : GoodIn wsX11_goalOf wsX11_goals := by
  have h := goodIn_app (goodIn_r (big := wsX11_goalOf) (.code yX11_goals cX11_goals 1 (some .int) :: ([.fieldLink RX11 34 "PathProberModel" "told" "[I"]) : List Cond) [6, 7] rfl (by decide +kernel)) (goodIn_few (big := wsX11_goalOf) (fun _ h9 => List.mem_cons_of_mem _ (List.mem_append_right _ h9)) gb_0)
  exact h
set_option maxRecDepth 20000 in
theorem gX11_goalOf_X11_goals : GoodIn wsX11_goalOf (wsV RX11 304 RX11 yX11_goals wsX11_goals) := goodIn_app (goodIn_r _ [2, 3, 4, 5] rfl (by decide +kernel)) ggX11_goalOf_X11_goals
theorem eX11_goalOf_0q : (decode cX11_goalOf 0 = .ok (.iconst 0, 1)) ∧ (decode cX11_goalOf 1 = .ok (.istore_n 2, 1)) ∧ (decode cX11_goalOf 2 = .ok (.iload_n 2, 1)) ∧ (decode cX11_goalOf 3 = .ok (.aload_n 0, 1)) ∧ (decode cX11_goalOf 4 = .ok (.invokevirtual 304, 3)) ∧ (decode cX11_goalOf 7 = .ok (.if_icmp .ge 21, 3)) ∧ (decode cX11_goalOf 10 = .ok (.aload_n 0, 1)) ∧ (decode cX11_goalOf 11 = .ok (.getfield 58, 3)) := by decide +kernel
theorem dX11_goalOf_0 : decode cX11_goalOf 0 = .ok (.iconst 0, 1) := eX11_goalOf_0q.1
theorem dX11_goalOf_1 : decode cX11_goalOf 1 = .ok (.istore_n 2, 1) := eX11_goalOf_0q.2.1
theorem dX11_goalOf_2 : decode cX11_goalOf 2 = .ok (.iload_n 2, 1) := eX11_goalOf_0q.2.2.1
theorem dX11_goalOf_3 : decode cX11_goalOf 3 = .ok (.aload_n 0, 1) := eX11_goalOf_0q.2.2.2.1
theorem dX11_goalOf_4 : decode cX11_goalOf 4 = .ok (.invokevirtual 304, 3) := eX11_goalOf_0q.2.2.2.2.1
theorem dX11_goalOf_7 : decode cX11_goalOf 7 = .ok (.if_icmp .ge 21, 3) := eX11_goalOf_0q.2.2.2.2.2.1
theorem dX11_goalOf_10 : decode cX11_goalOf 10 = .ok (.aload_n 0, 1) := eX11_goalOf_0q.2.2.2.2.2.2.1
theorem dX11_goalOf_11 : decode cX11_goalOf 11 = .ok (.getfield 58, 3) := eX11_goalOf_0q.2.2.2.2.2.2.2
theorem eX11_goalOf_14q : (decode cX11_goalOf 14 = .ok (.iload_n 2, 1)) ∧ (decode cX11_goalOf 15 = .ok (.iaload, 1)) ∧ (decode cX11_goalOf 16 = .ok (.iload_n 1, 1)) ∧ (decode cX11_goalOf 17 = .ok (.if_icmp .ne 5, 3)) ∧ (decode cX11_goalOf 20 = .ok (.iload_n 2, 1)) ∧ (decode cX11_goalOf 21 = .ok (.ireturn, 1)) ∧ (decode cX11_goalOf 22 = .ok (.iinc 2 1, 3)) ∧ (decode cX11_goalOf 25 = .ok (.goto (-23), 3)) := by decide +kernel
theorem dX11_goalOf_14 : decode cX11_goalOf 14 = .ok (.iload_n 2, 1) := eX11_goalOf_14q.1
theorem dX11_goalOf_15 : decode cX11_goalOf 15 = .ok (.iaload, 1) := eX11_goalOf_14q.2.1
theorem dX11_goalOf_16 : decode cX11_goalOf 16 = .ok (.iload_n 1, 1) := eX11_goalOf_14q.2.2.1
theorem dX11_goalOf_17 : decode cX11_goalOf 17 = .ok (.if_icmp .ne 5, 3) := eX11_goalOf_14q.2.2.2.1
theorem dX11_goalOf_20 : decode cX11_goalOf 20 = .ok (.iload_n 2, 1) := eX11_goalOf_14q.2.2.2.2.1
theorem dX11_goalOf_21 : decode cX11_goalOf 21 = .ok (.ireturn, 1) := eX11_goalOf_14q.2.2.2.2.2.1
theorem dX11_goalOf_22 : decode cX11_goalOf 22 = .ok (.iinc 2 1, 3) := eX11_goalOf_14q.2.2.2.2.2.2.1
theorem dX11_goalOf_25 : decode cX11_goalOf 25 = .ok (.goto (-23), 3) := eX11_goalOf_14q.2.2.2.2.2.2.2
theorem dX11_goalOf_28 : decode cX11_goalOf 28 = .ok (.iconst (-1), 1) := by decide +kernel
theorem dX11_goalOf_29 : decode cX11_goalOf 29 = .ok (.ireturn, 1) := by decide +kernel
set_option maxRecDepth 20000 in
theorem ggX11_router_X11_isRouter : GoodIn wsX11_router wsX11_isRouter := by
  have h := goodIn_app (goodIn_r (big := wsX11_router) (.code yX11_isRouter cX11_isRouter 2 (some .boolean) :: ([.methodLink RX11 263 yX11_routers, .instanceMethod yX11_routers, .selects RX11 yX11_routers yX11_routers, .initialized RX11, .code yX11_routers cX11_routers 1 (some .int), .fieldLink RX11 34 "PathProberModel" "told" "[I", .methodLink RX11 359 yX11_isIn, .static yX11_isIn, .code yX11_isIn cX11_isIn 3 (some .boolean)]) : List Cond) [12, 13, 14, 15, 11, 16, 17, 18, 19, 20] rfl (by decide +kernel)) (goodIn_few (big := wsX11_router) (fun _ h9 => List.mem_cons_of_mem _ (List.mem_append_right _ h9)) gb_0)
  exact h
set_option maxRecDepth 20000 in
theorem gX11_router_X11_isRouter : GoodIn wsX11_router (wsV RX11 398 RX11 yX11_isRouter wsX11_isRouter) := goodIn_app (goodIn_r _ [8, 9, 10, 11] rfl (by decide +kernel)) ggX11_router_X11_isRouter
set_option maxRecDepth 20000 in
theorem ggX11_router_X11_fail : GoodIn wsX11_router wsX11_fail := by
  have h := goodIn_app (goodIn_r (big := wsX11_router) (.code yX11_fail cX11_fail 2 (some .int) :: ([.fieldLink RX11 142 "PathProberModel" "code" "I"]) : List Cond) [24, 1] rfl (by decide +kernel)) (goodIn_few (big := wsX11_router) (fun _ h9 => List.mem_cons_of_mem _ (List.mem_append_right _ h9)) gb_0)
  exact h
set_option maxRecDepth 20000 in
theorem gX11_router_X11_fail : GoodIn wsX11_router (wsV RX11 240 RX11 yX11_fail wsX11_fail) := goodIn_app (goodIn_r _ [21, 22, 23, 11] rfl (by decide +kernel)) ggX11_router_X11_fail
set_option maxRecDepth 20000 in
theorem ggX11_router_X11_linkSet : GoodIn wsX11_router wsX11_linkSet := by
  have h := goodIn_app (goodIn_r (big := wsX11_router) (.code yX11_linkSet cX11_linkSet 4 (some .int) :: ([.fieldLink RX11 53 "PathProberModel" "from" "[I", .methodLink RX11 266 yX11_links, .instanceMethod yX11_links, .selects RX11 yX11_links yX11_links, .initialized RX11, .code yX11_links cX11_links 1 (some .int), .fieldLink RX11 34 "PathProberModel" "told" "[I"]) : List Cond) [28, 29, 30, 31, 32, 11, 33, 17] rfl (by decide +kernel)) (goodIn_few (big := wsX11_router) (fun _ h9 => List.mem_cons_of_mem _ (List.mem_append_right _ h9)) gb_0)
  exact h
set_option maxRecDepth 20000 in
theorem gX11_router_X11_linkSet : GoodIn wsX11_router (wsV RX11 401 RX11 yX11_linkSet wsX11_linkSet) := goodIn_app (goodIn_r _ [25, 26, 27, 11] rfl (by decide +kernel)) ggX11_router_X11_linkSet
set_option maxRecDepth 20000 in
theorem ggX11_router_X11_goalOf : GoodIn wsX11_router wsX11_goalOf := by
  have h := goodIn_app (goodIn_r (big := wsX11_router) (.code yX11_goalOf cX11_goalOf 3 (some .int) :: ([.fieldLink RX11 58 "PathProberModel" "goal" "[I", .methodLink RX11 304 yX11_goals, .instanceMethod yX11_goals, .selects RX11 yX11_goals yX11_goals, .initialized RX11, .code yX11_goals cX11_goals 1 (some .int), .fieldLink RX11 34 "PathProberModel" "told" "[I"]) : List Cond) [37, 38, 39, 40, 41, 11, 42, 17] rfl (by decide +kernel)) (goodIn_few (big := wsX11_router) (fun _ h9 => List.mem_cons_of_mem _ (List.mem_append_right _ h9)) gb_0)
  exact h
set_option maxRecDepth 20000 in
theorem gX11_router_X11_goalOf : GoodIn wsX11_router (wsV RX11 404 RX11 yX11_goalOf wsX11_goalOf) := goodIn_app (goodIn_r _ [34, 35, 36, 11] rfl (by decide +kernel)) ggX11_router_X11_goalOf
theorem eX11_router_0q : (decode cX11_router 0 = .ok (.aload_n 0, 1)) ∧ (decode cX11_router 1 = .ok (.iconst 0, 1)) ∧ (decode cX11_router 2 = .ok (.putfield 142, 3)) ∧ (decode cX11_router 5 = .ok (.aload_n 0, 1)) ∧ (decode cX11_router 6 = .ok (.iload_n 1, 1)) ∧ (decode cX11_router 7 = .ok (.invokevirtual 398, 3)) ∧ (decode cX11_router 10 = .ok (.ifCond .ne 9, 3)) ∧ (decode cX11_router 13 = .ok (.aload_n 0, 1)) := by decide +kernel
theorem dX11_router_0 : decode cX11_router 0 = .ok (.aload_n 0, 1) := eX11_router_0q.1
theorem dX11_router_1 : decode cX11_router 1 = .ok (.iconst 0, 1) := eX11_router_0q.2.1
theorem dX11_router_2 : decode cX11_router 2 = .ok (.putfield 142, 3) := eX11_router_0q.2.2.1
theorem dX11_router_5 : decode cX11_router 5 = .ok (.aload_n 0, 1) := eX11_router_0q.2.2.2.1
theorem dX11_router_6 : decode cX11_router 6 = .ok (.iload_n 1, 1) := eX11_router_0q.2.2.2.2.1
theorem dX11_router_7 : decode cX11_router 7 = .ok (.invokevirtual 398, 3) := eX11_router_0q.2.2.2.2.2.1
theorem dX11_router_10 : decode cX11_router 10 = .ok (.ifCond .ne 9, 3) := eX11_router_0q.2.2.2.2.2.2.1
theorem dX11_router_13 : decode cX11_router 13 = .ok (.aload_n 0, 1) := eX11_router_0q.2.2.2.2.2.2.2
theorem eX11_router_14q : (decode cX11_router 14 = .ok (.iconst 1, 1)) ∧ (decode cX11_router 15 = .ok (.invokevirtual 240, 3)) ∧ (decode cX11_router 18 = .ok (.ireturn, 1)) ∧ (decode cX11_router 19 = .ok (.iload_n 2, 1)) ∧ (decode cX11_router 20 = .ok (.tableswitch 130 0 7 #[48, 55, 62, 69, 99, 108, 118, 124], 48)) ∧ (decode cX11_router 68 = .ok (.aload_n 0, 1)) ∧ (decode cX11_router 69 = .ok (.getfield 38, 3)) ∧ (decode cX11_router 72 = .ok (.iload_n 1, 1)) := by decide +kernel
theorem dX11_router_14 : decode cX11_router 14 = .ok (.iconst 1, 1) := eX11_router_14q.1
theorem dX11_router_15 : decode cX11_router 15 = .ok (.invokevirtual 240, 3) := eX11_router_14q.2.1
theorem dX11_router_18 : decode cX11_router 18 = .ok (.ireturn, 1) := eX11_router_14q.2.2.1
theorem dX11_router_19 : decode cX11_router 19 = .ok (.iload_n 2, 1) := eX11_router_14q.2.2.2.1
theorem dX11_router_20 : decode cX11_router 20 = .ok (.tableswitch 130 0 7 #[48, 55, 62, 69, 99, 108, 118, 124], 48) := eX11_router_14q.2.2.2.2.1
theorem dX11_router_68 : decode cX11_router 68 = .ok (.aload_n 0, 1) := eX11_router_14q.2.2.2.2.2.1
theorem dX11_router_69 : decode cX11_router 69 = .ok (.getfield 38, 3) := eX11_router_14q.2.2.2.2.2.2.1
theorem dX11_router_72 : decode cX11_router 72 = .ok (.iload_n 1, 1) := eX11_router_14q.2.2.2.2.2.2.2
theorem eX11_router_73q : (decode cX11_router 73 = .ok (.iaload, 1)) ∧ (decode cX11_router 74 = .ok (.ireturn, 1)) ∧ (decode cX11_router 75 = .ok (.aload_n 0, 1)) ∧ (decode cX11_router 76 = .ok (.getfield 41, 3)) ∧ (decode cX11_router 79 = .ok (.iload_n 1, 1)) ∧ (decode cX11_router 80 = .ok (.iaload, 1)) ∧ (decode cX11_router 81 = .ok (.ireturn, 1)) ∧ (decode cX11_router 82 = .ok (.aload_n 0, 1)) := by decide +kernel
theorem dX11_router_73 : decode cX11_router 73 = .ok (.iaload, 1) := eX11_router_73q.1
theorem dX11_router_74 : decode cX11_router 74 = .ok (.ireturn, 1) := eX11_router_73q.2.1
theorem dX11_router_75 : decode cX11_router 75 = .ok (.aload_n 0, 1) := eX11_router_73q.2.2.1
theorem dX11_router_76 : decode cX11_router 76 = .ok (.getfield 41, 3) := eX11_router_73q.2.2.2.1
theorem dX11_router_79 : decode cX11_router 79 = .ok (.iload_n 1, 1) := eX11_router_73q.2.2.2.2.1
theorem dX11_router_80 : decode cX11_router 80 = .ok (.iaload, 1) := eX11_router_73q.2.2.2.2.2.1
theorem dX11_router_81 : decode cX11_router 81 = .ok (.ireturn, 1) := eX11_router_73q.2.2.2.2.2.2.1
theorem dX11_router_82 : decode cX11_router 82 = .ok (.aload_n 0, 1) := eX11_router_73q.2.2.2.2.2.2.2
theorem eX11_router_83q : (decode cX11_router 83 = .ok (.getfield 44, 3)) ∧ (decode cX11_router 86 = .ok (.iload_n 1, 1)) ∧ (decode cX11_router 87 = .ok (.iaload, 1)) ∧ (decode cX11_router 88 = .ok (.ireturn, 1)) ∧ (decode cX11_router 89 = .ok (.aload_n 0, 1)) ∧ (decode cX11_router 90 = .ok (.getfield 47, 3)) ∧ (decode cX11_router 93 = .ok (.iload_n 1, 1)) ∧ (decode cX11_router 94 = .ok (.iaload, 1)) := by decide +kernel
theorem dX11_router_83 : decode cX11_router 83 = .ok (.getfield 44, 3) := eX11_router_83q.1
theorem dX11_router_86 : decode cX11_router 86 = .ok (.iload_n 1, 1) := eX11_router_83q.2.1
theorem dX11_router_87 : decode cX11_router 87 = .ok (.iaload, 1) := eX11_router_83q.2.2.1
theorem dX11_router_88 : decode cX11_router 88 = .ok (.ireturn, 1) := eX11_router_83q.2.2.2.1
theorem dX11_router_89 : decode cX11_router 89 = .ok (.aload_n 0, 1) := eX11_router_83q.2.2.2.2.1
theorem dX11_router_90 : decode cX11_router 90 = .ok (.getfield 47, 3) := eX11_router_83q.2.2.2.2.2.1
theorem dX11_router_93 : decode cX11_router 93 = .ok (.iload_n 1, 1) := eX11_router_83q.2.2.2.2.2.2.1
theorem dX11_router_94 : decode cX11_router 94 = .ok (.iaload, 1) := eX11_router_83q.2.2.2.2.2.2.2
theorem eX11_router_95q : (decode cX11_router 95 = .ok (.iconst 1, 1)) ∧ (decode cX11_router 96 = .ok (.if_icmp .ne 7, 3)) ∧ (decode cX11_router 99 = .ok (.iconst 1, 1)) ∧ (decode cX11_router 100 = .ok (.goto 18, 3)) ∧ (decode cX11_router 103 = .ok (.aload_n 0, 1)) ∧ (decode cX11_router 104 = .ok (.getfield 50, 3)) ∧ (decode cX11_router 107 = .ok (.iload_n 1, 1)) ∧ (decode cX11_router 108 = .ok (.iaload, 1)) := by decide +kernel
theorem dX11_router_95 : decode cX11_router 95 = .ok (.iconst 1, 1) := eX11_router_95q.1
theorem dX11_router_96 : decode cX11_router 96 = .ok (.if_icmp .ne 7, 3) := eX11_router_95q.2.1
theorem dX11_router_99 : decode cX11_router 99 = .ok (.iconst 1, 1) := eX11_router_95q.2.2.1
theorem dX11_router_100 : decode cX11_router 100 = .ok (.goto 18, 3) := eX11_router_95q.2.2.2.1
theorem dX11_router_103 : decode cX11_router 103 = .ok (.aload_n 0, 1) := eX11_router_95q.2.2.2.2.1
theorem dX11_router_104 : decode cX11_router 104 = .ok (.getfield 50, 3) := eX11_router_95q.2.2.2.2.2.1
theorem dX11_router_107 : decode cX11_router 107 = .ok (.iload_n 1, 1) := eX11_router_95q.2.2.2.2.2.2.1
theorem dX11_router_108 : decode cX11_router 108 = .ok (.iaload, 1) := eX11_router_95q.2.2.2.2.2.2.2
theorem eX11_router_109q : (decode cX11_router 109 = .ok (.iconst 1, 1)) ∧ (decode cX11_router 110 = .ok (.if_icmp .ne 7, 3)) ∧ (decode cX11_router 113 = .ok (.iconst 2, 1)) ∧ (decode cX11_router 114 = .ok (.goto 4, 3)) ∧ (decode cX11_router 117 = .ok (.iconst 0, 1)) ∧ (decode cX11_router 118 = .ok (.ireturn, 1)) ∧ (decode cX11_router 119 = .ok (.aload_n 0, 1)) ∧ (decode cX11_router 120 = .ok (.getfield 60, 3)) := by decide +kernel
theorem dX11_router_109 : decode cX11_router 109 = .ok (.iconst 1, 1) := eX11_router_109q.1
theorem dX11_router_110 : decode cX11_router 110 = .ok (.if_icmp .ne 7, 3) := eX11_router_109q.2.1
theorem dX11_router_113 : decode cX11_router 113 = .ok (.iconst 2, 1) := eX11_router_109q.2.2.1
theorem dX11_router_114 : decode cX11_router 114 = .ok (.goto 4, 3) := eX11_router_109q.2.2.2.1
theorem dX11_router_117 : decode cX11_router 117 = .ok (.iconst 0, 1) := eX11_router_109q.2.2.2.2.1
theorem dX11_router_118 : decode cX11_router 118 = .ok (.ireturn, 1) := eX11_router_109q.2.2.2.2.2.1
theorem dX11_router_119 : decode cX11_router 119 = .ok (.aload_n 0, 1) := eX11_router_109q.2.2.2.2.2.2.1
theorem dX11_router_120 : decode cX11_router 120 = .ok (.getfield 60, 3) := eX11_router_109q.2.2.2.2.2.2.2
theorem eX11_router_123q : (decode cX11_router 123 = .ok (.iconst 0, 1)) ∧ (decode cX11_router 124 = .ok (.iload_n 1, 1)) ∧ (decode cX11_router 125 = .ok (.iadd, 1)) ∧ (decode cX11_router 126 = .ok (.iaload, 1)) ∧ (decode cX11_router 127 = .ok (.ireturn, 1)) ∧ (decode cX11_router 128 = .ok (.aload_n 0, 1)) ∧ (decode cX11_router 129 = .ok (.getfield 60, 3)) ∧ (decode cX11_router 132 = .ok (.bipush 12, 2)) := by decide +kernel
theorem dX11_router_123 : decode cX11_router 123 = .ok (.iconst 0, 1) := eX11_router_123q.1
theorem dX11_router_124 : decode cX11_router 124 = .ok (.iload_n 1, 1) := eX11_router_123q.2.1
theorem dX11_router_125 : decode cX11_router 125 = .ok (.iadd, 1) := eX11_router_123q.2.2.1
theorem dX11_router_126 : decode cX11_router 126 = .ok (.iaload, 1) := eX11_router_123q.2.2.2.1
theorem dX11_router_127 : decode cX11_router 127 = .ok (.ireturn, 1) := eX11_router_123q.2.2.2.2.1
theorem dX11_router_128 : decode cX11_router 128 = .ok (.aload_n 0, 1) := eX11_router_123q.2.2.2.2.2.1
theorem dX11_router_129 : decode cX11_router 129 = .ok (.getfield 60, 3) := eX11_router_123q.2.2.2.2.2.2.1
theorem dX11_router_132 : decode cX11_router 132 = .ok (.bipush 12, 2) := eX11_router_123q.2.2.2.2.2.2.2
theorem eX11_router_134q : (decode cX11_router 134 = .ok (.iload_n 1, 1)) ∧ (decode cX11_router 135 = .ok (.iadd, 1)) ∧ (decode cX11_router 136 = .ok (.iaload, 1)) ∧ (decode cX11_router 137 = .ok (.ireturn, 1)) ∧ (decode cX11_router 138 = .ok (.aload_n 0, 1)) ∧ (decode cX11_router 139 = .ok (.iload_n 1, 1)) ∧ (decode cX11_router 140 = .ok (.invokevirtual 401, 3)) ∧ (decode cX11_router 143 = .ok (.ireturn, 1)) := by decide +kernel
theorem dX11_router_134 : decode cX11_router 134 = .ok (.iload_n 1, 1) := eX11_router_134q.1
theorem dX11_router_135 : decode cX11_router 135 = .ok (.iadd, 1) := eX11_router_134q.2.1
theorem dX11_router_136 : decode cX11_router 136 = .ok (.iaload, 1) := eX11_router_134q.2.2.1
theorem dX11_router_137 : decode cX11_router 137 = .ok (.ireturn, 1) := eX11_router_134q.2.2.2.1
theorem dX11_router_138 : decode cX11_router 138 = .ok (.aload_n 0, 1) := eX11_router_134q.2.2.2.2.1
theorem dX11_router_139 : decode cX11_router 139 = .ok (.iload_n 1, 1) := eX11_router_134q.2.2.2.2.2.1
theorem dX11_router_140 : decode cX11_router 140 = .ok (.invokevirtual 401, 3) := eX11_router_134q.2.2.2.2.2.2.1
theorem dX11_router_143 : decode cX11_router 143 = .ok (.ireturn, 1) := eX11_router_134q.2.2.2.2.2.2.2
theorem eX11_router_144q : (decode cX11_router 144 = .ok (.aload_n 0, 1)) ∧ (decode cX11_router 145 = .ok (.iload_n 1, 1)) ∧ (decode cX11_router 146 = .ok (.invokevirtual 404, 3)) ∧ (decode cX11_router 149 = .ok (.ireturn, 1)) ∧ (decode cX11_router 150 = .ok (.aload_n 0, 1)) ∧ (decode cX11_router 151 = .ok (.iconst 1, 1)) ∧ (decode cX11_router 152 = .ok (.invokevirtual 240, 3)) ∧ (decode cX11_router 155 = .ok (.ireturn, 1)) := by decide +kernel
theorem dX11_router_144 : decode cX11_router 144 = .ok (.aload_n 0, 1) := eX11_router_144q.1
theorem dX11_router_145 : decode cX11_router 145 = .ok (.iload_n 1, 1) := eX11_router_144q.2.1
theorem dX11_router_146 : decode cX11_router 146 = .ok (.invokevirtual 404, 3) := eX11_router_144q.2.2.1
theorem dX11_router_149 : decode cX11_router 149 = .ok (.ireturn, 1) := eX11_router_144q.2.2.2.1
theorem dX11_router_150 : decode cX11_router 150 = .ok (.aload_n 0, 1) := eX11_router_144q.2.2.2.2.1
theorem dX11_router_151 : decode cX11_router 151 = .ok (.iconst 1, 1) := eX11_router_144q.2.2.2.2.2.1
theorem dX11_router_152 : decode cX11_router 152 = .ok (.invokevirtual 240, 3) := eX11_router_144q.2.2.2.2.2.2.1
theorem dX11_router_155 : decode cX11_router 155 = .ok (.ireturn, 1) := eX11_router_144q.2.2.2.2.2.2.2
set_option maxRecDepth 20000 in
theorem ggX11_link_X11_links : GoodIn wsX11_link wsX11_links := by
  have h := goodIn_app (goodIn_r (big := wsX11_link) (.code yX11_links cX11_links 1 (some .int) :: ([.fieldLink RX11 34 "PathProberModel" "told" "[I"]) : List Cond) [8, 9] rfl (by decide +kernel)) (goodIn_few (big := wsX11_link) (fun _ h9 => List.mem_cons_of_mem _ (List.mem_append_right _ h9)) gb_0)
  exact h
set_option maxRecDepth 20000 in
theorem gX11_link_X11_links : GoodIn wsX11_link (wsV RX11 266 RX11 yX11_links wsX11_links) := goodIn_app (goodIn_r _ [4, 5, 6, 7] rfl (by decide +kernel)) ggX11_link_X11_links
set_option maxRecDepth 20000 in
theorem ggX11_link_X11_isIn : GoodIn wsX11_link wsX11_isIn := goodIn_r _ [12] rfl (by decide +kernel)
set_option maxRecDepth 20000 in
theorem gX11_link_X11_isIn : GoodIn wsX11_link (va_wsS RX11 359 yX11_isIn wsX11_isIn) := goodIn_app (goodIn_r _ [10, 11, 7] rfl (by decide +kernel)) ggX11_link_X11_isIn
set_option maxRecDepth 20000 in
theorem ggX11_link_X11_fail : GoodIn wsX11_link wsX11_fail := by
  have h := goodIn_app (goodIn_r (big := wsX11_link) (.code yX11_fail cX11_fail 2 (some .int) :: ([.fieldLink RX11 142 "PathProberModel" "code" "I"]) : List Cond) [16, 1] rfl (by decide +kernel)) (goodIn_few (big := wsX11_link) (fun _ h9 => List.mem_cons_of_mem _ (List.mem_append_right _ h9)) gb_0)
  exact h
set_option maxRecDepth 20000 in
theorem gX11_link_X11_fail : GoodIn wsX11_link (wsV RX11 240 RX11 yX11_fail wsX11_fail) := goodIn_app (goodIn_r _ [13, 14, 15, 7] rfl (by decide +kernel)) ggX11_link_X11_fail
theorem eX11_link_0q : (decode cX11_link 0 = .ok (.aload_n 0, 1)) ∧ (decode cX11_link 1 = .ok (.iconst 0, 1)) ∧ (decode cX11_link 2 = .ok (.putfield 142, 3)) ∧ (decode cX11_link 5 = .ok (.iload_n 1, 1)) ∧ (decode cX11_link 6 = .ok (.iconst 0, 1)) ∧ (decode cX11_link 7 = .ok (.aload_n 0, 1)) ∧ (decode cX11_link 8 = .ok (.invokevirtual 266, 3)) ∧ (decode cX11_link 11 = .ok (.iconst 1, 1)) := by decide +kernel
theorem dX11_link_0 : decode cX11_link 0 = .ok (.aload_n 0, 1) := eX11_link_0q.1
theorem dX11_link_1 : decode cX11_link 1 = .ok (.iconst 0, 1) := eX11_link_0q.2.1
theorem dX11_link_2 : decode cX11_link 2 = .ok (.putfield 142, 3) := eX11_link_0q.2.2.1
theorem dX11_link_5 : decode cX11_link 5 = .ok (.iload_n 1, 1) := eX11_link_0q.2.2.2.1
theorem dX11_link_6 : decode cX11_link 6 = .ok (.iconst 0, 1) := eX11_link_0q.2.2.2.2.1
theorem dX11_link_7 : decode cX11_link 7 = .ok (.aload_n 0, 1) := eX11_link_0q.2.2.2.2.2.1
theorem dX11_link_8 : decode cX11_link 8 = .ok (.invokevirtual 266, 3) := eX11_link_0q.2.2.2.2.2.2.1
theorem dX11_link_11 : decode cX11_link 11 = .ok (.iconst 1, 1) := eX11_link_0q.2.2.2.2.2.2.2
theorem eX11_link_12q : (decode cX11_link 12 = .ok (.isub, 1)) ∧ (decode cX11_link 13 = .ok (.invokestatic 359, 3)) ∧ (decode cX11_link 16 = .ok (.ifCond .eq 34, 3)) ∧ (decode cX11_link 19 = .ok (.iload_n 2, 1)) ∧ (decode cX11_link 20 = .ok (.iconst 0, 1)) ∧ (decode cX11_link 21 = .ok (.iconst 1, 1)) ∧ (decode cX11_link 22 = .ok (.invokestatic 359, 3)) ∧ (decode cX11_link 25 = .ok (.ifCond .eq 25, 3)) := by decide +kernel
theorem dX11_link_12 : decode cX11_link 12 = .ok (.isub, 1) := eX11_link_12q.1
theorem dX11_link_13 : decode cX11_link 13 = .ok (.invokestatic 359, 3) := eX11_link_12q.2.1
theorem dX11_link_16 : decode cX11_link 16 = .ok (.ifCond .eq 34, 3) := eX11_link_12q.2.2.1
theorem dX11_link_19 : decode cX11_link 19 = .ok (.iload_n 2, 1) := eX11_link_12q.2.2.2.1
theorem dX11_link_20 : decode cX11_link 20 = .ok (.iconst 0, 1) := eX11_link_12q.2.2.2.2.1
theorem dX11_link_21 : decode cX11_link 21 = .ok (.iconst 1, 1) := eX11_link_12q.2.2.2.2.2.1
theorem dX11_link_22 : decode cX11_link 22 = .ok (.invokestatic 359, 3) := eX11_link_12q.2.2.2.2.2.2.1
theorem dX11_link_25 : decode cX11_link 25 = .ok (.ifCond .eq 25, 3) := eX11_link_12q.2.2.2.2.2.2.2
theorem eX11_link_28q : (decode cX11_link 28 = .ok (.iload_n 2, 1)) ∧ (decode cX11_link 29 = .ok (.ifCond .ne 12, 3)) ∧ (decode cX11_link 32 = .ok (.aload_n 0, 1)) ∧ (decode cX11_link 33 = .ok (.getfield 53, 3)) ∧ (decode cX11_link 36 = .ok (.iload_n 1, 1)) ∧ (decode cX11_link 37 = .ok (.iaload, 1)) ∧ (decode cX11_link 38 = .ok (.goto 17, 3)) ∧ (decode cX11_link 41 = .ok (.aload_n 0, 1)) := by decide +kernel
theorem dX11_link_28 : decode cX11_link 28 = .ok (.iload_n 2, 1) := eX11_link_28q.1
theorem dX11_link_29 : decode cX11_link 29 = .ok (.ifCond .ne 12, 3) := eX11_link_28q.2.1
theorem dX11_link_32 : decode cX11_link 32 = .ok (.aload_n 0, 1) := eX11_link_28q.2.2.1
theorem dX11_link_33 : decode cX11_link 33 = .ok (.getfield 53, 3) := eX11_link_28q.2.2.2.1
theorem dX11_link_36 : decode cX11_link 36 = .ok (.iload_n 1, 1) := eX11_link_28q.2.2.2.2.1
theorem dX11_link_37 : decode cX11_link 37 = .ok (.iaload, 1) := eX11_link_28q.2.2.2.2.2.1
theorem dX11_link_38 : decode cX11_link 38 = .ok (.goto 17, 3) := eX11_link_28q.2.2.2.2.2.2.1
theorem dX11_link_41 : decode cX11_link 41 = .ok (.aload_n 0, 1) := eX11_link_28q.2.2.2.2.2.2.2
theorem eX11_link_42q : (decode cX11_link 42 = .ok (.getfield 56, 3)) ∧ (decode cX11_link 45 = .ok (.iload_n 1, 1)) ∧ (decode cX11_link 46 = .ok (.iaload, 1)) ∧ (decode cX11_link 47 = .ok (.goto 8, 3)) ∧ (decode cX11_link 50 = .ok (.aload_n 0, 1)) ∧ (decode cX11_link 51 = .ok (.iconst 1, 1)) ∧ (decode cX11_link 52 = .ok (.invokevirtual 240, 3)) ∧ (decode cX11_link 55 = .ok (.ireturn, 1)) := by decide +kernel
theorem dX11_link_42 : decode cX11_link 42 = .ok (.getfield 56, 3) := eX11_link_42q.1
theorem dX11_link_45 : decode cX11_link 45 = .ok (.iload_n 1, 1) := eX11_link_42q.2.1
theorem dX11_link_46 : decode cX11_link 46 = .ok (.iaload, 1) := eX11_link_42q.2.2.1
theorem dX11_link_47 : decode cX11_link 47 = .ok (.goto 8, 3) := eX11_link_42q.2.2.2.1
theorem dX11_link_50 : decode cX11_link 50 = .ok (.aload_n 0, 1) := eX11_link_42q.2.2.2.2.1
theorem dX11_link_51 : decode cX11_link 51 = .ok (.iconst 1, 1) := eX11_link_42q.2.2.2.2.2.1
theorem dX11_link_52 : decode cX11_link 52 = .ok (.invokevirtual 240, 3) := eX11_link_42q.2.2.2.2.2.2.1
theorem dX11_link_55 : decode cX11_link 55 = .ok (.ireturn, 1) := eX11_link_42q.2.2.2.2.2.2.2
set_option maxRecDepth 20000 in
theorem ggX11_ways_X11_routers : GoodIn wsX11_ways wsX11_routers := by
  have h := goodIn_app (goodIn_r (big := wsX11_ways) (.code yX11_routers cX11_routers 1 (some .int) :: ([.fieldLink RX11 34 "PathProberModel" "told" "[I"]) : List Cond) [9, 10] rfl (by decide +kernel)) (goodIn_few (big := wsX11_ways) (fun _ h9 => List.mem_cons_of_mem _ (List.mem_append_right _ h9)) gb_0)
  exact h
set_option maxRecDepth 20000 in
theorem gX11_ways_X11_routers : GoodIn wsX11_ways (wsV RX11 263 RX11 yX11_routers wsX11_routers) := goodIn_app (goodIn_r _ [5, 6, 7, 8] rfl (by decide +kernel)) ggX11_ways_X11_routers
set_option maxRecDepth 20000 in
theorem ggX11_ways_X11_links : GoodIn wsX11_ways wsX11_links := by
  have h := goodIn_app (goodIn_r (big := wsX11_ways) (.code yX11_links cX11_links 1 (some .int) :: ([.fieldLink RX11 34 "PathProberModel" "told" "[I"]) : List Cond) [14, 10] rfl (by decide +kernel)) (goodIn_few (big := wsX11_ways) (fun _ h9 => List.mem_cons_of_mem _ (List.mem_append_right _ h9)) gb_0)
  exact h
set_option maxRecDepth 20000 in
theorem gX11_ways_X11_links : GoodIn wsX11_ways (wsV RX11 266 RX11 yX11_links wsX11_links) := goodIn_app (goodIn_r _ [11, 12, 13, 8] rfl (by decide +kernel)) ggX11_ways_X11_links
theorem eX11_ways_0q : (decode cX11_ways 0 = .ok (.iconst 0, 1)) ∧ (decode cX11_ways 1 = .ok (.istore_n 2, 1)) ∧ (decode cX11_ways 2 = .ok (.iload_n 2, 1)) ∧ (decode cX11_ways 3 = .ok (.bipush 12, 2)) ∧ (decode cX11_ways 5 = .ok (.if_icmp .ge 24, 3)) ∧ (decode cX11_ways 8 = .ok (.aload_n 0, 1)) ∧ (decode cX11_ways 9 = .ok (.getfield 91, 3)) ∧ (decode cX11_ways 12 = .ok (.iload_n 2, 1)) := by decide +kernel
theorem dX11_ways_0 : decode cX11_ways 0 = .ok (.iconst 0, 1) := eX11_ways_0q.1
theorem dX11_ways_1 : decode cX11_ways 1 = .ok (.istore_n 2, 1) := eX11_ways_0q.2.1
theorem dX11_ways_2 : decode cX11_ways 2 = .ok (.iload_n 2, 1) := eX11_ways_0q.2.2.1
theorem dX11_ways_3 : decode cX11_ways 3 = .ok (.bipush 12, 2) := eX11_ways_0q.2.2.2.1
theorem dX11_ways_5 : decode cX11_ways 5 = .ok (.if_icmp .ge 24, 3) := eX11_ways_0q.2.2.2.2.1
theorem dX11_ways_8 : decode cX11_ways 8 = .ok (.aload_n 0, 1) := eX11_ways_0q.2.2.2.2.2.1
theorem dX11_ways_9 : decode cX11_ways 9 = .ok (.getfield 91, 3) := eX11_ways_0q.2.2.2.2.2.2.1
theorem dX11_ways_12 : decode cX11_ways 12 = .ok (.iload_n 2, 1) := eX11_ways_0q.2.2.2.2.2.2.2
theorem eX11_ways_13q : (decode cX11_ways 13 = .ok (.iload_n 2, 1)) ∧ (decode cX11_ways 14 = .ok (.ifCond .ne 7, 3)) ∧ (decode cX11_ways 17 = .ok (.iconst 1, 1)) ∧ (decode cX11_ways 18 = .ok (.goto 4, 3)) ∧ (decode cX11_ways 21 = .ok (.iconst 0, 1)) ∧ (decode cX11_ways 22 = .ok (.iastore, 1)) ∧ (decode cX11_ways 23 = .ok (.iinc 2 1, 3)) ∧ (decode cX11_ways 26 = .ok (.goto (-24), 3)) := by decide +kernel
theorem dX11_ways_13 : decode cX11_ways 13 = .ok (.iload_n 2, 1) := eX11_ways_13q.1
theorem dX11_ways_14 : decode cX11_ways 14 = .ok (.ifCond .ne 7, 3) := eX11_ways_13q.2.1
theorem dX11_ways_17 : decode cX11_ways 17 = .ok (.iconst 1, 1) := eX11_ways_13q.2.2.1
theorem dX11_ways_18 : decode cX11_ways 18 = .ok (.goto 4, 3) := eX11_ways_13q.2.2.2.1
theorem dX11_ways_21 : decode cX11_ways 21 = .ok (.iconst 0, 1) := eX11_ways_13q.2.2.2.2.1
theorem dX11_ways_22 : decode cX11_ways 22 = .ok (.iastore, 1) := eX11_ways_13q.2.2.2.2.2.1
theorem dX11_ways_23 : decode cX11_ways 23 = .ok (.iinc 2 1, 3) := eX11_ways_13q.2.2.2.2.2.2.1
theorem dX11_ways_26 : decode cX11_ways 26 = .ok (.goto (-24), 3) := eX11_ways_13q.2.2.2.2.2.2.2
theorem eX11_ways_29q : (decode cX11_ways 29 = .ok (.iconst 0, 1)) ∧ (decode cX11_ways 30 = .ok (.istore_n 2, 1)) ∧ (decode cX11_ways 31 = .ok (.iload_n 2, 1)) ∧ (decode cX11_ways 32 = .ok (.aload_n 0, 1)) ∧ (decode cX11_ways 33 = .ok (.invokevirtual 263, 3)) ∧ (decode cX11_ways 36 = .ok (.if_icmp .ge 55, 3)) ∧ (decode cX11_ways 39 = .ok (.iconst 0, 1)) ∧ (decode cX11_ways 40 = .ok (.istore_n 3, 1)) := by decide +kernel
theorem dX11_ways_29 : decode cX11_ways 29 = .ok (.iconst 0, 1) := eX11_ways_29q.1
theorem dX11_ways_30 : decode cX11_ways 30 = .ok (.istore_n 2, 1) := eX11_ways_29q.2.1
theorem dX11_ways_31 : decode cX11_ways 31 = .ok (.iload_n 2, 1) := eX11_ways_29q.2.2.1
theorem dX11_ways_32 : decode cX11_ways 32 = .ok (.aload_n 0, 1) := eX11_ways_29q.2.2.2.1
theorem dX11_ways_33 : decode cX11_ways 33 = .ok (.invokevirtual 263, 3) := eX11_ways_29q.2.2.2.2.1
theorem dX11_ways_36 : decode cX11_ways 36 = .ok (.if_icmp .ge 55, 3) := eX11_ways_29q.2.2.2.2.2.1
theorem dX11_ways_39 : decode cX11_ways 39 = .ok (.iconst 0, 1) := eX11_ways_29q.2.2.2.2.2.2.1
theorem dX11_ways_40 : decode cX11_ways 40 = .ok (.istore_n 3, 1) := eX11_ways_29q.2.2.2.2.2.2.2
theorem eX11_ways_41q : (decode cX11_ways 41 = .ok (.iload_n 3, 1)) ∧ (decode cX11_ways 42 = .ok (.aload_n 0, 1)) ∧ (decode cX11_ways 43 = .ok (.invokevirtual 266, 3)) ∧ (decode cX11_ways 46 = .ok (.if_icmp .ge 39, 3)) ∧ (decode cX11_ways 49 = .ok (.aload_n 0, 1)) ∧ (decode cX11_ways 50 = .ok (.getfield 53, 3)) ∧ (decode cX11_ways 53 = .ok (.iload_n 3, 1)) ∧ (decode cX11_ways 54 = .ok (.iaload, 1)) := by decide +kernel
theorem dX11_ways_41 : decode cX11_ways 41 = .ok (.iload_n 3, 1) := eX11_ways_41q.1
theorem dX11_ways_42 : decode cX11_ways 42 = .ok (.aload_n 0, 1) := eX11_ways_41q.2.1
theorem dX11_ways_43 : decode cX11_ways 43 = .ok (.invokevirtual 266, 3) := eX11_ways_41q.2.2.1
theorem dX11_ways_46 : decode cX11_ways 46 = .ok (.if_icmp .ge 39, 3) := eX11_ways_41q.2.2.2.1
theorem dX11_ways_49 : decode cX11_ways 49 = .ok (.aload_n 0, 1) := eX11_ways_41q.2.2.2.2.1
theorem dX11_ways_50 : decode cX11_ways 50 = .ok (.getfield 53, 3) := eX11_ways_41q.2.2.2.2.2.1
theorem dX11_ways_53 : decode cX11_ways 53 = .ok (.iload_n 3, 1) := eX11_ways_41q.2.2.2.2.2.2.1
theorem dX11_ways_54 : decode cX11_ways 54 = .ok (.iaload, 1) := eX11_ways_41q.2.2.2.2.2.2.2
theorem eX11_ways_55q : (decode cX11_ways 55 = .ok (.iload_n 2, 1)) ∧ (decode cX11_ways 56 = .ok (.if_icmp .ne 23, 3)) ∧ (decode cX11_ways 59 = .ok (.aload_n 0, 1)) ∧ (decode cX11_ways 60 = .ok (.getfield 91, 3)) ∧ (decode cX11_ways 63 = .ok (.aload_n 0, 1)) ∧ (decode cX11_ways 64 = .ok (.getfield 56, 3)) ∧ (decode cX11_ways 67 = .ok (.iload_n 3, 1)) ∧ (decode cX11_ways 68 = .ok (.iaload, 1)) := by decide +kernel
theorem dX11_ways_55 : decode cX11_ways 55 = .ok (.iload_n 2, 1) := eX11_ways_55q.1
theorem dX11_ways_56 : decode cX11_ways 56 = .ok (.if_icmp .ne 23, 3) := eX11_ways_55q.2.1
theorem dX11_ways_59 : decode cX11_ways 59 = .ok (.aload_n 0, 1) := eX11_ways_55q.2.2.1
theorem dX11_ways_60 : decode cX11_ways 60 = .ok (.getfield 91, 3) := eX11_ways_55q.2.2.2.1
theorem dX11_ways_63 : decode cX11_ways 63 = .ok (.aload_n 0, 1) := eX11_ways_55q.2.2.2.2.1
theorem dX11_ways_64 : decode cX11_ways 64 = .ok (.getfield 56, 3) := eX11_ways_55q.2.2.2.2.2.1
theorem dX11_ways_67 : decode cX11_ways 67 = .ok (.iload_n 3, 1) := eX11_ways_55q.2.2.2.2.2.2.1
theorem dX11_ways_68 : decode cX11_ways 68 = .ok (.iaload, 1) := eX11_ways_55q.2.2.2.2.2.2.2
theorem eX11_ways_69q : (decode cX11_ways 69 = .ok (.dup2, 1)) ∧ (decode cX11_ways 70 = .ok (.iaload, 1)) ∧ (decode cX11_ways 71 = .ok (.aload_n 0, 1)) ∧ (decode cX11_ways 72 = .ok (.getfield 91, 3)) ∧ (decode cX11_ways 75 = .ok (.iload_n 2, 1)) ∧ (decode cX11_ways 76 = .ok (.iaload, 1)) ∧ (decode cX11_ways 77 = .ok (.iadd, 1)) ∧ (decode cX11_ways 78 = .ok (.iastore, 1)) := by decide +kernel
theorem dX11_ways_69 : decode cX11_ways 69 = .ok (.dup2, 1) := eX11_ways_69q.1
theorem dX11_ways_70 : decode cX11_ways 70 = .ok (.iaload, 1) := eX11_ways_69q.2.1
theorem dX11_ways_71 : decode cX11_ways 71 = .ok (.aload_n 0, 1) := eX11_ways_69q.2.2.1
theorem dX11_ways_72 : decode cX11_ways 72 = .ok (.getfield 91, 3) := eX11_ways_69q.2.2.2.1
theorem dX11_ways_75 : decode cX11_ways 75 = .ok (.iload_n 2, 1) := eX11_ways_69q.2.2.2.2.1
theorem dX11_ways_76 : decode cX11_ways 76 = .ok (.iaload, 1) := eX11_ways_69q.2.2.2.2.2.1
theorem dX11_ways_77 : decode cX11_ways 77 = .ok (.iadd, 1) := eX11_ways_69q.2.2.2.2.2.2.1
theorem dX11_ways_78 : decode cX11_ways 78 = .ok (.iastore, 1) := eX11_ways_69q.2.2.2.2.2.2.2
theorem eX11_ways_79q : (decode cX11_ways 79 = .ok (.iinc 3 1, 3)) ∧ (decode cX11_ways 82 = .ok (.goto (-41), 3)) ∧ (decode cX11_ways 85 = .ok (.iinc 2 1, 3)) ∧ (decode cX11_ways 88 = .ok (.goto (-57), 3)) ∧ (decode cX11_ways 91 = .ok (.aload_n 0, 1)) ∧ (decode cX11_ways 92 = .ok (.getfield 91, 3)) ∧ (decode cX11_ways 95 = .ok (.aload_n 0, 1)) ∧ (decode cX11_ways 96 = .ok (.getfield 58, 3)) := by decide +kernel
theorem dX11_ways_79 : decode cX11_ways 79 = .ok (.iinc 3 1, 3) := eX11_ways_79q.1
theorem dX11_ways_82 : decode cX11_ways 82 = .ok (.goto (-41), 3) := eX11_ways_79q.2.1
theorem dX11_ways_85 : decode cX11_ways 85 = .ok (.iinc 2 1, 3) := eX11_ways_79q.2.2.1
theorem dX11_ways_88 : decode cX11_ways 88 = .ok (.goto (-57), 3) := eX11_ways_79q.2.2.2.1
theorem dX11_ways_91 : decode cX11_ways 91 = .ok (.aload_n 0, 1) := eX11_ways_79q.2.2.2.2.1
theorem dX11_ways_92 : decode cX11_ways 92 = .ok (.getfield 91, 3) := eX11_ways_79q.2.2.2.2.2.1
theorem dX11_ways_95 : decode cX11_ways 95 = .ok (.aload_n 0, 1) := eX11_ways_79q.2.2.2.2.2.2.1
theorem dX11_ways_96 : decode cX11_ways 96 = .ok (.getfield 58, 3) := eX11_ways_79q.2.2.2.2.2.2.2
theorem eX11_ways_99q : (decode cX11_ways 99 = .ok (.iload_n 1, 1)) ∧ (decode cX11_ways 100 = .ok (.iaload, 1)) ∧ (decode cX11_ways 101 = .ok (.iaload, 1)) ∧ (decode cX11_ways 102 = .ok (.ireturn, 1)) := by decide +kernel
theorem dX11_ways_99 : decode cX11_ways 99 = .ok (.iload_n 1, 1) := eX11_ways_99q.1
theorem dX11_ways_100 : decode cX11_ways 100 = .ok (.iaload, 1) := eX11_ways_99q.2.1
theorem dX11_ways_101 : decode cX11_ways 101 = .ok (.iaload, 1) := eX11_ways_99q.2.2.1
theorem dX11_ways_102 : decode cX11_ways 102 = .ok (.ireturn, 1) := eX11_ways_99q.2.2.2
set_option maxRecDepth 20000 in
theorem ggX11_tellDiamonds_X11_addresses : GoodIn wsX11_tellDiamonds wsX11_addresses := by
  have h := goodIn_app (goodIn_r (big := wsX11_tellDiamonds) (.code yX11_addresses cX11_addresses 5 (some .int) :: ([.methodLink RX11 301 yX11_seenBy, .instanceMethod yX11_seenBy, .selects RX11 yX11_seenBy yX11_seenBy, .initialized RX11, .code yX11_seenBy cX11_seenBy 4 (some .int), .fieldLink RX11 60 "PathProberModel" "now" "[I", .methodLink RX11 298 yX11_seenAt, .static yX11_seenAt, .code yX11_seenAt cX11_seenAt 3 (some .int)]) : List Cond) [9, 10, 11, 12, 8, 13, 14, 15, 16, 17] rfl (by decide +kernel)) (goodIn_few (big := wsX11_tellDiamonds) (fun _ h9 => List.mem_cons_of_mem _ (List.mem_append_right _ h9)) gb_0)
  exact h
set_option maxRecDepth 20000 in
theorem gX11_tellDiamonds_X11_addresses : GoodIn wsX11_tellDiamonds (wsV RX11 307 RX11 yX11_addresses wsX11_addresses) := goodIn_app (goodIn_r _ [5, 6, 7, 8] rfl (by decide +kernel)) ggX11_tellDiamonds_X11_addresses
set_option maxRecDepth 20000 in
theorem ggX11_tellDiamonds_J6_bitCount_0f7a4 : GoodIn wsX11_tellDiamonds wsJ6_bitCount_0f7a4 := goodIn_r _ [21, 22, 23, 24] rfl (by decide +kernel)
set_option maxRecDepth 20000 in
theorem gX11_tellDiamonds_J6_bitCount_0f7a4 : GoodIn wsX11_tellDiamonds (va_wsS RX11 351 yJ6_bitCount_0f7a4 wsJ6_bitCount_0f7a4) := goodIn_app (goodIn_r _ [18, 19, 20] rfl (by decide +kernel)) ggX11_tellDiamonds_J6_bitCount_0f7a4
theorem eX11_tellDiamonds_0q : (decode cX11_tellDiamonds 0 = .ok (.aload_n 0, 1)) ∧ (decode cX11_tellDiamonds 1 = .ok (.iconst 0, 1)) ∧ (decode cX11_tellDiamonds 2 = .ok (.putfield 416, 3)) ∧ (decode cX11_tellDiamonds 5 = .ok (.iconst 1, 1)) ∧ (decode cX11_tellDiamonds 6 = .ok (.istore_n 2, 1)) ∧ (decode cX11_tellDiamonds 7 = .ok (.iload_n 2, 1)) ∧ (decode cX11_tellDiamonds 8 = .ok (.bipush 10, 2)) ∧ (decode cX11_tellDiamonds 10 = .ok (.if_icmp .gt 24, 3)) := by decide +kernel
theorem dX11_tellDiamonds_0 : decode cX11_tellDiamonds 0 = .ok (.aload_n 0, 1) := eX11_tellDiamonds_0q.1
theorem dX11_tellDiamonds_1 : decode cX11_tellDiamonds 1 = .ok (.iconst 0, 1) := eX11_tellDiamonds_0q.2.1
theorem dX11_tellDiamonds_2 : decode cX11_tellDiamonds 2 = .ok (.putfield 416, 3) := eX11_tellDiamonds_0q.2.2.1
theorem dX11_tellDiamonds_5 : decode cX11_tellDiamonds 5 = .ok (.iconst 1, 1) := eX11_tellDiamonds_0q.2.2.2.1
theorem dX11_tellDiamonds_6 : decode cX11_tellDiamonds 6 = .ok (.istore_n 2, 1) := eX11_tellDiamonds_0q.2.2.2.2.1
theorem dX11_tellDiamonds_7 : decode cX11_tellDiamonds 7 = .ok (.iload_n 2, 1) := eX11_tellDiamonds_0q.2.2.2.2.2.1
theorem dX11_tellDiamonds_8 : decode cX11_tellDiamonds 8 = .ok (.bipush 10, 2) := eX11_tellDiamonds_0q.2.2.2.2.2.2.1
theorem dX11_tellDiamonds_10 : decode cX11_tellDiamonds 10 = .ok (.if_icmp .gt 24, 3) := eX11_tellDiamonds_0q.2.2.2.2.2.2.2
theorem eX11_tellDiamonds_13q : (decode cX11_tellDiamonds 13 = .ok (.aload_n 0, 1)) ∧ (decode cX11_tellDiamonds 14 = .ok (.getfield 94, 3)) ∧ (decode cX11_tellDiamonds 17 = .ok (.iload_n 2, 1)) ∧ (decode cX11_tellDiamonds 18 = .ok (.aload_n 0, 1)) ∧ (decode cX11_tellDiamonds 19 = .ok (.iload_n 1, 1)) ∧ (decode cX11_tellDiamonds 20 = .ok (.iload_n 2, 1)) ∧ (decode cX11_tellDiamonds 21 = .ok (.invokevirtual 307, 3)) ∧ (decode cX11_tellDiamonds 24 = .ok (.invokestatic 351, 3)) := by decide +kernel
theorem dX11_tellDiamonds_13 : decode cX11_tellDiamonds 13 = .ok (.aload_n 0, 1) := eX11_tellDiamonds_13q.1
theorem dX11_tellDiamonds_14 : decode cX11_tellDiamonds 14 = .ok (.getfield 94, 3) := eX11_tellDiamonds_13q.2.1
theorem dX11_tellDiamonds_17 : decode cX11_tellDiamonds 17 = .ok (.iload_n 2, 1) := eX11_tellDiamonds_13q.2.2.1
theorem dX11_tellDiamonds_18 : decode cX11_tellDiamonds 18 = .ok (.aload_n 0, 1) := eX11_tellDiamonds_13q.2.2.2.1
theorem dX11_tellDiamonds_19 : decode cX11_tellDiamonds 19 = .ok (.iload_n 1, 1) := eX11_tellDiamonds_13q.2.2.2.2.1
theorem dX11_tellDiamonds_20 : decode cX11_tellDiamonds 20 = .ok (.iload_n 2, 1) := eX11_tellDiamonds_13q.2.2.2.2.2.1
theorem dX11_tellDiamonds_21 : decode cX11_tellDiamonds 21 = .ok (.invokevirtual 307, 3) := eX11_tellDiamonds_13q.2.2.2.2.2.2.1
theorem dX11_tellDiamonds_24 : decode cX11_tellDiamonds 24 = .ok (.invokestatic 351, 3) := eX11_tellDiamonds_13q.2.2.2.2.2.2.2
theorem eX11_tellDiamonds_27q : (decode cX11_tellDiamonds 27 = .ok (.iastore, 1)) ∧ (decode cX11_tellDiamonds 28 = .ok (.iinc 2 1, 3)) ∧ (decode cX11_tellDiamonds 31 = .ok (.goto (-24), 3)) ∧ (decode cX11_tellDiamonds 34 = .ok (.iconst (-1), 1)) ∧ (decode cX11_tellDiamonds 35 = .ok (.istore_n 2, 1)) ∧ (decode cX11_tellDiamonds 36 = .ok (.iconst 1, 1)) ∧ (decode cX11_tellDiamonds 37 = .ok (.istore_n 3, 1)) ∧ (decode cX11_tellDiamonds 38 = .ok (.iload_n 3, 1)) := by decide +kernel
theorem dX11_tellDiamonds_27 : decode cX11_tellDiamonds 27 = .ok (.iastore, 1) := eX11_tellDiamonds_27q.1
theorem dX11_tellDiamonds_28 : decode cX11_tellDiamonds 28 = .ok (.iinc 2 1, 3) := eX11_tellDiamonds_27q.2.1
theorem dX11_tellDiamonds_31 : decode cX11_tellDiamonds 31 = .ok (.goto (-24), 3) := eX11_tellDiamonds_27q.2.2.1
theorem dX11_tellDiamonds_34 : decode cX11_tellDiamonds 34 = .ok (.iconst (-1), 1) := eX11_tellDiamonds_27q.2.2.2.1
theorem dX11_tellDiamonds_35 : decode cX11_tellDiamonds 35 = .ok (.istore_n 2, 1) := eX11_tellDiamonds_27q.2.2.2.2.1
theorem dX11_tellDiamonds_36 : decode cX11_tellDiamonds 36 = .ok (.iconst 1, 1) := eX11_tellDiamonds_27q.2.2.2.2.2.1
theorem dX11_tellDiamonds_37 : decode cX11_tellDiamonds 37 = .ok (.istore_n 3, 1) := eX11_tellDiamonds_27q.2.2.2.2.2.2.1
theorem dX11_tellDiamonds_38 : decode cX11_tellDiamonds 38 = .ok (.iload_n 3, 1) := eX11_tellDiamonds_27q.2.2.2.2.2.2.2
theorem eX11_tellDiamonds_39q : (decode cX11_tellDiamonds 39 = .ok (.bipush 10, 2)) ∧ (decode cX11_tellDiamonds 41 = .ok (.if_icmp .gt 90, 3)) ∧ (decode cX11_tellDiamonds 44 = .ok (.aload_n 0, 1)) ∧ (decode cX11_tellDiamonds 45 = .ok (.getfield 94, 3)) ∧ (decode cX11_tellDiamonds 48 = .ok (.iload_n 3, 1)) ∧ (decode cX11_tellDiamonds 49 = .ok (.iaload, 1)) ∧ (decode cX11_tellDiamonds 50 = .ok (.iconst 1, 1)) ∧ (decode cX11_tellDiamonds 51 = .ok (.if_icmp .ne 45, 3)) := by decide +kernel
theorem dX11_tellDiamonds_39 : decode cX11_tellDiamonds 39 = .ok (.bipush 10, 2) := eX11_tellDiamonds_39q.1
theorem dX11_tellDiamonds_41 : decode cX11_tellDiamonds 41 = .ok (.if_icmp .gt 90, 3) := eX11_tellDiamonds_39q.2.1
theorem dX11_tellDiamonds_44 : decode cX11_tellDiamonds 44 = .ok (.aload_n 0, 1) := eX11_tellDiamonds_39q.2.2.1
theorem dX11_tellDiamonds_45 : decode cX11_tellDiamonds 45 = .ok (.getfield 94, 3) := eX11_tellDiamonds_39q.2.2.2.1
theorem dX11_tellDiamonds_48 : decode cX11_tellDiamonds 48 = .ok (.iload_n 3, 1) := eX11_tellDiamonds_39q.2.2.2.2.1
theorem dX11_tellDiamonds_49 : decode cX11_tellDiamonds 49 = .ok (.iaload, 1) := eX11_tellDiamonds_39q.2.2.2.2.2.1
theorem dX11_tellDiamonds_50 : decode cX11_tellDiamonds 50 = .ok (.iconst 1, 1) := eX11_tellDiamonds_39q.2.2.2.2.2.2.1
theorem dX11_tellDiamonds_51 : decode cX11_tellDiamonds 51 = .ok (.if_icmp .ne 45, 3) := eX11_tellDiamonds_39q.2.2.2.2.2.2.2
theorem eX11_tellDiamonds_54q : (decode cX11_tellDiamonds 54 = .ok (.iload_n 2, 1)) ∧ (decode cX11_tellDiamonds 55 = .ok (.iconst (-1), 1)) ∧ (decode cX11_tellDiamonds 56 = .ok (.if_icmp .eq 40, 3)) ∧ (decode cX11_tellDiamonds 59 = .ok (.iload_n 3, 1)) ∧ (decode cX11_tellDiamonds 60 = .ok (.iload_n 2, 1)) ∧ (decode cX11_tellDiamonds 61 = .ok (.iconst 1, 1)) ∧ (decode cX11_tellDiamonds 62 = .ok (.iadd, 1)) ∧ (decode cX11_tellDiamonds 63 = .ok (.if_icmp .le 33, 3)) := by decide +kernel
theorem dX11_tellDiamonds_54 : decode cX11_tellDiamonds 54 = .ok (.iload_n 2, 1) := eX11_tellDiamonds_54q.1
theorem dX11_tellDiamonds_55 : decode cX11_tellDiamonds 55 = .ok (.iconst (-1), 1) := eX11_tellDiamonds_54q.2.1
theorem dX11_tellDiamonds_56 : decode cX11_tellDiamonds 56 = .ok (.if_icmp .eq 40, 3) := eX11_tellDiamonds_54q.2.2.1
theorem dX11_tellDiamonds_59 : decode cX11_tellDiamonds 59 = .ok (.iload_n 3, 1) := eX11_tellDiamonds_54q.2.2.2.1
theorem dX11_tellDiamonds_60 : decode cX11_tellDiamonds 60 = .ok (.iload_n 2, 1) := eX11_tellDiamonds_54q.2.2.2.2.1
theorem dX11_tellDiamonds_61 : decode cX11_tellDiamonds 61 = .ok (.iconst 1, 1) := eX11_tellDiamonds_54q.2.2.2.2.2.1
theorem dX11_tellDiamonds_62 : decode cX11_tellDiamonds 62 = .ok (.iadd, 1) := eX11_tellDiamonds_54q.2.2.2.2.2.2.1
theorem dX11_tellDiamonds_63 : decode cX11_tellDiamonds 63 = .ok (.if_icmp .le 33, 3) := eX11_tellDiamonds_54q.2.2.2.2.2.2.2
theorem eX11_tellDiamonds_66q : (decode cX11_tellDiamonds 66 = .ok (.aload_n 0, 1)) ∧ (decode cX11_tellDiamonds 67 = .ok (.getfield 97, 3)) ∧ (decode cX11_tellDiamonds 70 = .ok (.aload_n 0, 1)) ∧ (decode cX11_tellDiamonds 71 = .ok (.getfield 416, 3)) ∧ (decode cX11_tellDiamonds 74 = .ok (.iload_n 2, 1)) ∧ (decode cX11_tellDiamonds 75 = .ok (.iastore, 1)) ∧ (decode cX11_tellDiamonds 76 = .ok (.aload_n 0, 1)) ∧ (decode cX11_tellDiamonds 77 = .ok (.getfield 100, 3)) := by decide +kernel
theorem dX11_tellDiamonds_66 : decode cX11_tellDiamonds 66 = .ok (.aload_n 0, 1) := eX11_tellDiamonds_66q.1
theorem dX11_tellDiamonds_67 : decode cX11_tellDiamonds 67 = .ok (.getfield 97, 3) := eX11_tellDiamonds_66q.2.1
theorem dX11_tellDiamonds_70 : decode cX11_tellDiamonds 70 = .ok (.aload_n 0, 1) := eX11_tellDiamonds_66q.2.2.1
theorem dX11_tellDiamonds_71 : decode cX11_tellDiamonds 71 = .ok (.getfield 416, 3) := eX11_tellDiamonds_66q.2.2.2.1
theorem dX11_tellDiamonds_74 : decode cX11_tellDiamonds 74 = .ok (.iload_n 2, 1) := eX11_tellDiamonds_66q.2.2.2.2.1
theorem dX11_tellDiamonds_75 : decode cX11_tellDiamonds 75 = .ok (.iastore, 1) := eX11_tellDiamonds_66q.2.2.2.2.2.1
theorem dX11_tellDiamonds_76 : decode cX11_tellDiamonds 76 = .ok (.aload_n 0, 1) := eX11_tellDiamonds_66q.2.2.2.2.2.2.1
theorem dX11_tellDiamonds_77 : decode cX11_tellDiamonds 77 = .ok (.getfield 100, 3) := eX11_tellDiamonds_66q.2.2.2.2.2.2.2
theorem eX11_tellDiamonds_80q : (decode cX11_tellDiamonds 80 = .ok (.aload_n 0, 1)) ∧ (decode cX11_tellDiamonds 81 = .ok (.getfield 416, 3)) ∧ (decode cX11_tellDiamonds 84 = .ok (.iload_n 3, 1)) ∧ (decode cX11_tellDiamonds 85 = .ok (.iastore, 1)) ∧ (decode cX11_tellDiamonds 86 = .ok (.aload_n 0, 1)) ∧ (decode cX11_tellDiamonds 87 = .ok (.dup, 1)) ∧ (decode cX11_tellDiamonds 88 = .ok (.getfield 416, 3)) ∧ (decode cX11_tellDiamonds 91 = .ok (.iconst 1, 1)) := by decide +kernel
theorem dX11_tellDiamonds_80 : decode cX11_tellDiamonds 80 = .ok (.aload_n 0, 1) := eX11_tellDiamonds_80q.1
theorem dX11_tellDiamonds_81 : decode cX11_tellDiamonds 81 = .ok (.getfield 416, 3) := eX11_tellDiamonds_80q.2.1
theorem dX11_tellDiamonds_84 : decode cX11_tellDiamonds 84 = .ok (.iload_n 3, 1) := eX11_tellDiamonds_80q.2.2.1
theorem dX11_tellDiamonds_85 : decode cX11_tellDiamonds 85 = .ok (.iastore, 1) := eX11_tellDiamonds_80q.2.2.2.1
theorem dX11_tellDiamonds_86 : decode cX11_tellDiamonds 86 = .ok (.aload_n 0, 1) := eX11_tellDiamonds_80q.2.2.2.2.1
theorem dX11_tellDiamonds_87 : decode cX11_tellDiamonds 87 = .ok (.dup, 1) := eX11_tellDiamonds_80q.2.2.2.2.2.1
theorem dX11_tellDiamonds_88 : decode cX11_tellDiamonds 88 = .ok (.getfield 416, 3) := eX11_tellDiamonds_80q.2.2.2.2.2.2.1
theorem dX11_tellDiamonds_91 : decode cX11_tellDiamonds 91 = .ok (.iconst 1, 1) := eX11_tellDiamonds_80q.2.2.2.2.2.2.2
theorem eX11_tellDiamonds_92q : (decode cX11_tellDiamonds 92 = .ok (.iadd, 1)) ∧ (decode cX11_tellDiamonds 93 = .ok (.putfield 416, 3)) ∧ (decode cX11_tellDiamonds 96 = .ok (.aload_n 0, 1)) ∧ (decode cX11_tellDiamonds 97 = .ok (.getfield 94, 3)) ∧ (decode cX11_tellDiamonds 100 = .ok (.iload_n 3, 1)) ∧ (decode cX11_tellDiamonds 101 = .ok (.iaload, 1)) ∧ (decode cX11_tellDiamonds 102 = .ok (.iconst 1, 1)) ∧ (decode cX11_tellDiamonds 103 = .ok (.if_icmp .ne 7, 3)) := by decide +kernel
theorem dX11_tellDiamonds_92 : decode cX11_tellDiamonds 92 = .ok (.iadd, 1) := eX11_tellDiamonds_92q.1
theorem dX11_tellDiamonds_93 : decode cX11_tellDiamonds 93 = .ok (.putfield 416, 3) := eX11_tellDiamonds_92q.2.1
theorem dX11_tellDiamonds_96 : decode cX11_tellDiamonds 96 = .ok (.aload_n 0, 1) := eX11_tellDiamonds_92q.2.2.1
theorem dX11_tellDiamonds_97 : decode cX11_tellDiamonds 97 = .ok (.getfield 94, 3) := eX11_tellDiamonds_92q.2.2.2.1
theorem dX11_tellDiamonds_100 : decode cX11_tellDiamonds 100 = .ok (.iload_n 3, 1) := eX11_tellDiamonds_92q.2.2.2.2.1
theorem dX11_tellDiamonds_101 : decode cX11_tellDiamonds 101 = .ok (.iaload, 1) := eX11_tellDiamonds_92q.2.2.2.2.2.1
theorem dX11_tellDiamonds_102 : decode cX11_tellDiamonds 102 = .ok (.iconst 1, 1) := eX11_tellDiamonds_92q.2.2.2.2.2.2.1
theorem dX11_tellDiamonds_103 : decode cX11_tellDiamonds 103 = .ok (.if_icmp .ne 7, 3) := eX11_tellDiamonds_92q.2.2.2.2.2.2.2
theorem eX11_tellDiamonds_106q : (decode cX11_tellDiamonds 106 = .ok (.iload_n 3, 1)) ∧ (decode cX11_tellDiamonds 107 = .ok (.goto 17, 3)) ∧ (decode cX11_tellDiamonds 110 = .ok (.aload_n 0, 1)) ∧ (decode cX11_tellDiamonds 111 = .ok (.getfield 94, 3)) ∧ (decode cX11_tellDiamonds 114 = .ok (.iload_n 3, 1)) ∧ (decode cX11_tellDiamonds 115 = .ok (.iaload, 1)) ∧ (decode cX11_tellDiamonds 116 = .ok (.ifCond .ne 7, 3)) ∧ (decode cX11_tellDiamonds 119 = .ok (.iconst (-1), 1)) := by decide +kernel
theorem dX11_tellDiamonds_106 : decode cX11_tellDiamonds 106 = .ok (.iload_n 3, 1) := eX11_tellDiamonds_106q.1
theorem dX11_tellDiamonds_107 : decode cX11_tellDiamonds 107 = .ok (.goto 17, 3) := eX11_tellDiamonds_106q.2.1
theorem dX11_tellDiamonds_110 : decode cX11_tellDiamonds 110 = .ok (.aload_n 0, 1) := eX11_tellDiamonds_106q.2.2.1
theorem dX11_tellDiamonds_111 : decode cX11_tellDiamonds 111 = .ok (.getfield 94, 3) := eX11_tellDiamonds_106q.2.2.2.1
theorem dX11_tellDiamonds_114 : decode cX11_tellDiamonds 114 = .ok (.iload_n 3, 1) := eX11_tellDiamonds_106q.2.2.2.2.1
theorem dX11_tellDiamonds_115 : decode cX11_tellDiamonds 115 = .ok (.iaload, 1) := eX11_tellDiamonds_106q.2.2.2.2.2.1
theorem dX11_tellDiamonds_116 : decode cX11_tellDiamonds 116 = .ok (.ifCond .ne 7, 3) := eX11_tellDiamonds_106q.2.2.2.2.2.2.1
theorem dX11_tellDiamonds_119 : decode cX11_tellDiamonds 119 = .ok (.iconst (-1), 1) := eX11_tellDiamonds_106q.2.2.2.2.2.2.2
theorem eX11_tellDiamonds_120q : (decode cX11_tellDiamonds 120 = .ok (.goto 4, 3)) ∧ (decode cX11_tellDiamonds 123 = .ok (.iload_n 2, 1)) ∧ (decode cX11_tellDiamonds 124 = .ok (.istore_n 2, 1)) ∧ (decode cX11_tellDiamonds 125 = .ok (.iinc 3 1, 3)) ∧ (decode cX11_tellDiamonds 128 = .ok (.goto (-90), 3)) ∧ (decode cX11_tellDiamonds 131 = .ok (.return_, 1)) := by decide +kernel
theorem dX11_tellDiamonds_120 : decode cX11_tellDiamonds 120 = .ok (.goto 4, 3) := eX11_tellDiamonds_120q.1
theorem dX11_tellDiamonds_123 : decode cX11_tellDiamonds 123 = .ok (.iload_n 2, 1) := eX11_tellDiamonds_120q.2.1
theorem dX11_tellDiamonds_124 : decode cX11_tellDiamonds 124 = .ok (.istore_n 2, 1) := eX11_tellDiamonds_120q.2.2.1
theorem dX11_tellDiamonds_125 : decode cX11_tellDiamonds 125 = .ok (.iinc 3 1, 3) := eX11_tellDiamonds_120q.2.2.2.1
theorem dX11_tellDiamonds_128 : decode cX11_tellDiamonds 128 = .ok (.goto (-90), 3) := eX11_tellDiamonds_120q.2.2.2.2.1
theorem dX11_tellDiamonds_131 : decode cX11_tellDiamonds 131 = .ok (.return_, 1) := eX11_tellDiamonds_120q.2.2.2.2.2
set_option maxRecDepth 20000 in
theorem ggX11_length_X11_tellPlaces : GoodIn wsX11_length wsX11_tellPlaces := by
  have h := goodIn_app (goodIn_r (big := wsX11_length) (.code yX11_tellPlaces cX11_tellPlaces 5 none :: ([.fieldLink RX11 87 "PathProberModel" "isAt" "[Z", .fieldLink RX11 73 "PathProberModel" "reach" "[I", .fieldLink RX11 58 "PathProberModel" "goal" "[I", .fieldLink RX11 56 "PathProberModel" "to" "[I", .methodLink RX11 263 yX11_routers, .instanceMethod yX11_routers, .selects RX11 yX11_routers yX11_routers, .initialized RX11, .code yX11_routers cX11_routers 1 (some .int), .fieldLink RX11 34 "PathProberModel" "told" "[I", .methodLink RX11 266 yX11_links, .instanceMethod yX11_links, .selects RX11 yX11_links yX11_links, .code yX11_links cX11_links 1 (some .int), .methodLink RX11 269 yX11_isBranch, .instanceMethod yX11_isBranch, .selects RX11 yX11_isBranch yX11_isBranch, .code yX11_isBranch cX11_isBranch 4 (some .boolean), .fieldLink RX11 53 "PathProberModel" "from" "[I"]) : List Cond) [7, 1, 8, 2, 9, 10, 11, 12, 6, 13, 14, 15, 16, 17, 18, 19, 20, 21, 22, 23] rfl (by decide +kernel)) (goodIn_few (big := wsX11_length) (fun _ h9 => List.mem_cons_of_mem _ (List.mem_append_right _ h9)) gb_0)
  exact h
set_option maxRecDepth 20000 in
theorem gX11_length_X11_tellPlaces : GoodIn wsX11_length (wsV RX11 407 RX11 yX11_tellPlaces wsX11_tellPlaces) := goodIn_app (goodIn_r _ [3, 4, 5, 6] rfl (by decide +kernel)) ggX11_length_X11_tellPlaces
theorem eX11_length_0q : (decode cX11_length 0 = .ok (.aload_n 0, 1)) ∧ (decode cX11_length 1 = .ok (.iload_n 1, 1)) ∧ (decode cX11_length 2 = .ok (.invokevirtual 407, 3)) ∧ (decode cX11_length 5 = .ok (.iconst 0, 1)) ∧ (decode cX11_length 6 = .ok (.istore_n 3, 1)) ∧ (decode cX11_length 7 = .ok (.bipush 12, 2)) ∧ (decode cX11_length 9 = .ok (.istore 4, 2)) ∧ (decode cX11_length 11 = .ok (.iload 4, 2)) := by decide +kernel
theorem dX11_length_0 : decode cX11_length 0 = .ok (.aload_n 0, 1) := eX11_length_0q.1
theorem dX11_length_1 : decode cX11_length 1 = .ok (.iload_n 1, 1) := eX11_length_0q.2.1
theorem dX11_length_2 : decode cX11_length 2 = .ok (.invokevirtual 407, 3) := eX11_length_0q.2.2.1
theorem dX11_length_5 : decode cX11_length 5 = .ok (.iconst 0, 1) := eX11_length_0q.2.2.2.1
theorem dX11_length_6 : decode cX11_length 6 = .ok (.istore_n 3, 1) := eX11_length_0q.2.2.2.2.1
theorem dX11_length_7 : decode cX11_length 7 = .ok (.bipush 12, 2) := eX11_length_0q.2.2.2.2.2.1
theorem dX11_length_9 : decode cX11_length 9 = .ok (.istore 4, 2) := eX11_length_0q.2.2.2.2.2.2.1
theorem dX11_length_11 : decode cX11_length 11 = .ok (.iload 4, 2) := eX11_length_0q.2.2.2.2.2.2.2
theorem eX11_length_13q : (decode cX11_length 13 = .ok (.ifCond .le 40, 3)) ∧ (decode cX11_length 16 = .ok (.aload_n 0, 1)) ∧ (decode cX11_length 17 = .ok (.getfield 87, 3)) ∧ (decode cX11_length 20 = .ok (.bipush 14, 2)) ∧ (decode cX11_length 22 = .ok (.aload_n 0, 1)) ∧ (decode cX11_length 23 = .ok (.getfield 58, 3)) ∧ (decode cX11_length 26 = .ok (.iload_n 1, 1)) ∧ (decode cX11_length 27 = .ok (.iaload, 1)) := by decide +kernel
theorem dX11_length_13 : decode cX11_length 13 = .ok (.ifCond .le 40, 3) := eX11_length_13q.1
theorem dX11_length_16 : decode cX11_length 16 = .ok (.aload_n 0, 1) := eX11_length_13q.2.1
theorem dX11_length_17 : decode cX11_length 17 = .ok (.getfield 87, 3) := eX11_length_13q.2.2.1
theorem dX11_length_20 : decode cX11_length 20 = .ok (.bipush 14, 2) := eX11_length_13q.2.2.2.1
theorem dX11_length_22 : decode cX11_length 22 = .ok (.aload_n 0, 1) := eX11_length_13q.2.2.2.2.1
theorem dX11_length_23 : decode cX11_length 23 = .ok (.getfield 58, 3) := eX11_length_13q.2.2.2.2.2.1
theorem dX11_length_26 : decode cX11_length 26 = .ok (.iload_n 1, 1) := eX11_length_13q.2.2.2.2.2.2.1
theorem dX11_length_27 : decode cX11_length 27 = .ok (.iaload, 1) := eX11_length_13q.2.2.2.2.2.2.2
theorem eX11_length_28q : (decode cX11_length 28 = .ok (.imul, 1)) ∧ (decode cX11_length 29 = .ok (.iload 4, 2)) ∧ (decode cX11_length 31 = .ok (.iadd, 1)) ∧ (decode cX11_length 32 = .ok (.baload, 1)) ∧ (decode cX11_length 33 = .ok (.ifCond .eq 14, 3)) ∧ (decode cX11_length 36 = .ok (.iload_n 3, 1)) ∧ (decode cX11_length 37 = .ok (.ifCond .eq 7, 3)) ∧ (decode cX11_length 40 = .ok (.iload_n 2, 1)) := by decide +kernel
theorem dX11_length_28 : decode cX11_length 28 = .ok (.imul, 1) := eX11_length_28q.1
theorem dX11_length_29 : decode cX11_length 29 = .ok (.iload 4, 2) := eX11_length_28q.2.1
theorem dX11_length_31 : decode cX11_length 31 = .ok (.iadd, 1) := eX11_length_28q.2.2.1
theorem dX11_length_32 : decode cX11_length 32 = .ok (.baload, 1) := eX11_length_28q.2.2.2.1
theorem dX11_length_33 : decode cX11_length 33 = .ok (.ifCond .eq 14, 3) := eX11_length_28q.2.2.2.2.1
theorem dX11_length_36 : decode cX11_length 36 = .ok (.iload_n 3, 1) := eX11_length_28q.2.2.2.2.2.1
theorem dX11_length_37 : decode cX11_length 37 = .ok (.ifCond .eq 7, 3) := eX11_length_28q.2.2.2.2.2.2.1
theorem dX11_length_40 : decode cX11_length 40 = .ok (.iload_n 2, 1) := eX11_length_28q.2.2.2.2.2.2.2
theorem eX11_length_41q : (decode cX11_length 41 = .ok (.ifCond .ne 6, 3)) ∧ (decode cX11_length 44 = .ok (.iload 4, 2)) ∧ (decode cX11_length 46 = .ok (.istore_n 3, 1)) ∧ (decode cX11_length 47 = .ok (.iinc 4 (-1), 3)) ∧ (decode cX11_length 50 = .ok (.goto (-39), 3)) ∧ (decode cX11_length 53 = .ok (.iload_n 3, 1)) ∧ (decode cX11_length 54 = .ok (.ireturn, 1)) := by decide +kernel
theorem dX11_length_41 : decode cX11_length 41 = .ok (.ifCond .ne 6, 3) := eX11_length_41q.1
theorem dX11_length_44 : decode cX11_length 44 = .ok (.iload 4, 2) := eX11_length_41q.2.1
theorem dX11_length_46 : decode cX11_length 46 = .ok (.istore_n 3, 1) := eX11_length_41q.2.2.1
theorem dX11_length_47 : decode cX11_length 47 = .ok (.iinc 4 (-1), 3) := eX11_length_41q.2.2.2.1
theorem dX11_length_50 : decode cX11_length 50 = .ok (.goto (-39), 3) := eX11_length_41q.2.2.2.2.1
theorem dX11_length_53 : decode cX11_length 53 = .ok (.iload_n 3, 1) := eX11_length_41q.2.2.2.2.2.1
theorem dX11_length_54 : decode cX11_length 54 = .ok (.ireturn, 1) := eX11_length_41q.2.2.2.2.2.2
set_option maxRecDepth 20000 in
theorem ggX11_isAsNoted_X11_walk : GoodIn wsX11_isAsNoted wsX11_walk := by
  have h := goodIn_app (goodIn_r (big := wsX11_isAsNoted) (.code yX11_walk cX11_walk 10 none :: (wsX11_walk_r1 ++ wsX11_walk_r2) : List Cond) [11, 12, 13, 14, 15, 5, 16, 17, 18, 10, 19, 20, 21, 22, 23, 24, 25, 26, 27, 28, 29, 30, 31, 32, 33, 34, 35, 36, 37, 38, 39, 40, 41, 42, 43, 44, 45] rfl (by decide +kernel)) (goodIn_few (big := wsX11_isAsNoted) (fun _ h9 => List.mem_cons_of_mem _ (List.mem_append_right _ h9)) gb_0)
  exact h
set_option maxRecDepth 20000 in
theorem gX11_isAsNoted_X11_walk : GoodIn wsX11_isAsNoted (wsV RX11 337 RX11 yX11_walk wsX11_walk) := goodIn_app (goodIn_r _ [7, 8, 9, 10] rfl (by decide +kernel)) ggX11_isAsNoted_X11_walk
set_option maxRecDepth 20000 in
theorem ggX11_isAsNoted_X11_answers : GoodIn wsX11_isAsNoted wsX11_answers := by
  have h := goodIn_app (goodIn_r (big := wsX11_isAsNoted) (.code yX11_answers cX11_answers 2 (some .boolean) :: ([.fieldLink RX11 292 "PathProberModel" "endRouter" "I", .fieldLink RX11 47 "PathProberModel" "mute" "[I", .fieldLink RX11 58 "PathProberModel" "goal" "[I"]) : List Cond) [49, 14, 50, 12] rfl (by decide +kernel)) (goodIn_few (big := wsX11_isAsNoted) (fun _ h9 => List.mem_cons_of_mem _ (List.mem_append_right _ h9)) gb_0)
  exact h
set_option maxRecDepth 20000 in
theorem gX11_isAsNoted_X11_answers : GoodIn wsX11_isAsNoted (wsV RX11 341 RX11 yX11_answers wsX11_answers) := goodIn_app (goodIn_r _ [46, 47, 48, 10] rfl (by decide +kernel)) ggX11_isAsNoted_X11_answers
theorem eX11_isAsNoted_0q : (decode cX11_isAsNoted 0 = .ok (.iconst 1, 1)) ∧ (decode cX11_isAsNoted 1 = .ok (.istore_n 1, 1)) ∧ (decode cX11_isAsNoted 2 = .ok (.iconst 0, 1)) ∧ (decode cX11_isAsNoted 3 = .ok (.istore_n 2, 1)) ∧ (decode cX11_isAsNoted 4 = .ok (.iload_n 2, 1)) ∧ (decode cX11_isAsNoted 5 = .ok (.aload_n 0, 1)) ∧ (decode cX11_isAsNoted 6 = .ok (.getfield 253, 3)) ∧ (decode cX11_isAsNoted 9 = .ok (.if_icmp .ge 67, 3)) := by decide +kernel
theorem dX11_isAsNoted_0 : decode cX11_isAsNoted 0 = .ok (.iconst 1, 1) := eX11_isAsNoted_0q.1
theorem dX11_isAsNoted_1 : decode cX11_isAsNoted 1 = .ok (.istore_n 1, 1) := eX11_isAsNoted_0q.2.1
theorem dX11_isAsNoted_2 : decode cX11_isAsNoted 2 = .ok (.iconst 0, 1) := eX11_isAsNoted_0q.2.2.1
theorem dX11_isAsNoted_3 : decode cX11_isAsNoted 3 = .ok (.istore_n 2, 1) := eX11_isAsNoted_0q.2.2.2.1
theorem dX11_isAsNoted_4 : decode cX11_isAsNoted 4 = .ok (.iload_n 2, 1) := eX11_isAsNoted_0q.2.2.2.2.1
theorem dX11_isAsNoted_5 : decode cX11_isAsNoted 5 = .ok (.aload_n 0, 1) := eX11_isAsNoted_0q.2.2.2.2.2.1
theorem dX11_isAsNoted_6 : decode cX11_isAsNoted 6 = .ok (.getfield 253, 3) := eX11_isAsNoted_0q.2.2.2.2.2.2.1
theorem dX11_isAsNoted_9 : decode cX11_isAsNoted 9 = .ok (.if_icmp .ge 67, 3) := eX11_isAsNoted_0q.2.2.2.2.2.2.2
theorem eX11_isAsNoted_12q : (decode cX11_isAsNoted 12 = .ok (.iload_n 1, 1)) ∧ (decode cX11_isAsNoted 13 = .ok (.ifCond .eq 63, 3)) ∧ (decode cX11_isAsNoted 16 = .ok (.aload_n 0, 1)) ∧ (decode cX11_isAsNoted 17 = .ok (.aload_n 0, 1)) ∧ (decode cX11_isAsNoted 18 = .ok (.getfield 103, 3)) ∧ (decode cX11_isAsNoted 21 = .ok (.iload_n 2, 1)) ∧ (decode cX11_isAsNoted 22 = .ok (.iaload, 1)) ∧ (decode cX11_isAsNoted 23 = .ok (.aload_n 0, 1)) := by decide +kernel
theorem dX11_isAsNoted_12 : decode cX11_isAsNoted 12 = .ok (.iload_n 1, 1) := eX11_isAsNoted_12q.1
theorem dX11_isAsNoted_13 : decode cX11_isAsNoted 13 = .ok (.ifCond .eq 63, 3) := eX11_isAsNoted_12q.2.1
theorem dX11_isAsNoted_16 : decode cX11_isAsNoted 16 = .ok (.aload_n 0, 1) := eX11_isAsNoted_12q.2.2.1
theorem dX11_isAsNoted_17 : decode cX11_isAsNoted 17 = .ok (.aload_n 0, 1) := eX11_isAsNoted_12q.2.2.2.1
theorem dX11_isAsNoted_18 : decode cX11_isAsNoted 18 = .ok (.getfield 103, 3) := eX11_isAsNoted_12q.2.2.2.2.1
theorem dX11_isAsNoted_21 : decode cX11_isAsNoted 21 = .ok (.iload_n 2, 1) := eX11_isAsNoted_12q.2.2.2.2.2.1
theorem dX11_isAsNoted_22 : decode cX11_isAsNoted 22 = .ok (.iaload, 1) := eX11_isAsNoted_12q.2.2.2.2.2.2.1
theorem dX11_isAsNoted_23 : decode cX11_isAsNoted 23 = .ok (.aload_n 0, 1) := eX11_isAsNoted_12q.2.2.2.2.2.2.2
theorem eX11_isAsNoted_24q : (decode cX11_isAsNoted 24 = .ok (.getfield 106, 3)) ∧ (decode cX11_isAsNoted 27 = .ok (.iload_n 2, 1)) ∧ (decode cX11_isAsNoted 28 = .ok (.iaload, 1)) ∧ (decode cX11_isAsNoted 29 = .ok (.aload_n 0, 1)) ∧ (decode cX11_isAsNoted 30 = .ok (.getfield 109, 3)) ∧ (decode cX11_isAsNoted 33 = .ok (.iload_n 2, 1)) ∧ (decode cX11_isAsNoted 34 = .ok (.iaload, 1)) ∧ (decode cX11_isAsNoted 35 = .ok (.invokevirtual 337, 3)) := by decide +kernel
theorem dX11_isAsNoted_24 : decode cX11_isAsNoted 24 = .ok (.getfield 106, 3) := eX11_isAsNoted_24q.1
theorem dX11_isAsNoted_27 : decode cX11_isAsNoted 27 = .ok (.iload_n 2, 1) := eX11_isAsNoted_24q.2.1
theorem dX11_isAsNoted_28 : decode cX11_isAsNoted 28 = .ok (.iaload, 1) := eX11_isAsNoted_24q.2.2.1
theorem dX11_isAsNoted_29 : decode cX11_isAsNoted 29 = .ok (.aload_n 0, 1) := eX11_isAsNoted_24q.2.2.2.1
theorem dX11_isAsNoted_30 : decode cX11_isAsNoted 30 = .ok (.getfield 109, 3) := eX11_isAsNoted_24q.2.2.2.2.1
theorem dX11_isAsNoted_33 : decode cX11_isAsNoted 33 = .ok (.iload_n 2, 1) := eX11_isAsNoted_24q.2.2.2.2.2.1
theorem dX11_isAsNoted_34 : decode cX11_isAsNoted 34 = .ok (.iaload, 1) := eX11_isAsNoted_24q.2.2.2.2.2.2.1
theorem dX11_isAsNoted_35 : decode cX11_isAsNoted 35 = .ok (.invokevirtual 337, 3) := eX11_isAsNoted_24q.2.2.2.2.2.2.2
theorem eX11_isAsNoted_38q : (decode cX11_isAsNoted 38 = .ok (.aload_n 0, 1)) ∧ (decode cX11_isAsNoted 39 = .ok (.aload_n 0, 1)) ∧ (decode cX11_isAsNoted 40 = .ok (.getfield 106, 3)) ∧ (decode cX11_isAsNoted 43 = .ok (.iload_n 2, 1)) ∧ (decode cX11_isAsNoted 44 = .ok (.iaload, 1)) ∧ (decode cX11_isAsNoted 45 = .ok (.invokevirtual 341, 3)) ∧ (decode cX11_isAsNoted 48 = .ok (.ifCond .eq 20, 3)) ∧ (decode cX11_isAsNoted 51 = .ok (.aload_n 0, 1)) := by decide +kernel
theorem dX11_isAsNoted_38 : decode cX11_isAsNoted 38 = .ok (.aload_n 0, 1) := eX11_isAsNoted_38q.1
theorem dX11_isAsNoted_39 : decode cX11_isAsNoted 39 = .ok (.aload_n 0, 1) := eX11_isAsNoted_38q.2.1
theorem dX11_isAsNoted_40 : decode cX11_isAsNoted 40 = .ok (.getfield 106, 3) := eX11_isAsNoted_38q.2.2.1
theorem dX11_isAsNoted_43 : decode cX11_isAsNoted 43 = .ok (.iload_n 2, 1) := eX11_isAsNoted_38q.2.2.2.1
theorem dX11_isAsNoted_44 : decode cX11_isAsNoted 44 = .ok (.iaload, 1) := eX11_isAsNoted_38q.2.2.2.2.1
theorem dX11_isAsNoted_45 : decode cX11_isAsNoted 45 = .ok (.invokevirtual 341, 3) := eX11_isAsNoted_38q.2.2.2.2.2.1
theorem dX11_isAsNoted_48 : decode cX11_isAsNoted 48 = .ok (.ifCond .eq 20, 3) := eX11_isAsNoted_38q.2.2.2.2.2.2.1
theorem dX11_isAsNoted_51 : decode cX11_isAsNoted 51 = .ok (.aload_n 0, 1) := eX11_isAsNoted_38q.2.2.2.2.2.2.2
theorem eX11_isAsNoted_52q : (decode cX11_isAsNoted 52 = .ok (.getfield 295, 3)) ∧ (decode cX11_isAsNoted 55 = .ok (.aload_n 0, 1)) ∧ (decode cX11_isAsNoted 56 = .ok (.getfield 112, 3)) ∧ (decode cX11_isAsNoted 59 = .ok (.iload_n 2, 1)) ∧ (decode cX11_isAsNoted 60 = .ok (.iaload, 1)) ∧ (decode cX11_isAsNoted 61 = .ok (.if_icmp .ne 7, 3)) ∧ (decode cX11_isAsNoted 64 = .ok (.iconst 1, 1)) ∧ (decode cX11_isAsNoted 65 = .ok (.goto 4, 3)) := by decide +kernel
theorem dX11_isAsNoted_52 : decode cX11_isAsNoted 52 = .ok (.getfield 295, 3) := eX11_isAsNoted_52q.1
theorem dX11_isAsNoted_55 : decode cX11_isAsNoted 55 = .ok (.aload_n 0, 1) := eX11_isAsNoted_52q.2.1
theorem dX11_isAsNoted_56 : decode cX11_isAsNoted 56 = .ok (.getfield 112, 3) := eX11_isAsNoted_52q.2.2.1
theorem dX11_isAsNoted_59 : decode cX11_isAsNoted 59 = .ok (.iload_n 2, 1) := eX11_isAsNoted_52q.2.2.2.1
theorem dX11_isAsNoted_60 : decode cX11_isAsNoted 60 = .ok (.iaload, 1) := eX11_isAsNoted_52q.2.2.2.2.1
theorem dX11_isAsNoted_61 : decode cX11_isAsNoted 61 = .ok (.if_icmp .ne 7, 3) := eX11_isAsNoted_52q.2.2.2.2.2.1
theorem dX11_isAsNoted_64 : decode cX11_isAsNoted 64 = .ok (.iconst 1, 1) := eX11_isAsNoted_52q.2.2.2.2.2.2.1
theorem dX11_isAsNoted_65 : decode cX11_isAsNoted 65 = .ok (.goto 4, 3) := eX11_isAsNoted_52q.2.2.2.2.2.2.2
theorem eX11_isAsNoted_68q : (decode cX11_isAsNoted 68 = .ok (.iconst 0, 1)) ∧ (decode cX11_isAsNoted 69 = .ok (.istore_n 1, 1)) ∧ (decode cX11_isAsNoted 70 = .ok (.iinc 2 1, 3)) ∧ (decode cX11_isAsNoted 73 = .ok (.goto (-69), 3)) ∧ (decode cX11_isAsNoted 76 = .ok (.iload_n 1, 1)) ∧ (decode cX11_isAsNoted 77 = .ok (.ireturn, 1)) := by decide +kernel
theorem dX11_isAsNoted_68 : decode cX11_isAsNoted 68 = .ok (.iconst 0, 1) := eX11_isAsNoted_68q.1
theorem dX11_isAsNoted_69 : decode cX11_isAsNoted 69 = .ok (.istore_n 1, 1) := eX11_isAsNoted_68q.2.1
theorem dX11_isAsNoted_70 : decode cX11_isAsNoted 70 = .ok (.iinc 2 1, 3) := eX11_isAsNoted_68q.2.2.1
theorem dX11_isAsNoted_73 : decode cX11_isAsNoted 73 = .ok (.goto (-69), 3) := eX11_isAsNoted_68q.2.2.2.1
theorem dX11_isAsNoted_76 : decode cX11_isAsNoted 76 = .ok (.iload_n 1, 1) := eX11_isAsNoted_68q.2.2.2.2.1
theorem dX11_isAsNoted_77 : decode cX11_isAsNoted 77 = .ok (.ireturn, 1) := eX11_isAsNoted_68q.2.2.2.2.2
set_option maxRecDepth 20000 in
theorem ggX11_tellFits_X11_isAsNoted : GoodIn wsX11_tellFits wsX11_isAsNoted := by
  have h := goodIn_app (goodIn_r (big := wsX11_tellFits) (.code yX11_isAsNoted cX11_isAsNoted 3 (some .boolean) :: (wsX11_isAsNoted_r1 ++ (wsX11_isAsNoted_r2 ++ wsX11_isAsNoted_r3)) : List Cond) [9, 10, 11, 12, 13, 14, 15, 16, 17, 18, 8, 19, 20, 21, 22, 23, 24, 25, 26, 27, 1, 2, 28, 3, 29, 30, 31, 32, 33, 34, 35, 36, 37, 38, 39, 40, 41, 42, 43, 44, 45, 46, 47, 48, 49, 50, 51, 52, 53, 54, 55] rfl (by decide +kernel)) (goodIn_few (big := wsX11_tellFits) (fun _ h9 => List.mem_cons_of_mem _ (List.mem_append_right _ h9)) gb_0)
  exact h
set_option maxRecDepth 20000 in
theorem gX11_tellFits_X11_isAsNoted : GoodIn wsX11_tellFits (wsV RX11 450 RX11 yX11_isAsNoted wsX11_isAsNoted) := goodIn_app (goodIn_r _ [5, 6, 7, 8] rfl (by decide +kernel)) ggX11_tellFits_X11_isAsNoted
theorem eX11_tellFits_0q : (decode cX11_tellFits 0 = .ok (.aload_n 0, 1)) ∧ (decode cX11_tellFits 1 = .ok (.iload_n 1, 1)) ∧ (decode cX11_tellFits 2 = .ok (.putfield 76, 3)) ∧ (decode cX11_tellFits 5 = .ok (.iconst 0, 1)) ∧ (decode cX11_tellFits 6 = .ok (.istore_n 2, 1)) ∧ (decode cX11_tellFits 7 = .ok (.iload_n 2, 1)) ∧ (decode cX11_tellFits 8 = .ok (.bipush 64, 2)) ∧ (decode cX11_tellFits 10 = .ok (.if_icmp .ge 51, 3)) := by decide +kernel
theorem dX11_tellFits_0 : decode cX11_tellFits 0 = .ok (.aload_n 0, 1) := eX11_tellFits_0q.1
theorem dX11_tellFits_1 : decode cX11_tellFits 1 = .ok (.iload_n 1, 1) := eX11_tellFits_0q.2.1
theorem dX11_tellFits_2 : decode cX11_tellFits 2 = .ok (.putfield 76, 3) := eX11_tellFits_0q.2.2.1
theorem dX11_tellFits_5 : decode cX11_tellFits 5 = .ok (.iconst 0, 1) := eX11_tellFits_0q.2.2.2.1
theorem dX11_tellFits_6 : decode cX11_tellFits 6 = .ok (.istore_n 2, 1) := eX11_tellFits_0q.2.2.2.2.1
theorem dX11_tellFits_7 : decode cX11_tellFits 7 = .ok (.iload_n 2, 1) := eX11_tellFits_0q.2.2.2.2.2.1
theorem dX11_tellFits_8 : decode cX11_tellFits 8 = .ok (.bipush 64, 2) := eX11_tellFits_0q.2.2.2.2.2.2.1
theorem dX11_tellFits_10 : decode cX11_tellFits 10 = .ok (.if_icmp .ge 51, 3) := eX11_tellFits_0q.2.2.2.2.2.2.2
theorem eX11_tellFits_13q : (decode cX11_tellFits 13 = .ok (.aload_n 0, 1)) ∧ (decode cX11_tellFits 14 = .ok (.iload_n 2, 1)) ∧ (decode cX11_tellFits 15 = .ok (.bipush 16, 2)) ∧ (decode cX11_tellFits 17 = .ok (.idiv, 1)) ∧ (decode cX11_tellFits 18 = .ok (.putfield 276, 3)) ∧ (decode cX11_tellFits 21 = .ok (.aload_n 0, 1)) ∧ (decode cX11_tellFits 22 = .ok (.iload_n 2, 1)) ∧ (decode cX11_tellFits 23 = .ok (.bipush 16, 2)) := by decide +kernel
theorem dX11_tellFits_13 : decode cX11_tellFits 13 = .ok (.aload_n 0, 1) := eX11_tellFits_13q.1
theorem dX11_tellFits_14 : decode cX11_tellFits 14 = .ok (.iload_n 2, 1) := eX11_tellFits_13q.2.1
theorem dX11_tellFits_15 : decode cX11_tellFits 15 = .ok (.bipush 16, 2) := eX11_tellFits_13q.2.2.1
theorem dX11_tellFits_17 : decode cX11_tellFits 17 = .ok (.idiv, 1) := eX11_tellFits_13q.2.2.2.1
theorem dX11_tellFits_18 : decode cX11_tellFits 18 = .ok (.putfield 276, 3) := eX11_tellFits_13q.2.2.2.2.1
theorem dX11_tellFits_21 : decode cX11_tellFits 21 = .ok (.aload_n 0, 1) := eX11_tellFits_13q.2.2.2.2.2.1
theorem dX11_tellFits_22 : decode cX11_tellFits 22 = .ok (.iload_n 2, 1) := eX11_tellFits_13q.2.2.2.2.2.2.1
theorem dX11_tellFits_23 : decode cX11_tellFits 23 = .ok (.bipush 16, 2) := eX11_tellFits_13q.2.2.2.2.2.2.2
theorem eX11_tellFits_25q : (decode cX11_tellFits 25 = .ok (.irem, 1)) ∧ (decode cX11_tellFits 26 = .ok (.putfield 279, 3)) ∧ (decode cX11_tellFits 29 = .ok (.aload_n 0, 1)) ∧ (decode cX11_tellFits 30 = .ok (.getfield 115, 3)) ∧ (decode cX11_tellFits 33 = .ok (.iload_n 2, 1)) ∧ (decode cX11_tellFits 34 = .ok (.aload_n 0, 1)) ∧ (decode cX11_tellFits 35 = .ok (.getfield 276, 3)) ∧ (decode cX11_tellFits 38 = .ok (.iconst 2, 1)) := by decide +kernel
theorem dX11_tellFits_25 : decode cX11_tellFits 25 = .ok (.irem, 1) := eX11_tellFits_25q.1
theorem dX11_tellFits_26 : decode cX11_tellFits 26 = .ok (.putfield 279, 3) := eX11_tellFits_25q.2.1
theorem dX11_tellFits_29 : decode cX11_tellFits 29 = .ok (.aload_n 0, 1) := eX11_tellFits_25q.2.2.1
theorem dX11_tellFits_30 : decode cX11_tellFits 30 = .ok (.getfield 115, 3) := eX11_tellFits_25q.2.2.2.1
theorem dX11_tellFits_33 : decode cX11_tellFits 33 = .ok (.iload_n 2, 1) := eX11_tellFits_25q.2.2.2.2.1
theorem dX11_tellFits_34 : decode cX11_tellFits 34 = .ok (.aload_n 0, 1) := eX11_tellFits_25q.2.2.2.2.2.1
theorem dX11_tellFits_35 : decode cX11_tellFits 35 = .ok (.getfield 276, 3) := eX11_tellFits_25q.2.2.2.2.2.2.1
theorem dX11_tellFits_38 : decode cX11_tellFits 38 = .ok (.iconst 2, 1) := eX11_tellFits_25q.2.2.2.2.2.2.2
theorem eX11_tellFits_39q : (decode cX11_tellFits 39 = .ok (.if_icmp .eq 14, 3)) ∧ (decode cX11_tellFits 42 = .ok (.aload_n 0, 1)) ∧ (decode cX11_tellFits 43 = .ok (.invokevirtual 450, 3)) ∧ (decode cX11_tellFits 46 = .ok (.ifCond .eq 7, 3)) ∧ (decode cX11_tellFits 49 = .ok (.iconst 1, 1)) ∧ (decode cX11_tellFits 50 = .ok (.goto 4, 3)) ∧ (decode cX11_tellFits 53 = .ok (.iconst 0, 1)) ∧ (decode cX11_tellFits 54 = .ok (.bastore, 1)) := by decide +kernel
theorem dX11_tellFits_39 : decode cX11_tellFits 39 = .ok (.if_icmp .eq 14, 3) := eX11_tellFits_39q.1
theorem dX11_tellFits_42 : decode cX11_tellFits 42 = .ok (.aload_n 0, 1) := eX11_tellFits_39q.2.1
theorem dX11_tellFits_43 : decode cX11_tellFits 43 = .ok (.invokevirtual 450, 3) := eX11_tellFits_39q.2.2.1
theorem dX11_tellFits_46 : decode cX11_tellFits 46 = .ok (.ifCond .eq 7, 3) := eX11_tellFits_39q.2.2.2.1
theorem dX11_tellFits_49 : decode cX11_tellFits 49 = .ok (.iconst 1, 1) := eX11_tellFits_39q.2.2.2.2.1
theorem dX11_tellFits_50 : decode cX11_tellFits 50 = .ok (.goto 4, 3) := eX11_tellFits_39q.2.2.2.2.2.1
theorem dX11_tellFits_53 : decode cX11_tellFits 53 = .ok (.iconst 0, 1) := eX11_tellFits_39q.2.2.2.2.2.2.1
theorem dX11_tellFits_54 : decode cX11_tellFits 54 = .ok (.bastore, 1) := eX11_tellFits_39q.2.2.2.2.2.2.2
theorem eX11_tellFits_55q : (decode cX11_tellFits 55 = .ok (.iinc 2 1, 3)) ∧ (decode cX11_tellFits 58 = .ok (.goto (-51), 3)) ∧ (decode cX11_tellFits 61 = .ok (.aload_n 0, 1)) ∧ (decode cX11_tellFits 62 = .ok (.iconst (-1), 1)) ∧ (decode cX11_tellFits 63 = .ok (.putfield 76, 3)) ∧ (decode cX11_tellFits 66 = .ok (.return_, 1)) := by decide +kernel
theorem dX11_tellFits_55 : decode cX11_tellFits 55 = .ok (.iinc 2 1, 3) := eX11_tellFits_55q.1
theorem dX11_tellFits_58 : decode cX11_tellFits 58 = .ok (.goto (-51), 3) := eX11_tellFits_55q.2.1
theorem dX11_tellFits_61 : decode cX11_tellFits 61 = .ok (.aload_n 0, 1) := eX11_tellFits_55q.2.2.1
theorem dX11_tellFits_62 : decode cX11_tellFits 62 = .ok (.iconst (-1), 1) := eX11_tellFits_55q.2.2.2.1
theorem dX11_tellFits_63 : decode cX11_tellFits 63 = .ok (.putfield 76, 3) := eX11_tellFits_55q.2.2.2.2.1
theorem dX11_tellFits_66 : decode cX11_tellFits 66 = .ok (.return_, 1) := eX11_tellFits_55q.2.2.2.2.2
set_option maxRecDepth 20000 in
theorem ggX11_unlike_X11_wholeWay : GoodIn wsX11_unlike wsX11_wholeWay := by
  have h := goodIn_app (goodIn_r (big := wsX11_unlike) (.code yX11_wholeWay cX11_wholeWay 7 none :: (wsX11_wholeWay_r1 ++ wsX11_wholeWay_r2) : List Cond) [10, 11, 5, 12, 13, 14, 15, 16, 9, 17, 1, 3, 18, 4, 19, 20, 21, 22, 23, 24, 25, 26, 27, 28, 29, 30, 31, 32, 33, 34, 35, 36, 37, 38, 39, 40] rfl (by decide +kernel)) (goodIn_few (big := wsX11_unlike) (fun _ h9 => List.mem_cons_of_mem _ (List.mem_append_right _ h9)) gb_0)
  exact h
set_option maxRecDepth 20000 in
theorem gX11_unlike_X11_wholeWay : GoodIn wsX11_unlike (wsV RX11 446 RX11 yX11_wholeWay wsX11_wholeWay) := goodIn_app (goodIn_r _ [6, 7, 8, 9] rfl (by decide +kernel)) ggX11_unlike_X11_wholeWay
set_option maxRecDepth 20000 in
theorem ggX11_unlike_J6_bitCount_0f7a4 : GoodIn wsX11_unlike wsJ6_bitCount_0f7a4 := goodIn_r _ [44, 45, 46, 47] rfl (by decide +kernel)
set_option maxRecDepth 20000 in
theorem gX11_unlike_J6_bitCount_0f7a4 : GoodIn wsX11_unlike (va_wsS RX11 351 yJ6_bitCount_0f7a4 wsJ6_bitCount_0f7a4) := goodIn_app (goodIn_r _ [41, 42, 43] rfl (by decide +kernel)) ggX11_unlike_J6_bitCount_0f7a4
theorem eX11_unlike_0q : (decode cX11_unlike 0 = .ok (.iconst 0, 1)) ∧ (decode cX11_unlike 1 = .ok (.istore 4, 2)) ∧ (decode cX11_unlike 3 = .ok (.aload_n 0, 1)) ∧ (decode cX11_unlike 4 = .ok (.iload_n 1, 1)) ∧ (decode cX11_unlike 5 = .ok (.putfield 76, 3)) ∧ (decode cX11_unlike 8 = .ok (.iconst 0, 1)) ∧ (decode cX11_unlike 9 = .ok (.istore 5, 2)) ∧ (decode cX11_unlike 11 = .ok (.iload 5, 2)) := by decide +kernel
theorem dX11_unlike_0 : decode cX11_unlike 0 = .ok (.iconst 0, 1) := eX11_unlike_0q.1
theorem dX11_unlike_1 : decode cX11_unlike 1 = .ok (.istore 4, 2) := eX11_unlike_0q.2.1
theorem dX11_unlike_3 : decode cX11_unlike 3 = .ok (.aload_n 0, 1) := eX11_unlike_0q.2.2.1
theorem dX11_unlike_4 : decode cX11_unlike 4 = .ok (.iload_n 1, 1) := eX11_unlike_0q.2.2.2.1
theorem dX11_unlike_5 : decode cX11_unlike 5 = .ok (.putfield 76, 3) := eX11_unlike_0q.2.2.2.2.1
theorem dX11_unlike_8 : decode cX11_unlike 8 = .ok (.iconst 0, 1) := eX11_unlike_0q.2.2.2.2.2.1
theorem dX11_unlike_9 : decode cX11_unlike 9 = .ok (.istore 5, 2) := eX11_unlike_0q.2.2.2.2.2.2.1
theorem dX11_unlike_11 : decode cX11_unlike 11 = .ok (.iload 5, 2) := eX11_unlike_0q.2.2.2.2.2.2.2
theorem eX11_unlike_13q : (decode cX11_unlike 13 = .ok (.bipush 64, 2)) ∧ (decode cX11_unlike 15 = .ok (.if_icmp .ge 59, 3)) ∧ (decode cX11_unlike 18 = .ok (.aload_n 0, 1)) ∧ (decode cX11_unlike 19 = .ok (.getfield 115, 3)) ∧ (decode cX11_unlike 22 = .ok (.iload 5, 2)) ∧ (decode cX11_unlike 24 = .ok (.baload, 1)) ∧ (decode cX11_unlike 25 = .ok (.ifCond .ne 6, 3)) ∧ (decode cX11_unlike 28 = .ok (.goto 40, 3)) := by decide +kernel
theorem dX11_unlike_13 : decode cX11_unlike 13 = .ok (.bipush 64, 2) := eX11_unlike_13q.1
theorem dX11_unlike_15 : decode cX11_unlike 15 = .ok (.if_icmp .ge 59, 3) := eX11_unlike_13q.2.1
theorem dX11_unlike_18 : decode cX11_unlike 18 = .ok (.aload_n 0, 1) := eX11_unlike_13q.2.2.1
theorem dX11_unlike_19 : decode cX11_unlike 19 = .ok (.getfield 115, 3) := eX11_unlike_13q.2.2.2.1
theorem dX11_unlike_22 : decode cX11_unlike 22 = .ok (.iload 5, 2) := eX11_unlike_13q.2.2.2.2.1
theorem dX11_unlike_24 : decode cX11_unlike 24 = .ok (.baload, 1) := eX11_unlike_13q.2.2.2.2.2.1
theorem dX11_unlike_25 : decode cX11_unlike 25 = .ok (.ifCond .ne 6, 3) := eX11_unlike_13q.2.2.2.2.2.2.1
theorem dX11_unlike_28 : decode cX11_unlike 28 = .ok (.goto 40, 3) := eX11_unlike_13q.2.2.2.2.2.2.2
theorem eX11_unlike_31q : (decode cX11_unlike 31 = .ok (.aload_n 0, 1)) ∧ (decode cX11_unlike 32 = .ok (.iload 5, 2)) ∧ (decode cX11_unlike 34 = .ok (.bipush 16, 2)) ∧ (decode cX11_unlike 36 = .ok (.idiv, 1)) ∧ (decode cX11_unlike 37 = .ok (.putfield 276, 3)) ∧ (decode cX11_unlike 40 = .ok (.aload_n 0, 1)) ∧ (decode cX11_unlike 41 = .ok (.iload 5, 2)) ∧ (decode cX11_unlike 43 = .ok (.bipush 16, 2)) := by decide +kernel
theorem dX11_unlike_31 : decode cX11_unlike 31 = .ok (.aload_n 0, 1) := eX11_unlike_31q.1
theorem dX11_unlike_32 : decode cX11_unlike 32 = .ok (.iload 5, 2) := eX11_unlike_31q.2.1
theorem dX11_unlike_34 : decode cX11_unlike 34 = .ok (.bipush 16, 2) := eX11_unlike_31q.2.2.1
theorem dX11_unlike_36 : decode cX11_unlike 36 = .ok (.idiv, 1) := eX11_unlike_31q.2.2.2.1
theorem dX11_unlike_37 : decode cX11_unlike 37 = .ok (.putfield 276, 3) := eX11_unlike_31q.2.2.2.2.1
theorem dX11_unlike_40 : decode cX11_unlike 40 = .ok (.aload_n 0, 1) := eX11_unlike_31q.2.2.2.2.2.1
theorem dX11_unlike_41 : decode cX11_unlike 41 = .ok (.iload 5, 2) := eX11_unlike_31q.2.2.2.2.2.2.1
theorem dX11_unlike_43 : decode cX11_unlike 43 = .ok (.bipush 16, 2) := eX11_unlike_31q.2.2.2.2.2.2.2
theorem eX11_unlike_45q : (decode cX11_unlike 45 = .ok (.irem, 1)) ∧ (decode cX11_unlike 46 = .ok (.putfield 279, 3)) ∧ (decode cX11_unlike 49 = .ok (.aload_n 0, 1)) ∧ (decode cX11_unlike 50 = .ok (.iload_n 2, 1)) ∧ (decode cX11_unlike 51 = .ok (.iload_n 3, 1)) ∧ (decode cX11_unlike 52 = .ok (.invokevirtual 446, 3)) ∧ (decode cX11_unlike 55 = .ok (.iload 4, 2)) ∧ (decode cX11_unlike 57 = .ok (.iconst 1, 1)) := by decide +kernel
theorem dX11_unlike_45 : decode cX11_unlike 45 = .ok (.irem, 1) := eX11_unlike_45q.1
theorem dX11_unlike_46 : decode cX11_unlike 46 = .ok (.putfield 279, 3) := eX11_unlike_45q.2.1
theorem dX11_unlike_49 : decode cX11_unlike 49 = .ok (.aload_n 0, 1) := eX11_unlike_45q.2.2.1
theorem dX11_unlike_50 : decode cX11_unlike 50 = .ok (.iload_n 2, 1) := eX11_unlike_45q.2.2.2.1
theorem dX11_unlike_51 : decode cX11_unlike 51 = .ok (.iload_n 3, 1) := eX11_unlike_45q.2.2.2.2.1
theorem dX11_unlike_52 : decode cX11_unlike 52 = .ok (.invokevirtual 446, 3) := eX11_unlike_45q.2.2.2.2.2.1
theorem dX11_unlike_55 : decode cX11_unlike 55 = .ok (.iload 4, 2) := eX11_unlike_45q.2.2.2.2.2.2.1
theorem dX11_unlike_57 : decode cX11_unlike 57 = .ok (.iconst 1, 1) := eX11_unlike_45q.2.2.2.2.2.2.2
theorem eX11_unlike_58q : (decode cX11_unlike 58 = .ok (.aload_n 0, 1)) ∧ (decode cX11_unlike 59 = .ok (.getfield 443, 3)) ∧ (decode cX11_unlike 62 = .ok (.iconst 1, 1)) ∧ (decode cX11_unlike 63 = .ok (.iadd, 1)) ∧ (decode cX11_unlike 64 = .ok (.ishl, 1)) ∧ (decode cX11_unlike 65 = .ok (.ior, 1)) ∧ (decode cX11_unlike 66 = .ok (.istore 4, 2)) ∧ (decode cX11_unlike 68 = .ok (.iinc 5 1, 3)) := by decide +kernel
theorem dX11_unlike_58 : decode cX11_unlike 58 = .ok (.aload_n 0, 1) := eX11_unlike_58q.1
theorem dX11_unlike_59 : decode cX11_unlike 59 = .ok (.getfield 443, 3) := eX11_unlike_58q.2.1
theorem dX11_unlike_62 : decode cX11_unlike 62 = .ok (.iconst 1, 1) := eX11_unlike_58q.2.2.1
theorem dX11_unlike_63 : decode cX11_unlike 63 = .ok (.iadd, 1) := eX11_unlike_58q.2.2.2.1
theorem dX11_unlike_64 : decode cX11_unlike 64 = .ok (.ishl, 1) := eX11_unlike_58q.2.2.2.2.1
theorem dX11_unlike_65 : decode cX11_unlike 65 = .ok (.ior, 1) := eX11_unlike_58q.2.2.2.2.2.1
theorem dX11_unlike_66 : decode cX11_unlike 66 = .ok (.istore 4, 2) := eX11_unlike_58q.2.2.2.2.2.2.1
theorem dX11_unlike_68 : decode cX11_unlike 68 = .ok (.iinc 5 1, 3) := eX11_unlike_58q.2.2.2.2.2.2.2
theorem eX11_unlike_71q : (decode cX11_unlike 71 = .ok (.goto (-60), 3)) ∧ (decode cX11_unlike 74 = .ok (.aload_n 0, 1)) ∧ (decode cX11_unlike 75 = .ok (.iconst (-1), 1)) ∧ (decode cX11_unlike 76 = .ok (.putfield 76, 3)) ∧ (decode cX11_unlike 79 = .ok (.iload 4, 2)) ∧ (decode cX11_unlike 81 = .ok (.invokestatic 351, 3)) ∧ (decode cX11_unlike 84 = .ok (.ireturn, 1)) := by decide +kernel
theorem dX11_unlike_71 : decode cX11_unlike 71 = .ok (.goto (-60), 3) := eX11_unlike_71q.1
theorem dX11_unlike_74 : decode cX11_unlike 74 = .ok (.aload_n 0, 1) := eX11_unlike_71q.2.1
theorem dX11_unlike_75 : decode cX11_unlike 75 = .ok (.iconst (-1), 1) := eX11_unlike_71q.2.2.1
theorem dX11_unlike_76 : decode cX11_unlike 76 = .ok (.putfield 76, 3) := eX11_unlike_71q.2.2.2.1
theorem dX11_unlike_79 : decode cX11_unlike 79 = .ok (.iload 4, 2) := eX11_unlike_71q.2.2.2.2.1
theorem dX11_unlike_81 : decode cX11_unlike 81 = .ok (.invokestatic 351, 3) := eX11_unlike_71q.2.2.2.2.2.1
theorem dX11_unlike_84 : decode cX11_unlike 84 = .ok (.ireturn, 1) := eX11_unlike_71q.2.2.2.2.2.2
set_option maxRecDepth 20000 in
theorem ggX11_happens_X11_draw : GoodIn wsX11_happens wsX11_draw := by
  have h := goodIn_app (goodIn_r (big := wsX11_happens) (.code yX11_draw cX11_draw 2 (some .int) :: ([.fieldLink RX11 460 "PathProberModel" "seedNow" "I", .constant RX11 463 (1103515245)]) : List Cond) [5, 6, 7] rfl (by decide +kernel)) (goodIn_few (big := wsX11_happens) (fun _ h9 => List.mem_cons_of_mem _ (List.mem_append_right _ h9)) gb_0)
  exact h
set_option maxRecDepth 20000 in
theorem gX11_happens_X11_draw : GoodIn wsX11_happens (wsV RX11 464 RX11 yX11_draw wsX11_draw) := goodIn_app (goodIn_r _ [1, 2, 3, 4] rfl (by decide +kernel)) ggX11_happens_X11_draw
set_option maxRecDepth 20000 in
theorem ggX11_happens_X11_goals : GoodIn wsX11_happens wsX11_goals := by
  have h := goodIn_app (goodIn_r (big := wsX11_happens) (.code yX11_goals cX11_goals 1 (some .int) :: ([.fieldLink RX11 34 "PathProberModel" "told" "[I"]) : List Cond) [11, 12] rfl (by decide +kernel)) (goodIn_few (big := wsX11_happens) (fun _ h9 => List.mem_cons_of_mem _ (List.mem_append_right _ h9)) gb_0)
  exact h
set_option maxRecDepth 20000 in
theorem gX11_happens_X11_goals : GoodIn wsX11_happens (wsV RX11 304 RX11 yX11_goals wsX11_goals) := goodIn_app (goodIn_r _ [8, 9, 10, 4] rfl (by decide +kernel)) ggX11_happens_X11_goals
set_option maxRecDepth 20000 in
theorem ggX11_happens_X11_probeNow : GoodIn wsX11_happens wsX11_probeNow := by
  have h := goodIn_app (goodIn_r (big := wsX11_happens) (.code yX11_probeNow cX11_probeNow 6 (some .int) :: (wsX11_probeNow_r1 ++ (wsX11_probeNow_r2 ++ wsX11_probeNow_r3)) : List Cond) [16, 17, 18, 19, 20, 21, 22, 23, 4, 24, 25, 26, 27, 28, 29, 30, 31, 32, 33, 34, 35, 36, 37, 38, 39, 40, 41, 42, 43, 44, 45, 46, 47, 48, 49, 50, 51, 52, 53, 54, 55, 12, 56, 57, 58, 59, 60, 61, 62, 63, 64, 65, 66, 67, 68, 69, 70, 71, 72, 73, 74, 75, 76, 77, 78] rfl (by decide +kernel)) (goodIn_few (big := wsX11_happens) (fun _ h9 => List.mem_cons_of_mem _ (List.mem_append_right _ h9)) gb_0)
  exact h
set_option maxRecDepth 20000 in
theorem gX11_happens_X11_probeNow : GoodIn wsX11_happens (wsV RX11 347 RX11 yX11_probeNow wsX11_probeNow) := goodIn_app (goodIn_r _ [13, 14, 15, 4] rfl (by decide +kernel)) ggX11_happens_X11_probeNow
set_option maxRecDepth 20000 in
theorem ggX11_happens_X11_sweepNow : GoodIn wsX11_happens wsX11_sweepNow := by
  have h := goodIn_app (goodIn_r (big := wsX11_happens) (.code yX11_sweepNow cX11_sweepNow 7 (some .int) :: (wsX11_sweepNow_r1 ++ (wsX11_sweepNow_r2 ++ (wsX11_sweepNow_r3 ++ (wsX11_sweepNow_r4 ++ wsX11_sweepNow_r5)))) : List Cond) [82, 83, 84, 27, 85, 25, 26, 28, 21, 22, 23, 4, 24, 17, 13, 14, 15, 16, 18, 19, 20, 29, 30, 31, 32, 33, 34, 35, 36, 37, 38, 39, 40, 41, 42, 43, 44, 45, 46, 47, 48, 49, 50, 51, 52, 53, 54, 55, 12, 56, 57, 58, 59, 60, 61, 62, 63, 64, 65, 66, 67, 68, 69, 70, 71, 72, 73, 74, 75, 76, 77, 78, 86, 87, 88, 89, 90, 91, 92, 93, 94, 95, 96, 97, 98, 99, 100, 101, 102, 103, 104, 105, 106, 107, 108, 109, 110, 111] rfl (by decide +kernel)) (goodIn_few (big := wsX11_happens) (fun _ h9 => List.mem_cons_of_mem _ (List.mem_append_right _ h9)) gb_0)
  exact h
set_option maxRecDepth 20000 in
theorem gX11_happens_X11_sweepNow : GoodIn wsX11_happens (wsV RX11 389 RX11 yX11_sweepNow wsX11_sweepNow) := goodIn_app (goodIn_r _ [79, 80, 81, 4] rfl (by decide +kernel)) ggX11_happens_X11_sweepNow
set_option maxRecDepth 20000 in
theorem ggX11_happens_X11_traceNow : GoodIn wsX11_happens wsX11_traceNow := by
  have h := goodIn_app (goodIn_r (big := wsX11_happens) (.code yX11_traceNow cX11_traceNow 5 (some .int) :: (wsX11_traceNow_r1 ++ (wsX11_traceNow_r2 ++ wsX11_traceNow_r3)) : List Cond) [115, 19, 36, 21, 22, 23, 4, 24, 17, 25, 26, 27, 28, 13, 14, 15, 16, 18, 20, 29, 30, 31, 32, 33, 34, 35, 37, 38, 39, 40, 41, 42, 43, 44, 45, 46, 47, 48, 49, 50, 51, 52, 53, 54, 55, 12, 56, 57, 58, 59, 60, 61, 62, 63, 64, 65, 66, 67, 68, 69, 70, 71, 72, 73, 74, 75, 76, 77, 78] rfl (by decide +kernel)) (goodIn_few (big := wsX11_happens) (fun _ h9 => List.mem_cons_of_mem _ (List.mem_append_right _ h9)) gb_0)
  exact h
set_option maxRecDepth 20000 in
theorem gX11_happens_X11_traceNow : GoodIn wsX11_happens (wsV RX11 392 RX11 yX11_traceNow wsX11_traceNow) := goodIn_app (goodIn_r _ [112, 113, 114, 4] rfl (by decide +kernel)) ggX11_happens_X11_traceNow
theorem eX11_happens_0q : (decode cX11_happens 0 = .ok (.aload_n 0, 1)) ∧ (decode cX11_happens 1 = .ok (.iconst 4, 1)) ∧ (decode cX11_happens 2 = .ok (.invokevirtual 464, 3)) ∧ (decode cX11_happens 5 = .ok (.istore_n 1, 1)) ∧ (decode cX11_happens 6 = .ok (.aload_n 0, 1)) ∧ (decode cX11_happens 7 = .ok (.invokevirtual 304, 3)) ∧ (decode cX11_happens 10 = .ok (.ifCond .ne 4, 3)) ∧ (decode cX11_happens 13 = .ok (.return_, 1)) := by decide +kernel
theorem dX11_happens_0 : decode cX11_happens 0 = .ok (.aload_n 0, 1) := eX11_happens_0q.1
theorem dX11_happens_1 : decode cX11_happens 1 = .ok (.iconst 4, 1) := eX11_happens_0q.2.1
theorem dX11_happens_2 : decode cX11_happens 2 = .ok (.invokevirtual 464, 3) := eX11_happens_0q.2.2.1
theorem dX11_happens_5 : decode cX11_happens 5 = .ok (.istore_n 1, 1) := eX11_happens_0q.2.2.2.1
theorem dX11_happens_6 : decode cX11_happens 6 = .ok (.aload_n 0, 1) := eX11_happens_0q.2.2.2.2.1
theorem dX11_happens_7 : decode cX11_happens 7 = .ok (.invokevirtual 304, 3) := eX11_happens_0q.2.2.2.2.2.1
theorem dX11_happens_10 : decode cX11_happens 10 = .ok (.ifCond .ne 4, 3) := eX11_happens_0q.2.2.2.2.2.2.1
theorem dX11_happens_13 : decode cX11_happens 13 = .ok (.return_, 1) := eX11_happens_0q.2.2.2.2.2.2.2
theorem eX11_happens_14q : (decode cX11_happens 14 = .ok (.iload_n 1, 1)) ∧ (decode cX11_happens 15 = .ok (.iconst 2, 1)) ∧ (decode cX11_happens 16 = .ok (.if_icmp .ne 7, 3)) ∧ (decode cX11_happens 19 = .ok (.iconst 0, 1)) ∧ (decode cX11_happens 20 = .ok (.goto 9, 3)) ∧ (decode cX11_happens 23 = .ok (.aload_n 0, 1)) ∧ (decode cX11_happens 24 = .ok (.bipush 32, 2)) ∧ (decode cX11_happens 26 = .ok (.invokevirtual 464, 3)) := by decide +kernel
theorem dX11_happens_14 : decode cX11_happens 14 = .ok (.iload_n 1, 1) := eX11_happens_14q.1
theorem dX11_happens_15 : decode cX11_happens 15 = .ok (.iconst 2, 1) := eX11_happens_14q.2.1
theorem dX11_happens_16 : decode cX11_happens 16 = .ok (.if_icmp .ne 7, 3) := eX11_happens_14q.2.2.1
theorem dX11_happens_19 : decode cX11_happens 19 = .ok (.iconst 0, 1) := eX11_happens_14q.2.2.2.1
theorem dX11_happens_20 : decode cX11_happens 20 = .ok (.goto 9, 3) := eX11_happens_14q.2.2.2.2.1
theorem dX11_happens_23 : decode cX11_happens 23 = .ok (.aload_n 0, 1) := eX11_happens_14q.2.2.2.2.2.1
theorem dX11_happens_24 : decode cX11_happens 24 = .ok (.bipush 32, 2) := eX11_happens_14q.2.2.2.2.2.2.1
theorem dX11_happens_26 : decode cX11_happens 26 = .ok (.invokevirtual 464, 3) := eX11_happens_14q.2.2.2.2.2.2.2
theorem eX11_happens_29q : (decode cX11_happens 29 = .ok (.istore_n 2, 1)) ∧ (decode cX11_happens 30 = .ok (.aload_n 0, 1)) ∧ (decode cX11_happens 31 = .ok (.aload_n 0, 1)) ∧ (decode cX11_happens 32 = .ok (.invokevirtual 304, 3)) ∧ (decode cX11_happens 35 = .ok (.invokevirtual 464, 3)) ∧ (decode cX11_happens 38 = .ok (.istore_n 3, 1)) ∧ (decode cX11_happens 39 = .ok (.iload_n 1, 1)) ∧ (decode cX11_happens 40 = .ok (.iconst 3, 1)) := by decide +kernel
theorem dX11_happens_29 : decode cX11_happens 29 = .ok (.istore_n 2, 1) := eX11_happens_29q.1
theorem dX11_happens_30 : decode cX11_happens 30 = .ok (.aload_n 0, 1) := eX11_happens_29q.2.1
theorem dX11_happens_31 : decode cX11_happens 31 = .ok (.aload_n 0, 1) := eX11_happens_29q.2.2.1
theorem dX11_happens_32 : decode cX11_happens 32 = .ok (.invokevirtual 304, 3) := eX11_happens_29q.2.2.2.1
theorem dX11_happens_35 : decode cX11_happens 35 = .ok (.invokevirtual 464, 3) := eX11_happens_29q.2.2.2.2.1
theorem dX11_happens_38 : decode cX11_happens 38 = .ok (.istore_n 3, 1) := eX11_happens_29q.2.2.2.2.2.1
theorem dX11_happens_39 : decode cX11_happens 39 = .ok (.iload_n 1, 1) := eX11_happens_29q.2.2.2.2.2.2.1
theorem dX11_happens_40 : decode cX11_happens 40 = .ok (.iconst 3, 1) := eX11_happens_29q.2.2.2.2.2.2.2
theorem eX11_happens_41q : (decode cX11_happens 41 = .ok (.if_icmp .ne 7, 3)) ∧ (decode cX11_happens 44 = .ok (.iconst 0, 1)) ∧ (decode cX11_happens 45 = .ok (.goto 11, 3)) ∧ (decode cX11_happens 48 = .ok (.aload_n 0, 1)) ∧ (decode cX11_happens 49 = .ok (.bipush 10, 2)) ∧ (decode cX11_happens 51 = .ok (.invokevirtual 464, 3)) ∧ (decode cX11_happens 54 = .ok (.iconst 1, 1)) ∧ (decode cX11_happens 55 = .ok (.iadd, 1)) := by decide +kernel
theorem dX11_happens_41 : decode cX11_happens 41 = .ok (.if_icmp .ne 7, 3) := eX11_happens_41q.1
theorem dX11_happens_44 : decode cX11_happens 44 = .ok (.iconst 0, 1) := eX11_happens_41q.2.1
theorem dX11_happens_45 : decode cX11_happens 45 = .ok (.goto 11, 3) := eX11_happens_41q.2.2.1
theorem dX11_happens_48 : decode cX11_happens 48 = .ok (.aload_n 0, 1) := eX11_happens_41q.2.2.2.1
theorem dX11_happens_49 : decode cX11_happens 49 = .ok (.bipush 10, 2) := eX11_happens_41q.2.2.2.2.1
theorem dX11_happens_51 : decode cX11_happens 51 = .ok (.invokevirtual 464, 3) := eX11_happens_41q.2.2.2.2.2.1
theorem dX11_happens_54 : decode cX11_happens 54 = .ok (.iconst 1, 1) := eX11_happens_41q.2.2.2.2.2.2.1
theorem dX11_happens_55 : decode cX11_happens 55 = .ok (.iadd, 1) := eX11_happens_41q.2.2.2.2.2.2.2
theorem eX11_happens_56q : (decode cX11_happens 56 = .ok (.istore 4, 2)) ∧ (decode cX11_happens 58 = .ok (.iload_n 1, 1)) ∧ (decode cX11_happens 59 = .ok (.iconst 2, 1)) ∧ (decode cX11_happens 60 = .ok (.if_icmp .ge 15, 3)) ∧ (decode cX11_happens 63 = .ok (.aload_n 0, 1)) ∧ (decode cX11_happens 64 = .ok (.iload_n 2, 1)) ∧ (decode cX11_happens 65 = .ok (.iload_n 3, 1)) ∧ (decode cX11_happens 66 = .ok (.iload 4, 2)) := by decide +kernel
theorem dX11_happens_56 : decode cX11_happens 56 = .ok (.istore 4, 2) := eX11_happens_56q.1
theorem dX11_happens_58 : decode cX11_happens 58 = .ok (.iload_n 1, 1) := eX11_happens_56q.2.1
theorem dX11_happens_59 : decode cX11_happens 59 = .ok (.iconst 2, 1) := eX11_happens_56q.2.2.1
theorem dX11_happens_60 : decode cX11_happens 60 = .ok (.if_icmp .ge 15, 3) := eX11_happens_56q.2.2.2.1
theorem dX11_happens_63 : decode cX11_happens 63 = .ok (.aload_n 0, 1) := eX11_happens_56q.2.2.2.2.1
theorem dX11_happens_64 : decode cX11_happens 64 = .ok (.iload_n 2, 1) := eX11_happens_56q.2.2.2.2.2.1
theorem dX11_happens_65 : decode cX11_happens 65 = .ok (.iload_n 3, 1) := eX11_happens_56q.2.2.2.2.2.2.1
theorem dX11_happens_66 : decode cX11_happens 66 = .ok (.iload 4, 2) := eX11_happens_56q.2.2.2.2.2.2.2
theorem eX11_happens_68q : (decode cX11_happens 68 = .ok (.iconst 1, 1)) ∧ (decode cX11_happens 69 = .ok (.invokevirtual 347, 3)) ∧ (decode cX11_happens 72 = .ok (.goto 24, 3)) ∧ (decode cX11_happens 75 = .ok (.iload_n 1, 1)) ∧ (decode cX11_happens 76 = .ok (.iconst 2, 1)) ∧ (decode cX11_happens 77 = .ok (.if_icmp .ne 13, 3)) ∧ (decode cX11_happens 80 = .ok (.aload_n 0, 1)) ∧ (decode cX11_happens 81 = .ok (.iload_n 3, 1)) := by decide +kernel
theorem dX11_happens_68 : decode cX11_happens 68 = .ok (.iconst 1, 1) := eX11_happens_68q.1
theorem dX11_happens_69 : decode cX11_happens 69 = .ok (.invokevirtual 347, 3) := eX11_happens_68q.2.1
theorem dX11_happens_72 : decode cX11_happens 72 = .ok (.goto 24, 3) := eX11_happens_68q.2.2.1
theorem dX11_happens_75 : decode cX11_happens 75 = .ok (.iload_n 1, 1) := eX11_happens_68q.2.2.2.1
theorem dX11_happens_76 : decode cX11_happens 76 = .ok (.iconst 2, 1) := eX11_happens_68q.2.2.2.2.1
theorem dX11_happens_77 : decode cX11_happens 77 = .ok (.if_icmp .ne 13, 3) := eX11_happens_68q.2.2.2.2.2.1
theorem dX11_happens_80 : decode cX11_happens 80 = .ok (.aload_n 0, 1) := eX11_happens_68q.2.2.2.2.2.2.1
theorem dX11_happens_81 : decode cX11_happens 81 = .ok (.iload_n 3, 1) := eX11_happens_68q.2.2.2.2.2.2.2
theorem eX11_happens_82q : (decode cX11_happens 82 = .ok (.iload 4, 2)) ∧ (decode cX11_happens 84 = .ok (.invokevirtual 389, 3)) ∧ (decode cX11_happens 87 = .ok (.goto 9, 3)) ∧ (decode cX11_happens 90 = .ok (.aload_n 0, 1)) ∧ (decode cX11_happens 91 = .ok (.iload_n 2, 1)) ∧ (decode cX11_happens 92 = .ok (.iload_n 3, 1)) ∧ (decode cX11_happens 93 = .ok (.invokevirtual 392, 3)) ∧ (decode cX11_happens 96 = .ok (.istore 5, 2)) := by decide +kernel
theorem dX11_happens_82 : decode cX11_happens 82 = .ok (.iload 4, 2) := eX11_happens_82q.1
theorem dX11_happens_84 : decode cX11_happens 84 = .ok (.invokevirtual 389, 3) := eX11_happens_82q.2.1
theorem dX11_happens_87 : decode cX11_happens 87 = .ok (.goto 9, 3) := eX11_happens_82q.2.2.1
theorem dX11_happens_90 : decode cX11_happens 90 = .ok (.aload_n 0, 1) := eX11_happens_82q.2.2.2.1
theorem dX11_happens_91 : decode cX11_happens 91 = .ok (.iload_n 2, 1) := eX11_happens_82q.2.2.2.2.1
theorem dX11_happens_92 : decode cX11_happens 92 = .ok (.iload_n 3, 1) := eX11_happens_82q.2.2.2.2.2.1
theorem dX11_happens_93 : decode cX11_happens 93 = .ok (.invokevirtual 392, 3) := eX11_happens_82q.2.2.2.2.2.2.1
theorem dX11_happens_96 : decode cX11_happens 96 = .ok (.istore 5, 2) := eX11_happens_82q.2.2.2.2.2.2.2
theorem dX11_happens_98 : decode cX11_happens 98 = .ok (.return_, 1) := by decide +kernel
