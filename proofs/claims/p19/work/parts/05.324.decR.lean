set_option maxRecDepth 20000 in
theorem ggX11_seen_X11_isPort : GoodIn wsX11_seen wsX11_isPort := goodIn_r _ [5, 6, 7, 4, 8] rfl (by decide +kernel)
set_option maxRecDepth 20000 in
theorem gX11_seen_X11_isPort : GoodIn wsX11_seen (va_wsS RX11 368 yX11_isPort wsX11_isPort) := goodIn_app (goodIn_r _ [2, 3, 4] rfl (by decide +kernel)) ggX11_seen_X11_isPort
set_option maxRecDepth 20000 in
theorem ggX11_seen_X11_isGoal : GoodIn wsX11_seen wsX11_isGoal := by
  have h := goodIn_app (goodIn_r (big := wsX11_seen) (.code yX11_isGoal cX11_isGoal 2 (some .boolean) :: ([.methodLink RX11 304 yX11_goals, .instanceMethod yX11_goals, .selects RX11 yX11_goals yX11_goals, .initialized RX11, .code yX11_goals cX11_goals 1 (some .int), .fieldLink RX11 34 "PathProberModel" "told" "[I", .methodLink RX11 359 yX11_isIn, .static yX11_isIn, .code yX11_isIn cX11_isIn 3 (some .boolean)]) : List Cond) [12, 13, 14, 15, 4, 16, 17, 6, 7, 8] rfl (by decide +kernel)) (goodIn_few (big := wsX11_seen) (fun _ h9 => List.mem_cons_of_mem _ (List.mem_append_right _ h9)) gb_0)
  exact h
set_option maxRecDepth 20000 in
theorem gX11_seen_X11_isGoal : GoodIn wsX11_seen (wsV RX11 371 RX11 yX11_isGoal wsX11_isGoal) := goodIn_app (goodIn_r _ [9, 10, 11, 4] rfl (by decide +kernel)) ggX11_seen_X11_isGoal
set_option maxRecDepth 20000 in
theorem ggX11_seen_X11_isHop : GoodIn wsX11_seen wsX11_isHop := goodIn_r _ [20, 6, 7, 4, 8] rfl (by decide +kernel)
set_option maxRecDepth 20000 in
theorem gX11_seen_X11_isHop : GoodIn wsX11_seen (va_wsS RX11 374 yX11_isHop wsX11_isHop) := goodIn_app (goodIn_r _ [18, 19, 4] rfl (by decide +kernel)) ggX11_seen_X11_isHop
set_option maxRecDepth 20000 in
theorem ggX11_seen_X11_seenBy : GoodIn wsX11_seen wsX11_seenBy := by
  have h := goodIn_app (goodIn_r (big := wsX11_seen) (.code yX11_seenBy cX11_seenBy 4 (some .int) :: ([.fieldLink RX11 60 "PathProberModel" "now" "[I", .methodLink RX11 298 yX11_seenAt, .static yX11_seenAt, .initialized RX11, .code yX11_seenAt cX11_seenAt 3 (some .int)]) : List Cond) [24, 25, 26, 27, 4, 28] rfl (by decide +kernel)) (goodIn_few (big := wsX11_seen) (fun _ h9 => List.mem_cons_of_mem _ (List.mem_append_right _ h9)) gb_0)
  exact h
set_option maxRecDepth 20000 in
theorem gX11_seen_X11_seenBy : GoodIn wsX11_seen (wsV RX11 301 RX11 yX11_seenBy wsX11_seenBy) := goodIn_app (goodIn_r _ [21, 22, 23, 4] rfl (by decide +kernel)) ggX11_seen_X11_seenBy
set_option maxRecDepth 20000 in
theorem ggX11_seen_X11_fail : GoodIn wsX11_seen wsX11_fail := by
  have h := goodIn_app (goodIn_r (big := wsX11_seen) (.code yX11_fail cX11_fail 2 (some .int) :: ([.fieldLink RX11 142 "PathProberModel" "code" "I"]) : List Cond) [32, 1] rfl (by decide +kernel)) (goodIn_few (big := wsX11_seen) (fun _ h9 => List.mem_cons_of_mem _ (List.mem_append_right _ h9)) gb_0)
  exact h
set_option maxRecDepth 20000 in
theorem gX11_seen_X11_fail : GoodIn wsX11_seen (wsV RX11 240 RX11 yX11_fail wsX11_fail) := goodIn_app (goodIn_r _ [29, 30, 31, 4] rfl (by decide +kernel)) ggX11_seen_X11_fail
theorem eX11_seen_0q : (decode cX11_seen 0 = .ok (.aload_n 0, 1)) ∧ (decode cX11_seen 1 = .ok (.iconst 0, 1)) ∧ (decode cX11_seen 2 = .ok (.putfield 142, 3)) ∧ (decode cX11_seen 5 = .ok (.iload_n 1, 1)) ∧ (decode cX11_seen 6 = .ok (.invokestatic 368, 3)) ∧ (decode cX11_seen 9 = .ok (.ifCond .eq 28, 3)) ∧ (decode cX11_seen 12 = .ok (.aload_n 0, 1)) ∧ (decode cX11_seen 13 = .ok (.iload_n 2, 1)) := by decide +kernel
theorem dX11_seen_0 : decode cX11_seen 0 = .ok (.aload_n 0, 1) := eX11_seen_0q.1
theorem dX11_seen_1 : decode cX11_seen 1 = .ok (.iconst 0, 1) := eX11_seen_0q.2.1
theorem dX11_seen_2 : decode cX11_seen 2 = .ok (.putfield 142, 3) := eX11_seen_0q.2.2.1
theorem dX11_seen_5 : decode cX11_seen 5 = .ok (.iload_n 1, 1) := eX11_seen_0q.2.2.2.1
theorem dX11_seen_6 : decode cX11_seen 6 = .ok (.invokestatic 368, 3) := eX11_seen_0q.2.2.2.2.1
theorem dX11_seen_9 : decode cX11_seen 9 = .ok (.ifCond .eq 28, 3) := eX11_seen_0q.2.2.2.2.2.1
theorem dX11_seen_12 : decode cX11_seen 12 = .ok (.aload_n 0, 1) := eX11_seen_0q.2.2.2.2.2.2.1
theorem dX11_seen_13 : decode cX11_seen 13 = .ok (.iload_n 2, 1) := eX11_seen_0q.2.2.2.2.2.2.2
theorem eX11_seen_14q : (decode cX11_seen 14 = .ok (.invokevirtual 371, 3)) ∧ (decode cX11_seen 17 = .ok (.ifCond .eq 20, 3)) ∧ (decode cX11_seen 20 = .ok (.iload_n 3, 1)) ∧ (decode cX11_seen 21 = .ok (.invokestatic 374, 3)) ∧ (decode cX11_seen 24 = .ok (.ifCond .eq 13, 3)) ∧ (decode cX11_seen 27 = .ok (.aload_n 0, 1)) ∧ (decode cX11_seen 28 = .ok (.iload_n 1, 1)) ∧ (decode cX11_seen 29 = .ok (.iload_n 2, 1)) := by decide +kernel
theorem dX11_seen_14 : decode cX11_seen 14 = .ok (.invokevirtual 371, 3) := eX11_seen_14q.1
theorem dX11_seen_17 : decode cX11_seen 17 = .ok (.ifCond .eq 20, 3) := eX11_seen_14q.2.1
theorem dX11_seen_20 : decode cX11_seen 20 = .ok (.iload_n 3, 1) := eX11_seen_14q.2.2.1
theorem dX11_seen_21 : decode cX11_seen 21 = .ok (.invokestatic 374, 3) := eX11_seen_14q.2.2.2.1
theorem dX11_seen_24 : decode cX11_seen 24 = .ok (.ifCond .eq 13, 3) := eX11_seen_14q.2.2.2.2.1
theorem dX11_seen_27 : decode cX11_seen 27 = .ok (.aload_n 0, 1) := eX11_seen_14q.2.2.2.2.2.1
theorem dX11_seen_28 : decode cX11_seen 28 = .ok (.iload_n 1, 1) := eX11_seen_14q.2.2.2.2.2.2.1
theorem dX11_seen_29 : decode cX11_seen 29 = .ok (.iload_n 2, 1) := eX11_seen_14q.2.2.2.2.2.2.2
theorem eX11_seen_30q : (decode cX11_seen 30 = .ok (.iload_n 3, 1)) ∧ (decode cX11_seen 31 = .ok (.invokevirtual 301, 3)) ∧ (decode cX11_seen 34 = .ok (.goto 8, 3)) ∧ (decode cX11_seen 37 = .ok (.aload_n 0, 1)) ∧ (decode cX11_seen 38 = .ok (.iconst 1, 1)) ∧ (decode cX11_seen 39 = .ok (.invokevirtual 240, 3)) ∧ (decode cX11_seen 42 = .ok (.ireturn, 1)) := by decide +kernel
theorem dX11_seen_30 : decode cX11_seen 30 = .ok (.iload_n 3, 1) := eX11_seen_30q.1
theorem dX11_seen_31 : decode cX11_seen 31 = .ok (.invokevirtual 301, 3) := eX11_seen_30q.2.1
theorem dX11_seen_34 : decode cX11_seen 34 = .ok (.goto 8, 3) := eX11_seen_30q.2.2.1
theorem dX11_seen_37 : decode cX11_seen 37 = .ok (.aload_n 0, 1) := eX11_seen_30q.2.2.2.1
theorem dX11_seen_38 : decode cX11_seen 38 = .ok (.iconst 1, 1) := eX11_seen_30q.2.2.2.2.1
theorem dX11_seen_39 : decode cX11_seen 39 = .ok (.invokevirtual 240, 3) := eX11_seen_30q.2.2.2.2.2.1
theorem dX11_seen_42 : decode cX11_seen 42 = .ok (.ireturn, 1) := eX11_seen_30q.2.2.2.2.2.2
set_option maxRecDepth 20000 in
theorem ggX11_hop_X11_isGoal : GoodIn wsX11_hop wsX11_isGoal := by
  have h := goodIn_app (goodIn_r (big := wsX11_hop) (.code yX11_isGoal cX11_isGoal 2 (some .boolean) :: ([.methodLink RX11 304 yX11_goals, .instanceMethod yX11_goals, .selects RX11 yX11_goals yX11_goals, .initialized RX11, .code yX11_goals cX11_goals 1 (some .int), .fieldLink RX11 34 "PathProberModel" "told" "[I", .methodLink RX11 359 yX11_isIn, .static yX11_isIn, .code yX11_isIn cX11_isIn 3 (some .boolean)]) : List Cond) [7, 8, 9, 10, 6, 11, 12, 13, 14, 15] rfl (by decide +kernel)) (goodIn_few (big := wsX11_hop) (fun _ h9 => List.mem_cons_of_mem _ (List.mem_append_right _ h9)) gb_0)
  exact h
set_option maxRecDepth 20000 in
theorem gX11_hop_X11_isGoal : GoodIn wsX11_hop (wsV RX11 371 RX11 yX11_isGoal wsX11_isGoal) := goodIn_app (goodIn_r _ [3, 4, 5, 6] rfl (by decide +kernel)) ggX11_hop_X11_isGoal
set_option maxRecDepth 20000 in
theorem ggX11_hop_X11_isHop : GoodIn wsX11_hop wsX11_isHop := goodIn_r _ [18, 13, 14, 6, 15] rfl (by decide +kernel)
set_option maxRecDepth 20000 in
theorem gX11_hop_X11_isHop : GoodIn wsX11_hop (va_wsS RX11 374 yX11_isHop wsX11_isHop) := goodIn_app (goodIn_r _ [16, 17, 6] rfl (by decide +kernel)) ggX11_hop_X11_isHop
set_option maxRecDepth 20000 in
theorem ggX11_hop_X11_fail : GoodIn wsX11_hop wsX11_fail := by
  have h := goodIn_app (goodIn_r (big := wsX11_hop) (.code yX11_fail cX11_fail 2 (some .int) :: ([.fieldLink RX11 142 "PathProberModel" "code" "I"]) : List Cond) [22, 1] rfl (by decide +kernel)) (goodIn_few (big := wsX11_hop) (fun _ h9 => List.mem_cons_of_mem _ (List.mem_append_right _ h9)) gb_0)
  exact h
set_option maxRecDepth 20000 in
theorem gX11_hop_X11_fail : GoodIn wsX11_hop (wsV RX11 240 RX11 yX11_fail wsX11_fail) := goodIn_app (goodIn_r _ [19, 20, 21, 6] rfl (by decide +kernel)) ggX11_hop_X11_fail
set_option maxRecDepth 20000 in
theorem ggX11_hop_X11_addresses : GoodIn wsX11_hop wsX11_addresses := by
  have h := goodIn_app (goodIn_r (big := wsX11_hop) (.code yX11_addresses cX11_addresses 5 (some .int) :: ([.methodLink RX11 301 yX11_seenBy, .instanceMethod yX11_seenBy, .selects RX11 yX11_seenBy yX11_seenBy, .initialized RX11, .code yX11_seenBy cX11_seenBy 4 (some .int), .fieldLink RX11 60 "PathProberModel" "now" "[I", .methodLink RX11 298 yX11_seenAt, .static yX11_seenAt, .code yX11_seenAt cX11_seenAt 3 (some .int)]) : List Cond) [26, 27, 28, 29, 6, 30, 2, 31, 32, 33] rfl (by decide +kernel)) (goodIn_few (big := wsX11_hop) (fun _ h9 => List.mem_cons_of_mem _ (List.mem_append_right _ h9)) gb_0)
  exact h
set_option maxRecDepth 20000 in
theorem gX11_hop_X11_addresses : GoodIn wsX11_hop (wsV RX11 307 RX11 yX11_addresses wsX11_addresses) := goodIn_app (goodIn_r _ [23, 24, 25, 6] rfl (by decide +kernel)) ggX11_hop_X11_addresses
set_option maxRecDepth 20000 in
theorem ggX11_hop_X11_sentAt : GoodIn wsX11_hop wsX11_sentAt := goodIn_r _ [36] rfl (by decide +kernel)
set_option maxRecDepth 20000 in
theorem gX11_hop_X11_sentAt : GoodIn wsX11_hop (va_wsS RX11 334 yX11_sentAt wsX11_sentAt) := goodIn_app (goodIn_r _ [34, 35, 6] rfl (by decide +kernel)) ggX11_hop_X11_sentAt
set_option maxRecDepth 20000 in
theorem ggX11_hop_X11_edgesAt : GoodIn wsX11_hop wsX11_edgesAt := by
  have h := goodIn_app (goodIn_r (big := wsX11_hop) (.code yX11_edgesAt cX11_edgesAt 5 (some .int) :: ([.methodLink RX11 266 yX11_links, .instanceMethod yX11_links, .selects RX11 yX11_links yX11_links, .initialized RX11, .code yX11_links cX11_links 1 (some .int), .fieldLink RX11 34 "PathProberModel" "told" "[I", .methodLink RX11 314 yX11_edgesFrom, .instanceMethod yX11_edgesFrom, .selects RX11 yX11_edgesFrom yX11_edgesFrom, .code yX11_edgesFrom cX11_edgesFrom 6 (some .int), .methodLink RX11 310 yX11_isEdge, .instanceMethod yX11_isEdge, .selects RX11 yX11_isEdge yX11_isEdge, .code yX11_isEdge cX11_isEdge 7 (some .boolean), .methodLink RX11 301 yX11_seenBy, .instanceMethod yX11_seenBy, .selects RX11 yX11_seenBy yX11_seenBy, .code yX11_seenBy cX11_seenBy 4 (some .int), .fieldLink RX11 60 "PathProberModel" "now" "[I", .methodLink RX11 298 yX11_seenAt, .static yX11_seenAt, .code yX11_seenAt cX11_seenAt 3 (some .int)]) : List Cond) [40, 41, 42, 43, 6, 44, 12, 45, 46, 47, 48, 49, 50, 51, 52, 27, 28, 29, 30, 2, 31, 32, 33] rfl (by decide +kernel)) (goodIn_few (big := wsX11_hop) (fun _ h9 => List.mem_cons_of_mem _ (List.mem_append_right _ h9)) gb_0)
  exact h
set_option maxRecDepth 20000 in
theorem gX11_hop_X11_edgesAt : GoodIn wsX11_hop (wsV RX11 317 RX11 yX11_edgesAt wsX11_edgesAt) := goodIn_app (goodIn_r _ [37, 38, 39, 6] rfl (by decide +kernel)) ggX11_hop_X11_edgesAt
set_option maxRecDepth 20000 in
theorem ggX11_hop_X11_places : GoodIn wsX11_hop wsX11_places := by
  have h := goodIn_app (goodIn_r (big := wsX11_hop) (.code yX11_places cX11_places 5 (some .int) :: ([.fieldLink RX11 87 "PathProberModel" "isAt" "[Z", .fieldLink RX11 53 "PathProberModel" "from" "[I", .fieldLink RX11 58 "PathProberModel" "goal" "[I", .methodLink RX11 407 yX11_tellPlaces, .instanceMethod yX11_tellPlaces, .selects RX11 yX11_tellPlaces yX11_tellPlaces, .initialized RX11, .code yX11_tellPlaces cX11_tellPlaces 5 none, .fieldLink RX11 73 "PathProberModel" "reach" "[I", .fieldLink RX11 56 "PathProberModel" "to" "[I", .methodLink RX11 263 yX11_routers, .instanceMethod yX11_routers, .selects RX11 yX11_routers yX11_routers, .code yX11_routers cX11_routers 1 (some .int), .fieldLink RX11 34 "PathProberModel" "told" "[I", .methodLink RX11 266 yX11_links, .instanceMethod yX11_links, .selects RX11 yX11_links yX11_links, .code yX11_links cX11_links 1 (some .int), .methodLink RX11 269 yX11_isBranch, .instanceMethod yX11_isBranch, .selects RX11 yX11_isBranch yX11_isBranch, .code yX11_isBranch cX11_isBranch 4 (some .boolean)]) : List Cond) [56, 57, 58, 59, 60, 61, 62, 6, 63, 64, 65, 66, 67, 68, 69, 12, 41, 42, 43, 44, 70, 71, 72, 73] rfl (by decide +kernel)) (goodIn_few (big := wsX11_hop) (fun _ h9 => List.mem_cons_of_mem _ (List.mem_append_right _ h9)) gb_0)
  exact h
set_option maxRecDepth 20000 in
theorem gX11_hop_X11_places : GoodIn wsX11_hop (wsV RX11 410 RX11 yX11_places wsX11_places) := goodIn_app (goodIn_r _ [53, 54, 55, 6] rfl (by decide +kernel)) ggX11_hop_X11_places
set_option maxRecDepth 20000 in
theorem ggX11_hop_X11_hidden : GoodIn wsX11_hop wsX11_hidden := by
  have h := goodIn_app (goodIn_r (big := wsX11_hop) (.code yX11_hidden cX11_hidden 3 (some .int) :: (wsX11_hidden_r1 ++ wsX11_hidden_r2) : List Cond) [77, 53, 54, 55, 6, 56, 57, 58, 59, 60, 61, 62, 63, 64, 65, 66, 67, 68, 69, 12, 41, 42, 43, 44, 70, 71, 72, 73, 23, 24, 25, 26, 27, 28, 29, 30, 2, 31, 32, 33] rfl (by decide +kernel)) (goodIn_few (big := wsX11_hop) (fun _ h9 => List.mem_cons_of_mem _ (List.mem_append_right _ h9)) gb_0)
  exact h
set_option maxRecDepth 20000 in
theorem gX11_hop_X11_hidden : GoodIn wsX11_hop (wsV RX11 413 RX11 yX11_hidden wsX11_hidden) := goodIn_app (goodIn_r _ [74, 75, 76, 6] rfl (by decide +kernel)) ggX11_hop_X11_hidden
theorem eX11_hop_0q : (decode cX11_hop 0 = .ok (.aload_n 0, 1)) ∧ (decode cX11_hop 1 = .ok (.iconst 0, 1)) ∧ (decode cX11_hop 2 = .ok (.putfield 142, 3)) ∧ (decode cX11_hop 5 = .ok (.aload_n 0, 1)) ∧ (decode cX11_hop 6 = .ok (.iload_n 1, 1)) ∧ (decode cX11_hop 7 = .ok (.invokevirtual 371, 3)) ∧ (decode cX11_hop 10 = .ok (.ifCond .eq 10, 3)) ∧ (decode cX11_hop 13 = .ok (.iload_n 2, 1)) := by decide +kernel
theorem dX11_hop_0 : decode cX11_hop 0 = .ok (.aload_n 0, 1) := eX11_hop_0q.1
theorem dX11_hop_1 : decode cX11_hop 1 = .ok (.iconst 0, 1) := eX11_hop_0q.2.1
theorem dX11_hop_2 : decode cX11_hop 2 = .ok (.putfield 142, 3) := eX11_hop_0q.2.2.1
theorem dX11_hop_5 : decode cX11_hop 5 = .ok (.aload_n 0, 1) := eX11_hop_0q.2.2.2.1
theorem dX11_hop_6 : decode cX11_hop 6 = .ok (.iload_n 1, 1) := eX11_hop_0q.2.2.2.2.1
theorem dX11_hop_7 : decode cX11_hop 7 = .ok (.invokevirtual 371, 3) := eX11_hop_0q.2.2.2.2.2.1
theorem dX11_hop_10 : decode cX11_hop 10 = .ok (.ifCond .eq 10, 3) := eX11_hop_0q.2.2.2.2.2.2.1
theorem dX11_hop_13 : decode cX11_hop 13 = .ok (.iload_n 2, 1) := eX11_hop_0q.2.2.2.2.2.2.2
theorem eX11_hop_14q : (decode cX11_hop 14 = .ok (.invokestatic 374, 3)) ∧ (decode cX11_hop 17 = .ok (.ifCond .ne 9, 3)) ∧ (decode cX11_hop 20 = .ok (.aload_n 0, 1)) ∧ (decode cX11_hop 21 = .ok (.iconst 1, 1)) ∧ (decode cX11_hop 22 = .ok (.invokevirtual 240, 3)) ∧ (decode cX11_hop 25 = .ok (.ireturn, 1)) ∧ (decode cX11_hop 26 = .ok (.iload_n 3, 1)) ∧ (decode cX11_hop 27 = .ok (.tableswitch 72 0 4 #[33, 40, 51, 58, 65], 33)) := by decide +kernel
theorem dX11_hop_14 : decode cX11_hop 14 = .ok (.invokestatic 374, 3) := eX11_hop_14q.1
theorem dX11_hop_17 : decode cX11_hop 17 = .ok (.ifCond .ne 9, 3) := eX11_hop_14q.2.1
theorem dX11_hop_20 : decode cX11_hop 20 = .ok (.aload_n 0, 1) := eX11_hop_14q.2.2.1
theorem dX11_hop_21 : decode cX11_hop 21 = .ok (.iconst 1, 1) := eX11_hop_14q.2.2.2.1
theorem dX11_hop_22 : decode cX11_hop 22 = .ok (.invokevirtual 240, 3) := eX11_hop_14q.2.2.2.2.1
theorem dX11_hop_25 : decode cX11_hop 25 = .ok (.ireturn, 1) := eX11_hop_14q.2.2.2.2.2.1
theorem dX11_hop_26 : decode cX11_hop 26 = .ok (.iload_n 3, 1) := eX11_hop_14q.2.2.2.2.2.2.1
theorem dX11_hop_27 : decode cX11_hop 27 = .ok (.tableswitch 72 0 4 #[33, 40, 51, 58, 65], 33) := eX11_hop_14q.2.2.2.2.2.2.2
theorem eX11_hop_60q : (decode cX11_hop 60 = .ok (.aload_n 0, 1)) ∧ (decode cX11_hop 61 = .ok (.iload_n 1, 1)) ∧ (decode cX11_hop 62 = .ok (.iload_n 2, 1)) ∧ (decode cX11_hop 63 = .ok (.invokevirtual 307, 3)) ∧ (decode cX11_hop 66 = .ok (.ireturn, 1)) ∧ (decode cX11_hop 67 = .ok (.aload_n 0, 1)) ∧ (decode cX11_hop 68 = .ok (.getfield 60, 3)) ∧ (decode cX11_hop 71 = .ok (.iload_n 1, 1)) := by decide +kernel
theorem dX11_hop_60 : decode cX11_hop 60 = .ok (.aload_n 0, 1) := eX11_hop_60q.1
theorem dX11_hop_61 : decode cX11_hop 61 = .ok (.iload_n 1, 1) := eX11_hop_60q.2.1
theorem dX11_hop_62 : decode cX11_hop 62 = .ok (.iload_n 2, 1) := eX11_hop_60q.2.2.1
theorem dX11_hop_63 : decode cX11_hop 63 = .ok (.invokevirtual 307, 3) := eX11_hop_60q.2.2.2.1
theorem dX11_hop_66 : decode cX11_hop 66 = .ok (.ireturn, 1) := eX11_hop_60q.2.2.2.2.1
theorem dX11_hop_67 : decode cX11_hop 67 = .ok (.aload_n 0, 1) := eX11_hop_60q.2.2.2.2.2.1
theorem dX11_hop_68 : decode cX11_hop 68 = .ok (.getfield 60, 3) := eX11_hop_60q.2.2.2.2.2.2.1
theorem dX11_hop_71 : decode cX11_hop 71 = .ok (.iload_n 1, 1) := eX11_hop_60q.2.2.2.2.2.2.2
theorem eX11_hop_72q : (decode cX11_hop 72 = .ok (.iload_n 2, 1)) ∧ (decode cX11_hop 73 = .ok (.invokestatic 334, 3)) ∧ (decode cX11_hop 76 = .ok (.iaload, 1)) ∧ (decode cX11_hop 77 = .ok (.ireturn, 1)) ∧ (decode cX11_hop 78 = .ok (.aload_n 0, 1)) ∧ (decode cX11_hop 79 = .ok (.iload_n 1, 1)) ∧ (decode cX11_hop 80 = .ok (.iload_n 2, 1)) ∧ (decode cX11_hop 81 = .ok (.invokevirtual 317, 3)) := by decide +kernel
theorem dX11_hop_72 : decode cX11_hop 72 = .ok (.iload_n 2, 1) := eX11_hop_72q.1
theorem dX11_hop_73 : decode cX11_hop 73 = .ok (.invokestatic 334, 3) := eX11_hop_72q.2.1
theorem dX11_hop_76 : decode cX11_hop 76 = .ok (.iaload, 1) := eX11_hop_72q.2.2.1
theorem dX11_hop_77 : decode cX11_hop 77 = .ok (.ireturn, 1) := eX11_hop_72q.2.2.2.1
theorem dX11_hop_78 : decode cX11_hop 78 = .ok (.aload_n 0, 1) := eX11_hop_72q.2.2.2.2.1
theorem dX11_hop_79 : decode cX11_hop 79 = .ok (.iload_n 1, 1) := eX11_hop_72q.2.2.2.2.2.1
theorem dX11_hop_80 : decode cX11_hop 80 = .ok (.iload_n 2, 1) := eX11_hop_72q.2.2.2.2.2.2.1
theorem dX11_hop_81 : decode cX11_hop 81 = .ok (.invokevirtual 317, 3) := eX11_hop_72q.2.2.2.2.2.2.2
theorem eX11_hop_84q : (decode cX11_hop 84 = .ok (.ireturn, 1)) ∧ (decode cX11_hop 85 = .ok (.aload_n 0, 1)) ∧ (decode cX11_hop 86 = .ok (.iload_n 1, 1)) ∧ (decode cX11_hop 87 = .ok (.iload_n 2, 1)) ∧ (decode cX11_hop 88 = .ok (.invokevirtual 410, 3)) ∧ (decode cX11_hop 91 = .ok (.ireturn, 1)) ∧ (decode cX11_hop 92 = .ok (.aload_n 0, 1)) ∧ (decode cX11_hop 93 = .ok (.iload_n 1, 1)) := by decide +kernel
theorem dX11_hop_84 : decode cX11_hop 84 = .ok (.ireturn, 1) := eX11_hop_84q.1
theorem dX11_hop_85 : decode cX11_hop 85 = .ok (.aload_n 0, 1) := eX11_hop_84q.2.1
theorem dX11_hop_86 : decode cX11_hop 86 = .ok (.iload_n 1, 1) := eX11_hop_84q.2.2.1
theorem dX11_hop_87 : decode cX11_hop 87 = .ok (.iload_n 2, 1) := eX11_hop_84q.2.2.2.1
theorem dX11_hop_88 : decode cX11_hop 88 = .ok (.invokevirtual 410, 3) := eX11_hop_84q.2.2.2.2.1
theorem dX11_hop_91 : decode cX11_hop 91 = .ok (.ireturn, 1) := eX11_hop_84q.2.2.2.2.2.1
theorem dX11_hop_92 : decode cX11_hop 92 = .ok (.aload_n 0, 1) := eX11_hop_84q.2.2.2.2.2.2.1
theorem dX11_hop_93 : decode cX11_hop 93 = .ok (.iload_n 1, 1) := eX11_hop_84q.2.2.2.2.2.2.2
theorem eX11_hop_94q : (decode cX11_hop 94 = .ok (.iload_n 2, 1)) ∧ (decode cX11_hop 95 = .ok (.invokevirtual 413, 3)) ∧ (decode cX11_hop 98 = .ok (.ireturn, 1)) ∧ (decode cX11_hop 99 = .ok (.aload_n 0, 1)) ∧ (decode cX11_hop 100 = .ok (.iconst 1, 1)) ∧ (decode cX11_hop 101 = .ok (.invokevirtual 240, 3)) ∧ (decode cX11_hop 104 = .ok (.ireturn, 1)) := by decide +kernel
theorem dX11_hop_94 : decode cX11_hop 94 = .ok (.iload_n 2, 1) := eX11_hop_94q.1
theorem dX11_hop_95 : decode cX11_hop 95 = .ok (.invokevirtual 413, 3) := eX11_hop_94q.2.1
theorem dX11_hop_98 : decode cX11_hop 98 = .ok (.ireturn, 1) := eX11_hop_94q.2.2.1
theorem dX11_hop_99 : decode cX11_hop 99 = .ok (.aload_n 0, 1) := eX11_hop_94q.2.2.2.1
theorem dX11_hop_100 : decode cX11_hop 100 = .ok (.iconst 1, 1) := eX11_hop_94q.2.2.2.2.1
theorem dX11_hop_101 : decode cX11_hop 101 = .ok (.invokevirtual 240, 3) := eX11_hop_94q.2.2.2.2.2.1
theorem dX11_hop_104 : decode cX11_hop 104 = .ok (.ireturn, 1) := eX11_hop_94q.2.2.2.2.2.2
set_option maxRecDepth 20000 in
theorem ggX11_sure_X11_isGoal : GoodIn wsX11_sure wsX11_isGoal := by
  have h := goodIn_app (goodIn_r (big := wsX11_sure) (.code yX11_isGoal cX11_isGoal 2 (some .boolean) :: ([.methodLink RX11 304 yX11_goals, .instanceMethod yX11_goals, .selects RX11 yX11_goals yX11_goals, .initialized RX11, .code yX11_goals cX11_goals 1 (some .int), .fieldLink RX11 34 "PathProberModel" "told" "[I", .methodLink RX11 359 yX11_isIn, .static yX11_isIn, .code yX11_isIn cX11_isIn 3 (some .boolean)]) : List Cond) [8, 9, 10, 11, 7, 12, 13, 14, 15, 16] rfl (by decide +kernel)) (goodIn_few (big := wsX11_sure) (fun _ h9 => List.mem_cons_of_mem _ (List.mem_append_right _ h9)) gb_0)
  exact h
set_option maxRecDepth 20000 in
theorem gX11_sure_X11_isGoal : GoodIn wsX11_sure (wsV RX11 371 RX11 yX11_isGoal wsX11_isGoal) := goodIn_app (goodIn_r _ [4, 5, 6, 7] rfl (by decide +kernel)) ggX11_sure_X11_isGoal
set_option maxRecDepth 20000 in
theorem ggX11_sure_X11_isHop : GoodIn wsX11_sure wsX11_isHop := goodIn_r _ [19, 14, 15, 7, 16] rfl (by decide +kernel)
set_option maxRecDepth 20000 in
theorem gX11_sure_X11_isHop : GoodIn wsX11_sure (va_wsS RX11 374 yX11_isHop wsX11_isHop) := goodIn_app (goodIn_r _ [17, 18, 7] rfl (by decide +kernel)) ggX11_sure_X11_isHop
set_option maxRecDepth 20000 in
theorem ggX11_sure_X11_fail : GoodIn wsX11_sure wsX11_fail := by
  have h := goodIn_app (goodIn_r (big := wsX11_sure) (.code yX11_fail cX11_fail 2 (some .int) :: ([.fieldLink RX11 142 "PathProberModel" "code" "I"]) : List Cond) [23, 1] rfl (by decide +kernel)) (goodIn_few (big := wsX11_sure) (fun _ h9 => List.mem_cons_of_mem _ (List.mem_append_right _ h9)) gb_0)
  exact h
set_option maxRecDepth 20000 in
theorem gX11_sure_X11_fail : GoodIn wsX11_sure (wsV RX11 240 RX11 yX11_fail wsX11_fail) := goodIn_app (goodIn_r _ [20, 21, 22, 7] rfl (by decide +kernel)) ggX11_sure_X11_fail
set_option maxRecDepth 20000 in
theorem ggX11_sure_X11_addresses : GoodIn wsX11_sure wsX11_addresses := by
  have h := goodIn_app (goodIn_r (big := wsX11_sure) (.code yX11_addresses cX11_addresses 5 (some .int) :: ([.methodLink RX11 301 yX11_seenBy, .instanceMethod yX11_seenBy, .selects RX11 yX11_seenBy yX11_seenBy, .initialized RX11, .code yX11_seenBy cX11_seenBy 4 (some .int), .fieldLink RX11 60 "PathProberModel" "now" "[I", .methodLink RX11 298 yX11_seenAt, .static yX11_seenAt, .code yX11_seenAt cX11_seenAt 3 (some .int)]) : List Cond) [27, 28, 29, 30, 7, 31, 3, 32, 33, 34] rfl (by decide +kernel)) (goodIn_few (big := wsX11_sure) (fun _ h9 => List.mem_cons_of_mem _ (List.mem_append_right _ h9)) gb_0)
  exact h
set_option maxRecDepth 20000 in
theorem gX11_sure_X11_addresses : GoodIn wsX11_sure (wsV RX11 307 RX11 yX11_addresses wsX11_addresses) := goodIn_app (goodIn_r _ [24, 25, 26, 7] rfl (by decide +kernel)) ggX11_sure_X11_addresses
set_option maxRecDepth 20000 in
theorem ggX11_sure_J6_bitCount_0f7a4 : GoodIn wsX11_sure wsJ6_bitCount_0f7a4 := goodIn_r _ [38, 39, 40, 41] rfl (by decide +kernel)
set_option maxRecDepth 20000 in
theorem gX11_sure_J6_bitCount_0f7a4 : GoodIn wsX11_sure (va_wsS RX11 351 yJ6_bitCount_0f7a4 wsJ6_bitCount_0f7a4) := goodIn_app (goodIn_r _ [35, 36, 37] rfl (by decide +kernel)) ggX11_sure_J6_bitCount_0f7a4
set_option maxRecDepth 20000 in
theorem ggX11_sure_X11_sentAt : GoodIn wsX11_sure wsX11_sentAt := goodIn_r _ [44] rfl (by decide +kernel)
set_option maxRecDepth 20000 in
theorem gX11_sure_X11_sentAt : GoodIn wsX11_sure (va_wsS RX11 334 yX11_sentAt wsX11_sentAt) := goodIn_app (goodIn_r _ [42, 43, 7] rfl (by decide +kernel)) ggX11_sure_X11_sentAt
set_option maxRecDepth 20000 in
theorem ggX11_sure_X11_missingOf : GoodIn wsX11_sure wsX11_missingOf := by
  have h := goodIn_app (goodIn_r (big := wsX11_sure) (.code yX11_missingOf cX11_missingOf 7 (some .long) :: ([.fieldLink RX11 79 "PathProberModel" "met" "[J", .constantLong RX11 320 (1000000000000)]) : List Cond) [48, 49, 2] rfl (by decide +kernel)) (goodIn_few (big := wsX11_sure) (fun _ h9 => List.mem_cons_of_mem _ (List.mem_append_right _ h9)) gb_0)
  exact h
set_option maxRecDepth 20000 in
theorem gX11_sure_X11_missingOf : GoodIn wsX11_sure (wsV RX11 322 RX11 yX11_missingOf wsX11_missingOf) := goodIn_app (goodIn_r _ [45, 46, 47, 7] rfl (by decide +kernel)) ggX11_sure_X11_missingOf
theorem eX11_sure_0q : (decode cX11_sure 0 = .ok (.aload_n 0, 1)) ∧ (decode cX11_sure 1 = .ok (.iconst 0, 1)) ∧ (decode cX11_sure 2 = .ok (.putfield 142, 3)) ∧ (decode cX11_sure 5 = .ok (.aload_n 0, 1)) ∧ (decode cX11_sure 6 = .ok (.iload_n 1, 1)) ∧ (decode cX11_sure 7 = .ok (.invokevirtual 371, 3)) ∧ (decode cX11_sure 10 = .ok (.ifCond .eq 10, 3)) ∧ (decode cX11_sure 13 = .ok (.iload_n 2, 1)) := by decide +kernel
theorem dX11_sure_0 : decode cX11_sure 0 = .ok (.aload_n 0, 1) := eX11_sure_0q.1
theorem dX11_sure_1 : decode cX11_sure 1 = .ok (.iconst 0, 1) := eX11_sure_0q.2.1
theorem dX11_sure_2 : decode cX11_sure 2 = .ok (.putfield 142, 3) := eX11_sure_0q.2.2.1
theorem dX11_sure_5 : decode cX11_sure 5 = .ok (.aload_n 0, 1) := eX11_sure_0q.2.2.2.1
theorem dX11_sure_6 : decode cX11_sure 6 = .ok (.iload_n 1, 1) := eX11_sure_0q.2.2.2.2.1
theorem dX11_sure_7 : decode cX11_sure 7 = .ok (.invokevirtual 371, 3) := eX11_sure_0q.2.2.2.2.2.1
theorem dX11_sure_10 : decode cX11_sure 10 = .ok (.ifCond .eq 10, 3) := eX11_sure_0q.2.2.2.2.2.2.1
theorem dX11_sure_13 : decode cX11_sure 13 = .ok (.iload_n 2, 1) := eX11_sure_0q.2.2.2.2.2.2.2
theorem eX11_sure_14q : (decode cX11_sure 14 = .ok (.invokestatic 374, 3)) ∧ (decode cX11_sure 17 = .ok (.ifCond .ne 10, 3)) ∧ (decode cX11_sure 20 = .ok (.aload_n 0, 1)) ∧ (decode cX11_sure 21 = .ok (.iconst 1, 1)) ∧ (decode cX11_sure 22 = .ok (.invokevirtual 240, 3)) ∧ (decode cX11_sure 25 = .ok (.i2l, 1)) ∧ (decode cX11_sure 26 = .ok (.lreturn, 1)) ∧ (decode cX11_sure 27 = .ok (.aload_n 0, 1)) := by decide +kernel
theorem dX11_sure_14 : decode cX11_sure 14 = .ok (.invokestatic 374, 3) := eX11_sure_14q.1
theorem dX11_sure_17 : decode cX11_sure 17 = .ok (.ifCond .ne 10, 3) := eX11_sure_14q.2.1
theorem dX11_sure_20 : decode cX11_sure 20 = .ok (.aload_n 0, 1) := eX11_sure_14q.2.2.1
theorem dX11_sure_21 : decode cX11_sure 21 = .ok (.iconst 1, 1) := eX11_sure_14q.2.2.2.1
theorem dX11_sure_22 : decode cX11_sure 22 = .ok (.invokevirtual 240, 3) := eX11_sure_14q.2.2.2.2.1
theorem dX11_sure_25 : decode cX11_sure 25 = .ok (.i2l, 1) := eX11_sure_14q.2.2.2.2.2.1
theorem dX11_sure_26 : decode cX11_sure 26 = .ok (.lreturn, 1) := eX11_sure_14q.2.2.2.2.2.2.1
theorem dX11_sure_27 : decode cX11_sure 27 = .ok (.aload_n 0, 1) := eX11_sure_14q.2.2.2.2.2.2.2
theorem eX11_sure_28q : (decode cX11_sure 28 = .ok (.iload_n 1, 1)) ∧ (decode cX11_sure 29 = .ok (.iload_n 2, 1)) ∧ (decode cX11_sure 30 = .ok (.invokevirtual 307, 3)) ∧ (decode cX11_sure 33 = .ok (.invokestatic 351, 3)) ∧ (decode cX11_sure 36 = .ok (.istore_n 3, 1)) ∧ (decode cX11_sure 37 = .ok (.iload_n 3, 1)) ∧ (decode cX11_sure 38 = .ok (.ifCond .ne 9, 3)) ∧ (decode cX11_sure 41 = .ok (.ldc2_w 320, 3)) := by decide +kernel
theorem dX11_sure_28 : decode cX11_sure 28 = .ok (.iload_n 1, 1) := eX11_sure_28q.1
theorem dX11_sure_29 : decode cX11_sure 29 = .ok (.iload_n 2, 1) := eX11_sure_28q.2.1
theorem dX11_sure_30 : decode cX11_sure 30 = .ok (.invokevirtual 307, 3) := eX11_sure_28q.2.2.1
theorem dX11_sure_33 : decode cX11_sure 33 = .ok (.invokestatic 351, 3) := eX11_sure_28q.2.2.2.1
theorem dX11_sure_36 : decode cX11_sure 36 = .ok (.istore_n 3, 1) := eX11_sure_28q.2.2.2.2.1
theorem dX11_sure_37 : decode cX11_sure 37 = .ok (.iload_n 3, 1) := eX11_sure_28q.2.2.2.2.2.1
theorem dX11_sure_38 : decode cX11_sure 38 = .ok (.ifCond .ne 9, 3) := eX11_sure_28q.2.2.2.2.2.2.1
theorem dX11_sure_41 : decode cX11_sure 41 = .ok (.ldc2_w 320, 3) := eX11_sure_28q.2.2.2.2.2.2.2
theorem eX11_sure_44q : (decode cX11_sure 44 = .ok (.goto 20, 3)) ∧ (decode cX11_sure 47 = .ok (.aload_n 0, 1)) ∧ (decode cX11_sure 48 = .ok (.aload_n 0, 1)) ∧ (decode cX11_sure 49 = .ok (.getfield 60, 3)) ∧ (decode cX11_sure 52 = .ok (.iload_n 1, 1)) ∧ (decode cX11_sure 53 = .ok (.iload_n 2, 1)) ∧ (decode cX11_sure 54 = .ok (.invokestatic 334, 3)) ∧ (decode cX11_sure 57 = .ok (.iaload, 1)) := by decide +kernel
theorem dX11_sure_44 : decode cX11_sure 44 = .ok (.goto 20, 3) := eX11_sure_44q.1
theorem dX11_sure_47 : decode cX11_sure 47 = .ok (.aload_n 0, 1) := eX11_sure_44q.2.1
theorem dX11_sure_48 : decode cX11_sure 48 = .ok (.aload_n 0, 1) := eX11_sure_44q.2.2.1
theorem dX11_sure_49 : decode cX11_sure 49 = .ok (.getfield 60, 3) := eX11_sure_44q.2.2.2.1
theorem dX11_sure_52 : decode cX11_sure 52 = .ok (.iload_n 1, 1) := eX11_sure_44q.2.2.2.2.1
theorem dX11_sure_53 : decode cX11_sure 53 = .ok (.iload_n 2, 1) := eX11_sure_44q.2.2.2.2.2.1
theorem dX11_sure_54 : decode cX11_sure 54 = .ok (.invokestatic 334, 3) := eX11_sure_44q.2.2.2.2.2.2.1
theorem dX11_sure_57 : decode cX11_sure 57 = .ok (.iaload, 1) := eX11_sure_44q.2.2.2.2.2.2.2
theorem eX11_sure_58q : (decode cX11_sure 58 = .ok (.iload_n 3, 1)) ∧ (decode cX11_sure 59 = .ok (.iconst 1, 1)) ∧ (decode cX11_sure 60 = .ok (.iadd, 1)) ∧ (decode cX11_sure 61 = .ok (.invokevirtual 322, 3)) ∧ (decode cX11_sure 64 = .ok (.lreturn, 1)) := by decide +kernel
theorem dX11_sure_58 : decode cX11_sure 58 = .ok (.iload_n 3, 1) := eX11_sure_58q.1
theorem dX11_sure_59 : decode cX11_sure 59 = .ok (.iconst 1, 1) := eX11_sure_58q.2.1
theorem dX11_sure_60 : decode cX11_sure 60 = .ok (.iadd, 1) := eX11_sure_58q.2.2.1
theorem dX11_sure_61 : decode cX11_sure 61 = .ok (.invokevirtual 322, 3) := eX11_sure_58q.2.2.2.1
theorem dX11_sure_64 : decode cX11_sure 64 = .ok (.lreturn, 1) := eX11_sure_58q.2.2.2.2
set_option maxRecDepth 20000 in
theorem ggX11_missing_X11_isIn : GoodIn wsX11_missing wsX11_isIn := goodIn_r _ [5] rfl (by decide +kernel)
set_option maxRecDepth 20000 in
theorem gX11_missing_X11_isIn : GoodIn wsX11_missing (va_wsS RX11 359 yX11_isIn wsX11_isIn) := goodIn_app (goodIn_r _ [2, 3, 4] rfl (by decide +kernel)) ggX11_missing_X11_isIn
set_option maxRecDepth 20000 in
theorem ggX11_missing_X11_missingOf : GoodIn wsX11_missing wsX11_missingOf := by
  have h := goodIn_app (goodIn_r (big := wsX11_missing) (.code yX11_missingOf cX11_missingOf 7 (some .long) :: ([.fieldLink RX11 79 "PathProberModel" "met" "[J", .constantLong RX11 320 (1000000000000)]) : List Cond) [9, 10, 11] rfl (by decide +kernel)) (goodIn_few (big := wsX11_missing) (fun _ h9 => List.mem_cons_of_mem _ (List.mem_append_right _ h9)) gb_0)
  exact h
set_option maxRecDepth 20000 in
theorem gX11_missing_X11_missingOf : GoodIn wsX11_missing (wsV RX11 322 RX11 yX11_missingOf wsX11_missingOf) := goodIn_app (goodIn_r _ [6, 7, 8, 4] rfl (by decide +kernel)) ggX11_missing_X11_missingOf
set_option maxRecDepth 20000 in
theorem ggX11_missing_X11_fail : GoodIn wsX11_missing wsX11_fail := by
  have h := goodIn_app (goodIn_r (big := wsX11_missing) (.code yX11_fail cX11_fail 2 (some .int) :: ([.fieldLink RX11 142 "PathProberModel" "code" "I"]) : List Cond) [15, 1] rfl (by decide +kernel)) (goodIn_few (big := wsX11_missing) (fun _ h9 => List.mem_cons_of_mem _ (List.mem_append_right _ h9)) gb_0)
  exact h
set_option maxRecDepth 20000 in
theorem gX11_missing_X11_fail : GoodIn wsX11_missing (wsV RX11 240 RX11 yX11_fail wsX11_fail) := goodIn_app (goodIn_r _ [12, 13, 14, 4] rfl (by decide +kernel)) ggX11_missing_X11_fail
theorem eX11_missing_0q : (decode cX11_missing 0 = .ok (.aload_n 0, 1)) ∧ (decode cX11_missing 1 = .ok (.iconst 0, 1)) ∧ (decode cX11_missing 2 = .ok (.putfield 142, 3)) ∧ (decode cX11_missing 5 = .ok (.iload_n 1, 1)) ∧ (decode cX11_missing 6 = .ok (.iconst 0, 1)) ∧ (decode cX11_missing 7 = .ok (.bipush 60, 2)) ∧ (decode cX11_missing 9 = .ok (.invokestatic 359, 3)) ∧ (decode cX11_missing 12 = .ok (.ifCond .eq 21, 3)) := by decide +kernel
theorem dX11_missing_0 : decode cX11_missing 0 = .ok (.aload_n 0, 1) := eX11_missing_0q.1
theorem dX11_missing_1 : decode cX11_missing 1 = .ok (.iconst 0, 1) := eX11_missing_0q.2.1
theorem dX11_missing_2 : decode cX11_missing 2 = .ok (.putfield 142, 3) := eX11_missing_0q.2.2.1
theorem dX11_missing_5 : decode cX11_missing 5 = .ok (.iload_n 1, 1) := eX11_missing_0q.2.2.2.1
theorem dX11_missing_6 : decode cX11_missing 6 = .ok (.iconst 0, 1) := eX11_missing_0q.2.2.2.2.1
theorem dX11_missing_7 : decode cX11_missing 7 = .ok (.bipush 60, 2) := eX11_missing_0q.2.2.2.2.2.1
theorem dX11_missing_9 : decode cX11_missing 9 = .ok (.invokestatic 359, 3) := eX11_missing_0q.2.2.2.2.2.2.1
theorem dX11_missing_12 : decode cX11_missing 12 = .ok (.ifCond .eq 21, 3) := eX11_missing_0q.2.2.2.2.2.2.2
theorem eX11_missing_15q : (decode cX11_missing 15 = .ok (.iload_n 2, 1)) ∧ (decode cX11_missing 16 = .ok (.iconst 1, 1)) ∧ (decode cX11_missing 17 = .ok (.iconst 5, 1)) ∧ (decode cX11_missing 18 = .ok (.invokestatic 359, 3)) ∧ (decode cX11_missing 21 = .ok (.ifCond .eq 12, 3)) ∧ (decode cX11_missing 24 = .ok (.aload_n 0, 1)) ∧ (decode cX11_missing 25 = .ok (.iload_n 1, 1)) ∧ (decode cX11_missing 26 = .ok (.iload_n 2, 1)) := by decide +kernel
theorem dX11_missing_15 : decode cX11_missing 15 = .ok (.iload_n 2, 1) := eX11_missing_15q.1
theorem dX11_missing_16 : decode cX11_missing 16 = .ok (.iconst 1, 1) := eX11_missing_15q.2.1
theorem dX11_missing_17 : decode cX11_missing 17 = .ok (.iconst 5, 1) := eX11_missing_15q.2.2.1
theorem dX11_missing_18 : decode cX11_missing 18 = .ok (.invokestatic 359, 3) := eX11_missing_15q.2.2.2.1
theorem dX11_missing_21 : decode cX11_missing 21 = .ok (.ifCond .eq 12, 3) := eX11_missing_15q.2.2.2.2.1
theorem dX11_missing_24 : decode cX11_missing 24 = .ok (.aload_n 0, 1) := eX11_missing_15q.2.2.2.2.2.1
theorem dX11_missing_25 : decode cX11_missing 25 = .ok (.iload_n 1, 1) := eX11_missing_15q.2.2.2.2.2.2.1
theorem dX11_missing_26 : decode cX11_missing 26 = .ok (.iload_n 2, 1) := eX11_missing_15q.2.2.2.2.2.2.2
theorem eX11_missing_27q : (decode cX11_missing 27 = .ok (.invokevirtual 322, 3)) ∧ (decode cX11_missing 30 = .ok (.goto 9, 3)) ∧ (decode cX11_missing 33 = .ok (.aload_n 0, 1)) ∧ (decode cX11_missing 34 = .ok (.iconst 1, 1)) ∧ (decode cX11_missing 35 = .ok (.invokevirtual 240, 3)) ∧ (decode cX11_missing 38 = .ok (.i2l, 1)) ∧ (decode cX11_missing 39 = .ok (.lreturn, 1)) := by decide +kernel
theorem dX11_missing_27 : decode cX11_missing 27 = .ok (.invokevirtual 322, 3) := eX11_missing_27q.1
theorem dX11_missing_30 : decode cX11_missing 30 = .ok (.goto 9, 3) := eX11_missing_27q.2.1
theorem dX11_missing_33 : decode cX11_missing 33 = .ok (.aload_n 0, 1) := eX11_missing_27q.2.2.1
theorem dX11_missing_34 : decode cX11_missing 34 = .ok (.iconst 1, 1) := eX11_missing_27q.2.2.2.1
theorem dX11_missing_35 : decode cX11_missing 35 = .ok (.invokevirtual 240, 3) := eX11_missing_27q.2.2.2.2.1
theorem dX11_missing_38 : decode cX11_missing 38 = .ok (.i2l, 1) := eX11_missing_27q.2.2.2.2.2.1
theorem dX11_missing_39 : decode cX11_missing 39 = .ok (.lreturn, 1) := eX11_missing_27q.2.2.2.2.2.2
set_option maxRecDepth 20000 in
theorem ggX11_edge_X11_isGoal : GoodIn wsX11_edge wsX11_isGoal := by
  have h := goodIn_app (goodIn_r (big := wsX11_edge) (.code yX11_isGoal cX11_isGoal 2 (some .boolean) :: ([.methodLink RX11 304 yX11_goals, .instanceMethod yX11_goals, .selects RX11 yX11_goals yX11_goals, .initialized RX11, .code yX11_goals cX11_goals 1 (some .int), .fieldLink RX11 34 "PathProberModel" "told" "[I", .methodLink RX11 359 yX11_isIn, .static yX11_isIn, .code yX11_isIn cX11_isIn 3 (some .boolean)]) : List Cond) [6, 7, 8, 9, 5, 10, 11, 12, 13, 14] rfl (by decide +kernel)) (goodIn_few (big := wsX11_edge) (fun _ h9 => List.mem_cons_of_mem _ (List.mem_append_right _ h9)) gb_0)
  exact h
set_option maxRecDepth 20000 in
theorem gX11_edge_X11_isGoal : GoodIn wsX11_edge (wsV RX11 371 RX11 yX11_isGoal wsX11_isGoal) := goodIn_app (goodIn_r _ [2, 3, 4, 5] rfl (by decide +kernel)) ggX11_edge_X11_isGoal
set_option maxRecDepth 20000 in
theorem ggX11_edge_X11_isIn : GoodIn wsX11_edge wsX11_isIn := goodIn_r _ [14] rfl (by decide +kernel)
set_option maxRecDepth 20000 in
theorem gX11_edge_X11_isIn : GoodIn wsX11_edge (va_wsS RX11 359 yX11_isIn wsX11_isIn) := goodIn_app (goodIn_r _ [12, 13, 5] rfl (by decide +kernel)) ggX11_edge_X11_isIn
set_option maxRecDepth 20000 in
theorem ggX11_edge_X11_isAddress : GoodIn wsX11_edge wsX11_isAddress := by
  have h := goodIn_app (goodIn_r (big := wsX11_edge) (.code yX11_isAddress cX11_isAddress 2 (some .boolean) :: ([.methodLink RX11 266 yX11_links, .instanceMethod yX11_links, .selects RX11 yX11_links yX11_links, .initialized RX11, .code yX11_links cX11_links 1 (some .int), .fieldLink RX11 34 "PathProberModel" "told" "[I", .methodLink RX11 359 yX11_isIn, .static yX11_isIn, .code yX11_isIn cX11_isIn 3 (some .boolean), .methodLink RX11 263 yX11_routers, .instanceMethod yX11_routers, .selects RX11 yX11_routers yX11_routers, .code yX11_routers cX11_routers 1 (some .int)]) : List Cond) [18, 19, 20, 21, 5, 22, 11, 12, 13, 14, 23, 24, 25, 26] rfl (by decide +kernel)) (goodIn_few (big := wsX11_edge) (fun _ h9 => List.mem_cons_of_mem _ (List.mem_append_right _ h9)) gb_0)
  exact h
set_option maxRecDepth 20000 in
theorem gX11_edge_X11_isAddress : GoodIn wsX11_edge (wsV RX11 362 RX11 yX11_isAddress wsX11_isAddress) := goodIn_app (goodIn_r _ [15, 16, 17, 5] rfl (by decide +kernel)) ggX11_edge_X11_isAddress
set_option maxRecDepth 20000 in
theorem ggX11_edge_X11_isEdge : GoodIn wsX11_edge wsX11_isEdge := by
  have h := goodIn_app (goodIn_r (big := wsX11_edge) (.code yX11_isEdge cX11_isEdge 7 (some .boolean) :: ([.methodLink RX11 301 yX11_seenBy, .instanceMethod yX11_seenBy, .selects RX11 yX11_seenBy yX11_seenBy, .initialized RX11, .code yX11_seenBy cX11_seenBy 4 (some .int), .fieldLink RX11 60 "PathProberModel" "now" "[I", .methodLink RX11 298 yX11_seenAt, .static yX11_seenAt, .code yX11_seenAt cX11_seenAt 3 (some .int)]) : List Cond) [30, 31, 32, 33, 5, 34, 35, 36, 37, 38] rfl (by decide +kernel)) (goodIn_few (big := wsX11_edge) (fun _ h9 => List.mem_cons_of_mem _ (List.mem_append_right _ h9)) gb_0)
  exact h
set_option maxRecDepth 20000 in
theorem gX11_edge_X11_isEdge : GoodIn wsX11_edge (wsV RX11 310 RX11 yX11_isEdge wsX11_isEdge) := goodIn_app (goodIn_r _ [27, 28, 29, 5] rfl (by decide +kernel)) ggX11_edge_X11_isEdge
set_option maxRecDepth 20000 in
theorem ggX11_edge_X11_fail : GoodIn wsX11_edge wsX11_fail := by
  have h := goodIn_app (goodIn_r (big := wsX11_edge) (.code yX11_fail cX11_fail 2 (some .int) :: ([.fieldLink RX11 142 "PathProberModel" "code" "I"]) : List Cond) [42, 1] rfl (by decide +kernel)) (goodIn_few (big := wsX11_edge) (fun _ h9 => List.mem_cons_of_mem _ (List.mem_append_right _ h9)) gb_0)
  exact h
set_option maxRecDepth 20000 in
theorem gX11_edge_X11_fail : GoodIn wsX11_edge (wsV RX11 240 RX11 yX11_fail wsX11_fail) := goodIn_app (goodIn_r _ [39, 40, 41, 5] rfl (by decide +kernel)) ggX11_edge_X11_fail
theorem eX11_edge_0q : (decode cX11_edge 0 = .ok (.aload_n 0, 1)) ∧ (decode cX11_edge 1 = .ok (.iconst 0, 1)) ∧ (decode cX11_edge 2 = .ok (.putfield 142, 3)) ∧ (decode cX11_edge 5 = .ok (.aload_n 0, 1)) ∧ (decode cX11_edge 6 = .ok (.iload_n 1, 1)) ∧ (decode cX11_edge 7 = .ok (.invokevirtual 371, 3)) ∧ (decode cX11_edge 10 = .ok (.ifCond .eq 34, 3)) ∧ (decode cX11_edge 13 = .ok (.iload_n 2, 1)) := by decide +kernel
theorem dX11_edge_0 : decode cX11_edge 0 = .ok (.aload_n 0, 1) := eX11_edge_0q.1
theorem dX11_edge_1 : decode cX11_edge 1 = .ok (.iconst 0, 1) := eX11_edge_0q.2.1
theorem dX11_edge_2 : decode cX11_edge 2 = .ok (.putfield 142, 3) := eX11_edge_0q.2.2.1
theorem dX11_edge_5 : decode cX11_edge 5 = .ok (.aload_n 0, 1) := eX11_edge_0q.2.2.2.1
theorem dX11_edge_6 : decode cX11_edge 6 = .ok (.iload_n 1, 1) := eX11_edge_0q.2.2.2.2.1
theorem dX11_edge_7 : decode cX11_edge 7 = .ok (.invokevirtual 371, 3) := eX11_edge_0q.2.2.2.2.2.1
theorem dX11_edge_10 : decode cX11_edge 10 = .ok (.ifCond .eq 34, 3) := eX11_edge_0q.2.2.2.2.2.2.1
theorem dX11_edge_13 : decode cX11_edge 13 = .ok (.iload_n 2, 1) := eX11_edge_0q.2.2.2.2.2.2.2
theorem eX11_edge_14q : (decode cX11_edge 14 = .ok (.iconst 1, 1)) ∧ (decode cX11_edge 15 = .ok (.bipush 9, 2)) ∧ (decode cX11_edge 17 = .ok (.invokestatic 359, 3)) ∧ (decode cX11_edge 20 = .ok (.ifCond .eq 24, 3)) ∧ (decode cX11_edge 23 = .ok (.aload_n 0, 1)) ∧ (decode cX11_edge 24 = .ok (.iload_n 3, 1)) ∧ (decode cX11_edge 25 = .ok (.invokevirtual 362, 3)) ∧ (decode cX11_edge 28 = .ok (.ifCond .eq 16, 3)) := by decide +kernel
theorem dX11_edge_14 : decode cX11_edge 14 = .ok (.iconst 1, 1) := eX11_edge_14q.1
theorem dX11_edge_15 : decode cX11_edge 15 = .ok (.bipush 9, 2) := eX11_edge_14q.2.1
theorem dX11_edge_17 : decode cX11_edge 17 = .ok (.invokestatic 359, 3) := eX11_edge_14q.2.2.1
theorem dX11_edge_20 : decode cX11_edge 20 = .ok (.ifCond .eq 24, 3) := eX11_edge_14q.2.2.2.1
theorem dX11_edge_23 : decode cX11_edge 23 = .ok (.aload_n 0, 1) := eX11_edge_14q.2.2.2.2.1
theorem dX11_edge_24 : decode cX11_edge 24 = .ok (.iload_n 3, 1) := eX11_edge_14q.2.2.2.2.2.1
theorem dX11_edge_25 : decode cX11_edge 25 = .ok (.invokevirtual 362, 3) := eX11_edge_14q.2.2.2.2.2.2.1
theorem dX11_edge_28 : decode cX11_edge 28 = .ok (.ifCond .eq 16, 3) := eX11_edge_14q.2.2.2.2.2.2.2
theorem eX11_edge_31q : (decode cX11_edge 31 = .ok (.aload_n 0, 1)) ∧ (decode cX11_edge 32 = .ok (.iload 4, 2)) ∧ (decode cX11_edge 34 = .ok (.invokevirtual 362, 3)) ∧ (decode cX11_edge 37 = .ok (.ifCond .eq 7, 3)) ∧ (decode cX11_edge 40 = .ok (.iconst 1, 1)) ∧ (decode cX11_edge 41 = .ok (.goto 4, 3)) ∧ (decode cX11_edge 44 = .ok (.iconst 0, 1)) ∧ (decode cX11_edge 45 = .ok (.istore 5, 2)) := by decide +kernel
theorem dX11_edge_31 : decode cX11_edge 31 = .ok (.aload_n 0, 1) := eX11_edge_31q.1
theorem dX11_edge_32 : decode cX11_edge 32 = .ok (.iload 4, 2) := eX11_edge_31q.2.1
theorem dX11_edge_34 : decode cX11_edge 34 = .ok (.invokevirtual 362, 3) := eX11_edge_31q.2.2.1
theorem dX11_edge_37 : decode cX11_edge 37 = .ok (.ifCond .eq 7, 3) := eX11_edge_31q.2.2.2.1
theorem dX11_edge_40 : decode cX11_edge 40 = .ok (.iconst 1, 1) := eX11_edge_31q.2.2.2.2.1
theorem dX11_edge_41 : decode cX11_edge 41 = .ok (.goto 4, 3) := eX11_edge_31q.2.2.2.2.2.1
theorem dX11_edge_44 : decode cX11_edge 44 = .ok (.iconst 0, 1) := eX11_edge_31q.2.2.2.2.2.2.1
theorem dX11_edge_45 : decode cX11_edge 45 = .ok (.istore 5, 2) := eX11_edge_31q.2.2.2.2.2.2.2
theorem eX11_edge_47q : (decode cX11_edge 47 = .ok (.iload 5, 2)) ∧ (decode cX11_edge 49 = .ok (.ifCond .eq 23, 3)) ∧ (decode cX11_edge 52 = .ok (.aload_n 0, 1)) ∧ (decode cX11_edge 53 = .ok (.iload_n 1, 1)) ∧ (decode cX11_edge 54 = .ok (.iload_n 2, 1)) ∧ (decode cX11_edge 55 = .ok (.iload_n 3, 1)) ∧ (decode cX11_edge 56 = .ok (.iload 4, 2)) ∧ (decode cX11_edge 58 = .ok (.invokevirtual 310, 3)) := by decide +kernel
theorem dX11_edge_47 : decode cX11_edge 47 = .ok (.iload 5, 2) := eX11_edge_47q.1
theorem dX11_edge_49 : decode cX11_edge 49 = .ok (.ifCond .eq 23, 3) := eX11_edge_47q.2.1
theorem dX11_edge_52 : decode cX11_edge 52 = .ok (.aload_n 0, 1) := eX11_edge_47q.2.2.1
theorem dX11_edge_53 : decode cX11_edge 53 = .ok (.iload_n 1, 1) := eX11_edge_47q.2.2.2.1
theorem dX11_edge_54 : decode cX11_edge 54 = .ok (.iload_n 2, 1) := eX11_edge_47q.2.2.2.2.1
theorem dX11_edge_55 : decode cX11_edge 55 = .ok (.iload_n 3, 1) := eX11_edge_47q.2.2.2.2.2.1
theorem dX11_edge_56 : decode cX11_edge 56 = .ok (.iload 4, 2) := eX11_edge_47q.2.2.2.2.2.2.1
theorem dX11_edge_58 : decode cX11_edge 58 = .ok (.invokevirtual 310, 3) := eX11_edge_47q.2.2.2.2.2.2.2
theorem eX11_edge_61q : (decode cX11_edge 61 = .ok (.ifCond .eq 7, 3)) ∧ (decode cX11_edge 64 = .ok (.iconst 1, 1)) ∧ (decode cX11_edge 65 = .ok (.goto 12, 3)) ∧ (decode cX11_edge 68 = .ok (.iconst 0, 1)) ∧ (decode cX11_edge 69 = .ok (.goto 8, 3)) ∧ (decode cX11_edge 72 = .ok (.aload_n 0, 1)) ∧ (decode cX11_edge 73 = .ok (.iconst 1, 1)) ∧ (decode cX11_edge 74 = .ok (.invokevirtual 240, 3)) := by decide +kernel
theorem dX11_edge_61 : decode cX11_edge 61 = .ok (.ifCond .eq 7, 3) := eX11_edge_61q.1
theorem dX11_edge_64 : decode cX11_edge 64 = .ok (.iconst 1, 1) := eX11_edge_61q.2.1
theorem dX11_edge_65 : decode cX11_edge 65 = .ok (.goto 12, 3) := eX11_edge_61q.2.2.1
theorem dX11_edge_68 : decode cX11_edge 68 = .ok (.iconst 0, 1) := eX11_edge_61q.2.2.2.1
theorem dX11_edge_69 : decode cX11_edge 69 = .ok (.goto 8, 3) := eX11_edge_61q.2.2.2.2.1
theorem dX11_edge_72 : decode cX11_edge 72 = .ok (.aload_n 0, 1) := eX11_edge_61q.2.2.2.2.2.1
theorem dX11_edge_73 : decode cX11_edge 73 = .ok (.iconst 1, 1) := eX11_edge_61q.2.2.2.2.2.2.1
theorem dX11_edge_74 : decode cX11_edge 74 = .ok (.invokevirtual 240, 3) := eX11_edge_61q.2.2.2.2.2.2.2
theorem dX11_edge_77 : decode cX11_edge 77 = .ok (.ireturn, 1) := by decide +kernel
set_option maxRecDepth 20000 in
theorem ggX11_diamond_X11_isGoal : GoodIn wsX11_diamond wsX11_isGoal := by
  have h := goodIn_app (goodIn_r (big := wsX11_diamond) (.code yX11_isGoal cX11_isGoal 2 (some .boolean) :: ([.methodLink RX11 304 yX11_goals, .instanceMethod yX11_goals, .selects RX11 yX11_goals yX11_goals, .initialized RX11, .code yX11_goals cX11_goals 1 (some .int), .fieldLink RX11 34 "PathProberModel" "told" "[I", .methodLink RX11 359 yX11_isIn, .static yX11_isIn, .code yX11_isIn cX11_isIn 3 (some .boolean)]) : List Cond) [9, 10, 11, 12, 8, 13, 14, 15, 16, 17] rfl (by decide +kernel)) (goodIn_few (big := wsX11_diamond) (fun _ h9 => List.mem_cons_of_mem _ (List.mem_append_right _ h9)) gb_0)
  exact h
set_option maxRecDepth 20000 in
theorem gX11_diamond_X11_isGoal : GoodIn wsX11_diamond (wsV RX11 371 RX11 yX11_isGoal wsX11_isGoal) := goodIn_app (goodIn_r _ [5, 6, 7, 8] rfl (by decide +kernel)) ggX11_diamond_X11_isGoal
set_option maxRecDepth 20000 in
theorem ggX11_diamond_X11_fail : GoodIn wsX11_diamond wsX11_fail := by
  have h := goodIn_app (goodIn_r (big := wsX11_diamond) (.code yX11_fail cX11_fail 2 (some .int) :: ([.fieldLink RX11 142 "PathProberModel" "code" "I"]) : List Cond) [21, 1] rfl (by decide +kernel)) (goodIn_few (big := wsX11_diamond) (fun _ h9 => List.mem_cons_of_mem _ (List.mem_append_right _ h9)) gb_0)
  exact h
set_option maxRecDepth 20000 in
theorem gX11_diamond_X11_fail : GoodIn wsX11_diamond (wsV RX11 240 RX11 yX11_fail wsX11_fail) := goodIn_app (goodIn_r _ [18, 19, 20, 8] rfl (by decide +kernel)) ggX11_diamond_X11_fail
set_option maxRecDepth 20000 in
theorem ggX11_diamond_X11_tellDiamonds : GoodIn wsX11_diamond wsX11_tellDiamonds := by
  have h := goodIn_app (goodIn_r (big := wsX11_diamond) (.code yX11_tellDiamonds cX11_tellDiamonds 4 none :: ([.fieldLink RX11 416 "PathProberModel" "diamonds" "I", .fieldLink RX11 94 "PathProberModel" "wide" "[I", .fieldLink RX11 97 "PathProberModel" "diamondFrom" "[I", .fieldLink RX11 100 "PathProberModel" "diamondTo" "[I", .methodLink RX11 307 yX11_addresses, .instanceMethod yX11_addresses, .selects RX11 yX11_addresses yX11_addresses, .initialized RX11, .code yX11_addresses cX11_addresses 5 (some .int), .methodLink RX11 301 yX11_seenBy, .instanceMethod yX11_seenBy, .selects RX11 yX11_seenBy yX11_seenBy, .code yX11_seenBy cX11_seenBy 4 (some .int), .fieldLink RX11 60 "PathProberModel" "now" "[I", .methodLink RX11 298 yX11_seenAt, .static yX11_seenAt, .code yX11_seenAt cX11_seenAt 3 (some .int), .methodLink RX11 351 yJ6_bitCount_0f7a4, .static yJ6_bitCount_0f7a4, .initialized RJ6, .code yJ6_bitCount_0f7a4 cJ6_bitCount_0f7a4 1 (some .int), .constant RJ6 265 (1431655765), .constant RJ6 266 (858993459), .constant RJ6 267 (252645135)]) : List Cond) [25, 2, 26, 3, 4, 27, 28, 29, 8, 30, 31, 32, 33, 34, 35, 36, 37, 38, 39, 40, 41, 42, 43, 44, 45] rfl (by decide +kernel)) (goodIn_few (big := wsX11_diamond) (fun _ h9 => List.mem_cons_of_mem _ (List.mem_append_right _ h9)) gb_0)
  exact h
set_option maxRecDepth 20000 in
theorem gX11_diamond_X11_tellDiamonds : GoodIn wsX11_diamond (wsV RX11 419 RX11 yX11_tellDiamonds wsX11_tellDiamonds) := goodIn_app (goodIn_r _ [22, 23, 24, 8] rfl (by decide +kernel)) ggX11_diamond_X11_tellDiamonds
set_option maxRecDepth 20000 in
theorem ggX11_diamond_X11_isIn : GoodIn wsX11_diamond wsX11_isIn := goodIn_r _ [17] rfl (by decide +kernel)
set_option maxRecDepth 20000 in
theorem gX11_diamond_X11_isIn : GoodIn wsX11_diamond (va_wsS RX11 359 yX11_isIn wsX11_isIn) := goodIn_app (goodIn_r _ [15, 16, 8] rfl (by decide +kernel)) ggX11_diamond_X11_isIn
set_option maxRecDepth 20000 in
theorem ggX11_diamond_X11_widest : GoodIn wsX11_diamond wsX11_widest := by
  have h := goodIn_app (goodIn_r (big := wsX11_diamond) (.code yX11_widest cX11_widest 4 (some .int) :: ([.fieldLink RX11 97 "PathProberModel" "diamondFrom" "[I", .fieldLink RX11 100 "PathProberModel" "diamondTo" "[I", .fieldLink RX11 94 "PathProberModel" "wide" "[I", .methodLink RX11 328 Lib.Math.max.name, .static Lib.Math.max.name, .initialized "java/lang/Math", .code Lib.Math.max.name Lib.Math.max.code 2 (some .int)]) : List Cond) [49, 3, 4, 26, 50, 51, 52, 53] rfl (by decide +kernel)) (goodIn_few (big := wsX11_diamond) (fun _ h9 => List.mem_cons_of_mem _ (List.mem_append_right _ h9)) gb_0)
  exact h
set_option maxRecDepth 20000 in
theorem gX11_diamond_X11_widest : GoodIn wsX11_diamond (wsV RX11 422 RX11 yX11_widest wsX11_widest) := goodIn_app (goodIn_r _ [46, 47, 48, 8] rfl (by decide +kernel)) ggX11_diamond_X11_widest
set_option maxRecDepth 20000 in
theorem ggX11_diamond_X11_skewOf : GoodIn wsX11_diamond wsX11_skewOf := by
  have h := goodIn_app (goodIn_r (big := wsX11_diamond) (.code yX11_skewOf cX11_skewOf 10 (some .int) :: (wsX11_skewOf_r1 ++ wsX11_skewOf_r2) : List Cond) [57, 3, 4, 58, 50, 51, 52, 53, 59, 60, 61, 27, 28, 29, 8, 30, 31, 32, 33, 34, 35, 36, 37, 38, 62, 63, 64, 65, 14, 66, 67, 68, 69, 70, 71, 72, 73] rfl (by decide +kernel)) (goodIn_few (big := wsX11_diamond) (fun _ h9 => List.mem_cons_of_mem _ (List.mem_append_right _ h9)) gb_0)
  exact h
set_option maxRecDepth 20000 in
theorem gX11_diamond_X11_skewOf : GoodIn wsX11_diamond (wsV RX11 425 RX11 yX11_skewOf wsX11_skewOf) := goodIn_app (goodIn_r _ [54, 55, 56, 8] rfl (by decide +kernel)) ggX11_diamond_X11_skewOf
theorem eX11_diamond_0q : (decode cX11_diamond 0 = .ok (.aload_n 0, 1)) ∧ (decode cX11_diamond 1 = .ok (.iconst 0, 1)) ∧ (decode cX11_diamond 2 = .ok (.putfield 142, 3)) ∧ (decode cX11_diamond 5 = .ok (.aload_n 0, 1)) ∧ (decode cX11_diamond 6 = .ok (.iload_n 1, 1)) ∧ (decode cX11_diamond 7 = .ok (.invokevirtual 371, 3)) ∧ (decode cX11_diamond 10 = .ok (.ifCond .ne 9, 3)) ∧ (decode cX11_diamond 13 = .ok (.aload_n 0, 1)) := by decide +kernel
theorem dX11_diamond_0 : decode cX11_diamond 0 = .ok (.aload_n 0, 1) := eX11_diamond_0q.1
theorem dX11_diamond_1 : decode cX11_diamond 1 = .ok (.iconst 0, 1) := eX11_diamond_0q.2.1
theorem dX11_diamond_2 : decode cX11_diamond 2 = .ok (.putfield 142, 3) := eX11_diamond_0q.2.2.1
theorem dX11_diamond_5 : decode cX11_diamond 5 = .ok (.aload_n 0, 1) := eX11_diamond_0q.2.2.2.1
theorem dX11_diamond_6 : decode cX11_diamond 6 = .ok (.iload_n 1, 1) := eX11_diamond_0q.2.2.2.2.1
theorem dX11_diamond_7 : decode cX11_diamond 7 = .ok (.invokevirtual 371, 3) := eX11_diamond_0q.2.2.2.2.2.1
theorem dX11_diamond_10 : decode cX11_diamond 10 = .ok (.ifCond .ne 9, 3) := eX11_diamond_0q.2.2.2.2.2.2.1
theorem dX11_diamond_13 : decode cX11_diamond 13 = .ok (.aload_n 0, 1) := eX11_diamond_0q.2.2.2.2.2.2.2
theorem eX11_diamond_14q : (decode cX11_diamond 14 = .ok (.iconst 1, 1)) ∧ (decode cX11_diamond 15 = .ok (.invokevirtual 240, 3)) ∧ (decode cX11_diamond 18 = .ok (.ireturn, 1)) ∧ (decode cX11_diamond 19 = .ok (.aload_n 0, 1)) ∧ (decode cX11_diamond 20 = .ok (.iload_n 1, 1)) ∧ (decode cX11_diamond 21 = .ok (.invokevirtual 419, 3)) ∧ (decode cX11_diamond 24 = .ok (.iload_n 2, 1)) ∧ (decode cX11_diamond 25 = .ok (.iconst (-1), 1)) := by decide +kernel
theorem dX11_diamond_14 : decode cX11_diamond 14 = .ok (.iconst 1, 1) := eX11_diamond_14q.1
theorem dX11_diamond_15 : decode cX11_diamond 15 = .ok (.invokevirtual 240, 3) := eX11_diamond_14q.2.1
theorem dX11_diamond_18 : decode cX11_diamond 18 = .ok (.ireturn, 1) := eX11_diamond_14q.2.2.1
theorem dX11_diamond_19 : decode cX11_diamond 19 = .ok (.aload_n 0, 1) := eX11_diamond_14q.2.2.2.1
theorem dX11_diamond_20 : decode cX11_diamond 20 = .ok (.iload_n 1, 1) := eX11_diamond_14q.2.2.2.2.1
theorem dX11_diamond_21 : decode cX11_diamond 21 = .ok (.invokevirtual 419, 3) := eX11_diamond_14q.2.2.2.2.2.1
theorem dX11_diamond_24 : decode cX11_diamond 24 = .ok (.iload_n 2, 1) := eX11_diamond_14q.2.2.2.2.2.2.1
theorem dX11_diamond_25 : decode cX11_diamond 25 = .ok (.iconst (-1), 1) := eX11_diamond_14q.2.2.2.2.2.2.2
theorem eX11_diamond_26q : (decode cX11_diamond 26 = .ok (.aload_n 0, 1)) ∧ (decode cX11_diamond 27 = .ok (.getfield 416, 3)) ∧ (decode cX11_diamond 30 = .ok (.iconst 1, 1)) ∧ (decode cX11_diamond 31 = .ok (.isub, 1)) ∧ (decode cX11_diamond 32 = .ok (.invokestatic 359, 3)) ∧ (decode cX11_diamond 35 = .ok (.ifCond .eq 12, 3)) ∧ (decode cX11_diamond 38 = .ok (.iload_n 3, 1)) ∧ (decode cX11_diamond 39 = .ok (.iconst 0, 1)) := by decide +kernel
theorem dX11_diamond_26 : decode cX11_diamond 26 = .ok (.aload_n 0, 1) := eX11_diamond_26q.1
theorem dX11_diamond_27 : decode cX11_diamond 27 = .ok (.getfield 416, 3) := eX11_diamond_26q.2.1
theorem dX11_diamond_30 : decode cX11_diamond 30 = .ok (.iconst 1, 1) := eX11_diamond_26q.2.2.1
theorem dX11_diamond_31 : decode cX11_diamond 31 = .ok (.isub, 1) := eX11_diamond_26q.2.2.2.1
theorem dX11_diamond_32 : decode cX11_diamond 32 = .ok (.invokestatic 359, 3) := eX11_diamond_26q.2.2.2.2.1
theorem dX11_diamond_35 : decode cX11_diamond 35 = .ok (.ifCond .eq 12, 3) := eX11_diamond_26q.2.2.2.2.2.1
theorem dX11_diamond_38 : decode cX11_diamond 38 = .ok (.iload_n 3, 1) := eX11_diamond_26q.2.2.2.2.2.2.1
theorem dX11_diamond_39 : decode cX11_diamond 39 = .ok (.iconst 0, 1) := eX11_diamond_26q.2.2.2.2.2.2.2
theorem eX11_diamond_40q : (decode cX11_diamond 40 = .ok (.iconst 3, 1)) ∧ (decode cX11_diamond 41 = .ok (.invokestatic 359, 3)) ∧ (decode cX11_diamond 44 = .ok (.ifCond .ne 9, 3)) ∧ (decode cX11_diamond 47 = .ok (.aload_n 0, 1)) ∧ (decode cX11_diamond 48 = .ok (.iconst 1, 1)) ∧ (decode cX11_diamond 49 = .ok (.invokevirtual 240, 3)) ∧ (decode cX11_diamond 52 = .ok (.ireturn, 1)) ∧ (decode cX11_diamond 53 = .ok (.iload_n 2, 1)) := by decide +kernel
theorem dX11_diamond_40 : decode cX11_diamond 40 = .ok (.iconst 3, 1) := eX11_diamond_40q.1
theorem dX11_diamond_41 : decode cX11_diamond 41 = .ok (.invokestatic 359, 3) := eX11_diamond_40q.2.1
theorem dX11_diamond_44 : decode cX11_diamond 44 = .ok (.ifCond .ne 9, 3) := eX11_diamond_40q.2.2.1
theorem dX11_diamond_47 : decode cX11_diamond 47 = .ok (.aload_n 0, 1) := eX11_diamond_40q.2.2.2.1
theorem dX11_diamond_48 : decode cX11_diamond 48 = .ok (.iconst 1, 1) := eX11_diamond_40q.2.2.2.2.1
theorem dX11_diamond_49 : decode cX11_diamond 49 = .ok (.invokevirtual 240, 3) := eX11_diamond_40q.2.2.2.2.2.1
theorem dX11_diamond_52 : decode cX11_diamond 52 = .ok (.ireturn, 1) := eX11_diamond_40q.2.2.2.2.2.2.1
theorem dX11_diamond_53 : decode cX11_diamond 53 = .ok (.iload_n 2, 1) := eX11_diamond_40q.2.2.2.2.2.2.2
theorem eX11_diamond_54q : (decode cX11_diamond 54 = .ok (.iconst (-1), 1)) ∧ (decode cX11_diamond 55 = .ok (.if_icmp .ne 8, 3)) ∧ (decode cX11_diamond 58 = .ok (.aload_n 0, 1)) ∧ (decode cX11_diamond 59 = .ok (.getfield 416, 3)) ∧ (decode cX11_diamond 62 = .ok (.ireturn, 1)) ∧ (decode cX11_diamond 63 = .ok (.iload_n 3, 1)) ∧ (decode cX11_diamond 64 = .ok (.ifCond .ne 12, 3)) ∧ (decode cX11_diamond 67 = .ok (.aload_n 0, 1)) := by decide +kernel
theorem dX11_diamond_54 : decode cX11_diamond 54 = .ok (.iconst (-1), 1) := eX11_diamond_54q.1
theorem dX11_diamond_55 : decode cX11_diamond 55 = .ok (.if_icmp .ne 8, 3) := eX11_diamond_54q.2.1
theorem dX11_diamond_58 : decode cX11_diamond 58 = .ok (.aload_n 0, 1) := eX11_diamond_54q.2.2.1
theorem dX11_diamond_59 : decode cX11_diamond 59 = .ok (.getfield 416, 3) := eX11_diamond_54q.2.2.2.1
theorem dX11_diamond_62 : decode cX11_diamond 62 = .ok (.ireturn, 1) := eX11_diamond_54q.2.2.2.2.1
theorem dX11_diamond_63 : decode cX11_diamond 63 = .ok (.iload_n 3, 1) := eX11_diamond_54q.2.2.2.2.2.1
theorem dX11_diamond_64 : decode cX11_diamond 64 = .ok (.ifCond .ne 12, 3) := eX11_diamond_54q.2.2.2.2.2.2.1
theorem dX11_diamond_67 : decode cX11_diamond 67 = .ok (.aload_n 0, 1) := eX11_diamond_54q.2.2.2.2.2.2.2
theorem eX11_diamond_68q : (decode cX11_diamond 68 = .ok (.getfield 97, 3)) ∧ (decode cX11_diamond 71 = .ok (.iload_n 2, 1)) ∧ (decode cX11_diamond 72 = .ok (.iaload, 1)) ∧ (decode cX11_diamond 73 = .ok (.goto 36, 3)) ∧ (decode cX11_diamond 76 = .ok (.iload_n 3, 1)) ∧ (decode cX11_diamond 77 = .ok (.iconst 1, 1)) ∧ (decode cX11_diamond 78 = .ok (.if_icmp .ne 12, 3)) ∧ (decode cX11_diamond 81 = .ok (.aload_n 0, 1)) := by decide +kernel
theorem dX11_diamond_68 : decode cX11_diamond 68 = .ok (.getfield 97, 3) := eX11_diamond_68q.1
theorem dX11_diamond_71 : decode cX11_diamond 71 = .ok (.iload_n 2, 1) := eX11_diamond_68q.2.1
theorem dX11_diamond_72 : decode cX11_diamond 72 = .ok (.iaload, 1) := eX11_diamond_68q.2.2.1
theorem dX11_diamond_73 : decode cX11_diamond 73 = .ok (.goto 36, 3) := eX11_diamond_68q.2.2.2.1
theorem dX11_diamond_76 : decode cX11_diamond 76 = .ok (.iload_n 3, 1) := eX11_diamond_68q.2.2.2.2.1
theorem dX11_diamond_77 : decode cX11_diamond 77 = .ok (.iconst 1, 1) := eX11_diamond_68q.2.2.2.2.2.1
theorem dX11_diamond_78 : decode cX11_diamond 78 = .ok (.if_icmp .ne 12, 3) := eX11_diamond_68q.2.2.2.2.2.2.1
theorem dX11_diamond_81 : decode cX11_diamond 81 = .ok (.aload_n 0, 1) := eX11_diamond_68q.2.2.2.2.2.2.2
theorem eX11_diamond_82q : (decode cX11_diamond 82 = .ok (.getfield 100, 3)) ∧ (decode cX11_diamond 85 = .ok (.iload_n 2, 1)) ∧ (decode cX11_diamond 86 = .ok (.iaload, 1)) ∧ (decode cX11_diamond 87 = .ok (.goto 22, 3)) ∧ (decode cX11_diamond 90 = .ok (.iload_n 3, 1)) ∧ (decode cX11_diamond 91 = .ok (.iconst 2, 1)) ∧ (decode cX11_diamond 92 = .ok (.if_icmp .ne 11, 3)) ∧ (decode cX11_diamond 95 = .ok (.aload_n 0, 1)) := by decide +kernel
theorem dX11_diamond_82 : decode cX11_diamond 82 = .ok (.getfield 100, 3) := eX11_diamond_82q.1
theorem dX11_diamond_85 : decode cX11_diamond 85 = .ok (.iload_n 2, 1) := eX11_diamond_82q.2.1
theorem dX11_diamond_86 : decode cX11_diamond 86 = .ok (.iaload, 1) := eX11_diamond_82q.2.2.1
theorem dX11_diamond_87 : decode cX11_diamond 87 = .ok (.goto 22, 3) := eX11_diamond_82q.2.2.2.1
theorem dX11_diamond_90 : decode cX11_diamond 90 = .ok (.iload_n 3, 1) := eX11_diamond_82q.2.2.2.2.1
theorem dX11_diamond_91 : decode cX11_diamond 91 = .ok (.iconst 2, 1) := eX11_diamond_82q.2.2.2.2.2.1
theorem dX11_diamond_92 : decode cX11_diamond 92 = .ok (.if_icmp .ne 11, 3) := eX11_diamond_82q.2.2.2.2.2.2.1
theorem dX11_diamond_95 : decode cX11_diamond 95 = .ok (.aload_n 0, 1) := eX11_diamond_82q.2.2.2.2.2.2.2
theorem eX11_diamond_96q : (decode cX11_diamond 96 = .ok (.iload_n 2, 1)) ∧ (decode cX11_diamond 97 = .ok (.invokevirtual 422, 3)) ∧ (decode cX11_diamond 100 = .ok (.goto 9, 3)) ∧ (decode cX11_diamond 103 = .ok (.aload_n 0, 1)) ∧ (decode cX11_diamond 104 = .ok (.iload_n 1, 1)) ∧ (decode cX11_diamond 105 = .ok (.iload_n 2, 1)) ∧ (decode cX11_diamond 106 = .ok (.invokevirtual 425, 3)) ∧ (decode cX11_diamond 109 = .ok (.ireturn, 1)) := by decide +kernel
theorem dX11_diamond_96 : decode cX11_diamond 96 = .ok (.iload_n 2, 1) := eX11_diamond_96q.1
theorem dX11_diamond_97 : decode cX11_diamond 97 = .ok (.invokevirtual 422, 3) := eX11_diamond_96q.2.1
theorem dX11_diamond_100 : decode cX11_diamond 100 = .ok (.goto 9, 3) := eX11_diamond_96q.2.2.1
theorem dX11_diamond_103 : decode cX11_diamond 103 = .ok (.aload_n 0, 1) := eX11_diamond_96q.2.2.2.1
theorem dX11_diamond_104 : decode cX11_diamond 104 = .ok (.iload_n 1, 1) := eX11_diamond_96q.2.2.2.2.1
theorem dX11_diamond_105 : decode cX11_diamond 105 = .ok (.iload_n 2, 1) := eX11_diamond_96q.2.2.2.2.2.1
theorem dX11_diamond_106 : decode cX11_diamond 106 = .ok (.invokevirtual 425, 3) := eX11_diamond_96q.2.2.2.2.2.2.1
theorem dX11_diamond_109 : decode cX11_diamond 109 = .ok (.ireturn, 1) := eX11_diamond_96q.2.2.2.2.2.2.2
set_option maxRecDepth 20000 in
theorem ggX11_loop_X11_isPort : GoodIn wsX11_loop wsX11_isPort := goodIn_r _ [5, 6, 7, 4, 8] rfl (by decide +kernel)
set_option maxRecDepth 20000 in
theorem gX11_loop_X11_isPort : GoodIn wsX11_loop (va_wsS RX11 368 yX11_isPort wsX11_isPort) := goodIn_app (goodIn_r _ [2, 3, 4] rfl (by decide +kernel)) ggX11_loop_X11_isPort
set_option maxRecDepth 20000 in
theorem ggX11_loop_X11_isGoal : GoodIn wsX11_loop wsX11_isGoal := by
  have h := goodIn_app (goodIn_r (big := wsX11_loop) (.code yX11_isGoal cX11_isGoal 2 (some .boolean) :: ([.methodLink RX11 304 yX11_goals, .instanceMethod yX11_goals, .selects RX11 yX11_goals yX11_goals, .initialized RX11, .code yX11_goals cX11_goals 1 (some .int), .fieldLink RX11 34 "PathProberModel" "told" "[I", .methodLink RX11 359 yX11_isIn, .static yX11_isIn, .code yX11_isIn cX11_isIn 3 (some .boolean)]) : List Cond) [12, 13, 14, 15, 4, 16, 17, 6, 7, 8] rfl (by decide +kernel)) (goodIn_few (big := wsX11_loop) (fun _ h9 => List.mem_cons_of_mem _ (List.mem_append_right _ h9)) gb_0)
  exact h
set_option maxRecDepth 20000 in
theorem gX11_loop_X11_isGoal : GoodIn wsX11_loop (wsV RX11 371 RX11 yX11_isGoal wsX11_isGoal) := goodIn_app (goodIn_r _ [9, 10, 11, 4] rfl (by decide +kernel)) ggX11_loop_X11_isGoal
set_option maxRecDepth 20000 in
theorem ggX11_loop_X11_isIn : GoodIn wsX11_loop wsX11_isIn := goodIn_r _ [8] rfl (by decide +kernel)
set_option maxRecDepth 20000 in
theorem gX11_loop_X11_isIn : GoodIn wsX11_loop (va_wsS RX11 359 yX11_isIn wsX11_isIn) := goodIn_app (goodIn_r _ [6, 7, 4] rfl (by decide +kernel)) ggX11_loop_X11_isIn
set_option maxRecDepth 20000 in
theorem ggX11_loop_X11_fail : GoodIn wsX11_loop wsX11_fail := by
  have h := goodIn_app (goodIn_r (big := wsX11_loop) (.code yX11_fail cX11_fail 2 (some .int) :: ([.fieldLink RX11 142 "PathProberModel" "code" "I"]) : List Cond) [21, 1] rfl (by decide +kernel)) (goodIn_few (big := wsX11_loop) (fun _ h9 => List.mem_cons_of_mem _ (List.mem_append_right _ h9)) gb_0)
  exact h
set_option maxRecDepth 20000 in
theorem gX11_loop_X11_fail : GoodIn wsX11_loop (wsV RX11 240 RX11 yX11_fail wsX11_fail) := goodIn_app (goodIn_r _ [18, 19, 20, 4] rfl (by decide +kernel)) ggX11_loop_X11_fail
set_option maxRecDepth 20000 in
theorem ggX11_loop_X11_loopOf : GoodIn wsX11_loop wsX11_loopOf := by
  have h := goodIn_app (goodIn_r (big := wsX11_loop) (.code yX11_loopOf cX11_loopOf 5 (some .int) :: ([.fieldLink RX11 58 "PathProberModel" "goal" "[I", .methodLink RX11 301 yX11_seenBy, .instanceMethod yX11_seenBy, .selects RX11 yX11_seenBy yX11_seenBy, .initialized RX11, .code yX11_seenBy cX11_seenBy 4 (some .int), .fieldLink RX11 60 "PathProberModel" "now" "[I", .methodLink RX11 298 yX11_seenAt, .static yX11_seenAt, .code yX11_seenAt cX11_seenAt 3 (some .int), .methodLink RX11 386 yX11_routerOf, .instanceMethod yX11_routerOf, .selects RX11 yX11_routerOf yX11_routerOf, .code yX11_routerOf cX11_routerOf 2 (some .int), .fieldLink RX11 56 "PathProberModel" "to" "[I"]) : List Cond) [25, 26, 27, 28, 29, 4, 30, 31, 32, 33, 34, 35, 36, 37, 38, 39] rfl (by decide +kernel)) (goodIn_few (big := wsX11_loop) (fun _ h9 => List.mem_cons_of_mem _ (List.mem_append_right _ h9)) gb_0)
  exact h
set_option maxRecDepth 20000 in
theorem gX11_loop_X11_loopOf : GoodIn wsX11_loop (wsV RX11 428 RX11 yX11_loopOf wsX11_loopOf) := goodIn_app (goodIn_r _ [22, 23, 24, 4] rfl (by decide +kernel)) ggX11_loop_X11_loopOf
set_option maxRecDepth 20000 in
theorem ggX11_loop_X11_seenBy : GoodIn wsX11_loop wsX11_seenBy := by
  have h := goodIn_app (goodIn_r (big := wsX11_loop) (.code yX11_seenBy cX11_seenBy 4 (some .int) :: ([.fieldLink RX11 60 "PathProberModel" "now" "[I", .methodLink RX11 298 yX11_seenAt, .static yX11_seenAt, .initialized RX11, .code yX11_seenAt cX11_seenAt 3 (some .int)]) : List Cond) [30, 31, 32, 33, 4, 34] rfl (by decide +kernel)) (goodIn_few (big := wsX11_loop) (fun _ h9 => List.mem_cons_of_mem _ (List.mem_append_right _ h9)) gb_0)
  exact h
set_option maxRecDepth 20000 in
theorem gX11_loop_X11_seenBy : GoodIn wsX11_loop (wsV RX11 301 RX11 yX11_seenBy wsX11_seenBy) := goodIn_app (goodIn_r _ [27, 28, 29, 4] rfl (by decide +kernel)) ggX11_loop_X11_seenBy
set_option maxRecDepth 20000 in
theorem ggX11_loop_X11_routerOf : GoodIn wsX11_loop wsX11_routerOf := by
  have h := goodIn_app (goodIn_r (big := wsX11_loop) (.code yX11_routerOf cX11_routerOf 2 (some .int) :: ([.fieldLink RX11 56 "PathProberModel" "to" "[I"]) : List Cond) [38, 39] rfl (by decide +kernel)) (goodIn_few (big := wsX11_loop) (fun _ h9 => List.mem_cons_of_mem _ (List.mem_append_right _ h9)) gb_0)
  exact h
set_option maxRecDepth 20000 in
theorem gX11_loop_X11_routerOf : GoodIn wsX11_loop (wsV RX11 386 RX11 yX11_routerOf wsX11_routerOf) := goodIn_app (goodIn_r _ [35, 36, 37, 4] rfl (by decide +kernel)) ggX11_loop_X11_routerOf
set_option maxRecDepth 20000 in
theorem ggX11_loop_X11_whyOf : GoodIn wsX11_loop wsX11_whyOf := by
  have h := goodIn_app (goodIn_r (big := wsX11_loop) (.code yX11_whyOf cX11_whyOf 5 (some .int) :: ([.fieldLink RX11 56 "PathProberModel" "to" "[I", .fieldLink RX11 50 "PathProberModel" "late" "[I", .fieldLink RX11 53 "PathProberModel" "from" "[I", .fieldLink RX11 38 "PathProberModel" "kind" "[I", .fieldLink RX11 73 "PathProberModel" "reach" "[I", .methodLink RX11 266 yX11_links, .instanceMethod yX11_links, .selects RX11 yX11_links yX11_links, .initialized RX11, .code yX11_links cX11_links 1 (some .int), .fieldLink RX11 34 "PathProberModel" "told" "[I"]) : List Cond) [43, 39, 44, 45, 46, 47, 48, 49, 50, 4, 51, 17] rfl (by decide +kernel)) (goodIn_few (big := wsX11_loop) (fun _ h9 => List.mem_cons_of_mem _ (List.mem_append_right _ h9)) gb_0)
  exact h
set_option maxRecDepth 20000 in
theorem gX11_loop_X11_whyOf : GoodIn wsX11_loop (wsV RX11 431 RX11 yX11_whyOf wsX11_whyOf) := goodIn_app (goodIn_r _ [40, 41, 42, 4] rfl (by decide +kernel)) ggX11_loop_X11_whyOf
theorem eX11_loop_0q : (decode cX11_loop 0 = .ok (.aload_n 0, 1)) ∧ (decode cX11_loop 1 = .ok (.iconst 0, 1)) ∧ (decode cX11_loop 2 = .ok (.putfield 142, 3)) ∧ (decode cX11_loop 5 = .ok (.iload_n 1, 1)) ∧ (decode cX11_loop 6 = .ok (.invokestatic 368, 3)) ∧ (decode cX11_loop 9 = .ok (.ifCond .eq 20, 3)) ∧ (decode cX11_loop 12 = .ok (.aload_n 0, 1)) ∧ (decode cX11_loop 13 = .ok (.iload_n 2, 1)) := by decide +kernel
theorem dX11_loop_0 : decode cX11_loop 0 = .ok (.aload_n 0, 1) := eX11_loop_0q.1
theorem dX11_loop_1 : decode cX11_loop 1 = .ok (.iconst 0, 1) := eX11_loop_0q.2.1
theorem dX11_loop_2 : decode cX11_loop 2 = .ok (.putfield 142, 3) := eX11_loop_0q.2.2.1
theorem dX11_loop_5 : decode cX11_loop 5 = .ok (.iload_n 1, 1) := eX11_loop_0q.2.2.2.1
theorem dX11_loop_6 : decode cX11_loop 6 = .ok (.invokestatic 368, 3) := eX11_loop_0q.2.2.2.2.1
theorem dX11_loop_9 : decode cX11_loop 9 = .ok (.ifCond .eq 20, 3) := eX11_loop_0q.2.2.2.2.2.1
theorem dX11_loop_12 : decode cX11_loop 12 = .ok (.aload_n 0, 1) := eX11_loop_0q.2.2.2.2.2.2.1
theorem dX11_loop_13 : decode cX11_loop 13 = .ok (.iload_n 2, 1) := eX11_loop_0q.2.2.2.2.2.2.2
theorem eX11_loop_14q : (decode cX11_loop 14 = .ok (.invokevirtual 371, 3)) ∧ (decode cX11_loop 17 = .ok (.ifCond .eq 12, 3)) ∧ (decode cX11_loop 20 = .ok (.iload_n 3, 1)) ∧ (decode cX11_loop 21 = .ok (.iconst 0, 1)) ∧ (decode cX11_loop 22 = .ok (.iconst 1, 1)) ∧ (decode cX11_loop 23 = .ok (.invokestatic 359, 3)) ∧ (decode cX11_loop 26 = .ok (.ifCond .ne 9, 3)) ∧ (decode cX11_loop 29 = .ok (.aload_n 0, 1)) := by decide +kernel
theorem dX11_loop_14 : decode cX11_loop 14 = .ok (.invokevirtual 371, 3) := eX11_loop_14q.1
theorem dX11_loop_17 : decode cX11_loop 17 = .ok (.ifCond .eq 12, 3) := eX11_loop_14q.2.1
theorem dX11_loop_20 : decode cX11_loop 20 = .ok (.iload_n 3, 1) := eX11_loop_14q.2.2.1
theorem dX11_loop_21 : decode cX11_loop 21 = .ok (.iconst 0, 1) := eX11_loop_14q.2.2.2.1
theorem dX11_loop_22 : decode cX11_loop 22 = .ok (.iconst 1, 1) := eX11_loop_14q.2.2.2.2.1
theorem dX11_loop_23 : decode cX11_loop 23 = .ok (.invokestatic 359, 3) := eX11_loop_14q.2.2.2.2.2.1
theorem dX11_loop_26 : decode cX11_loop 26 = .ok (.ifCond .ne 9, 3) := eX11_loop_14q.2.2.2.2.2.2.1
theorem dX11_loop_29 : decode cX11_loop 29 = .ok (.aload_n 0, 1) := eX11_loop_14q.2.2.2.2.2.2.2
theorem eX11_loop_30q : (decode cX11_loop 30 = .ok (.iconst 1, 1)) ∧ (decode cX11_loop 31 = .ok (.invokevirtual 240, 3)) ∧ (decode cX11_loop 34 = .ok (.ireturn, 1)) ∧ (decode cX11_loop 35 = .ok (.aload_n 0, 1)) ∧ (decode cX11_loop 36 = .ok (.iload_n 1, 1)) ∧ (decode cX11_loop 37 = .ok (.iload_n 2, 1)) ∧ (decode cX11_loop 38 = .ok (.invokevirtual 428, 3)) ∧ (decode cX11_loop 41 = .ok (.istore 4, 2)) := by decide +kernel
theorem dX11_loop_30 : decode cX11_loop 30 = .ok (.iconst 1, 1) := eX11_loop_30q.1
theorem dX11_loop_31 : decode cX11_loop 31 = .ok (.invokevirtual 240, 3) := eX11_loop_30q.2.1
theorem dX11_loop_34 : decode cX11_loop 34 = .ok (.ireturn, 1) := eX11_loop_30q.2.2.1
theorem dX11_loop_35 : decode cX11_loop 35 = .ok (.aload_n 0, 1) := eX11_loop_30q.2.2.2.1
theorem dX11_loop_36 : decode cX11_loop 36 = .ok (.iload_n 1, 1) := eX11_loop_30q.2.2.2.2.1
theorem dX11_loop_37 : decode cX11_loop 37 = .ok (.iload_n 2, 1) := eX11_loop_30q.2.2.2.2.2.1
theorem dX11_loop_38 : decode cX11_loop 38 = .ok (.invokevirtual 428, 3) := eX11_loop_30q.2.2.2.2.2.2.1
theorem dX11_loop_41 : decode cX11_loop 41 = .ok (.istore 4, 2) := eX11_loop_30q.2.2.2.2.2.2.2
theorem eX11_loop_43q : (decode cX11_loop 43 = .ok (.iload_n 3, 1)) ∧ (decode cX11_loop 44 = .ok (.ifCond .ne 8, 3)) ∧ (decode cX11_loop 47 = .ok (.iload 4, 2)) ∧ (decode cX11_loop 49 = .ok (.goto 29, 3)) ∧ (decode cX11_loop 52 = .ok (.iload 4, 2)) ∧ (decode cX11_loop 54 = .ok (.iconst (-1), 1)) ∧ (decode cX11_loop 55 = .ok (.if_icmp .ne 7, 3)) ∧ (decode cX11_loop 58 = .ok (.iconst 0, 1)) := by decide +kernel
theorem dX11_loop_43 : decode cX11_loop 43 = .ok (.iload_n 3, 1) := eX11_loop_43q.1
theorem dX11_loop_44 : decode cX11_loop 44 = .ok (.ifCond .ne 8, 3) := eX11_loop_43q.2.1
theorem dX11_loop_47 : decode cX11_loop 47 = .ok (.iload 4, 2) := eX11_loop_43q.2.2.1
theorem dX11_loop_49 : decode cX11_loop 49 = .ok (.goto 29, 3) := eX11_loop_43q.2.2.2.1
theorem dX11_loop_52 : decode cX11_loop 52 = .ok (.iload 4, 2) := eX11_loop_43q.2.2.2.2.1
theorem dX11_loop_54 : decode cX11_loop 54 = .ok (.iconst (-1), 1) := eX11_loop_43q.2.2.2.2.2.1
theorem dX11_loop_55 : decode cX11_loop 55 = .ok (.if_icmp .ne 7, 3) := eX11_loop_43q.2.2.2.2.2.2.1
theorem dX11_loop_58 : decode cX11_loop 58 = .ok (.iconst 0, 1) := eX11_loop_43q.2.2.2.2.2.2.2
theorem eX11_loop_59q : (decode cX11_loop 59 = .ok (.goto 19, 3)) ∧ (decode cX11_loop 62 = .ok (.aload_n 0, 1)) ∧ (decode cX11_loop 63 = .ok (.aload_n 0, 1)) ∧ (decode cX11_loop 64 = .ok (.aload_n 0, 1)) ∧ (decode cX11_loop 65 = .ok (.iload_n 1, 1)) ∧ (decode cX11_loop 66 = .ok (.iload_n 2, 1)) ∧ (decode cX11_loop 67 = .ok (.iload 4, 2)) ∧ (decode cX11_loop 69 = .ok (.invokevirtual 301, 3)) := by decide +kernel
theorem dX11_loop_59 : decode cX11_loop 59 = .ok (.goto 19, 3) := eX11_loop_59q.1
theorem dX11_loop_62 : decode cX11_loop 62 = .ok (.aload_n 0, 1) := eX11_loop_59q.2.1
theorem dX11_loop_63 : decode cX11_loop 63 = .ok (.aload_n 0, 1) := eX11_loop_59q.2.2.1
theorem dX11_loop_64 : decode cX11_loop 64 = .ok (.aload_n 0, 1) := eX11_loop_59q.2.2.2.1
theorem dX11_loop_65 : decode cX11_loop 65 = .ok (.iload_n 1, 1) := eX11_loop_59q.2.2.2.2.1
theorem dX11_loop_66 : decode cX11_loop 66 = .ok (.iload_n 2, 1) := eX11_loop_59q.2.2.2.2.2.1
theorem dX11_loop_67 : decode cX11_loop 67 = .ok (.iload 4, 2) := eX11_loop_59q.2.2.2.2.2.2.1
theorem dX11_loop_69 : decode cX11_loop 69 = .ok (.invokevirtual 301, 3) := eX11_loop_59q.2.2.2.2.2.2.2
theorem eX11_loop_72q : (decode cX11_loop 72 = .ok (.invokevirtual 386, 3)) ∧ (decode cX11_loop 75 = .ok (.invokevirtual 431, 3)) ∧ (decode cX11_loop 78 = .ok (.ireturn, 1)) := by decide +kernel
theorem dX11_loop_72 : decode cX11_loop 72 = .ok (.invokevirtual 386, 3) := eX11_loop_72q.1
theorem dX11_loop_75 : decode cX11_loop 75 = .ok (.invokevirtual 431, 3) := eX11_loop_72q.2.1
theorem dX11_loop_78 : decode cX11_loop 78 = .ok (.ireturn, 1) := eX11_loop_72q.2.2
set_option maxRecDepth 20000 in
theorem ggX11_truth_X11_isGoal : GoodIn wsX11_truth wsX11_isGoal := by
  have h := goodIn_app (goodIn_r (big := wsX11_truth) (.code yX11_isGoal cX11_isGoal 2 (some .boolean) :: ([.methodLink RX11 304 yX11_goals, .instanceMethod yX11_goals, .selects RX11 yX11_goals yX11_goals, .initialized RX11, .code yX11_goals cX11_goals 1 (some .int), .fieldLink RX11 34 "PathProberModel" "told" "[I", .methodLink RX11 359 yX11_isIn, .static yX11_isIn, .code yX11_isIn cX11_isIn 3 (some .boolean)]) : List Cond) [6, 7, 8, 9, 5, 10, 11, 12, 13, 14] rfl (by decide +kernel)) (goodIn_few (big := wsX11_truth) (fun _ h9 => List.mem_cons_of_mem _ (List.mem_append_right _ h9)) gb_0)
  exact h
set_option maxRecDepth 20000 in
theorem gX11_truth_X11_isGoal : GoodIn wsX11_truth (wsV RX11 371 RX11 yX11_isGoal wsX11_isGoal) := goodIn_app (goodIn_r _ [2, 3, 4, 5] rfl (by decide +kernel)) ggX11_truth_X11_isGoal
set_option maxRecDepth 20000 in
theorem ggX11_truth_X11_isIn : GoodIn wsX11_truth wsX11_isIn := goodIn_r _ [14] rfl (by decide +kernel)
set_option maxRecDepth 20000 in
theorem gX11_truth_X11_isIn : GoodIn wsX11_truth (va_wsS RX11 359 yX11_isIn wsX11_isIn) := goodIn_app (goodIn_r _ [12, 13, 5] rfl (by decide +kernel)) ggX11_truth_X11_isIn
set_option maxRecDepth 20000 in
theorem ggX11_truth_X11_fail : GoodIn wsX11_truth wsX11_fail := by
  have h := goodIn_app (goodIn_r (big := wsX11_truth) (.code yX11_fail cX11_fail 2 (some .int) :: ([.fieldLink RX11 142 "PathProberModel" "code" "I"]) : List Cond) [18, 1] rfl (by decide +kernel)) (goodIn_few (big := wsX11_truth) (fun _ h9 => List.mem_cons_of_mem _ (List.mem_append_right _ h9)) gb_0)
  exact h
set_option maxRecDepth 20000 in
theorem gX11_truth_X11_fail : GoodIn wsX11_truth (wsV RX11 240 RX11 yX11_fail wsX11_fail) := goodIn_app (goodIn_r _ [15, 16, 17, 5] rfl (by decide +kernel)) ggX11_truth_X11_fail
set_option maxRecDepth 20000 in
theorem ggX11_truth_X11_ways : GoodIn wsX11_truth wsX11_ways := by
  have h := goodIn_app (goodIn_r (big := wsX11_truth) (.code yX11_ways cX11_ways 4 (some .int) :: ([.fieldLink RX11 91 "PathProberModel" "waysTo" "[I", .fieldLink RX11 53 "PathProberModel" "from" "[I", .fieldLink RX11 56 "PathProberModel" "to" "[I", .fieldLink RX11 58 "PathProberModel" "goal" "[I", .methodLink RX11 263 yX11_routers, .instanceMethod yX11_routers, .selects RX11 yX11_routers yX11_routers, .initialized RX11, .code yX11_routers cX11_routers 1 (some .int), .fieldLink RX11 34 "PathProberModel" "told" "[I", .methodLink RX11 266 yX11_links, .instanceMethod yX11_links, .selects RX11 yX11_links yX11_links, .code yX11_links cX11_links 1 (some .int)]) : List Cond) [22, 23, 24, 25, 26, 27, 28, 29, 5, 30, 11, 31, 32, 33, 34] rfl (by decide +kernel)) (goodIn_few (big := wsX11_truth) (fun _ h9 => List.mem_cons_of_mem _ (List.mem_append_right _ h9)) gb_0)
  exact h
set_option maxRecDepth 20000 in
theorem gX11_truth_X11_ways : GoodIn wsX11_truth (wsV RX11 434 RX11 yX11_ways wsX11_ways) := goodIn_app (goodIn_r _ [19, 20, 21, 5] rfl (by decide +kernel)) ggX11_truth_X11_ways
set_option maxRecDepth 20000 in
theorem ggX11_truth_X11_length : GoodIn wsX11_truth wsX11_length := by
  have h := goodIn_app (goodIn_r (big := wsX11_truth) (.code yX11_length cX11_length 5 (some .int) :: ([.fieldLink RX11 87 "PathProberModel" "isAt" "[Z", .fieldLink RX11 58 "PathProberModel" "goal" "[I", .methodLink RX11 407 yX11_tellPlaces, .instanceMethod yX11_tellPlaces, .selects RX11 yX11_tellPlaces yX11_tellPlaces, .initialized RX11, .code yX11_tellPlaces cX11_tellPlaces 5 none, .fieldLink RX11 73 "PathProberModel" "reach" "[I", .fieldLink RX11 56 "PathProberModel" "to" "[I", .methodLink RX11 263 yX11_routers, .instanceMethod yX11_routers, .selects RX11 yX11_routers yX11_routers, .code yX11_routers cX11_routers 1 (some .int), .fieldLink RX11 34 "PathProberModel" "told" "[I", .methodLink RX11 266 yX11_links, .instanceMethod yX11_links, .selects RX11 yX11_links yX11_links, .code yX11_links cX11_links 1 (some .int), .methodLink RX11 269 yX11_isBranch, .instanceMethod yX11_isBranch, .selects RX11 yX11_isBranch yX11_isBranch, .code yX11_isBranch cX11_isBranch 4 (some .boolean), .fieldLink RX11 53 "PathProberModel" "from" "[I"]) : List Cond) [38, 39, 26, 40, 41, 42, 5, 43, 44, 25, 27, 28, 29, 30, 11, 31, 32, 33, 34, 45, 46, 47, 48, 24] rfl (by decide +kernel)) (goodIn_few (big := wsX11_truth) (fun _ h9 => List.mem_cons_of_mem _ (List.mem_append_right _ h9)) gb_0)
  exact h
set_option maxRecDepth 20000 in
theorem gX11_truth_X11_length : GoodIn wsX11_truth (wsV RX11 437 RX11 yX11_length wsX11_length) := goodIn_app (goodIn_r _ [35, 36, 37, 5] rfl (by decide +kernel)) ggX11_truth_X11_length
set_option maxRecDepth 20000 in
theorem ggX11_truth_X11_hidden : GoodIn wsX11_truth wsX11_hidden := by
  have h := goodIn_app (goodIn_r (big := wsX11_truth) (.code yX11_hidden cX11_hidden 3 (some .int) :: (wsX11_hidden_r1 ++ wsX11_hidden_r2) : List Cond) [52, 53, 54, 55, 5, 56, 39, 24, 26, 40, 41, 42, 43, 44, 25, 27, 28, 29, 30, 11, 31, 32, 33, 34, 45, 46, 47, 48, 57, 58, 59, 60, 61, 62, 63, 64, 65, 66, 67, 68] rfl (by decide +kernel)) (goodIn_few (big := wsX11_truth) (fun _ h9 => List.mem_cons_of_mem _ (List.mem_append_right _ h9)) gb_0)
  exact h
set_option maxRecDepth 20000 in
theorem gX11_truth_X11_hidden : GoodIn wsX11_truth (wsV RX11 413 RX11 yX11_hidden wsX11_hidden) := goodIn_app (goodIn_r _ [49, 50, 51, 5] rfl (by decide +kernel)) ggX11_truth_X11_hidden
set_option maxRecDepth 20000 in
theorem ggX11_truth_J6_bitCount_0f7a4 : GoodIn wsX11_truth wsJ6_bitCount_0f7a4 := goodIn_r _ [72, 73, 74, 75] rfl (by decide +kernel)
set_option maxRecDepth 20000 in
theorem gX11_truth_J6_bitCount_0f7a4 : GoodIn wsX11_truth (va_wsS RX11 351 yJ6_bitCount_0f7a4 wsJ6_bitCount_0f7a4) := goodIn_app (goodIn_r _ [69, 70, 71] rfl (by decide +kernel)) ggX11_truth_J6_bitCount_0f7a4
theorem eX11_truth_0q : (decode cX11_truth 0 = .ok (.aload_n 0, 1)) ∧ (decode cX11_truth 1 = .ok (.iconst 0, 1)) ∧ (decode cX11_truth 2 = .ok (.putfield 142, 3)) ∧ (decode cX11_truth 5 = .ok (.aload_n 0, 1)) ∧ (decode cX11_truth 6 = .ok (.iload_n 1, 1)) ∧ (decode cX11_truth 7 = .ok (.invokevirtual 371, 3)) ∧ (decode cX11_truth 10 = .ok (.ifCond .eq 12, 3)) ∧ (decode cX11_truth 13 = .ok (.iload_n 2, 1)) := by decide +kernel
theorem dX11_truth_0 : decode cX11_truth 0 = .ok (.aload_n 0, 1) := eX11_truth_0q.1
theorem dX11_truth_1 : decode cX11_truth 1 = .ok (.iconst 0, 1) := eX11_truth_0q.2.1
theorem dX11_truth_2 : decode cX11_truth 2 = .ok (.putfield 142, 3) := eX11_truth_0q.2.2.1
theorem dX11_truth_5 : decode cX11_truth 5 = .ok (.aload_n 0, 1) := eX11_truth_0q.2.2.2.1
theorem dX11_truth_6 : decode cX11_truth 6 = .ok (.iload_n 1, 1) := eX11_truth_0q.2.2.2.2.1
theorem dX11_truth_7 : decode cX11_truth 7 = .ok (.invokevirtual 371, 3) := eX11_truth_0q.2.2.2.2.2.1
theorem dX11_truth_10 : decode cX11_truth 10 = .ok (.ifCond .eq 12, 3) := eX11_truth_0q.2.2.2.2.2.2.1
theorem dX11_truth_13 : decode cX11_truth 13 = .ok (.iload_n 2, 1) := eX11_truth_0q.2.2.2.2.2.2.2
theorem eX11_truth_14q : (decode cX11_truth 14 = .ok (.iconst 0, 1)) ∧ (decode cX11_truth 15 = .ok (.iconst 3, 1)) ∧ (decode cX11_truth 16 = .ok (.invokestatic 359, 3)) ∧ (decode cX11_truth 19 = .ok (.ifCond .ne 9, 3)) ∧ (decode cX11_truth 22 = .ok (.aload_n 0, 1)) ∧ (decode cX11_truth 23 = .ok (.iconst 1, 1)) ∧ (decode cX11_truth 24 = .ok (.invokevirtual 240, 3)) ∧ (decode cX11_truth 27 = .ok (.ireturn, 1)) := by decide +kernel
theorem dX11_truth_14 : decode cX11_truth 14 = .ok (.iconst 0, 1) := eX11_truth_14q.1
theorem dX11_truth_15 : decode cX11_truth 15 = .ok (.iconst 3, 1) := eX11_truth_14q.2.1
theorem dX11_truth_16 : decode cX11_truth 16 = .ok (.invokestatic 359, 3) := eX11_truth_14q.2.2.1
theorem dX11_truth_19 : decode cX11_truth 19 = .ok (.ifCond .ne 9, 3) := eX11_truth_14q.2.2.2.1
theorem dX11_truth_22 : decode cX11_truth 22 = .ok (.aload_n 0, 1) := eX11_truth_14q.2.2.2.2.1
theorem dX11_truth_23 : decode cX11_truth 23 = .ok (.iconst 1, 1) := eX11_truth_14q.2.2.2.2.2.1
theorem dX11_truth_24 : decode cX11_truth 24 = .ok (.invokevirtual 240, 3) := eX11_truth_14q.2.2.2.2.2.2.1
theorem dX11_truth_27 : decode cX11_truth 27 = .ok (.ireturn, 1) := eX11_truth_14q.2.2.2.2.2.2.2
theorem eX11_truth_28q : (decode cX11_truth 28 = .ok (.iload_n 2, 1)) ∧ (decode cX11_truth 29 = .ok (.ifCond .ne 9, 3)) ∧ (decode cX11_truth 32 = .ok (.aload_n 0, 1)) ∧ (decode cX11_truth 33 = .ok (.iload_n 1, 1)) ∧ (decode cX11_truth 34 = .ok (.invokevirtual 434, 3)) ∧ (decode cX11_truth 37 = .ok (.ireturn, 1)) ∧ (decode cX11_truth 38 = .ok (.iload_n 2, 1)) ∧ (decode cX11_truth 39 = .ok (.iconst 3, 1)) := by decide +kernel
theorem dX11_truth_28 : decode cX11_truth 28 = .ok (.iload_n 2, 1) := eX11_truth_28q.1
theorem dX11_truth_29 : decode cX11_truth 29 = .ok (.ifCond .ne 9, 3) := eX11_truth_28q.2.1
theorem dX11_truth_32 : decode cX11_truth 32 = .ok (.aload_n 0, 1) := eX11_truth_28q.2.2.1
theorem dX11_truth_33 : decode cX11_truth 33 = .ok (.iload_n 1, 1) := eX11_truth_28q.2.2.2.1
theorem dX11_truth_34 : decode cX11_truth 34 = .ok (.invokevirtual 434, 3) := eX11_truth_28q.2.2.2.2.1
theorem dX11_truth_37 : decode cX11_truth 37 = .ok (.ireturn, 1) := eX11_truth_28q.2.2.2.2.2.1
theorem dX11_truth_38 : decode cX11_truth 38 = .ok (.iload_n 2, 1) := eX11_truth_28q.2.2.2.2.2.2.1
theorem dX11_truth_39 : decode cX11_truth 39 = .ok (.iconst 3, 1) := eX11_truth_28q.2.2.2.2.2.2.2
theorem eX11_truth_40q : (decode cX11_truth 40 = .ok (.if_icmp .ge 19, 3)) ∧ (decode cX11_truth 43 = .ok (.aload_n 0, 1)) ∧ (decode cX11_truth 44 = .ok (.iload_n 1, 1)) ∧ (decode cX11_truth 45 = .ok (.iload_n 2, 1)) ∧ (decode cX11_truth 46 = .ok (.iconst 1, 1)) ∧ (decode cX11_truth 47 = .ok (.if_icmp .ne 7, 3)) ∧ (decode cX11_truth 50 = .ok (.iconst 1, 1)) ∧ (decode cX11_truth 51 = .ok (.goto 4, 3)) := by decide +kernel
theorem dX11_truth_40 : decode cX11_truth 40 = .ok (.if_icmp .ge 19, 3) := eX11_truth_40q.1
theorem dX11_truth_43 : decode cX11_truth 43 = .ok (.aload_n 0, 1) := eX11_truth_40q.2.1
theorem dX11_truth_44 : decode cX11_truth 44 = .ok (.iload_n 1, 1) := eX11_truth_40q.2.2.1
theorem dX11_truth_45 : decode cX11_truth 45 = .ok (.iload_n 2, 1) := eX11_truth_40q.2.2.2.1
theorem dX11_truth_46 : decode cX11_truth 46 = .ok (.iconst 1, 1) := eX11_truth_40q.2.2.2.2.1
theorem dX11_truth_47 : decode cX11_truth 47 = .ok (.if_icmp .ne 7, 3) := eX11_truth_40q.2.2.2.2.2.1
theorem dX11_truth_50 : decode cX11_truth 50 = .ok (.iconst 1, 1) := eX11_truth_40q.2.2.2.2.2.2.1
theorem dX11_truth_51 : decode cX11_truth 51 = .ok (.goto 4, 3) := eX11_truth_40q.2.2.2.2.2.2.2
theorem eX11_truth_54q : (decode cX11_truth 54 = .ok (.iconst 0, 1)) ∧ (decode cX11_truth 55 = .ok (.invokevirtual 437, 3)) ∧ (decode cX11_truth 58 = .ok (.ireturn, 1)) ∧ (decode cX11_truth 59 = .ok (.iconst 0, 1)) ∧ (decode cX11_truth 60 = .ok (.istore_n 3, 1)) ∧ (decode cX11_truth 61 = .ok (.iconst 1, 1)) ∧ (decode cX11_truth 62 = .ok (.istore 4, 2)) ∧ (decode cX11_truth 64 = .ok (.iload 4, 2)) := by decide +kernel
theorem dX11_truth_54 : decode cX11_truth 54 = .ok (.iconst 0, 1) := eX11_truth_54q.1
theorem dX11_truth_55 : decode cX11_truth 55 = .ok (.invokevirtual 437, 3) := eX11_truth_54q.2.1
theorem dX11_truth_58 : decode cX11_truth 58 = .ok (.ireturn, 1) := eX11_truth_54q.2.2.1
theorem dX11_truth_59 : decode cX11_truth 59 = .ok (.iconst 0, 1) := eX11_truth_54q.2.2.2.1
theorem dX11_truth_60 : decode cX11_truth 60 = .ok (.istore_n 3, 1) := eX11_truth_54q.2.2.2.2.1
theorem dX11_truth_61 : decode cX11_truth 61 = .ok (.iconst 1, 1) := eX11_truth_54q.2.2.2.2.2.1
theorem dX11_truth_62 : decode cX11_truth 62 = .ok (.istore 4, 2) := eX11_truth_54q.2.2.2.2.2.2.1
theorem dX11_truth_64 : decode cX11_truth 64 = .ok (.iload 4, 2) := eX11_truth_54q.2.2.2.2.2.2.2
theorem eX11_truth_66q : (decode cX11_truth 66 = .ok (.bipush 10, 2)) ∧ (decode cX11_truth 68 = .ok (.if_icmp .gt 22, 3)) ∧ (decode cX11_truth 71 = .ok (.iload_n 3, 1)) ∧ (decode cX11_truth 72 = .ok (.aload_n 0, 1)) ∧ (decode cX11_truth 73 = .ok (.iload_n 1, 1)) ∧ (decode cX11_truth 74 = .ok (.iload 4, 2)) ∧ (decode cX11_truth 76 = .ok (.invokevirtual 413, 3)) ∧ (decode cX11_truth 79 = .ok (.invokestatic 351, 3)) := by decide +kernel
theorem dX11_truth_66 : decode cX11_truth 66 = .ok (.bipush 10, 2) := eX11_truth_66q.1
theorem dX11_truth_68 : decode cX11_truth 68 = .ok (.if_icmp .gt 22, 3) := eX11_truth_66q.2.1
theorem dX11_truth_71 : decode cX11_truth 71 = .ok (.iload_n 3, 1) := eX11_truth_66q.2.2.1
theorem dX11_truth_72 : decode cX11_truth 72 = .ok (.aload_n 0, 1) := eX11_truth_66q.2.2.2.1
theorem dX11_truth_73 : decode cX11_truth 73 = .ok (.iload_n 1, 1) := eX11_truth_66q.2.2.2.2.1
theorem dX11_truth_74 : decode cX11_truth 74 = .ok (.iload 4, 2) := eX11_truth_66q.2.2.2.2.2.1
theorem dX11_truth_76 : decode cX11_truth 76 = .ok (.invokevirtual 413, 3) := eX11_truth_66q.2.2.2.2.2.2.1
theorem dX11_truth_79 : decode cX11_truth 79 = .ok (.invokestatic 351, 3) := eX11_truth_66q.2.2.2.2.2.2.2
theorem eX11_truth_82q : (decode cX11_truth 82 = .ok (.iadd, 1)) ∧ (decode cX11_truth 83 = .ok (.istore_n 3, 1)) ∧ (decode cX11_truth 84 = .ok (.iinc 4 1, 3)) ∧ (decode cX11_truth 87 = .ok (.goto (-23), 3)) ∧ (decode cX11_truth 90 = .ok (.iload_n 3, 1)) ∧ (decode cX11_truth 91 = .ok (.ireturn, 1)) := by decide +kernel
theorem dX11_truth_82 : decode cX11_truth 82 = .ok (.iadd, 1) := eX11_truth_82q.1
theorem dX11_truth_83 : decode cX11_truth 83 = .ok (.istore_n 3, 1) := eX11_truth_82q.2.1
theorem dX11_truth_84 : decode cX11_truth 84 = .ok (.iinc 4 1, 3) := eX11_truth_82q.2.2.1
theorem dX11_truth_87 : decode cX11_truth 87 = .ok (.goto (-23), 3) := eX11_truth_82q.2.2.2.1
theorem dX11_truth_90 : decode cX11_truth 90 = .ok (.iload_n 3, 1) := eX11_truth_82q.2.2.2.2.1
theorem dX11_truth_91 : decode cX11_truth 91 = .ok (.ireturn, 1) := eX11_truth_82q.2.2.2.2.2
set_option maxRecDepth 20000 in
theorem ggX11_same_X11_isAddress : GoodIn wsX11_same wsX11_isAddress := by
  have h := goodIn_app (goodIn_r (big := wsX11_same) (.code yX11_isAddress cX11_isAddress 2 (some .boolean) :: ([.methodLink RX11 266 yX11_links, .instanceMethod yX11_links, .selects RX11 yX11_links yX11_links, .initialized RX11, .code yX11_links cX11_links 1 (some .int), .fieldLink RX11 34 "PathProberModel" "told" "[I", .methodLink RX11 359 yX11_isIn, .static yX11_isIn, .code yX11_isIn cX11_isIn 3 (some .boolean), .methodLink RX11 263 yX11_routers, .instanceMethod yX11_routers, .selects RX11 yX11_routers yX11_routers, .code yX11_routers cX11_routers 1 (some .int)]) : List Cond) [6, 7, 8, 9, 5, 10, 11, 12, 13, 14, 15, 16, 17, 18] rfl (by decide +kernel)) (goodIn_few (big := wsX11_same) (fun _ h9 => List.mem_cons_of_mem _ (List.mem_append_right _ h9)) gb_0)
  exact h
set_option maxRecDepth 20000 in
theorem gX11_same_X11_isAddress : GoodIn wsX11_same (wsV RX11 362 RX11 yX11_isAddress wsX11_isAddress) := goodIn_app (goodIn_r _ [2, 3, 4, 5] rfl (by decide +kernel)) ggX11_same_X11_isAddress
set_option maxRecDepth 20000 in
theorem ggX11_same_X11_routerOf : GoodIn wsX11_same wsX11_routerOf := by
  have h := goodIn_app (goodIn_r (big := wsX11_same) (.code yX11_routerOf cX11_routerOf 2 (some .int) :: ([.fieldLink RX11 56 "PathProberModel" "to" "[I"]) : List Cond) [22, 23] rfl (by decide +kernel)) (goodIn_few (big := wsX11_same) (fun _ h9 => List.mem_cons_of_mem _ (List.mem_append_right _ h9)) gb_0)
  exact h
set_option maxRecDepth 20000 in
theorem gX11_same_X11_routerOf : GoodIn wsX11_same (wsV RX11 386 RX11 yX11_routerOf wsX11_routerOf) := goodIn_app (goodIn_r _ [19, 20, 21, 5] rfl (by decide +kernel)) ggX11_same_X11_routerOf
set_option maxRecDepth 20000 in
theorem ggX11_same_X11_fail : GoodIn wsX11_same wsX11_fail := by
  have h := goodIn_app (goodIn_r (big := wsX11_same) (.code yX11_fail cX11_fail 2 (some .int) :: ([.fieldLink RX11 142 "PathProberModel" "code" "I"]) : List Cond) [27, 1] rfl (by decide +kernel)) (goodIn_few (big := wsX11_same) (fun _ h9 => List.mem_cons_of_mem _ (List.mem_append_right _ h9)) gb_0)
  exact h
set_option maxRecDepth 20000 in
theorem gX11_same_X11_fail : GoodIn wsX11_same (wsV RX11 240 RX11 yX11_fail wsX11_fail) := goodIn_app (goodIn_r _ [24, 25, 26, 5] rfl (by decide +kernel)) ggX11_same_X11_fail
theorem eX11_same_0q : (decode cX11_same 0 = .ok (.aload_n 0, 1)) ∧ (decode cX11_same 1 = .ok (.iconst 0, 1)) ∧ (decode cX11_same 2 = .ok (.putfield 142, 3)) ∧ (decode cX11_same 5 = .ok (.aload_n 0, 1)) ∧ (decode cX11_same 6 = .ok (.iload_n 1, 1)) ∧ (decode cX11_same 7 = .ok (.invokevirtual 362, 3)) ∧ (decode cX11_same 10 = .ok (.ifCond .eq 32, 3)) ∧ (decode cX11_same 13 = .ok (.aload_n 0, 1)) := by decide +kernel
theorem dX11_same_0 : decode cX11_same 0 = .ok (.aload_n 0, 1) := eX11_same_0q.1
theorem dX11_same_1 : decode cX11_same 1 = .ok (.iconst 0, 1) := eX11_same_0q.2.1
theorem dX11_same_2 : decode cX11_same 2 = .ok (.putfield 142, 3) := eX11_same_0q.2.2.1
theorem dX11_same_5 : decode cX11_same 5 = .ok (.aload_n 0, 1) := eX11_same_0q.2.2.2.1
theorem dX11_same_6 : decode cX11_same 6 = .ok (.iload_n 1, 1) := eX11_same_0q.2.2.2.2.1
theorem dX11_same_7 : decode cX11_same 7 = .ok (.invokevirtual 362, 3) := eX11_same_0q.2.2.2.2.2.1
theorem dX11_same_10 : decode cX11_same 10 = .ok (.ifCond .eq 32, 3) := eX11_same_0q.2.2.2.2.2.2.1
theorem dX11_same_13 : decode cX11_same 13 = .ok (.aload_n 0, 1) := eX11_same_0q.2.2.2.2.2.2.2
theorem eX11_same_14q : (decode cX11_same 14 = .ok (.iload_n 2, 1)) ∧ (decode cX11_same 15 = .ok (.invokevirtual 362, 3)) ∧ (decode cX11_same 18 = .ok (.ifCond .eq 24, 3)) ∧ (decode cX11_same 21 = .ok (.aload_n 0, 1)) ∧ (decode cX11_same 22 = .ok (.iload_n 1, 1)) ∧ (decode cX11_same 23 = .ok (.invokevirtual 386, 3)) ∧ (decode cX11_same 26 = .ok (.aload_n 0, 1)) ∧ (decode cX11_same 27 = .ok (.iload_n 2, 1)) := by decide +kernel
theorem dX11_same_14 : decode cX11_same 14 = .ok (.iload_n 2, 1) := eX11_same_14q.1
theorem dX11_same_15 : decode cX11_same 15 = .ok (.invokevirtual 362, 3) := eX11_same_14q.2.1
theorem dX11_same_18 : decode cX11_same 18 = .ok (.ifCond .eq 24, 3) := eX11_same_14q.2.2.1
theorem dX11_same_21 : decode cX11_same 21 = .ok (.aload_n 0, 1) := eX11_same_14q.2.2.2.1
theorem dX11_same_22 : decode cX11_same 22 = .ok (.iload_n 1, 1) := eX11_same_14q.2.2.2.2.1
theorem dX11_same_23 : decode cX11_same 23 = .ok (.invokevirtual 386, 3) := eX11_same_14q.2.2.2.2.2.1
theorem dX11_same_26 : decode cX11_same 26 = .ok (.aload_n 0, 1) := eX11_same_14q.2.2.2.2.2.2.1
theorem dX11_same_27 : decode cX11_same 27 = .ok (.iload_n 2, 1) := eX11_same_14q.2.2.2.2.2.2.2
theorem eX11_same_28q : (decode cX11_same 28 = .ok (.invokevirtual 386, 3)) ∧ (decode cX11_same 31 = .ok (.if_icmp .ne 7, 3)) ∧ (decode cX11_same 34 = .ok (.iconst 1, 1)) ∧ (decode cX11_same 35 = .ok (.goto 12, 3)) ∧ (decode cX11_same 38 = .ok (.iconst 0, 1)) ∧ (decode cX11_same 39 = .ok (.goto 8, 3)) ∧ (decode cX11_same 42 = .ok (.aload_n 0, 1)) ∧ (decode cX11_same 43 = .ok (.iconst 1, 1)) := by decide +kernel
theorem dX11_same_28 : decode cX11_same 28 = .ok (.invokevirtual 386, 3) := eX11_same_28q.1
theorem dX11_same_31 : decode cX11_same 31 = .ok (.if_icmp .ne 7, 3) := eX11_same_28q.2.1
theorem dX11_same_34 : decode cX11_same 34 = .ok (.iconst 1, 1) := eX11_same_28q.2.2.1
theorem dX11_same_35 : decode cX11_same 35 = .ok (.goto 12, 3) := eX11_same_28q.2.2.2.1
theorem dX11_same_38 : decode cX11_same 38 = .ok (.iconst 0, 1) := eX11_same_28q.2.2.2.2.1
theorem dX11_same_39 : decode cX11_same 39 = .ok (.goto 8, 3) := eX11_same_28q.2.2.2.2.2.1
theorem dX11_same_42 : decode cX11_same 42 = .ok (.aload_n 0, 1) := eX11_same_28q.2.2.2.2.2.2.1
theorem dX11_same_43 : decode cX11_same 43 = .ok (.iconst 1, 1) := eX11_same_28q.2.2.2.2.2.2.2
theorem dX11_same_44 : decode cX11_same 44 = .ok (.invokevirtual 240, 3) := by decide +kernel
theorem dX11_same_47 : decode cX11_same 47 = .ok (.ireturn, 1) := by decide +kernel
set_option maxRecDepth 20000 in
theorem ggX11_port_X11_isGoal : GoodIn wsX11_port wsX11_isGoal := by
  have h := goodIn_app (goodIn_r (big := wsX11_port) (.code yX11_isGoal cX11_isGoal 2 (some .boolean) :: ([.methodLink RX11 304 yX11_goals, .instanceMethod yX11_goals, .selects RX11 yX11_goals yX11_goals, .initialized RX11, .code yX11_goals cX11_goals 1 (some .int), .fieldLink RX11 34 "PathProberModel" "told" "[I", .methodLink RX11 359 yX11_isIn, .static yX11_isIn, .code yX11_isIn cX11_isIn 3 (some .boolean)]) : List Cond) [7, 8, 9, 10, 6, 11, 12, 13, 14, 15] rfl (by decide +kernel)) (goodIn_few (big := wsX11_port) (fun _ h9 => List.mem_cons_of_mem _ (List.mem_append_right _ h9)) gb_0)
  exact h
set_option maxRecDepth 20000 in
theorem gX11_port_X11_isGoal : GoodIn wsX11_port (wsV RX11 371 RX11 yX11_isGoal wsX11_isGoal) := goodIn_app (goodIn_r _ [3, 4, 5, 6] rfl (by decide +kernel)) ggX11_port_X11_isGoal
set_option maxRecDepth 20000 in
theorem ggX11_port_X11_links : GoodIn wsX11_port wsX11_links := by
  have h := goodIn_app (goodIn_r (big := wsX11_port) (.code yX11_links cX11_links 1 (some .int) :: ([.fieldLink RX11 34 "PathProberModel" "told" "[I"]) : List Cond) [19, 12] rfl (by decide +kernel)) (goodIn_few (big := wsX11_port) (fun _ h9 => List.mem_cons_of_mem _ (List.mem_append_right _ h9)) gb_0)
  exact h
set_option maxRecDepth 20000 in
theorem gX11_port_X11_links : GoodIn wsX11_port (wsV RX11 266 RX11 yX11_links wsX11_links) := goodIn_app (goodIn_r _ [16, 17, 18, 6] rfl (by decide +kernel)) ggX11_port_X11_links
set_option maxRecDepth 20000 in
theorem ggX11_port_X11_isIn : GoodIn wsX11_port wsX11_isIn := goodIn_r _ [15] rfl (by decide +kernel)
set_option maxRecDepth 20000 in
theorem gX11_port_X11_isIn : GoodIn wsX11_port (va_wsS RX11 359 yX11_isIn wsX11_isIn) := goodIn_app (goodIn_r _ [13, 14, 6] rfl (by decide +kernel)) ggX11_port_X11_isIn
set_option maxRecDepth 20000 in
theorem ggX11_port_X11_fail : GoodIn wsX11_port wsX11_fail := by
  have h := goodIn_app (goodIn_r (big := wsX11_port) (.code yX11_fail cX11_fail 2 (some .int) :: ([.fieldLink RX11 142 "PathProberModel" "code" "I"]) : List Cond) [23, 1] rfl (by decide +kernel)) (goodIn_few (big := wsX11_port) (fun _ h9 => List.mem_cons_of_mem _ (List.mem_append_right _ h9)) gb_0)
  exact h
set_option maxRecDepth 20000 in
theorem gX11_port_X11_fail : GoodIn wsX11_port (wsV RX11 240 RX11 yX11_fail wsX11_fail) := goodIn_app (goodIn_r _ [20, 21, 22, 6] rfl (by decide +kernel)) ggX11_port_X11_fail
set_option maxRecDepth 20000 in
theorem ggX11_port_X11_wholeWay : GoodIn wsX11_port wsX11_wholeWay := by
  have h := goodIn_app (goodIn_r (big := wsX11_port) (.code yX11_wholeWay cX11_wholeWay 7 none :: (wsX11_wholeWay_r1 ++ wsX11_wholeWay_r2) : List Cond) [27, 2, 28, 29, 30, 31, 32, 33, 6, 34, 35, 36, 37, 38, 39, 40, 41, 42, 43, 44, 45, 16, 17, 18, 19, 12, 46, 47, 48, 49, 50, 51, 52, 53, 54, 55] rfl (by decide +kernel)) (goodIn_few (big := wsX11_port) (fun _ h9 => List.mem_cons_of_mem _ (List.mem_append_right _ h9)) gb_0)
  exact h
set_option maxRecDepth 20000 in
theorem gX11_port_X11_wholeWay : GoodIn wsX11_port (wsV RX11 446 RX11 yX11_wholeWay wsX11_wholeWay) := goodIn_app (goodIn_r _ [24, 25, 26, 6] rfl (by decide +kernel)) ggX11_port_X11_wholeWay
theorem eX11_port_0q : (decode cX11_port 0 = .ok (.aload_n 0, 1)) ∧ (decode cX11_port 1 = .ok (.iconst 0, 1)) ∧ (decode cX11_port 2 = .ok (.putfield 142, 3)) ∧ (decode cX11_port 5 = .ok (.aload_n 0, 1)) ∧ (decode cX11_port 6 = .ok (.iload_n 1, 1)) ∧ (decode cX11_port 7 = .ok (.invokevirtual 371, 3)) ∧ (decode cX11_port 10 = .ok (.ifCond .eq 17, 3)) ∧ (decode cX11_port 13 = .ok (.iload_n 2, 1)) := by decide +kernel
theorem dX11_port_0 : decode cX11_port 0 = .ok (.aload_n 0, 1) := eX11_port_0q.1
theorem dX11_port_1 : decode cX11_port 1 = .ok (.iconst 0, 1) := eX11_port_0q.2.1
theorem dX11_port_2 : decode cX11_port 2 = .ok (.putfield 142, 3) := eX11_port_0q.2.2.1
theorem dX11_port_5 : decode cX11_port 5 = .ok (.aload_n 0, 1) := eX11_port_0q.2.2.2.1
theorem dX11_port_6 : decode cX11_port 6 = .ok (.iload_n 1, 1) := eX11_port_0q.2.2.2.2.1
theorem dX11_port_7 : decode cX11_port 7 = .ok (.invokevirtual 371, 3) := eX11_port_0q.2.2.2.2.2.1
theorem dX11_port_10 : decode cX11_port 10 = .ok (.ifCond .eq 17, 3) := eX11_port_0q.2.2.2.2.2.2.1
theorem dX11_port_13 : decode cX11_port 13 = .ok (.iload_n 2, 1) := eX11_port_0q.2.2.2.2.2.2.2
theorem eX11_port_14q : (decode cX11_port 14 = .ok (.iconst 0, 1)) ∧ (decode cX11_port 15 = .ok (.aload_n 0, 1)) ∧ (decode cX11_port 16 = .ok (.invokevirtual 266, 3)) ∧ (decode cX11_port 19 = .ok (.iconst 1, 1)) ∧ (decode cX11_port 20 = .ok (.isub, 1)) ∧ (decode cX11_port 21 = .ok (.invokestatic 359, 3)) ∧ (decode cX11_port 24 = .ok (.ifCond .ne 9, 3)) ∧ (decode cX11_port 27 = .ok (.aload_n 0, 1)) := by decide +kernel
theorem dX11_port_14 : decode cX11_port 14 = .ok (.iconst 0, 1) := eX11_port_14q.1
theorem dX11_port_15 : decode cX11_port 15 = .ok (.aload_n 0, 1) := eX11_port_14q.2.1
theorem dX11_port_16 : decode cX11_port 16 = .ok (.invokevirtual 266, 3) := eX11_port_14q.2.2.1
theorem dX11_port_19 : decode cX11_port 19 = .ok (.iconst 1, 1) := eX11_port_14q.2.2.2.1
theorem dX11_port_20 : decode cX11_port 20 = .ok (.isub, 1) := eX11_port_14q.2.2.2.2.1
theorem dX11_port_21 : decode cX11_port 21 = .ok (.invokestatic 359, 3) := eX11_port_14q.2.2.2.2.2.1
theorem dX11_port_24 : decode cX11_port 24 = .ok (.ifCond .ne 9, 3) := eX11_port_14q.2.2.2.2.2.2.1
theorem dX11_port_27 : decode cX11_port 27 = .ok (.aload_n 0, 1) := eX11_port_14q.2.2.2.2.2.2.2
theorem eX11_port_28q : (decode cX11_port 28 = .ok (.iconst 1, 1)) ∧ (decode cX11_port 29 = .ok (.invokevirtual 240, 3)) ∧ (decode cX11_port 32 = .ok (.ireturn, 1)) ∧ (decode cX11_port 33 = .ok (.iconst 0, 1)) ∧ (decode cX11_port 34 = .ok (.istore_n 3, 1)) ∧ (decode cX11_port 35 = .ok (.iload_n 3, 1)) ∧ (decode cX11_port 36 = .ok (.bipush 32, 2)) ∧ (decode cX11_port 38 = .ok (.if_icmp .ge 29, 3)) := by decide +kernel
theorem dX11_port_28 : decode cX11_port 28 = .ok (.iconst 1, 1) := eX11_port_28q.1
theorem dX11_port_29 : decode cX11_port 29 = .ok (.invokevirtual 240, 3) := eX11_port_28q.2.1
theorem dX11_port_32 : decode cX11_port 32 = .ok (.ireturn, 1) := eX11_port_28q.2.2.1
theorem dX11_port_33 : decode cX11_port 33 = .ok (.iconst 0, 1) := eX11_port_28q.2.2.2.1
theorem dX11_port_34 : decode cX11_port 34 = .ok (.istore_n 3, 1) := eX11_port_28q.2.2.2.2.1
theorem dX11_port_35 : decode cX11_port 35 = .ok (.iload_n 3, 1) := eX11_port_28q.2.2.2.2.2.1
theorem dX11_port_36 : decode cX11_port 36 = .ok (.bipush 32, 2) := eX11_port_28q.2.2.2.2.2.2.1
theorem dX11_port_38 : decode cX11_port 38 = .ok (.if_icmp .ge 29, 3) := eX11_port_28q.2.2.2.2.2.2.2
theorem eX11_port_41q : (decode cX11_port 41 = .ok (.aload_n 0, 1)) ∧ (decode cX11_port 42 = .ok (.iload_n 3, 1)) ∧ (decode cX11_port 43 = .ok (.iload_n 1, 1)) ∧ (decode cX11_port 44 = .ok (.invokevirtual 446, 3)) ∧ (decode cX11_port 47 = .ok (.aload_n 0, 1)) ∧ (decode cX11_port 48 = .ok (.getfield 440, 3)) ∧ (decode cX11_port 51 = .ok (.iload_n 2, 1)) ∧ (decode cX11_port 52 = .ok (.ishr, 1)) := by decide +kernel
theorem dX11_port_41 : decode cX11_port 41 = .ok (.aload_n 0, 1) := eX11_port_41q.1
theorem dX11_port_42 : decode cX11_port 42 = .ok (.iload_n 3, 1) := eX11_port_41q.2.1
theorem dX11_port_43 : decode cX11_port 43 = .ok (.iload_n 1, 1) := eX11_port_41q.2.2.1
theorem dX11_port_44 : decode cX11_port 44 = .ok (.invokevirtual 446, 3) := eX11_port_41q.2.2.2.1
theorem dX11_port_47 : decode cX11_port 47 = .ok (.aload_n 0, 1) := eX11_port_41q.2.2.2.2.1
theorem dX11_port_48 : decode cX11_port 48 = .ok (.getfield 440, 3) := eX11_port_41q.2.2.2.2.2.1
theorem dX11_port_51 : decode cX11_port 51 = .ok (.iload_n 2, 1) := eX11_port_41q.2.2.2.2.2.2.1
theorem dX11_port_52 : decode cX11_port 52 = .ok (.ishr, 1) := eX11_port_41q.2.2.2.2.2.2.2
theorem eX11_port_53q : (decode cX11_port 53 = .ok (.iconst 1, 1)) ∧ (decode cX11_port 54 = .ok (.iand, 1)) ∧ (decode cX11_port 55 = .ok (.iconst 1, 1)) ∧ (decode cX11_port 56 = .ok (.if_icmp .ne 5, 3)) ∧ (decode cX11_port 59 = .ok (.iload_n 3, 1)) ∧ (decode cX11_port 60 = .ok (.ireturn, 1)) ∧ (decode cX11_port 61 = .ok (.iinc 3 1, 3)) ∧ (decode cX11_port 64 = .ok (.goto (-29), 3)) := by decide +kernel
theorem dX11_port_53 : decode cX11_port 53 = .ok (.iconst 1, 1) := eX11_port_53q.1
theorem dX11_port_54 : decode cX11_port 54 = .ok (.iand, 1) := eX11_port_53q.2.1
theorem dX11_port_55 : decode cX11_port 55 = .ok (.iconst 1, 1) := eX11_port_53q.2.2.1
theorem dX11_port_56 : decode cX11_port 56 = .ok (.if_icmp .ne 5, 3) := eX11_port_53q.2.2.2.1
theorem dX11_port_59 : decode cX11_port 59 = .ok (.iload_n 3, 1) := eX11_port_53q.2.2.2.2.1
theorem dX11_port_60 : decode cX11_port 60 = .ok (.ireturn, 1) := eX11_port_53q.2.2.2.2.2.1
theorem dX11_port_61 : decode cX11_port 61 = .ok (.iinc 3 1, 3) := eX11_port_53q.2.2.2.2.2.2.1
theorem dX11_port_64 : decode cX11_port 64 = .ok (.goto (-29), 3) := eX11_port_53q.2.2.2.2.2.2.2
theorem dX11_port_67 : decode cX11_port 67 = .ok (.iconst (-1), 1) := by decide +kernel
theorem dX11_port_68 : decode cX11_port 68 = .ok (.ireturn, 1) := by decide +kernel
set_option maxRecDepth 20000 in
theorem ggX11_use_X11_isGoal : GoodIn wsX11_use wsX11_isGoal := by
  have h := goodIn_app (goodIn_r (big := wsX11_use) (.code yX11_isGoal cX11_isGoal 2 (some .boolean) :: ([.methodLink RX11 304 yX11_goals, .instanceMethod yX11_goals, .selects RX11 yX11_goals yX11_goals, .initialized RX11, .code yX11_goals cX11_goals 1 (some .int), .fieldLink RX11 34 "PathProberModel" "told" "[I", .methodLink RX11 359 yX11_isIn, .static yX11_isIn, .code yX11_isIn cX11_isIn 3 (some .boolean)]) : List Cond) [7, 8, 9, 10, 6, 11, 12, 13, 14, 15] rfl (by decide +kernel)) (goodIn_few (big := wsX11_use) (fun _ h9 => List.mem_cons_of_mem _ (List.mem_append_right _ h9)) gb_0)
  exact h
set_option maxRecDepth 20000 in
theorem gX11_use_X11_isGoal : GoodIn wsX11_use (wsV RX11 371 RX11 yX11_isGoal wsX11_isGoal) := goodIn_app (goodIn_r _ [3, 4, 5, 6] rfl (by decide +kernel)) ggX11_use_X11_isGoal
set_option maxRecDepth 20000 in
theorem ggX11_use_X11_links : GoodIn wsX11_use wsX11_links := by
  have h := goodIn_app (goodIn_r (big := wsX11_use) (.code yX11_links cX11_links 1 (some .int) :: ([.fieldLink RX11 34 "PathProberModel" "told" "[I"]) : List Cond) [19, 12] rfl (by decide +kernel)) (goodIn_few (big := wsX11_use) (fun _ h9 => List.mem_cons_of_mem _ (List.mem_append_right _ h9)) gb_0)
  exact h
set_option maxRecDepth 20000 in
theorem gX11_use_X11_links : GoodIn wsX11_use (wsV RX11 266 RX11 yX11_links wsX11_links) := goodIn_app (goodIn_r _ [16, 17, 18, 6] rfl (by decide +kernel)) ggX11_use_X11_links
set_option maxRecDepth 20000 in
theorem ggX11_use_X11_isIn : GoodIn wsX11_use wsX11_isIn := goodIn_r _ [15] rfl (by decide +kernel)
set_option maxRecDepth 20000 in
theorem gX11_use_X11_isIn : GoodIn wsX11_use (va_wsS RX11 359 yX11_isIn wsX11_isIn) := goodIn_app (goodIn_r _ [13, 14, 6] rfl (by decide +kernel)) ggX11_use_X11_isIn
set_option maxRecDepth 20000 in
theorem ggX11_use_X11_fail : GoodIn wsX11_use wsX11_fail := by
  have h := goodIn_app (goodIn_r (big := wsX11_use) (.code yX11_fail cX11_fail 2 (some .int) :: ([.fieldLink RX11 142 "PathProberModel" "code" "I"]) : List Cond) [23, 1] rfl (by decide +kernel)) (goodIn_few (big := wsX11_use) (fun _ h9 => List.mem_cons_of_mem _ (List.mem_append_right _ h9)) gb_0)
  exact h
set_option maxRecDepth 20000 in
theorem gX11_use_X11_fail : GoodIn wsX11_use (wsV RX11 240 RX11 yX11_fail wsX11_fail) := goodIn_app (goodIn_r _ [20, 21, 22, 6] rfl (by decide +kernel)) ggX11_use_X11_fail
set_option maxRecDepth 20000 in
theorem ggX11_use_X11_wholeWay : GoodIn wsX11_use wsX11_wholeWay := by
  have h := goodIn_app (goodIn_r (big := wsX11_use) (.code yX11_wholeWay cX11_wholeWay 7 none :: (wsX11_wholeWay_r1 ++ wsX11_wholeWay_r2) : List Cond) [27, 2, 28, 29, 30, 31, 32, 33, 6, 34, 35, 36, 37, 38, 39, 40, 41, 42, 43, 44, 45, 16, 17, 18, 19, 12, 46, 47, 48, 49, 50, 51, 52, 53, 54, 55] rfl (by decide +kernel)) (goodIn_few (big := wsX11_use) (fun _ h9 => List.mem_cons_of_mem _ (List.mem_append_right _ h9)) gb_0)
  exact h
set_option maxRecDepth 20000 in
theorem gX11_use_X11_wholeWay : GoodIn wsX11_use (wsV RX11 446 RX11 yX11_wholeWay wsX11_wholeWay) := goodIn_app (goodIn_r _ [24, 25, 26, 6] rfl (by decide +kernel)) ggX11_use_X11_wholeWay
theorem eX11_use_0q : (decode cX11_use 0 = .ok (.aload_n 0, 1)) ∧ (decode cX11_use 1 = .ok (.iconst 0, 1)) ∧ (decode cX11_use 2 = .ok (.putfield 142, 3)) ∧ (decode cX11_use 5 = .ok (.aload_n 0, 1)) ∧ (decode cX11_use 6 = .ok (.iload_n 1, 1)) ∧ (decode cX11_use 7 = .ok (.invokevirtual 371, 3)) ∧ (decode cX11_use 10 = .ok (.ifCond .eq 17, 3)) ∧ (decode cX11_use 13 = .ok (.iload_n 2, 1)) := by decide +kernel
theorem dX11_use_0 : decode cX11_use 0 = .ok (.aload_n 0, 1) := eX11_use_0q.1
theorem dX11_use_1 : decode cX11_use 1 = .ok (.iconst 0, 1) := eX11_use_0q.2.1
theorem dX11_use_2 : decode cX11_use 2 = .ok (.putfield 142, 3) := eX11_use_0q.2.2.1
theorem dX11_use_5 : decode cX11_use 5 = .ok (.aload_n 0, 1) := eX11_use_0q.2.2.2.1
theorem dX11_use_6 : decode cX11_use 6 = .ok (.iload_n 1, 1) := eX11_use_0q.2.2.2.2.1
theorem dX11_use_7 : decode cX11_use 7 = .ok (.invokevirtual 371, 3) := eX11_use_0q.2.2.2.2.2.1
theorem dX11_use_10 : decode cX11_use 10 = .ok (.ifCond .eq 17, 3) := eX11_use_0q.2.2.2.2.2.2.1
theorem dX11_use_13 : decode cX11_use 13 = .ok (.iload_n 2, 1) := eX11_use_0q.2.2.2.2.2.2.2
theorem eX11_use_14q : (decode cX11_use 14 = .ok (.iconst 0, 1)) ∧ (decode cX11_use 15 = .ok (.aload_n 0, 1)) ∧ (decode cX11_use 16 = .ok (.invokevirtual 266, 3)) ∧ (decode cX11_use 19 = .ok (.iconst 1, 1)) ∧ (decode cX11_use 20 = .ok (.isub, 1)) ∧ (decode cX11_use 21 = .ok (.invokestatic 359, 3)) ∧ (decode cX11_use 24 = .ok (.ifCond .ne 9, 3)) ∧ (decode cX11_use 27 = .ok (.aload_n 0, 1)) := by decide +kernel
theorem dX11_use_14 : decode cX11_use 14 = .ok (.iconst 0, 1) := eX11_use_14q.1
theorem dX11_use_15 : decode cX11_use 15 = .ok (.aload_n 0, 1) := eX11_use_14q.2.1
theorem dX11_use_16 : decode cX11_use 16 = .ok (.invokevirtual 266, 3) := eX11_use_14q.2.2.1
theorem dX11_use_19 : decode cX11_use 19 = .ok (.iconst 1, 1) := eX11_use_14q.2.2.2.1
theorem dX11_use_20 : decode cX11_use 20 = .ok (.isub, 1) := eX11_use_14q.2.2.2.2.1
theorem dX11_use_21 : decode cX11_use 21 = .ok (.invokestatic 359, 3) := eX11_use_14q.2.2.2.2.2.1
theorem dX11_use_24 : decode cX11_use 24 = .ok (.ifCond .ne 9, 3) := eX11_use_14q.2.2.2.2.2.2.1
theorem dX11_use_27 : decode cX11_use 27 = .ok (.aload_n 0, 1) := eX11_use_14q.2.2.2.2.2.2.2
theorem eX11_use_28q : (decode cX11_use 28 = .ok (.iconst 1, 1)) ∧ (decode cX11_use 29 = .ok (.invokevirtual 240, 3)) ∧ (decode cX11_use 32 = .ok (.ireturn, 1)) ∧ (decode cX11_use 33 = .ok (.iconst 0, 1)) ∧ (decode cX11_use 34 = .ok (.istore_n 3, 1)) ∧ (decode cX11_use 35 = .ok (.iconst 0, 1)) ∧ (decode cX11_use 36 = .ok (.istore 4, 2)) ∧ (decode cX11_use 38 = .ok (.iload 4, 2)) := by decide +kernel
theorem dX11_use_28 : decode cX11_use 28 = .ok (.iconst 1, 1) := eX11_use_28q.1
theorem dX11_use_29 : decode cX11_use 29 = .ok (.invokevirtual 240, 3) := eX11_use_28q.2.1
theorem dX11_use_32 : decode cX11_use 32 = .ok (.ireturn, 1) := eX11_use_28q.2.2.1
theorem dX11_use_33 : decode cX11_use 33 = .ok (.iconst 0, 1) := eX11_use_28q.2.2.2.1
theorem dX11_use_34 : decode cX11_use 34 = .ok (.istore_n 3, 1) := eX11_use_28q.2.2.2.2.1
theorem dX11_use_35 : decode cX11_use 35 = .ok (.iconst 0, 1) := eX11_use_28q.2.2.2.2.2.1
theorem dX11_use_36 : decode cX11_use 36 = .ok (.istore 4, 2) := eX11_use_28q.2.2.2.2.2.2.1
theorem dX11_use_38 : decode cX11_use 38 = .ok (.iload 4, 2) := eX11_use_28q.2.2.2.2.2.2.2
theorem eX11_use_40q : (decode cX11_use 40 = .ok (.bipush 32, 2)) ∧ (decode cX11_use 42 = .ok (.if_icmp .ge 27, 3)) ∧ (decode cX11_use 45 = .ok (.aload_n 0, 1)) ∧ (decode cX11_use 46 = .ok (.iload 4, 2)) ∧ (decode cX11_use 48 = .ok (.iload_n 1, 1)) ∧ (decode cX11_use 49 = .ok (.invokevirtual 446, 3)) ∧ (decode cX11_use 52 = .ok (.iload_n 3, 1)) ∧ (decode cX11_use 53 = .ok (.aload_n 0, 1)) := by decide +kernel
theorem dX11_use_40 : decode cX11_use 40 = .ok (.bipush 32, 2) := eX11_use_40q.1
theorem dX11_use_42 : decode cX11_use 42 = .ok (.if_icmp .ge 27, 3) := eX11_use_40q.2.1
theorem dX11_use_45 : decode cX11_use 45 = .ok (.aload_n 0, 1) := eX11_use_40q.2.2.1
theorem dX11_use_46 : decode cX11_use 46 = .ok (.iload 4, 2) := eX11_use_40q.2.2.2.1
theorem dX11_use_48 : decode cX11_use 48 = .ok (.iload_n 1, 1) := eX11_use_40q.2.2.2.2.1
theorem dX11_use_49 : decode cX11_use 49 = .ok (.invokevirtual 446, 3) := eX11_use_40q.2.2.2.2.2.1
theorem dX11_use_52 : decode cX11_use 52 = .ok (.iload_n 3, 1) := eX11_use_40q.2.2.2.2.2.2.1
theorem dX11_use_53 : decode cX11_use 53 = .ok (.aload_n 0, 1) := eX11_use_40q.2.2.2.2.2.2.2
theorem eX11_use_54q : (decode cX11_use 54 = .ok (.getfield 440, 3)) ∧ (decode cX11_use 57 = .ok (.iload_n 2, 1)) ∧ (decode cX11_use 58 = .ok (.ishr, 1)) ∧ (decode cX11_use 59 = .ok (.iconst 1, 1)) ∧ (decode cX11_use 60 = .ok (.iand, 1)) ∧ (decode cX11_use 61 = .ok (.iadd, 1)) ∧ (decode cX11_use 62 = .ok (.istore_n 3, 1)) ∧ (decode cX11_use 63 = .ok (.iinc 4 1, 3)) := by decide +kernel
theorem dX11_use_54 : decode cX11_use 54 = .ok (.getfield 440, 3) := eX11_use_54q.1
theorem dX11_use_57 : decode cX11_use 57 = .ok (.iload_n 2, 1) := eX11_use_54q.2.1
theorem dX11_use_58 : decode cX11_use 58 = .ok (.ishr, 1) := eX11_use_54q.2.2.1
theorem dX11_use_59 : decode cX11_use 59 = .ok (.iconst 1, 1) := eX11_use_54q.2.2.2.1
theorem dX11_use_60 : decode cX11_use 60 = .ok (.iand, 1) := eX11_use_54q.2.2.2.2.1
theorem dX11_use_61 : decode cX11_use 61 = .ok (.iadd, 1) := eX11_use_54q.2.2.2.2.2.1
theorem dX11_use_62 : decode cX11_use 62 = .ok (.istore_n 3, 1) := eX11_use_54q.2.2.2.2.2.2.1
theorem dX11_use_63 : decode cX11_use 63 = .ok (.iinc 4 1, 3) := eX11_use_54q.2.2.2.2.2.2.2
theorem eX11_use_66q : (decode cX11_use 66 = .ok (.goto (-28), 3)) ∧ (decode cX11_use 69 = .ok (.iload_n 3, 1)) ∧ (decode cX11_use 70 = .ok (.ireturn, 1)) := by decide +kernel
theorem dX11_use_66 : decode cX11_use 66 = .ok (.goto (-28), 3) := eX11_use_66q.1
theorem dX11_use_69 : decode cX11_use 69 = .ok (.iload_n 3, 1) := eX11_use_66q.2.1
theorem dX11_use_70 : decode cX11_use 70 = .ok (.ireturn, 1) := eX11_use_66q.2.2
set_option maxRecDepth 20000 in
theorem ggX11_cover_X11_isGoal : GoodIn wsX11_cover wsX11_isGoal := by
  have h := goodIn_app (goodIn_r (big := wsX11_cover) (.code yX11_isGoal cX11_isGoal 2 (some .boolean) :: ([.methodLink RX11 304 yX11_goals, .instanceMethod yX11_goals, .selects RX11 yX11_goals yX11_goals, .initialized RX11, .code yX11_goals cX11_goals 1 (some .int), .fieldLink RX11 34 "PathProberModel" "told" "[I", .methodLink RX11 359 yX11_isIn, .static yX11_isIn, .code yX11_isIn cX11_isIn 3 (some .boolean)]) : List Cond) [10, 11, 12, 13, 9, 14, 15, 16, 17, 18] rfl (by decide +kernel)) (goodIn_few (big := wsX11_cover) (fun _ h9 => List.mem_cons_of_mem _ (List.mem_append_right _ h9)) gb_0)
  exact h
set_option maxRecDepth 20000 in
theorem gX11_cover_X11_isGoal : GoodIn wsX11_cover (wsV RX11 371 RX11 yX11_isGoal wsX11_isGoal) := goodIn_app (goodIn_r _ [6, 7, 8, 9] rfl (by decide +kernel)) ggX11_cover_X11_isGoal
set_option maxRecDepth 20000 in
theorem ggX11_cover_X11_fail : GoodIn wsX11_cover wsX11_fail := by
  have h := goodIn_app (goodIn_r (big := wsX11_cover) (.code yX11_fail cX11_fail 2 (some .int) :: ([.fieldLink RX11 142 "PathProberModel" "code" "I"]) : List Cond) [22, 1] rfl (by decide +kernel)) (goodIn_few (big := wsX11_cover) (fun _ h9 => List.mem_cons_of_mem _ (List.mem_append_right _ h9)) gb_0)
  exact h
set_option maxRecDepth 20000 in
theorem gX11_cover_X11_fail : GoodIn wsX11_cover (wsV RX11 240 RX11 yX11_fail wsX11_fail) := goodIn_app (goodIn_r _ [19, 20, 21, 9] rfl (by decide +kernel)) ggX11_cover_X11_fail
set_option maxRecDepth 20000 in
theorem ggX11_cover_X11_links : GoodIn wsX11_cover wsX11_links := by
  have h := goodIn_app (goodIn_r (big := wsX11_cover) (.code yX11_links cX11_links 1 (some .int) :: ([.fieldLink RX11 34 "PathProberModel" "told" "[I"]) : List Cond) [26, 15] rfl (by decide +kernel)) (goodIn_few (big := wsX11_cover) (fun _ h9 => List.mem_cons_of_mem _ (List.mem_append_right _ h9)) gb_0)
  exact h
set_option maxRecDepth 20000 in
theorem gX11_cover_X11_links : GoodIn wsX11_cover (wsV RX11 266 RX11 yX11_links wsX11_links) := goodIn_app (goodIn_r _ [23, 24, 25, 9] rfl (by decide +kernel)) ggX11_cover_X11_links
set_option maxRecDepth 20000 in
theorem ggX11_cover_X11_isBranch : GoodIn wsX11_cover wsX11_isBranch := by
  have h := goodIn_app (goodIn_r (big := wsX11_cover) (.code yX11_isBranch cX11_isBranch 4 (some .boolean) :: ([.fieldLink RX11 53 "PathProberModel" "from" "[I", .fieldLink RX11 73 "PathProberModel" "reach" "[I", .fieldLink RX11 56 "PathProberModel" "to" "[I"]) : List Cond) [30, 3, 2, 31] rfl (by decide +kernel)) (goodIn_few (big := wsX11_cover) (fun _ h9 => List.mem_cons_of_mem _ (List.mem_append_right _ h9)) gb_0)
  exact h
set_option maxRecDepth 20000 in
theorem gX11_cover_X11_isBranch : GoodIn wsX11_cover (wsV RX11 269 RX11 yX11_isBranch wsX11_isBranch) := goodIn_app (goodIn_r _ [27, 28, 29, 9] rfl (by decide +kernel)) ggX11_cover_X11_isBranch
set_option maxRecDepth 20000 in
theorem ggX11_cover_X11_wholeWay : GoodIn wsX11_cover wsX11_wholeWay := by
  have h := goodIn_app (goodIn_r (big := wsX11_cover) (.code yX11_wholeWay cX11_wholeWay 7 none :: (wsX11_wholeWay_r1 ++ wsX11_wholeWay_r2) : List Cond) [35, 5, 36, 4, 31, 37, 38, 39, 9, 40, 41, 42, 43, 44, 45, 46, 47, 48, 49, 50, 51, 23, 24, 25, 26, 15, 27, 28, 29, 30, 3, 2, 52, 53, 54, 55] rfl (by decide +kernel)) (goodIn_few (big := wsX11_cover) (fun _ h9 => List.mem_cons_of_mem _ (List.mem_append_right _ h9)) gb_0)
  exact h
set_option maxRecDepth 20000 in
theorem gX11_cover_X11_wholeWay : GoodIn wsX11_cover (wsV RX11 446 RX11 yX11_wholeWay wsX11_wholeWay) := goodIn_app (goodIn_r _ [32, 33, 34, 9] rfl (by decide +kernel)) ggX11_cover_X11_wholeWay
theorem eX11_cover_0q : (decode cX11_cover 0 = .ok (.aload_n 0, 1)) ∧ (decode cX11_cover 1 = .ok (.iconst 0, 1)) ∧ (decode cX11_cover 2 = .ok (.putfield 142, 3)) ∧ (decode cX11_cover 5 = .ok (.aload_n 0, 1)) ∧ (decode cX11_cover 6 = .ok (.iload_n 1, 1)) ∧ (decode cX11_cover 7 = .ok (.invokevirtual 371, 3)) ∧ (decode cX11_cover 10 = .ok (.ifCond .ne 9, 3)) ∧ (decode cX11_cover 13 = .ok (.aload_n 0, 1)) := by decide +kernel
theorem dX11_cover_0 : decode cX11_cover 0 = .ok (.aload_n 0, 1) := eX11_cover_0q.1
theorem dX11_cover_1 : decode cX11_cover 1 = .ok (.iconst 0, 1) := eX11_cover_0q.2.1
theorem dX11_cover_2 : decode cX11_cover 2 = .ok (.putfield 142, 3) := eX11_cover_0q.2.2.1
theorem dX11_cover_5 : decode cX11_cover 5 = .ok (.aload_n 0, 1) := eX11_cover_0q.2.2.2.1
theorem dX11_cover_6 : decode cX11_cover 6 = .ok (.iload_n 1, 1) := eX11_cover_0q.2.2.2.2.1
theorem dX11_cover_7 : decode cX11_cover 7 = .ok (.invokevirtual 371, 3) := eX11_cover_0q.2.2.2.2.2.1
theorem dX11_cover_10 : decode cX11_cover 10 = .ok (.ifCond .ne 9, 3) := eX11_cover_0q.2.2.2.2.2.2.1
theorem dX11_cover_13 : decode cX11_cover 13 = .ok (.aload_n 0, 1) := eX11_cover_0q.2.2.2.2.2.2.2
theorem eX11_cover_14q : (decode cX11_cover 14 = .ok (.iconst 1, 1)) ∧ (decode cX11_cover 15 = .ok (.invokevirtual 240, 3)) ∧ (decode cX11_cover 18 = .ok (.ireturn, 1)) ∧ (decode cX11_cover 19 = .ok (.iconst 0, 1)) ∧ (decode cX11_cover 20 = .ok (.istore_n 2, 1)) ∧ (decode cX11_cover 21 = .ok (.iconst 0, 1)) ∧ (decode cX11_cover 22 = .ok (.istore_n 3, 1)) ∧ (decode cX11_cover 23 = .ok (.iload_n 3, 1)) := by decide +kernel
theorem dX11_cover_14 : decode cX11_cover 14 = .ok (.iconst 1, 1) := eX11_cover_14q.1
theorem dX11_cover_15 : decode cX11_cover 15 = .ok (.invokevirtual 240, 3) := eX11_cover_14q.2.1
theorem dX11_cover_18 : decode cX11_cover 18 = .ok (.ireturn, 1) := eX11_cover_14q.2.2.1
theorem dX11_cover_19 : decode cX11_cover 19 = .ok (.iconst 0, 1) := eX11_cover_14q.2.2.2.1
theorem dX11_cover_20 : decode cX11_cover 20 = .ok (.istore_n 2, 1) := eX11_cover_14q.2.2.2.2.1
theorem dX11_cover_21 : decode cX11_cover 21 = .ok (.iconst 0, 1) := eX11_cover_14q.2.2.2.2.2.1
theorem dX11_cover_22 : decode cX11_cover 22 = .ok (.istore_n 3, 1) := eX11_cover_14q.2.2.2.2.2.2.1
theorem dX11_cover_23 : decode cX11_cover 23 = .ok (.iload_n 3, 1) := eX11_cover_14q.2.2.2.2.2.2.2
theorem eX11_cover_24q : (decode cX11_cover 24 = .ok (.aload_n 0, 1)) ∧ (decode cX11_cover 25 = .ok (.invokevirtual 266, 3)) ∧ (decode cX11_cover 28 = .ok (.if_icmp .ge 56, 3)) ∧ (decode cX11_cover 31 = .ok (.iload_n 2, 1)) ∧ (decode cX11_cover 32 = .ok (.aload_n 0, 1)) ∧ (decode cX11_cover 33 = .ok (.getfield 73, 3)) ∧ (decode cX11_cover 36 = .ok (.aload_n 0, 1)) ∧ (decode cX11_cover 37 = .ok (.getfield 53, 3)) := by decide +kernel
theorem dX11_cover_24 : decode cX11_cover 24 = .ok (.aload_n 0, 1) := eX11_cover_24q.1
theorem dX11_cover_25 : decode cX11_cover 25 = .ok (.invokevirtual 266, 3) := eX11_cover_24q.2.1
theorem dX11_cover_28 : decode cX11_cover 28 = .ok (.if_icmp .ge 56, 3) := eX11_cover_24q.2.2.1
theorem dX11_cover_31 : decode cX11_cover 31 = .ok (.iload_n 2, 1) := eX11_cover_24q.2.2.2.1
theorem dX11_cover_32 : decode cX11_cover 32 = .ok (.aload_n 0, 1) := eX11_cover_24q.2.2.2.2.1
theorem dX11_cover_33 : decode cX11_cover 33 = .ok (.getfield 73, 3) := eX11_cover_24q.2.2.2.2.2.1
theorem dX11_cover_36 : decode cX11_cover 36 = .ok (.aload_n 0, 1) := eX11_cover_24q.2.2.2.2.2.2.1
theorem dX11_cover_37 : decode cX11_cover 37 = .ok (.getfield 53, 3) := eX11_cover_24q.2.2.2.2.2.2.2
theorem eX11_cover_40q : (decode cX11_cover 40 = .ok (.iload_n 3, 1)) ∧ (decode cX11_cover 41 = .ok (.iaload, 1)) ∧ (decode cX11_cover 42 = .ok (.iaload, 1)) ∧ (decode cX11_cover 43 = .ok (.iconst 1, 1)) ∧ (decode cX11_cover 44 = .ok (.iand, 1)) ∧ (decode cX11_cover 45 = .ok (.iconst 1, 1)) ∧ (decode cX11_cover 46 = .ok (.if_icmp .ne 29, 3)) ∧ (decode cX11_cover 49 = .ok (.aload_n 0, 1)) := by decide +kernel
theorem dX11_cover_40 : decode cX11_cover 40 = .ok (.iload_n 3, 1) := eX11_cover_40q.1
theorem dX11_cover_41 : decode cX11_cover 41 = .ok (.iaload, 1) := eX11_cover_40q.2.1
theorem dX11_cover_42 : decode cX11_cover 42 = .ok (.iaload, 1) := eX11_cover_40q.2.2.1
theorem dX11_cover_43 : decode cX11_cover 43 = .ok (.iconst 1, 1) := eX11_cover_40q.2.2.2.1
theorem dX11_cover_44 : decode cX11_cover 44 = .ok (.iand, 1) := eX11_cover_40q.2.2.2.2.1
theorem dX11_cover_45 : decode cX11_cover 45 = .ok (.iconst 1, 1) := eX11_cover_40q.2.2.2.2.2.1
theorem dX11_cover_46 : decode cX11_cover 46 = .ok (.if_icmp .ne 29, 3) := eX11_cover_40q.2.2.2.2.2.2.1
theorem dX11_cover_49 : decode cX11_cover 49 = .ok (.aload_n 0, 1) := eX11_cover_40q.2.2.2.2.2.2.2
theorem eX11_cover_50q : (decode cX11_cover 50 = .ok (.iload_n 3, 1)) ∧ (decode cX11_cover 51 = .ok (.aload_n 0, 1)) ∧ (decode cX11_cover 52 = .ok (.getfield 53, 3)) ∧ (decode cX11_cover 55 = .ok (.iload_n 3, 1)) ∧ (decode cX11_cover 56 = .ok (.iaload, 1)) ∧ (decode cX11_cover 57 = .ok (.aload_n 0, 1)) ∧ (decode cX11_cover 58 = .ok (.getfield 58, 3)) ∧ (decode cX11_cover 61 = .ok (.iload_n 1, 1)) := by decide +kernel
theorem dX11_cover_50 : decode cX11_cover 50 = .ok (.iload_n 3, 1) := eX11_cover_50q.1
theorem dX11_cover_51 : decode cX11_cover 51 = .ok (.aload_n 0, 1) := eX11_cover_50q.2.1
theorem dX11_cover_52 : decode cX11_cover 52 = .ok (.getfield 53, 3) := eX11_cover_50q.2.2.1
theorem dX11_cover_55 : decode cX11_cover 55 = .ok (.iload_n 3, 1) := eX11_cover_50q.2.2.2.1
theorem dX11_cover_56 : decode cX11_cover 56 = .ok (.iaload, 1) := eX11_cover_50q.2.2.2.2.1
theorem dX11_cover_57 : decode cX11_cover 57 = .ok (.aload_n 0, 1) := eX11_cover_50q.2.2.2.2.2.1
theorem dX11_cover_58 : decode cX11_cover 58 = .ok (.getfield 58, 3) := eX11_cover_50q.2.2.2.2.2.2.1
theorem dX11_cover_61 : decode cX11_cover 61 = .ok (.iload_n 1, 1) := eX11_cover_50q.2.2.2.2.2.2.2
theorem eX11_cover_62q : (decode cX11_cover 62 = .ok (.iaload, 1)) ∧ (decode cX11_cover 63 = .ok (.invokevirtual 269, 3)) ∧ (decode cX11_cover 66 = .ok (.ifCond .eq 9, 3)) ∧ (decode cX11_cover 69 = .ok (.iconst 1, 1)) ∧ (decode cX11_cover 70 = .ok (.iload_n 3, 1)) ∧ (decode cX11_cover 71 = .ok (.ishl, 1)) ∧ (decode cX11_cover 72 = .ok (.goto 4, 3)) ∧ (decode cX11_cover 75 = .ok (.iconst 0, 1)) := by decide +kernel
theorem dX11_cover_62 : decode cX11_cover 62 = .ok (.iaload, 1) := eX11_cover_62q.1
theorem dX11_cover_63 : decode cX11_cover 63 = .ok (.invokevirtual 269, 3) := eX11_cover_62q.2.1
theorem dX11_cover_66 : decode cX11_cover 66 = .ok (.ifCond .eq 9, 3) := eX11_cover_62q.2.2.1
theorem dX11_cover_69 : decode cX11_cover 69 = .ok (.iconst 1, 1) := eX11_cover_62q.2.2.2.1
theorem dX11_cover_70 : decode cX11_cover 70 = .ok (.iload_n 3, 1) := eX11_cover_62q.2.2.2.2.1
theorem dX11_cover_71 : decode cX11_cover 71 = .ok (.ishl, 1) := eX11_cover_62q.2.2.2.2.2.1
theorem dX11_cover_72 : decode cX11_cover 72 = .ok (.goto 4, 3) := eX11_cover_62q.2.2.2.2.2.2.1
theorem dX11_cover_75 : decode cX11_cover 75 = .ok (.iconst 0, 1) := eX11_cover_62q.2.2.2.2.2.2.2
theorem eX11_cover_76q : (decode cX11_cover 76 = .ok (.ior, 1)) ∧ (decode cX11_cover 77 = .ok (.istore_n 2, 1)) ∧ (decode cX11_cover 78 = .ok (.iinc 3 1, 3)) ∧ (decode cX11_cover 81 = .ok (.goto (-58), 3)) ∧ (decode cX11_cover 84 = .ok (.iconst 0, 1)) ∧ (decode cX11_cover 85 = .ok (.istore_n 3, 1)) ∧ (decode cX11_cover 86 = .ok (.iload_n 3, 1)) ∧ (decode cX11_cover 87 = .ok (.bipush 32, 2)) := by decide +kernel
theorem dX11_cover_76 : decode cX11_cover 76 = .ok (.ior, 1) := eX11_cover_76q.1
theorem dX11_cover_77 : decode cX11_cover 77 = .ok (.istore_n 2, 1) := eX11_cover_76q.2.1
theorem dX11_cover_78 : decode cX11_cover 78 = .ok (.iinc 3 1, 3) := eX11_cover_76q.2.2.1
theorem dX11_cover_81 : decode cX11_cover 81 = .ok (.goto (-58), 3) := eX11_cover_76q.2.2.2.1
theorem dX11_cover_84 : decode cX11_cover 84 = .ok (.iconst 0, 1) := eX11_cover_76q.2.2.2.2.1
theorem dX11_cover_85 : decode cX11_cover 85 = .ok (.istore_n 3, 1) := eX11_cover_76q.2.2.2.2.2.1
theorem dX11_cover_86 : decode cX11_cover 86 = .ok (.iload_n 3, 1) := eX11_cover_76q.2.2.2.2.2.2.1
theorem dX11_cover_87 : decode cX11_cover 87 = .ok (.bipush 32, 2) := eX11_cover_76q.2.2.2.2.2.2.2
theorem eX11_cover_89q : (decode cX11_cover 89 = .ok (.if_icmp .ge 36, 3)) ∧ (decode cX11_cover 92 = .ok (.iload_n 2, 1)) ∧ (decode cX11_cover 93 = .ok (.ifCond .eq 32, 3)) ∧ (decode cX11_cover 96 = .ok (.aload_n 0, 1)) ∧ (decode cX11_cover 97 = .ok (.iload_n 3, 1)) ∧ (decode cX11_cover 98 = .ok (.iload_n 1, 1)) ∧ (decode cX11_cover 99 = .ok (.invokevirtual 446, 3)) ∧ (decode cX11_cover 102 = .ok (.iload_n 2, 1)) := by decide +kernel
theorem dX11_cover_89 : decode cX11_cover 89 = .ok (.if_icmp .ge 36, 3) := eX11_cover_89q.1
theorem dX11_cover_92 : decode cX11_cover 92 = .ok (.iload_n 2, 1) := eX11_cover_89q.2.1
theorem dX11_cover_93 : decode cX11_cover 93 = .ok (.ifCond .eq 32, 3) := eX11_cover_89q.2.2.1
theorem dX11_cover_96 : decode cX11_cover 96 = .ok (.aload_n 0, 1) := eX11_cover_89q.2.2.2.1
theorem dX11_cover_97 : decode cX11_cover 97 = .ok (.iload_n 3, 1) := eX11_cover_89q.2.2.2.2.1
theorem dX11_cover_98 : decode cX11_cover 98 = .ok (.iload_n 1, 1) := eX11_cover_89q.2.2.2.2.2.1
theorem dX11_cover_99 : decode cX11_cover 99 = .ok (.invokevirtual 446, 3) := eX11_cover_89q.2.2.2.2.2.2.1
theorem dX11_cover_102 : decode cX11_cover 102 = .ok (.iload_n 2, 1) := eX11_cover_89q.2.2.2.2.2.2.2
theorem eX11_cover_103q : (decode cX11_cover 103 = .ok (.aload_n 0, 1)) ∧ (decode cX11_cover 104 = .ok (.getfield 440, 3)) ∧ (decode cX11_cover 107 = .ok (.iconst (-1), 1)) ∧ (decode cX11_cover 108 = .ok (.ixor, 1)) ∧ (decode cX11_cover 109 = .ok (.iand, 1)) ∧ (decode cX11_cover 110 = .ok (.istore_n 2, 1)) ∧ (decode cX11_cover 111 = .ok (.iload_n 2, 1)) ∧ (decode cX11_cover 112 = .ok (.ifCond .ne 7, 3)) := by decide +kernel
theorem dX11_cover_103 : decode cX11_cover 103 = .ok (.aload_n 0, 1) := eX11_cover_103q.1
theorem dX11_cover_104 : decode cX11_cover 104 = .ok (.getfield 440, 3) := eX11_cover_103q.2.1
theorem dX11_cover_107 : decode cX11_cover 107 = .ok (.iconst (-1), 1) := eX11_cover_103q.2.2.1
theorem dX11_cover_108 : decode cX11_cover 108 = .ok (.ixor, 1) := eX11_cover_103q.2.2.2.1
theorem dX11_cover_109 : decode cX11_cover 109 = .ok (.iand, 1) := eX11_cover_103q.2.2.2.2.1
theorem dX11_cover_110 : decode cX11_cover 110 = .ok (.istore_n 2, 1) := eX11_cover_103q.2.2.2.2.2.1
theorem dX11_cover_111 : decode cX11_cover 111 = .ok (.iload_n 2, 1) := eX11_cover_103q.2.2.2.2.2.2.1
theorem dX11_cover_112 : decode cX11_cover 112 = .ok (.ifCond .ne 7, 3) := eX11_cover_103q.2.2.2.2.2.2.2
theorem eX11_cover_115q : (decode cX11_cover 115 = .ok (.iload_n 3, 1)) ∧ (decode cX11_cover 116 = .ok (.iconst 1, 1)) ∧ (decode cX11_cover 117 = .ok (.iadd, 1)) ∧ (decode cX11_cover 118 = .ok (.ireturn, 1)) ∧ (decode cX11_cover 119 = .ok (.iinc 3 1, 3)) ∧ (decode cX11_cover 122 = .ok (.goto (-36), 3)) ∧ (decode cX11_cover 125 = .ok (.iload_n 2, 1)) ∧ (decode cX11_cover 126 = .ok (.ifCond .ne 7, 3)) := by decide +kernel
theorem dX11_cover_115 : decode cX11_cover 115 = .ok (.iload_n 3, 1) := eX11_cover_115q.1
theorem dX11_cover_116 : decode cX11_cover 116 = .ok (.iconst 1, 1) := eX11_cover_115q.2.1
theorem dX11_cover_117 : decode cX11_cover 117 = .ok (.iadd, 1) := eX11_cover_115q.2.2.1
theorem dX11_cover_118 : decode cX11_cover 118 = .ok (.ireturn, 1) := eX11_cover_115q.2.2.2.1
theorem dX11_cover_119 : decode cX11_cover 119 = .ok (.iinc 3 1, 3) := eX11_cover_115q.2.2.2.2.1
theorem dX11_cover_122 : decode cX11_cover 122 = .ok (.goto (-36), 3) := eX11_cover_115q.2.2.2.2.2.1
theorem dX11_cover_125 : decode cX11_cover 125 = .ok (.iload_n 2, 1) := eX11_cover_115q.2.2.2.2.2.2.1
theorem dX11_cover_126 : decode cX11_cover 126 = .ok (.ifCond .ne 7, 3) := eX11_cover_115q.2.2.2.2.2.2.2
theorem eX11_cover_129q : (decode cX11_cover 129 = .ok (.iconst 0, 1)) ∧ (decode cX11_cover 130 = .ok (.goto 4, 3)) ∧ (decode cX11_cover 133 = .ok (.iconst (-1), 1)) ∧ (decode cX11_cover 134 = .ok (.ireturn, 1)) := by decide +kernel
theorem dX11_cover_129 : decode cX11_cover 129 = .ok (.iconst 0, 1) := eX11_cover_129q.1
theorem dX11_cover_130 : decode cX11_cover 130 = .ok (.goto 4, 3) := eX11_cover_129q.2.1
theorem dX11_cover_133 : decode cX11_cover 133 = .ok (.iconst (-1), 1) := eX11_cover_129q.2.2.1
theorem dX11_cover_134 : decode cX11_cover 134 = .ok (.ireturn, 1) := eX11_cover_129q.2.2.2
set_option maxRecDepth 20000 in
theorem ggX11_note_X11_isPort : GoodIn wsX11_note wsX11_isPort := goodIn_r _ [10, 11, 12, 9, 13] rfl (by decide +kernel)
set_option maxRecDepth 20000 in
theorem gX11_note_X11_isPort : GoodIn wsX11_note (va_wsS RX11 368 yX11_isPort wsX11_isPort) := goodIn_app (goodIn_r _ [7, 8, 9] rfl (by decide +kernel)) ggX11_note_X11_isPort
set_option maxRecDepth 20000 in
theorem ggX11_note_X11_isGoal : GoodIn wsX11_note wsX11_isGoal := by
  have h := goodIn_app (goodIn_r (big := wsX11_note) (.code yX11_isGoal cX11_isGoal 2 (some .boolean) :: ([.methodLink RX11 304 yX11_goals, .instanceMethod yX11_goals, .selects RX11 yX11_goals yX11_goals, .initialized RX11, .code yX11_goals cX11_goals 1 (some .int), .fieldLink RX11 34 "PathProberModel" "told" "[I", .methodLink RX11 359 yX11_isIn, .static yX11_isIn, .code yX11_isIn cX11_isIn 3 (some .boolean)]) : List Cond) [17, 18, 19, 20, 9, 21, 22, 11, 12, 13] rfl (by decide +kernel)) (goodIn_few (big := wsX11_note) (fun _ h9 => List.mem_cons_of_mem _ (List.mem_append_right _ h9)) gb_0)
  exact h
set_option maxRecDepth 20000 in
theorem gX11_note_X11_isGoal : GoodIn wsX11_note (wsV RX11 371 RX11 yX11_isGoal wsX11_isGoal) := goodIn_app (goodIn_r _ [14, 15, 16, 9] rfl (by decide +kernel)) ggX11_note_X11_isGoal
set_option maxRecDepth 20000 in
theorem ggX11_note_X11_isHop : GoodIn wsX11_note wsX11_isHop := goodIn_r _ [25, 11, 12, 9, 13] rfl (by decide +kernel)
set_option maxRecDepth 20000 in
theorem gX11_note_X11_isHop : GoodIn wsX11_note (va_wsS RX11 374 yX11_isHop wsX11_isHop) := goodIn_app (goodIn_r _ [23, 24, 9] rfl (by decide +kernel)) ggX11_note_X11_isHop
set_option maxRecDepth 20000 in
theorem ggX11_note_X11_isAddress : GoodIn wsX11_note wsX11_isAddress := by
  have h := goodIn_app (goodIn_r (big := wsX11_note) (.code yX11_isAddress cX11_isAddress 2 (some .boolean) :: ([.methodLink RX11 266 yX11_links, .instanceMethod yX11_links, .selects RX11 yX11_links yX11_links, .initialized RX11, .code yX11_links cX11_links 1 (some .int), .fieldLink RX11 34 "PathProberModel" "told" "[I", .methodLink RX11 359 yX11_isIn, .static yX11_isIn, .code yX11_isIn cX11_isIn 3 (some .boolean), .methodLink RX11 263 yX11_routers, .instanceMethod yX11_routers, .selects RX11 yX11_routers yX11_routers, .code yX11_routers cX11_routers 1 (some .int)]) : List Cond) [29, 30, 31, 32, 9, 33, 22, 11, 12, 13, 34, 35, 36, 37] rfl (by decide +kernel)) (goodIn_few (big := wsX11_note) (fun _ h9 => List.mem_cons_of_mem _ (List.mem_append_right _ h9)) gb_0)
  exact h
set_option maxRecDepth 20000 in
theorem gX11_note_X11_isAddress : GoodIn wsX11_note (wsV RX11 362 RX11 yX11_isAddress wsX11_isAddress) := goodIn_app (goodIn_r _ [26, 27, 28, 9] rfl (by decide +kernel)) ggX11_note_X11_isAddress
set_option maxRecDepth 20000 in
theorem ggX11_note_X11_refuse : GoodIn wsX11_note wsX11_refuse := by
  have h := goodIn_app (goodIn_r (big := wsX11_note) (.code yX11_refuse cX11_refuse 2 (some .int) :: ([.fieldLink RX11 63 "PathProberModel" "status" "[I"]) : List Cond) [41, 42] rfl (by decide +kernel)) (goodIn_few (big := wsX11_note) (fun _ h9 => List.mem_cons_of_mem _ (List.mem_append_right _ h9)) gb_0)
  exact h
set_option maxRecDepth 20000 in
theorem gX11_note_X11_refuse : GoodIn wsX11_note (wsV RX11 377 RX11 yX11_refuse wsX11_refuse) := goodIn_app (goodIn_r _ [38, 39, 40, 9] rfl (by decide +kernel)) ggX11_note_X11_refuse
theorem eX11_note_0q : (decode cX11_note 0 = .ok (.aload_n 0, 1)) ∧ (decode cX11_note 1 = .ok (.iconst 0, 1)) ∧ (decode cX11_note 2 = .ok (.putfield 142, 3)) ∧ (decode cX11_note 5 = .ok (.aload_n 0, 1)) ∧ (decode cX11_note 6 = .ok (.getfield 253, 3)) ∧ (decode cX11_note 9 = .ok (.bipush 8, 2)) ∧ (decode cX11_note 11 = .ok (.if_icmp .eq 34, 3)) ∧ (decode cX11_note 14 = .ok (.iload_n 1, 1)) := by decide +kernel
theorem dX11_note_0 : decode cX11_note 0 = .ok (.aload_n 0, 1) := eX11_note_0q.1
theorem dX11_note_1 : decode cX11_note 1 = .ok (.iconst 0, 1) := eX11_note_0q.2.1
theorem dX11_note_2 : decode cX11_note 2 = .ok (.putfield 142, 3) := eX11_note_0q.2.2.1
theorem dX11_note_5 : decode cX11_note 5 = .ok (.aload_n 0, 1) := eX11_note_0q.2.2.2.1
theorem dX11_note_6 : decode cX11_note 6 = .ok (.getfield 253, 3) := eX11_note_0q.2.2.2.2.1
theorem dX11_note_9 : decode cX11_note 9 = .ok (.bipush 8, 2) := eX11_note_0q.2.2.2.2.2.1
theorem dX11_note_11 : decode cX11_note 11 = .ok (.if_icmp .eq 34, 3) := eX11_note_0q.2.2.2.2.2.2.1
theorem dX11_note_14 : decode cX11_note 14 = .ok (.iload_n 1, 1) := eX11_note_0q.2.2.2.2.2.2.2
theorem eX11_note_15q : (decode cX11_note 15 = .ok (.invokestatic 368, 3)) ∧ (decode cX11_note 18 = .ok (.ifCond .eq 27, 3)) ∧ (decode cX11_note 21 = .ok (.aload_n 0, 1)) ∧ (decode cX11_note 22 = .ok (.iload_n 2, 1)) ∧ (decode cX11_note 23 = .ok (.invokevirtual 371, 3)) ∧ (decode cX11_note 26 = .ok (.ifCond .eq 19, 3)) ∧ (decode cX11_note 29 = .ok (.iload_n 3, 1)) ∧ (decode cX11_note 30 = .ok (.invokestatic 374, 3)) := by decide +kernel
theorem dX11_note_15 : decode cX11_note 15 = .ok (.invokestatic 368, 3) := eX11_note_15q.1
theorem dX11_note_18 : decode cX11_note 18 = .ok (.ifCond .eq 27, 3) := eX11_note_15q.2.1
theorem dX11_note_21 : decode cX11_note 21 = .ok (.aload_n 0, 1) := eX11_note_15q.2.2.1
theorem dX11_note_22 : decode cX11_note 22 = .ok (.iload_n 2, 1) := eX11_note_15q.2.2.2.1
theorem dX11_note_23 : decode cX11_note 23 = .ok (.invokevirtual 371, 3) := eX11_note_15q.2.2.2.2.1
theorem dX11_note_26 : decode cX11_note 26 = .ok (.ifCond .eq 19, 3) := eX11_note_15q.2.2.2.2.2.1
theorem dX11_note_29 : decode cX11_note 29 = .ok (.iload_n 3, 1) := eX11_note_15q.2.2.2.2.2.2.1
theorem dX11_note_30 : decode cX11_note 30 = .ok (.invokestatic 374, 3) := eX11_note_15q.2.2.2.2.2.2.2
theorem eX11_note_33q : (decode cX11_note 33 = .ok (.ifCond .eq 12, 3)) ∧ (decode cX11_note 36 = .ok (.aload_n 0, 1)) ∧ (decode cX11_note 37 = .ok (.iload 4, 2)) ∧ (decode cX11_note 39 = .ok (.invokevirtual 362, 3)) ∧ (decode cX11_note 42 = .ok (.ifCond .ne 9, 3)) ∧ (decode cX11_note 45 = .ok (.aload_n 0, 1)) ∧ (decode cX11_note 46 = .ok (.iconst 2, 1)) ∧ (decode cX11_note 47 = .ok (.invokevirtual 377, 3)) := by decide +kernel
theorem dX11_note_33 : decode cX11_note 33 = .ok (.ifCond .eq 12, 3) := eX11_note_33q.1
theorem dX11_note_36 : decode cX11_note 36 = .ok (.aload_n 0, 1) := eX11_note_33q.2.1
theorem dX11_note_37 : decode cX11_note 37 = .ok (.iload 4, 2) := eX11_note_33q.2.2.1
theorem dX11_note_39 : decode cX11_note 39 = .ok (.invokevirtual 362, 3) := eX11_note_33q.2.2.2.1
theorem dX11_note_42 : decode cX11_note 42 = .ok (.ifCond .ne 9, 3) := eX11_note_33q.2.2.2.2.1
theorem dX11_note_45 : decode cX11_note 45 = .ok (.aload_n 0, 1) := eX11_note_33q.2.2.2.2.2.1
theorem dX11_note_46 : decode cX11_note 46 = .ok (.iconst 2, 1) := eX11_note_33q.2.2.2.2.2.2.1
theorem dX11_note_47 : decode cX11_note 47 = .ok (.invokevirtual 377, 3) := eX11_note_33q.2.2.2.2.2.2.2
theorem eX11_note_50q : (decode cX11_note 50 = .ok (.ireturn, 1)) ∧ (decode cX11_note 51 = .ok (.aload_n 0, 1)) ∧ (decode cX11_note 52 = .ok (.getfield 103, 3)) ∧ (decode cX11_note 55 = .ok (.aload_n 0, 1)) ∧ (decode cX11_note 56 = .ok (.getfield 253, 3)) ∧ (decode cX11_note 59 = .ok (.iload_n 1, 1)) ∧ (decode cX11_note 60 = .ok (.iastore, 1)) ∧ (decode cX11_note 61 = .ok (.aload_n 0, 1)) := by decide +kernel
theorem dX11_note_50 : decode cX11_note 50 = .ok (.ireturn, 1) := eX11_note_50q.1
theorem dX11_note_51 : decode cX11_note 51 = .ok (.aload_n 0, 1) := eX11_note_50q.2.1
theorem dX11_note_52 : decode cX11_note 52 = .ok (.getfield 103, 3) := eX11_note_50q.2.2.1
theorem dX11_note_55 : decode cX11_note 55 = .ok (.aload_n 0, 1) := eX11_note_50q.2.2.2.1
theorem dX11_note_56 : decode cX11_note 56 = .ok (.getfield 253, 3) := eX11_note_50q.2.2.2.2.1
theorem dX11_note_59 : decode cX11_note 59 = .ok (.iload_n 1, 1) := eX11_note_50q.2.2.2.2.2.1
theorem dX11_note_60 : decode cX11_note 60 = .ok (.iastore, 1) := eX11_note_50q.2.2.2.2.2.2.1
theorem dX11_note_61 : decode cX11_note 61 = .ok (.aload_n 0, 1) := eX11_note_50q.2.2.2.2.2.2.2
theorem eX11_note_62q : (decode cX11_note 62 = .ok (.getfield 106, 3)) ∧ (decode cX11_note 65 = .ok (.aload_n 0, 1)) ∧ (decode cX11_note 66 = .ok (.getfield 253, 3)) ∧ (decode cX11_note 69 = .ok (.iload_n 2, 1)) ∧ (decode cX11_note 70 = .ok (.iastore, 1)) ∧ (decode cX11_note 71 = .ok (.aload_n 0, 1)) ∧ (decode cX11_note 72 = .ok (.getfield 109, 3)) ∧ (decode cX11_note 75 = .ok (.aload_n 0, 1)) := by decide +kernel
theorem dX11_note_62 : decode cX11_note 62 = .ok (.getfield 106, 3) := eX11_note_62q.1
theorem dX11_note_65 : decode cX11_note 65 = .ok (.aload_n 0, 1) := eX11_note_62q.2.1
theorem dX11_note_66 : decode cX11_note 66 = .ok (.getfield 253, 3) := eX11_note_62q.2.2.1
theorem dX11_note_69 : decode cX11_note 69 = .ok (.iload_n 2, 1) := eX11_note_62q.2.2.2.1
theorem dX11_note_70 : decode cX11_note 70 = .ok (.iastore, 1) := eX11_note_62q.2.2.2.2.1
theorem dX11_note_71 : decode cX11_note 71 = .ok (.aload_n 0, 1) := eX11_note_62q.2.2.2.2.2.1
theorem dX11_note_72 : decode cX11_note 72 = .ok (.getfield 109, 3) := eX11_note_62q.2.2.2.2.2.2.1
theorem dX11_note_75 : decode cX11_note 75 = .ok (.aload_n 0, 1) := eX11_note_62q.2.2.2.2.2.2.2
theorem eX11_note_76q : (decode cX11_note 76 = .ok (.getfield 253, 3)) ∧ (decode cX11_note 79 = .ok (.iload_n 3, 1)) ∧ (decode cX11_note 80 = .ok (.iastore, 1)) ∧ (decode cX11_note 81 = .ok (.aload_n 0, 1)) ∧ (decode cX11_note 82 = .ok (.getfield 112, 3)) ∧ (decode cX11_note 85 = .ok (.aload_n 0, 1)) ∧ (decode cX11_note 86 = .ok (.getfield 253, 3)) ∧ (decode cX11_note 89 = .ok (.iload 4, 2)) := by decide +kernel
theorem dX11_note_76 : decode cX11_note 76 = .ok (.getfield 253, 3) := eX11_note_76q.1
theorem dX11_note_79 : decode cX11_note 79 = .ok (.iload_n 3, 1) := eX11_note_76q.2.1
theorem dX11_note_80 : decode cX11_note 80 = .ok (.iastore, 1) := eX11_note_76q.2.2.1
theorem dX11_note_81 : decode cX11_note 81 = .ok (.aload_n 0, 1) := eX11_note_76q.2.2.2.1
theorem dX11_note_82 : decode cX11_note 82 = .ok (.getfield 112, 3) := eX11_note_76q.2.2.2.2.1
theorem dX11_note_85 : decode cX11_note 85 = .ok (.aload_n 0, 1) := eX11_note_76q.2.2.2.2.2.1
theorem dX11_note_86 : decode cX11_note 86 = .ok (.getfield 253, 3) := eX11_note_76q.2.2.2.2.2.2.1
theorem dX11_note_89 : decode cX11_note 89 = .ok (.iload 4, 2) := eX11_note_76q.2.2.2.2.2.2.2
theorem eX11_note_91q : (decode cX11_note 91 = .ok (.iastore, 1)) ∧ (decode cX11_note 92 = .ok (.aload_n 0, 1)) ∧ (decode cX11_note 93 = .ok (.dup, 1)) ∧ (decode cX11_note 94 = .ok (.getfield 253, 3)) ∧ (decode cX11_note 97 = .ok (.iconst 1, 1)) ∧ (decode cX11_note 98 = .ok (.iadd, 1)) ∧ (decode cX11_note 99 = .ok (.putfield 253, 3)) ∧ (decode cX11_note 102 = .ok (.aload_n 0, 1)) := by decide +kernel
theorem dX11_note_91 : decode cX11_note 91 = .ok (.iastore, 1) := eX11_note_91q.1
theorem dX11_note_92 : decode cX11_note 92 = .ok (.aload_n 0, 1) := eX11_note_91q.2.1
theorem dX11_note_93 : decode cX11_note 93 = .ok (.dup, 1) := eX11_note_91q.2.2.1
theorem dX11_note_94 : decode cX11_note 94 = .ok (.getfield 253, 3) := eX11_note_91q.2.2.2.1
theorem dX11_note_97 : decode cX11_note 97 = .ok (.iconst 1, 1) := eX11_note_91q.2.2.2.2.1
theorem dX11_note_98 : decode cX11_note 98 = .ok (.iadd, 1) := eX11_note_91q.2.2.2.2.2.1
theorem dX11_note_99 : decode cX11_note 99 = .ok (.putfield 253, 3) := eX11_note_91q.2.2.2.2.2.2.1
theorem dX11_note_102 : decode cX11_note 102 = .ok (.aload_n 0, 1) := eX11_note_91q.2.2.2.2.2.2.2
theorem dX11_note_103 : decode cX11_note 103 = .ok (.getfield 253, 3) := by decide +kernel
theorem dX11_note_106 : decode cX11_note 106 = .ok (.ireturn, 1) := by decide +kernel
theorem eX11_forget_0q : (decode cX11_forget 0 = .ok (.aload_n 0, 1)) ∧ (decode cX11_forget 1 = .ok (.iconst 0, 1)) ∧ (decode cX11_forget 2 = .ok (.putfield 142, 3)) ∧ (decode cX11_forget 5 = .ok (.aload_n 0, 1)) ∧ (decode cX11_forget 6 = .ok (.iconst 0, 1)) ∧ (decode cX11_forget 7 = .ok (.putfield 253, 3)) ∧ (decode cX11_forget 10 = .ok (.return_, 1)) := by decide +kernel
theorem dX11_forget_0 : decode cX11_forget 0 = .ok (.aload_n 0, 1) := eX11_forget_0q.1
theorem dX11_forget_1 : decode cX11_forget 1 = .ok (.iconst 0, 1) := eX11_forget_0q.2.1
theorem dX11_forget_2 : decode cX11_forget 2 = .ok (.putfield 142, 3) := eX11_forget_0q.2.2.1
theorem dX11_forget_5 : decode cX11_forget 5 = .ok (.aload_n 0, 1) := eX11_forget_0q.2.2.2.1
theorem dX11_forget_6 : decode cX11_forget 6 = .ok (.iconst 0, 1) := eX11_forget_0q.2.2.2.2.1
theorem dX11_forget_7 : decode cX11_forget 7 = .ok (.putfield 253, 3) := eX11_forget_0q.2.2.2.2.2.1
theorem dX11_forget_10 : decode cX11_forget 10 = .ok (.return_, 1) := eX11_forget_0q.2.2.2.2.2.2
set_option maxRecDepth 20000 in
theorem ggX11_fits_X11_isRouter : GoodIn wsX11_fits wsX11_isRouter := by
  have h := goodIn_app (goodIn_r (big := wsX11_fits) (.code yX11_isRouter cX11_isRouter 2 (some .boolean) :: ([.methodLink RX11 263 yX11_routers, .instanceMethod yX11_routers, .selects RX11 yX11_routers yX11_routers, .initialized RX11, .code yX11_routers cX11_routers 1 (some .int), .fieldLink RX11 34 "PathProberModel" "told" "[I", .methodLink RX11 359 yX11_isIn, .static yX11_isIn, .code yX11_isIn cX11_isIn 3 (some .boolean)]) : List Cond) [7, 8, 9, 10, 6, 11, 12, 13, 14, 15] rfl (by decide +kernel)) (goodIn_few (big := wsX11_fits) (fun _ h9 => List.mem_cons_of_mem _ (List.mem_append_right _ h9)) gb_0)
  exact h
set_option maxRecDepth 20000 in
theorem gX11_fits_X11_isRouter : GoodIn wsX11_fits (wsV RX11 398 RX11 yX11_isRouter wsX11_isRouter) := goodIn_app (goodIn_r _ [3, 4, 5, 6] rfl (by decide +kernel)) ggX11_fits_X11_isRouter
set_option maxRecDepth 20000 in
theorem ggX11_fits_X11_isIn : GoodIn wsX11_fits wsX11_isIn := goodIn_r _ [15] rfl (by decide +kernel)
set_option maxRecDepth 20000 in
theorem gX11_fits_X11_isIn : GoodIn wsX11_fits (va_wsS RX11 359 yX11_isIn wsX11_isIn) := goodIn_app (goodIn_r _ [13, 14, 6] rfl (by decide +kernel)) ggX11_fits_X11_isIn
set_option maxRecDepth 20000 in
theorem ggX11_fits_X11_fail : GoodIn wsX11_fits wsX11_fail := by
  have h := goodIn_app (goodIn_r (big := wsX11_fits) (.code yX11_fail cX11_fail 2 (some .int) :: ([.fieldLink RX11 142 "PathProberModel" "code" "I"]) : List Cond) [19, 1] rfl (by decide +kernel)) (goodIn_few (big := wsX11_fits) (fun _ h9 => List.mem_cons_of_mem _ (List.mem_append_right _ h9)) gb_0)
  exact h
set_option maxRecDepth 20000 in
theorem gX11_fits_X11_fail : GoodIn wsX11_fits (wsV RX11 240 RX11 yX11_fail wsX11_fail) := goodIn_app (goodIn_r _ [16, 17, 18, 6] rfl (by decide +kernel)) ggX11_fits_X11_fail
set_option maxRecDepth 20000 in
theorem ggX11_fits_X11_tellFits : GoodIn wsX11_fits wsX11_tellFits := by
  have h := goodIn_app (goodIn_r (big := wsX11_fits) (.code yX11_tellFits cX11_tellFits 3 none :: (wsX11_tellFits_r1 ++ (wsX11_tellFits_r2 ++ wsX11_tellFits_r3)) : List Cond) [23, 24, 25, 26, 2, 27, 28, 29, 6, 30, 31, 32, 33, 34, 35, 36, 37, 38, 39, 40, 41, 42, 43, 44, 45, 46, 47, 48, 49, 50, 51, 52, 53, 54, 55, 56, 57, 58, 59, 60, 12, 61, 62, 63, 64, 65, 66, 67, 68, 69, 70, 71, 72, 73, 74, 75] rfl (by decide +kernel)) (goodIn_few (big := wsX11_fits) (fun _ h9 => List.mem_cons_of_mem _ (List.mem_append_right _ h9)) gb_0)
  exact h
set_option maxRecDepth 20000 in
theorem gX11_fits_X11_tellFits : GoodIn wsX11_fits (wsV RX11 454 RX11 yX11_tellFits wsX11_tellFits) := goodIn_app (goodIn_r _ [20, 21, 22, 6] rfl (by decide +kernel)) ggX11_fits_X11_tellFits
theorem eX11_fits_0q : (decode cX11_fits 0 = .ok (.aload_n 0, 1)) ∧ (decode cX11_fits 1 = .ok (.iconst 0, 1)) ∧ (decode cX11_fits 2 = .ok (.putfield 142, 3)) ∧ (decode cX11_fits 5 = .ok (.aload_n 0, 1)) ∧ (decode cX11_fits 6 = .ok (.iload_n 1, 1)) ∧ (decode cX11_fits 7 = .ok (.invokevirtual 398, 3)) ∧ (decode cX11_fits 10 = .ok (.ifCond .eq 12, 3)) ∧ (decode cX11_fits 13 = .ok (.iload_n 2, 1)) := by decide +kernel
theorem dX11_fits_0 : decode cX11_fits 0 = .ok (.aload_n 0, 1) := eX11_fits_0q.1
theorem dX11_fits_1 : decode cX11_fits 1 = .ok (.iconst 0, 1) := eX11_fits_0q.2.1
theorem dX11_fits_2 : decode cX11_fits 2 = .ok (.putfield 142, 3) := eX11_fits_0q.2.2.1
theorem dX11_fits_5 : decode cX11_fits 5 = .ok (.aload_n 0, 1) := eX11_fits_0q.2.2.2.1
theorem dX11_fits_6 : decode cX11_fits 6 = .ok (.iload_n 1, 1) := eX11_fits_0q.2.2.2.2.1
theorem dX11_fits_7 : decode cX11_fits 7 = .ok (.invokevirtual 398, 3) := eX11_fits_0q.2.2.2.2.2.1
theorem dX11_fits_10 : decode cX11_fits 10 = .ok (.ifCond .eq 12, 3) := eX11_fits_0q.2.2.2.2.2.2.1
theorem dX11_fits_13 : decode cX11_fits 13 = .ok (.iload_n 2, 1) := eX11_fits_0q.2.2.2.2.2.2.2
theorem eX11_fits_14q : (decode cX11_fits 14 = .ok (.iconst 0, 1)) ∧ (decode cX11_fits 15 = .ok (.iconst 1, 1)) ∧ (decode cX11_fits 16 = .ok (.invokestatic 359, 3)) ∧ (decode cX11_fits 19 = .ok (.ifCond .ne 9, 3)) ∧ (decode cX11_fits 22 = .ok (.aload_n 0, 1)) ∧ (decode cX11_fits 23 = .ok (.iconst 1, 1)) ∧ (decode cX11_fits 24 = .ok (.invokevirtual 240, 3)) ∧ (decode cX11_fits 27 = .ok (.ireturn, 1)) := by decide +kernel
theorem dX11_fits_14 : decode cX11_fits 14 = .ok (.iconst 0, 1) := eX11_fits_14q.1
theorem dX11_fits_15 : decode cX11_fits 15 = .ok (.iconst 1, 1) := eX11_fits_14q.2.1
theorem dX11_fits_16 : decode cX11_fits 16 = .ok (.invokestatic 359, 3) := eX11_fits_14q.2.2.1
theorem dX11_fits_19 : decode cX11_fits 19 = .ok (.ifCond .ne 9, 3) := eX11_fits_14q.2.2.2.1
theorem dX11_fits_22 : decode cX11_fits 22 = .ok (.aload_n 0, 1) := eX11_fits_14q.2.2.2.2.1
theorem dX11_fits_23 : decode cX11_fits 23 = .ok (.iconst 1, 1) := eX11_fits_14q.2.2.2.2.2.1
theorem dX11_fits_24 : decode cX11_fits 24 = .ok (.invokevirtual 240, 3) := eX11_fits_14q.2.2.2.2.2.2.1
theorem dX11_fits_27 : decode cX11_fits 27 = .ok (.ireturn, 1) := eX11_fits_14q.2.2.2.2.2.2.2
theorem eX11_fits_28q : (decode cX11_fits 28 = .ok (.aload_n 0, 1)) ∧ (decode cX11_fits 29 = .ok (.iload_n 1, 1)) ∧ (decode cX11_fits 30 = .ok (.invokevirtual 454, 3)) ∧ (decode cX11_fits 33 = .ok (.iconst 0, 1)) ∧ (decode cX11_fits 34 = .ok (.istore_n 3, 1)) ∧ (decode cX11_fits 35 = .ok (.iconst (-1), 1)) ∧ (decode cX11_fits 36 = .ok (.istore 4, 2)) ∧ (decode cX11_fits 38 = .ok (.iconst 0, 1)) := by decide +kernel
theorem dX11_fits_28 : decode cX11_fits 28 = .ok (.aload_n 0, 1) := eX11_fits_28q.1
theorem dX11_fits_29 : decode cX11_fits 29 = .ok (.iload_n 1, 1) := eX11_fits_28q.2.1
theorem dX11_fits_30 : decode cX11_fits 30 = .ok (.invokevirtual 454, 3) := eX11_fits_28q.2.2.1
theorem dX11_fits_33 : decode cX11_fits 33 = .ok (.iconst 0, 1) := eX11_fits_28q.2.2.2.1
theorem dX11_fits_34 : decode cX11_fits 34 = .ok (.istore_n 3, 1) := eX11_fits_28q.2.2.2.2.1
theorem dX11_fits_35 : decode cX11_fits 35 = .ok (.iconst (-1), 1) := eX11_fits_28q.2.2.2.2.2.1
theorem dX11_fits_36 : decode cX11_fits 36 = .ok (.istore 4, 2) := eX11_fits_28q.2.2.2.2.2.2.1
theorem dX11_fits_38 : decode cX11_fits 38 = .ok (.iconst 0, 1) := eX11_fits_28q.2.2.2.2.2.2.2
theorem eX11_fits_39q : (decode cX11_fits 39 = .ok (.istore 5, 2)) ∧ (decode cX11_fits 41 = .ok (.iload 5, 2)) ∧ (decode cX11_fits 43 = .ok (.bipush 64, 2)) ∧ (decode cX11_fits 45 = .ok (.if_icmp .ge 52, 3)) ∧ (decode cX11_fits 48 = .ok (.aload_n 0, 1)) ∧ (decode cX11_fits 49 = .ok (.getfield 115, 3)) ∧ (decode cX11_fits 52 = .ok (.iload 5, 2)) ∧ (decode cX11_fits 54 = .ok (.baload, 1)) := by decide +kernel
theorem dX11_fits_39 : decode cX11_fits 39 = .ok (.istore 5, 2) := eX11_fits_39q.1
theorem dX11_fits_41 : decode cX11_fits 41 = .ok (.iload 5, 2) := eX11_fits_39q.2.1
theorem dX11_fits_43 : decode cX11_fits 43 = .ok (.bipush 64, 2) := eX11_fits_39q.2.2.1
theorem dX11_fits_45 : decode cX11_fits 45 = .ok (.if_icmp .ge 52, 3) := eX11_fits_39q.2.2.2.1
theorem dX11_fits_48 : decode cX11_fits 48 = .ok (.aload_n 0, 1) := eX11_fits_39q.2.2.2.2.1
theorem dX11_fits_49 : decode cX11_fits 49 = .ok (.getfield 115, 3) := eX11_fits_39q.2.2.2.2.2.1
theorem dX11_fits_52 : decode cX11_fits 52 = .ok (.iload 5, 2) := eX11_fits_39q.2.2.2.2.2.2.1
theorem dX11_fits_54 : decode cX11_fits 54 = .ok (.baload, 1) := eX11_fits_39q.2.2.2.2.2.2.2
theorem eX11_fits_55q : (decode cX11_fits 55 = .ok (.ifCond .eq 14, 3)) ∧ (decode cX11_fits 58 = .ok (.iload 4, 2)) ∧ (decode cX11_fits 60 = .ok (.iconst (-1), 1)) ∧ (decode cX11_fits 61 = .ok (.if_icmp .ne 8, 3)) ∧ (decode cX11_fits 64 = .ok (.iload 5, 2)) ∧ (decode cX11_fits 66 = .ok (.goto 5, 3)) ∧ (decode cX11_fits 69 = .ok (.iload 4, 2)) ∧ (decode cX11_fits 71 = .ok (.istore 4, 2)) := by decide +kernel
theorem dX11_fits_55 : decode cX11_fits 55 = .ok (.ifCond .eq 14, 3) := eX11_fits_55q.1
theorem dX11_fits_58 : decode cX11_fits 58 = .ok (.iload 4, 2) := eX11_fits_55q.2.1
theorem dX11_fits_60 : decode cX11_fits 60 = .ok (.iconst (-1), 1) := eX11_fits_55q.2.2.1
theorem dX11_fits_61 : decode cX11_fits 61 = .ok (.if_icmp .ne 8, 3) := eX11_fits_55q.2.2.2.1
theorem dX11_fits_64 : decode cX11_fits 64 = .ok (.iload 5, 2) := eX11_fits_55q.2.2.2.2.1
theorem dX11_fits_66 : decode cX11_fits 66 = .ok (.goto 5, 3) := eX11_fits_55q.2.2.2.2.2.1
theorem dX11_fits_69 : decode cX11_fits 69 = .ok (.iload 4, 2) := eX11_fits_55q.2.2.2.2.2.2.1
theorem dX11_fits_71 : decode cX11_fits 71 = .ok (.istore 4, 2) := eX11_fits_55q.2.2.2.2.2.2.2
theorem eX11_fits_73q : (decode cX11_fits 73 = .ok (.iload_n 3, 1)) ∧ (decode cX11_fits 74 = .ok (.aload_n 0, 1)) ∧ (decode cX11_fits 75 = .ok (.getfield 115, 3)) ∧ (decode cX11_fits 78 = .ok (.iload 5, 2)) ∧ (decode cX11_fits 80 = .ok (.baload, 1)) ∧ (decode cX11_fits 81 = .ok (.ifCond .eq 7, 3)) ∧ (decode cX11_fits 84 = .ok (.iconst 1, 1)) ∧ (decode cX11_fits 85 = .ok (.goto 4, 3)) := by decide +kernel
theorem dX11_fits_73 : decode cX11_fits 73 = .ok (.iload_n 3, 1) := eX11_fits_73q.1
theorem dX11_fits_74 : decode cX11_fits 74 = .ok (.aload_n 0, 1) := eX11_fits_73q.2.1
theorem dX11_fits_75 : decode cX11_fits 75 = .ok (.getfield 115, 3) := eX11_fits_73q.2.2.1
theorem dX11_fits_78 : decode cX11_fits 78 = .ok (.iload 5, 2) := eX11_fits_73q.2.2.2.1
theorem dX11_fits_80 : decode cX11_fits 80 = .ok (.baload, 1) := eX11_fits_73q.2.2.2.2.1
theorem dX11_fits_81 : decode cX11_fits 81 = .ok (.ifCond .eq 7, 3) := eX11_fits_73q.2.2.2.2.2.1
theorem dX11_fits_84 : decode cX11_fits 84 = .ok (.iconst 1, 1) := eX11_fits_73q.2.2.2.2.2.2.1
theorem dX11_fits_85 : decode cX11_fits 85 = .ok (.goto 4, 3) := eX11_fits_73q.2.2.2.2.2.2.2
theorem eX11_fits_88q : (decode cX11_fits 88 = .ok (.iconst 0, 1)) ∧ (decode cX11_fits 89 = .ok (.iadd, 1)) ∧ (decode cX11_fits 90 = .ok (.istore_n 3, 1)) ∧ (decode cX11_fits 91 = .ok (.iinc 5 1, 3)) ∧ (decode cX11_fits 94 = .ok (.goto (-53), 3)) ∧ (decode cX11_fits 97 = .ok (.iload_n 2, 1)) ∧ (decode cX11_fits 98 = .ok (.ifCond .ne 7, 3)) ∧ (decode cX11_fits 101 = .ok (.iload_n 3, 1)) := by decide +kernel
theorem dX11_fits_88 : decode cX11_fits 88 = .ok (.iconst 0, 1) := eX11_fits_88q.1
theorem dX11_fits_89 : decode cX11_fits 89 = .ok (.iadd, 1) := eX11_fits_88q.2.1
theorem dX11_fits_90 : decode cX11_fits 90 = .ok (.istore_n 3, 1) := eX11_fits_88q.2.2.1
theorem dX11_fits_91 : decode cX11_fits 91 = .ok (.iinc 5 1, 3) := eX11_fits_88q.2.2.2.1
theorem dX11_fits_94 : decode cX11_fits 94 = .ok (.goto (-53), 3) := eX11_fits_88q.2.2.2.2.1
theorem dX11_fits_97 : decode cX11_fits 97 = .ok (.iload_n 2, 1) := eX11_fits_88q.2.2.2.2.2.1
theorem dX11_fits_98 : decode cX11_fits 98 = .ok (.ifCond .ne 7, 3) := eX11_fits_88q.2.2.2.2.2.2.1
theorem dX11_fits_101 : decode cX11_fits 101 = .ok (.iload_n 3, 1) := eX11_fits_88q.2.2.2.2.2.2.2
theorem eX11_fits_102q : (decode cX11_fits 102 = .ok (.goto 5, 3)) ∧ (decode cX11_fits 105 = .ok (.iload 4, 2)) ∧ (decode cX11_fits 107 = .ok (.ireturn, 1)) := by decide +kernel
theorem dX11_fits_102 : decode cX11_fits 102 = .ok (.goto 5, 3) := eX11_fits_102q.1
theorem dX11_fits_105 : decode cX11_fits 105 = .ok (.iload 4, 2) := eX11_fits_102q.2.1
theorem dX11_fits_107 : decode cX11_fits 107 = .ok (.ireturn, 1) := eX11_fits_102q.2.2
set_option maxRecDepth 20000 in
theorem ggX11_look_X11_isRouter : GoodIn wsX11_look wsX11_isRouter := by
  have h := goodIn_app (goodIn_r (big := wsX11_look) (.code yX11_isRouter cX11_isRouter 2 (some .boolean) :: ([.methodLink RX11 263 yX11_routers, .instanceMethod yX11_routers, .selects RX11 yX11_routers yX11_routers, .initialized RX11, .code yX11_routers cX11_routers 1 (some .int), .fieldLink RX11 34 "PathProberModel" "told" "[I", .methodLink RX11 359 yX11_isIn, .static yX11_isIn, .code yX11_isIn cX11_isIn 3 (some .boolean)]) : List Cond) [6, 7, 8, 9, 5, 10, 11, 12, 13, 14] rfl (by decide +kernel)) (goodIn_few (big := wsX11_look) (fun _ h9 => List.mem_cons_of_mem _ (List.mem_append_right _ h9)) gb_0)
  exact h
set_option maxRecDepth 20000 in
theorem gX11_look_X11_isRouter : GoodIn wsX11_look (wsV RX11 398 RX11 yX11_isRouter wsX11_isRouter) := goodIn_app (goodIn_r _ [2, 3, 4, 5] rfl (by decide +kernel)) ggX11_look_X11_isRouter
set_option maxRecDepth 20000 in
theorem ggX11_look_X11_isGoal : GoodIn wsX11_look wsX11_isGoal := by
  have h := goodIn_app (goodIn_r (big := wsX11_look) (.code yX11_isGoal cX11_isGoal 2 (some .boolean) :: ([.methodLink RX11 304 yX11_goals, .instanceMethod yX11_goals, .selects RX11 yX11_goals yX11_goals, .initialized RX11, .code yX11_goals cX11_goals 1 (some .int), .fieldLink RX11 34 "PathProberModel" "told" "[I", .methodLink RX11 359 yX11_isIn, .static yX11_isIn, .code yX11_isIn cX11_isIn 3 (some .boolean)]) : List Cond) [18, 19, 20, 21, 5, 22, 11, 12, 13, 14] rfl (by decide +kernel)) (goodIn_few (big := wsX11_look) (fun _ h9 => List.mem_cons_of_mem _ (List.mem_append_right _ h9)) gb_0)
  exact h
set_option maxRecDepth 20000 in
theorem gX11_look_X11_isGoal : GoodIn wsX11_look (wsV RX11 371 RX11 yX11_isGoal wsX11_isGoal) := goodIn_app (goodIn_r _ [15, 16, 17, 5] rfl (by decide +kernel)) ggX11_look_X11_isGoal
set_option maxRecDepth 20000 in
theorem ggX11_look_X11_isIn : GoodIn wsX11_look wsX11_isIn := goodIn_r _ [14] rfl (by decide +kernel)
set_option maxRecDepth 20000 in
theorem gX11_look_X11_isIn : GoodIn wsX11_look (va_wsS RX11 359 yX11_isIn wsX11_isIn) := goodIn_app (goodIn_r _ [12, 13, 5] rfl (by decide +kernel)) ggX11_look_X11_isIn
set_option maxRecDepth 20000 in
theorem ggX11_look_X11_fail : GoodIn wsX11_look wsX11_fail := by
  have h := goodIn_app (goodIn_r (big := wsX11_look) (.code yX11_fail cX11_fail 2 (some .int) :: ([.fieldLink RX11 142 "PathProberModel" "code" "I"]) : List Cond) [26, 1] rfl (by decide +kernel)) (goodIn_few (big := wsX11_look) (fun _ h9 => List.mem_cons_of_mem _ (List.mem_append_right _ h9)) gb_0)
  exact h
set_option maxRecDepth 20000 in
theorem gX11_look_X11_fail : GoodIn wsX11_look (wsV RX11 240 RX11 yX11_fail wsX11_fail) := goodIn_app (goodIn_r _ [23, 24, 25, 5] rfl (by decide +kernel)) ggX11_look_X11_fail
set_option maxRecDepth 20000 in
theorem ggX11_look_X11_tellFits : GoodIn wsX11_look wsX11_tellFits := by
  have h := goodIn_app (goodIn_r (big := wsX11_look) (.code yX11_tellFits cX11_tellFits 3 none :: (wsX11_tellFits_r1 ++ (wsX11_tellFits_r2 ++ wsX11_tellFits_r3)) : List Cond) [30, 31, 32, 33, 34, 35, 36, 37, 5, 38, 39, 40, 41, 42, 43, 44, 45, 46, 47, 48, 49, 50, 51, 52, 53, 54, 55, 56, 57, 58, 59, 60, 61, 62, 63, 64, 65, 66, 67, 68, 11, 69, 70, 71, 72, 73, 74, 75, 76, 77, 78, 79, 80, 81, 82, 83] rfl (by decide +kernel)) (goodIn_few (big := wsX11_look) (fun _ h9 => List.mem_cons_of_mem _ (List.mem_append_right _ h9)) gb_0)
  exact h
set_option maxRecDepth 20000 in
theorem gX11_look_X11_tellFits : GoodIn wsX11_look (wsV RX11 454 RX11 yX11_tellFits wsX11_tellFits) := goodIn_app (goodIn_r _ [27, 28, 29, 5] rfl (by decide +kernel)) ggX11_look_X11_tellFits
set_option maxRecDepth 20000 in
theorem ggX11_look_X11_unlike : GoodIn wsX11_look wsX11_unlike := by
  have h := goodIn_app (goodIn_r (big := wsX11_look) (.code yX11_unlike cX11_unlike 6 (some .int) :: (wsX11_unlike_r1 ++ wsX11_unlike_r2) : List Cond) [87, 31, 34, 32, 33, 88, 89, 90, 91, 5, 92, 93, 49, 52, 53, 54, 55, 56, 57, 58, 59, 60, 61, 62, 63, 64, 65, 66, 67, 68, 11, 69, 70, 71, 72, 73, 74, 75, 76, 77, 78, 94, 95, 96, 97, 98, 99, 100] rfl (by decide +kernel)) (goodIn_few (big := wsX11_look) (fun _ h9 => List.mem_cons_of_mem _ (List.mem_append_right _ h9)) gb_0)
  exact h
set_option maxRecDepth 20000 in
theorem gX11_look_X11_unlike : GoodIn wsX11_look (wsV RX11 457 RX11 yX11_unlike wsX11_unlike) := goodIn_app (goodIn_r _ [84, 85, 86, 5] rfl (by decide +kernel)) ggX11_look_X11_unlike
theorem eX11_look_0q : (decode cX11_look 0 = .ok (.aload_n 0, 1)) ∧ (decode cX11_look 1 = .ok (.iconst 0, 1)) ∧ (decode cX11_look 2 = .ok (.putfield 142, 3)) ∧ (decode cX11_look 5 = .ok (.aload_n 0, 1)) ∧ (decode cX11_look 6 = .ok (.iload_n 1, 1)) ∧ (decode cX11_look 7 = .ok (.invokevirtual 398, 3)) ∧ (decode cX11_look 10 = .ok (.ifCond .eq 20, 3)) ∧ (decode cX11_look 13 = .ok (.aload_n 0, 1)) := by decide +kernel
theorem dX11_look_0 : decode cX11_look 0 = .ok (.aload_n 0, 1) := eX11_look_0q.1
theorem dX11_look_1 : decode cX11_look 1 = .ok (.iconst 0, 1) := eX11_look_0q.2.1
theorem dX11_look_2 : decode cX11_look 2 = .ok (.putfield 142, 3) := eX11_look_0q.2.2.1
theorem dX11_look_5 : decode cX11_look 5 = .ok (.aload_n 0, 1) := eX11_look_0q.2.2.2.1
theorem dX11_look_6 : decode cX11_look 6 = .ok (.iload_n 1, 1) := eX11_look_0q.2.2.2.2.1
theorem dX11_look_7 : decode cX11_look 7 = .ok (.invokevirtual 398, 3) := eX11_look_0q.2.2.2.2.2.1
theorem dX11_look_10 : decode cX11_look 10 = .ok (.ifCond .eq 20, 3) := eX11_look_0q.2.2.2.2.2.2.1
theorem dX11_look_13 : decode cX11_look 13 = .ok (.aload_n 0, 1) := eX11_look_0q.2.2.2.2.2.2.2
theorem eX11_look_14q : (decode cX11_look 14 = .ok (.iload_n 2, 1)) ∧ (decode cX11_look 15 = .ok (.invokevirtual 371, 3)) ∧ (decode cX11_look 18 = .ok (.ifCond .eq 12, 3)) ∧ (decode cX11_look 21 = .ok (.iload_n 3, 1)) ∧ (decode cX11_look 22 = .ok (.iconst 0, 1)) ∧ (decode cX11_look 23 = .ok (.iconst 1, 1)) ∧ (decode cX11_look 24 = .ok (.invokestatic 359, 3)) ∧ (decode cX11_look 27 = .ok (.ifCond .ne 9, 3)) := by decide +kernel
theorem dX11_look_14 : decode cX11_look 14 = .ok (.iload_n 2, 1) := eX11_look_14q.1
theorem dX11_look_15 : decode cX11_look 15 = .ok (.invokevirtual 371, 3) := eX11_look_14q.2.1
theorem dX11_look_18 : decode cX11_look 18 = .ok (.ifCond .eq 12, 3) := eX11_look_14q.2.2.1
theorem dX11_look_21 : decode cX11_look 21 = .ok (.iload_n 3, 1) := eX11_look_14q.2.2.2.1
theorem dX11_look_22 : decode cX11_look 22 = .ok (.iconst 0, 1) := eX11_look_14q.2.2.2.2.1
theorem dX11_look_23 : decode cX11_look 23 = .ok (.iconst 1, 1) := eX11_look_14q.2.2.2.2.2.1
theorem dX11_look_24 : decode cX11_look 24 = .ok (.invokestatic 359, 3) := eX11_look_14q.2.2.2.2.2.2.1
theorem dX11_look_27 : decode cX11_look 27 = .ok (.ifCond .ne 9, 3) := eX11_look_14q.2.2.2.2.2.2.2
theorem eX11_look_30q : (decode cX11_look 30 = .ok (.aload_n 0, 1)) ∧ (decode cX11_look 31 = .ok (.iconst 1, 1)) ∧ (decode cX11_look 32 = .ok (.invokevirtual 240, 3)) ∧ (decode cX11_look 35 = .ok (.ireturn, 1)) ∧ (decode cX11_look 36 = .ok (.aload_n 0, 1)) ∧ (decode cX11_look 37 = .ok (.iload_n 1, 1)) ∧ (decode cX11_look 38 = .ok (.invokevirtual 454, 3)) ∧ (decode cX11_look 41 = .ok (.iconst (-1), 1)) := by decide +kernel
theorem dX11_look_30 : decode cX11_look 30 = .ok (.aload_n 0, 1) := eX11_look_30q.1
theorem dX11_look_31 : decode cX11_look 31 = .ok (.iconst 1, 1) := eX11_look_30q.2.1
theorem dX11_look_32 : decode cX11_look 32 = .ok (.invokevirtual 240, 3) := eX11_look_30q.2.2.1
theorem dX11_look_35 : decode cX11_look 35 = .ok (.ireturn, 1) := eX11_look_30q.2.2.2.1
theorem dX11_look_36 : decode cX11_look 36 = .ok (.aload_n 0, 1) := eX11_look_30q.2.2.2.2.1
theorem dX11_look_37 : decode cX11_look 37 = .ok (.iload_n 1, 1) := eX11_look_30q.2.2.2.2.2.1
theorem dX11_look_38 : decode cX11_look 38 = .ok (.invokevirtual 454, 3) := eX11_look_30q.2.2.2.2.2.2.1
theorem dX11_look_41 : decode cX11_look 41 = .ok (.iconst (-1), 1) := eX11_look_30q.2.2.2.2.2.2.2
theorem eX11_look_42q : (decode cX11_look 42 = .ok (.istore 4, 2)) ∧ (decode cX11_look 44 = .ok (.iconst 0, 1)) ∧ (decode cX11_look 45 = .ok (.istore 5, 2)) ∧ (decode cX11_look 47 = .ok (.iconst 0, 1)) ∧ (decode cX11_look 48 = .ok (.istore 6, 2)) ∧ (decode cX11_look 50 = .ok (.iload 6, 2)) ∧ (decode cX11_look 52 = .ok (.bipush 32, 2)) ∧ (decode cX11_look 54 = .ok (.if_icmp .ge 37, 3)) := by decide +kernel
theorem dX11_look_42 : decode cX11_look 42 = .ok (.istore 4, 2) := eX11_look_42q.1
theorem dX11_look_44 : decode cX11_look 44 = .ok (.iconst 0, 1) := eX11_look_42q.2.1
theorem dX11_look_45 : decode cX11_look 45 = .ok (.istore 5, 2) := eX11_look_42q.2.2.1
theorem dX11_look_47 : decode cX11_look 47 = .ok (.iconst 0, 1) := eX11_look_42q.2.2.2.1
theorem dX11_look_48 : decode cX11_look 48 = .ok (.istore 6, 2) := eX11_look_42q.2.2.2.2.1
theorem dX11_look_50 : decode cX11_look 50 = .ok (.iload 6, 2) := eX11_look_42q.2.2.2.2.2.1
theorem dX11_look_52 : decode cX11_look 52 = .ok (.bipush 32, 2) := eX11_look_42q.2.2.2.2.2.2.1
theorem dX11_look_54 : decode cX11_look 54 = .ok (.if_icmp .ge 37, 3) := eX11_look_42q.2.2.2.2.2.2.2
theorem eX11_look_57q : (decode cX11_look 57 = .ok (.aload_n 0, 1)) ∧ (decode cX11_look 58 = .ok (.iload_n 1, 1)) ∧ (decode cX11_look 59 = .ok (.iload 6, 2)) ∧ (decode cX11_look 61 = .ok (.iload_n 2, 1)) ∧ (decode cX11_look 62 = .ok (.invokevirtual 457, 3)) ∧ (decode cX11_look 65 = .ok (.istore 7, 2)) ∧ (decode cX11_look 67 = .ok (.iload 7, 2)) ∧ (decode cX11_look 69 = .ok (.iload 5, 2)) := by decide +kernel
theorem dX11_look_57 : decode cX11_look 57 = .ok (.aload_n 0, 1) := eX11_look_57q.1
theorem dX11_look_58 : decode cX11_look 58 = .ok (.iload_n 1, 1) := eX11_look_57q.2.1
theorem dX11_look_59 : decode cX11_look 59 = .ok (.iload 6, 2) := eX11_look_57q.2.2.1
theorem dX11_look_61 : decode cX11_look 61 = .ok (.iload_n 2, 1) := eX11_look_57q.2.2.2.1
theorem dX11_look_62 : decode cX11_look 62 = .ok (.invokevirtual 457, 3) := eX11_look_57q.2.2.2.2.1
theorem dX11_look_65 : decode cX11_look 65 = .ok (.istore 7, 2) := eX11_look_57q.2.2.2.2.2.1
theorem dX11_look_67 : decode cX11_look 67 = .ok (.iload 7, 2) := eX11_look_57q.2.2.2.2.2.2.1
theorem dX11_look_69 : decode cX11_look 69 = .ok (.iload 5, 2) := eX11_look_57q.2.2.2.2.2.2.2
theorem eX11_look_71q : (decode cX11_look 71 = .ok (.if_icmp .gt 6, 3)) ∧ (decode cX11_look 74 = .ok (.goto 11, 3)) ∧ (decode cX11_look 77 = .ok (.iload 6, 2)) ∧ (decode cX11_look 79 = .ok (.istore 4, 2)) ∧ (decode cX11_look 81 = .ok (.iload 7, 2)) ∧ (decode cX11_look 83 = .ok (.istore 5, 2)) ∧ (decode cX11_look 85 = .ok (.iinc 6 1, 3)) ∧ (decode cX11_look 88 = .ok (.goto (-38), 3)) := by decide +kernel
theorem dX11_look_71 : decode cX11_look 71 = .ok (.if_icmp .gt 6, 3) := eX11_look_71q.1
theorem dX11_look_74 : decode cX11_look 74 = .ok (.goto 11, 3) := eX11_look_71q.2.1
theorem dX11_look_77 : decode cX11_look 77 = .ok (.iload 6, 2) := eX11_look_71q.2.2.1
theorem dX11_look_79 : decode cX11_look 79 = .ok (.istore 4, 2) := eX11_look_71q.2.2.2.1
theorem dX11_look_81 : decode cX11_look 81 = .ok (.iload 7, 2) := eX11_look_71q.2.2.2.2.1
theorem dX11_look_83 : decode cX11_look 83 = .ok (.istore 5, 2) := eX11_look_71q.2.2.2.2.2.1
theorem dX11_look_85 : decode cX11_look 85 = .ok (.iinc 6 1, 3) := eX11_look_71q.2.2.2.2.2.2.1
theorem dX11_look_88 : decode cX11_look 88 = .ok (.goto (-38), 3) := eX11_look_71q.2.2.2.2.2.2.2
theorem eX11_look_91q : (decode cX11_look 91 = .ok (.iload_n 3, 1)) ∧ (decode cX11_look 92 = .ok (.ifCond .ne 8, 3)) ∧ (decode cX11_look 95 = .ok (.iload 4, 2)) ∧ (decode cX11_look 97 = .ok (.goto 5, 3)) ∧ (decode cX11_look 100 = .ok (.iload 5, 2)) ∧ (decode cX11_look 102 = .ok (.ireturn, 1)) := by decide +kernel
theorem dX11_look_91 : decode cX11_look 91 = .ok (.iload_n 3, 1) := eX11_look_91q.1
theorem dX11_look_92 : decode cX11_look 92 = .ok (.ifCond .ne 8, 3) := eX11_look_91q.2.1
theorem dX11_look_95 : decode cX11_look 95 = .ok (.iload 4, 2) := eX11_look_91q.2.2.1
theorem dX11_look_97 : decode cX11_look 97 = .ok (.goto 5, 3) := eX11_look_91q.2.2.2.1
theorem dX11_look_100 : decode cX11_look 100 = .ok (.iload 5, 2) := eX11_look_91q.2.2.2.2.1
theorem dX11_look_102 : decode cX11_look 102 = .ok (.ireturn, 1) := eX11_look_91q.2.2.2.2.2
set_option maxRecDepth 20000 in
theorem ggX11_years_X11_isIn : GoodIn wsX11_years wsX11_isIn := goodIn_r _ [8] rfl (by decide +kernel)
set_option maxRecDepth 20000 in
theorem gX11_years_X11_isIn : GoodIn wsX11_years (va_wsS RX11 359 yX11_isIn wsX11_isIn) := goodIn_app (goodIn_r _ [5, 6, 7] rfl (by decide +kernel)) ggX11_years_X11_isIn
set_option maxRecDepth 20000 in
theorem ggX11_years_X11_fail : GoodIn wsX11_years wsX11_fail := by
  have h := goodIn_app (goodIn_r (big := wsX11_years) (.code yX11_fail cX11_fail 2 (some .int) :: ([.fieldLink RX11 142 "PathProberModel" "code" "I"]) : List Cond) [12, 1] rfl (by decide +kernel)) (goodIn_few (big := wsX11_years) (fun _ h9 => List.mem_cons_of_mem _ (List.mem_append_right _ h9)) gb_0)
  exact h
set_option maxRecDepth 20000 in
theorem gX11_years_X11_fail : GoodIn wsX11_years (wsV RX11 240 RX11 yX11_fail wsX11_fail) := goodIn_app (goodIn_r _ [9, 10, 11, 7] rfl (by decide +kernel)) ggX11_years_X11_fail
set_option maxRecDepth 20000 in
theorem ggX11_years_X11_copyTo : GoodIn wsX11_years wsX11_copyTo := goodIn_r _ [15] rfl (by decide +kernel)
set_option maxRecDepth 20000 in
theorem gX11_years_X11_copyTo : GoodIn wsX11_years (va_wsS RX11 467 yX11_copyTo wsX11_copyTo) := goodIn_app (goodIn_r _ [13, 14, 7] rfl (by decide +kernel)) ggX11_years_X11_copyTo
set_option maxRecDepth 20000 in
theorem ggX11_years_X11_sentAll : GoodIn wsX11_years wsX11_sentAll := by
  have h := goodIn_app (goodIn_r (big := wsX11_years) (.code yX11_sentAll cX11_sentAll 3 (some .int) :: ([.fieldLink RX11 60 "PathProberModel" "now" "[I"]) : List Cond) [19, 3] rfl (by decide +kernel)) (goodIn_few (big := wsX11_years) (fun _ h9 => List.mem_cons_of_mem _ (List.mem_append_right _ h9)) gb_0)
  exact h
set_option maxRecDepth 20000 in
theorem gX11_years_X11_sentAll : GoodIn wsX11_years (wsV RX11 395 RX11 yX11_sentAll wsX11_sentAll) := goodIn_app (goodIn_r _ [16, 17, 18, 7] rfl (by decide +kernel)) ggX11_years_X11_sentAll
set_option maxRecDepth 20000 in
theorem ggX11_years_X11_happens : GoodIn wsX11_years wsX11_happens := by
  have h := goodIn_app (goodIn_r (big := wsX11_years) (.code yX11_happens cX11_happens 6 none :: (wsX11_happens_r1 ++ (wsX11_happens_r2 ++ (wsX11_happens_r3 ++ (wsX11_happens_r4 ++ wsX11_happens_r5)))) : List Cond) [23, 24, 25, 26, 7, 27, 4, 28, 29, 30, 31, 32, 33, 34, 35, 36, 37, 3, 38, 39, 40, 41, 42, 43, 44, 45, 46, 47, 48, 49, 50, 51, 52, 53, 54, 55, 56, 57, 58, 59, 60, 61, 62, 63, 64, 65, 66, 67, 68, 69, 70, 71, 72, 73, 74, 75, 76, 77, 78, 79, 80, 81, 82, 83, 84, 85, 86, 87, 88, 89, 90, 91, 92, 93, 94, 95, 96, 97, 98, 99, 100, 101, 102, 103, 104, 105, 106, 107, 108, 109, 110, 111, 112, 113, 114, 115, 116, 117, 118, 119, 120, 121, 122, 123, 124, 125, 126, 127, 128, 129, 130, 131, 132, 133, 134, 135] rfl (by decide +kernel)) (goodIn_few (big := wsX11_years) (fun _ h9 => List.mem_cons_of_mem _ (List.mem_append_right _ h9)) gb_0)
  exact h
set_option maxRecDepth 20000 in
theorem gX11_years_X11_happens : GoodIn wsX11_years (wsV RX11 471 RX11 yX11_happens wsX11_happens) := goodIn_app (goodIn_r _ [20, 21, 22, 7] rfl (by decide +kernel)) ggX11_years_X11_happens
set_option maxRecDepth 20000 in
theorem ggX11_years_X11_routers : GoodIn wsX11_years wsX11_routers := by
  have h := goodIn_app (goodIn_r (big := wsX11_years) (.code yX11_routers cX11_routers 1 (some .int) :: ([.fieldLink RX11 34 "PathProberModel" "told" "[I"]) : List Cond) [139, 33] rfl (by decide +kernel)) (goodIn_few (big := wsX11_years) (fun _ h9 => List.mem_cons_of_mem _ (List.mem_append_right _ h9)) gb_0)
  exact h
set_option maxRecDepth 20000 in
theorem gX11_years_X11_routers : GoodIn wsX11_years (wsV RX11 263 RX11 yX11_routers wsX11_routers) := goodIn_app (goodIn_r _ [136, 137, 138, 7] rfl (by decide +kernel)) ggX11_years_X11_routers
set_option maxRecDepth 20000 in
theorem ggX11_years_X11_edgesAll : GoodIn wsX11_years wsX11_edgesAll := by
  have h := goodIn_app (goodIn_r (big := wsX11_years) (.code yX11_edgesAll cX11_edgesAll 4 (some .int) :: (wsX11_edgesAll_r1 ++ wsX11_edgesAll_r2) : List Cond) [143, 29, 30, 31, 7, 32, 33, 144, 145, 146, 147, 72, 73, 74, 75, 148, 149, 150, 151, 152, 153, 154, 155, 110, 111, 112, 113, 3, 96, 97, 98] rfl (by decide +kernel)) (goodIn_few (big := wsX11_years) (fun _ h9 => List.mem_cons_of_mem _ (List.mem_append_right _ h9)) gb_0)
  exact h
set_option maxRecDepth 20000 in
theorem gX11_years_X11_edgesAll : GoodIn wsX11_years (wsV RX11 474 RX11 yX11_edgesAll wsX11_edgesAll) := goodIn_app (goodIn_r _ [140, 141, 142, 7] rfl (by decide +kernel)) ggX11_years_X11_edgesAll
theorem eX11_years_0q : (decode cX11_years 0 = .ok (.aload_n 0, 1)) ∧ (decode cX11_years 1 = .ok (.iconst 0, 1)) ∧ (decode cX11_years 2 = .ok (.putfield 142, 3)) ∧ (decode cX11_years 5 = .ok (.iload_n 3, 1)) ∧ (decode cX11_years 6 = .ok (.iconst 0, 1)) ∧ (decode cX11_years 7 = .ok (.iconst 2, 1)) ∧ (decode cX11_years 8 = .ok (.invokestatic 359, 3)) ∧ (decode cX11_years 11 = .ok (.ifCond .ne 9, 3)) := by decide +kernel
theorem dX11_years_0 : decode cX11_years 0 = .ok (.aload_n 0, 1) := eX11_years_0q.1
theorem dX11_years_1 : decode cX11_years 1 = .ok (.iconst 0, 1) := eX11_years_0q.2.1
theorem dX11_years_2 : decode cX11_years 2 = .ok (.putfield 142, 3) := eX11_years_0q.2.2.1
theorem dX11_years_5 : decode cX11_years 5 = .ok (.iload_n 3, 1) := eX11_years_0q.2.2.2.1
theorem dX11_years_6 : decode cX11_years 6 = .ok (.iconst 0, 1) := eX11_years_0q.2.2.2.2.1
theorem dX11_years_7 : decode cX11_years 7 = .ok (.iconst 2, 1) := eX11_years_0q.2.2.2.2.2.1
theorem dX11_years_8 : decode cX11_years 8 = .ok (.invokestatic 359, 3) := eX11_years_0q.2.2.2.2.2.2.1
theorem dX11_years_11 : decode cX11_years 11 = .ok (.ifCond .ne 9, 3) := eX11_years_0q.2.2.2.2.2.2.2
theorem eX11_years_14q : (decode cX11_years 14 = .ok (.aload_n 0, 1)) ∧ (decode cX11_years 15 = .ok (.iconst 1, 1)) ∧ (decode cX11_years 16 = .ok (.invokevirtual 240, 3)) ∧ (decode cX11_years 19 = .ok (.ireturn, 1)) ∧ (decode cX11_years 20 = .ok (.iload_n 2, 1)) ∧ (decode cX11_years 21 = .ok (.iconst 0, 1)) ∧ (decode cX11_years 22 = .ok (.bipush 40, 2)) ∧ (decode cX11_years 24 = .ok (.invokestatic 359, 3)) := by decide +kernel
theorem dX11_years_14 : decode cX11_years 14 = .ok (.aload_n 0, 1) := eX11_years_14q.1
theorem dX11_years_15 : decode cX11_years 15 = .ok (.iconst 1, 1) := eX11_years_14q.2.1
theorem dX11_years_16 : decode cX11_years 16 = .ok (.invokevirtual 240, 3) := eX11_years_14q.2.2.1
theorem dX11_years_19 : decode cX11_years 19 = .ok (.ireturn, 1) := eX11_years_14q.2.2.2.1
theorem dX11_years_20 : decode cX11_years 20 = .ok (.iload_n 2, 1) := eX11_years_14q.2.2.2.2.1
theorem dX11_years_21 : decode cX11_years 21 = .ok (.iconst 0, 1) := eX11_years_14q.2.2.2.2.2.1
theorem dX11_years_22 : decode cX11_years 22 = .ok (.bipush 40, 2) := eX11_years_14q.2.2.2.2.2.2.1
theorem dX11_years_24 : decode cX11_years 24 = .ok (.invokestatic 359, 3) := eX11_years_14q.2.2.2.2.2.2.2
theorem eX11_years_27q : (decode cX11_years 27 = .ok (.ifCond .ne 9, 3)) ∧ (decode cX11_years 30 = .ok (.aload_n 0, 1)) ∧ (decode cX11_years 31 = .ok (.iconst 2, 1)) ∧ (decode cX11_years 32 = .ok (.invokevirtual 240, 3)) ∧ (decode cX11_years 35 = .ok (.ireturn, 1)) ∧ (decode cX11_years 36 = .ok (.aload_n 0, 1)) ∧ (decode cX11_years 37 = .ok (.getfield 118, 3)) ∧ (decode cX11_years 40 = .ok (.aload_n 0, 1)) := by decide +kernel
theorem dX11_years_27 : decode cX11_years 27 = .ok (.ifCond .ne 9, 3) := eX11_years_27q.1
theorem dX11_years_30 : decode cX11_years 30 = .ok (.aload_n 0, 1) := eX11_years_27q.2.1
theorem dX11_years_31 : decode cX11_years 31 = .ok (.iconst 2, 1) := eX11_years_27q.2.2.1
theorem dX11_years_32 : decode cX11_years 32 = .ok (.invokevirtual 240, 3) := eX11_years_27q.2.2.2.1
theorem dX11_years_35 : decode cX11_years 35 = .ok (.ireturn, 1) := eX11_years_27q.2.2.2.2.1
theorem dX11_years_36 : decode cX11_years 36 = .ok (.aload_n 0, 1) := eX11_years_27q.2.2.2.2.2.1
theorem dX11_years_37 : decode cX11_years 37 = .ok (.getfield 118, 3) := eX11_years_27q.2.2.2.2.2.2.1
theorem dX11_years_40 : decode cX11_years 40 = .ok (.aload_n 0, 1) := eX11_years_27q.2.2.2.2.2.2.2
theorem eX11_years_41q : (decode cX11_years 41 = .ok (.getfield 60, 3)) ∧ (decode cX11_years 44 = .ok (.invokestatic 467, 3)) ∧ (decode cX11_years 47 = .ok (.aload_n 0, 1)) ∧ (decode cX11_years 48 = .ok (.invokevirtual 395, 3)) ∧ (decode cX11_years 51 = .ok (.istore 4, 2)) ∧ (decode cX11_years 53 = .ok (.aload_n 0, 1)) ∧ (decode cX11_years 54 = .ok (.iload_n 1, 1)) ∧ (decode cX11_years 55 = .ok (.putfield 460, 3)) := by decide +kernel
theorem dX11_years_41 : decode cX11_years 41 = .ok (.getfield 60, 3) := eX11_years_41q.1
theorem dX11_years_44 : decode cX11_years 44 = .ok (.invokestatic 467, 3) := eX11_years_41q.2.1
theorem dX11_years_47 : decode cX11_years 47 = .ok (.aload_n 0, 1) := eX11_years_41q.2.2.1
theorem dX11_years_48 : decode cX11_years 48 = .ok (.invokevirtual 395, 3) := eX11_years_41q.2.2.2.1
theorem dX11_years_51 : decode cX11_years 51 = .ok (.istore 4, 2) := eX11_years_41q.2.2.2.2.1
theorem dX11_years_53 : decode cX11_years 53 = .ok (.aload_n 0, 1) := eX11_years_41q.2.2.2.2.2.1
theorem dX11_years_54 : decode cX11_years 54 = .ok (.iload_n 1, 1) := eX11_years_41q.2.2.2.2.2.2.1
theorem dX11_years_55 : decode cX11_years 55 = .ok (.putfield 460, 3) := eX11_years_41q.2.2.2.2.2.2.2
theorem eX11_years_58q : (decode cX11_years 58 = .ok (.iconst 0, 1)) ∧ (decode cX11_years 59 = .ok (.istore 5, 2)) ∧ (decode cX11_years 61 = .ok (.iload 5, 2)) ∧ (decode cX11_years 63 = .ok (.iload_n 2, 1)) ∧ (decode cX11_years 64 = .ok (.if_icmp .ge 13, 3)) ∧ (decode cX11_years 67 = .ok (.aload_n 0, 1)) ∧ (decode cX11_years 68 = .ok (.invokevirtual 471, 3)) ∧ (decode cX11_years 71 = .ok (.iinc 5 1, 3)) := by decide +kernel
theorem dX11_years_58 : decode cX11_years 58 = .ok (.iconst 0, 1) := eX11_years_58q.1
theorem dX11_years_59 : decode cX11_years 59 = .ok (.istore 5, 2) := eX11_years_58q.2.1
theorem dX11_years_61 : decode cX11_years 61 = .ok (.iload 5, 2) := eX11_years_58q.2.2.1
theorem dX11_years_63 : decode cX11_years 63 = .ok (.iload_n 2, 1) := eX11_years_58q.2.2.2.1
theorem dX11_years_64 : decode cX11_years 64 = .ok (.if_icmp .ge 13, 3) := eX11_years_58q.2.2.2.2.1
theorem dX11_years_67 : decode cX11_years 67 = .ok (.aload_n 0, 1) := eX11_years_58q.2.2.2.2.2.1
theorem dX11_years_68 : decode cX11_years 68 = .ok (.invokevirtual 471, 3) := eX11_years_58q.2.2.2.2.2.2.1
theorem dX11_years_71 : decode cX11_years 71 = .ok (.iinc 5 1, 3) := eX11_years_58q.2.2.2.2.2.2.2
theorem eX11_years_74q : (decode cX11_years 74 = .ok (.goto (-13), 3)) ∧ (decode cX11_years 77 = .ok (.iconst 0, 1)) ∧ (decode cX11_years 78 = .ok (.istore 5, 2)) ∧ (decode cX11_years 80 = .ok (.iconst 0, 1)) ∧ (decode cX11_years 81 = .ok (.istore 6, 2)) ∧ (decode cX11_years 83 = .ok (.iload 6, 2)) ∧ (decode cX11_years 85 = .ok (.aload_n 0, 1)) ∧ (decode cX11_years 86 = .ok (.invokevirtual 263, 3)) := by decide +kernel
theorem dX11_years_74 : decode cX11_years 74 = .ok (.goto (-13), 3) := eX11_years_74q.1
theorem dX11_years_77 : decode cX11_years 77 = .ok (.iconst 0, 1) := eX11_years_74q.2.1
theorem dX11_years_78 : decode cX11_years 78 = .ok (.istore 5, 2) := eX11_years_74q.2.2.1
theorem dX11_years_80 : decode cX11_years 80 = .ok (.iconst 0, 1) := eX11_years_74q.2.2.2.1
theorem dX11_years_81 : decode cX11_years 81 = .ok (.istore 6, 2) := eX11_years_74q.2.2.2.2.1
theorem dX11_years_83 : decode cX11_years 83 = .ok (.iload 6, 2) := eX11_years_74q.2.2.2.2.2.1
theorem dX11_years_85 : decode cX11_years 85 = .ok (.aload_n 0, 1) := eX11_years_74q.2.2.2.2.2.2.1
theorem dX11_years_86 : decode cX11_years 86 = .ok (.invokevirtual 263, 3) := eX11_years_74q.2.2.2.2.2.2.2
theorem eX11_years_89q : (decode cX11_years 89 = .ok (.if_icmp .ge 24, 3)) ∧ (decode cX11_years 92 = .ok (.iload 5, 2)) ∧ (decode cX11_years 94 = .ok (.aload_n 0, 1)) ∧ (decode cX11_years 95 = .ok (.getfield 60, 3)) ∧ (decode cX11_years 98 = .ok (.bipush 12, 2)) ∧ (decode cX11_years 100 = .ok (.iload 6, 2)) ∧ (decode cX11_years 102 = .ok (.iadd, 1)) ∧ (decode cX11_years 103 = .ok (.iaload, 1)) := by decide +kernel
theorem dX11_years_89 : decode cX11_years 89 = .ok (.if_icmp .ge 24, 3) := eX11_years_89q.1
theorem dX11_years_92 : decode cX11_years 92 = .ok (.iload 5, 2) := eX11_years_89q.2.1
theorem dX11_years_94 : decode cX11_years 94 = .ok (.aload_n 0, 1) := eX11_years_89q.2.2.1
theorem dX11_years_95 : decode cX11_years 95 = .ok (.getfield 60, 3) := eX11_years_89q.2.2.2.1
theorem dX11_years_98 : decode cX11_years 98 = .ok (.bipush 12, 2) := eX11_years_89q.2.2.2.2.1
theorem dX11_years_100 : decode cX11_years 100 = .ok (.iload 6, 2) := eX11_years_89q.2.2.2.2.2.1
theorem dX11_years_102 : decode cX11_years 102 = .ok (.iadd, 1) := eX11_years_89q.2.2.2.2.2.2.1
theorem dX11_years_103 : decode cX11_years 103 = .ok (.iaload, 1) := eX11_years_89q.2.2.2.2.2.2.2
theorem eX11_years_104q : (decode cX11_years 104 = .ok (.iadd, 1)) ∧ (decode cX11_years 105 = .ok (.istore 5, 2)) ∧ (decode cX11_years 107 = .ok (.iinc 6 1, 3)) ∧ (decode cX11_years 110 = .ok (.goto (-27), 3)) ∧ (decode cX11_years 113 = .ok (.iload_n 3, 1)) ∧ (decode cX11_years 114 = .ok (.ifCond .ne 10, 3)) ∧ (decode cX11_years 117 = .ok (.aload_n 0, 1)) ∧ (decode cX11_years 118 = .ok (.invokevirtual 474, 3)) := by decide +kernel
theorem dX11_years_104 : decode cX11_years 104 = .ok (.iadd, 1) := eX11_years_104q.1
theorem dX11_years_105 : decode cX11_years 105 = .ok (.istore 5, 2) := eX11_years_104q.2.1
theorem dX11_years_107 : decode cX11_years 107 = .ok (.iinc 6 1, 3) := eX11_years_104q.2.2.1
theorem dX11_years_110 : decode cX11_years 110 = .ok (.goto (-27), 3) := eX11_years_104q.2.2.2.1
theorem dX11_years_113 : decode cX11_years 113 = .ok (.iload_n 3, 1) := eX11_years_104q.2.2.2.2.1
theorem dX11_years_114 : decode cX11_years 114 = .ok (.ifCond .ne 10, 3) := eX11_years_104q.2.2.2.2.2.1
theorem dX11_years_117 : decode cX11_years 117 = .ok (.aload_n 0, 1) := eX11_years_104q.2.2.2.2.2.2.1
theorem dX11_years_118 : decode cX11_years 118 = .ok (.invokevirtual 474, 3) := eX11_years_104q.2.2.2.2.2.2.2
theorem eX11_years_121q : (decode cX11_years 121 = .ok (.goto 20, 3)) ∧ (decode cX11_years 124 = .ok (.iload_n 3, 1)) ∧ (decode cX11_years 125 = .ok (.iconst 1, 1)) ∧ (decode cX11_years 126 = .ok (.if_icmp .ne 13, 3)) ∧ (decode cX11_years 129 = .ok (.aload_n 0, 1)) ∧ (decode cX11_years 130 = .ok (.invokevirtual 395, 3)) ∧ (decode cX11_years 133 = .ok (.iload 4, 2)) ∧ (decode cX11_years 135 = .ok (.isub, 1)) := by decide +kernel
theorem dX11_years_121 : decode cX11_years 121 = .ok (.goto 20, 3) := eX11_years_121q.1
theorem dX11_years_124 : decode cX11_years 124 = .ok (.iload_n 3, 1) := eX11_years_121q.2.1
theorem dX11_years_125 : decode cX11_years 125 = .ok (.iconst 1, 1) := eX11_years_121q.2.2.1
theorem dX11_years_126 : decode cX11_years 126 = .ok (.if_icmp .ne 13, 3) := eX11_years_121q.2.2.2.1
theorem dX11_years_129 : decode cX11_years 129 = .ok (.aload_n 0, 1) := eX11_years_121q.2.2.2.2.1
theorem dX11_years_130 : decode cX11_years 130 = .ok (.invokevirtual 395, 3) := eX11_years_121q.2.2.2.2.2.1
theorem dX11_years_133 : decode cX11_years 133 = .ok (.iload 4, 2) := eX11_years_121q.2.2.2.2.2.2.1
theorem dX11_years_135 : decode cX11_years 135 = .ok (.isub, 1) := eX11_years_121q.2.2.2.2.2.2.2
theorem eX11_years_136q : (decode cX11_years 136 = .ok (.goto 5, 3)) ∧ (decode cX11_years 139 = .ok (.iload 5, 2)) ∧ (decode cX11_years 141 = .ok (.istore 6, 2)) ∧ (decode cX11_years 143 = .ok (.aload_n 0, 1)) ∧ (decode cX11_years 144 = .ok (.getfield 60, 3)) ∧ (decode cX11_years 147 = .ok (.aload_n 0, 1)) ∧ (decode cX11_years 148 = .ok (.getfield 118, 3)) ∧ (decode cX11_years 151 = .ok (.invokestatic 467, 3)) := by decide +kernel
theorem dX11_years_136 : decode cX11_years 136 = .ok (.goto 5, 3) := eX11_years_136q.1
theorem dX11_years_139 : decode cX11_years 139 = .ok (.iload 5, 2) := eX11_years_136q.2.1
theorem dX11_years_141 : decode cX11_years 141 = .ok (.istore 6, 2) := eX11_years_136q.2.2.1
theorem dX11_years_143 : decode cX11_years 143 = .ok (.aload_n 0, 1) := eX11_years_136q.2.2.2.1
theorem dX11_years_144 : decode cX11_years 144 = .ok (.getfield 60, 3) := eX11_years_136q.2.2.2.2.1
theorem dX11_years_147 : decode cX11_years 147 = .ok (.aload_n 0, 1) := eX11_years_136q.2.2.2.2.2.1
theorem dX11_years_148 : decode cX11_years 148 = .ok (.getfield 118, 3) := eX11_years_136q.2.2.2.2.2.2.1
theorem dX11_years_151 : decode cX11_years 151 = .ok (.invokestatic 467, 3) := eX11_years_136q.2.2.2.2.2.2.2
theorem dX11_years_154 : decode cX11_years 154 = .ok (.iload 6, 2) := by decide +kernel
theorem dX11_years_156 : decode cX11_years 156 = .ok (.ireturn, 1) := by decide +kernel
set_option maxRecDepth 20000 in
theorem ggX11_image_X11_copyTo : GoodIn wsX11_image wsX11_copyTo := goodIn_r _ [24] rfl (by decide +kernel)
set_option maxRecDepth 20000 in
theorem gX11_image_X11_copyTo : GoodIn wsX11_image (va_wsS RX11 467 yX11_copyTo wsX11_copyTo) := goodIn_app (goodIn_r _ [21, 22, 23] rfl (by decide +kernel)) ggX11_image_X11_copyTo
theorem eX11_image_0q : (decode cX11_image 0 = .ok (.aload_n 0, 1)) ∧ (decode cX11_image 1 = .ok (.iconst 0, 1)) ∧ (decode cX11_image 2 = .ok (.putfield 142, 3)) ∧ (decode cX11_image 5 = .ok (.aload_n 0, 1)) ∧ (decode cX11_image 6 = .ok (.iconst 1, 1)) ∧ (decode cX11_image 7 = .ok (.putfield 256, 3)) ∧ (decode cX11_image 10 = .ok (.aload_n 0, 1)) ∧ (decode cX11_image 11 = .ok (.aload_n 0, 1)) := by decide +kernel
theorem dX11_image_0 : decode cX11_image 0 = .ok (.aload_n 0, 1) := eX11_image_0q.1
theorem dX11_image_1 : decode cX11_image 1 = .ok (.iconst 0, 1) := eX11_image_0q.2.1
theorem dX11_image_2 : decode cX11_image 2 = .ok (.putfield 142, 3) := eX11_image_0q.2.2.1
theorem dX11_image_5 : decode cX11_image 5 = .ok (.aload_n 0, 1) := eX11_image_0q.2.2.2.1
theorem dX11_image_6 : decode cX11_image 6 = .ok (.iconst 1, 1) := eX11_image_0q.2.2.2.2.1
theorem dX11_image_7 : decode cX11_image 7 = .ok (.putfield 256, 3) := eX11_image_0q.2.2.2.2.2.1
theorem dX11_image_10 : decode cX11_image 10 = .ok (.aload_n 0, 1) := eX11_image_0q.2.2.2.2.2.2.1
theorem dX11_image_11 : decode cX11_image 11 = .ok (.aload_n 0, 1) := eX11_image_0q.2.2.2.2.2.2.2
theorem eX11_image_12q : (decode cX11_image 12 = .ok (.getfield 250, 3)) ∧ (decode cX11_image 15 = .ok (.putfield 477, 3)) ∧ (decode cX11_image 18 = .ok (.aload_n 0, 1)) ∧ (decode cX11_image 19 = .ok (.aload_n 0, 1)) ∧ (decode cX11_image 20 = .ok (.getfield 253, 3)) ∧ (decode cX11_image 23 = .ok (.putfield 480, 3)) ∧ (decode cX11_image 26 = .ok (.aload_n 0, 1)) ∧ (decode cX11_image 27 = .ok (.getfield 121, 3)) := by decide +kernel
theorem dX11_image_12 : decode cX11_image 12 = .ok (.getfield 250, 3) := eX11_image_12q.1
theorem dX11_image_15 : decode cX11_image 15 = .ok (.putfield 477, 3) := eX11_image_12q.2.1
theorem dX11_image_18 : decode cX11_image 18 = .ok (.aload_n 0, 1) := eX11_image_12q.2.2.1
theorem dX11_image_19 : decode cX11_image 19 = .ok (.aload_n 0, 1) := eX11_image_12q.2.2.2.1
theorem dX11_image_20 : decode cX11_image 20 = .ok (.getfield 253, 3) := eX11_image_12q.2.2.2.2.1
theorem dX11_image_23 : decode cX11_image 23 = .ok (.putfield 480, 3) := eX11_image_12q.2.2.2.2.2.1
theorem dX11_image_26 : decode cX11_image 26 = .ok (.aload_n 0, 1) := eX11_image_12q.2.2.2.2.2.2.1
theorem dX11_image_27 : decode cX11_image 27 = .ok (.getfield 121, 3) := eX11_image_12q.2.2.2.2.2.2.2
theorem eX11_image_30q : (decode cX11_image 30 = .ok (.aload_n 0, 1)) ∧ (decode cX11_image 31 = .ok (.getfield 60, 3)) ∧ (decode cX11_image 34 = .ok (.invokestatic 467, 3)) ∧ (decode cX11_image 37 = .ok (.aload_n 0, 1)) ∧ (decode cX11_image 38 = .ok (.getfield 124, 3)) ∧ (decode cX11_image 41 = .ok (.aload_n 0, 1)) ∧ (decode cX11_image 42 = .ok (.getfield 84, 3)) ∧ (decode cX11_image 45 = .ok (.invokestatic 467, 3)) := by decide +kernel
theorem dX11_image_30 : decode cX11_image 30 = .ok (.aload_n 0, 1) := eX11_image_30q.1
theorem dX11_image_31 : decode cX11_image 31 = .ok (.getfield 60, 3) := eX11_image_30q.2.1
theorem dX11_image_34 : decode cX11_image 34 = .ok (.invokestatic 467, 3) := eX11_image_30q.2.2.1
theorem dX11_image_37 : decode cX11_image 37 = .ok (.aload_n 0, 1) := eX11_image_30q.2.2.2.1
theorem dX11_image_38 : decode cX11_image 38 = .ok (.getfield 124, 3) := eX11_image_30q.2.2.2.2.1
theorem dX11_image_41 : decode cX11_image 41 = .ok (.aload_n 0, 1) := eX11_image_30q.2.2.2.2.2.1
theorem dX11_image_42 : decode cX11_image 42 = .ok (.getfield 84, 3) := eX11_image_30q.2.2.2.2.2.2.1
theorem dX11_image_45 : decode cX11_image 45 = .ok (.invokestatic 467, 3) := eX11_image_30q.2.2.2.2.2.2.2
theorem eX11_image_48q : (decode cX11_image 48 = .ok (.aload_n 0, 1)) ∧ (decode cX11_image 49 = .ok (.getfield 127, 3)) ∧ (decode cX11_image 52 = .ok (.aload_n 0, 1)) ∧ (decode cX11_image 53 = .ok (.getfield 103, 3)) ∧ (decode cX11_image 56 = .ok (.invokestatic 467, 3)) ∧ (decode cX11_image 59 = .ok (.aload_n 0, 1)) ∧ (decode cX11_image 60 = .ok (.getfield 130, 3)) ∧ (decode cX11_image 63 = .ok (.aload_n 0, 1)) := by decide +kernel
theorem dX11_image_48 : decode cX11_image 48 = .ok (.aload_n 0, 1) := eX11_image_48q.1
theorem dX11_image_49 : decode cX11_image 49 = .ok (.getfield 127, 3) := eX11_image_48q.2.1
theorem dX11_image_52 : decode cX11_image 52 = .ok (.aload_n 0, 1) := eX11_image_48q.2.2.1
theorem dX11_image_53 : decode cX11_image 53 = .ok (.getfield 103, 3) := eX11_image_48q.2.2.2.1
theorem dX11_image_56 : decode cX11_image 56 = .ok (.invokestatic 467, 3) := eX11_image_48q.2.2.2.2.1
theorem dX11_image_59 : decode cX11_image 59 = .ok (.aload_n 0, 1) := eX11_image_48q.2.2.2.2.2.1
theorem dX11_image_60 : decode cX11_image 60 = .ok (.getfield 130, 3) := eX11_image_48q.2.2.2.2.2.2.1
theorem dX11_image_63 : decode cX11_image 63 = .ok (.aload_n 0, 1) := eX11_image_48q.2.2.2.2.2.2.2
theorem eX11_image_64q : (decode cX11_image 64 = .ok (.getfield 106, 3)) ∧ (decode cX11_image 67 = .ok (.invokestatic 467, 3)) ∧ (decode cX11_image 70 = .ok (.aload_n 0, 1)) ∧ (decode cX11_image 71 = .ok (.getfield 133, 3)) ∧ (decode cX11_image 74 = .ok (.aload_n 0, 1)) ∧ (decode cX11_image 75 = .ok (.getfield 109, 3)) ∧ (decode cX11_image 78 = .ok (.invokestatic 467, 3)) ∧ (decode cX11_image 81 = .ok (.aload_n 0, 1)) := by decide +kernel
theorem dX11_image_64 : decode cX11_image 64 = .ok (.getfield 106, 3) := eX11_image_64q.1
theorem dX11_image_67 : decode cX11_image 67 = .ok (.invokestatic 467, 3) := eX11_image_64q.2.1
theorem dX11_image_70 : decode cX11_image 70 = .ok (.aload_n 0, 1) := eX11_image_64q.2.2.1
theorem dX11_image_71 : decode cX11_image 71 = .ok (.getfield 133, 3) := eX11_image_64q.2.2.2.1
theorem dX11_image_74 : decode cX11_image 74 = .ok (.aload_n 0, 1) := eX11_image_64q.2.2.2.2.1
theorem dX11_image_75 : decode cX11_image 75 = .ok (.getfield 109, 3) := eX11_image_64q.2.2.2.2.2.1
theorem dX11_image_78 : decode cX11_image 78 = .ok (.invokestatic 467, 3) := eX11_image_64q.2.2.2.2.2.2.1
theorem dX11_image_81 : decode cX11_image 81 = .ok (.aload_n 0, 1) := eX11_image_64q.2.2.2.2.2.2.2
theorem eX11_image_82q : (decode cX11_image 82 = .ok (.getfield 136, 3)) ∧ (decode cX11_image 85 = .ok (.aload_n 0, 1)) ∧ (decode cX11_image 86 = .ok (.getfield 112, 3)) ∧ (decode cX11_image 89 = .ok (.invokestatic 467, 3)) ∧ (decode cX11_image 92 = .ok (.aload_n 0, 1)) ∧ (decode cX11_image 93 = .ok (.getfield 139, 3)) ∧ (decode cX11_image 96 = .ok (.aload_n 0, 1)) ∧ (decode cX11_image 97 = .ok (.getfield 63, 3)) := by decide +kernel
theorem dX11_image_82 : decode cX11_image 82 = .ok (.getfield 136, 3) := eX11_image_82q.1
theorem dX11_image_85 : decode cX11_image 85 = .ok (.aload_n 0, 1) := eX11_image_82q.2.1
theorem dX11_image_86 : decode cX11_image 86 = .ok (.getfield 112, 3) := eX11_image_82q.2.2.1
theorem dX11_image_89 : decode cX11_image 89 = .ok (.invokestatic 467, 3) := eX11_image_82q.2.2.2.1
theorem dX11_image_92 : decode cX11_image 92 = .ok (.aload_n 0, 1) := eX11_image_82q.2.2.2.2.1
theorem dX11_image_93 : decode cX11_image 93 = .ok (.getfield 139, 3) := eX11_image_82q.2.2.2.2.2.1
theorem dX11_image_96 : decode cX11_image 96 = .ok (.aload_n 0, 1) := eX11_image_82q.2.2.2.2.2.2.1
theorem dX11_image_97 : decode cX11_image 97 = .ok (.getfield 63, 3) := eX11_image_82q.2.2.2.2.2.2.2
theorem dX11_image_100 : decode cX11_image 100 = .ok (.invokestatic 467, 3) := by decide +kernel
theorem dX11_image_103 : decode cX11_image 103 = .ok (.return_, 1) := by decide +kernel
