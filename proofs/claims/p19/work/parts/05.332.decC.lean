set_option maxRecDepth 20000 in
theorem ggX2_placesAt_X2_comesTo : GoodIn wsX2_placesAt wsX2_comesTo := by
  have h := goodIn_app (goodIn_r (big := wsX2_placesAt) (.code yX2_comesTo cX2_comesTo 3 (some .boolean) :: ([.fieldLink RX2 46 "PathProber$Net" "reach" "[I"]) : List Cond) [6, 7] rfl (by decide +kernel)) (goodIn_few (big := wsX2_placesAt) (fun _ h9 => List.mem_cons_of_mem _ (List.mem_append_right _ h9)) gb_2)
  exact h
set_option maxRecDepth 20000 in
theorem gX2_placesAt_X2_comesTo : GoodIn wsX2_placesAt (wsV RX2 67 RX2 yX2_comesTo wsX2_comesTo) := goodIn_app (goodIn_r _ [2, 3, 4, 5] rfl (by decide +kernel)) ggX2_placesAt_X2_comesTo
set_option maxRecDepth 20000 in
theorem ggX2_placesAt_X2_placesBehind : GoodIn wsX2_placesAt wsX2_placesBehind := by
  have h := goodIn_app (goodIn_r (big := wsX2_placesAt) (.code yX2_placesBehind cX2_placesBehind 7 (some .int) :: ([.fieldLink RX2 37 "PathProber$Net" "links" "I", .methodLink RX2 94 yX2_routerOf, .instanceMethod yX2_routerOf, .selects RX2 yX2_routerOf yX2_routerOf, .initialized RX2, .code yX2_routerOf cX2_routerOf 2 (some .int), .fieldLink RX2 27 "PathProber$Net" "to" "[I", .methodLink RX2 75 yX2_branchesOf, .instanceMethod yX2_branchesOf, .selects RX2 yX2_branchesOf yX2_branchesOf, .code yX2_branchesOf cX2_branchesOf 3 (some .int), .fieldLink RX2 49 "PathProber$Net" "branches" "[I", .methodLink RX2 79 yX2_branchOf, .instanceMethod yX2_branchOf, .selects RX2 yX2_branchOf yX2_branchOf, .code yX2_branchOf cX2_branchOf 4 (some .int), .fieldLink RX2 52 "PathProber$Net" "branch" "[I"]) : List Cond) [11, 12, 13, 14, 15, 5, 16, 17, 18, 19, 20, 21, 22, 23, 24, 25, 26, 27] rfl (by decide +kernel)) (goodIn_few (big := wsX2_placesAt) (fun _ h9 => List.mem_cons_of_mem _ (List.mem_append_right _ h9)) gb_2)
  exact h
set_option maxRecDepth 20000 in
theorem gX2_placesAt_X2_placesBehind : GoodIn wsX2_placesAt (wsV RX2 91 RX2 yX2_placesBehind wsX2_placesBehind) := goodIn_app (goodIn_r _ [8, 9, 10, 5] rfl (by decide +kernel)) ggX2_placesAt_X2_placesBehind
theorem eX2_placesAt_0q : (decode cX2_placesAt 0 = .ok (.aload_n 0, 1)) ∧ (decode cX2_placesAt 1 = .ok (.iconst 0, 1)) ∧ (decode cX2_placesAt 2 = .ok (.aload_n 0, 1)) ∧ (decode cX2_placesAt 3 = .ok (.getfield 30, 3)) ∧ (decode cX2_placesAt 6 = .ok (.iload_n 1, 1)) ∧ (decode cX2_placesAt 7 = .ok (.iaload, 1)) ∧ (decode cX2_placesAt 8 = .ok (.invokevirtual 67, 3)) ∧ (decode cX2_placesAt 11 = .ok (.ifCond .eq 7, 3)) := by decide +kernel
theorem dX2_placesAt_0 : decode cX2_placesAt 0 = .ok (.aload_n 0, 1) := eX2_placesAt_0q.1
theorem dX2_placesAt_1 : decode cX2_placesAt 1 = .ok (.iconst 0, 1) := eX2_placesAt_0q.2.1
theorem dX2_placesAt_2 : decode cX2_placesAt 2 = .ok (.aload_n 0, 1) := eX2_placesAt_0q.2.2.1
theorem dX2_placesAt_3 : decode cX2_placesAt 3 = .ok (.getfield 30, 3) := eX2_placesAt_0q.2.2.2.1
theorem dX2_placesAt_6 : decode cX2_placesAt 6 = .ok (.iload_n 1, 1) := eX2_placesAt_0q.2.2.2.2.1
theorem dX2_placesAt_7 : decode cX2_placesAt 7 = .ok (.iaload, 1) := eX2_placesAt_0q.2.2.2.2.2.1
theorem dX2_placesAt_8 : decode cX2_placesAt 8 = .ok (.invokevirtual 67, 3) := eX2_placesAt_0q.2.2.2.2.2.2.1
theorem dX2_placesAt_11 : decode cX2_placesAt 11 = .ok (.ifCond .eq 7, 3) := eX2_placesAt_0q.2.2.2.2.2.2.2
theorem eX2_placesAt_14q : (decode cX2_placesAt 14 = .ok (.iconst 1, 1)) ∧ (decode cX2_placesAt 15 = .ok (.goto 4, 3)) ∧ (decode cX2_placesAt 18 = .ok (.iconst 0, 1)) ∧ (decode cX2_placesAt 19 = .ok (.istore_n 3, 1)) ∧ (decode cX2_placesAt 20 = .ok (.iconst 1, 1)) ∧ (decode cX2_placesAt 21 = .ok (.istore 4, 2)) ∧ (decode cX2_placesAt 23 = .ok (.iload 4, 2)) ∧ (decode cX2_placesAt 25 = .ok (.iload_n 2, 1)) := by decide +kernel
theorem dX2_placesAt_14 : decode cX2_placesAt 14 = .ok (.iconst 1, 1) := eX2_placesAt_14q.1
theorem dX2_placesAt_15 : decode cX2_placesAt 15 = .ok (.goto 4, 3) := eX2_placesAt_14q.2.1
theorem dX2_placesAt_18 : decode cX2_placesAt 18 = .ok (.iconst 0, 1) := eX2_placesAt_14q.2.2.1
theorem dX2_placesAt_19 : decode cX2_placesAt 19 = .ok (.istore_n 3, 1) := eX2_placesAt_14q.2.2.2.1
theorem dX2_placesAt_20 : decode cX2_placesAt 20 = .ok (.iconst 1, 1) := eX2_placesAt_14q.2.2.2.2.1
theorem dX2_placesAt_21 : decode cX2_placesAt 21 = .ok (.istore 4, 2) := eX2_placesAt_14q.2.2.2.2.2.1
theorem dX2_placesAt_23 : decode cX2_placesAt 23 = .ok (.iload 4, 2) := eX2_placesAt_14q.2.2.2.2.2.2.1
theorem dX2_placesAt_25 : decode cX2_placesAt 25 = .ok (.iload_n 2, 1) := eX2_placesAt_14q.2.2.2.2.2.2.2
theorem eX2_placesAt_26q : (decode cX2_placesAt 26 = .ok (.if_icmp .ge 16, 3)) ∧ (decode cX2_placesAt 29 = .ok (.aload_n 0, 1)) ∧ (decode cX2_placesAt 30 = .ok (.iload_n 1, 1)) ∧ (decode cX2_placesAt 31 = .ok (.iload_n 3, 1)) ∧ (decode cX2_placesAt 32 = .ok (.invokevirtual 91, 3)) ∧ (decode cX2_placesAt 35 = .ok (.istore_n 3, 1)) ∧ (decode cX2_placesAt 36 = .ok (.iinc 4 1, 3)) ∧ (decode cX2_placesAt 39 = .ok (.goto (-16), 3)) := by decide +kernel
theorem dX2_placesAt_26 : decode cX2_placesAt 26 = .ok (.if_icmp .ge 16, 3) := eX2_placesAt_26q.1
theorem dX2_placesAt_29 : decode cX2_placesAt 29 = .ok (.aload_n 0, 1) := eX2_placesAt_26q.2.1
theorem dX2_placesAt_30 : decode cX2_placesAt 30 = .ok (.iload_n 1, 1) := eX2_placesAt_26q.2.2.1
theorem dX2_placesAt_31 : decode cX2_placesAt 31 = .ok (.iload_n 3, 1) := eX2_placesAt_26q.2.2.2.1
theorem dX2_placesAt_32 : decode cX2_placesAt 32 = .ok (.invokevirtual 91, 3) := eX2_placesAt_26q.2.2.2.2.1
theorem dX2_placesAt_35 : decode cX2_placesAt 35 = .ok (.istore_n 3, 1) := eX2_placesAt_26q.2.2.2.2.2.1
theorem dX2_placesAt_36 : decode cX2_placesAt 36 = .ok (.iinc 4 1, 3) := eX2_placesAt_26q.2.2.2.2.2.2.1
theorem dX2_placesAt_39 : decode cX2_placesAt 39 = .ok (.goto (-16), 3) := eX2_placesAt_26q.2.2.2.2.2.2.2
theorem dX2_placesAt_42 : decode cX2_placesAt 42 = .ok (.iload_n 3, 1) := by decide +kernel
theorem dX2_placesAt_43 : decode cX2_placesAt 43 = .ok (.ireturn, 1) := by decide +kernel
set_option maxRecDepth 20000 in
theorem ggX2_linksOnWaysTo_X2_comesTo : GoodIn wsX2_linksOnWaysTo wsX2_comesTo := by
  have h := goodIn_app (goodIn_r (big := wsX2_linksOnWaysTo) (.code yX2_comesTo cX2_comesTo 3 (some .boolean) :: ([.fieldLink RX2 46 "PathProber$Net" "reach" "[I"]) : List Cond) [9, 10] rfl (by decide +kernel)) (goodIn_few (big := wsX2_linksOnWaysTo) (fun _ h9 => List.mem_cons_of_mem _ (List.mem_append_right _ h9)) gb_2)
  exact h
set_option maxRecDepth 20000 in
theorem gX2_linksOnWaysTo_X2_comesTo : GoodIn wsX2_linksOnWaysTo (wsV RX2 67 RX2 yX2_comesTo wsX2_comesTo) := goodIn_app (goodIn_r _ [5, 6, 7, 8] rfl (by decide +kernel)) ggX2_linksOnWaysTo_X2_comesTo
theorem eX2_linksOnWaysTo_0q : (decode cX2_linksOnWaysTo 0 = .ok (.iconst 0, 1)) ∧ (decode cX2_linksOnWaysTo 1 = .ok (.istore_n 2, 1)) ∧ (decode cX2_linksOnWaysTo 2 = .ok (.iconst 0, 1)) ∧ (decode cX2_linksOnWaysTo 3 = .ok (.istore_n 3, 1)) ∧ (decode cX2_linksOnWaysTo 4 = .ok (.iload_n 3, 1)) ∧ (decode cX2_linksOnWaysTo 5 = .ok (.aload_n 0, 1)) ∧ (decode cX2_linksOnWaysTo 6 = .ok (.getfield 37, 3)) ∧ (decode cX2_linksOnWaysTo 9 = .ok (.if_icmp .ge 48, 3)) := by decide +kernel
theorem dX2_linksOnWaysTo_0 : decode cX2_linksOnWaysTo 0 = .ok (.iconst 0, 1) := eX2_linksOnWaysTo_0q.1
theorem dX2_linksOnWaysTo_1 : decode cX2_linksOnWaysTo 1 = .ok (.istore_n 2, 1) := eX2_linksOnWaysTo_0q.2.1
theorem dX2_linksOnWaysTo_2 : decode cX2_linksOnWaysTo 2 = .ok (.iconst 0, 1) := eX2_linksOnWaysTo_0q.2.2.1
theorem dX2_linksOnWaysTo_3 : decode cX2_linksOnWaysTo 3 = .ok (.istore_n 3, 1) := eX2_linksOnWaysTo_0q.2.2.2.1
theorem dX2_linksOnWaysTo_4 : decode cX2_linksOnWaysTo 4 = .ok (.iload_n 3, 1) := eX2_linksOnWaysTo_0q.2.2.2.2.1
theorem dX2_linksOnWaysTo_5 : decode cX2_linksOnWaysTo 5 = .ok (.aload_n 0, 1) := eX2_linksOnWaysTo_0q.2.2.2.2.2.1
theorem dX2_linksOnWaysTo_6 : decode cX2_linksOnWaysTo 6 = .ok (.getfield 37, 3) := eX2_linksOnWaysTo_0q.2.2.2.2.2.2.1
theorem dX2_linksOnWaysTo_9 : decode cX2_linksOnWaysTo 9 = .ok (.if_icmp .ge 48, 3) := eX2_linksOnWaysTo_0q.2.2.2.2.2.2.2
theorem eX2_linksOnWaysTo_12q : (decode cX2_linksOnWaysTo 12 = .ok (.aload_n 0, 1)) ∧ (decode cX2_linksOnWaysTo 13 = .ok (.iconst 0, 1)) ∧ (decode cX2_linksOnWaysTo 14 = .ok (.aload_n 0, 1)) ∧ (decode cX2_linksOnWaysTo 15 = .ok (.getfield 24, 3)) ∧ (decode cX2_linksOnWaysTo 18 = .ok (.iload_n 3, 1)) ∧ (decode cX2_linksOnWaysTo 19 = .ok (.iaload, 1)) ∧ (decode cX2_linksOnWaysTo 20 = .ok (.invokevirtual 67, 3)) ∧ (decode cX2_linksOnWaysTo 23 = .ok (.ifCond .eq 28, 3)) := by decide +kernel
theorem dX2_linksOnWaysTo_12 : decode cX2_linksOnWaysTo 12 = .ok (.aload_n 0, 1) := eX2_linksOnWaysTo_12q.1
theorem dX2_linksOnWaysTo_13 : decode cX2_linksOnWaysTo 13 = .ok (.iconst 0, 1) := eX2_linksOnWaysTo_12q.2.1
theorem dX2_linksOnWaysTo_14 : decode cX2_linksOnWaysTo 14 = .ok (.aload_n 0, 1) := eX2_linksOnWaysTo_12q.2.2.1
theorem dX2_linksOnWaysTo_15 : decode cX2_linksOnWaysTo 15 = .ok (.getfield 24, 3) := eX2_linksOnWaysTo_12q.2.2.2.1
theorem dX2_linksOnWaysTo_18 : decode cX2_linksOnWaysTo 18 = .ok (.iload_n 3, 1) := eX2_linksOnWaysTo_12q.2.2.2.2.1
theorem dX2_linksOnWaysTo_19 : decode cX2_linksOnWaysTo 19 = .ok (.iaload, 1) := eX2_linksOnWaysTo_12q.2.2.2.2.2.1
theorem dX2_linksOnWaysTo_20 : decode cX2_linksOnWaysTo 20 = .ok (.invokevirtual 67, 3) := eX2_linksOnWaysTo_12q.2.2.2.2.2.2.1
theorem dX2_linksOnWaysTo_23 : decode cX2_linksOnWaysTo 23 = .ok (.ifCond .eq 28, 3) := eX2_linksOnWaysTo_12q.2.2.2.2.2.2.2
theorem eX2_linksOnWaysTo_26q : (decode cX2_linksOnWaysTo 26 = .ok (.aload_n 0, 1)) ∧ (decode cX2_linksOnWaysTo 27 = .ok (.aload_n 0, 1)) ∧ (decode cX2_linksOnWaysTo 28 = .ok (.getfield 27, 3)) ∧ (decode cX2_linksOnWaysTo 31 = .ok (.iload_n 3, 1)) ∧ (decode cX2_linksOnWaysTo 32 = .ok (.iaload, 1)) ∧ (decode cX2_linksOnWaysTo 33 = .ok (.aload_n 0, 1)) ∧ (decode cX2_linksOnWaysTo 34 = .ok (.getfield 30, 3)) ∧ (decode cX2_linksOnWaysTo 37 = .ok (.iload_n 1, 1)) := by decide +kernel
theorem dX2_linksOnWaysTo_26 : decode cX2_linksOnWaysTo 26 = .ok (.aload_n 0, 1) := eX2_linksOnWaysTo_26q.1
theorem dX2_linksOnWaysTo_27 : decode cX2_linksOnWaysTo 27 = .ok (.aload_n 0, 1) := eX2_linksOnWaysTo_26q.2.1
theorem dX2_linksOnWaysTo_28 : decode cX2_linksOnWaysTo 28 = .ok (.getfield 27, 3) := eX2_linksOnWaysTo_26q.2.2.1
theorem dX2_linksOnWaysTo_31 : decode cX2_linksOnWaysTo 31 = .ok (.iload_n 3, 1) := eX2_linksOnWaysTo_26q.2.2.2.1
theorem dX2_linksOnWaysTo_32 : decode cX2_linksOnWaysTo 32 = .ok (.iaload, 1) := eX2_linksOnWaysTo_26q.2.2.2.2.1
theorem dX2_linksOnWaysTo_33 : decode cX2_linksOnWaysTo 33 = .ok (.aload_n 0, 1) := eX2_linksOnWaysTo_26q.2.2.2.2.2.1
theorem dX2_linksOnWaysTo_34 : decode cX2_linksOnWaysTo 34 = .ok (.getfield 30, 3) := eX2_linksOnWaysTo_26q.2.2.2.2.2.2.1
theorem dX2_linksOnWaysTo_37 : decode cX2_linksOnWaysTo 37 = .ok (.iload_n 1, 1) := eX2_linksOnWaysTo_26q.2.2.2.2.2.2.2
theorem eX2_linksOnWaysTo_38q : (decode cX2_linksOnWaysTo 38 = .ok (.iaload, 1)) ∧ (decode cX2_linksOnWaysTo 39 = .ok (.invokevirtual 67, 3)) ∧ (decode cX2_linksOnWaysTo 42 = .ok (.ifCond .eq 9, 3)) ∧ (decode cX2_linksOnWaysTo 45 = .ok (.iload_n 2, 1)) ∧ (decode cX2_linksOnWaysTo 46 = .ok (.iconst 1, 1)) ∧ (decode cX2_linksOnWaysTo 47 = .ok (.iload_n 3, 1)) ∧ (decode cX2_linksOnWaysTo 48 = .ok (.ishl, 1)) ∧ (decode cX2_linksOnWaysTo 49 = .ok (.ior, 1)) := by decide +kernel
theorem dX2_linksOnWaysTo_38 : decode cX2_linksOnWaysTo 38 = .ok (.iaload, 1) := eX2_linksOnWaysTo_38q.1
theorem dX2_linksOnWaysTo_39 : decode cX2_linksOnWaysTo 39 = .ok (.invokevirtual 67, 3) := eX2_linksOnWaysTo_38q.2.1
theorem dX2_linksOnWaysTo_42 : decode cX2_linksOnWaysTo 42 = .ok (.ifCond .eq 9, 3) := eX2_linksOnWaysTo_38q.2.2.1
theorem dX2_linksOnWaysTo_45 : decode cX2_linksOnWaysTo 45 = .ok (.iload_n 2, 1) := eX2_linksOnWaysTo_38q.2.2.2.1
theorem dX2_linksOnWaysTo_46 : decode cX2_linksOnWaysTo 46 = .ok (.iconst 1, 1) := eX2_linksOnWaysTo_38q.2.2.2.2.1
theorem dX2_linksOnWaysTo_47 : decode cX2_linksOnWaysTo 47 = .ok (.iload_n 3, 1) := eX2_linksOnWaysTo_38q.2.2.2.2.2.1
theorem dX2_linksOnWaysTo_48 : decode cX2_linksOnWaysTo 48 = .ok (.ishl, 1) := eX2_linksOnWaysTo_38q.2.2.2.2.2.2.1
theorem dX2_linksOnWaysTo_49 : decode cX2_linksOnWaysTo 49 = .ok (.ior, 1) := eX2_linksOnWaysTo_38q.2.2.2.2.2.2.2
theorem eX2_linksOnWaysTo_50q : (decode cX2_linksOnWaysTo 50 = .ok (.istore_n 2, 1)) ∧ (decode cX2_linksOnWaysTo 51 = .ok (.iinc 3 1, 3)) ∧ (decode cX2_linksOnWaysTo 54 = .ok (.goto (-50), 3)) ∧ (decode cX2_linksOnWaysTo 57 = .ok (.iload_n 2, 1)) ∧ (decode cX2_linksOnWaysTo 58 = .ok (.ireturn, 1)) := by decide +kernel
theorem dX2_linksOnWaysTo_50 : decode cX2_linksOnWaysTo 50 = .ok (.istore_n 2, 1) := eX2_linksOnWaysTo_50q.1
theorem dX2_linksOnWaysTo_51 : decode cX2_linksOnWaysTo 51 = .ok (.iinc 3 1, 3) := eX2_linksOnWaysTo_50q.2.1
theorem dX2_linksOnWaysTo_54 : decode cX2_linksOnWaysTo 54 = .ok (.goto (-50), 3) := eX2_linksOnWaysTo_50q.2.2.1
theorem dX2_linksOnWaysTo_57 : decode cX2_linksOnWaysTo 57 = .ok (.iload_n 2, 1) := eX2_linksOnWaysTo_50q.2.2.2.1
theorem dX2_linksOnWaysTo_58 : decode cX2_linksOnWaysTo 58 = .ok (.ireturn, 1) := eX2_linksOnWaysTo_50q.2.2.2.2
set_option maxRecDepth 20000 in
theorem ggX2_whyLoopAt_X2_comesTo : GoodIn wsX2_whyLoopAt wsX2_comesTo := by
  have h := goodIn_app (goodIn_r (big := wsX2_whyLoopAt) (.code yX2_comesTo cX2_comesTo 3 (some .boolean) :: ([.fieldLink RX2 46 "PathProber$Net" "reach" "[I"]) : List Cond) [11, 12] rfl (by decide +kernel)) (goodIn_few (big := wsX2_whyLoopAt) (fun _ h9 => List.mem_cons_of_mem _ (List.mem_append_right _ h9)) gb_2)
  exact h
set_option maxRecDepth 20000 in
theorem gX2_whyLoopAt_X2_comesTo : GoodIn wsX2_whyLoopAt (wsV RX2 67 RX2 yX2_comesTo wsX2_comesTo) := goodIn_app (goodIn_r _ [7, 8, 9, 10] rfl (by decide +kernel)) ggX2_whyLoopAt_X2_comesTo
theorem eX2_whyLoopAt_0q : (decode cX2_whyLoopAt 0 = .ok (.iconst 0, 1)) ∧ (decode cX2_whyLoopAt 1 = .ok (.istore_n 2, 1)) ∧ (decode cX2_whyLoopAt 2 = .ok (.iload_n 2, 1)) ∧ (decode cX2_whyLoopAt 3 = .ok (.aload_n 0, 1)) ∧ (decode cX2_whyLoopAt 4 = .ok (.getfield 37, 3)) ∧ (decode cX2_whyLoopAt 7 = .ok (.if_icmp .ge 36, 3)) ∧ (decode cX2_whyLoopAt 10 = .ok (.aload_n 0, 1)) ∧ (decode cX2_whyLoopAt 11 = .ok (.getfield 27, 3)) := by decide +kernel
theorem dX2_whyLoopAt_0 : decode cX2_whyLoopAt 0 = .ok (.iconst 0, 1) := eX2_whyLoopAt_0q.1
theorem dX2_whyLoopAt_1 : decode cX2_whyLoopAt 1 = .ok (.istore_n 2, 1) := eX2_whyLoopAt_0q.2.1
theorem dX2_whyLoopAt_2 : decode cX2_whyLoopAt 2 = .ok (.iload_n 2, 1) := eX2_whyLoopAt_0q.2.2.1
theorem dX2_whyLoopAt_3 : decode cX2_whyLoopAt 3 = .ok (.aload_n 0, 1) := eX2_whyLoopAt_0q.2.2.2.1
theorem dX2_whyLoopAt_4 : decode cX2_whyLoopAt 4 = .ok (.getfield 37, 3) := eX2_whyLoopAt_0q.2.2.2.2.1
theorem dX2_whyLoopAt_7 : decode cX2_whyLoopAt 7 = .ok (.if_icmp .ge 36, 3) := eX2_whyLoopAt_0q.2.2.2.2.2.1
theorem dX2_whyLoopAt_10 : decode cX2_whyLoopAt 10 = .ok (.aload_n 0, 1) := eX2_whyLoopAt_0q.2.2.2.2.2.2.1
theorem dX2_whyLoopAt_11 : decode cX2_whyLoopAt 11 = .ok (.getfield 27, 3) := eX2_whyLoopAt_0q.2.2.2.2.2.2.2
theorem eX2_whyLoopAt_14q : (decode cX2_whyLoopAt 14 = .ok (.iload_n 2, 1)) ∧ (decode cX2_whyLoopAt 15 = .ok (.iaload, 1)) ∧ (decode cX2_whyLoopAt 16 = .ok (.iload_n 1, 1)) ∧ (decode cX2_whyLoopAt 17 = .ok (.if_icmp .ne 20, 3)) ∧ (decode cX2_whyLoopAt 20 = .ok (.aload_n 0, 1)) ∧ (decode cX2_whyLoopAt 21 = .ok (.getfield 21, 3)) ∧ (decode cX2_whyLoopAt 24 = .ok (.aload_n 0, 1)) ∧ (decode cX2_whyLoopAt 25 = .ok (.getfield 24, 3)) := by decide +kernel
theorem dX2_whyLoopAt_14 : decode cX2_whyLoopAt 14 = .ok (.iload_n 2, 1) := eX2_whyLoopAt_14q.1
theorem dX2_whyLoopAt_15 : decode cX2_whyLoopAt 15 = .ok (.iaload, 1) := eX2_whyLoopAt_14q.2.1
theorem dX2_whyLoopAt_16 : decode cX2_whyLoopAt 16 = .ok (.iload_n 1, 1) := eX2_whyLoopAt_14q.2.2.1
theorem dX2_whyLoopAt_17 : decode cX2_whyLoopAt 17 = .ok (.if_icmp .ne 20, 3) := eX2_whyLoopAt_14q.2.2.2.1
theorem dX2_whyLoopAt_20 : decode cX2_whyLoopAt 20 = .ok (.aload_n 0, 1) := eX2_whyLoopAt_14q.2.2.2.2.1
theorem dX2_whyLoopAt_21 : decode cX2_whyLoopAt 21 = .ok (.getfield 21, 3) := eX2_whyLoopAt_14q.2.2.2.2.2.1
theorem dX2_whyLoopAt_24 : decode cX2_whyLoopAt 24 = .ok (.aload_n 0, 1) := eX2_whyLoopAt_14q.2.2.2.2.2.2.1
theorem dX2_whyLoopAt_25 : decode cX2_whyLoopAt 25 = .ok (.getfield 24, 3) := eX2_whyLoopAt_14q.2.2.2.2.2.2.2
theorem eX2_whyLoopAt_28q : (decode cX2_whyLoopAt 28 = .ok (.iload_n 2, 1)) ∧ (decode cX2_whyLoopAt 29 = .ok (.iaload, 1)) ∧ (decode cX2_whyLoopAt 30 = .ok (.iaload, 1)) ∧ (decode cX2_whyLoopAt 31 = .ok (.iconst 2, 1)) ∧ (decode cX2_whyLoopAt 32 = .ok (.if_icmp .ne 5, 3)) ∧ (decode cX2_whyLoopAt 35 = .ok (.iconst 1, 1)) ∧ (decode cX2_whyLoopAt 36 = .ok (.ireturn, 1)) ∧ (decode cX2_whyLoopAt 37 = .ok (.iinc 2 1, 3)) := by decide +kernel
theorem dX2_whyLoopAt_28 : decode cX2_whyLoopAt 28 = .ok (.iload_n 2, 1) := eX2_whyLoopAt_28q.1
theorem dX2_whyLoopAt_29 : decode cX2_whyLoopAt 29 = .ok (.iaload, 1) := eX2_whyLoopAt_28q.2.1
theorem dX2_whyLoopAt_30 : decode cX2_whyLoopAt 30 = .ok (.iaload, 1) := eX2_whyLoopAt_28q.2.2.1
theorem dX2_whyLoopAt_31 : decode cX2_whyLoopAt 31 = .ok (.iconst 2, 1) := eX2_whyLoopAt_28q.2.2.2.1
theorem dX2_whyLoopAt_32 : decode cX2_whyLoopAt 32 = .ok (.if_icmp .ne 5, 3) := eX2_whyLoopAt_28q.2.2.2.2.1
theorem dX2_whyLoopAt_35 : decode cX2_whyLoopAt 35 = .ok (.iconst 1, 1) := eX2_whyLoopAt_28q.2.2.2.2.2.1
theorem dX2_whyLoopAt_36 : decode cX2_whyLoopAt 36 = .ok (.ireturn, 1) := eX2_whyLoopAt_28q.2.2.2.2.2.2.1
theorem dX2_whyLoopAt_37 : decode cX2_whyLoopAt 37 = .ok (.iinc 2 1, 3) := eX2_whyLoopAt_28q.2.2.2.2.2.2.2
theorem eX2_whyLoopAt_40q : (decode cX2_whyLoopAt 40 = .ok (.goto (-38), 3)) ∧ (decode cX2_whyLoopAt 43 = .ok (.iconst 0, 1)) ∧ (decode cX2_whyLoopAt 44 = .ok (.istore_n 2, 1)) ∧ (decode cX2_whyLoopAt 45 = .ok (.iload_n 2, 1)) ∧ (decode cX2_whyLoopAt 46 = .ok (.aload_n 0, 1)) ∧ (decode cX2_whyLoopAt 47 = .ok (.getfield 33, 3)) ∧ (decode cX2_whyLoopAt 50 = .ok (.if_icmp .ge 39, 3)) ∧ (decode cX2_whyLoopAt 53 = .ok (.aload_n 0, 1)) := by decide +kernel
theorem dX2_whyLoopAt_40 : decode cX2_whyLoopAt 40 = .ok (.goto (-38), 3) := eX2_whyLoopAt_40q.1
theorem dX2_whyLoopAt_43 : decode cX2_whyLoopAt 43 = .ok (.iconst 0, 1) := eX2_whyLoopAt_40q.2.1
theorem dX2_whyLoopAt_44 : decode cX2_whyLoopAt 44 = .ok (.istore_n 2, 1) := eX2_whyLoopAt_40q.2.2.1
theorem dX2_whyLoopAt_45 : decode cX2_whyLoopAt 45 = .ok (.iload_n 2, 1) := eX2_whyLoopAt_40q.2.2.2.1
theorem dX2_whyLoopAt_46 : decode cX2_whyLoopAt 46 = .ok (.aload_n 0, 1) := eX2_whyLoopAt_40q.2.2.2.2.1
theorem dX2_whyLoopAt_47 : decode cX2_whyLoopAt 47 = .ok (.getfield 33, 3) := eX2_whyLoopAt_40q.2.2.2.2.2.1
theorem dX2_whyLoopAt_50 : decode cX2_whyLoopAt 50 = .ok (.if_icmp .ge 39, 3) := eX2_whyLoopAt_40q.2.2.2.2.2.2.1
theorem dX2_whyLoopAt_53 : decode cX2_whyLoopAt 53 = .ok (.aload_n 0, 1) := eX2_whyLoopAt_40q.2.2.2.2.2.2.2
theorem eX2_whyLoopAt_54q : (decode cX2_whyLoopAt 54 = .ok (.getfield 9, 3)) ∧ (decode cX2_whyLoopAt 57 = .ok (.iload_n 2, 1)) ∧ (decode cX2_whyLoopAt 58 = .ok (.iaload, 1)) ∧ (decode cX2_whyLoopAt 59 = .ok (.iconst 2, 1)) ∧ (decode cX2_whyLoopAt 60 = .ok (.if_icmp .ne 23, 3)) ∧ (decode cX2_whyLoopAt 63 = .ok (.aload_n 0, 1)) ∧ (decode cX2_whyLoopAt 64 = .ok (.iconst 0, 1)) ∧ (decode cX2_whyLoopAt 65 = .ok (.iload_n 2, 1)) := by decide +kernel
theorem dX2_whyLoopAt_54 : decode cX2_whyLoopAt 54 = .ok (.getfield 9, 3) := eX2_whyLoopAt_54q.1
theorem dX2_whyLoopAt_57 : decode cX2_whyLoopAt 57 = .ok (.iload_n 2, 1) := eX2_whyLoopAt_54q.2.1
theorem dX2_whyLoopAt_58 : decode cX2_whyLoopAt 58 = .ok (.iaload, 1) := eX2_whyLoopAt_54q.2.2.1
theorem dX2_whyLoopAt_59 : decode cX2_whyLoopAt 59 = .ok (.iconst 2, 1) := eX2_whyLoopAt_54q.2.2.2.1
theorem dX2_whyLoopAt_60 : decode cX2_whyLoopAt 60 = .ok (.if_icmp .ne 23, 3) := eX2_whyLoopAt_54q.2.2.2.2.1
theorem dX2_whyLoopAt_63 : decode cX2_whyLoopAt 63 = .ok (.aload_n 0, 1) := eX2_whyLoopAt_54q.2.2.2.2.2.1
theorem dX2_whyLoopAt_64 : decode cX2_whyLoopAt 64 = .ok (.iconst 0, 1) := eX2_whyLoopAt_54q.2.2.2.2.2.2.1
theorem dX2_whyLoopAt_65 : decode cX2_whyLoopAt 65 = .ok (.iload_n 2, 1) := eX2_whyLoopAt_54q.2.2.2.2.2.2.2
theorem eX2_whyLoopAt_66q : (decode cX2_whyLoopAt 66 = .ok (.invokevirtual 67, 3)) ∧ (decode cX2_whyLoopAt 69 = .ok (.ifCond .eq 14, 3)) ∧ (decode cX2_whyLoopAt 72 = .ok (.aload_n 0, 1)) ∧ (decode cX2_whyLoopAt 73 = .ok (.iload_n 2, 1)) ∧ (decode cX2_whyLoopAt 74 = .ok (.iload_n 1, 1)) ∧ (decode cX2_whyLoopAt 75 = .ok (.invokevirtual 67, 3)) ∧ (decode cX2_whyLoopAt 78 = .ok (.ifCond .eq 5, 3)) ∧ (decode cX2_whyLoopAt 81 = .ok (.iconst 2, 1)) := by decide +kernel
theorem dX2_whyLoopAt_66 : decode cX2_whyLoopAt 66 = .ok (.invokevirtual 67, 3) := eX2_whyLoopAt_66q.1
theorem dX2_whyLoopAt_69 : decode cX2_whyLoopAt 69 = .ok (.ifCond .eq 14, 3) := eX2_whyLoopAt_66q.2.1
theorem dX2_whyLoopAt_72 : decode cX2_whyLoopAt 72 = .ok (.aload_n 0, 1) := eX2_whyLoopAt_66q.2.2.1
theorem dX2_whyLoopAt_73 : decode cX2_whyLoopAt 73 = .ok (.iload_n 2, 1) := eX2_whyLoopAt_66q.2.2.2.1
theorem dX2_whyLoopAt_74 : decode cX2_whyLoopAt 74 = .ok (.iload_n 1, 1) := eX2_whyLoopAt_66q.2.2.2.2.1
theorem dX2_whyLoopAt_75 : decode cX2_whyLoopAt 75 = .ok (.invokevirtual 67, 3) := eX2_whyLoopAt_66q.2.2.2.2.2.1
theorem dX2_whyLoopAt_78 : decode cX2_whyLoopAt 78 = .ok (.ifCond .eq 5, 3) := eX2_whyLoopAt_66q.2.2.2.2.2.2.1
theorem dX2_whyLoopAt_81 : decode cX2_whyLoopAt 81 = .ok (.iconst 2, 1) := eX2_whyLoopAt_66q.2.2.2.2.2.2.2
theorem eX2_whyLoopAt_82q : (decode cX2_whyLoopAt 82 = .ok (.ireturn, 1)) ∧ (decode cX2_whyLoopAt 83 = .ok (.iinc 2 1, 3)) ∧ (decode cX2_whyLoopAt 86 = .ok (.goto (-41), 3)) ∧ (decode cX2_whyLoopAt 89 = .ok (.iconst 3, 1)) ∧ (decode cX2_whyLoopAt 90 = .ok (.ireturn, 1)) := by decide +kernel
theorem dX2_whyLoopAt_82 : decode cX2_whyLoopAt 82 = .ok (.ireturn, 1) := eX2_whyLoopAt_82q.1
theorem dX2_whyLoopAt_83 : decode cX2_whyLoopAt 83 = .ok (.iinc 2 1, 3) := eX2_whyLoopAt_82q.2.1
theorem dX2_whyLoopAt_86 : decode cX2_whyLoopAt 86 = .ok (.goto (-41), 3) := eX2_whyLoopAt_82q.2.2.1
theorem dX2_whyLoopAt_89 : decode cX2_whyLoopAt 89 = .ok (.iconst 3, 1) := eX2_whyLoopAt_82q.2.2.2.1
theorem dX2_whyLoopAt_90 : decode cX2_whyLoopAt 90 = .ok (.ireturn, 1) := eX2_whyLoopAt_82q.2.2.2.2
set_option maxRecDepth 20000 in
theorem ggX4_missed_X4_begin : GoodIn wsX4_missed wsX4_begin := by
  have h := goodIn_app (goodIn_r (big := wsX4_missed) (.code yX4_begin cX4_begin 3 none :: ([.fieldLink RX4 9 "PathProber$Odds" "met" "[J", .constantLong RX4 23 (1000000000000)]) : List Cond) [7, 1, 2] rfl (by decide +kernel)) (goodIn_few (big := wsX4_missed) (fun _ h9 => List.mem_cons_of_mem _ (List.mem_append_right _ h9)) gb_3)
  exact h
set_option maxRecDepth 20000 in
theorem gX4_missed_X4_begin : GoodIn wsX4_missed (wsV RX4 25 RX4 yX4_begin wsX4_begin) := goodIn_app (goodIn_r _ [3, 4, 5, 6] rfl (by decide +kernel)) ggX4_missed_X4_begin
set_option maxRecDepth 20000 in
theorem ggX4_missed_X4_sendNext : GoodIn wsX4_missed wsX4_sendNext := by
  have h := goodIn_app (goodIn_r (big := wsX4_missed) (.code yX4_sendNext cX4_sendNext 5 none :: ([.fieldLink RX4 9 "PathProber$Odds" "met" "[J"]) : List Cond) [11, 1] rfl (by decide +kernel)) (goodIn_few (big := wsX4_missed) (fun _ h9 => List.mem_cons_of_mem _ (List.mem_append_right _ h9)) gb_3)
  exact h
set_option maxRecDepth 20000 in
theorem gX4_missed_X4_sendNext : GoodIn wsX4_missed (wsV RX4 29 RX4 yX4_sendNext wsX4_sendNext) := goodIn_app (goodIn_r _ [8, 9, 10, 6] rfl (by decide +kernel)) ggX4_missed_X4_sendNext
theorem eX4_missed_0q : (decode cX4_missed 0 = .ok (.iload_n 2, 1)) ∧ (decode cX4_missed 1 = .ok (.iconst 1, 1)) ∧ (decode cX4_missed 2 = .ok (.if_icmp .lt 12, 3)) ∧ (decode cX4_missed 5 = .ok (.iload_n 2, 1)) ∧ (decode cX4_missed 6 = .ok (.aload_n 0, 1)) ∧ (decode cX4_missed 7 = .ok (.getfield 9, 3)) ∧ (decode cX4_missed 10 = .ok (.arraylength, 1)) ∧ (decode cX4_missed 11 = .ok (.if_icmp .lt 7, 3)) := by decide +kernel
theorem dX4_missed_0 : decode cX4_missed 0 = .ok (.iload_n 2, 1) := eX4_missed_0q.1
theorem dX4_missed_1 : decode cX4_missed 1 = .ok (.iconst 1, 1) := eX4_missed_0q.2.1
theorem dX4_missed_2 : decode cX4_missed 2 = .ok (.if_icmp .lt 12, 3) := eX4_missed_0q.2.2.1
theorem dX4_missed_5 : decode cX4_missed 5 = .ok (.iload_n 2, 1) := eX4_missed_0q.2.2.2.1
theorem dX4_missed_6 : decode cX4_missed 6 = .ok (.aload_n 0, 1) := eX4_missed_0q.2.2.2.2.1
theorem dX4_missed_7 : decode cX4_missed 7 = .ok (.getfield 9, 3) := eX4_missed_0q.2.2.2.2.2.1
theorem dX4_missed_10 : decode cX4_missed 10 = .ok (.arraylength, 1) := eX4_missed_0q.2.2.2.2.2.2.1
theorem dX4_missed_11 : decode cX4_missed 11 = .ok (.if_icmp .lt 7, 3) := eX4_missed_0q.2.2.2.2.2.2.2
theorem eX4_missed_14q : (decode cX4_missed 14 = .ok (.ldc2_w 23, 3)) ∧ (decode cX4_missed 17 = .ok (.lreturn, 1)) ∧ (decode cX4_missed 18 = .ok (.aload_n 0, 1)) ∧ (decode cX4_missed 19 = .ok (.iload_n 2, 1)) ∧ (decode cX4_missed 20 = .ok (.invokevirtual 25, 3)) ∧ (decode cX4_missed 23 = .ok (.iconst 0, 1)) ∧ (decode cX4_missed 24 = .ok (.istore_n 3, 1)) ∧ (decode cX4_missed 25 = .ok (.iload_n 3, 1)) := by decide +kernel
theorem dX4_missed_14 : decode cX4_missed 14 = .ok (.ldc2_w 23, 3) := eX4_missed_14q.1
theorem dX4_missed_17 : decode cX4_missed 17 = .ok (.lreturn, 1) := eX4_missed_14q.2.1
theorem dX4_missed_18 : decode cX4_missed 18 = .ok (.aload_n 0, 1) := eX4_missed_14q.2.2.1
theorem dX4_missed_19 : decode cX4_missed 19 = .ok (.iload_n 2, 1) := eX4_missed_14q.2.2.2.1
theorem dX4_missed_20 : decode cX4_missed 20 = .ok (.invokevirtual 25, 3) := eX4_missed_14q.2.2.2.2.1
theorem dX4_missed_23 : decode cX4_missed 23 = .ok (.iconst 0, 1) := eX4_missed_14q.2.2.2.2.2.1
theorem dX4_missed_24 : decode cX4_missed 24 = .ok (.istore_n 3, 1) := eX4_missed_14q.2.2.2.2.2.2.1
theorem dX4_missed_25 : decode cX4_missed 25 = .ok (.iload_n 3, 1) := eX4_missed_14q.2.2.2.2.2.2.2
theorem eX4_missed_26q : (decode cX4_missed 26 = .ok (.iload_n 1, 1)) ∧ (decode cX4_missed 27 = .ok (.if_icmp .ge 27, 3)) ∧ (decode cX4_missed 30 = .ok (.aload_n 0, 1)) ∧ (decode cX4_missed 31 = .ok (.getfield 9, 3)) ∧ (decode cX4_missed 34 = .ok (.iload_n 2, 1)) ∧ (decode cX4_missed 35 = .ok (.laload, 1)) ∧ (decode cX4_missed 36 = .ok (.ldc2_w 23, 3)) ∧ (decode cX4_missed 39 = .ok (.lcmp, 1)) := by decide +kernel
theorem dX4_missed_26 : decode cX4_missed 26 = .ok (.iload_n 1, 1) := eX4_missed_26q.1
theorem dX4_missed_27 : decode cX4_missed 27 = .ok (.if_icmp .ge 27, 3) := eX4_missed_26q.2.1
theorem dX4_missed_30 : decode cX4_missed 30 = .ok (.aload_n 0, 1) := eX4_missed_26q.2.2.1
theorem dX4_missed_31 : decode cX4_missed 31 = .ok (.getfield 9, 3) := eX4_missed_26q.2.2.2.1
theorem dX4_missed_34 : decode cX4_missed 34 = .ok (.iload_n 2, 1) := eX4_missed_26q.2.2.2.2.1
theorem dX4_missed_35 : decode cX4_missed 35 = .ok (.laload, 1) := eX4_missed_26q.2.2.2.2.2.1
theorem dX4_missed_36 : decode cX4_missed 36 = .ok (.ldc2_w 23, 3) := eX4_missed_26q.2.2.2.2.2.2.1
theorem dX4_missed_39 : decode cX4_missed 39 = .ok (.lcmp, 1) := eX4_missed_26q.2.2.2.2.2.2.2
theorem eX4_missed_40q : (decode cX4_missed 40 = .ok (.ifCond .ge 14, 3)) ∧ (decode cX4_missed 43 = .ok (.aload_n 0, 1)) ∧ (decode cX4_missed 44 = .ok (.iload_n 2, 1)) ∧ (decode cX4_missed 45 = .ok (.invokevirtual 29, 3)) ∧ (decode cX4_missed 48 = .ok (.iinc 3 1, 3)) ∧ (decode cX4_missed 51 = .ok (.goto (-26), 3)) ∧ (decode cX4_missed 54 = .ok (.ldc2_w 23, 3)) ∧ (decode cX4_missed 57 = .ok (.aload_n 0, 1)) := by decide +kernel
theorem dX4_missed_40 : decode cX4_missed 40 = .ok (.ifCond .ge 14, 3) := eX4_missed_40q.1
theorem dX4_missed_43 : decode cX4_missed 43 = .ok (.aload_n 0, 1) := eX4_missed_40q.2.1
theorem dX4_missed_44 : decode cX4_missed 44 = .ok (.iload_n 2, 1) := eX4_missed_40q.2.2.1
theorem dX4_missed_45 : decode cX4_missed 45 = .ok (.invokevirtual 29, 3) := eX4_missed_40q.2.2.2.1
theorem dX4_missed_48 : decode cX4_missed 48 = .ok (.iinc 3 1, 3) := eX4_missed_40q.2.2.2.2.1
theorem dX4_missed_51 : decode cX4_missed 51 = .ok (.goto (-26), 3) := eX4_missed_40q.2.2.2.2.2.1
theorem dX4_missed_54 : decode cX4_missed 54 = .ok (.ldc2_w 23, 3) := eX4_missed_40q.2.2.2.2.2.2.1
theorem dX4_missed_57 : decode cX4_missed 57 = .ok (.aload_n 0, 1) := eX4_missed_40q.2.2.2.2.2.2.2
theorem eX4_missed_58q : (decode cX4_missed 58 = .ok (.getfield 9, 3)) ∧ (decode cX4_missed 61 = .ok (.iload_n 2, 1)) ∧ (decode cX4_missed 62 = .ok (.laload, 1)) ∧ (decode cX4_missed 63 = .ok (.lsub, 1)) ∧ (decode cX4_missed 64 = .ok (.lreturn, 1)) := by decide +kernel
theorem dX4_missed_58 : decode cX4_missed 58 = .ok (.getfield 9, 3) := eX4_missed_58q.1
theorem dX4_missed_61 : decode cX4_missed 61 = .ok (.iload_n 2, 1) := eX4_missed_58q.2.1
theorem dX4_missed_62 : decode cX4_missed 62 = .ok (.laload, 1) := eX4_missed_58q.2.2.1
theorem dX4_missed_63 : decode cX4_missed 63 = .ok (.lsub, 1) := eX4_missed_58q.2.2.2.1
theorem dX4_missed_64 : decode cX4_missed 64 = .ok (.lreturn, 1) := eX4_missed_58q.2.2.2.2
theorem eX4_begin_0q : (decode cX4_begin 0 = .ok (.aload_n 0, 1)) ∧ (decode cX4_begin 1 = .ok (.getfield 9, 3)) ∧ (decode cX4_begin 4 = .ok (.iconst 0, 1)) ∧ (decode cX4_begin 5 = .ok (.ldc2_w 23, 3)) ∧ (decode cX4_begin 8 = .ok (.lastore, 1)) ∧ (decode cX4_begin 9 = .ok (.iconst 1, 1)) ∧ (decode cX4_begin 10 = .ok (.istore_n 2, 1)) ∧ (decode cX4_begin 11 = .ok (.iload_n 2, 1)) := by decide +kernel
theorem dX4_begin_0 : decode cX4_begin 0 = .ok (.aload_n 0, 1) := eX4_begin_0q.1
theorem dX4_begin_1 : decode cX4_begin 1 = .ok (.getfield 9, 3) := eX4_begin_0q.2.1
theorem dX4_begin_4 : decode cX4_begin 4 = .ok (.iconst 0, 1) := eX4_begin_0q.2.2.1
theorem dX4_begin_5 : decode cX4_begin 5 = .ok (.ldc2_w 23, 3) := eX4_begin_0q.2.2.2.1
theorem dX4_begin_8 : decode cX4_begin 8 = .ok (.lastore, 1) := eX4_begin_0q.2.2.2.2.1
theorem dX4_begin_9 : decode cX4_begin 9 = .ok (.iconst 1, 1) := eX4_begin_0q.2.2.2.2.2.1
theorem dX4_begin_10 : decode cX4_begin 10 = .ok (.istore_n 2, 1) := eX4_begin_0q.2.2.2.2.2.2.1
theorem dX4_begin_11 : decode cX4_begin 11 = .ok (.iload_n 2, 1) := eX4_begin_0q.2.2.2.2.2.2.2
theorem eX4_begin_12q : (decode cX4_begin 12 = .ok (.iload_n 1, 1)) ∧ (decode cX4_begin 13 = .ok (.if_icmp .gt 16, 3)) ∧ (decode cX4_begin 16 = .ok (.aload_n 0, 1)) ∧ (decode cX4_begin 17 = .ok (.getfield 9, 3)) ∧ (decode cX4_begin 20 = .ok (.iload_n 2, 1)) ∧ (decode cX4_begin 21 = .ok (.lconst 0, 1)) ∧ (decode cX4_begin 22 = .ok (.lastore, 1)) ∧ (decode cX4_begin 23 = .ok (.iinc 2 1, 3)) := by decide +kernel
theorem dX4_begin_12 : decode cX4_begin 12 = .ok (.iload_n 1, 1) := eX4_begin_12q.1
theorem dX4_begin_13 : decode cX4_begin 13 = .ok (.if_icmp .gt 16, 3) := eX4_begin_12q.2.1
theorem dX4_begin_16 : decode cX4_begin 16 = .ok (.aload_n 0, 1) := eX4_begin_12q.2.2.1
theorem dX4_begin_17 : decode cX4_begin 17 = .ok (.getfield 9, 3) := eX4_begin_12q.2.2.2.1
theorem dX4_begin_20 : decode cX4_begin 20 = .ok (.iload_n 2, 1) := eX4_begin_12q.2.2.2.2.1
theorem dX4_begin_21 : decode cX4_begin 21 = .ok (.lconst 0, 1) := eX4_begin_12q.2.2.2.2.2.1
theorem dX4_begin_22 : decode cX4_begin 22 = .ok (.lastore, 1) := eX4_begin_12q.2.2.2.2.2.2.1
theorem dX4_begin_23 : decode cX4_begin 23 = .ok (.iinc 2 1, 3) := eX4_begin_12q.2.2.2.2.2.2.2
theorem dX4_begin_26 : decode cX4_begin 26 = .ok (.goto (-15), 3) := by decide +kernel
theorem dX4_begin_29 : decode cX4_begin 29 = .ok (.return_, 1) := by decide +kernel
theorem eX4_sendNext_0q : (decode cX4_sendNext 0 = .ok (.iload_n 1, 1)) ∧ (decode cX4_sendNext 1 = .ok (.iconst 1, 1)) ∧ (decode cX4_sendNext 2 = .ok (.if_icmp .lt 12, 3)) ∧ (decode cX4_sendNext 5 = .ok (.iload_n 1, 1)) ∧ (decode cX4_sendNext 6 = .ok (.aload_n 0, 1)) ∧ (decode cX4_sendNext 7 = .ok (.getfield 9, 3)) ∧ (decode cX4_sendNext 10 = .ok (.arraylength, 1)) ∧ (decode cX4_sendNext 11 = .ok (.if_icmp .lt 4, 3)) := by decide +kernel
theorem dX4_sendNext_0 : decode cX4_sendNext 0 = .ok (.iload_n 1, 1) := eX4_sendNext_0q.1
theorem dX4_sendNext_1 : decode cX4_sendNext 1 = .ok (.iconst 1, 1) := eX4_sendNext_0q.2.1
theorem dX4_sendNext_2 : decode cX4_sendNext 2 = .ok (.if_icmp .lt 12, 3) := eX4_sendNext_0q.2.2.1
theorem dX4_sendNext_5 : decode cX4_sendNext 5 = .ok (.iload_n 1, 1) := eX4_sendNext_0q.2.2.2.1
theorem dX4_sendNext_6 : decode cX4_sendNext 6 = .ok (.aload_n 0, 1) := eX4_sendNext_0q.2.2.2.2.1
theorem dX4_sendNext_7 : decode cX4_sendNext 7 = .ok (.getfield 9, 3) := eX4_sendNext_0q.2.2.2.2.2.1
theorem dX4_sendNext_10 : decode cX4_sendNext 10 = .ok (.arraylength, 1) := eX4_sendNext_0q.2.2.2.2.2.2.1
theorem dX4_sendNext_11 : decode cX4_sendNext 11 = .ok (.if_icmp .lt 4, 3) := eX4_sendNext_0q.2.2.2.2.2.2.2
theorem eX4_sendNext_14q : (decode cX4_sendNext 14 = .ok (.return_, 1)) ∧ (decode cX4_sendNext 15 = .ok (.iload_n 1, 1)) ∧ (decode cX4_sendNext 16 = .ok (.iconst 1, 1)) ∧ (decode cX4_sendNext 17 = .ok (.isub, 1)) ∧ (decode cX4_sendNext 18 = .ok (.istore_n 2, 1)) ∧ (decode cX4_sendNext 19 = .ok (.iload_n 2, 1)) ∧ (decode cX4_sendNext 20 = .ok (.ifCond .lt 48, 3)) ∧ (decode cX4_sendNext 23 = .ok (.aload_n 0, 1)) := by decide +kernel
theorem dX4_sendNext_14 : decode cX4_sendNext 14 = .ok (.return_, 1) := eX4_sendNext_14q.1
theorem dX4_sendNext_15 : decode cX4_sendNext 15 = .ok (.iload_n 1, 1) := eX4_sendNext_14q.2.1
theorem dX4_sendNext_16 : decode cX4_sendNext 16 = .ok (.iconst 1, 1) := eX4_sendNext_14q.2.2.1
theorem dX4_sendNext_17 : decode cX4_sendNext 17 = .ok (.isub, 1) := eX4_sendNext_14q.2.2.2.1
theorem dX4_sendNext_18 : decode cX4_sendNext 18 = .ok (.istore_n 2, 1) := eX4_sendNext_14q.2.2.2.2.1
theorem dX4_sendNext_19 : decode cX4_sendNext 19 = .ok (.iload_n 2, 1) := eX4_sendNext_14q.2.2.2.2.2.1
theorem dX4_sendNext_20 : decode cX4_sendNext 20 = .ok (.ifCond .lt 48, 3) := eX4_sendNext_14q.2.2.2.2.2.2.1
theorem dX4_sendNext_23 : decode cX4_sendNext 23 = .ok (.aload_n 0, 1) := eX4_sendNext_14q.2.2.2.2.2.2.2
theorem eX4_sendNext_24q : (decode cX4_sendNext 24 = .ok (.getfield 9, 3)) ∧ (decode cX4_sendNext 27 = .ok (.iload_n 2, 1)) ∧ (decode cX4_sendNext 28 = .ok (.laload, 1)) ∧ (decode cX4_sendNext 29 = .ok (.iload_n 2, 1)) ∧ (decode cX4_sendNext 30 = .ok (.i2l, 1)) ∧ (decode cX4_sendNext 31 = .ok (.lmul, 1)) ∧ (decode cX4_sendNext 32 = .ok (.iload_n 1, 1)) ∧ (decode cX4_sendNext 33 = .ok (.i2l, 1)) := by decide +kernel
theorem dX4_sendNext_24 : decode cX4_sendNext 24 = .ok (.getfield 9, 3) := eX4_sendNext_24q.1
theorem dX4_sendNext_27 : decode cX4_sendNext 27 = .ok (.iload_n 2, 1) := eX4_sendNext_24q.2.1
theorem dX4_sendNext_28 : decode cX4_sendNext 28 = .ok (.laload, 1) := eX4_sendNext_24q.2.2.1
theorem dX4_sendNext_29 : decode cX4_sendNext 29 = .ok (.iload_n 2, 1) := eX4_sendNext_24q.2.2.2.1
theorem dX4_sendNext_30 : decode cX4_sendNext 30 = .ok (.i2l, 1) := eX4_sendNext_24q.2.2.2.2.1
theorem dX4_sendNext_31 : decode cX4_sendNext 31 = .ok (.lmul, 1) := eX4_sendNext_24q.2.2.2.2.2.1
theorem dX4_sendNext_32 : decode cX4_sendNext 32 = .ok (.iload_n 1, 1) := eX4_sendNext_24q.2.2.2.2.2.2.1
theorem dX4_sendNext_33 : decode cX4_sendNext 33 = .ok (.i2l, 1) := eX4_sendNext_24q.2.2.2.2.2.2.2
theorem eX4_sendNext_34q : (decode cX4_sendNext 34 = .ok (.ldiv, 1)) ∧ (decode cX4_sendNext 35 = .ok (.lstore_n 3, 1)) ∧ (decode cX4_sendNext 36 = .ok (.aload_n 0, 1)) ∧ (decode cX4_sendNext 37 = .ok (.getfield 9, 3)) ∧ (decode cX4_sendNext 40 = .ok (.iload_n 2, 1)) ∧ (decode cX4_sendNext 41 = .ok (.iconst 1, 1)) ∧ (decode cX4_sendNext 42 = .ok (.iadd, 1)) ∧ (decode cX4_sendNext 43 = .ok (.dup2, 1)) := by decide +kernel
theorem dX4_sendNext_34 : decode cX4_sendNext 34 = .ok (.ldiv, 1) := eX4_sendNext_34q.1
theorem dX4_sendNext_35 : decode cX4_sendNext 35 = .ok (.lstore_n 3, 1) := eX4_sendNext_34q.2.1
theorem dX4_sendNext_36 : decode cX4_sendNext 36 = .ok (.aload_n 0, 1) := eX4_sendNext_34q.2.2.1
theorem dX4_sendNext_37 : decode cX4_sendNext 37 = .ok (.getfield 9, 3) := eX4_sendNext_34q.2.2.2.1
theorem dX4_sendNext_40 : decode cX4_sendNext 40 = .ok (.iload_n 2, 1) := eX4_sendNext_34q.2.2.2.2.1
theorem dX4_sendNext_41 : decode cX4_sendNext 41 = .ok (.iconst 1, 1) := eX4_sendNext_34q.2.2.2.2.2.1
theorem dX4_sendNext_42 : decode cX4_sendNext 42 = .ok (.iadd, 1) := eX4_sendNext_34q.2.2.2.2.2.2.1
theorem dX4_sendNext_43 : decode cX4_sendNext 43 = .ok (.dup2, 1) := eX4_sendNext_34q.2.2.2.2.2.2.2
theorem eX4_sendNext_44q : (decode cX4_sendNext 44 = .ok (.laload, 1)) ∧ (decode cX4_sendNext 45 = .ok (.aload_n 0, 1)) ∧ (decode cX4_sendNext 46 = .ok (.getfield 9, 3)) ∧ (decode cX4_sendNext 49 = .ok (.iload_n 2, 1)) ∧ (decode cX4_sendNext 50 = .ok (.laload, 1)) ∧ (decode cX4_sendNext 51 = .ok (.lload_n 3, 1)) ∧ (decode cX4_sendNext 52 = .ok (.lsub, 1)) ∧ (decode cX4_sendNext 53 = .ok (.ladd, 1)) := by decide +kernel
theorem dX4_sendNext_44 : decode cX4_sendNext 44 = .ok (.laload, 1) := eX4_sendNext_44q.1
theorem dX4_sendNext_45 : decode cX4_sendNext 45 = .ok (.aload_n 0, 1) := eX4_sendNext_44q.2.1
theorem dX4_sendNext_46 : decode cX4_sendNext 46 = .ok (.getfield 9, 3) := eX4_sendNext_44q.2.2.1
theorem dX4_sendNext_49 : decode cX4_sendNext 49 = .ok (.iload_n 2, 1) := eX4_sendNext_44q.2.2.2.1
theorem dX4_sendNext_50 : decode cX4_sendNext 50 = .ok (.laload, 1) := eX4_sendNext_44q.2.2.2.2.1
theorem dX4_sendNext_51 : decode cX4_sendNext 51 = .ok (.lload_n 3, 1) := eX4_sendNext_44q.2.2.2.2.2.1
theorem dX4_sendNext_52 : decode cX4_sendNext 52 = .ok (.lsub, 1) := eX4_sendNext_44q.2.2.2.2.2.2.1
theorem dX4_sendNext_53 : decode cX4_sendNext 53 = .ok (.ladd, 1) := eX4_sendNext_44q.2.2.2.2.2.2.2
theorem eX4_sendNext_54q : (decode cX4_sendNext 54 = .ok (.lastore, 1)) ∧ (decode cX4_sendNext 55 = .ok (.aload_n 0, 1)) ∧ (decode cX4_sendNext 56 = .ok (.getfield 9, 3)) ∧ (decode cX4_sendNext 59 = .ok (.iload_n 2, 1)) ∧ (decode cX4_sendNext 60 = .ok (.lload_n 3, 1)) ∧ (decode cX4_sendNext 61 = .ok (.lastore, 1)) ∧ (decode cX4_sendNext 62 = .ok (.iinc 2 (-1), 3)) ∧ (decode cX4_sendNext 65 = .ok (.goto (-46), 3)) := by decide +kernel
theorem dX4_sendNext_54 : decode cX4_sendNext 54 = .ok (.lastore, 1) := eX4_sendNext_54q.1
theorem dX4_sendNext_55 : decode cX4_sendNext 55 = .ok (.aload_n 0, 1) := eX4_sendNext_54q.2.1
theorem dX4_sendNext_56 : decode cX4_sendNext 56 = .ok (.getfield 9, 3) := eX4_sendNext_54q.2.2.1
theorem dX4_sendNext_59 : decode cX4_sendNext 59 = .ok (.iload_n 2, 1) := eX4_sendNext_54q.2.2.2.1
theorem dX4_sendNext_60 : decode cX4_sendNext 60 = .ok (.lload_n 3, 1) := eX4_sendNext_54q.2.2.2.2.1
theorem dX4_sendNext_61 : decode cX4_sendNext 61 = .ok (.lastore, 1) := eX4_sendNext_54q.2.2.2.2.2.1
theorem dX4_sendNext_62 : decode cX4_sendNext 62 = .ok (.iinc 2 (-1), 3) := eX4_sendNext_54q.2.2.2.2.2.2.1
theorem dX4_sendNext_65 : decode cX4_sendNext 65 = .ok (.goto (-46), 3) := eX4_sendNext_54q.2.2.2.2.2.2.2
theorem dX4_sendNext_68 : decode cX4_sendNext 68 = .ok (.return_, 1) := by decide +kernel
set_option maxRecDepth 20000 in
theorem ggX4_enoughFor_X4_leastFor : GoodIn wsX4_enoughFor wsX4_leastFor := by
  have h := goodIn_app (goodIn_r (big := wsX4_enoughFor) (.code yX4_leastFor cX4_leastFor 5 (some .int) :: ([.constantLong RX4 23 (1000000000000), .fieldLink RX4 9 "PathProber$Odds" "met" "[J", .methodLink RX4 25 yX4_begin, .instanceMethod yX4_begin, .selects RX4 yX4_begin yX4_begin, .initialized RX4, .code yX4_begin cX4_begin 3 none, .methodLink RX4 29 yX4_sendNext, .instanceMethod yX4_sendNext, .selects RX4 yX4_sendNext yX4_sendNext, .code yX4_sendNext cX4_sendNext 5 none]) : List Cond) [8, 9, 10, 11, 12, 13, 7, 14, 15, 16, 17, 18] rfl (by decide +kernel)) (goodIn_few (big := wsX4_enoughFor) (fun _ h9 => List.mem_cons_of_mem _ (List.mem_append_right _ h9)) gb_3)
  exact h
set_option maxRecDepth 20000 in
theorem gX4_enoughFor_X4_leastFor : GoodIn wsX4_enoughFor (wsV RX4 34 RX4 yX4_leastFor wsX4_leastFor) := goodIn_app (goodIn_r _ [4, 5, 6, 7] rfl (by decide +kernel)) ggX4_enoughFor_X4_leastFor
theorem eX4_enoughFor_0q : (decode cX4_enoughFor 0 = .ok (.iload_n 1, 1)) ∧ (decode cX4_enoughFor 1 = .ok (.iconst 1, 1)) ∧ (decode cX4_enoughFor 2 = .ok (.if_icmp .lt 8, 3)) ∧ (decode cX4_enoughFor 5 = .ok (.iload_n 1, 1)) ∧ (decode cX4_enoughFor 6 = .ok (.iconst 4, 1)) ∧ (decode cX4_enoughFor 7 = .ok (.if_icmp .le 5, 3)) ∧ (decode cX4_enoughFor 10 = .ok (.iconst (-1), 1)) ∧ (decode cX4_enoughFor 11 = .ok (.ireturn, 1)) := by decide +kernel
theorem dX4_enoughFor_0 : decode cX4_enoughFor 0 = .ok (.iload_n 1, 1) := eX4_enoughFor_0q.1
theorem dX4_enoughFor_1 : decode cX4_enoughFor 1 = .ok (.iconst 1, 1) := eX4_enoughFor_0q.2.1
theorem dX4_enoughFor_2 : decode cX4_enoughFor 2 = .ok (.if_icmp .lt 8, 3) := eX4_enoughFor_0q.2.2.1
theorem dX4_enoughFor_5 : decode cX4_enoughFor 5 = .ok (.iload_n 1, 1) := eX4_enoughFor_0q.2.2.2.1
theorem dX4_enoughFor_6 : decode cX4_enoughFor 6 = .ok (.iconst 4, 1) := eX4_enoughFor_0q.2.2.2.2.1
theorem dX4_enoughFor_7 : decode cX4_enoughFor 7 = .ok (.if_icmp .le 5, 3) := eX4_enoughFor_0q.2.2.2.2.2.1
theorem dX4_enoughFor_10 : decode cX4_enoughFor 10 = .ok (.iconst (-1), 1) := eX4_enoughFor_0q.2.2.2.2.2.2.1
theorem dX4_enoughFor_11 : decode cX4_enoughFor 11 = .ok (.ireturn, 1) := eX4_enoughFor_0q.2.2.2.2.2.2.2
theorem eX4_enoughFor_12q : (decode cX4_enoughFor 12 = .ok (.iload_n 2, 1)) ∧ (decode cX4_enoughFor 13 = .ok (.aload_n 0, 1)) ∧ (decode cX4_enoughFor 14 = .ok (.getfield 19, 3)) ∧ (decode cX4_enoughFor 17 = .ok (.if_icmp .eq 42, 3)) ∧ (decode cX4_enoughFor 20 = .ok (.iconst 1, 1)) ∧ (decode cX4_enoughFor 21 = .ok (.istore_n 3, 1)) ∧ (decode cX4_enoughFor 22 = .ok (.iload_n 3, 1)) ∧ (decode cX4_enoughFor 23 = .ok (.iconst 4, 1)) := by decide +kernel
theorem dX4_enoughFor_12 : decode cX4_enoughFor 12 = .ok (.iload_n 2, 1) := eX4_enoughFor_12q.1
theorem dX4_enoughFor_13 : decode cX4_enoughFor 13 = .ok (.aload_n 0, 1) := eX4_enoughFor_12q.2.1
theorem dX4_enoughFor_14 : decode cX4_enoughFor 14 = .ok (.getfield 19, 3) := eX4_enoughFor_12q.2.2.1
theorem dX4_enoughFor_17 : decode cX4_enoughFor 17 = .ok (.if_icmp .eq 42, 3) := eX4_enoughFor_12q.2.2.2.1
theorem dX4_enoughFor_20 : decode cX4_enoughFor 20 = .ok (.iconst 1, 1) := eX4_enoughFor_12q.2.2.2.2.1
theorem dX4_enoughFor_21 : decode cX4_enoughFor 21 = .ok (.istore_n 3, 1) := eX4_enoughFor_12q.2.2.2.2.2.1
theorem dX4_enoughFor_22 : decode cX4_enoughFor 22 = .ok (.iload_n 3, 1) := eX4_enoughFor_12q.2.2.2.2.2.2.1
theorem dX4_enoughFor_23 : decode cX4_enoughFor 23 = .ok (.iconst 4, 1) := eX4_enoughFor_12q.2.2.2.2.2.2.2
theorem eX4_enoughFor_24q : (decode cX4_enoughFor 24 = .ok (.if_icmp .gt 30, 3)) ∧ (decode cX4_enoughFor 27 = .ok (.aload_n 0, 1)) ∧ (decode cX4_enoughFor 28 = .ok (.getfield 15, 3)) ∧ (decode cX4_enoughFor 31 = .ok (.iload_n 3, 1)) ∧ (decode cX4_enoughFor 32 = .ok (.iconst 1, 1)) ∧ (decode cX4_enoughFor 33 = .ok (.isub, 1)) ∧ (decode cX4_enoughFor 34 = .ok (.aload_n 0, 1)) ∧ (decode cX4_enoughFor 35 = .ok (.iload_n 3, 1)) := by decide +kernel
theorem dX4_enoughFor_24 : decode cX4_enoughFor 24 = .ok (.if_icmp .gt 30, 3) := eX4_enoughFor_24q.1
theorem dX4_enoughFor_27 : decode cX4_enoughFor 27 = .ok (.aload_n 0, 1) := eX4_enoughFor_24q.2.1
theorem dX4_enoughFor_28 : decode cX4_enoughFor 28 = .ok (.getfield 15, 3) := eX4_enoughFor_24q.2.2.1
theorem dX4_enoughFor_31 : decode cX4_enoughFor 31 = .ok (.iload_n 3, 1) := eX4_enoughFor_24q.2.2.2.1
theorem dX4_enoughFor_32 : decode cX4_enoughFor 32 = .ok (.iconst 1, 1) := eX4_enoughFor_24q.2.2.2.2.1
theorem dX4_enoughFor_33 : decode cX4_enoughFor 33 = .ok (.isub, 1) := eX4_enoughFor_24q.2.2.2.2.2.1
theorem dX4_enoughFor_34 : decode cX4_enoughFor 34 = .ok (.aload_n 0, 1) := eX4_enoughFor_24q.2.2.2.2.2.2.1
theorem dX4_enoughFor_35 : decode cX4_enoughFor 35 = .ok (.iload_n 3, 1) := eX4_enoughFor_24q.2.2.2.2.2.2.2
theorem eX4_enoughFor_36q : (decode cX4_enoughFor 36 = .ok (.iconst 1, 1)) ∧ (decode cX4_enoughFor 37 = .ok (.iadd, 1)) ∧ (decode cX4_enoughFor 38 = .ok (.iload_n 2, 1)) ∧ (decode cX4_enoughFor 39 = .ok (.i2l, 1)) ∧ (decode cX4_enoughFor 40 = .ok (.ldc2_w 32, 3)) ∧ (decode cX4_enoughFor 43 = .ok (.lmul, 1)) ∧ (decode cX4_enoughFor 44 = .ok (.invokevirtual 34, 3)) ∧ (decode cX4_enoughFor 47 = .ok (.iastore, 1)) := by decide +kernel
theorem dX4_enoughFor_36 : decode cX4_enoughFor 36 = .ok (.iconst 1, 1) := eX4_enoughFor_36q.1
theorem dX4_enoughFor_37 : decode cX4_enoughFor 37 = .ok (.iadd, 1) := eX4_enoughFor_36q.2.1
theorem dX4_enoughFor_38 : decode cX4_enoughFor 38 = .ok (.iload_n 2, 1) := eX4_enoughFor_36q.2.2.1
theorem dX4_enoughFor_39 : decode cX4_enoughFor 39 = .ok (.i2l, 1) := eX4_enoughFor_36q.2.2.2.1
theorem dX4_enoughFor_40 : decode cX4_enoughFor 40 = .ok (.ldc2_w 32, 3) := eX4_enoughFor_36q.2.2.2.2.1
theorem dX4_enoughFor_43 : decode cX4_enoughFor 43 = .ok (.lmul, 1) := eX4_enoughFor_36q.2.2.2.2.2.1
theorem dX4_enoughFor_44 : decode cX4_enoughFor 44 = .ok (.invokevirtual 34, 3) := eX4_enoughFor_36q.2.2.2.2.2.2.1
theorem dX4_enoughFor_47 : decode cX4_enoughFor 47 = .ok (.iastore, 1) := eX4_enoughFor_36q.2.2.2.2.2.2.2
theorem eX4_enoughFor_48q : (decode cX4_enoughFor 48 = .ok (.iinc 3 1, 3)) ∧ (decode cX4_enoughFor 51 = .ok (.goto (-29), 3)) ∧ (decode cX4_enoughFor 54 = .ok (.aload_n 0, 1)) ∧ (decode cX4_enoughFor 55 = .ok (.iload_n 2, 1)) ∧ (decode cX4_enoughFor 56 = .ok (.putfield 19, 3)) ∧ (decode cX4_enoughFor 59 = .ok (.aload_n 0, 1)) ∧ (decode cX4_enoughFor 60 = .ok (.getfield 15, 3)) ∧ (decode cX4_enoughFor 63 = .ok (.iload_n 1, 1)) := by decide +kernel
theorem dX4_enoughFor_48 : decode cX4_enoughFor 48 = .ok (.iinc 3 1, 3) := eX4_enoughFor_48q.1
theorem dX4_enoughFor_51 : decode cX4_enoughFor 51 = .ok (.goto (-29), 3) := eX4_enoughFor_48q.2.1
theorem dX4_enoughFor_54 : decode cX4_enoughFor 54 = .ok (.aload_n 0, 1) := eX4_enoughFor_48q.2.2.1
theorem dX4_enoughFor_55 : decode cX4_enoughFor 55 = .ok (.iload_n 2, 1) := eX4_enoughFor_48q.2.2.2.1
theorem dX4_enoughFor_56 : decode cX4_enoughFor 56 = .ok (.putfield 19, 3) := eX4_enoughFor_48q.2.2.2.2.1
theorem dX4_enoughFor_59 : decode cX4_enoughFor 59 = .ok (.aload_n 0, 1) := eX4_enoughFor_48q.2.2.2.2.2.1
theorem dX4_enoughFor_60 : decode cX4_enoughFor 60 = .ok (.getfield 15, 3) := eX4_enoughFor_48q.2.2.2.2.2.2.1
theorem dX4_enoughFor_63 : decode cX4_enoughFor 63 = .ok (.iload_n 1, 1) := eX4_enoughFor_48q.2.2.2.2.2.2.2
theorem eX4_enoughFor_64q : (decode cX4_enoughFor 64 = .ok (.iconst 1, 1)) ∧ (decode cX4_enoughFor 65 = .ok (.isub, 1)) ∧ (decode cX4_enoughFor 66 = .ok (.iaload, 1)) ∧ (decode cX4_enoughFor 67 = .ok (.ireturn, 1)) := by decide +kernel
theorem dX4_enoughFor_64 : decode cX4_enoughFor 64 = .ok (.iconst 1, 1) := eX4_enoughFor_64q.1
theorem dX4_enoughFor_65 : decode cX4_enoughFor 65 = .ok (.isub, 1) := eX4_enoughFor_64q.2.1
theorem dX4_enoughFor_66 : decode cX4_enoughFor 66 = .ok (.iaload, 1) := eX4_enoughFor_64q.2.2.1
theorem dX4_enoughFor_67 : decode cX4_enoughFor 67 = .ok (.ireturn, 1) := eX4_enoughFor_64q.2.2.2
set_option maxRecDepth 20000 in
theorem ggX4_leastFor_X4_begin : GoodIn wsX4_leastFor wsX4_begin := by
  have h := goodIn_app (goodIn_r (big := wsX4_leastFor) (.code yX4_begin cX4_begin 3 none :: ([.fieldLink RX4 9 "PathProber$Odds" "met" "[J", .constantLong RX4 23 (1000000000000)]) : List Cond) [7, 2, 1] rfl (by decide +kernel)) (goodIn_few (big := wsX4_leastFor) (fun _ h9 => List.mem_cons_of_mem _ (List.mem_append_right _ h9)) gb_3)
  exact h
set_option maxRecDepth 20000 in
theorem gX4_leastFor_X4_begin : GoodIn wsX4_leastFor (wsV RX4 25 RX4 yX4_begin wsX4_begin) := goodIn_app (goodIn_r _ [3, 4, 5, 6] rfl (by decide +kernel)) ggX4_leastFor_X4_begin
set_option maxRecDepth 20000 in
theorem ggX4_leastFor_X4_sendNext : GoodIn wsX4_leastFor wsX4_sendNext := by
  have h := goodIn_app (goodIn_r (big := wsX4_leastFor) (.code yX4_sendNext cX4_sendNext 5 none :: ([.fieldLink RX4 9 "PathProber$Odds" "met" "[J"]) : List Cond) [11, 2] rfl (by decide +kernel)) (goodIn_few (big := wsX4_leastFor) (fun _ h9 => List.mem_cons_of_mem _ (List.mem_append_right _ h9)) gb_3)
  exact h
set_option maxRecDepth 20000 in
theorem gX4_leastFor_X4_sendNext : GoodIn wsX4_leastFor (wsV RX4 29 RX4 yX4_sendNext wsX4_sendNext) := goodIn_app (goodIn_r _ [8, 9, 10, 6] rfl (by decide +kernel)) ggX4_leastFor_X4_sendNext
theorem eX4_leastFor_0q : (decode cX4_leastFor 0 = .ok (.aload_n 0, 1)) ∧ (decode cX4_leastFor 1 = .ok (.iload_n 1, 1)) ∧ (decode cX4_leastFor 2 = .ok (.invokevirtual 25, 3)) ∧ (decode cX4_leastFor 5 = .ok (.iconst 1, 1)) ∧ (decode cX4_leastFor 6 = .ok (.istore 4, 2)) ∧ (decode cX4_leastFor 8 = .ok (.iload 4, 2)) ∧ (decode cX4_leastFor 10 = .ok (.bipush 60, 2)) ∧ (decode cX4_leastFor 12 = .ok (.if_icmp .gt 32, 3)) := by decide +kernel
theorem dX4_leastFor_0 : decode cX4_leastFor 0 = .ok (.aload_n 0, 1) := eX4_leastFor_0q.1
theorem dX4_leastFor_1 : decode cX4_leastFor 1 = .ok (.iload_n 1, 1) := eX4_leastFor_0q.2.1
theorem dX4_leastFor_2 : decode cX4_leastFor 2 = .ok (.invokevirtual 25, 3) := eX4_leastFor_0q.2.2.1
theorem dX4_leastFor_5 : decode cX4_leastFor 5 = .ok (.iconst 1, 1) := eX4_leastFor_0q.2.2.2.1
theorem dX4_leastFor_6 : decode cX4_leastFor 6 = .ok (.istore 4, 2) := eX4_leastFor_0q.2.2.2.2.1
theorem dX4_leastFor_8 : decode cX4_leastFor 8 = .ok (.iload 4, 2) := eX4_leastFor_0q.2.2.2.2.2.1
theorem dX4_leastFor_10 : decode cX4_leastFor 10 = .ok (.bipush 60, 2) := eX4_leastFor_0q.2.2.2.2.2.2.1
theorem dX4_leastFor_12 : decode cX4_leastFor 12 = .ok (.if_icmp .gt 32, 3) := eX4_leastFor_0q.2.2.2.2.2.2.2
theorem eX4_leastFor_15q : (decode cX4_leastFor 15 = .ok (.aload_n 0, 1)) ∧ (decode cX4_leastFor 16 = .ok (.iload_n 1, 1)) ∧ (decode cX4_leastFor 17 = .ok (.invokevirtual 29, 3)) ∧ (decode cX4_leastFor 20 = .ok (.ldc2_w 23, 3)) ∧ (decode cX4_leastFor 23 = .ok (.aload_n 0, 1)) ∧ (decode cX4_leastFor 24 = .ok (.getfield 9, 3)) ∧ (decode cX4_leastFor 27 = .ok (.iload_n 1, 1)) ∧ (decode cX4_leastFor 28 = .ok (.laload, 1)) := by decide +kernel
theorem dX4_leastFor_15 : decode cX4_leastFor 15 = .ok (.aload_n 0, 1) := eX4_leastFor_15q.1
theorem dX4_leastFor_16 : decode cX4_leastFor 16 = .ok (.iload_n 1, 1) := eX4_leastFor_15q.2.1
theorem dX4_leastFor_17 : decode cX4_leastFor 17 = .ok (.invokevirtual 29, 3) := eX4_leastFor_15q.2.2.1
theorem dX4_leastFor_20 : decode cX4_leastFor 20 = .ok (.ldc2_w 23, 3) := eX4_leastFor_15q.2.2.2.1
theorem dX4_leastFor_23 : decode cX4_leastFor 23 = .ok (.aload_n 0, 1) := eX4_leastFor_15q.2.2.2.2.1
theorem dX4_leastFor_24 : decode cX4_leastFor 24 = .ok (.getfield 9, 3) := eX4_leastFor_15q.2.2.2.2.2.1
theorem dX4_leastFor_27 : decode cX4_leastFor 27 = .ok (.iload_n 1, 1) := eX4_leastFor_15q.2.2.2.2.2.2.1
theorem dX4_leastFor_28 : decode cX4_leastFor 28 = .ok (.laload, 1) := eX4_leastFor_15q.2.2.2.2.2.2.2
theorem eX4_leastFor_29q : (decode cX4_leastFor 29 = .ok (.lsub, 1)) ∧ (decode cX4_leastFor 30 = .ok (.lload_n 2, 1)) ∧ (decode cX4_leastFor 31 = .ok (.lcmp, 1)) ∧ (decode cX4_leastFor 32 = .ok (.ifCond .ge 6, 3)) ∧ (decode cX4_leastFor 35 = .ok (.iload 4, 2)) ∧ (decode cX4_leastFor 37 = .ok (.ireturn, 1)) ∧ (decode cX4_leastFor 38 = .ok (.iinc 4 1, 3)) ∧ (decode cX4_leastFor 41 = .ok (.goto (-33), 3)) := by decide +kernel
theorem dX4_leastFor_29 : decode cX4_leastFor 29 = .ok (.lsub, 1) := eX4_leastFor_29q.1
theorem dX4_leastFor_30 : decode cX4_leastFor 30 = .ok (.lload_n 2, 1) := eX4_leastFor_29q.2.1
theorem dX4_leastFor_31 : decode cX4_leastFor 31 = .ok (.lcmp, 1) := eX4_leastFor_29q.2.2.1
theorem dX4_leastFor_32 : decode cX4_leastFor 32 = .ok (.ifCond .ge 6, 3) := eX4_leastFor_29q.2.2.2.1
theorem dX4_leastFor_35 : decode cX4_leastFor 35 = .ok (.iload 4, 2) := eX4_leastFor_29q.2.2.2.2.1
theorem dX4_leastFor_37 : decode cX4_leastFor 37 = .ok (.ireturn, 1) := eX4_leastFor_29q.2.2.2.2.2.1
theorem dX4_leastFor_38 : decode cX4_leastFor 38 = .ok (.iinc 4 1, 3) := eX4_leastFor_29q.2.2.2.2.2.2.1
theorem dX4_leastFor_41 : decode cX4_leastFor 41 = .ok (.goto (-33), 3) := eX4_leastFor_29q.2.2.2.2.2.2.2
theorem dX4_leastFor_44 : decode cX4_leastFor 44 = .ok (.iconst (-1), 1) := by decide +kernel
theorem dX4_leastFor_45 : decode cX4_leastFor 45 = .ok (.ireturn, 1) := by decide +kernel
theorem eX8_hasRoomFor_0q : (decode cX8_hasRoomFor 0 = .ok (.aload_n 0, 1)) ∧ (decode cX8_hasRoomFor 1 = .ok (.getfield 15, 3)) ∧ (decode cX8_hasRoomFor 4 = .ok (.iload_n 1, 1)) ∧ (decode cX8_hasRoomFor 5 = .ok (.iadd, 1)) ∧ (decode cX8_hasRoomFor 6 = .ok (.sipush 700, 3)) ∧ (decode cX8_hasRoomFor 9 = .ok (.if_icmp .gt 7, 3)) ∧ (decode cX8_hasRoomFor 12 = .ok (.iconst 1, 1)) ∧ (decode cX8_hasRoomFor 13 = .ok (.goto 4, 3)) := by decide +kernel
theorem dX8_hasRoomFor_0 : decode cX8_hasRoomFor 0 = .ok (.aload_n 0, 1) := eX8_hasRoomFor_0q.1
theorem dX8_hasRoomFor_1 : decode cX8_hasRoomFor 1 = .ok (.getfield 15, 3) := eX8_hasRoomFor_0q.2.1
theorem dX8_hasRoomFor_4 : decode cX8_hasRoomFor 4 = .ok (.iload_n 1, 1) := eX8_hasRoomFor_0q.2.2.1
theorem dX8_hasRoomFor_5 : decode cX8_hasRoomFor 5 = .ok (.iadd, 1) := eX8_hasRoomFor_0q.2.2.2.1
theorem dX8_hasRoomFor_6 : decode cX8_hasRoomFor 6 = .ok (.sipush 700, 3) := eX8_hasRoomFor_0q.2.2.2.2.1
theorem dX8_hasRoomFor_9 : decode cX8_hasRoomFor 9 = .ok (.if_icmp .gt 7, 3) := eX8_hasRoomFor_0q.2.2.2.2.2.1
theorem dX8_hasRoomFor_12 : decode cX8_hasRoomFor 12 = .ok (.iconst 1, 1) := eX8_hasRoomFor_0q.2.2.2.2.2.2.1
theorem dX8_hasRoomFor_13 : decode cX8_hasRoomFor 13 = .ok (.goto 4, 3) := eX8_hasRoomFor_0q.2.2.2.2.2.2.2
theorem dX8_hasRoomFor_16 : decode cX8_hasRoomFor 16 = .ok (.iconst 0, 1) := by decide +kernel
theorem dX8_hasRoomFor_17 : decode cX8_hasRoomFor 17 = .ok (.ireturn, 1) := by decide +kernel
set_option maxRecDepth 20000 in
theorem ggX8_append_X8_hasRoomFor : GoodIn wsX8_append wsX8_hasRoomFor := by
  have h := goodIn_app (goodIn_r (big := wsX8_append) (.code yX8_hasRoomFor cX8_hasRoomFor 2 (some .boolean) :: ([.fieldLink RX8 15 "PathProber$Tape" "length" "I"]) : List Cond) [7, 2] rfl (by decide +kernel)) (goodIn_few (big := wsX8_append) (fun _ h9 => List.mem_cons_of_mem _ (List.mem_append_right _ h9)) gb_4)
  exact h
set_option maxRecDepth 20000 in
theorem gX8_append_X8_hasRoomFor : GoodIn wsX8_append (wsV RX8 19 RX8 yX8_hasRoomFor wsX8_hasRoomFor) := goodIn_app (goodIn_r _ [3, 4, 5, 6] rfl (by decide +kernel)) ggX8_append_X8_hasRoomFor
theorem eX8_append_0q : (decode cX8_append 0 = .ok (.aload_n 0, 1)) ∧ (decode cX8_append 1 = .ok (.iconst 4, 1)) ∧ (decode cX8_append 2 = .ok (.invokevirtual 19, 3)) ∧ (decode cX8_append 5 = .ok (.ifCond .ne 4, 3)) ∧ (decode cX8_append 8 = .ok (.return_, 1)) ∧ (decode cX8_append 9 = .ok (.bipush 24, 2)) ∧ (decode cX8_append 11 = .ok (.istore_n 2, 1)) ∧ (decode cX8_append 12 = .ok (.iload_n 2, 1)) := by decide +kernel
theorem dX8_append_0 : decode cX8_append 0 = .ok (.aload_n 0, 1) := eX8_append_0q.1
theorem dX8_append_1 : decode cX8_append 1 = .ok (.iconst 4, 1) := eX8_append_0q.2.1
theorem dX8_append_2 : decode cX8_append 2 = .ok (.invokevirtual 19, 3) := eX8_append_0q.2.2.1
theorem dX8_append_5 : decode cX8_append 5 = .ok (.ifCond .ne 4, 3) := eX8_append_0q.2.2.2.1
theorem dX8_append_8 : decode cX8_append 8 = .ok (.return_, 1) := eX8_append_0q.2.2.2.2.1
theorem dX8_append_9 : decode cX8_append 9 = .ok (.bipush 24, 2) := eX8_append_0q.2.2.2.2.2.1
theorem dX8_append_11 : decode cX8_append 11 = .ok (.istore_n 2, 1) := eX8_append_0q.2.2.2.2.2.2.1
theorem dX8_append_12 : decode cX8_append 12 = .ok (.iload_n 2, 1) := eX8_append_0q.2.2.2.2.2.2.2
theorem eX8_append_13q : (decode cX8_append 13 = .ok (.ifCond .lt 32, 3)) ∧ (decode cX8_append 16 = .ok (.aload_n 0, 1)) ∧ (decode cX8_append 17 = .ok (.getfield 9, 3)) ∧ (decode cX8_append 20 = .ok (.aload_n 0, 1)) ∧ (decode cX8_append 21 = .ok (.getfield 15, 3)) ∧ (decode cX8_append 24 = .ok (.iload_n 1, 1)) ∧ (decode cX8_append 25 = .ok (.iload_n 2, 1)) ∧ (decode cX8_append 26 = .ok (.ishr, 1)) := by decide +kernel
theorem dX8_append_13 : decode cX8_append 13 = .ok (.ifCond .lt 32, 3) := eX8_append_13q.1
theorem dX8_append_16 : decode cX8_append 16 = .ok (.aload_n 0, 1) := eX8_append_13q.2.1
theorem dX8_append_17 : decode cX8_append 17 = .ok (.getfield 9, 3) := eX8_append_13q.2.2.1
theorem dX8_append_20 : decode cX8_append 20 = .ok (.aload_n 0, 1) := eX8_append_13q.2.2.2.1
theorem dX8_append_21 : decode cX8_append 21 = .ok (.getfield 15, 3) := eX8_append_13q.2.2.2.2.1
theorem dX8_append_24 : decode cX8_append 24 = .ok (.iload_n 1, 1) := eX8_append_13q.2.2.2.2.2.1
theorem dX8_append_25 : decode cX8_append 25 = .ok (.iload_n 2, 1) := eX8_append_13q.2.2.2.2.2.2.1
theorem dX8_append_26 : decode cX8_append 26 = .ok (.ishr, 1) := eX8_append_13q.2.2.2.2.2.2.2
theorem eX8_append_27q : (decode cX8_append 27 = .ok (.i2b, 1)) ∧ (decode cX8_append 28 = .ok (.bastore, 1)) ∧ (decode cX8_append 29 = .ok (.aload_n 0, 1)) ∧ (decode cX8_append 30 = .ok (.dup, 1)) ∧ (decode cX8_append 31 = .ok (.getfield 15, 3)) ∧ (decode cX8_append 34 = .ok (.iconst 1, 1)) ∧ (decode cX8_append 35 = .ok (.iadd, 1)) ∧ (decode cX8_append 36 = .ok (.putfield 15, 3)) := by decide +kernel
theorem dX8_append_27 : decode cX8_append 27 = .ok (.i2b, 1) := eX8_append_27q.1
theorem dX8_append_28 : decode cX8_append 28 = .ok (.bastore, 1) := eX8_append_27q.2.1
theorem dX8_append_29 : decode cX8_append 29 = .ok (.aload_n 0, 1) := eX8_append_27q.2.2.1
theorem dX8_append_30 : decode cX8_append 30 = .ok (.dup, 1) := eX8_append_27q.2.2.2.1
theorem dX8_append_31 : decode cX8_append 31 = .ok (.getfield 15, 3) := eX8_append_27q.2.2.2.2.1
theorem dX8_append_34 : decode cX8_append 34 = .ok (.iconst 1, 1) := eX8_append_27q.2.2.2.2.2.1
theorem dX8_append_35 : decode cX8_append 35 = .ok (.iadd, 1) := eX8_append_27q.2.2.2.2.2.2.1
theorem dX8_append_36 : decode cX8_append 36 = .ok (.putfield 15, 3) := eX8_append_27q.2.2.2.2.2.2.2
theorem eX8_append_39q : (decode cX8_append 39 = .ok (.iinc 2 (-8), 3)) ∧ (decode cX8_append 42 = .ok (.goto (-30), 3)) ∧ (decode cX8_append 45 = .ok (.return_, 1)) := by decide +kernel
theorem dX8_append_39 : decode cX8_append 39 = .ok (.iinc 2 (-8), 3) := eX8_append_39q.1
theorem dX8_append_42 : decode cX8_append 42 = .ok (.goto (-30), 3) := eX8_append_39q.2.1
theorem dX8_append_45 : decode cX8_append 45 = .ok (.return_, 1) := eX8_append_39q.2.2
theorem eX9_sway_0q : (decode cX9_sway 0 = .ok (.aload_n 0, 1)) ∧ (decode cX9_sway 1 = .ok (.iload_n 1, 1)) ∧ (decode cX9_sway 2 = .ok (.putfield 9, 3)) ∧ (decode cX9_sway 5 = .ok (.aload_n 0, 1)) ∧ (decode cX9_sway 6 = .ok (.iload_n 2, 1)) ∧ (decode cX9_sway 7 = .ok (.putfield 15, 3)) ∧ (decode cX9_sway 10 = .ok (.return_, 1)) := by decide +kernel
theorem dX9_sway_0 : decode cX9_sway 0 = .ok (.aload_n 0, 1) := eX9_sway_0q.1
theorem dX9_sway_1 : decode cX9_sway 1 = .ok (.iload_n 1, 1) := eX9_sway_0q.2.1
theorem dX9_sway_2 : decode cX9_sway 2 = .ok (.putfield 9, 3) := eX9_sway_0q.2.2.1
theorem dX9_sway_5 : decode cX9_sway 5 = .ok (.aload_n 0, 1) := eX9_sway_0q.2.2.2.1
theorem dX9_sway_6 : decode cX9_sway 6 = .ok (.iload_n 2, 1) := eX9_sway_0q.2.2.2.2.1
theorem dX9_sway_7 : decode cX9_sway 7 = .ok (.putfield 15, 3) := eX9_sway_0q.2.2.2.2.2.1
theorem dX9_sway_10 : decode cX9_sway 10 = .ok (.return_, 1) := eX9_sway_0q.2.2.2.2.2.2
theorem eX9_swayNone_0q : (decode cX9_swayNone 0 = .ok (.aload_n 0, 1)) ∧ (decode cX9_swayNone 1 = .ok (.iconst (-1), 1)) ∧ (decode cX9_swayNone 2 = .ok (.putfield 9, 3)) ∧ (decode cX9_swayNone 5 = .ok (.return_, 1)) := by decide +kernel
theorem dX9_swayNone_0 : decode cX9_swayNone 0 = .ok (.aload_n 0, 1) := eX9_swayNone_0q.1
theorem dX9_swayNone_1 : decode cX9_swayNone 1 = .ok (.iconst (-1), 1) := eX9_swayNone_0q.2.1
theorem dX9_swayNone_2 : decode cX9_swayNone 2 = .ok (.putfield 9, 3) := eX9_swayNone_0q.2.2.1
theorem dX9_swayNone_5 : decode cX9_swayNone 5 = .ok (.return_, 1) := eX9_swayNone_0q.2.2.2
set_option maxRecDepth 20000 in
theorem ggX9_take_X9_goOn : GoodIn wsX9_take wsX9_goOn := by
  have h := goodIn_app (goodIn_app (goodIn_app (goodIn_r (big := wsX9_take) (.code yX9_goOn cX9_goOn 6 none :: (wsX9_goOn_r1 ++ wsX9_goOn_r2) : List Cond) [14, 7, 1, 6, 3, 15, 16, 17, 18, 19, 20, 2, 4, 5, 21, 22, 23, 24, 25, 26, 27, 28, 29, 13, 30, 31, 32, 33, 34, 35] rfl (by decide +kernel)) (goodIn_few (big := wsX9_take) (fun _ h9 => List.mem_cons_of_mem _ (List.mem_append_left _ (List.mem_append_left _ (List.mem_append_right _ h9)))) gb_5)) (goodIn_few (big := wsX9_take) (fun _ h9 => List.mem_cons_of_mem _ (List.mem_append_left _ (List.mem_append_right _ h9))) gb_2)) (goodIn_few (big := wsX9_take) (fun _ h9 => List.mem_cons_of_mem _ (List.mem_append_right _ h9)) gb_1)
  exact h
set_option maxRecDepth 20000 in
theorem gX9_take_X9_goOn : GoodIn wsX9_take (wsV RX9 58 RX9 yX9_goOn wsX9_goOn) := goodIn_app (goodIn_r _ [10, 11, 12, 13] rfl (by decide +kernel)) ggX9_take_X9_goOn
theorem eX9_take_0q : (decode cX9_take 0 = .ok (.aload_n 0, 1)) ∧ (decode cX9_take 1 = .ok (.iconst 0, 1)) ∧ (decode cX9_take 2 = .ok (.putfield 18, 3)) ∧ (decode cX9_take 5 = .ok (.aload_n 0, 1)) ∧ (decode cX9_take 6 = .ok (.iconst 0, 1)) ∧ (decode cX9_take 7 = .ok (.putfield 21, 3)) ∧ (decode cX9_take 10 = .ok (.aload_n 0, 1)) ∧ (decode cX9_take 11 = .ok (.iconst (-1), 1)) := by decide +kernel
theorem dX9_take_0 : decode cX9_take 0 = .ok (.aload_n 0, 1) := eX9_take_0q.1
theorem dX9_take_1 : decode cX9_take 1 = .ok (.iconst 0, 1) := eX9_take_0q.2.1
theorem dX9_take_2 : decode cX9_take 2 = .ok (.putfield 18, 3) := eX9_take_0q.2.2.1
theorem dX9_take_5 : decode cX9_take 5 = .ok (.aload_n 0, 1) := eX9_take_0q.2.2.2.1
theorem dX9_take_6 : decode cX9_take 6 = .ok (.iconst 0, 1) := eX9_take_0q.2.2.2.2.1
theorem dX9_take_7 : decode cX9_take 7 = .ok (.putfield 21, 3) := eX9_take_0q.2.2.2.2.2.1
theorem dX9_take_10 : decode cX9_take 10 = .ok (.aload_n 0, 1) := eX9_take_0q.2.2.2.2.2.2.1
theorem dX9_take_11 : decode cX9_take 11 = .ok (.iconst (-1), 1) := eX9_take_0q.2.2.2.2.2.2.2
theorem eX9_take_12q : (decode cX9_take 12 = .ok (.putfield 24, 3)) ∧ (decode cX9_take 15 = .ok (.aload_n 0, 1)) ∧ (decode cX9_take 16 = .ok (.iconst 0, 1)) ∧ (decode cX9_take 17 = .ok (.putfield 27, 3)) ∧ (decode cX9_take 20 = .ok (.aload_n 0, 1)) ∧ (decode cX9_take 21 = .ok (.iconst 0, 1)) ∧ (decode cX9_take 22 = .ok (.putfield 30, 3)) ∧ (decode cX9_take 25 = .ok (.aload_n 0, 1)) := by decide +kernel
theorem dX9_take_12 : decode cX9_take 12 = .ok (.putfield 24, 3) := eX9_take_12q.1
theorem dX9_take_15 : decode cX9_take 15 = .ok (.aload_n 0, 1) := eX9_take_12q.2.1
theorem dX9_take_16 : decode cX9_take 16 = .ok (.iconst 0, 1) := eX9_take_12q.2.2.1
theorem dX9_take_17 : decode cX9_take 17 = .ok (.putfield 27, 3) := eX9_take_12q.2.2.2.1
theorem dX9_take_20 : decode cX9_take 20 = .ok (.aload_n 0, 1) := eX9_take_12q.2.2.2.2.1
theorem dX9_take_21 : decode cX9_take 21 = .ok (.iconst 0, 1) := eX9_take_12q.2.2.2.2.2.1
theorem dX9_take_22 : decode cX9_take 22 = .ok (.putfield 30, 3) := eX9_take_12q.2.2.2.2.2.2.1
theorem dX9_take_25 : decode cX9_take 25 = .ok (.aload_n 0, 1) := eX9_take_12q.2.2.2.2.2.2.2
theorem eX9_take_26q : (decode cX9_take 26 = .ok (.iconst 0, 1)) ∧ (decode cX9_take 27 = .ok (.putfield 33, 3)) ∧ (decode cX9_take 30 = .ok (.iload_n 3, 1)) ∧ (decode cX9_take 31 = .ok (.istore 4, 2)) ∧ (decode cX9_take 33 = .ok (.iconst 0, 1)) ∧ (decode cX9_take 34 = .ok (.istore 5, 2)) ∧ (decode cX9_take 36 = .ok (.iload 5, 2)) ∧ (decode cX9_take 38 = .ok (.bipush 12, 2)) := by decide +kernel
theorem dX9_take_26 : decode cX9_take 26 = .ok (.iconst 0, 1) := eX9_take_26q.1
theorem dX9_take_27 : decode cX9_take 27 = .ok (.putfield 33, 3) := eX9_take_26q.2.1
theorem dX9_take_30 : decode cX9_take 30 = .ok (.iload_n 3, 1) := eX9_take_26q.2.2.1
theorem dX9_take_31 : decode cX9_take 31 = .ok (.istore 4, 2) := eX9_take_26q.2.2.2.1
theorem dX9_take_33 : decode cX9_take 33 = .ok (.iconst 0, 1) := eX9_take_26q.2.2.2.2.1
theorem dX9_take_34 : decode cX9_take 34 = .ok (.istore 5, 2) := eX9_take_26q.2.2.2.2.2.1
theorem dX9_take_36 : decode cX9_take 36 = .ok (.iload 5, 2) := eX9_take_26q.2.2.2.2.2.2.1
theorem dX9_take_38 : decode cX9_take 38 = .ok (.bipush 12, 2) := eX9_take_26q.2.2.2.2.2.2.2
theorem eX9_take_40q : (decode cX9_take 40 = .ok (.if_icmp .ge 70, 3)) ∧ (decode cX9_take 43 = .ok (.iload 4, 2)) ∧ (decode cX9_take 45 = .ok (.ifCond .le 19, 3)) ∧ (decode cX9_take 48 = .ok (.aload_n 0, 1)) ∧ (decode cX9_take 49 = .ok (.getfield 18, 3)) ∧ (decode cX9_take 52 = .ok (.aload_n 0, 1)) ∧ (decode cX9_take 53 = .ok (.getfield 37, 3)) ∧ (decode cX9_take 56 = .ok (.getfield 49, 3)) := by decide +kernel
theorem dX9_take_40 : decode cX9_take 40 = .ok (.if_icmp .ge 70, 3) := eX9_take_40q.1
theorem dX9_take_43 : decode cX9_take 43 = .ok (.iload 4, 2) := eX9_take_40q.2.1
theorem dX9_take_45 : decode cX9_take 45 = .ok (.ifCond .le 19, 3) := eX9_take_40q.2.2.1
theorem dX9_take_48 : decode cX9_take 48 = .ok (.aload_n 0, 1) := eX9_take_40q.2.2.2.1
theorem dX9_take_49 : decode cX9_take 49 = .ok (.getfield 18, 3) := eX9_take_40q.2.2.2.2.1
theorem dX9_take_52 : decode cX9_take 52 = .ok (.aload_n 0, 1) := eX9_take_40q.2.2.2.2.2.1
theorem dX9_take_53 : decode cX9_take 53 = .ok (.getfield 37, 3) := eX9_take_40q.2.2.2.2.2.2.1
theorem dX9_take_56 : decode cX9_take 56 = .ok (.getfield 49, 3) := eX9_take_40q.2.2.2.2.2.2.2
theorem eX9_take_59q : (decode cX9_take 59 = .ok (.iload_n 2, 1)) ∧ (decode cX9_take 60 = .ok (.iaload, 1)) ∧ (decode cX9_take 61 = .ok (.if_icmp .ne 4, 3)) ∧ (decode cX9_take 64 = .ok (.return_, 1)) ∧ (decode cX9_take 65 = .ok (.iinc 4 (-1), 3)) ∧ (decode cX9_take 68 = .ok (.iload 4, 2)) ∧ (decode cX9_take 70 = .ok (.ifCond .ne 20, 3)) ∧ (decode cX9_take 73 = .ok (.aload_n 0, 1)) := by decide +kernel
theorem dX9_take_59 : decode cX9_take 59 = .ok (.iload_n 2, 1) := eX9_take_59q.1
theorem dX9_take_60 : decode cX9_take 60 = .ok (.iaload, 1) := eX9_take_59q.2.1
theorem dX9_take_61 : decode cX9_take 61 = .ok (.if_icmp .ne 4, 3) := eX9_take_59q.2.2.1
theorem dX9_take_64 : decode cX9_take 64 = .ok (.return_, 1) := eX9_take_59q.2.2.2.1
theorem dX9_take_65 : decode cX9_take 65 = .ok (.iinc 4 (-1), 3) := eX9_take_59q.2.2.2.2.1
theorem dX9_take_68 : decode cX9_take 68 = .ok (.iload 4, 2) := eX9_take_59q.2.2.2.2.2.1
theorem dX9_take_70 : decode cX9_take 70 = .ok (.ifCond .ne 20, 3) := eX9_take_59q.2.2.2.2.2.2.1
theorem dX9_take_73 : decode cX9_take 73 = .ok (.aload_n 0, 1) := eX9_take_59q.2.2.2.2.2.2.2
theorem eX9_take_74q : (decode cX9_take 74 = .ok (.getfield 37, 3)) ∧ (decode cX9_take 77 = .ok (.getfield 55, 3)) ∧ (decode cX9_take 80 = .ok (.aload_n 0, 1)) ∧ (decode cX9_take 81 = .ok (.getfield 18, 3)) ∧ (decode cX9_take 84 = .ok (.iaload, 1)) ∧ (decode cX9_take 85 = .ok (.iconst 2, 1)) ∧ (decode cX9_take 86 = .ok (.if_icmp .eq 4, 3)) ∧ (decode cX9_take 89 = .ok (.return_, 1)) := by decide +kernel
theorem dX9_take_74 : decode cX9_take 74 = .ok (.getfield 37, 3) := eX9_take_74q.1
theorem dX9_take_77 : decode cX9_take 77 = .ok (.getfield 55, 3) := eX9_take_74q.2.1
theorem dX9_take_80 : decode cX9_take 80 = .ok (.aload_n 0, 1) := eX9_take_74q.2.2.1
theorem dX9_take_81 : decode cX9_take 81 = .ok (.getfield 18, 3) := eX9_take_74q.2.2.2.1
theorem dX9_take_84 : decode cX9_take 84 = .ok (.iaload, 1) := eX9_take_74q.2.2.2.2.1
theorem dX9_take_85 : decode cX9_take 85 = .ok (.iconst 2, 1) := eX9_take_74q.2.2.2.2.2.1
theorem dX9_take_86 : decode cX9_take 86 = .ok (.if_icmp .eq 4, 3) := eX9_take_74q.2.2.2.2.2.2.1
theorem dX9_take_89 : decode cX9_take 89 = .ok (.return_, 1) := eX9_take_74q.2.2.2.2.2.2.2
theorem eX9_take_90q : (decode cX9_take 90 = .ok (.aload_n 0, 1)) ∧ (decode cX9_take 91 = .ok (.iload_n 1, 1)) ∧ (decode cX9_take 92 = .ok (.iload_n 2, 1)) ∧ (decode cX9_take 93 = .ok (.invokevirtual 58, 3)) ∧ (decode cX9_take 96 = .ok (.aload_n 0, 1)) ∧ (decode cX9_take 97 = .ok (.getfield 33, 3)) ∧ (decode cX9_take 100 = .ok (.ifCond .eq 4, 3)) ∧ (decode cX9_take 103 = .ok (.return_, 1)) := by decide +kernel
theorem dX9_take_90 : decode cX9_take 90 = .ok (.aload_n 0, 1) := eX9_take_90q.1
theorem dX9_take_91 : decode cX9_take 91 = .ok (.iload_n 1, 1) := eX9_take_90q.2.1
theorem dX9_take_92 : decode cX9_take 92 = .ok (.iload_n 2, 1) := eX9_take_90q.2.2.1
theorem dX9_take_93 : decode cX9_take 93 = .ok (.invokevirtual 58, 3) := eX9_take_90q.2.2.2.1
theorem dX9_take_96 : decode cX9_take 96 = .ok (.aload_n 0, 1) := eX9_take_90q.2.2.2.2.1
theorem dX9_take_97 : decode cX9_take 97 = .ok (.getfield 33, 3) := eX9_take_90q.2.2.2.2.2.1
theorem dX9_take_100 : decode cX9_take 100 = .ok (.ifCond .eq 4, 3) := eX9_take_90q.2.2.2.2.2.2.1
theorem dX9_take_103 : decode cX9_take 103 = .ok (.return_, 1) := eX9_take_90q.2.2.2.2.2.2.2
theorem eX9_take_104q : (decode cX9_take 104 = .ok (.iinc 5 1, 3)) ∧ (decode cX9_take 107 = .ok (.goto (-71), 3)) ∧ (decode cX9_take 110 = .ok (.return_, 1)) := by decide +kernel
theorem dX9_take_104 : decode cX9_take 104 = .ok (.iinc 5 1, 3) := eX9_take_104q.1
theorem dX9_take_107 : decode cX9_take 107 = .ok (.goto (-71), 3) := eX9_take_104q.2.1
theorem dX9_take_110 : decode cX9_take 110 = .ok (.return_, 1) := eX9_take_104q.2.2
set_option maxRecDepth 20000 in
theorem ggX9_goOn_X2_branchesOf : GoodIn wsX9_goOn wsX2_branchesOf := by
  have h := goodIn_app (goodIn_r (big := wsX9_goOn) (.code yX2_branchesOf cX2_branchesOf 3 (some .int) :: ([.fieldLink RX2 49 "PathProber$Net" "branches" "[I"]) : List Cond) [19, 20] rfl (by decide +kernel)) (goodIn_few (big := wsX9_goOn) (fun _ h9 => List.mem_cons_of_mem _ (List.mem_append_left _ (List.mem_append_right _ h9))) gb_2)
  exact h
set_option maxRecDepth 20000 in
theorem gX9_goOn_X2_branchesOf : GoodIn wsX9_goOn (wsV RX9 62 RX2 yX2_branchesOf wsX2_branchesOf) := goodIn_app (goodIn_r _ [15, 16, 17, 18] rfl (by decide +kernel)) ggX9_goOn_X2_branchesOf
set_option maxRecDepth 20000 in
theorem ggX9_goOn_X9_choiceBy : GoodIn wsX9_goOn wsX9_choiceBy := goodIn_r _ [24] rfl (by decide +kernel)
set_option maxRecDepth 20000 in
theorem gX9_goOn_X9_choiceBy : GoodIn wsX9_goOn (va_wsS RX9 77 yX9_choiceBy wsX9_choiceBy) := goodIn_app (goodIn_r _ [21, 22, 23] rfl (by decide +kernel)) ggX9_goOn_X9_choiceBy
set_option maxRecDepth 20000 in
theorem ggX9_goOn_X2_branchOf : GoodIn wsX9_goOn wsX2_branchOf := by
  have h := goodIn_app (goodIn_r (big := wsX9_goOn) (.code yX2_branchOf cX2_branchOf 4 (some .int) :: ([.fieldLink RX2 52 "PathProber$Net" "branch" "[I"]) : List Cond) [28, 29] rfl (by decide +kernel)) (goodIn_few (big := wsX9_goOn) (fun _ h9 => List.mem_cons_of_mem _ (List.mem_append_left _ (List.mem_append_right _ h9))) gb_2)
  exact h
set_option maxRecDepth 20000 in
theorem gX9_goOn_X2_branchOf : GoodIn wsX9_goOn (wsV RX9 81 RX2 yX2_branchOf wsX2_branchOf) := goodIn_app (goodIn_r _ [25, 26, 27, 18] rfl (by decide +kernel)) ggX9_goOn_X2_branchOf
theorem eX9_goOn_0q : (decode cX9_goOn 0 = .ok (.aload_n 0, 1)) ∧ (decode cX9_goOn 1 = .ok (.getfield 37, 3)) ∧ (decode cX9_goOn 4 = .ok (.aload_n 0, 1)) ∧ (decode cX9_goOn 5 = .ok (.getfield 18, 3)) ∧ (decode cX9_goOn 8 = .ok (.iload_n 2, 1)) ∧ (decode cX9_goOn 9 = .ok (.invokevirtual 62, 3)) ∧ (decode cX9_goOn 12 = .ok (.istore_n 3, 1)) ∧ (decode cX9_goOn 13 = .ok (.iload_n 3, 1)) := by decide +kernel
theorem dX9_goOn_0 : decode cX9_goOn 0 = .ok (.aload_n 0, 1) := eX9_goOn_0q.1
theorem dX9_goOn_1 : decode cX9_goOn 1 = .ok (.getfield 37, 3) := eX9_goOn_0q.2.1
theorem dX9_goOn_4 : decode cX9_goOn 4 = .ok (.aload_n 0, 1) := eX9_goOn_0q.2.2.1
theorem dX9_goOn_5 : decode cX9_goOn 5 = .ok (.getfield 18, 3) := eX9_goOn_0q.2.2.2.1
theorem dX9_goOn_8 : decode cX9_goOn 8 = .ok (.iload_n 2, 1) := eX9_goOn_0q.2.2.2.2.1
theorem dX9_goOn_9 : decode cX9_goOn 9 = .ok (.invokevirtual 62, 3) := eX9_goOn_0q.2.2.2.2.2.1
theorem dX9_goOn_12 : decode cX9_goOn 12 = .ok (.istore_n 3, 1) := eX9_goOn_0q.2.2.2.2.2.2.1
theorem dX9_goOn_13 : decode cX9_goOn 13 = .ok (.iload_n 3, 1) := eX9_goOn_0q.2.2.2.2.2.2.2
theorem eX9_goOn_14q : (decode cX9_goOn 14 = .ok (.ifCond .gt 14, 3)) ∧ (decode cX9_goOn 17 = .ok (.aload_n 0, 1)) ∧ (decode cX9_goOn 18 = .ok (.iconst 1, 1)) ∧ (decode cX9_goOn 19 = .ok (.putfield 33, 3)) ∧ (decode cX9_goOn 22 = .ok (.aload_n 0, 1)) ∧ (decode cX9_goOn 23 = .ok (.iconst (-1), 1)) ∧ (decode cX9_goOn 24 = .ok (.putfield 24, 3)) ∧ (decode cX9_goOn 27 = .ok (.return_, 1)) := by decide +kernel
theorem dX9_goOn_14 : decode cX9_goOn 14 = .ok (.ifCond .gt 14, 3) := eX9_goOn_14q.1
theorem dX9_goOn_17 : decode cX9_goOn 17 = .ok (.aload_n 0, 1) := eX9_goOn_14q.2.1
theorem dX9_goOn_18 : decode cX9_goOn 18 = .ok (.iconst 1, 1) := eX9_goOn_14q.2.2.1
theorem dX9_goOn_19 : decode cX9_goOn 19 = .ok (.putfield 33, 3) := eX9_goOn_14q.2.2.2.1
theorem dX9_goOn_22 : decode cX9_goOn 22 = .ok (.aload_n 0, 1) := eX9_goOn_14q.2.2.2.2.1
theorem dX9_goOn_23 : decode cX9_goOn 23 = .ok (.iconst (-1), 1) := eX9_goOn_14q.2.2.2.2.2.1
theorem dX9_goOn_24 : decode cX9_goOn 24 = .ok (.putfield 24, 3) := eX9_goOn_14q.2.2.2.2.2.2.1
theorem dX9_goOn_27 : decode cX9_goOn 27 = .ok (.return_, 1) := eX9_goOn_14q.2.2.2.2.2.2.2
theorem eX9_goOn_28q : (decode cX9_goOn 28 = .ok (.aload_n 0, 1)) ∧ (decode cX9_goOn 29 = .ok (.getfield 37, 3)) ∧ (decode cX9_goOn 32 = .ok (.getfield 66, 3)) ∧ (decode cX9_goOn 35 = .ok (.aload_n 0, 1)) ∧ (decode cX9_goOn 36 = .ok (.getfield 18, 3)) ∧ (decode cX9_goOn 39 = .ok (.iaload, 1)) ∧ (decode cX9_goOn 40 = .ok (.aload_n 0, 1)) ∧ (decode cX9_goOn 41 = .ok (.getfield 37, 3)) := by decide +kernel
theorem dX9_goOn_28 : decode cX9_goOn 28 = .ok (.aload_n 0, 1) := eX9_goOn_28q.1
theorem dX9_goOn_29 : decode cX9_goOn 29 = .ok (.getfield 37, 3) := eX9_goOn_28q.2.1
theorem dX9_goOn_32 : decode cX9_goOn 32 = .ok (.getfield 66, 3) := eX9_goOn_28q.2.2.1
theorem dX9_goOn_35 : decode cX9_goOn 35 = .ok (.aload_n 0, 1) := eX9_goOn_28q.2.2.2.1
theorem dX9_goOn_36 : decode cX9_goOn 36 = .ok (.getfield 18, 3) := eX9_goOn_28q.2.2.2.2.1
theorem dX9_goOn_39 : decode cX9_goOn 39 = .ok (.iaload, 1) := eX9_goOn_28q.2.2.2.2.2.1
theorem dX9_goOn_40 : decode cX9_goOn 40 = .ok (.aload_n 0, 1) := eX9_goOn_28q.2.2.2.2.2.2.1
theorem dX9_goOn_41 : decode cX9_goOn 41 = .ok (.getfield 37, 3) := eX9_goOn_28q.2.2.2.2.2.2.2
theorem eX9_goOn_44q : (decode cX9_goOn 44 = .ok (.getfield 69, 3)) ∧ (decode cX9_goOn 47 = .ok (.aload_n 0, 1)) ∧ (decode cX9_goOn 48 = .ok (.getfield 18, 3)) ∧ (decode cX9_goOn 51 = .ok (.iaload, 1)) ∧ (decode cX9_goOn 52 = .ok (.aload_n 0, 1)) ∧ (decode cX9_goOn 53 = .ok (.getfield 41, 3)) ∧ (decode cX9_goOn 56 = .ok (.getfield 72, 3)) ∧ (decode cX9_goOn 59 = .ok (.aload_n 0, 1)) := by decide +kernel
theorem dX9_goOn_44 : decode cX9_goOn 44 = .ok (.getfield 69, 3) := eX9_goOn_44q.1
theorem dX9_goOn_47 : decode cX9_goOn 47 = .ok (.aload_n 0, 1) := eX9_goOn_44q.2.1
theorem dX9_goOn_48 : decode cX9_goOn 48 = .ok (.getfield 18, 3) := eX9_goOn_44q.2.2.1
theorem dX9_goOn_51 : decode cX9_goOn 51 = .ok (.iaload, 1) := eX9_goOn_44q.2.2.2.1
theorem dX9_goOn_52 : decode cX9_goOn 52 = .ok (.aload_n 0, 1) := eX9_goOn_44q.2.2.2.2.1
theorem dX9_goOn_53 : decode cX9_goOn 53 = .ok (.getfield 41, 3) := eX9_goOn_44q.2.2.2.2.2.1
theorem dX9_goOn_56 : decode cX9_goOn 56 = .ok (.getfield 72, 3) := eX9_goOn_44q.2.2.2.2.2.2.1
theorem dX9_goOn_59 : decode cX9_goOn 59 = .ok (.aload_n 0, 1) := eX9_goOn_44q.2.2.2.2.2.2.2
theorem eX9_goOn_60q : (decode cX9_goOn 60 = .ok (.getfield 18, 3)) ∧ (decode cX9_goOn 63 = .ok (.iaload, 1)) ∧ (decode cX9_goOn 64 = .ok (.iload_n 1, 1)) ∧ (decode cX9_goOn 65 = .ok (.iload_n 2, 1)) ∧ (decode cX9_goOn 66 = .ok (.iload_n 3, 1)) ∧ (decode cX9_goOn 67 = .ok (.invokestatic 77, 3)) ∧ (decode cX9_goOn 70 = .ok (.istore 4, 2)) ∧ (decode cX9_goOn 72 = .ok (.aload_n 0, 1)) := by decide +kernel
theorem dX9_goOn_60 : decode cX9_goOn 60 = .ok (.getfield 18, 3) := eX9_goOn_60q.1
theorem dX9_goOn_63 : decode cX9_goOn 63 = .ok (.iaload, 1) := eX9_goOn_60q.2.1
theorem dX9_goOn_64 : decode cX9_goOn 64 = .ok (.iload_n 1, 1) := eX9_goOn_60q.2.2.1
theorem dX9_goOn_65 : decode cX9_goOn 65 = .ok (.iload_n 2, 1) := eX9_goOn_60q.2.2.2.1
theorem dX9_goOn_66 : decode cX9_goOn 66 = .ok (.iload_n 3, 1) := eX9_goOn_60q.2.2.2.2.1
theorem dX9_goOn_67 : decode cX9_goOn 67 = .ok (.invokestatic 77, 3) := eX9_goOn_60q.2.2.2.2.2.1
theorem dX9_goOn_70 : decode cX9_goOn 70 = .ok (.istore 4, 2) := eX9_goOn_60q.2.2.2.2.2.2.1
theorem dX9_goOn_72 : decode cX9_goOn 72 = .ok (.aload_n 0, 1) := eX9_goOn_60q.2.2.2.2.2.2.2
theorem eX9_goOn_73q : (decode cX9_goOn 73 = .ok (.getfield 37, 3)) ∧ (decode cX9_goOn 76 = .ok (.aload_n 0, 1)) ∧ (decode cX9_goOn 77 = .ok (.getfield 18, 3)) ∧ (decode cX9_goOn 80 = .ok (.iload_n 2, 1)) ∧ (decode cX9_goOn 81 = .ok (.aload_n 0, 1)) ∧ (decode cX9_goOn 82 = .ok (.getfield 18, 3)) ∧ (decode cX9_goOn 85 = .ok (.aload_n 0, 1)) ∧ (decode cX9_goOn 86 = .ok (.getfield 9, 3)) := by decide +kernel
theorem dX9_goOn_73 : decode cX9_goOn 73 = .ok (.getfield 37, 3) := eX9_goOn_73q.1
theorem dX9_goOn_76 : decode cX9_goOn 76 = .ok (.aload_n 0, 1) := eX9_goOn_73q.2.1
theorem dX9_goOn_77 : decode cX9_goOn 77 = .ok (.getfield 18, 3) := eX9_goOn_73q.2.2.1
theorem dX9_goOn_80 : decode cX9_goOn 80 = .ok (.iload_n 2, 1) := eX9_goOn_73q.2.2.2.1
theorem dX9_goOn_81 : decode cX9_goOn 81 = .ok (.aload_n 0, 1) := eX9_goOn_73q.2.2.2.2.1
theorem dX9_goOn_82 : decode cX9_goOn 82 = .ok (.getfield 18, 3) := eX9_goOn_73q.2.2.2.2.2.1
theorem dX9_goOn_85 : decode cX9_goOn 85 = .ok (.aload_n 0, 1) := eX9_goOn_73q.2.2.2.2.2.2.1
theorem dX9_goOn_86 : decode cX9_goOn 86 = .ok (.getfield 9, 3) := eX9_goOn_73q.2.2.2.2.2.2.2
theorem eX9_goOn_89q : (decode cX9_goOn 89 = .ok (.if_icmp .ne 10, 3)) ∧ (decode cX9_goOn 92 = .ok (.aload_n 0, 1)) ∧ (decode cX9_goOn 93 = .ok (.getfield 15, 3)) ∧ (decode cX9_goOn 96 = .ok (.goto 5, 3)) ∧ (decode cX9_goOn 99 = .ok (.iload 4, 2)) ∧ (decode cX9_goOn 101 = .ok (.invokevirtual 81, 3)) ∧ (decode cX9_goOn 104 = .ok (.istore 5, 2)) ∧ (decode cX9_goOn 106 = .ok (.aload_n 0, 1)) := by decide +kernel
theorem dX9_goOn_89 : decode cX9_goOn 89 = .ok (.if_icmp .ne 10, 3) := eX9_goOn_89q.1
theorem dX9_goOn_92 : decode cX9_goOn 92 = .ok (.aload_n 0, 1) := eX9_goOn_89q.2.1
theorem dX9_goOn_93 : decode cX9_goOn 93 = .ok (.getfield 15, 3) := eX9_goOn_89q.2.2.1
theorem dX9_goOn_96 : decode cX9_goOn 96 = .ok (.goto 5, 3) := eX9_goOn_89q.2.2.2.1
theorem dX9_goOn_99 : decode cX9_goOn 99 = .ok (.iload 4, 2) := eX9_goOn_89q.2.2.2.2.1
theorem dX9_goOn_101 : decode cX9_goOn 101 = .ok (.invokevirtual 81, 3) := eX9_goOn_89q.2.2.2.2.2.1
theorem dX9_goOn_104 : decode cX9_goOn 104 = .ok (.istore 5, 2) := eX9_goOn_89q.2.2.2.2.2.2.1
theorem dX9_goOn_106 : decode cX9_goOn 106 = .ok (.aload_n 0, 1) := eX9_goOn_89q.2.2.2.2.2.2.2
theorem eX9_goOn_107q : (decode cX9_goOn 107 = .ok (.aload_n 0, 1)) ∧ (decode cX9_goOn 108 = .ok (.getfield 21, 3)) ∧ (decode cX9_goOn 111 = .ok (.putfield 24, 3)) ∧ (decode cX9_goOn 114 = .ok (.aload_n 0, 1)) ∧ (decode cX9_goOn 115 = .ok (.dup, 1)) ∧ (decode cX9_goOn 116 = .ok (.getfield 27, 3)) ∧ (decode cX9_goOn 119 = .ok (.iconst 1, 1)) ∧ (decode cX9_goOn 120 = .ok (.aload_n 0, 1)) := by decide +kernel
theorem dX9_goOn_107 : decode cX9_goOn 107 = .ok (.aload_n 0, 1) := eX9_goOn_107q.1
theorem dX9_goOn_108 : decode cX9_goOn 108 = .ok (.getfield 21, 3) := eX9_goOn_107q.2.1
theorem dX9_goOn_111 : decode cX9_goOn 111 = .ok (.putfield 24, 3) := eX9_goOn_107q.2.2.1
theorem dX9_goOn_114 : decode cX9_goOn 114 = .ok (.aload_n 0, 1) := eX9_goOn_107q.2.2.2.1
theorem dX9_goOn_115 : decode cX9_goOn 115 = .ok (.dup, 1) := eX9_goOn_107q.2.2.2.2.1
theorem dX9_goOn_116 : decode cX9_goOn 116 = .ok (.getfield 27, 3) := eX9_goOn_107q.2.2.2.2.2.1
theorem dX9_goOn_119 : decode cX9_goOn 119 = .ok (.iconst 1, 1) := eX9_goOn_107q.2.2.2.2.2.2.1
theorem dX9_goOn_120 : decode cX9_goOn 120 = .ok (.aload_n 0, 1) := eX9_goOn_107q.2.2.2.2.2.2.2
theorem eX9_goOn_121q : (decode cX9_goOn 121 = .ok (.getfield 18, 3)) ∧ (decode cX9_goOn 124 = .ok (.ishl, 1)) ∧ (decode cX9_goOn 125 = .ok (.ior, 1)) ∧ (decode cX9_goOn 126 = .ok (.putfield 27, 3)) ∧ (decode cX9_goOn 129 = .ok (.aload_n 0, 1)) ∧ (decode cX9_goOn 130 = .ok (.dup, 1)) ∧ (decode cX9_goOn 131 = .ok (.getfield 30, 3)) ∧ (decode cX9_goOn 134 = .ok (.iconst 1, 1)) := by decide +kernel
theorem dX9_goOn_121 : decode cX9_goOn 121 = .ok (.getfield 18, 3) := eX9_goOn_121q.1
theorem dX9_goOn_124 : decode cX9_goOn 124 = .ok (.ishl, 1) := eX9_goOn_121q.2.1
theorem dX9_goOn_125 : decode cX9_goOn 125 = .ok (.ior, 1) := eX9_goOn_121q.2.2.1
theorem dX9_goOn_126 : decode cX9_goOn 126 = .ok (.putfield 27, 3) := eX9_goOn_121q.2.2.2.1
theorem dX9_goOn_129 : decode cX9_goOn 129 = .ok (.aload_n 0, 1) := eX9_goOn_121q.2.2.2.2.1
theorem dX9_goOn_130 : decode cX9_goOn 130 = .ok (.dup, 1) := eX9_goOn_121q.2.2.2.2.2.1
theorem dX9_goOn_131 : decode cX9_goOn 131 = .ok (.getfield 30, 3) := eX9_goOn_121q.2.2.2.2.2.2.1
theorem dX9_goOn_134 : decode cX9_goOn 134 = .ok (.iconst 1, 1) := eX9_goOn_121q.2.2.2.2.2.2.2
theorem eX9_goOn_135q : (decode cX9_goOn 135 = .ok (.iload 5, 2)) ∧ (decode cX9_goOn 137 = .ok (.ishl, 1)) ∧ (decode cX9_goOn 138 = .ok (.ior, 1)) ∧ (decode cX9_goOn 139 = .ok (.putfield 30, 3)) ∧ (decode cX9_goOn 142 = .ok (.aload_n 0, 1)) ∧ (decode cX9_goOn 143 = .ok (.iload 5, 2)) ∧ (decode cX9_goOn 145 = .ok (.iconst 1, 1)) ∧ (decode cX9_goOn 146 = .ok (.iadd, 1)) := by decide +kernel
theorem dX9_goOn_135 : decode cX9_goOn 135 = .ok (.iload 5, 2) := eX9_goOn_135q.1
theorem dX9_goOn_137 : decode cX9_goOn 137 = .ok (.ishl, 1) := eX9_goOn_135q.2.1
theorem dX9_goOn_138 : decode cX9_goOn 138 = .ok (.ior, 1) := eX9_goOn_135q.2.2.1
theorem dX9_goOn_139 : decode cX9_goOn 139 = .ok (.putfield 30, 3) := eX9_goOn_135q.2.2.2.1
theorem dX9_goOn_142 : decode cX9_goOn 142 = .ok (.aload_n 0, 1) := eX9_goOn_135q.2.2.2.2.1
theorem dX9_goOn_143 : decode cX9_goOn 143 = .ok (.iload 5, 2) := eX9_goOn_135q.2.2.2.2.2.1
theorem dX9_goOn_145 : decode cX9_goOn 145 = .ok (.iconst 1, 1) := eX9_goOn_135q.2.2.2.2.2.2.1
theorem dX9_goOn_146 : decode cX9_goOn 146 = .ok (.iadd, 1) := eX9_goOn_135q.2.2.2.2.2.2.2
theorem eX9_goOn_147q : (decode cX9_goOn 147 = .ok (.putfield 21, 3)) ∧ (decode cX9_goOn 150 = .ok (.aload_n 0, 1)) ∧ (decode cX9_goOn 151 = .ok (.aload_n 0, 1)) ∧ (decode cX9_goOn 152 = .ok (.getfield 37, 3)) ∧ (decode cX9_goOn 155 = .ok (.getfield 85, 3)) ∧ (decode cX9_goOn 158 = .ok (.iload 5, 2)) ∧ (decode cX9_goOn 160 = .ok (.iaload, 1)) ∧ (decode cX9_goOn 161 = .ok (.putfield 18, 3)) := by decide +kernel
theorem dX9_goOn_147 : decode cX9_goOn 147 = .ok (.putfield 21, 3) := eX9_goOn_147q.1
theorem dX9_goOn_150 : decode cX9_goOn 150 = .ok (.aload_n 0, 1) := eX9_goOn_147q.2.1
theorem dX9_goOn_151 : decode cX9_goOn 151 = .ok (.aload_n 0, 1) := eX9_goOn_147q.2.2.1
theorem dX9_goOn_152 : decode cX9_goOn 152 = .ok (.getfield 37, 3) := eX9_goOn_147q.2.2.2.1
theorem dX9_goOn_155 : decode cX9_goOn 155 = .ok (.getfield 85, 3) := eX9_goOn_147q.2.2.2.2.1
theorem dX9_goOn_158 : decode cX9_goOn 158 = .ok (.iload 5, 2) := eX9_goOn_147q.2.2.2.2.2.1
theorem dX9_goOn_160 : decode cX9_goOn 160 = .ok (.iaload, 1) := eX9_goOn_147q.2.2.2.2.2.2.1
theorem dX9_goOn_161 : decode cX9_goOn 161 = .ok (.putfield 18, 3) := eX9_goOn_147q.2.2.2.2.2.2.2
theorem dX9_goOn_164 : decode cX9_goOn 164 = .ok (.return_, 1) := by decide +kernel
theorem eX9_choiceBy_0q : (decode cX9_choiceBy 0 = .ok (.iload 5, 2)) ∧ (decode cX9_choiceBy 2 = .ok (.ifCond .gt 5, 3)) ∧ (decode cX9_choiceBy 5 = .ok (.iconst 0, 1)) ∧ (decode cX9_choiceBy 6 = .ok (.ireturn, 1)) ∧ (decode cX9_choiceBy 7 = .ok (.iload_n 0, 1)) ∧ (decode cX9_choiceBy 8 = .ok (.tableswitch 60 1 3 #[28, 44, 49], 28)) ∧ (decode cX9_choiceBy 36 = .ok (.bipush 7, 2)) ∧ (decode cX9_choiceBy 38 = .ok (.iload_n 3, 1)) := by decide +kernel
theorem dX9_choiceBy_0 : decode cX9_choiceBy 0 = .ok (.iload 5, 2) := eX9_choiceBy_0q.1
theorem dX9_choiceBy_2 : decode cX9_choiceBy 2 = .ok (.ifCond .gt 5, 3) := eX9_choiceBy_0q.2.1
theorem dX9_choiceBy_5 : decode cX9_choiceBy 5 = .ok (.iconst 0, 1) := eX9_choiceBy_0q.2.2.1
theorem dX9_choiceBy_6 : decode cX9_choiceBy 6 = .ok (.ireturn, 1) := eX9_choiceBy_0q.2.2.2.1
theorem dX9_choiceBy_7 : decode cX9_choiceBy 7 = .ok (.iload_n 0, 1) := eX9_choiceBy_0q.2.2.2.2.1
theorem dX9_choiceBy_8 : decode cX9_choiceBy 8 = .ok (.tableswitch 60 1 3 #[28, 44, 49], 28) := eX9_choiceBy_0q.2.2.2.2.2.1
theorem dX9_choiceBy_36 : decode cX9_choiceBy 36 = .ok (.bipush 7, 2) := eX9_choiceBy_0q.2.2.2.2.2.2.1
theorem dX9_choiceBy_38 : decode cX9_choiceBy 38 = .ok (.iload_n 3, 1) := eX9_choiceBy_0q.2.2.2.2.2.2.2
theorem eX9_choiceBy_39q : (decode cX9_choiceBy 39 = .ok (.imul, 1)) ∧ (decode cX9_choiceBy 40 = .ok (.bipush 13, 2)) ∧ (decode cX9_choiceBy 42 = .ok (.iload 4, 2)) ∧ (decode cX9_choiceBy 44 = .ok (.imul, 1)) ∧ (decode cX9_choiceBy 45 = .ok (.iadd, 1)) ∧ (decode cX9_choiceBy 46 = .ok (.iload_n 1, 1)) ∧ (decode cX9_choiceBy 47 = .ok (.iadd, 1)) ∧ (decode cX9_choiceBy 48 = .ok (.iload 5, 2)) := by decide +kernel
theorem dX9_choiceBy_39 : decode cX9_choiceBy 39 = .ok (.imul, 1) := eX9_choiceBy_39q.1
theorem dX9_choiceBy_40 : decode cX9_choiceBy 40 = .ok (.bipush 13, 2) := eX9_choiceBy_39q.2.1
theorem dX9_choiceBy_42 : decode cX9_choiceBy 42 = .ok (.iload 4, 2) := eX9_choiceBy_39q.2.2.1
theorem dX9_choiceBy_44 : decode cX9_choiceBy 44 = .ok (.imul, 1) := eX9_choiceBy_39q.2.2.2.1
theorem dX9_choiceBy_45 : decode cX9_choiceBy 45 = .ok (.iadd, 1) := eX9_choiceBy_39q.2.2.2.2.1
theorem dX9_choiceBy_46 : decode cX9_choiceBy 46 = .ok (.iload_n 1, 1) := eX9_choiceBy_39q.2.2.2.2.2.1
theorem dX9_choiceBy_47 : decode cX9_choiceBy 47 = .ok (.iadd, 1) := eX9_choiceBy_39q.2.2.2.2.2.2.1
theorem dX9_choiceBy_48 : decode cX9_choiceBy 48 = .ok (.iload 5, 2) := eX9_choiceBy_39q.2.2.2.2.2.2.2
theorem eX9_choiceBy_50q : (decode cX9_choiceBy 50 = .ok (.irem, 1)) ∧ (decode cX9_choiceBy 51 = .ok (.ireturn, 1)) ∧ (decode cX9_choiceBy 52 = .ok (.iload_n 2, 1)) ∧ (decode cX9_choiceBy 53 = .ok (.iload 5, 2)) ∧ (decode cX9_choiceBy 55 = .ok (.irem, 1)) ∧ (decode cX9_choiceBy 56 = .ok (.ireturn, 1)) ∧ (decode cX9_choiceBy 57 = .ok (.bipush 13, 2)) ∧ (decode cX9_choiceBy 59 = .ok (.iload 4, 2)) := by decide +kernel
theorem dX9_choiceBy_50 : decode cX9_choiceBy 50 = .ok (.irem, 1) := eX9_choiceBy_50q.1
theorem dX9_choiceBy_51 : decode cX9_choiceBy 51 = .ok (.ireturn, 1) := eX9_choiceBy_50q.2.1
theorem dX9_choiceBy_52 : decode cX9_choiceBy 52 = .ok (.iload_n 2, 1) := eX9_choiceBy_50q.2.2.1
theorem dX9_choiceBy_53 : decode cX9_choiceBy 53 = .ok (.iload 5, 2) := eX9_choiceBy_50q.2.2.2.1
theorem dX9_choiceBy_55 : decode cX9_choiceBy 55 = .ok (.irem, 1) := eX9_choiceBy_50q.2.2.2.2.1
theorem dX9_choiceBy_56 : decode cX9_choiceBy 56 = .ok (.ireturn, 1) := eX9_choiceBy_50q.2.2.2.2.2.1
theorem dX9_choiceBy_57 : decode cX9_choiceBy 57 = .ok (.bipush 13, 2) := eX9_choiceBy_50q.2.2.2.2.2.2.1
theorem dX9_choiceBy_59 : decode cX9_choiceBy 59 = .ok (.iload 4, 2) := eX9_choiceBy_50q.2.2.2.2.2.2.2
theorem eX9_choiceBy_61q : (decode cX9_choiceBy 61 = .ok (.imul, 1)) ∧ (decode cX9_choiceBy 62 = .ok (.iload_n 1, 1)) ∧ (decode cX9_choiceBy 63 = .ok (.iadd, 1)) ∧ (decode cX9_choiceBy 64 = .ok (.iload 5, 2)) ∧ (decode cX9_choiceBy 66 = .ok (.irem, 1)) ∧ (decode cX9_choiceBy 67 = .ok (.ireturn, 1)) ∧ (decode cX9_choiceBy 68 = .ok (.iconst 0, 1)) ∧ (decode cX9_choiceBy 69 = .ok (.ireturn, 1)) := by decide +kernel
theorem dX9_choiceBy_61 : decode cX9_choiceBy 61 = .ok (.imul, 1) := eX9_choiceBy_61q.1
theorem dX9_choiceBy_62 : decode cX9_choiceBy 62 = .ok (.iload_n 1, 1) := eX9_choiceBy_61q.2.1
theorem dX9_choiceBy_63 : decode cX9_choiceBy 63 = .ok (.iadd, 1) := eX9_choiceBy_61q.2.2.1
theorem dX9_choiceBy_64 : decode cX9_choiceBy 64 = .ok (.iload 5, 2) := eX9_choiceBy_61q.2.2.2.1
theorem dX9_choiceBy_66 : decode cX9_choiceBy 66 = .ok (.irem, 1) := eX9_choiceBy_61q.2.2.2.2.1
theorem dX9_choiceBy_67 : decode cX9_choiceBy 67 = .ok (.ireturn, 1) := eX9_choiceBy_61q.2.2.2.2.2.1
theorem dX9_choiceBy_68 : decode cX9_choiceBy 68 = .ok (.iconst 0, 1) := eX9_choiceBy_61q.2.2.2.2.2.2.1
theorem dX9_choiceBy_69 : decode cX9_choiceBy 69 = .ok (.ireturn, 1) := eX9_choiceBy_61q.2.2.2.2.2.2.2
set_option maxRecDepth 20000 in
theorem ggX9_choiceByCode_X9_choiceBy : GoodIn wsX9_choiceByCode wsX9_choiceBy := goodIn_r _ [4] rfl (by decide +kernel)
set_option maxRecDepth 20000 in
theorem gX9_choiceByCode_X9_choiceBy : GoodIn wsX9_choiceByCode (va_wsS RX9 77 yX9_choiceBy wsX9_choiceBy) := goodIn_app (goodIn_r _ [1, 2, 3] rfl (by decide +kernel)) ggX9_choiceByCode_X9_choiceBy
theorem eX9_choiceByCode_0q : (decode cX9_choiceByCode 0 = .ok (.iload_n 0, 1)) ∧ (decode cX9_choiceByCode 1 = .ok (.bipush 16, 2)) ∧ (decode cX9_choiceByCode 3 = .ok (.idiv, 1)) ∧ (decode cX9_choiceByCode 4 = .ok (.iload_n 0, 1)) ∧ (decode cX9_choiceByCode 5 = .ok (.bipush 16, 2)) ∧ (decode cX9_choiceByCode 7 = .ok (.irem, 1)) ∧ (decode cX9_choiceByCode 8 = .ok (.iconst 0, 1)) ∧ (decode cX9_choiceByCode 9 = .ok (.iload_n 1, 1)) := by decide +kernel
theorem dX9_choiceByCode_0 : decode cX9_choiceByCode 0 = .ok (.iload_n 0, 1) := eX9_choiceByCode_0q.1
theorem dX9_choiceByCode_1 : decode cX9_choiceByCode 1 = .ok (.bipush 16, 2) := eX9_choiceByCode_0q.2.1
theorem dX9_choiceByCode_3 : decode cX9_choiceByCode 3 = .ok (.idiv, 1) := eX9_choiceByCode_0q.2.2.1
theorem dX9_choiceByCode_4 : decode cX9_choiceByCode 4 = .ok (.iload_n 0, 1) := eX9_choiceByCode_0q.2.2.2.1
theorem dX9_choiceByCode_5 : decode cX9_choiceByCode 5 = .ok (.bipush 16, 2) := eX9_choiceByCode_0q.2.2.2.2.1
theorem dX9_choiceByCode_7 : decode cX9_choiceByCode 7 = .ok (.irem, 1) := eX9_choiceByCode_0q.2.2.2.2.2.1
theorem dX9_choiceByCode_8 : decode cX9_choiceByCode 8 = .ok (.iconst 0, 1) := eX9_choiceByCode_0q.2.2.2.2.2.2.1
theorem dX9_choiceByCode_9 : decode cX9_choiceByCode 9 = .ok (.iload_n 1, 1) := eX9_choiceByCode_0q.2.2.2.2.2.2.2
theorem eX9_choiceByCode_10q : (decode cX9_choiceByCode 10 = .ok (.iload_n 2, 1)) ∧ (decode cX9_choiceByCode 11 = .ok (.iload_n 3, 1)) ∧ (decode cX9_choiceByCode 12 = .ok (.invokestatic 77, 3)) ∧ (decode cX9_choiceByCode 15 = .ok (.ireturn, 1)) := by decide +kernel
theorem dX9_choiceByCode_10 : decode cX9_choiceByCode 10 = .ok (.iload_n 2, 1) := eX9_choiceByCode_10q.1
theorem dX9_choiceByCode_11 : decode cX9_choiceByCode 11 = .ok (.iload_n 3, 1) := eX9_choiceByCode_10q.2.1
theorem dX9_choiceByCode_12 : decode cX9_choiceByCode 12 = .ok (.invokestatic 77, 3) := eX9_choiceByCode_10q.2.2.1
theorem dX9_choiceByCode_15 : decode cX9_choiceByCode 15 = .ok (.ireturn, 1) := eX9_choiceByCode_10q.2.2.2
