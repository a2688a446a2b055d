theorem eX11_copyTo_0q : (decode cX11_copyTo 0 = .ok (.iconst 0, 1)) ∧ (decode cX11_copyTo 1 = .ok (.istore_n 2, 1)) ∧ (decode cX11_copyTo 2 = .ok (.iload_n 2, 1)) ∧ (decode cX11_copyTo 3 = .ok (.aload_n 0, 1)) ∧ (decode cX11_copyTo 4 = .ok (.arraylength, 1)) ∧ (decode cX11_copyTo 5 = .ok (.if_icmp .ge 15, 3)) ∧ (decode cX11_copyTo 8 = .ok (.aload_n 0, 1)) ∧ (decode cX11_copyTo 9 = .ok (.iload_n 2, 1)) := by decide +kernel
theorem dX11_copyTo_0 : decode cX11_copyTo 0 = .ok (.iconst 0, 1) := eX11_copyTo_0q.1
theorem dX11_copyTo_1 : decode cX11_copyTo 1 = .ok (.istore_n 2, 1) := eX11_copyTo_0q.2.1
theorem dX11_copyTo_2 : decode cX11_copyTo 2 = .ok (.iload_n 2, 1) := eX11_copyTo_0q.2.2.1
theorem dX11_copyTo_3 : decode cX11_copyTo 3 = .ok (.aload_n 0, 1) := eX11_copyTo_0q.2.2.2.1
theorem dX11_copyTo_4 : decode cX11_copyTo 4 = .ok (.arraylength, 1) := eX11_copyTo_0q.2.2.2.2.1
theorem dX11_copyTo_5 : decode cX11_copyTo 5 = .ok (.if_icmp .ge 15, 3) := eX11_copyTo_0q.2.2.2.2.2.1
theorem dX11_copyTo_8 : decode cX11_copyTo 8 = .ok (.aload_n 0, 1) := eX11_copyTo_0q.2.2.2.2.2.2.1
theorem dX11_copyTo_9 : decode cX11_copyTo 9 = .ok (.iload_n 2, 1) := eX11_copyTo_0q.2.2.2.2.2.2.2
theorem eX11_copyTo_10q : (decode cX11_copyTo 10 = .ok (.aload_n 1, 1)) ∧ (decode cX11_copyTo 11 = .ok (.iload_n 2, 1)) ∧ (decode cX11_copyTo 12 = .ok (.iaload, 1)) ∧ (decode cX11_copyTo 13 = .ok (.iastore, 1)) ∧ (decode cX11_copyTo 14 = .ok (.iinc 2 1, 3)) ∧ (decode cX11_copyTo 17 = .ok (.goto (-15), 3)) ∧ (decode cX11_copyTo 20 = .ok (.return_, 1)) := by decide +kernel
theorem dX11_copyTo_10 : decode cX11_copyTo 10 = .ok (.aload_n 1, 1) := eX11_copyTo_10q.1
theorem dX11_copyTo_11 : decode cX11_copyTo 11 = .ok (.iload_n 2, 1) := eX11_copyTo_10q.2.1
theorem dX11_copyTo_12 : decode cX11_copyTo 12 = .ok (.iaload, 1) := eX11_copyTo_10q.2.2.1
theorem dX11_copyTo_13 : decode cX11_copyTo 13 = .ok (.iastore, 1) := eX11_copyTo_10q.2.2.2.1
theorem dX11_copyTo_14 : decode cX11_copyTo 14 = .ok (.iinc 2 1, 3) := eX11_copyTo_10q.2.2.2.2.1
theorem dX11_copyTo_17 : decode cX11_copyTo 17 = .ok (.goto (-15), 3) := eX11_copyTo_10q.2.2.2.2.2.1
theorem dX11_copyTo_20 : decode cX11_copyTo 20 = .ok (.return_, 1) := eX11_copyTo_10q.2.2.2.2.2.2
set_option maxRecDepth 20000 in
theorem ggX11_clear_X11_keep : GoodIn wsX11_clear wsX11_keep := by
  have h := goodIn_app (goodIn_r (big := wsX11_clear) (.code yX11_keep cX11_keep 2 none :: ([.fieldLink RX11 250 "PathProberModel" "acts" "I", .fieldLink RX11 84 "PathProberModel" "past" "[I", .fieldLink RX11 60 "PathProberModel" "now" "[I"]) : List Cond) [7, 8, 9, 2] rfl (by decide +kernel)) (goodIn_few (big := wsX11_clear) (fun _ h9 => List.mem_cons_of_mem _ (List.mem_append_right _ h9)) gb_0)
  exact h
set_option maxRecDepth 20000 in
theorem gX11_clear_X11_keep : GoodIn wsX11_clear (wsV RX11 380 RX11 yX11_keep wsX11_keep) := goodIn_app (goodIn_r _ [3, 4, 5, 6] rfl (by decide +kernel)) ggX11_clear_X11_keep
set_option maxRecDepth 20000 in
theorem ggX11_clear_X11_sentAll : GoodIn wsX11_clear wsX11_sentAll := by
  have h := goodIn_app (goodIn_r (big := wsX11_clear) (.code yX11_sentAll cX11_sentAll 3 (some .int) :: ([.fieldLink RX11 60 "PathProberModel" "now" "[I"]) : List Cond) [13, 2] rfl (by decide +kernel)) (goodIn_few (big := wsX11_clear) (fun _ h9 => List.mem_cons_of_mem _ (List.mem_append_right _ h9)) gb_0)
  exact h
set_option maxRecDepth 20000 in
theorem gX11_clear_X11_sentAll : GoodIn wsX11_clear (wsV RX11 395 RX11 yX11_sentAll wsX11_sentAll) := goodIn_app (goodIn_r _ [10, 11, 12, 6] rfl (by decide +kernel)) ggX11_clear_X11_sentAll
theorem eX11_clear_0q : (decode cX11_clear 0 = .ok (.aload_n 0, 1)) ∧ (decode cX11_clear 1 = .ok (.iconst 0, 1)) ∧ (decode cX11_clear 2 = .ok (.putfield 142, 3)) ∧ (decode cX11_clear 5 = .ok (.aload_n 0, 1)) ∧ (decode cX11_clear 6 = .ok (.invokevirtual 380, 3)) ∧ (decode cX11_clear 9 = .ok (.aload_n 0, 1)) ∧ (decode cX11_clear 10 = .ok (.invokevirtual 395, 3)) ∧ (decode cX11_clear 13 = .ok (.istore_n 1, 1)) := by decide +kernel
theorem dX11_clear_0 : decode cX11_clear 0 = .ok (.aload_n 0, 1) := eX11_clear_0q.1
theorem dX11_clear_1 : decode cX11_clear 1 = .ok (.iconst 0, 1) := eX11_clear_0q.2.1
theorem dX11_clear_2 : decode cX11_clear 2 = .ok (.putfield 142, 3) := eX11_clear_0q.2.2.1
theorem dX11_clear_5 : decode cX11_clear 5 = .ok (.aload_n 0, 1) := eX11_clear_0q.2.2.2.1
theorem dX11_clear_6 : decode cX11_clear 6 = .ok (.invokevirtual 380, 3) := eX11_clear_0q.2.2.2.2.1
theorem dX11_clear_9 : decode cX11_clear 9 = .ok (.aload_n 0, 1) := eX11_clear_0q.2.2.2.2.2.1
theorem dX11_clear_10 : decode cX11_clear 10 = .ok (.invokevirtual 395, 3) := eX11_clear_0q.2.2.2.2.2.2.1
theorem dX11_clear_13 : decode cX11_clear 13 = .ok (.istore_n 1, 1) := eX11_clear_0q.2.2.2.2.2.2.2
theorem eX11_clear_14q : (decode cX11_clear 14 = .ok (.iconst 0, 1)) ∧ (decode cX11_clear 15 = .ok (.istore_n 2, 1)) ∧ (decode cX11_clear 16 = .ok (.iload_n 2, 1)) ∧ (decode cX11_clear 17 = .ok (.bipush 30, 2)) ∧ (decode cX11_clear 19 = .ok (.if_icmp .ge 19, 3)) ∧ (decode cX11_clear 22 = .ok (.aload_n 0, 1)) ∧ (decode cX11_clear 23 = .ok (.getfield 60, 3)) ∧ (decode cX11_clear 26 = .ok (.bipush 24, 2)) := by decide +kernel
theorem dX11_clear_14 : decode cX11_clear 14 = .ok (.iconst 0, 1) := eX11_clear_14q.1
theorem dX11_clear_15 : decode cX11_clear 15 = .ok (.istore_n 2, 1) := eX11_clear_14q.2.1
theorem dX11_clear_16 : decode cX11_clear 16 = .ok (.iload_n 2, 1) := eX11_clear_14q.2.2.1
theorem dX11_clear_17 : decode cX11_clear 17 = .ok (.bipush 30, 2) := eX11_clear_14q.2.2.2.1
theorem dX11_clear_19 : decode cX11_clear 19 = .ok (.if_icmp .ge 19, 3) := eX11_clear_14q.2.2.2.2.1
theorem dX11_clear_22 : decode cX11_clear 22 = .ok (.aload_n 0, 1) := eX11_clear_14q.2.2.2.2.2.1
theorem dX11_clear_23 : decode cX11_clear 23 = .ok (.getfield 60, 3) := eX11_clear_14q.2.2.2.2.2.2.1
theorem dX11_clear_26 : decode cX11_clear 26 = .ok (.bipush 24, 2) := eX11_clear_14q.2.2.2.2.2.2.2
theorem eX11_clear_28q : (decode cX11_clear 28 = .ok (.iload_n 2, 1)) ∧ (decode cX11_clear 29 = .ok (.iadd, 1)) ∧ (decode cX11_clear 30 = .ok (.iconst 0, 1)) ∧ (decode cX11_clear 31 = .ok (.iastore, 1)) ∧ (decode cX11_clear 32 = .ok (.iinc 2 1, 3)) ∧ (decode cX11_clear 35 = .ok (.goto (-19), 3)) ∧ (decode cX11_clear 38 = .ok (.bipush 59, 2)) ∧ (decode cX11_clear 40 = .ok (.istore_n 2, 1)) := by decide +kernel
theorem dX11_clear_28 : decode cX11_clear 28 = .ok (.iload_n 2, 1) := eX11_clear_28q.1
theorem dX11_clear_29 : decode cX11_clear 29 = .ok (.iadd, 1) := eX11_clear_28q.2.1
theorem dX11_clear_30 : decode cX11_clear 30 = .ok (.iconst 0, 1) := eX11_clear_28q.2.2.1
theorem dX11_clear_31 : decode cX11_clear 31 = .ok (.iastore, 1) := eX11_clear_28q.2.2.2.1
theorem dX11_clear_32 : decode cX11_clear 32 = .ok (.iinc 2 1, 3) := eX11_clear_28q.2.2.2.2.1
theorem dX11_clear_35 : decode cX11_clear 35 = .ok (.goto (-19), 3) := eX11_clear_28q.2.2.2.2.2.1
theorem dX11_clear_38 : decode cX11_clear 38 = .ok (.bipush 59, 2) := eX11_clear_28q.2.2.2.2.2.2.1
theorem dX11_clear_40 : decode cX11_clear 40 = .ok (.istore_n 2, 1) := eX11_clear_28q.2.2.2.2.2.2.2
theorem eX11_clear_41q : (decode cX11_clear 41 = .ok (.iload_n 2, 1)) ∧ (decode cX11_clear 42 = .ok (.sipush 1019, 3)) ∧ (decode cX11_clear 45 = .ok (.if_icmp .ge 16, 3)) ∧ (decode cX11_clear 48 = .ok (.aload_n 0, 1)) ∧ (decode cX11_clear 49 = .ok (.getfield 60, 3)) ∧ (decode cX11_clear 52 = .ok (.iload_n 2, 1)) ∧ (decode cX11_clear 53 = .ok (.iconst 0, 1)) ∧ (decode cX11_clear 54 = .ok (.iastore, 1)) := by decide +kernel
theorem dX11_clear_41 : decode cX11_clear 41 = .ok (.iload_n 2, 1) := eX11_clear_41q.1
theorem dX11_clear_42 : decode cX11_clear 42 = .ok (.sipush 1019, 3) := eX11_clear_41q.2.1
theorem dX11_clear_45 : decode cX11_clear 45 = .ok (.if_icmp .ge 16, 3) := eX11_clear_41q.2.2.1
theorem dX11_clear_48 : decode cX11_clear 48 = .ok (.aload_n 0, 1) := eX11_clear_41q.2.2.2.1
theorem dX11_clear_49 : decode cX11_clear 49 = .ok (.getfield 60, 3) := eX11_clear_41q.2.2.2.2.1
theorem dX11_clear_52 : decode cX11_clear 52 = .ok (.iload_n 2, 1) := eX11_clear_41q.2.2.2.2.2.1
theorem dX11_clear_53 : decode cX11_clear 53 = .ok (.iconst 0, 1) := eX11_clear_41q.2.2.2.2.2.2.1
theorem dX11_clear_54 : decode cX11_clear 54 = .ok (.iastore, 1) := eX11_clear_41q.2.2.2.2.2.2.2
theorem eX11_clear_55q : (decode cX11_clear 55 = .ok (.iinc 2 1, 3)) ∧ (decode cX11_clear 58 = .ok (.goto (-17), 3)) ∧ (decode cX11_clear 61 = .ok (.iload_n 1, 1)) ∧ (decode cX11_clear 62 = .ok (.ireturn, 1)) := by decide +kernel
theorem dX11_clear_55 : decode cX11_clear 55 = .ok (.iinc 2 1, 3) := eX11_clear_55q.1
theorem dX11_clear_58 : decode cX11_clear 58 = .ok (.goto (-17), 3) := eX11_clear_55q.2.1
theorem dX11_clear_61 : decode cX11_clear 61 = .ok (.iload_n 1, 1) := eX11_clear_55q.2.2.1
theorem dX11_clear_62 : decode cX11_clear 62 = .ok (.ireturn, 1) := eX11_clear_55q.2.2.2
set_option maxRecDepth 20000 in
theorem ggX11_tellPlaces_X11_routers : GoodIn wsX11_tellPlaces wsX11_routers := by
  have h := goodIn_app (goodIn_r (big := wsX11_tellPlaces) (.code yX11_routers cX11_routers 1 (some .int) :: ([.fieldLink RX11 34 "PathProberModel" "told" "[I"]) : List Cond) [9, 10] rfl (by decide +kernel)) (goodIn_few (big := wsX11_tellPlaces) (fun _ h9 => List.mem_cons_of_mem _ (List.mem_append_right _ h9)) gb_0)
  exact h
set_option maxRecDepth 20000 in
theorem gX11_tellPlaces_X11_routers : GoodIn wsX11_tellPlaces (wsV RX11 263 RX11 yX11_routers wsX11_routers) := goodIn_app (goodIn_r _ [5, 6, 7, 8] rfl (by decide +kernel)) ggX11_tellPlaces_X11_routers
set_option maxRecDepth 20000 in
theorem ggX11_tellPlaces_X11_links : GoodIn wsX11_tellPlaces wsX11_links := by
  have h := goodIn_app (goodIn_r (big := wsX11_tellPlaces) (.code yX11_links cX11_links 1 (some .int) :: ([.fieldLink RX11 34 "PathProberModel" "told" "[I"]) : List Cond) [14, 10] rfl (by decide +kernel)) (goodIn_few (big := wsX11_tellPlaces) (fun _ h9 => List.mem_cons_of_mem _ (List.mem_append_right _ h9)) gb_0)
  exact h
set_option maxRecDepth 20000 in
theorem gX11_tellPlaces_X11_links : GoodIn wsX11_tellPlaces (wsV RX11 266 RX11 yX11_links wsX11_links) := goodIn_app (goodIn_r _ [11, 12, 13, 8] rfl (by decide +kernel)) ggX11_tellPlaces_X11_links
set_option maxRecDepth 20000 in
theorem ggX11_tellPlaces_X11_isBranch : GoodIn wsX11_tellPlaces wsX11_isBranch := by
  have h := goodIn_app (goodIn_r (big := wsX11_tellPlaces) (.code yX11_isBranch cX11_isBranch 4 (some .boolean) :: ([.fieldLink RX11 53 "PathProberModel" "from" "[I", .fieldLink RX11 73 "PathProberModel" "reach" "[I", .fieldLink RX11 56 "PathProberModel" "to" "[I"]) : List Cond) [18, 19, 2, 4] rfl (by decide +kernel)) (goodIn_few (big := wsX11_tellPlaces) (fun _ h9 => List.mem_cons_of_mem _ (List.mem_append_right _ h9)) gb_0)
  exact h
set_option maxRecDepth 20000 in
theorem gX11_tellPlaces_X11_isBranch : GoodIn wsX11_tellPlaces (wsV RX11 269 RX11 yX11_isBranch wsX11_isBranch) := goodIn_app (goodIn_r _ [15, 16, 17, 8] rfl (by decide +kernel)) ggX11_tellPlaces_X11_isBranch
theorem eX11_tellPlaces_0q : (decode cX11_tellPlaces 0 = .ok (.iconst 0, 1)) ∧ (decode cX11_tellPlaces 1 = .ok (.istore_n 2, 1)) ∧ (decode cX11_tellPlaces 2 = .ok (.iload_n 2, 1)) ∧ (decode cX11_tellPlaces 3 = .ok (.aload_n 0, 1)) ∧ (decode cX11_tellPlaces 4 = .ok (.getfield 87, 3)) ∧ (decode cX11_tellPlaces 7 = .ok (.arraylength, 1)) ∧ (decode cX11_tellPlaces 8 = .ok (.if_icmp .ge 16, 3)) ∧ (decode cX11_tellPlaces 11 = .ok (.aload_n 0, 1)) := by decide +kernel
theorem dX11_tellPlaces_0 : decode cX11_tellPlaces 0 = .ok (.iconst 0, 1) := eX11_tellPlaces_0q.1
theorem dX11_tellPlaces_1 : decode cX11_tellPlaces 1 = .ok (.istore_n 2, 1) := eX11_tellPlaces_0q.2.1
theorem dX11_tellPlaces_2 : decode cX11_tellPlaces 2 = .ok (.iload_n 2, 1) := eX11_tellPlaces_0q.2.2.1
theorem dX11_tellPlaces_3 : decode cX11_tellPlaces 3 = .ok (.aload_n 0, 1) := eX11_tellPlaces_0q.2.2.2.1
theorem dX11_tellPlaces_4 : decode cX11_tellPlaces 4 = .ok (.getfield 87, 3) := eX11_tellPlaces_0q.2.2.2.2.1
theorem dX11_tellPlaces_7 : decode cX11_tellPlaces 7 = .ok (.arraylength, 1) := eX11_tellPlaces_0q.2.2.2.2.2.1
theorem dX11_tellPlaces_8 : decode cX11_tellPlaces 8 = .ok (.if_icmp .ge 16, 3) := eX11_tellPlaces_0q.2.2.2.2.2.2.1
theorem dX11_tellPlaces_11 : decode cX11_tellPlaces 11 = .ok (.aload_n 0, 1) := eX11_tellPlaces_0q.2.2.2.2.2.2.2
theorem eX11_tellPlaces_12q : (decode cX11_tellPlaces 12 = .ok (.getfield 87, 3)) ∧ (decode cX11_tellPlaces 15 = .ok (.iload_n 2, 1)) ∧ (decode cX11_tellPlaces 16 = .ok (.iconst 0, 1)) ∧ (decode cX11_tellPlaces 17 = .ok (.bastore, 1)) ∧ (decode cX11_tellPlaces 18 = .ok (.iinc 2 1, 3)) ∧ (decode cX11_tellPlaces 21 = .ok (.goto (-19), 3)) ∧ (decode cX11_tellPlaces 24 = .ok (.aload_n 0, 1)) ∧ (decode cX11_tellPlaces 25 = .ok (.getfield 87, 3)) := by decide +kernel
theorem dX11_tellPlaces_12 : decode cX11_tellPlaces 12 = .ok (.getfield 87, 3) := eX11_tellPlaces_12q.1
theorem dX11_tellPlaces_15 : decode cX11_tellPlaces 15 = .ok (.iload_n 2, 1) := eX11_tellPlaces_12q.2.1
theorem dX11_tellPlaces_16 : decode cX11_tellPlaces 16 = .ok (.iconst 0, 1) := eX11_tellPlaces_12q.2.2.1
theorem dX11_tellPlaces_17 : decode cX11_tellPlaces 17 = .ok (.bastore, 1) := eX11_tellPlaces_12q.2.2.2.1
theorem dX11_tellPlaces_18 : decode cX11_tellPlaces 18 = .ok (.iinc 2 1, 3) := eX11_tellPlaces_12q.2.2.2.2.1
theorem dX11_tellPlaces_21 : decode cX11_tellPlaces 21 = .ok (.goto (-19), 3) := eX11_tellPlaces_12q.2.2.2.2.2.1
theorem dX11_tellPlaces_24 : decode cX11_tellPlaces 24 = .ok (.aload_n 0, 1) := eX11_tellPlaces_12q.2.2.2.2.2.2.1
theorem dX11_tellPlaces_25 : decode cX11_tellPlaces 25 = .ok (.getfield 87, 3) := eX11_tellPlaces_12q.2.2.2.2.2.2.2
theorem eX11_tellPlaces_28q : (decode cX11_tellPlaces 28 = .ok (.iconst 1, 1)) ∧ (decode cX11_tellPlaces 29 = .ok (.aload_n 0, 1)) ∧ (decode cX11_tellPlaces 30 = .ok (.invokevirtual 263, 3)) ∧ (decode cX11_tellPlaces 33 = .ok (.ifCond .le 24, 3)) ∧ (decode cX11_tellPlaces 36 = .ok (.aload_n 0, 1)) ∧ (decode cX11_tellPlaces 37 = .ok (.getfield 73, 3)) ∧ (decode cX11_tellPlaces 40 = .ok (.aload_n 0, 1)) ∧ (decode cX11_tellPlaces 41 = .ok (.getfield 58, 3)) := by decide +kernel
theorem dX11_tellPlaces_28 : decode cX11_tellPlaces 28 = .ok (.iconst 1, 1) := eX11_tellPlaces_28q.1
theorem dX11_tellPlaces_29 : decode cX11_tellPlaces 29 = .ok (.aload_n 0, 1) := eX11_tellPlaces_28q.2.1
theorem dX11_tellPlaces_30 : decode cX11_tellPlaces 30 = .ok (.invokevirtual 263, 3) := eX11_tellPlaces_28q.2.2.1
theorem dX11_tellPlaces_33 : decode cX11_tellPlaces 33 = .ok (.ifCond .le 24, 3) := eX11_tellPlaces_28q.2.2.2.1
theorem dX11_tellPlaces_36 : decode cX11_tellPlaces 36 = .ok (.aload_n 0, 1) := eX11_tellPlaces_28q.2.2.2.2.1
theorem dX11_tellPlaces_37 : decode cX11_tellPlaces 37 = .ok (.getfield 73, 3) := eX11_tellPlaces_28q.2.2.2.2.2.1
theorem dX11_tellPlaces_40 : decode cX11_tellPlaces 40 = .ok (.aload_n 0, 1) := eX11_tellPlaces_28q.2.2.2.2.2.2.1
theorem dX11_tellPlaces_41 : decode cX11_tellPlaces 41 = .ok (.getfield 58, 3) := eX11_tellPlaces_28q.2.2.2.2.2.2.2
theorem eX11_tellPlaces_44q : (decode cX11_tellPlaces 44 = .ok (.iload_n 1, 1)) ∧ (decode cX11_tellPlaces 45 = .ok (.iaload, 1)) ∧ (decode cX11_tellPlaces 46 = .ok (.iaload, 1)) ∧ (decode cX11_tellPlaces 47 = .ok (.iconst 1, 1)) ∧ (decode cX11_tellPlaces 48 = .ok (.iand, 1)) ∧ (decode cX11_tellPlaces 49 = .ok (.iconst 1, 1)) ∧ (decode cX11_tellPlaces 50 = .ok (.if_icmp .ne 7, 3)) ∧ (decode cX11_tellPlaces 53 = .ok (.iconst 1, 1)) := by decide +kernel
theorem dX11_tellPlaces_44 : decode cX11_tellPlaces 44 = .ok (.iload_n 1, 1) := eX11_tellPlaces_44q.1
theorem dX11_tellPlaces_45 : decode cX11_tellPlaces 45 = .ok (.iaload, 1) := eX11_tellPlaces_44q.2.1
theorem dX11_tellPlaces_46 : decode cX11_tellPlaces 46 = .ok (.iaload, 1) := eX11_tellPlaces_44q.2.2.1
theorem dX11_tellPlaces_47 : decode cX11_tellPlaces 47 = .ok (.iconst 1, 1) := eX11_tellPlaces_44q.2.2.2.1
theorem dX11_tellPlaces_48 : decode cX11_tellPlaces 48 = .ok (.iand, 1) := eX11_tellPlaces_44q.2.2.2.2.1
theorem dX11_tellPlaces_49 : decode cX11_tellPlaces 49 = .ok (.iconst 1, 1) := eX11_tellPlaces_44q.2.2.2.2.2.1
theorem dX11_tellPlaces_50 : decode cX11_tellPlaces 50 = .ok (.if_icmp .ne 7, 3) := eX11_tellPlaces_44q.2.2.2.2.2.2.1
theorem dX11_tellPlaces_53 : decode cX11_tellPlaces 53 = .ok (.iconst 1, 1) := eX11_tellPlaces_44q.2.2.2.2.2.2.2
theorem eX11_tellPlaces_54q : (decode cX11_tellPlaces 54 = .ok (.goto 4, 3)) ∧ (decode cX11_tellPlaces 57 = .ok (.iconst 0, 1)) ∧ (decode cX11_tellPlaces 58 = .ok (.bastore, 1)) ∧ (decode cX11_tellPlaces 59 = .ok (.iconst 0, 1)) ∧ (decode cX11_tellPlaces 60 = .ok (.istore_n 2, 1)) ∧ (decode cX11_tellPlaces 61 = .ok (.iload_n 2, 1)) ∧ (decode cX11_tellPlaces 62 = .ok (.aload_n 0, 1)) ∧ (decode cX11_tellPlaces 63 = .ok (.invokevirtual 263, 3)) := by decide +kernel
theorem dX11_tellPlaces_54 : decode cX11_tellPlaces 54 = .ok (.goto 4, 3) := eX11_tellPlaces_54q.1
theorem dX11_tellPlaces_57 : decode cX11_tellPlaces 57 = .ok (.iconst 0, 1) := eX11_tellPlaces_54q.2.1
theorem dX11_tellPlaces_58 : decode cX11_tellPlaces 58 = .ok (.bastore, 1) := eX11_tellPlaces_54q.2.2.1
theorem dX11_tellPlaces_59 : decode cX11_tellPlaces 59 = .ok (.iconst 0, 1) := eX11_tellPlaces_54q.2.2.2.1
theorem dX11_tellPlaces_60 : decode cX11_tellPlaces 60 = .ok (.istore_n 2, 1) := eX11_tellPlaces_54q.2.2.2.2.1
theorem dX11_tellPlaces_61 : decode cX11_tellPlaces 61 = .ok (.iload_n 2, 1) := eX11_tellPlaces_54q.2.2.2.2.2.1
theorem dX11_tellPlaces_62 : decode cX11_tellPlaces 62 = .ok (.aload_n 0, 1) := eX11_tellPlaces_54q.2.2.2.2.2.2.1
theorem dX11_tellPlaces_63 : decode cX11_tellPlaces 63 = .ok (.invokevirtual 263, 3) := eX11_tellPlaces_54q.2.2.2.2.2.2.2
theorem eX11_tellPlaces_66q : (decode cX11_tellPlaces 66 = .ok (.if_icmp .ge 104, 3)) ∧ (decode cX11_tellPlaces 69 = .ok (.iconst 1, 1)) ∧ (decode cX11_tellPlaces 70 = .ok (.istore_n 3, 1)) ∧ (decode cX11_tellPlaces 71 = .ok (.iload_n 3, 1)) ∧ (decode cX11_tellPlaces 72 = .ok (.bipush 12, 2)) ∧ (decode cX11_tellPlaces 74 = .ok (.if_icmp .gt 90, 3)) ∧ (decode cX11_tellPlaces 77 = .ok (.aload_n 0, 1)) ∧ (decode cX11_tellPlaces 78 = .ok (.getfield 87, 3)) := by decide +kernel
theorem dX11_tellPlaces_66 : decode cX11_tellPlaces 66 = .ok (.if_icmp .ge 104, 3) := eX11_tellPlaces_66q.1
theorem dX11_tellPlaces_69 : decode cX11_tellPlaces 69 = .ok (.iconst 1, 1) := eX11_tellPlaces_66q.2.1
theorem dX11_tellPlaces_70 : decode cX11_tellPlaces 70 = .ok (.istore_n 3, 1) := eX11_tellPlaces_66q.2.2.1
theorem dX11_tellPlaces_71 : decode cX11_tellPlaces 71 = .ok (.iload_n 3, 1) := eX11_tellPlaces_66q.2.2.2.1
theorem dX11_tellPlaces_72 : decode cX11_tellPlaces 72 = .ok (.bipush 12, 2) := eX11_tellPlaces_66q.2.2.2.2.1
theorem dX11_tellPlaces_74 : decode cX11_tellPlaces 74 = .ok (.if_icmp .gt 90, 3) := eX11_tellPlaces_66q.2.2.2.2.2.1
theorem dX11_tellPlaces_77 : decode cX11_tellPlaces 77 = .ok (.aload_n 0, 1) := eX11_tellPlaces_66q.2.2.2.2.2.2.1
theorem dX11_tellPlaces_78 : decode cX11_tellPlaces 78 = .ok (.getfield 87, 3) := eX11_tellPlaces_66q.2.2.2.2.2.2.2
theorem eX11_tellPlaces_81q : (decode cX11_tellPlaces 81 = .ok (.bipush 14, 2)) ∧ (decode cX11_tellPlaces 83 = .ok (.iload_n 2, 1)) ∧ (decode cX11_tellPlaces 84 = .ok (.imul, 1)) ∧ (decode cX11_tellPlaces 85 = .ok (.iload_n 3, 1)) ∧ (decode cX11_tellPlaces 86 = .ok (.iadd, 1)) ∧ (decode cX11_tellPlaces 87 = .ok (.baload, 1)) ∧ (decode cX11_tellPlaces 88 = .ok (.ifCond .ne 6, 3)) ∧ (decode cX11_tellPlaces 91 = .ok (.goto 67, 3)) := by decide +kernel
theorem dX11_tellPlaces_81 : decode cX11_tellPlaces 81 = .ok (.bipush 14, 2) := eX11_tellPlaces_81q.1
theorem dX11_tellPlaces_83 : decode cX11_tellPlaces 83 = .ok (.iload_n 2, 1) := eX11_tellPlaces_81q.2.1
theorem dX11_tellPlaces_84 : decode cX11_tellPlaces 84 = .ok (.imul, 1) := eX11_tellPlaces_81q.2.2.1
theorem dX11_tellPlaces_85 : decode cX11_tellPlaces 85 = .ok (.iload_n 3, 1) := eX11_tellPlaces_81q.2.2.2.1
theorem dX11_tellPlaces_86 : decode cX11_tellPlaces 86 = .ok (.iadd, 1) := eX11_tellPlaces_81q.2.2.2.2.1
theorem dX11_tellPlaces_87 : decode cX11_tellPlaces 87 = .ok (.baload, 1) := eX11_tellPlaces_81q.2.2.2.2.2.1
theorem dX11_tellPlaces_88 : decode cX11_tellPlaces 88 = .ok (.ifCond .ne 6, 3) := eX11_tellPlaces_81q.2.2.2.2.2.2.1
theorem dX11_tellPlaces_91 : decode cX11_tellPlaces 91 = .ok (.goto 67, 3) := eX11_tellPlaces_81q.2.2.2.2.2.2.2
theorem eX11_tellPlaces_94q : (decode cX11_tellPlaces 94 = .ok (.iconst 0, 1)) ∧ (decode cX11_tellPlaces 95 = .ok (.istore 4, 2)) ∧ (decode cX11_tellPlaces 97 = .ok (.iload 4, 2)) ∧ (decode cX11_tellPlaces 99 = .ok (.aload_n 0, 1)) ∧ (decode cX11_tellPlaces 100 = .ok (.invokevirtual 266, 3)) ∧ (decode cX11_tellPlaces 103 = .ok (.if_icmp .ge 55, 3)) ∧ (decode cX11_tellPlaces 106 = .ok (.aload_n 0, 1)) ∧ (decode cX11_tellPlaces 107 = .ok (.iload 4, 2)) := by decide +kernel
theorem dX11_tellPlaces_94 : decode cX11_tellPlaces 94 = .ok (.iconst 0, 1) := eX11_tellPlaces_94q.1
theorem dX11_tellPlaces_95 : decode cX11_tellPlaces 95 = .ok (.istore 4, 2) := eX11_tellPlaces_94q.2.1
theorem dX11_tellPlaces_97 : decode cX11_tellPlaces 97 = .ok (.iload 4, 2) := eX11_tellPlaces_94q.2.2.1
theorem dX11_tellPlaces_99 : decode cX11_tellPlaces 99 = .ok (.aload_n 0, 1) := eX11_tellPlaces_94q.2.2.2.1
theorem dX11_tellPlaces_100 : decode cX11_tellPlaces 100 = .ok (.invokevirtual 266, 3) := eX11_tellPlaces_94q.2.2.2.2.1
theorem dX11_tellPlaces_103 : decode cX11_tellPlaces 103 = .ok (.if_icmp .ge 55, 3) := eX11_tellPlaces_94q.2.2.2.2.2.1
theorem dX11_tellPlaces_106 : decode cX11_tellPlaces 106 = .ok (.aload_n 0, 1) := eX11_tellPlaces_94q.2.2.2.2.2.2.1
theorem dX11_tellPlaces_107 : decode cX11_tellPlaces 107 = .ok (.iload 4, 2) := eX11_tellPlaces_94q.2.2.2.2.2.2.2
theorem eX11_tellPlaces_109q : (decode cX11_tellPlaces 109 = .ok (.iload_n 2, 1)) ∧ (decode cX11_tellPlaces 110 = .ok (.aload_n 0, 1)) ∧ (decode cX11_tellPlaces 111 = .ok (.getfield 58, 3)) ∧ (decode cX11_tellPlaces 114 = .ok (.iload_n 1, 1)) ∧ (decode cX11_tellPlaces 115 = .ok (.iaload, 1)) ∧ (decode cX11_tellPlaces 116 = .ok (.invokevirtual 269, 3)) ∧ (decode cX11_tellPlaces 119 = .ok (.ifCond .eq 33, 3)) ∧ (decode cX11_tellPlaces 122 = .ok (.iload_n 2, 1)) := by decide +kernel
theorem dX11_tellPlaces_109 : decode cX11_tellPlaces 109 = .ok (.iload_n 2, 1) := eX11_tellPlaces_109q.1
theorem dX11_tellPlaces_110 : decode cX11_tellPlaces 110 = .ok (.aload_n 0, 1) := eX11_tellPlaces_109q.2.1
theorem dX11_tellPlaces_111 : decode cX11_tellPlaces 111 = .ok (.getfield 58, 3) := eX11_tellPlaces_109q.2.2.1
theorem dX11_tellPlaces_114 : decode cX11_tellPlaces 114 = .ok (.iload_n 1, 1) := eX11_tellPlaces_109q.2.2.2.1
theorem dX11_tellPlaces_115 : decode cX11_tellPlaces 115 = .ok (.iaload, 1) := eX11_tellPlaces_109q.2.2.2.2.1
theorem dX11_tellPlaces_116 : decode cX11_tellPlaces 116 = .ok (.invokevirtual 269, 3) := eX11_tellPlaces_109q.2.2.2.2.2.1
theorem dX11_tellPlaces_119 : decode cX11_tellPlaces 119 = .ok (.ifCond .eq 33, 3) := eX11_tellPlaces_109q.2.2.2.2.2.2.1
theorem dX11_tellPlaces_122 : decode cX11_tellPlaces 122 = .ok (.iload_n 2, 1) := eX11_tellPlaces_109q.2.2.2.2.2.2.2
theorem eX11_tellPlaces_123q : (decode cX11_tellPlaces 123 = .ok (.aload_n 0, 1)) ∧ (decode cX11_tellPlaces 124 = .ok (.getfield 58, 3)) ∧ (decode cX11_tellPlaces 127 = .ok (.iload_n 1, 1)) ∧ (decode cX11_tellPlaces 128 = .ok (.iaload, 1)) ∧ (decode cX11_tellPlaces 129 = .ok (.if_icmp .eq 23, 3)) ∧ (decode cX11_tellPlaces 132 = .ok (.aload_n 0, 1)) ∧ (decode cX11_tellPlaces 133 = .ok (.getfield 87, 3)) ∧ (decode cX11_tellPlaces 136 = .ok (.bipush 14, 2)) := by decide +kernel
theorem dX11_tellPlaces_123 : decode cX11_tellPlaces 123 = .ok (.aload_n 0, 1) := eX11_tellPlaces_123q.1
theorem dX11_tellPlaces_124 : decode cX11_tellPlaces 124 = .ok (.getfield 58, 3) := eX11_tellPlaces_123q.2.1
theorem dX11_tellPlaces_127 : decode cX11_tellPlaces 127 = .ok (.iload_n 1, 1) := eX11_tellPlaces_123q.2.2.1
theorem dX11_tellPlaces_128 : decode cX11_tellPlaces 128 = .ok (.iaload, 1) := eX11_tellPlaces_123q.2.2.2.1
theorem dX11_tellPlaces_129 : decode cX11_tellPlaces 129 = .ok (.if_icmp .eq 23, 3) := eX11_tellPlaces_123q.2.2.2.2.1
theorem dX11_tellPlaces_132 : decode cX11_tellPlaces 132 = .ok (.aload_n 0, 1) := eX11_tellPlaces_123q.2.2.2.2.2.1
theorem dX11_tellPlaces_133 : decode cX11_tellPlaces 133 = .ok (.getfield 87, 3) := eX11_tellPlaces_123q.2.2.2.2.2.2.1
theorem dX11_tellPlaces_136 : decode cX11_tellPlaces 136 = .ok (.bipush 14, 2) := eX11_tellPlaces_123q.2.2.2.2.2.2.2
theorem eX11_tellPlaces_138q : (decode cX11_tellPlaces 138 = .ok (.aload_n 0, 1)) ∧ (decode cX11_tellPlaces 139 = .ok (.getfield 56, 3)) ∧ (decode cX11_tellPlaces 142 = .ok (.iload 4, 2)) ∧ (decode cX11_tellPlaces 144 = .ok (.iaload, 1)) ∧ (decode cX11_tellPlaces 145 = .ok (.imul, 1)) ∧ (decode cX11_tellPlaces 146 = .ok (.iload_n 3, 1)) ∧ (decode cX11_tellPlaces 147 = .ok (.iadd, 1)) ∧ (decode cX11_tellPlaces 148 = .ok (.iconst 1, 1)) := by decide +kernel
theorem dX11_tellPlaces_138 : decode cX11_tellPlaces 138 = .ok (.aload_n 0, 1) := eX11_tellPlaces_138q.1
theorem dX11_tellPlaces_139 : decode cX11_tellPlaces 139 = .ok (.getfield 56, 3) := eX11_tellPlaces_138q.2.1
theorem dX11_tellPlaces_142 : decode cX11_tellPlaces 142 = .ok (.iload 4, 2) := eX11_tellPlaces_138q.2.2.1
theorem dX11_tellPlaces_144 : decode cX11_tellPlaces 144 = .ok (.iaload, 1) := eX11_tellPlaces_138q.2.2.2.1
theorem dX11_tellPlaces_145 : decode cX11_tellPlaces 145 = .ok (.imul, 1) := eX11_tellPlaces_138q.2.2.2.2.1
theorem dX11_tellPlaces_146 : decode cX11_tellPlaces 146 = .ok (.iload_n 3, 1) := eX11_tellPlaces_138q.2.2.2.2.2.1
theorem dX11_tellPlaces_147 : decode cX11_tellPlaces 147 = .ok (.iadd, 1) := eX11_tellPlaces_138q.2.2.2.2.2.2.1
theorem dX11_tellPlaces_148 : decode cX11_tellPlaces 148 = .ok (.iconst 1, 1) := eX11_tellPlaces_138q.2.2.2.2.2.2.2
theorem eX11_tellPlaces_149q : (decode cX11_tellPlaces 149 = .ok (.iadd, 1)) ∧ (decode cX11_tellPlaces 150 = .ok (.iconst 1, 1)) ∧ (decode cX11_tellPlaces 151 = .ok (.bastore, 1)) ∧ (decode cX11_tellPlaces 152 = .ok (.iinc 4 1, 3)) ∧ (decode cX11_tellPlaces 155 = .ok (.goto (-58), 3)) ∧ (decode cX11_tellPlaces 158 = .ok (.iinc 3 1, 3)) ∧ (decode cX11_tellPlaces 161 = .ok (.goto (-90), 3)) ∧ (decode cX11_tellPlaces 164 = .ok (.iinc 2 1, 3)) := by decide +kernel
theorem dX11_tellPlaces_149 : decode cX11_tellPlaces 149 = .ok (.iadd, 1) := eX11_tellPlaces_149q.1
theorem dX11_tellPlaces_150 : decode cX11_tellPlaces 150 = .ok (.iconst 1, 1) := eX11_tellPlaces_149q.2.1
theorem dX11_tellPlaces_151 : decode cX11_tellPlaces 151 = .ok (.bastore, 1) := eX11_tellPlaces_149q.2.2.1
theorem dX11_tellPlaces_152 : decode cX11_tellPlaces 152 = .ok (.iinc 4 1, 3) := eX11_tellPlaces_149q.2.2.2.1
theorem dX11_tellPlaces_155 : decode cX11_tellPlaces 155 = .ok (.goto (-58), 3) := eX11_tellPlaces_149q.2.2.2.2.1
theorem dX11_tellPlaces_158 : decode cX11_tellPlaces 158 = .ok (.iinc 3 1, 3) := eX11_tellPlaces_149q.2.2.2.2.2.1
theorem dX11_tellPlaces_161 : decode cX11_tellPlaces 161 = .ok (.goto (-90), 3) := eX11_tellPlaces_149q.2.2.2.2.2.2.1
theorem dX11_tellPlaces_164 : decode cX11_tellPlaces 164 = .ok (.iinc 2 1, 3) := eX11_tellPlaces_149q.2.2.2.2.2.2.2
theorem dX11_tellPlaces_167 : decode cX11_tellPlaces 167 = .ok (.goto (-106), 3) := by decide +kernel
theorem dX11_tellPlaces_170 : decode cX11_tellPlaces 170 = .ok (.return_, 1) := by decide +kernel
set_option maxRecDepth 20000 in
theorem ggX11_places_X11_tellPlaces : GoodIn wsX11_places wsX11_tellPlaces := by
  have h := goodIn_app (goodIn_r (big := wsX11_places) (.code yX11_tellPlaces cX11_tellPlaces 5 none :: ([.fieldLink RX11 87 "PathProberModel" "isAt" "[Z", .fieldLink RX11 73 "PathProberModel" "reach" "[I", .fieldLink RX11 58 "PathProberModel" "goal" "[I", .fieldLink RX11 56 "PathProberModel" "to" "[I", .methodLink RX11 263 yX11_routers, .instanceMethod yX11_routers, .selects RX11 yX11_routers yX11_routers, .initialized RX11, .code yX11_routers cX11_routers 1 (some .int), .fieldLink RX11 34 "PathProberModel" "told" "[I", .methodLink RX11 266 yX11_links, .instanceMethod yX11_links, .selects RX11 yX11_links yX11_links, .code yX11_links cX11_links 1 (some .int), .methodLink RX11 269 yX11_isBranch, .instanceMethod yX11_isBranch, .selects RX11 yX11_isBranch yX11_isBranch, .code yX11_isBranch cX11_isBranch 4 (some .boolean), .fieldLink RX11 53 "PathProberModel" "from" "[I"]) : List Cond) [8, 1, 9, 3, 10, 11, 12, 13, 7, 14, 15, 16, 17, 18, 19, 20, 21, 22, 23, 2] rfl (by decide +kernel)) (goodIn_few (big := wsX11_places) (fun _ h9 => List.mem_cons_of_mem _ (List.mem_append_right _ h9)) gb_0)
  exact h
set_option maxRecDepth 20000 in
theorem gX11_places_X11_tellPlaces : GoodIn wsX11_places (wsV RX11 407 RX11 yX11_tellPlaces wsX11_tellPlaces) := goodIn_app (goodIn_r _ [4, 5, 6, 7] rfl (by decide +kernel)) ggX11_places_X11_tellPlaces
set_option maxRecDepth 20000 in
theorem ggX11_places_X11_links : GoodIn wsX11_places wsX11_links := by
  have h := goodIn_app (goodIn_r (big := wsX11_places) (.code yX11_links cX11_links 1 (some .int) :: ([.fieldLink RX11 34 "PathProberModel" "told" "[I"]) : List Cond) [19, 15] rfl (by decide +kernel)) (goodIn_few (big := wsX11_places) (fun _ h9 => List.mem_cons_of_mem _ (List.mem_append_right _ h9)) gb_0)
  exact h
set_option maxRecDepth 20000 in
theorem gX11_places_X11_links : GoodIn wsX11_places (wsV RX11 266 RX11 yX11_links wsX11_links) := goodIn_app (goodIn_r _ [16, 17, 18, 7] rfl (by decide +kernel)) ggX11_places_X11_links
set_option maxRecDepth 20000 in
theorem ggX11_places_X11_isBranch : GoodIn wsX11_places wsX11_isBranch := by
  have h := goodIn_app (goodIn_r (big := wsX11_places) (.code yX11_isBranch cX11_isBranch 4 (some .boolean) :: ([.fieldLink RX11 53 "PathProberModel" "from" "[I", .fieldLink RX11 73 "PathProberModel" "reach" "[I", .fieldLink RX11 56 "PathProberModel" "to" "[I"]) : List Cond) [23, 2, 9, 10] rfl (by decide +kernel)) (goodIn_few (big := wsX11_places) (fun _ h9 => List.mem_cons_of_mem _ (List.mem_append_right _ h9)) gb_0)
  exact h
set_option maxRecDepth 20000 in
theorem gX11_places_X11_isBranch : GoodIn wsX11_places (wsV RX11 269 RX11 yX11_isBranch wsX11_isBranch) := goodIn_app (goodIn_r _ [20, 21, 22, 7] rfl (by decide +kernel)) ggX11_places_X11_isBranch
theorem eX11_places_0q : (decode cX11_places 0 = .ok (.aload_n 0, 1)) ∧ (decode cX11_places 1 = .ok (.iload_n 1, 1)) ∧ (decode cX11_places 2 = .ok (.invokevirtual 407, 3)) ∧ (decode cX11_places 5 = .ok (.iload_n 2, 1)) ∧ (decode cX11_places 6 = .ok (.iconst 1, 1)) ∧ (decode cX11_places 7 = .ok (.if_icmp .ne 16, 3)) ∧ (decode cX11_places 10 = .ok (.aload_n 0, 1)) ∧ (decode cX11_places 11 = .ok (.getfield 87, 3)) := by decide +kernel
theorem dX11_places_0 : decode cX11_places 0 = .ok (.aload_n 0, 1) := eX11_places_0q.1
theorem dX11_places_1 : decode cX11_places 1 = .ok (.iload_n 1, 1) := eX11_places_0q.2.1
theorem dX11_places_2 : decode cX11_places 2 = .ok (.invokevirtual 407, 3) := eX11_places_0q.2.2.1
theorem dX11_places_5 : decode cX11_places 5 = .ok (.iload_n 2, 1) := eX11_places_0q.2.2.2.1
theorem dX11_places_6 : decode cX11_places 6 = .ok (.iconst 1, 1) := eX11_places_0q.2.2.2.2.1
theorem dX11_places_7 : decode cX11_places 7 = .ok (.if_icmp .ne 16, 3) := eX11_places_0q.2.2.2.2.2.1
theorem dX11_places_10 : decode cX11_places 10 = .ok (.aload_n 0, 1) := eX11_places_0q.2.2.2.2.2.2.1
theorem dX11_places_11 : decode cX11_places 11 = .ok (.getfield 87, 3) := eX11_places_0q.2.2.2.2.2.2.2
theorem eX11_places_14q : (decode cX11_places 14 = .ok (.iconst 1, 1)) ∧ (decode cX11_places 15 = .ok (.baload, 1)) ∧ (decode cX11_places 16 = .ok (.ifCond .eq 7, 3)) ∧ (decode cX11_places 19 = .ok (.iconst 1, 1)) ∧ (decode cX11_places 20 = .ok (.goto 4, 3)) ∧ (decode cX11_places 23 = .ok (.iconst 0, 1)) ∧ (decode cX11_places 24 = .ok (.istore_n 3, 1)) ∧ (decode cX11_places 25 = .ok (.iconst 0, 1)) := by decide +kernel
theorem dX11_places_14 : decode cX11_places 14 = .ok (.iconst 1, 1) := eX11_places_14q.1
theorem dX11_places_15 : decode cX11_places 15 = .ok (.baload, 1) := eX11_places_14q.2.1
theorem dX11_places_16 : decode cX11_places 16 = .ok (.ifCond .eq 7, 3) := eX11_places_14q.2.2.1
theorem dX11_places_19 : decode cX11_places 19 = .ok (.iconst 1, 1) := eX11_places_14q.2.2.2.1
theorem dX11_places_20 : decode cX11_places 20 = .ok (.goto 4, 3) := eX11_places_14q.2.2.2.2.1
theorem dX11_places_23 : decode cX11_places 23 = .ok (.iconst 0, 1) := eX11_places_14q.2.2.2.2.2.1
theorem dX11_places_24 : decode cX11_places 24 = .ok (.istore_n 3, 1) := eX11_places_14q.2.2.2.2.2.2.1
theorem dX11_places_25 : decode cX11_places 25 = .ok (.iconst 0, 1) := eX11_places_14q.2.2.2.2.2.2.2
theorem eX11_places_26q : (decode cX11_places 26 = .ok (.istore 4, 2)) ∧ (decode cX11_places 28 = .ok (.iload 4, 2)) ∧ (decode cX11_places 30 = .ok (.aload_n 0, 1)) ∧ (decode cX11_places 31 = .ok (.invokevirtual 266, 3)) ∧ (decode cX11_places 34 = .ok (.if_icmp .ge 85, 3)) ∧ (decode cX11_places 37 = .ok (.iload_n 3, 1)) ∧ (decode cX11_places 38 = .ok (.iload_n 2, 1)) ∧ (decode cX11_places 39 = .ok (.iconst 1, 1)) := by decide +kernel
theorem dX11_places_26 : decode cX11_places 26 = .ok (.istore 4, 2) := eX11_places_26q.1
theorem dX11_places_28 : decode cX11_places 28 = .ok (.iload 4, 2) := eX11_places_26q.2.1
theorem dX11_places_30 : decode cX11_places 30 = .ok (.aload_n 0, 1) := eX11_places_26q.2.2.1
theorem dX11_places_31 : decode cX11_places 31 = .ok (.invokevirtual 266, 3) := eX11_places_26q.2.2.2.1
theorem dX11_places_34 : decode cX11_places 34 = .ok (.if_icmp .ge 85, 3) := eX11_places_26q.2.2.2.2.1
theorem dX11_places_37 : decode cX11_places 37 = .ok (.iload_n 3, 1) := eX11_places_26q.2.2.2.2.2.1
theorem dX11_places_38 : decode cX11_places 38 = .ok (.iload_n 2, 1) := eX11_places_26q.2.2.2.2.2.2.1
theorem dX11_places_39 : decode cX11_places 39 = .ok (.iconst 1, 1) := eX11_places_26q.2.2.2.2.2.2.2
theorem eX11_places_40q : (decode cX11_places 40 = .ok (.if_icmp .le 70, 3)) ∧ (decode cX11_places 43 = .ok (.aload_n 0, 1)) ∧ (decode cX11_places 44 = .ok (.getfield 87, 3)) ∧ (decode cX11_places 47 = .ok (.bipush 14, 2)) ∧ (decode cX11_places 49 = .ok (.aload_n 0, 1)) ∧ (decode cX11_places 50 = .ok (.getfield 53, 3)) ∧ (decode cX11_places 53 = .ok (.iload 4, 2)) ∧ (decode cX11_places 55 = .ok (.iaload, 1)) := by decide +kernel
theorem dX11_places_40 : decode cX11_places 40 = .ok (.if_icmp .le 70, 3) := eX11_places_40q.1
theorem dX11_places_43 : decode cX11_places 43 = .ok (.aload_n 0, 1) := eX11_places_40q.2.1
theorem dX11_places_44 : decode cX11_places 44 = .ok (.getfield 87, 3) := eX11_places_40q.2.2.1
theorem dX11_places_47 : decode cX11_places 47 = .ok (.bipush 14, 2) := eX11_places_40q.2.2.2.1
theorem dX11_places_49 : decode cX11_places 49 = .ok (.aload_n 0, 1) := eX11_places_40q.2.2.2.2.1
theorem dX11_places_50 : decode cX11_places 50 = .ok (.getfield 53, 3) := eX11_places_40q.2.2.2.2.2.1
theorem dX11_places_53 : decode cX11_places 53 = .ok (.iload 4, 2) := eX11_places_40q.2.2.2.2.2.2.1
theorem dX11_places_55 : decode cX11_places 55 = .ok (.iaload, 1) := eX11_places_40q.2.2.2.2.2.2.2
theorem eX11_places_56q : (decode cX11_places 56 = .ok (.imul, 1)) ∧ (decode cX11_places 57 = .ok (.iload_n 2, 1)) ∧ (decode cX11_places 58 = .ok (.iadd, 1)) ∧ (decode cX11_places 59 = .ok (.iconst 1, 1)) ∧ (decode cX11_places 60 = .ok (.isub, 1)) ∧ (decode cX11_places 61 = .ok (.baload, 1)) ∧ (decode cX11_places 62 = .ok (.ifCond .eq 48, 3)) ∧ (decode cX11_places 65 = .ok (.aload_n 0, 1)) := by decide +kernel
theorem dX11_places_56 : decode cX11_places 56 = .ok (.imul, 1) := eX11_places_56q.1
theorem dX11_places_57 : decode cX11_places 57 = .ok (.iload_n 2, 1) := eX11_places_56q.2.1
theorem dX11_places_58 : decode cX11_places 58 = .ok (.iadd, 1) := eX11_places_56q.2.2.1
theorem dX11_places_59 : decode cX11_places 59 = .ok (.iconst 1, 1) := eX11_places_56q.2.2.2.1
theorem dX11_places_60 : decode cX11_places 60 = .ok (.isub, 1) := eX11_places_56q.2.2.2.2.1
theorem dX11_places_61 : decode cX11_places 61 = .ok (.baload, 1) := eX11_places_56q.2.2.2.2.2.1
theorem dX11_places_62 : decode cX11_places 62 = .ok (.ifCond .eq 48, 3) := eX11_places_56q.2.2.2.2.2.2.1
theorem dX11_places_65 : decode cX11_places 65 = .ok (.aload_n 0, 1) := eX11_places_56q.2.2.2.2.2.2.2
theorem eX11_places_66q : (decode cX11_places 66 = .ok (.getfield 53, 3)) ∧ (decode cX11_places 69 = .ok (.iload 4, 2)) ∧ (decode cX11_places 71 = .ok (.iaload, 1)) ∧ (decode cX11_places 72 = .ok (.aload_n 0, 1)) ∧ (decode cX11_places 73 = .ok (.getfield 58, 3)) ∧ (decode cX11_places 76 = .ok (.iload_n 1, 1)) ∧ (decode cX11_places 77 = .ok (.iaload, 1)) ∧ (decode cX11_places 78 = .ok (.if_icmp .eq 32, 3)) := by decide +kernel
theorem dX11_places_66 : decode cX11_places 66 = .ok (.getfield 53, 3) := eX11_places_66q.1
theorem dX11_places_69 : decode cX11_places 69 = .ok (.iload 4, 2) := eX11_places_66q.2.1
theorem dX11_places_71 : decode cX11_places 71 = .ok (.iaload, 1) := eX11_places_66q.2.2.1
theorem dX11_places_72 : decode cX11_places 72 = .ok (.aload_n 0, 1) := eX11_places_66q.2.2.2.1
theorem dX11_places_73 : decode cX11_places 73 = .ok (.getfield 58, 3) := eX11_places_66q.2.2.2.2.1
theorem dX11_places_76 : decode cX11_places 76 = .ok (.iload_n 1, 1) := eX11_places_66q.2.2.2.2.2.1
theorem dX11_places_77 : decode cX11_places 77 = .ok (.iaload, 1) := eX11_places_66q.2.2.2.2.2.2.1
theorem dX11_places_78 : decode cX11_places 78 = .ok (.if_icmp .eq 32, 3) := eX11_places_66q.2.2.2.2.2.2.2
theorem eX11_places_81q : (decode cX11_places 81 = .ok (.aload_n 0, 1)) ∧ (decode cX11_places 82 = .ok (.iload 4, 2)) ∧ (decode cX11_places 84 = .ok (.aload_n 0, 1)) ∧ (decode cX11_places 85 = .ok (.getfield 53, 3)) ∧ (decode cX11_places 88 = .ok (.iload 4, 2)) ∧ (decode cX11_places 90 = .ok (.iaload, 1)) ∧ (decode cX11_places 91 = .ok (.aload_n 0, 1)) ∧ (decode cX11_places 92 = .ok (.getfield 58, 3)) := by decide +kernel
theorem dX11_places_81 : decode cX11_places 81 = .ok (.aload_n 0, 1) := eX11_places_81q.1
theorem dX11_places_82 : decode cX11_places 82 = .ok (.iload 4, 2) := eX11_places_81q.2.1
theorem dX11_places_84 : decode cX11_places 84 = .ok (.aload_n 0, 1) := eX11_places_81q.2.2.1
theorem dX11_places_85 : decode cX11_places 85 = .ok (.getfield 53, 3) := eX11_places_81q.2.2.2.1
theorem dX11_places_88 : decode cX11_places 88 = .ok (.iload 4, 2) := eX11_places_81q.2.2.2.2.1
theorem dX11_places_90 : decode cX11_places 90 = .ok (.iaload, 1) := eX11_places_81q.2.2.2.2.2.1
theorem dX11_places_91 : decode cX11_places 91 = .ok (.aload_n 0, 1) := eX11_places_81q.2.2.2.2.2.2.1
theorem dX11_places_92 : decode cX11_places 92 = .ok (.getfield 58, 3) := eX11_places_81q.2.2.2.2.2.2.2
theorem eX11_places_95q : (decode cX11_places 95 = .ok (.iload_n 1, 1)) ∧ (decode cX11_places 96 = .ok (.iaload, 1)) ∧ (decode cX11_places 97 = .ok (.invokevirtual 269, 3)) ∧ (decode cX11_places 100 = .ok (.ifCond .eq 10, 3)) ∧ (decode cX11_places 103 = .ok (.iconst 2, 1)) ∧ (decode cX11_places 104 = .ok (.iload 4, 2)) ∧ (decode cX11_places 106 = .ok (.ishl, 1)) ∧ (decode cX11_places 107 = .ok (.goto 4, 3)) := by decide +kernel
theorem dX11_places_95 : decode cX11_places 95 = .ok (.iload_n 1, 1) := eX11_places_95q.1
theorem dX11_places_96 : decode cX11_places 96 = .ok (.iaload, 1) := eX11_places_95q.2.1
theorem dX11_places_97 : decode cX11_places 97 = .ok (.invokevirtual 269, 3) := eX11_places_95q.2.2.1
theorem dX11_places_100 : decode cX11_places 100 = .ok (.ifCond .eq 10, 3) := eX11_places_95q.2.2.2.1
theorem dX11_places_103 : decode cX11_places 103 = .ok (.iconst 2, 1) := eX11_places_95q.2.2.2.2.1
theorem dX11_places_104 : decode cX11_places 104 = .ok (.iload 4, 2) := eX11_places_95q.2.2.2.2.2.1
theorem dX11_places_106 : decode cX11_places 106 = .ok (.ishl, 1) := eX11_places_95q.2.2.2.2.2.2.1
theorem dX11_places_107 : decode cX11_places 107 = .ok (.goto 4, 3) := eX11_places_95q.2.2.2.2.2.2.2
theorem eX11_places_110q : (decode cX11_places 110 = .ok (.iconst 0, 1)) ∧ (decode cX11_places 111 = .ok (.ior, 1)) ∧ (decode cX11_places 112 = .ok (.istore_n 3, 1)) ∧ (decode cX11_places 113 = .ok (.iinc 4 1, 3)) ∧ (decode cX11_places 116 = .ok (.goto (-88), 3)) ∧ (decode cX11_places 119 = .ok (.iload_n 3, 1)) ∧ (decode cX11_places 120 = .ok (.ireturn, 1)) := by decide +kernel
theorem dX11_places_110 : decode cX11_places 110 = .ok (.iconst 0, 1) := eX11_places_110q.1
theorem dX11_places_111 : decode cX11_places 111 = .ok (.ior, 1) := eX11_places_110q.2.1
theorem dX11_places_112 : decode cX11_places 112 = .ok (.istore_n 3, 1) := eX11_places_110q.2.2.1
theorem dX11_places_113 : decode cX11_places 113 = .ok (.iinc 4 1, 3) := eX11_places_110q.2.2.2.1
theorem dX11_places_116 : decode cX11_places 116 = .ok (.goto (-88), 3) := eX11_places_110q.2.2.2.2.1
theorem dX11_places_119 : decode cX11_places 119 = .ok (.iload_n 3, 1) := eX11_places_110q.2.2.2.2.2.1
theorem dX11_places_120 : decode cX11_places 120 = .ok (.ireturn, 1) := eX11_places_110q.2.2.2.2.2.2
set_option maxRecDepth 20000 in
theorem ggX11_hidden_X11_places : GoodIn wsX11_hidden wsX11_places := by
  have h := goodIn_app (goodIn_r (big := wsX11_hidden) (.code yX11_places cX11_places 5 (some .int) :: ([.fieldLink RX11 87 "PathProberModel" "isAt" "[Z", .fieldLink RX11 53 "PathProberModel" "from" "[I", .fieldLink RX11 58 "PathProberModel" "goal" "[I", .methodLink RX11 407 yX11_tellPlaces, .instanceMethod yX11_tellPlaces, .selects RX11 yX11_tellPlaces yX11_tellPlaces, .initialized RX11, .code yX11_tellPlaces cX11_tellPlaces 5 none, .fieldLink RX11 73 "PathProberModel" "reach" "[I", .fieldLink RX11 56 "PathProberModel" "to" "[I", .methodLink RX11 263 yX11_routers, .instanceMethod yX11_routers, .selects RX11 yX11_routers yX11_routers, .code yX11_routers cX11_routers 1 (some .int), .fieldLink RX11 34 "PathProberModel" "told" "[I", .methodLink RX11 266 yX11_links, .instanceMethod yX11_links, .selects RX11 yX11_links yX11_links, .code yX11_links cX11_links 1 (some .int), .methodLink RX11 269 yX11_isBranch, .instanceMethod yX11_isBranch, .selects RX11 yX11_isBranch yX11_isBranch, .code yX11_isBranch cX11_isBranch 4 (some .boolean)]) : List Cond) [5, 6, 7, 8, 9, 10, 11, 4, 12, 13, 14, 15, 16, 17, 18, 19, 20, 21, 22, 23, 24, 25, 26, 27] rfl (by decide +kernel)) (goodIn_few (big := wsX11_hidden) (fun _ h9 => List.mem_cons_of_mem _ (List.mem_append_right _ h9)) gb_0)
  exact h
set_option maxRecDepth 20000 in
theorem gX11_hidden_X11_places : GoodIn wsX11_hidden (wsV RX11 410 RX11 yX11_places wsX11_places) := goodIn_app (goodIn_r _ [1, 2, 3, 4] rfl (by decide +kernel)) ggX11_hidden_X11_places
set_option maxRecDepth 20000 in
theorem ggX11_hidden_X11_addresses : GoodIn wsX11_hidden wsX11_addresses := by
  have h := goodIn_app (goodIn_r (big := wsX11_hidden) (.code yX11_addresses cX11_addresses 5 (some .int) :: ([.methodLink RX11 301 yX11_seenBy, .instanceMethod yX11_seenBy, .selects RX11 yX11_seenBy yX11_seenBy, .initialized RX11, .code yX11_seenBy cX11_seenBy 4 (some .int), .fieldLink RX11 60 "PathProberModel" "now" "[I", .methodLink RX11 298 yX11_seenAt, .static yX11_seenAt, .code yX11_seenAt cX11_seenAt 3 (some .int)]) : List Cond) [31, 32, 33, 34, 4, 35, 36, 37, 38, 39] rfl (by decide +kernel)) (goodIn_few (big := wsX11_hidden) (fun _ h9 => List.mem_cons_of_mem _ (List.mem_append_right _ h9)) gb_0)
  exact h
set_option maxRecDepth 20000 in
theorem gX11_hidden_X11_addresses : GoodIn wsX11_hidden (wsV RX11 307 RX11 yX11_addresses wsX11_addresses) := goodIn_app (goodIn_r _ [28, 29, 30, 4] rfl (by decide +kernel)) ggX11_hidden_X11_addresses
theorem eX11_hidden_0q : (decode cX11_hidden 0 = .ok (.aload_n 0, 1)) ∧ (decode cX11_hidden 1 = .ok (.iload_n 1, 1)) ∧ (decode cX11_hidden 2 = .ok (.iload_n 2, 1)) ∧ (decode cX11_hidden 3 = .ok (.invokevirtual 410, 3)) ∧ (decode cX11_hidden 6 = .ok (.aload_n 0, 1)) ∧ (decode cX11_hidden 7 = .ok (.iload_n 1, 1)) ∧ (decode cX11_hidden 8 = .ok (.iload_n 2, 1)) ∧ (decode cX11_hidden 9 = .ok (.invokevirtual 307, 3)) := by decide +kernel
theorem dX11_hidden_0 : decode cX11_hidden 0 = .ok (.aload_n 0, 1) := eX11_hidden_0q.1
theorem dX11_hidden_1 : decode cX11_hidden 1 = .ok (.iload_n 1, 1) := eX11_hidden_0q.2.1
theorem dX11_hidden_2 : decode cX11_hidden 2 = .ok (.iload_n 2, 1) := eX11_hidden_0q.2.2.1
theorem dX11_hidden_3 : decode cX11_hidden 3 = .ok (.invokevirtual 410, 3) := eX11_hidden_0q.2.2.2.1
theorem dX11_hidden_6 : decode cX11_hidden 6 = .ok (.aload_n 0, 1) := eX11_hidden_0q.2.2.2.2.1
theorem dX11_hidden_7 : decode cX11_hidden 7 = .ok (.iload_n 1, 1) := eX11_hidden_0q.2.2.2.2.2.1
theorem dX11_hidden_8 : decode cX11_hidden 8 = .ok (.iload_n 2, 1) := eX11_hidden_0q.2.2.2.2.2.2.1
theorem dX11_hidden_9 : decode cX11_hidden 9 = .ok (.invokevirtual 307, 3) := eX11_hidden_0q.2.2.2.2.2.2.2
theorem eX11_hidden_12q : (decode cX11_hidden 12 = .ok (.iconst (-1), 1)) ∧ (decode cX11_hidden 13 = .ok (.ixor, 1)) ∧ (decode cX11_hidden 14 = .ok (.iand, 1)) ∧ (decode cX11_hidden 15 = .ok (.ireturn, 1)) := by decide +kernel
theorem dX11_hidden_12 : decode cX11_hidden 12 = .ok (.iconst (-1), 1) := eX11_hidden_12q.1
theorem dX11_hidden_13 : decode cX11_hidden 13 = .ok (.ixor, 1) := eX11_hidden_12q.2.1
theorem dX11_hidden_14 : decode cX11_hidden 14 = .ok (.iand, 1) := eX11_hidden_12q.2.2.1
theorem dX11_hidden_15 : decode cX11_hidden 15 = .ok (.ireturn, 1) := eX11_hidden_12q.2.2.2
theorem eX11_widest_0q : (decode cX11_widest 0 = .ok (.iconst 0, 1)) ∧ (decode cX11_widest 1 = .ok (.istore_n 2, 1)) ∧ (decode cX11_widest 2 = .ok (.aload_n 0, 1)) ∧ (decode cX11_widest 3 = .ok (.getfield 97, 3)) ∧ (decode cX11_widest 6 = .ok (.iload_n 1, 1)) ∧ (decode cX11_widest 7 = .ok (.iaload, 1)) ∧ (decode cX11_widest 8 = .ok (.iconst 1, 1)) ∧ (decode cX11_widest 9 = .ok (.iadd, 1)) := by decide +kernel
theorem dX11_widest_0 : decode cX11_widest 0 = .ok (.iconst 0, 1) := eX11_widest_0q.1
theorem dX11_widest_1 : decode cX11_widest 1 = .ok (.istore_n 2, 1) := eX11_widest_0q.2.1
theorem dX11_widest_2 : decode cX11_widest 2 = .ok (.aload_n 0, 1) := eX11_widest_0q.2.2.1
theorem dX11_widest_3 : decode cX11_widest 3 = .ok (.getfield 97, 3) := eX11_widest_0q.2.2.2.1
theorem dX11_widest_6 : decode cX11_widest 6 = .ok (.iload_n 1, 1) := eX11_widest_0q.2.2.2.2.1
theorem dX11_widest_7 : decode cX11_widest 7 = .ok (.iaload, 1) := eX11_widest_0q.2.2.2.2.2.1
theorem dX11_widest_8 : decode cX11_widest 8 = .ok (.iconst 1, 1) := eX11_widest_0q.2.2.2.2.2.2.1
theorem dX11_widest_9 : decode cX11_widest 9 = .ok (.iadd, 1) := eX11_widest_0q.2.2.2.2.2.2.2
theorem eX11_widest_10q : (decode cX11_widest 10 = .ok (.istore_n 3, 1)) ∧ (decode cX11_widest 11 = .ok (.iload_n 3, 1)) ∧ (decode cX11_widest 12 = .ok (.aload_n 0, 1)) ∧ (decode cX11_widest 13 = .ok (.getfield 100, 3)) ∧ (decode cX11_widest 16 = .ok (.iload_n 1, 1)) ∧ (decode cX11_widest 17 = .ok (.iaload, 1)) ∧ (decode cX11_widest 18 = .ok (.if_icmp .ge 20, 3)) ∧ (decode cX11_widest 21 = .ok (.iload_n 2, 1)) := by decide +kernel
theorem dX11_widest_10 : decode cX11_widest 10 = .ok (.istore_n 3, 1) := eX11_widest_10q.1
theorem dX11_widest_11 : decode cX11_widest 11 = .ok (.iload_n 3, 1) := eX11_widest_10q.2.1
theorem dX11_widest_12 : decode cX11_widest 12 = .ok (.aload_n 0, 1) := eX11_widest_10q.2.2.1
theorem dX11_widest_13 : decode cX11_widest 13 = .ok (.getfield 100, 3) := eX11_widest_10q.2.2.2.1
theorem dX11_widest_16 : decode cX11_widest 16 = .ok (.iload_n 1, 1) := eX11_widest_10q.2.2.2.2.1
theorem dX11_widest_17 : decode cX11_widest 17 = .ok (.iaload, 1) := eX11_widest_10q.2.2.2.2.2.1
theorem dX11_widest_18 : decode cX11_widest 18 = .ok (.if_icmp .ge 20, 3) := eX11_widest_10q.2.2.2.2.2.2.1
theorem dX11_widest_21 : decode cX11_widest 21 = .ok (.iload_n 2, 1) := eX11_widest_10q.2.2.2.2.2.2.2
theorem eX11_widest_22q : (decode cX11_widest 22 = .ok (.aload_n 0, 1)) ∧ (decode cX11_widest 23 = .ok (.getfield 94, 3)) ∧ (decode cX11_widest 26 = .ok (.iload_n 3, 1)) ∧ (decode cX11_widest 27 = .ok (.iaload, 1)) ∧ (decode cX11_widest 28 = .ok (.invokestatic 328, 3)) ∧ (decode cX11_widest 31 = .ok (.istore_n 2, 1)) ∧ (decode cX11_widest 32 = .ok (.iinc 3 1, 3)) ∧ (decode cX11_widest 35 = .ok (.goto (-24), 3)) := by decide +kernel
theorem dX11_widest_22 : decode cX11_widest 22 = .ok (.aload_n 0, 1) := eX11_widest_22q.1
theorem dX11_widest_23 : decode cX11_widest 23 = .ok (.getfield 94, 3) := eX11_widest_22q.2.1
theorem dX11_widest_26 : decode cX11_widest 26 = .ok (.iload_n 3, 1) := eX11_widest_22q.2.2.1
theorem dX11_widest_27 : decode cX11_widest 27 = .ok (.iaload, 1) := eX11_widest_22q.2.2.2.1
theorem dX11_widest_28 : decode cX11_widest 28 = .ok (.invokestatic 328, 3) := eX11_widest_22q.2.2.2.2.1
theorem dX11_widest_31 : decode cX11_widest 31 = .ok (.istore_n 2, 1) := eX11_widest_22q.2.2.2.2.2.1
theorem dX11_widest_32 : decode cX11_widest 32 = .ok (.iinc 3 1, 3) := eX11_widest_22q.2.2.2.2.2.2.1
theorem dX11_widest_35 : decode cX11_widest 35 = .ok (.goto (-24), 3) := eX11_widest_22q.2.2.2.2.2.2.2
theorem dX11_widest_38 : decode cX11_widest 38 = .ok (.iload_n 2, 1) := by decide +kernel
theorem dX11_widest_39 : decode cX11_widest 39 = .ok (.ireturn, 1) := by decide +kernel
set_option maxRecDepth 20000 in
theorem ggX11_skewOf_X11_addresses : GoodIn wsX11_skewOf wsX11_addresses := by
  have h := goodIn_app (goodIn_r (big := wsX11_skewOf) (.code yX11_addresses cX11_addresses 5 (some .int) :: ([.methodLink RX11 301 yX11_seenBy, .instanceMethod yX11_seenBy, .selects RX11 yX11_seenBy yX11_seenBy, .initialized RX11, .code yX11_seenBy cX11_seenBy 4 (some .int), .fieldLink RX11 60 "PathProberModel" "now" "[I", .methodLink RX11 298 yX11_seenAt, .static yX11_seenAt, .code yX11_seenAt cX11_seenAt 3 (some .int)]) : List Cond) [15, 16, 17, 18, 14, 19, 20, 21, 22, 23] rfl (by decide +kernel)) (goodIn_few (big := wsX11_skewOf) (fun _ h9 => List.mem_cons_of_mem _ (List.mem_append_right _ h9)) gb_0)
  exact h
set_option maxRecDepth 20000 in
theorem gX11_skewOf_X11_addresses : GoodIn wsX11_skewOf (wsV RX11 307 RX11 yX11_addresses wsX11_addresses) := goodIn_app (goodIn_r _ [11, 12, 13, 14] rfl (by decide +kernel)) ggX11_skewOf_X11_addresses
set_option maxRecDepth 20000 in
theorem ggX11_skewOf_X11_links : GoodIn wsX11_skewOf wsX11_links := by
  have h := goodIn_app (goodIn_r (big := wsX11_skewOf) (.code yX11_links cX11_links 1 (some .int) :: ([.fieldLink RX11 34 "PathProberModel" "told" "[I"]) : List Cond) [27, 28] rfl (by decide +kernel)) (goodIn_few (big := wsX11_skewOf) (fun _ h9 => List.mem_cons_of_mem _ (List.mem_append_right _ h9)) gb_0)
  exact h
set_option maxRecDepth 20000 in
theorem gX11_skewOf_X11_links : GoodIn wsX11_skewOf (wsV RX11 266 RX11 yX11_links wsX11_links) := goodIn_app (goodIn_r _ [24, 25, 26, 14] rfl (by decide +kernel)) ggX11_skewOf_X11_links
set_option maxRecDepth 20000 in
theorem ggX11_skewOf_X11_edgesFrom : GoodIn wsX11_skewOf wsX11_edgesFrom := by
  have h := goodIn_app (goodIn_r (big := wsX11_skewOf) (.code yX11_edgesFrom cX11_edgesFrom 6 (some .int) :: ([.methodLink RX11 266 yX11_links, .instanceMethod yX11_links, .selects RX11 yX11_links yX11_links, .initialized RX11, .code yX11_links cX11_links 1 (some .int), .fieldLink RX11 34 "PathProberModel" "told" "[I", .methodLink RX11 310 yX11_isEdge, .instanceMethod yX11_isEdge, .selects RX11 yX11_isEdge yX11_isEdge, .code yX11_isEdge cX11_isEdge 7 (some .boolean), .methodLink RX11 301 yX11_seenBy, .instanceMethod yX11_seenBy, .selects RX11 yX11_seenBy yX11_seenBy, .code yX11_seenBy cX11_seenBy 4 (some .int), .fieldLink RX11 60 "PathProberModel" "now" "[I", .methodLink RX11 298 yX11_seenAt, .static yX11_seenAt, .code yX11_seenAt cX11_seenAt 3 (some .int)]) : List Cond) [32, 24, 25, 26, 14, 27, 28, 33, 34, 35, 36, 16, 17, 18, 19, 20, 21, 22, 23] rfl (by decide +kernel)) (goodIn_few (big := wsX11_skewOf) (fun _ h9 => List.mem_cons_of_mem _ (List.mem_append_right _ h9)) gb_0)
  exact h
set_option maxRecDepth 20000 in
theorem gX11_skewOf_X11_edgesFrom : GoodIn wsX11_skewOf (wsV RX11 314 RX11 yX11_edgesFrom wsX11_edgesFrom) := goodIn_app (goodIn_r _ [29, 30, 31, 14] rfl (by decide +kernel)) ggX11_skewOf_X11_edgesFrom
theorem eX11_skewOf_0q : (decode cX11_skewOf 0 = .ok (.iconst 0, 1)) ∧ (decode cX11_skewOf 1 = .ok (.istore_n 3, 1)) ∧ (decode cX11_skewOf 2 = .ok (.aload_n 0, 1)) ∧ (decode cX11_skewOf 3 = .ok (.getfield 97, 3)) ∧ (decode cX11_skewOf 6 = .ok (.iload_n 2, 1)) ∧ (decode cX11_skewOf 7 = .ok (.iaload, 1)) ∧ (decode cX11_skewOf 8 = .ok (.istore 4, 2)) ∧ (decode cX11_skewOf 10 = .ok (.iload 4, 2)) := by decide +kernel
theorem dX11_skewOf_0 : decode cX11_skewOf 0 = .ok (.iconst 0, 1) := eX11_skewOf_0q.1
theorem dX11_skewOf_1 : decode cX11_skewOf 1 = .ok (.istore_n 3, 1) := eX11_skewOf_0q.2.1
theorem dX11_skewOf_2 : decode cX11_skewOf 2 = .ok (.aload_n 0, 1) := eX11_skewOf_0q.2.2.1
theorem dX11_skewOf_3 : decode cX11_skewOf 3 = .ok (.getfield 97, 3) := eX11_skewOf_0q.2.2.2.1
theorem dX11_skewOf_6 : decode cX11_skewOf 6 = .ok (.iload_n 2, 1) := eX11_skewOf_0q.2.2.2.2.1
theorem dX11_skewOf_7 : decode cX11_skewOf 7 = .ok (.iaload, 1) := eX11_skewOf_0q.2.2.2.2.2.1
theorem dX11_skewOf_8 : decode cX11_skewOf 8 = .ok (.istore 4, 2) := eX11_skewOf_0q.2.2.2.2.2.2.1
theorem dX11_skewOf_10 : decode cX11_skewOf 10 = .ok (.iload 4, 2) := eX11_skewOf_0q.2.2.2.2.2.2.2
theorem eX11_skewOf_12q : (decode cX11_skewOf 12 = .ok (.aload_n 0, 1)) ∧ (decode cX11_skewOf 13 = .ok (.getfield 100, 3)) ∧ (decode cX11_skewOf 16 = .ok (.iload_n 2, 1)) ∧ (decode cX11_skewOf 17 = .ok (.iaload, 1)) ∧ (decode cX11_skewOf 18 = .ok (.if_icmp .ge 95, 3)) ∧ (decode cX11_skewOf 21 = .ok (.aload_n 0, 1)) ∧ (decode cX11_skewOf 22 = .ok (.iload_n 1, 1)) ∧ (decode cX11_skewOf 23 = .ok (.iload 4, 2)) := by decide +kernel
theorem dX11_skewOf_12 : decode cX11_skewOf 12 = .ok (.aload_n 0, 1) := eX11_skewOf_12q.1
theorem dX11_skewOf_13 : decode cX11_skewOf 13 = .ok (.getfield 100, 3) := eX11_skewOf_12q.2.1
theorem dX11_skewOf_16 : decode cX11_skewOf 16 = .ok (.iload_n 2, 1) := eX11_skewOf_12q.2.2.1
theorem dX11_skewOf_17 : decode cX11_skewOf 17 = .ok (.iaload, 1) := eX11_skewOf_12q.2.2.2.1
theorem dX11_skewOf_18 : decode cX11_skewOf 18 = .ok (.if_icmp .ge 95, 3) := eX11_skewOf_12q.2.2.2.2.1
theorem dX11_skewOf_21 : decode cX11_skewOf 21 = .ok (.aload_n 0, 1) := eX11_skewOf_12q.2.2.2.2.2.1
theorem dX11_skewOf_22 : decode cX11_skewOf 22 = .ok (.iload_n 1, 1) := eX11_skewOf_12q.2.2.2.2.2.2.1
theorem dX11_skewOf_23 : decode cX11_skewOf 23 = .ok (.iload 4, 2) := eX11_skewOf_12q.2.2.2.2.2.2.2
theorem eX11_skewOf_25q : (decode cX11_skewOf 25 = .ok (.invokevirtual 307, 3)) ∧ (decode cX11_skewOf 28 = .ok (.istore 5, 2)) ∧ (decode cX11_skewOf 30 = .ok (.iconst (-1), 1)) ∧ (decode cX11_skewOf 31 = .ok (.istore 6, 2)) ∧ (decode cX11_skewOf 33 = .ok (.ldc 174, 2)) ∧ (decode cX11_skewOf 35 = .ok (.istore 7, 2)) ∧ (decode cX11_skewOf 37 = .ok (.iconst 0, 1)) ∧ (decode cX11_skewOf 38 = .ok (.istore 8, 2)) := by decide +kernel
theorem dX11_skewOf_25 : decode cX11_skewOf 25 = .ok (.invokevirtual 307, 3) := eX11_skewOf_25q.1
theorem dX11_skewOf_28 : decode cX11_skewOf 28 = .ok (.istore 5, 2) := eX11_skewOf_25q.2.1
theorem dX11_skewOf_30 : decode cX11_skewOf 30 = .ok (.iconst (-1), 1) := eX11_skewOf_25q.2.2.1
theorem dX11_skewOf_31 : decode cX11_skewOf 31 = .ok (.istore 6, 2) := eX11_skewOf_25q.2.2.2.1
theorem dX11_skewOf_33 : decode cX11_skewOf 33 = .ok (.ldc 174, 2) := eX11_skewOf_25q.2.2.2.2.1
theorem dX11_skewOf_35 : decode cX11_skewOf 35 = .ok (.istore 7, 2) := eX11_skewOf_25q.2.2.2.2.2.1
theorem dX11_skewOf_37 : decode cX11_skewOf 37 = .ok (.iconst 0, 1) := eX11_skewOf_25q.2.2.2.2.2.2.1
theorem dX11_skewOf_38 : decode cX11_skewOf 38 = .ok (.istore 8, 2) := eX11_skewOf_25q.2.2.2.2.2.2.2
theorem eX11_skewOf_40q : (decode cX11_skewOf 40 = .ok (.iload 8, 2)) ∧ (decode cX11_skewOf 42 = .ok (.aload_n 0, 1)) ∧ (decode cX11_skewOf 43 = .ok (.invokevirtual 266, 3)) ∧ (decode cX11_skewOf 46 = .ok (.if_icmp .gt 51, 3)) ∧ (decode cX11_skewOf 49 = .ok (.iload 5, 2)) ∧ (decode cX11_skewOf 51 = .ok (.iload 8, 2)) ∧ (decode cX11_skewOf 53 = .ok (.ishr, 1)) ∧ (decode cX11_skewOf 54 = .ok (.iconst 1, 1)) := by decide +kernel
theorem dX11_skewOf_40 : decode cX11_skewOf 40 = .ok (.iload 8, 2) := eX11_skewOf_40q.1
theorem dX11_skewOf_42 : decode cX11_skewOf 42 = .ok (.aload_n 0, 1) := eX11_skewOf_40q.2.1
theorem dX11_skewOf_43 : decode cX11_skewOf 43 = .ok (.invokevirtual 266, 3) := eX11_skewOf_40q.2.2.1
theorem dX11_skewOf_46 : decode cX11_skewOf 46 = .ok (.if_icmp .gt 51, 3) := eX11_skewOf_40q.2.2.2.1
theorem dX11_skewOf_49 : decode cX11_skewOf 49 = .ok (.iload 5, 2) := eX11_skewOf_40q.2.2.2.2.1
theorem dX11_skewOf_51 : decode cX11_skewOf 51 = .ok (.iload 8, 2) := eX11_skewOf_40q.2.2.2.2.2.1
theorem dX11_skewOf_53 : decode cX11_skewOf 53 = .ok (.ishr, 1) := eX11_skewOf_40q.2.2.2.2.2.2.1
theorem dX11_skewOf_54 : decode cX11_skewOf 54 = .ok (.iconst 1, 1) := eX11_skewOf_40q.2.2.2.2.2.2.2
theorem eX11_skewOf_55q : (decode cX11_skewOf 55 = .ok (.iand, 1)) ∧ (decode cX11_skewOf 56 = .ok (.ifCond .ne 6, 3)) ∧ (decode cX11_skewOf 59 = .ok (.goto 32, 3)) ∧ (decode cX11_skewOf 62 = .ok (.aload_n 0, 1)) ∧ (decode cX11_skewOf 63 = .ok (.iload_n 1, 1)) ∧ (decode cX11_skewOf 64 = .ok (.iload 4, 2)) ∧ (decode cX11_skewOf 66 = .ok (.iload 8, 2)) ∧ (decode cX11_skewOf 68 = .ok (.invokevirtual 314, 3)) := by decide +kernel
theorem dX11_skewOf_55 : decode cX11_skewOf 55 = .ok (.iand, 1) := eX11_skewOf_55q.1
theorem dX11_skewOf_56 : decode cX11_skewOf 56 = .ok (.ifCond .ne 6, 3) := eX11_skewOf_55q.2.1
theorem dX11_skewOf_59 : decode cX11_skewOf 59 = .ok (.goto 32, 3) := eX11_skewOf_55q.2.2.1
theorem dX11_skewOf_62 : decode cX11_skewOf 62 = .ok (.aload_n 0, 1) := eX11_skewOf_55q.2.2.2.1
theorem dX11_skewOf_63 : decode cX11_skewOf 63 = .ok (.iload_n 1, 1) := eX11_skewOf_55q.2.2.2.2.1
theorem dX11_skewOf_64 : decode cX11_skewOf 64 = .ok (.iload 4, 2) := eX11_skewOf_55q.2.2.2.2.2.1
theorem dX11_skewOf_66 : decode cX11_skewOf 66 = .ok (.iload 8, 2) := eX11_skewOf_55q.2.2.2.2.2.2.1
theorem dX11_skewOf_68 : decode cX11_skewOf 68 = .ok (.invokevirtual 314, 3) := eX11_skewOf_55q.2.2.2.2.2.2.2
theorem eX11_skewOf_71q : (decode cX11_skewOf 71 = .ok (.istore 9, 2)) ∧ (decode cX11_skewOf 73 = .ok (.iload 6, 2)) ∧ (decode cX11_skewOf 75 = .ok (.iload 9, 2)) ∧ (decode cX11_skewOf 77 = .ok (.invokestatic 328, 3)) ∧ (decode cX11_skewOf 80 = .ok (.istore 6, 2)) ∧ (decode cX11_skewOf 82 = .ok (.iload 7, 2)) ∧ (decode cX11_skewOf 84 = .ok (.iload 9, 2)) ∧ (decode cX11_skewOf 86 = .ok (.invokestatic 175, 3)) := by decide +kernel
theorem dX11_skewOf_71 : decode cX11_skewOf 71 = .ok (.istore 9, 2) := eX11_skewOf_71q.1
theorem dX11_skewOf_73 : decode cX11_skewOf 73 = .ok (.iload 6, 2) := eX11_skewOf_71q.2.1
theorem dX11_skewOf_75 : decode cX11_skewOf 75 = .ok (.iload 9, 2) := eX11_skewOf_71q.2.2.1
theorem dX11_skewOf_77 : decode cX11_skewOf 77 = .ok (.invokestatic 328, 3) := eX11_skewOf_71q.2.2.2.1
theorem dX11_skewOf_80 : decode cX11_skewOf 80 = .ok (.istore 6, 2) := eX11_skewOf_71q.2.2.2.2.1
theorem dX11_skewOf_82 : decode cX11_skewOf 82 = .ok (.iload 7, 2) := eX11_skewOf_71q.2.2.2.2.2.1
theorem dX11_skewOf_84 : decode cX11_skewOf 84 = .ok (.iload 9, 2) := eX11_skewOf_71q.2.2.2.2.2.2.1
theorem dX11_skewOf_86 : decode cX11_skewOf 86 = .ok (.invokestatic 175, 3) := eX11_skewOf_71q.2.2.2.2.2.2.2
theorem eX11_skewOf_89q : (decode cX11_skewOf 89 = .ok (.istore 7, 2)) ∧ (decode cX11_skewOf 91 = .ok (.iinc 8 1, 3)) ∧ (decode cX11_skewOf 94 = .ok (.goto (-54), 3)) ∧ (decode cX11_skewOf 97 = .ok (.iload_n 3, 1)) ∧ (decode cX11_skewOf 98 = .ok (.iload 6, 2)) ∧ (decode cX11_skewOf 100 = .ok (.iload 7, 2)) ∧ (decode cX11_skewOf 102 = .ok (.isub, 1)) ∧ (decode cX11_skewOf 103 = .ok (.invokestatic 328, 3)) := by decide +kernel
theorem dX11_skewOf_89 : decode cX11_skewOf 89 = .ok (.istore 7, 2) := eX11_skewOf_89q.1
theorem dX11_skewOf_91 : decode cX11_skewOf 91 = .ok (.iinc 8 1, 3) := eX11_skewOf_89q.2.1
theorem dX11_skewOf_94 : decode cX11_skewOf 94 = .ok (.goto (-54), 3) := eX11_skewOf_89q.2.2.1
theorem dX11_skewOf_97 : decode cX11_skewOf 97 = .ok (.iload_n 3, 1) := eX11_skewOf_89q.2.2.2.1
theorem dX11_skewOf_98 : decode cX11_skewOf 98 = .ok (.iload 6, 2) := eX11_skewOf_89q.2.2.2.2.1
theorem dX11_skewOf_100 : decode cX11_skewOf 100 = .ok (.iload 7, 2) := eX11_skewOf_89q.2.2.2.2.2.1
theorem dX11_skewOf_102 : decode cX11_skewOf 102 = .ok (.isub, 1) := eX11_skewOf_89q.2.2.2.2.2.2.1
theorem dX11_skewOf_103 : decode cX11_skewOf 103 = .ok (.invokestatic 328, 3) := eX11_skewOf_89q.2.2.2.2.2.2.2
theorem eX11_skewOf_106q : (decode cX11_skewOf 106 = .ok (.istore_n 3, 1)) ∧ (decode cX11_skewOf 107 = .ok (.iinc 4 1, 3)) ∧ (decode cX11_skewOf 110 = .ok (.goto (-100), 3)) ∧ (decode cX11_skewOf 113 = .ok (.iload_n 3, 1)) ∧ (decode cX11_skewOf 114 = .ok (.ireturn, 1)) := by decide +kernel
theorem dX11_skewOf_106 : decode cX11_skewOf 106 = .ok (.istore_n 3, 1) := eX11_skewOf_106q.1
theorem dX11_skewOf_107 : decode cX11_skewOf 107 = .ok (.iinc 4 1, 3) := eX11_skewOf_106q.2.1
theorem dX11_skewOf_110 : decode cX11_skewOf 110 = .ok (.goto (-100), 3) := eX11_skewOf_106q.2.2.1
theorem dX11_skewOf_113 : decode cX11_skewOf 113 = .ok (.iload_n 3, 1) := eX11_skewOf_106q.2.2.2.1
theorem dX11_skewOf_114 : decode cX11_skewOf 114 = .ok (.ireturn, 1) := eX11_skewOf_106q.2.2.2.2
set_option maxRecDepth 20000 in
theorem ggX11_loopOf_X11_seenBy : GoodIn wsX11_loopOf wsX11_seenBy := by
  have h := goodIn_app (goodIn_r (big := wsX11_loopOf) (.code yX11_seenBy cX11_seenBy 4 (some .int) :: ([.fieldLink RX11 60 "PathProberModel" "now" "[I", .methodLink RX11 298 yX11_seenAt, .static yX11_seenAt, .initialized RX11, .code yX11_seenAt cX11_seenAt 3 (some .int)]) : List Cond) [6, 7, 8, 9, 5, 10] rfl (by decide +kernel)) (goodIn_few (big := wsX11_loopOf) (fun _ h9 => List.mem_cons_of_mem _ (List.mem_append_right _ h9)) gb_0)
  exact h
set_option maxRecDepth 20000 in
theorem gX11_loopOf_X11_seenBy : GoodIn wsX11_loopOf (wsV RX11 301 RX11 yX11_seenBy wsX11_seenBy) := goodIn_app (goodIn_r _ [2, 3, 4, 5] rfl (by decide +kernel)) ggX11_loopOf_X11_seenBy
set_option maxRecDepth 20000 in
theorem ggX11_loopOf_X11_routerOf : GoodIn wsX11_loopOf wsX11_routerOf := by
  have h := goodIn_app (goodIn_r (big := wsX11_loopOf) (.code yX11_routerOf cX11_routerOf 2 (some .int) :: ([.fieldLink RX11 56 "PathProberModel" "to" "[I"]) : List Cond) [14, 15] rfl (by decide +kernel)) (goodIn_few (big := wsX11_loopOf) (fun _ h9 => List.mem_cons_of_mem _ (List.mem_append_right _ h9)) gb_0)
  exact h
set_option maxRecDepth 20000 in
theorem gX11_loopOf_X11_routerOf : GoodIn wsX11_loopOf (wsV RX11 386 RX11 yX11_routerOf wsX11_routerOf) := goodIn_app (goodIn_r _ [11, 12, 13, 5] rfl (by decide +kernel)) ggX11_loopOf_X11_routerOf
theorem eX11_loopOf_0q : (decode cX11_loopOf 0 = .ok (.iconst 1, 1)) ∧ (decode cX11_loopOf 1 = .ok (.istore_n 3, 1)) ∧ (decode cX11_loopOf 2 = .ok (.iload_n 3, 1)) ∧ (decode cX11_loopOf 3 = .ok (.bipush 10, 2)) ∧ (decode cX11_loopOf 5 = .ok (.if_icmp .ge 55, 3)) ∧ (decode cX11_loopOf 8 = .ok (.aload_n 0, 1)) ∧ (decode cX11_loopOf 9 = .ok (.iload_n 1, 1)) ∧ (decode cX11_loopOf 10 = .ok (.iload_n 2, 1)) := by decide +kernel
theorem dX11_loopOf_0 : decode cX11_loopOf 0 = .ok (.iconst 1, 1) := eX11_loopOf_0q.1
theorem dX11_loopOf_1 : decode cX11_loopOf 1 = .ok (.istore_n 3, 1) := eX11_loopOf_0q.2.1
theorem dX11_loopOf_2 : decode cX11_loopOf 2 = .ok (.iload_n 3, 1) := eX11_loopOf_0q.2.2.1
theorem dX11_loopOf_3 : decode cX11_loopOf 3 = .ok (.bipush 10, 2) := eX11_loopOf_0q.2.2.2.1
theorem dX11_loopOf_5 : decode cX11_loopOf 5 = .ok (.if_icmp .ge 55, 3) := eX11_loopOf_0q.2.2.2.2.1
theorem dX11_loopOf_8 : decode cX11_loopOf 8 = .ok (.aload_n 0, 1) := eX11_loopOf_0q.2.2.2.2.2.1
theorem dX11_loopOf_9 : decode cX11_loopOf 9 = .ok (.iload_n 1, 1) := eX11_loopOf_0q.2.2.2.2.2.2.1
theorem dX11_loopOf_10 : decode cX11_loopOf 10 = .ok (.iload_n 2, 1) := eX11_loopOf_0q.2.2.2.2.2.2.2
theorem eX11_loopOf_11q : (decode cX11_loopOf 11 = .ok (.iload_n 3, 1)) ∧ (decode cX11_loopOf 12 = .ok (.invokevirtual 301, 3)) ∧ (decode cX11_loopOf 15 = .ok (.istore 4, 2)) ∧ (decode cX11_loopOf 17 = .ok (.iload 4, 2)) ∧ (decode cX11_loopOf 19 = .ok (.iconst (-1), 1)) ∧ (decode cX11_loopOf 20 = .ok (.if_icmp .eq 34, 3)) ∧ (decode cX11_loopOf 23 = .ok (.iload 4, 2)) ∧ (decode cX11_loopOf 25 = .ok (.aload_n 0, 1)) := by decide +kernel
theorem dX11_loopOf_11 : decode cX11_loopOf 11 = .ok (.iload_n 3, 1) := eX11_loopOf_11q.1
theorem dX11_loopOf_12 : decode cX11_loopOf 12 = .ok (.invokevirtual 301, 3) := eX11_loopOf_11q.2.1
theorem dX11_loopOf_15 : decode cX11_loopOf 15 = .ok (.istore 4, 2) := eX11_loopOf_11q.2.2.1
theorem dX11_loopOf_17 : decode cX11_loopOf 17 = .ok (.iload 4, 2) := eX11_loopOf_11q.2.2.2.1
theorem dX11_loopOf_19 : decode cX11_loopOf 19 = .ok (.iconst (-1), 1) := eX11_loopOf_11q.2.2.2.2.1
theorem dX11_loopOf_20 : decode cX11_loopOf 20 = .ok (.if_icmp .eq 34, 3) := eX11_loopOf_11q.2.2.2.2.2.1
theorem dX11_loopOf_23 : decode cX11_loopOf 23 = .ok (.iload 4, 2) := eX11_loopOf_11q.2.2.2.2.2.2.1
theorem dX11_loopOf_25 : decode cX11_loopOf 25 = .ok (.aload_n 0, 1) := eX11_loopOf_11q.2.2.2.2.2.2.2
theorem eX11_loopOf_26q : (decode cX11_loopOf 26 = .ok (.iload_n 1, 1)) ∧ (decode cX11_loopOf 27 = .ok (.iload_n 2, 1)) ∧ (decode cX11_loopOf 28 = .ok (.iload_n 3, 1)) ∧ (decode cX11_loopOf 29 = .ok (.iconst 1, 1)) ∧ (decode cX11_loopOf 30 = .ok (.iadd, 1)) ∧ (decode cX11_loopOf 31 = .ok (.invokevirtual 301, 3)) ∧ (decode cX11_loopOf 34 = .ok (.if_icmp .ne 20, 3)) ∧ (decode cX11_loopOf 37 = .ok (.aload_n 0, 1)) := by decide +kernel
theorem dX11_loopOf_26 : decode cX11_loopOf 26 = .ok (.iload_n 1, 1) := eX11_loopOf_26q.1
theorem dX11_loopOf_27 : decode cX11_loopOf 27 = .ok (.iload_n 2, 1) := eX11_loopOf_26q.2.1
theorem dX11_loopOf_28 : decode cX11_loopOf 28 = .ok (.iload_n 3, 1) := eX11_loopOf_26q.2.2.1
theorem dX11_loopOf_29 : decode cX11_loopOf 29 = .ok (.iconst 1, 1) := eX11_loopOf_26q.2.2.2.1
theorem dX11_loopOf_30 : decode cX11_loopOf 30 = .ok (.iadd, 1) := eX11_loopOf_26q.2.2.2.2.1
theorem dX11_loopOf_31 : decode cX11_loopOf 31 = .ok (.invokevirtual 301, 3) := eX11_loopOf_26q.2.2.2.2.2.1
theorem dX11_loopOf_34 : decode cX11_loopOf 34 = .ok (.if_icmp .ne 20, 3) := eX11_loopOf_26q.2.2.2.2.2.2.1
theorem dX11_loopOf_37 : decode cX11_loopOf 37 = .ok (.aload_n 0, 1) := eX11_loopOf_26q.2.2.2.2.2.2.2
theorem eX11_loopOf_38q : (decode cX11_loopOf 38 = .ok (.iload 4, 2)) ∧ (decode cX11_loopOf 40 = .ok (.invokevirtual 386, 3)) ∧ (decode cX11_loopOf 43 = .ok (.aload_n 0, 1)) ∧ (decode cX11_loopOf 44 = .ok (.getfield 58, 3)) ∧ (decode cX11_loopOf 47 = .ok (.iload_n 2, 1)) ∧ (decode cX11_loopOf 48 = .ok (.iaload, 1)) ∧ (decode cX11_loopOf 49 = .ok (.if_icmp .eq 5, 3)) ∧ (decode cX11_loopOf 52 = .ok (.iload_n 3, 1)) := by decide +kernel
theorem dX11_loopOf_38 : decode cX11_loopOf 38 = .ok (.iload 4, 2) := eX11_loopOf_38q.1
theorem dX11_loopOf_40 : decode cX11_loopOf 40 = .ok (.invokevirtual 386, 3) := eX11_loopOf_38q.2.1
theorem dX11_loopOf_43 : decode cX11_loopOf 43 = .ok (.aload_n 0, 1) := eX11_loopOf_38q.2.2.1
theorem dX11_loopOf_44 : decode cX11_loopOf 44 = .ok (.getfield 58, 3) := eX11_loopOf_38q.2.2.2.1
theorem dX11_loopOf_47 : decode cX11_loopOf 47 = .ok (.iload_n 2, 1) := eX11_loopOf_38q.2.2.2.2.1
theorem dX11_loopOf_48 : decode cX11_loopOf 48 = .ok (.iaload, 1) := eX11_loopOf_38q.2.2.2.2.2.1
theorem dX11_loopOf_49 : decode cX11_loopOf 49 = .ok (.if_icmp .eq 5, 3) := eX11_loopOf_38q.2.2.2.2.2.2.1
theorem dX11_loopOf_52 : decode cX11_loopOf 52 = .ok (.iload_n 3, 1) := eX11_loopOf_38q.2.2.2.2.2.2.2
theorem eX11_loopOf_53q : (decode cX11_loopOf 53 = .ok (.ireturn, 1)) ∧ (decode cX11_loopOf 54 = .ok (.iinc 3 1, 3)) ∧ (decode cX11_loopOf 57 = .ok (.goto (-55), 3)) ∧ (decode cX11_loopOf 60 = .ok (.iconst (-1), 1)) ∧ (decode cX11_loopOf 61 = .ok (.ireturn, 1)) := by decide +kernel
theorem dX11_loopOf_53 : decode cX11_loopOf 53 = .ok (.ireturn, 1) := eX11_loopOf_53q.1
theorem dX11_loopOf_54 : decode cX11_loopOf 54 = .ok (.iinc 3 1, 3) := eX11_loopOf_53q.2.1
theorem dX11_loopOf_57 : decode cX11_loopOf 57 = .ok (.goto (-55), 3) := eX11_loopOf_53q.2.2.1
theorem dX11_loopOf_60 : decode cX11_loopOf 60 = .ok (.iconst (-1), 1) := eX11_loopOf_53q.2.2.2.1
theorem dX11_loopOf_61 : decode cX11_loopOf 61 = .ok (.ireturn, 1) := eX11_loopOf_53q.2.2.2.2
set_option maxRecDepth 20000 in
theorem ggX11_whyOf_X11_links : GoodIn wsX11_whyOf wsX11_links := by
  have h := goodIn_app (goodIn_r (big := wsX11_whyOf) (.code yX11_links cX11_links 1 (some .int) :: ([.fieldLink RX11 34 "PathProberModel" "told" "[I"]) : List Cond) [10, 11] rfl (by decide +kernel)) (goodIn_few (big := wsX11_whyOf) (fun _ h9 => List.mem_cons_of_mem _ (List.mem_append_right _ h9)) gb_0)
  exact h
set_option maxRecDepth 20000 in
theorem gX11_whyOf_X11_links : GoodIn wsX11_whyOf (wsV RX11 266 RX11 yX11_links wsX11_links) := goodIn_app (goodIn_r _ [6, 7, 8, 9] rfl (by decide +kernel)) ggX11_whyOf_X11_links
theorem eX11_whyOf_0q : (decode cX11_whyOf 0 = .ok (.iconst 0, 1)) ∧ (decode cX11_whyOf 1 = .ok (.istore_n 2, 1)) ∧ (decode cX11_whyOf 2 = .ok (.iconst 0, 1)) ∧ (decode cX11_whyOf 3 = .ok (.istore_n 3, 1)) ∧ (decode cX11_whyOf 4 = .ok (.iconst 0, 1)) ∧ (decode cX11_whyOf 5 = .ok (.istore 4, 2)) ∧ (decode cX11_whyOf 7 = .ok (.iload 4, 2)) ∧ (decode cX11_whyOf 9 = .ok (.aload_n 0, 1)) := by decide +kernel
theorem dX11_whyOf_0 : decode cX11_whyOf 0 = .ok (.iconst 0, 1) := eX11_whyOf_0q.1
theorem dX11_whyOf_1 : decode cX11_whyOf 1 = .ok (.istore_n 2, 1) := eX11_whyOf_0q.2.1
theorem dX11_whyOf_2 : decode cX11_whyOf 2 = .ok (.iconst 0, 1) := eX11_whyOf_0q.2.2.1
theorem dX11_whyOf_3 : decode cX11_whyOf 3 = .ok (.istore_n 3, 1) := eX11_whyOf_0q.2.2.2.1
theorem dX11_whyOf_4 : decode cX11_whyOf 4 = .ok (.iconst 0, 1) := eX11_whyOf_0q.2.2.2.2.1
theorem dX11_whyOf_5 : decode cX11_whyOf 5 = .ok (.istore 4, 2) := eX11_whyOf_0q.2.2.2.2.2.1
theorem dX11_whyOf_7 : decode cX11_whyOf 7 = .ok (.iload 4, 2) := eX11_whyOf_0q.2.2.2.2.2.2.1
theorem dX11_whyOf_9 : decode cX11_whyOf 9 = .ok (.aload_n 0, 1) := eX11_whyOf_0q.2.2.2.2.2.2.2
theorem eX11_whyOf_10q : (decode cX11_whyOf 10 = .ok (.invokevirtual 266, 3)) ∧ (decode cX11_whyOf 13 = .ok (.if_icmp .ge 46, 3)) ∧ (decode cX11_whyOf 16 = .ok (.iload_n 2, 1)) ∧ (decode cX11_whyOf 17 = .ok (.ifCond .ne 30, 3)) ∧ (decode cX11_whyOf 20 = .ok (.aload_n 0, 1)) ∧ (decode cX11_whyOf 21 = .ok (.getfield 56, 3)) ∧ (decode cX11_whyOf 24 = .ok (.iload 4, 2)) ∧ (decode cX11_whyOf 26 = .ok (.iaload, 1)) := by decide +kernel
theorem dX11_whyOf_10 : decode cX11_whyOf 10 = .ok (.invokevirtual 266, 3) := eX11_whyOf_10q.1
theorem dX11_whyOf_13 : decode cX11_whyOf 13 = .ok (.if_icmp .ge 46, 3) := eX11_whyOf_10q.2.1
theorem dX11_whyOf_16 : decode cX11_whyOf 16 = .ok (.iload_n 2, 1) := eX11_whyOf_10q.2.2.1
theorem dX11_whyOf_17 : decode cX11_whyOf 17 = .ok (.ifCond .ne 30, 3) := eX11_whyOf_10q.2.2.2.1
theorem dX11_whyOf_20 : decode cX11_whyOf 20 = .ok (.aload_n 0, 1) := eX11_whyOf_10q.2.2.2.2.1
theorem dX11_whyOf_21 : decode cX11_whyOf 21 = .ok (.getfield 56, 3) := eX11_whyOf_10q.2.2.2.2.2.1
theorem dX11_whyOf_24 : decode cX11_whyOf 24 = .ok (.iload 4, 2) := eX11_whyOf_10q.2.2.2.2.2.2.1
theorem dX11_whyOf_26 : decode cX11_whyOf 26 = .ok (.iaload, 1) := eX11_whyOf_10q.2.2.2.2.2.2.2
theorem eX11_whyOf_27q : (decode cX11_whyOf 27 = .ok (.iload_n 1, 1)) ∧ (decode cX11_whyOf 28 = .ok (.if_icmp .ne 23, 3)) ∧ (decode cX11_whyOf 31 = .ok (.aload_n 0, 1)) ∧ (decode cX11_whyOf 32 = .ok (.getfield 50, 3)) ∧ (decode cX11_whyOf 35 = .ok (.aload_n 0, 1)) ∧ (decode cX11_whyOf 36 = .ok (.getfield 53, 3)) ∧ (decode cX11_whyOf 39 = .ok (.iload 4, 2)) ∧ (decode cX11_whyOf 41 = .ok (.iaload, 1)) := by decide +kernel
theorem dX11_whyOf_27 : decode cX11_whyOf 27 = .ok (.iload_n 1, 1) := eX11_whyOf_27q.1
theorem dX11_whyOf_28 : decode cX11_whyOf 28 = .ok (.if_icmp .ne 23, 3) := eX11_whyOf_27q.2.1
theorem dX11_whyOf_31 : decode cX11_whyOf 31 = .ok (.aload_n 0, 1) := eX11_whyOf_27q.2.2.1
theorem dX11_whyOf_32 : decode cX11_whyOf 32 = .ok (.getfield 50, 3) := eX11_whyOf_27q.2.2.2.1
theorem dX11_whyOf_35 : decode cX11_whyOf 35 = .ok (.aload_n 0, 1) := eX11_whyOf_27q.2.2.2.2.1
theorem dX11_whyOf_36 : decode cX11_whyOf 36 = .ok (.getfield 53, 3) := eX11_whyOf_27q.2.2.2.2.2.1
theorem dX11_whyOf_39 : decode cX11_whyOf 39 = .ok (.iload 4, 2) := eX11_whyOf_27q.2.2.2.2.2.2.1
theorem dX11_whyOf_41 : decode cX11_whyOf 41 = .ok (.iaload, 1) := eX11_whyOf_27q.2.2.2.2.2.2.2
theorem eX11_whyOf_42q : (decode cX11_whyOf 42 = .ok (.iaload, 1)) ∧ (decode cX11_whyOf 43 = .ok (.iconst 1, 1)) ∧ (decode cX11_whyOf 44 = .ok (.if_icmp .ne 7, 3)) ∧ (decode cX11_whyOf 47 = .ok (.iconst 1, 1)) ∧ (decode cX11_whyOf 48 = .ok (.goto 4, 3)) ∧ (decode cX11_whyOf 51 = .ok (.iconst 0, 1)) ∧ (decode cX11_whyOf 52 = .ok (.istore_n 2, 1)) ∧ (decode cX11_whyOf 53 = .ok (.iinc 4 1, 3)) := by decide +kernel
theorem dX11_whyOf_42 : decode cX11_whyOf 42 = .ok (.iaload, 1) := eX11_whyOf_42q.1
theorem dX11_whyOf_43 : decode cX11_whyOf 43 = .ok (.iconst 1, 1) := eX11_whyOf_42q.2.1
theorem dX11_whyOf_44 : decode cX11_whyOf 44 = .ok (.if_icmp .ne 7, 3) := eX11_whyOf_42q.2.2.1
theorem dX11_whyOf_47 : decode cX11_whyOf 47 = .ok (.iconst 1, 1) := eX11_whyOf_42q.2.2.2.1
theorem dX11_whyOf_48 : decode cX11_whyOf 48 = .ok (.goto 4, 3) := eX11_whyOf_42q.2.2.2.2.1
theorem dX11_whyOf_51 : decode cX11_whyOf 51 = .ok (.iconst 0, 1) := eX11_whyOf_42q.2.2.2.2.2.1
theorem dX11_whyOf_52 : decode cX11_whyOf 52 = .ok (.istore_n 2, 1) := eX11_whyOf_42q.2.2.2.2.2.2.1
theorem dX11_whyOf_53 : decode cX11_whyOf 53 = .ok (.iinc 4 1, 3) := eX11_whyOf_42q.2.2.2.2.2.2.2
theorem eX11_whyOf_56q : (decode cX11_whyOf 56 = .ok (.goto (-49), 3)) ∧ (decode cX11_whyOf 59 = .ok (.iconst 0, 1)) ∧ (decode cX11_whyOf 60 = .ok (.istore 4, 2)) ∧ (decode cX11_whyOf 62 = .ok (.iload 4, 2)) ∧ (decode cX11_whyOf 64 = .ok (.iload_n 1, 1)) ∧ (decode cX11_whyOf 65 = .ok (.if_icmp .ge 58, 3)) ∧ (decode cX11_whyOf 68 = .ok (.iload_n 3, 1)) ∧ (decode cX11_whyOf 69 = .ok (.ifCond .ne 42, 3)) := by decide +kernel
theorem dX11_whyOf_56 : decode cX11_whyOf 56 = .ok (.goto (-49), 3) := eX11_whyOf_56q.1
theorem dX11_whyOf_59 : decode cX11_whyOf 59 = .ok (.iconst 0, 1) := eX11_whyOf_56q.2.1
theorem dX11_whyOf_60 : decode cX11_whyOf 60 = .ok (.istore 4, 2) := eX11_whyOf_56q.2.2.1
theorem dX11_whyOf_62 : decode cX11_whyOf 62 = .ok (.iload 4, 2) := eX11_whyOf_56q.2.2.2.1
theorem dX11_whyOf_64 : decode cX11_whyOf 64 = .ok (.iload_n 1, 1) := eX11_whyOf_56q.2.2.2.2.1
theorem dX11_whyOf_65 : decode cX11_whyOf 65 = .ok (.if_icmp .ge 58, 3) := eX11_whyOf_56q.2.2.2.2.2.1
theorem dX11_whyOf_68 : decode cX11_whyOf 68 = .ok (.iload_n 3, 1) := eX11_whyOf_56q.2.2.2.2.2.2.1
theorem dX11_whyOf_69 : decode cX11_whyOf 69 = .ok (.ifCond .ne 42, 3) := eX11_whyOf_56q.2.2.2.2.2.2.2
theorem eX11_whyOf_72q : (decode cX11_whyOf 72 = .ok (.aload_n 0, 1)) ∧ (decode cX11_whyOf 73 = .ok (.getfield 38, 3)) ∧ (decode cX11_whyOf 76 = .ok (.iload 4, 2)) ∧ (decode cX11_whyOf 78 = .ok (.iaload, 1)) ∧ (decode cX11_whyOf 79 = .ok (.iconst 2, 1)) ∧ (decode cX11_whyOf 80 = .ok (.if_icmp .ne 35, 3)) ∧ (decode cX11_whyOf 83 = .ok (.aload_n 0, 1)) ∧ (decode cX11_whyOf 84 = .ok (.getfield 73, 3)) := by decide +kernel
theorem dX11_whyOf_72 : decode cX11_whyOf 72 = .ok (.aload_n 0, 1) := eX11_whyOf_72q.1
theorem dX11_whyOf_73 : decode cX11_whyOf 73 = .ok (.getfield 38, 3) := eX11_whyOf_72q.2.1
theorem dX11_whyOf_76 : decode cX11_whyOf 76 = .ok (.iload 4, 2) := eX11_whyOf_72q.2.2.1
theorem dX11_whyOf_78 : decode cX11_whyOf 78 = .ok (.iaload, 1) := eX11_whyOf_72q.2.2.2.1
theorem dX11_whyOf_79 : decode cX11_whyOf 79 = .ok (.iconst 2, 1) := eX11_whyOf_72q.2.2.2.2.1
theorem dX11_whyOf_80 : decode cX11_whyOf 80 = .ok (.if_icmp .ne 35, 3) := eX11_whyOf_72q.2.2.2.2.2.1
theorem dX11_whyOf_83 : decode cX11_whyOf 83 = .ok (.aload_n 0, 1) := eX11_whyOf_72q.2.2.2.2.2.2.1
theorem dX11_whyOf_84 : decode cX11_whyOf 84 = .ok (.getfield 73, 3) := eX11_whyOf_72q.2.2.2.2.2.2.2
theorem eX11_whyOf_87q : (decode cX11_whyOf 87 = .ok (.iload_n 1, 1)) ∧ (decode cX11_whyOf 88 = .ok (.iaload, 1)) ∧ (decode cX11_whyOf 89 = .ok (.iload 4, 2)) ∧ (decode cX11_whyOf 91 = .ok (.ishr, 1)) ∧ (decode cX11_whyOf 92 = .ok (.iconst 1, 1)) ∧ (decode cX11_whyOf 93 = .ok (.iand, 1)) ∧ (decode cX11_whyOf 94 = .ok (.iconst 1, 1)) ∧ (decode cX11_whyOf 95 = .ok (.if_icmp .ne 20, 3)) := by decide +kernel
theorem dX11_whyOf_87 : decode cX11_whyOf 87 = .ok (.iload_n 1, 1) := eX11_whyOf_87q.1
theorem dX11_whyOf_88 : decode cX11_whyOf 88 = .ok (.iaload, 1) := eX11_whyOf_87q.2.1
theorem dX11_whyOf_89 : decode cX11_whyOf 89 = .ok (.iload 4, 2) := eX11_whyOf_87q.2.2.1
theorem dX11_whyOf_91 : decode cX11_whyOf 91 = .ok (.ishr, 1) := eX11_whyOf_87q.2.2.2.1
theorem dX11_whyOf_92 : decode cX11_whyOf 92 = .ok (.iconst 1, 1) := eX11_whyOf_87q.2.2.2.2.1
theorem dX11_whyOf_93 : decode cX11_whyOf 93 = .ok (.iand, 1) := eX11_whyOf_87q.2.2.2.2.2.1
theorem dX11_whyOf_94 : decode cX11_whyOf 94 = .ok (.iconst 1, 1) := eX11_whyOf_87q.2.2.2.2.2.2.1
theorem dX11_whyOf_95 : decode cX11_whyOf 95 = .ok (.if_icmp .ne 20, 3) := eX11_whyOf_87q.2.2.2.2.2.2.2
theorem eX11_whyOf_98q : (decode cX11_whyOf 98 = .ok (.aload_n 0, 1)) ∧ (decode cX11_whyOf 99 = .ok (.getfield 73, 3)) ∧ (decode cX11_whyOf 102 = .ok (.iload 4, 2)) ∧ (decode cX11_whyOf 104 = .ok (.iaload, 1)) ∧ (decode cX11_whyOf 105 = .ok (.iconst 1, 1)) ∧ (decode cX11_whyOf 106 = .ok (.iand, 1)) ∧ (decode cX11_whyOf 107 = .ok (.iconst 1, 1)) ∧ (decode cX11_whyOf 108 = .ok (.if_icmp .ne 7, 3)) := by decide +kernel
theorem dX11_whyOf_98 : decode cX11_whyOf 98 = .ok (.aload_n 0, 1) := eX11_whyOf_98q.1
theorem dX11_whyOf_99 : decode cX11_whyOf 99 = .ok (.getfield 73, 3) := eX11_whyOf_98q.2.1
theorem dX11_whyOf_102 : decode cX11_whyOf 102 = .ok (.iload 4, 2) := eX11_whyOf_98q.2.2.1
theorem dX11_whyOf_104 : decode cX11_whyOf 104 = .ok (.iaload, 1) := eX11_whyOf_98q.2.2.2.1
theorem dX11_whyOf_105 : decode cX11_whyOf 105 = .ok (.iconst 1, 1) := eX11_whyOf_98q.2.2.2.2.1
theorem dX11_whyOf_106 : decode cX11_whyOf 106 = .ok (.iand, 1) := eX11_whyOf_98q.2.2.2.2.2.1
theorem dX11_whyOf_107 : decode cX11_whyOf 107 = .ok (.iconst 1, 1) := eX11_whyOf_98q.2.2.2.2.2.2.1
theorem dX11_whyOf_108 : decode cX11_whyOf 108 = .ok (.if_icmp .ne 7, 3) := eX11_whyOf_98q.2.2.2.2.2.2.2
theorem eX11_whyOf_111q : (decode cX11_whyOf 111 = .ok (.iconst 1, 1)) ∧ (decode cX11_whyOf 112 = .ok (.goto 4, 3)) ∧ (decode cX11_whyOf 115 = .ok (.iconst 0, 1)) ∧ (decode cX11_whyOf 116 = .ok (.istore_n 3, 1)) ∧ (decode cX11_whyOf 117 = .ok (.iinc 4 1, 3)) ∧ (decode cX11_whyOf 120 = .ok (.goto (-58), 3)) ∧ (decode cX11_whyOf 123 = .ok (.iload_n 2, 1)) ∧ (decode cX11_whyOf 124 = .ok (.ifCond .eq 7, 3)) := by decide +kernel
theorem dX11_whyOf_111 : decode cX11_whyOf 111 = .ok (.iconst 1, 1) := eX11_whyOf_111q.1
theorem dX11_whyOf_112 : decode cX11_whyOf 112 = .ok (.goto 4, 3) := eX11_whyOf_111q.2.1
theorem dX11_whyOf_115 : decode cX11_whyOf 115 = .ok (.iconst 0, 1) := eX11_whyOf_111q.2.2.1
theorem dX11_whyOf_116 : decode cX11_whyOf 116 = .ok (.istore_n 3, 1) := eX11_whyOf_111q.2.2.2.1
theorem dX11_whyOf_117 : decode cX11_whyOf 117 = .ok (.iinc 4 1, 3) := eX11_whyOf_111q.2.2.2.2.1
theorem dX11_whyOf_120 : decode cX11_whyOf 120 = .ok (.goto (-58), 3) := eX11_whyOf_111q.2.2.2.2.2.1
theorem dX11_whyOf_123 : decode cX11_whyOf 123 = .ok (.iload_n 2, 1) := eX11_whyOf_111q.2.2.2.2.2.2.1
theorem dX11_whyOf_124 : decode cX11_whyOf 124 = .ok (.ifCond .eq 7, 3) := eX11_whyOf_111q.2.2.2.2.2.2.2
theorem eX11_whyOf_127q : (decode cX11_whyOf 127 = .ok (.iconst 1, 1)) ∧ (decode cX11_whyOf 128 = .ok (.goto 12, 3)) ∧ (decode cX11_whyOf 131 = .ok (.iload_n 3, 1)) ∧ (decode cX11_whyOf 132 = .ok (.ifCond .eq 7, 3)) ∧ (decode cX11_whyOf 135 = .ok (.iconst 2, 1)) ∧ (decode cX11_whyOf 136 = .ok (.goto 4, 3)) ∧ (decode cX11_whyOf 139 = .ok (.iconst 3, 1)) ∧ (decode cX11_whyOf 140 = .ok (.ireturn, 1)) := by decide +kernel
theorem dX11_whyOf_127 : decode cX11_whyOf 127 = .ok (.iconst 1, 1) := eX11_whyOf_127q.1
theorem dX11_whyOf_128 : decode cX11_whyOf 128 = .ok (.goto 12, 3) := eX11_whyOf_127q.2.1
theorem dX11_whyOf_131 : decode cX11_whyOf 131 = .ok (.iload_n 3, 1) := eX11_whyOf_127q.2.2.1
theorem dX11_whyOf_132 : decode cX11_whyOf 132 = .ok (.ifCond .eq 7, 3) := eX11_whyOf_127q.2.2.2.1
theorem dX11_whyOf_135 : decode cX11_whyOf 135 = .ok (.iconst 2, 1) := eX11_whyOf_127q.2.2.2.2.1
theorem dX11_whyOf_136 : decode cX11_whyOf 136 = .ok (.goto 4, 3) := eX11_whyOf_127q.2.2.2.2.2.1
theorem dX11_whyOf_139 : decode cX11_whyOf 139 = .ok (.iconst 3, 1) := eX11_whyOf_127q.2.2.2.2.2.2.1
theorem dX11_whyOf_140 : decode cX11_whyOf 140 = .ok (.ireturn, 1) := eX11_whyOf_127q.2.2.2.2.2.2.2
theorem eX11_draw_0q : (decode cX11_draw 0 = .ok (.aload_n 0, 1)) ∧ (decode cX11_draw 1 = .ok (.aload_n 0, 1)) ∧ (decode cX11_draw 2 = .ok (.getfield 460, 3)) ∧ (decode cX11_draw 5 = .ok (.ldc_w 463, 3)) ∧ (decode cX11_draw 8 = .ok (.imul, 1)) ∧ (decode cX11_draw 9 = .ok (.sipush 12345, 3)) ∧ (decode cX11_draw 12 = .ok (.iadd, 1)) ∧ (decode cX11_draw 13 = .ok (.putfield 460, 3)) := by decide +kernel
theorem dX11_draw_0 : decode cX11_draw 0 = .ok (.aload_n 0, 1) := eX11_draw_0q.1
theorem dX11_draw_1 : decode cX11_draw 1 = .ok (.aload_n 0, 1) := eX11_draw_0q.2.1
theorem dX11_draw_2 : decode cX11_draw 2 = .ok (.getfield 460, 3) := eX11_draw_0q.2.2.1
theorem dX11_draw_5 : decode cX11_draw 5 = .ok (.ldc_w 463, 3) := eX11_draw_0q.2.2.2.1
theorem dX11_draw_8 : decode cX11_draw 8 = .ok (.imul, 1) := eX11_draw_0q.2.2.2.2.1
theorem dX11_draw_9 : decode cX11_draw 9 = .ok (.sipush 12345, 3) := eX11_draw_0q.2.2.2.2.2.1
theorem dX11_draw_12 : decode cX11_draw 12 = .ok (.iadd, 1) := eX11_draw_0q.2.2.2.2.2.2.1
theorem dX11_draw_13 : decode cX11_draw 13 = .ok (.putfield 460, 3) := eX11_draw_0q.2.2.2.2.2.2.2
theorem eX11_draw_16q : (decode cX11_draw 16 = .ok (.aload_n 0, 1)) ∧ (decode cX11_draw 17 = .ok (.getfield 460, 3)) ∧ (decode cX11_draw 20 = .ok (.bipush 16, 2)) ∧ (decode cX11_draw 22 = .ok (.ishr, 1)) ∧ (decode cX11_draw 23 = .ok (.sipush 32767, 3)) ∧ (decode cX11_draw 26 = .ok (.iand, 1)) ∧ (decode cX11_draw 27 = .ok (.iload_n 1, 1)) ∧ (decode cX11_draw 28 = .ok (.irem, 1)) := by decide +kernel
theorem dX11_draw_16 : decode cX11_draw 16 = .ok (.aload_n 0, 1) := eX11_draw_16q.1
theorem dX11_draw_17 : decode cX11_draw 17 = .ok (.getfield 460, 3) := eX11_draw_16q.2.1
theorem dX11_draw_20 : decode cX11_draw 20 = .ok (.bipush 16, 2) := eX11_draw_16q.2.2.1
theorem dX11_draw_22 : decode cX11_draw 22 = .ok (.ishr, 1) := eX11_draw_16q.2.2.2.1
theorem dX11_draw_23 : decode cX11_draw 23 = .ok (.sipush 32767, 3) := eX11_draw_16q.2.2.2.2.1
theorem dX11_draw_26 : decode cX11_draw 26 = .ok (.iand, 1) := eX11_draw_16q.2.2.2.2.2.1
theorem dX11_draw_27 : decode cX11_draw 27 = .ok (.iload_n 1, 1) := eX11_draw_16q.2.2.2.2.2.2.1
theorem dX11_draw_28 : decode cX11_draw 28 = .ok (.irem, 1) := eX11_draw_16q.2.2.2.2.2.2.2
theorem dX11_draw_29 : decode cX11_draw 29 = .ok (.ireturn, 1) := by decide +kernel
