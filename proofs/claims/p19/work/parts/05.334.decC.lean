theorem eX6_stepCounter_0q : (decode cX6_stepCounter 0 = .ok (.aload_n 0, 1)) ∧ (decode cX6_stepCounter 1 = .ok (.getfield 19, 3)) ∧ (decode cX6_stepCounter 4 = .ok (.getfield 94, 3)) ∧ (decode cX6_stepCounter 7 = .ok (.iload_n 1, 1)) ∧ (decode cX6_stepCounter 8 = .ok (.aload_n 0, 1)) ∧ (decode cX6_stepCounter 9 = .ok (.getfield 19, 3)) ∧ (decode cX6_stepCounter 12 = .ok (.getfield 94, 3)) ∧ (decode cX6_stepCounter 15 = .ok (.iload_n 1, 1)) := by decide +kernel
theorem dX6_stepCounter_0 : decode cX6_stepCounter 0 = .ok (.aload_n 0, 1) := eX6_stepCounter_0q.1
theorem dX6_stepCounter_1 : decode cX6_stepCounter 1 = .ok (.getfield 19, 3) := eX6_stepCounter_0q.2.1
theorem dX6_stepCounter_4 : decode cX6_stepCounter 4 = .ok (.getfield 94, 3) := eX6_stepCounter_0q.2.2.1
theorem dX6_stepCounter_7 : decode cX6_stepCounter 7 = .ok (.iload_n 1, 1) := eX6_stepCounter_0q.2.2.2.1
theorem dX6_stepCounter_8 : decode cX6_stepCounter 8 = .ok (.aload_n 0, 1) := eX6_stepCounter_0q.2.2.2.2.1
theorem dX6_stepCounter_9 : decode cX6_stepCounter 9 = .ok (.getfield 19, 3) := eX6_stepCounter_0q.2.2.2.2.2.1
theorem dX6_stepCounter_12 : decode cX6_stepCounter 12 = .ok (.getfield 94, 3) := eX6_stepCounter_0q.2.2.2.2.2.2.1
theorem dX6_stepCounter_15 : decode cX6_stepCounter 15 = .ok (.iload_n 1, 1) := eX6_stepCounter_0q.2.2.2.2.2.2.2
theorem eX6_stepCounter_16q : (decode cX6_stepCounter 16 = .ok (.iaload, 1)) ∧ (decode cX6_stepCounter 17 = .ok (.aload_n 0, 1)) ∧ (decode cX6_stepCounter 18 = .ok (.getfield 15, 3)) ∧ (decode cX6_stepCounter 21 = .ok (.getfield 97, 3)) ∧ (decode cX6_stepCounter 24 = .ok (.iload_n 1, 1)) ∧ (decode cX6_stepCounter 25 = .ok (.iaload, 1)) ∧ (decode cX6_stepCounter 26 = .ok (.iadd, 1)) ∧ (decode cX6_stepCounter 27 = .ok (.sipush 256, 3)) := by decide +kernel
theorem dX6_stepCounter_16 : decode cX6_stepCounter 16 = .ok (.iaload, 1) := eX6_stepCounter_16q.1
theorem dX6_stepCounter_17 : decode cX6_stepCounter 17 = .ok (.aload_n 0, 1) := eX6_stepCounter_16q.2.1
theorem dX6_stepCounter_18 : decode cX6_stepCounter 18 = .ok (.getfield 15, 3) := eX6_stepCounter_16q.2.2.1
theorem dX6_stepCounter_21 : decode cX6_stepCounter 21 = .ok (.getfield 97, 3) := eX6_stepCounter_16q.2.2.2.1
theorem dX6_stepCounter_24 : decode cX6_stepCounter 24 = .ok (.iload_n 1, 1) := eX6_stepCounter_16q.2.2.2.2.1
theorem dX6_stepCounter_25 : decode cX6_stepCounter 25 = .ok (.iaload, 1) := eX6_stepCounter_16q.2.2.2.2.2.1
theorem dX6_stepCounter_26 : decode cX6_stepCounter 26 = .ok (.iadd, 1) := eX6_stepCounter_16q.2.2.2.2.2.2.1
theorem dX6_stepCounter_27 : decode cX6_stepCounter 27 = .ok (.sipush 256, 3) := eX6_stepCounter_16q.2.2.2.2.2.2.2
theorem eX6_stepCounter_30q : (decode cX6_stepCounter 30 = .ok (.irem, 1)) ∧ (decode cX6_stepCounter 31 = .ok (.iastore, 1)) ∧ (decode cX6_stepCounter 32 = .ok (.aload_n 0, 1)) ∧ (decode cX6_stepCounter 33 = .ok (.getfield 19, 3)) ∧ (decode cX6_stepCounter 36 = .ok (.getfield 94, 3)) ∧ (decode cX6_stepCounter 39 = .ok (.iload_n 1, 1)) ∧ (decode cX6_stepCounter 40 = .ok (.iaload, 1)) ∧ (decode cX6_stepCounter 41 = .ok (.ireturn, 1)) := by decide +kernel
theorem dX6_stepCounter_30 : decode cX6_stepCounter 30 = .ok (.irem, 1) := eX6_stepCounter_30q.1
theorem dX6_stepCounter_31 : decode cX6_stepCounter 31 = .ok (.iastore, 1) := eX6_stepCounter_30q.2.1
theorem dX6_stepCounter_32 : decode cX6_stepCounter 32 = .ok (.aload_n 0, 1) := eX6_stepCounter_30q.2.2.1
theorem dX6_stepCounter_33 : decode cX6_stepCounter 33 = .ok (.getfield 19, 3) := eX6_stepCounter_30q.2.2.2.1
theorem dX6_stepCounter_36 : decode cX6_stepCounter 36 = .ok (.getfield 94, 3) := eX6_stepCounter_30q.2.2.2.2.1
theorem dX6_stepCounter_39 : decode cX6_stepCounter 39 = .ok (.iload_n 1, 1) := eX6_stepCounter_30q.2.2.2.2.2.1
theorem dX6_stepCounter_40 : decode cX6_stepCounter 40 = .ok (.iaload, 1) := eX6_stepCounter_30q.2.2.2.2.2.2.1
theorem dX6_stepCounter_41 : decode cX6_stepCounter 41 = .ok (.ireturn, 1) := eX6_stepCounter_30q.2.2.2.2.2.2.2
set_option maxRecDepth 20000 in
theorem ggX6_pingOne_X2_routerOf : GoodIn wsX6_pingOne wsX2_routerOf := by
  have h := goodIn_app (goodIn_r (big := wsX6_pingOne) (.code yX2_routerOf cX2_routerOf 2 (some .int) :: ([.fieldLink RX2 37 "PathProber$Net" "links" "I", .fieldLink RX2 27 "PathProber$Net" "to" "[I"]) : List Cond) [6, 7, 8] rfl (by decide +kernel)) (goodIn_few (big := wsX6_pingOne) (fun _ h9 => List.mem_cons_of_mem _ (List.mem_append_left _ (List.mem_append_right _ h9))) gb_2)
  exact h
set_option maxRecDepth 20000 in
theorem gX6_pingOne_X2_routerOf : GoodIn wsX6_pingOne (wsV RX6 100 RX2 yX2_routerOf wsX2_routerOf) := goodIn_app (goodIn_r _ [2, 3, 4, 5] rfl (by decide +kernel)) ggX6_pingOne_X2_routerOf
set_option maxRecDepth 20000 in
theorem ggX6_pingOne_X6_stepCounter : GoodIn wsX6_pingOne wsX6_stepCounter := by
  have h := goodIn_app (goodIn_app (goodIn_app (goodIn_r (big := wsX6_pingOne) (.code yX6_stepCounter cX6_stepCounter 2 (some .int) :: ([.fieldLink RX6 19 "PathProber$Sender" "now" "LPathProber$Condition;", .fieldLink RX6 94 "PathProber$Condition" "counter" "[I", .fieldLink RX6 15 "PathProber$Sender" "net" "LPathProber$Net;", .fieldLink RX6 97 "PathProber$Net" "pace" "[I"]) : List Cond) [13, 14, 15, 1, 16] rfl (by decide +kernel)) (goodIn_few (big := wsX6_pingOne) (fun _ h9 => List.mem_cons_of_mem _ (List.mem_append_left _ (List.mem_append_left _ (List.mem_append_right _ h9)))) gb_6)) (goodIn_few (big := wsX6_pingOne) (fun _ h9 => List.mem_cons_of_mem _ (List.mem_append_right _ h9)) gb_1)) (goodIn_few (big := wsX6_pingOne) (fun _ h9 => List.mem_cons_of_mem _ (List.mem_append_left _ (List.mem_append_right _ h9))) gb_2)
  exact h
set_option maxRecDepth 20000 in
theorem gX6_pingOne_X6_stepCounter : GoodIn wsX6_pingOne (wsV RX6 65 RX6 yX6_stepCounter wsX6_stepCounter) := goodIn_app (goodIn_r _ [9, 10, 11, 12] rfl (by decide +kernel)) ggX6_pingOne_X6_stepCounter
theorem eX6_pingOne_0q : (decode cX6_pingOne 0 = .ok (.aload_n 0, 1)) ∧ (decode cX6_pingOne 1 = .ok (.aload_n 0, 1)) ∧ (decode cX6_pingOne 2 = .ok (.getfield 15, 3)) ∧ (decode cX6_pingOne 5 = .ok (.iload_n 1, 1)) ∧ (decode cX6_pingOne 6 = .ok (.invokevirtual 100, 3)) ∧ (decode cX6_pingOne 9 = .ok (.invokevirtual 65, 3)) ∧ (decode cX6_pingOne 12 = .ok (.ireturn, 1)) := by decide +kernel
theorem dX6_pingOne_0 : decode cX6_pingOne 0 = .ok (.aload_n 0, 1) := eX6_pingOne_0q.1
theorem dX6_pingOne_1 : decode cX6_pingOne 1 = .ok (.aload_n 0, 1) := eX6_pingOne_0q.2.1
theorem dX6_pingOne_2 : decode cX6_pingOne 2 = .ok (.getfield 15, 3) := eX6_pingOne_0q.2.2.1
theorem dX6_pingOne_5 : decode cX6_pingOne 5 = .ok (.iload_n 1, 1) := eX6_pingOne_0q.2.2.2.1
theorem dX6_pingOne_6 : decode cX6_pingOne 6 = .ok (.invokevirtual 100, 3) := eX6_pingOne_0q.2.2.2.2.1
theorem dX6_pingOne_9 : decode cX6_pingOne 9 = .ok (.invokevirtual 65, 3) := eX6_pingOne_0q.2.2.2.2.2.1
theorem dX6_pingOne_12 : decode cX6_pingOne 12 = .ok (.ireturn, 1) := eX6_pingOne_0q.2.2.2.2.2.2
set_option maxRecDepth 20000 in
theorem ggX7_widthAt_X0_seenAt : GoodIn wsX7_widthAt wsX0_seenAt := by
  have h := goodIn_app (goodIn_r (big := wsX7_widthAt) (.code yX0_seenAt cX0_seenAt 6 (some .int) :: ([.fieldLink RX0 9 "PathProber$Condition" "seen" "[J", .constantLong RX0 53 (31)]) : List Cond) [6, 7, 8] rfl (by decide +kernel)) (goodIn_few (big := wsX7_widthAt) (fun _ h9 => List.mem_cons_of_mem _ (List.mem_append_right _ h9)) gb_1)
  exact h
set_option maxRecDepth 20000 in
theorem gX7_widthAt_X0_seenAt : GoodIn wsX7_widthAt (wsV RX7 29 RX0 yX0_seenAt wsX0_seenAt) := goodIn_app (goodIn_r _ [2, 3, 4, 5] rfl (by decide +kernel)) ggX7_widthAt_X0_seenAt
set_option maxRecDepth 20000 in
theorem ggX7_widthAt_J6_bitCount_0f7a4 : GoodIn wsX7_widthAt wsJ6_bitCount_0f7a4 := goodIn_r _ [12, 13, 14, 15] rfl (by decide +kernel)
set_option maxRecDepth 20000 in
theorem gX7_widthAt_J6_bitCount_0f7a4 : GoodIn wsX7_widthAt (va_wsS RX7 35 yJ6_bitCount_0f7a4 wsJ6_bitCount_0f7a4) := goodIn_app (goodIn_r _ [9, 10, 11] rfl (by decide +kernel)) ggX7_widthAt_J6_bitCount_0f7a4
theorem eX7_widthAt_0q : (decode cX7_widthAt 0 = .ok (.aload_n 0, 1)) ∧ (decode cX7_widthAt 1 = .ok (.getfield 25, 3)) ∧ (decode cX7_widthAt 4 = .ok (.iload_n 1, 1)) ∧ (decode cX7_widthAt 5 = .ok (.iload_n 2, 1)) ∧ (decode cX7_widthAt 6 = .ok (.invokevirtual 29, 3)) ∧ (decode cX7_widthAt 9 = .ok (.invokestatic 35, 3)) ∧ (decode cX7_widthAt 12 = .ok (.ireturn, 1)) := by decide +kernel
theorem dX7_widthAt_0 : decode cX7_widthAt 0 = .ok (.aload_n 0, 1) := eX7_widthAt_0q.1
theorem dX7_widthAt_1 : decode cX7_widthAt 1 = .ok (.getfield 25, 3) := eX7_widthAt_0q.2.1
theorem dX7_widthAt_4 : decode cX7_widthAt 4 = .ok (.iload_n 1, 1) := eX7_widthAt_0q.2.2.1
theorem dX7_widthAt_5 : decode cX7_widthAt 5 = .ok (.iload_n 2, 1) := eX7_widthAt_0q.2.2.2.1
theorem dX7_widthAt_6 : decode cX7_widthAt 6 = .ok (.invokevirtual 29, 3) := eX7_widthAt_0q.2.2.2.2.1
theorem dX7_widthAt_9 : decode cX7_widthAt 9 = .ok (.invokestatic 35, 3) := eX7_widthAt_0q.2.2.2.2.2.1
theorem dX7_widthAt_12 : decode cX7_widthAt 12 = .ok (.ireturn, 1) := eX7_widthAt_0q.2.2.2.2.2.2
set_option maxRecDepth 20000 in
theorem ggX7_addressesEverywhere_X0_seenAt : GoodIn wsX7_addressesEverywhere wsX0_seenAt := by
  have h := goodIn_app (goodIn_r (big := wsX7_addressesEverywhere) (.code yX0_seenAt cX0_seenAt 6 (some .int) :: ([.fieldLink RX0 9 "PathProber$Condition" "seen" "[J", .constantLong RX0 53 (31)]) : List Cond) [8, 9, 10] rfl (by decide +kernel)) (goodIn_few (big := wsX7_addressesEverywhere) (fun _ h9 => List.mem_cons_of_mem _ (List.mem_append_right _ h9)) gb_1)
  exact h
set_option maxRecDepth 20000 in
theorem gX7_addressesEverywhere_X0_seenAt : GoodIn wsX7_addressesEverywhere (wsV RX7 29 RX0 yX0_seenAt wsX0_seenAt) := goodIn_app (goodIn_r _ [4, 5, 6, 7] rfl (by decide +kernel)) ggX7_addressesEverywhere_X0_seenAt
theorem eX7_addressesEverywhere_0q : (decode cX7_addressesEverywhere 0 = .ok (.iconst 0, 1)) ∧ (decode cX7_addressesEverywhere 1 = .ok (.istore_n 1, 1)) ∧ (decode cX7_addressesEverywhere 2 = .ok (.iconst 0, 1)) ∧ (decode cX7_addressesEverywhere 3 = .ok (.istore_n 2, 1)) ∧ (decode cX7_addressesEverywhere 4 = .ok (.iload_n 2, 1)) ∧ (decode cX7_addressesEverywhere 5 = .ok (.aload_n 0, 1)) ∧ (decode cX7_addressesEverywhere 6 = .ok (.getfield 21, 3)) ∧ (decode cX7_addressesEverywhere 9 = .ok (.getfield 41, 3)) := by decide +kernel
theorem dX7_addressesEverywhere_0 : decode cX7_addressesEverywhere 0 = .ok (.iconst 0, 1) := eX7_addressesEverywhere_0q.1
theorem dX7_addressesEverywhere_1 : decode cX7_addressesEverywhere 1 = .ok (.istore_n 1, 1) := eX7_addressesEverywhere_0q.2.1
theorem dX7_addressesEverywhere_2 : decode cX7_addressesEverywhere 2 = .ok (.iconst 0, 1) := eX7_addressesEverywhere_0q.2.2.1
theorem dX7_addressesEverywhere_3 : decode cX7_addressesEverywhere 3 = .ok (.istore_n 2, 1) := eX7_addressesEverywhere_0q.2.2.2.1
theorem dX7_addressesEverywhere_4 : decode cX7_addressesEverywhere 4 = .ok (.iload_n 2, 1) := eX7_addressesEverywhere_0q.2.2.2.2.1
theorem dX7_addressesEverywhere_5 : decode cX7_addressesEverywhere 5 = .ok (.aload_n 0, 1) := eX7_addressesEverywhere_0q.2.2.2.2.2.1
theorem dX7_addressesEverywhere_6 : decode cX7_addressesEverywhere 6 = .ok (.getfield 21, 3) := eX7_addressesEverywhere_0q.2.2.2.2.2.2.1
theorem dX7_addressesEverywhere_9 : decode cX7_addressesEverywhere 9 = .ok (.getfield 41, 3) := eX7_addressesEverywhere_0q.2.2.2.2.2.2.2
theorem eX7_addressesEverywhere_12q : (decode cX7_addressesEverywhere 12 = .ok (.if_icmp .ge 35, 3)) ∧ (decode cX7_addressesEverywhere 15 = .ok (.iconst 1, 1)) ∧ (decode cX7_addressesEverywhere 16 = .ok (.istore_n 3, 1)) ∧ (decode cX7_addressesEverywhere 17 = .ok (.iload_n 3, 1)) ∧ (decode cX7_addressesEverywhere 18 = .ok (.bipush 10, 2)) ∧ (decode cX7_addressesEverywhere 20 = .ok (.if_icmp .gt 21, 3)) ∧ (decode cX7_addressesEverywhere 23 = .ok (.iload_n 1, 1)) ∧ (decode cX7_addressesEverywhere 24 = .ok (.aload_n 0, 1)) := by decide +kernel
theorem dX7_addressesEverywhere_12 : decode cX7_addressesEverywhere 12 = .ok (.if_icmp .ge 35, 3) := eX7_addressesEverywhere_12q.1
theorem dX7_addressesEverywhere_15 : decode cX7_addressesEverywhere 15 = .ok (.iconst 1, 1) := eX7_addressesEverywhere_12q.2.1
theorem dX7_addressesEverywhere_16 : decode cX7_addressesEverywhere 16 = .ok (.istore_n 3, 1) := eX7_addressesEverywhere_12q.2.2.1
theorem dX7_addressesEverywhere_17 : decode cX7_addressesEverywhere 17 = .ok (.iload_n 3, 1) := eX7_addressesEverywhere_12q.2.2.2.1
theorem dX7_addressesEverywhere_18 : decode cX7_addressesEverywhere 18 = .ok (.bipush 10, 2) := eX7_addressesEverywhere_12q.2.2.2.2.1
theorem dX7_addressesEverywhere_20 : decode cX7_addressesEverywhere 20 = .ok (.if_icmp .gt 21, 3) := eX7_addressesEverywhere_12q.2.2.2.2.2.1
theorem dX7_addressesEverywhere_23 : decode cX7_addressesEverywhere 23 = .ok (.iload_n 1, 1) := eX7_addressesEverywhere_12q.2.2.2.2.2.2.1
theorem dX7_addressesEverywhere_24 : decode cX7_addressesEverywhere 24 = .ok (.aload_n 0, 1) := eX7_addressesEverywhere_12q.2.2.2.2.2.2.2
theorem eX7_addressesEverywhere_25q : (decode cX7_addressesEverywhere 25 = .ok (.getfield 25, 3)) ∧ (decode cX7_addressesEverywhere 28 = .ok (.iload_n 2, 1)) ∧ (decode cX7_addressesEverywhere 29 = .ok (.iload_n 3, 1)) ∧ (decode cX7_addressesEverywhere 30 = .ok (.invokevirtual 29, 3)) ∧ (decode cX7_addressesEverywhere 33 = .ok (.ior, 1)) ∧ (decode cX7_addressesEverywhere 34 = .ok (.istore_n 1, 1)) ∧ (decode cX7_addressesEverywhere 35 = .ok (.iinc 3 1, 3)) ∧ (decode cX7_addressesEverywhere 38 = .ok (.goto (-21), 3)) := by decide +kernel
theorem dX7_addressesEverywhere_25 : decode cX7_addressesEverywhere 25 = .ok (.getfield 25, 3) := eX7_addressesEverywhere_25q.1
theorem dX7_addressesEverywhere_28 : decode cX7_addressesEverywhere 28 = .ok (.iload_n 2, 1) := eX7_addressesEverywhere_25q.2.1
theorem dX7_addressesEverywhere_29 : decode cX7_addressesEverywhere 29 = .ok (.iload_n 3, 1) := eX7_addressesEverywhere_25q.2.2.1
theorem dX7_addressesEverywhere_30 : decode cX7_addressesEverywhere 30 = .ok (.invokevirtual 29, 3) := eX7_addressesEverywhere_25q.2.2.2.1
theorem dX7_addressesEverywhere_33 : decode cX7_addressesEverywhere 33 = .ok (.ior, 1) := eX7_addressesEverywhere_25q.2.2.2.2.1
theorem dX7_addressesEverywhere_34 : decode cX7_addressesEverywhere 34 = .ok (.istore_n 1, 1) := eX7_addressesEverywhere_25q.2.2.2.2.2.1
theorem dX7_addressesEverywhere_35 : decode cX7_addressesEverywhere 35 = .ok (.iinc 3 1, 3) := eX7_addressesEverywhere_25q.2.2.2.2.2.2.1
theorem dX7_addressesEverywhere_38 : decode cX7_addressesEverywhere 38 = .ok (.goto (-21), 3) := eX7_addressesEverywhere_25q.2.2.2.2.2.2.2
theorem eX7_addressesEverywhere_41q : (decode cX7_addressesEverywhere 41 = .ok (.iinc 2 1, 3)) ∧ (decode cX7_addressesEverywhere 44 = .ok (.goto (-40), 3)) ∧ (decode cX7_addressesEverywhere 47 = .ok (.iload_n 1, 1)) ∧ (decode cX7_addressesEverywhere 48 = .ok (.ireturn, 1)) := by decide +kernel
theorem dX7_addressesEverywhere_41 : decode cX7_addressesEverywhere 41 = .ok (.iinc 2 1, 3) := eX7_addressesEverywhere_41q.1
theorem dX7_addressesEverywhere_44 : decode cX7_addressesEverywhere 44 = .ok (.goto (-40), 3) := eX7_addressesEverywhere_41q.2.1
theorem dX7_addressesEverywhere_47 : decode cX7_addressesEverywhere 47 = .ok (.iload_n 1, 1) := eX7_addressesEverywhere_41q.2.2.1
theorem dX7_addressesEverywhere_48 : decode cX7_addressesEverywhere 48 = .ok (.ireturn, 1) := eX7_addressesEverywhere_41q.2.2.2
set_option maxRecDepth 20000 in
theorem ggX7_drawEdges_X0_seenBy : GoodIn wsX7_drawEdges wsX0_seenBy := by
  have h := goodIn_app (goodIn_r (big := wsX7_drawEdges) (.code yX0_seenBy cX0_seenBy 6 (some .int) :: ([.fieldLink RX0 9 "PathProber$Condition" "seen" "[J", .constantLong RX0 53 (31)]) : List Cond) [7, 8, 9] rfl (by decide +kernel)) (goodIn_few (big := wsX7_drawEdges) (fun _ h9 => List.mem_cons_of_mem _ (List.mem_append_right _ h9)) gb_1)
  exact h
set_option maxRecDepth 20000 in
theorem gX7_drawEdges_X0_seenBy : GoodIn wsX7_drawEdges (wsV RX7 47 RX0 yX0_seenBy wsX0_seenBy) := goodIn_app (goodIn_r _ [3, 4, 5, 6] rfl (by decide +kernel)) ggX7_drawEdges_X0_seenBy
theorem eX7_drawEdges_0q : (decode cX7_drawEdges 0 = .ok (.iconst 0, 1)) ∧ (decode cX7_drawEdges 1 = .ok (.istore_n 3, 1)) ∧ (decode cX7_drawEdges 2 = .ok (.iload_n 3, 1)) ∧ (decode cX7_drawEdges 3 = .ok (.bipush 21, 2)) ∧ (decode cX7_drawEdges 5 = .ok (.if_icmp .ge 16, 3)) ∧ (decode cX7_drawEdges 8 = .ok (.aload_n 0, 1)) ∧ (decode cX7_drawEdges 9 = .ok (.getfield 9, 3)) ∧ (decode cX7_drawEdges 12 = .ok (.iload_n 3, 1)) := by decide +kernel
theorem dX7_drawEdges_0 : decode cX7_drawEdges 0 = .ok (.iconst 0, 1) := eX7_drawEdges_0q.1
theorem dX7_drawEdges_1 : decode cX7_drawEdges 1 = .ok (.istore_n 3, 1) := eX7_drawEdges_0q.2.1
theorem dX7_drawEdges_2 : decode cX7_drawEdges 2 = .ok (.iload_n 3, 1) := eX7_drawEdges_0q.2.2.1
theorem dX7_drawEdges_3 : decode cX7_drawEdges 3 = .ok (.bipush 21, 2) := eX7_drawEdges_0q.2.2.2.1
theorem dX7_drawEdges_5 : decode cX7_drawEdges 5 = .ok (.if_icmp .ge 16, 3) := eX7_drawEdges_0q.2.2.2.2.1
theorem dX7_drawEdges_8 : decode cX7_drawEdges 8 = .ok (.aload_n 0, 1) := eX7_drawEdges_0q.2.2.2.2.2.1
theorem dX7_drawEdges_9 : decode cX7_drawEdges 9 = .ok (.getfield 9, 3) := eX7_drawEdges_0q.2.2.2.2.2.2.1
theorem dX7_drawEdges_12 : decode cX7_drawEdges 12 = .ok (.iload_n 3, 1) := eX7_drawEdges_0q.2.2.2.2.2.2.2
theorem eX7_drawEdges_13q : (decode cX7_drawEdges 13 = .ok (.iconst 0, 1)) ∧ (decode cX7_drawEdges 14 = .ok (.iastore, 1)) ∧ (decode cX7_drawEdges 15 = .ok (.iinc 3 1, 3)) ∧ (decode cX7_drawEdges 18 = .ok (.goto (-16), 3)) ∧ (decode cX7_drawEdges 21 = .ok (.iload_n 2, 1)) ∧ (decode cX7_drawEdges 22 = .ok (.bipush 10, 2)) ∧ (decode cX7_drawEdges 24 = .ok (.if_icmp .lt 4, 3)) ∧ (decode cX7_drawEdges 27 = .ok (.return_, 1)) := by decide +kernel
theorem dX7_drawEdges_13 : decode cX7_drawEdges 13 = .ok (.iconst 0, 1) := eX7_drawEdges_13q.1
theorem dX7_drawEdges_14 : decode cX7_drawEdges 14 = .ok (.iastore, 1) := eX7_drawEdges_13q.2.1
theorem dX7_drawEdges_15 : decode cX7_drawEdges 15 = .ok (.iinc 3 1, 3) := eX7_drawEdges_13q.2.2.1
theorem dX7_drawEdges_18 : decode cX7_drawEdges 18 = .ok (.goto (-16), 3) := eX7_drawEdges_13q.2.2.2.1
theorem dX7_drawEdges_21 : decode cX7_drawEdges 21 = .ok (.iload_n 2, 1) := eX7_drawEdges_13q.2.2.2.2.1
theorem dX7_drawEdges_22 : decode cX7_drawEdges 22 = .ok (.bipush 10, 2) := eX7_drawEdges_13q.2.2.2.2.2.1
theorem dX7_drawEdges_24 : decode cX7_drawEdges 24 = .ok (.if_icmp .lt 4, 3) := eX7_drawEdges_13q.2.2.2.2.2.2.1
theorem dX7_drawEdges_27 : decode cX7_drawEdges 27 = .ok (.return_, 1) := eX7_drawEdges_13q.2.2.2.2.2.2.2
theorem eX7_drawEdges_28q : (decode cX7_drawEdges 28 = .ok (.iconst 0, 1)) ∧ (decode cX7_drawEdges 29 = .ok (.istore_n 3, 1)) ∧ (decode cX7_drawEdges 30 = .ok (.iload_n 3, 1)) ∧ (decode cX7_drawEdges 31 = .ok (.bipush 32, 2)) ∧ (decode cX7_drawEdges 33 = .ok (.if_icmp .ge 68, 3)) ∧ (decode cX7_drawEdges 36 = .ok (.aload_n 0, 1)) ∧ (decode cX7_drawEdges 37 = .ok (.getfield 25, 3)) ∧ (decode cX7_drawEdges 40 = .ok (.iload_n 3, 1)) := by decide +kernel
theorem dX7_drawEdges_28 : decode cX7_drawEdges 28 = .ok (.iconst 0, 1) := eX7_drawEdges_28q.1
theorem dX7_drawEdges_29 : decode cX7_drawEdges 29 = .ok (.istore_n 3, 1) := eX7_drawEdges_28q.2.1
theorem dX7_drawEdges_30 : decode cX7_drawEdges 30 = .ok (.iload_n 3, 1) := eX7_drawEdges_28q.2.2.1
theorem dX7_drawEdges_31 : decode cX7_drawEdges 31 = .ok (.bipush 32, 2) := eX7_drawEdges_28q.2.2.2.1
theorem dX7_drawEdges_33 : decode cX7_drawEdges 33 = .ok (.if_icmp .ge 68, 3) := eX7_drawEdges_28q.2.2.2.2.1
theorem dX7_drawEdges_36 : decode cX7_drawEdges 36 = .ok (.aload_n 0, 1) := eX7_drawEdges_28q.2.2.2.2.2.1
theorem dX7_drawEdges_37 : decode cX7_drawEdges 37 = .ok (.getfield 25, 3) := eX7_drawEdges_28q.2.2.2.2.2.2.1
theorem dX7_drawEdges_40 : decode cX7_drawEdges 40 = .ok (.iload_n 3, 1) := eX7_drawEdges_28q.2.2.2.2.2.2.2
theorem eX7_drawEdges_41q : (decode cX7_drawEdges 41 = .ok (.iload_n 1, 1)) ∧ (decode cX7_drawEdges 42 = .ok (.iload_n 2, 1)) ∧ (decode cX7_drawEdges 43 = .ok (.invokevirtual 47, 3)) ∧ (decode cX7_drawEdges 46 = .ok (.istore 4, 2)) ∧ (decode cX7_drawEdges 48 = .ok (.aload_n 0, 1)) ∧ (decode cX7_drawEdges 49 = .ok (.getfield 25, 3)) ∧ (decode cX7_drawEdges 52 = .ok (.iload_n 3, 1)) ∧ (decode cX7_drawEdges 53 = .ok (.iload_n 1, 1)) := by decide +kernel
theorem dX7_drawEdges_41 : decode cX7_drawEdges 41 = .ok (.iload_n 1, 1) := eX7_drawEdges_41q.1
theorem dX7_drawEdges_42 : decode cX7_drawEdges 42 = .ok (.iload_n 2, 1) := eX7_drawEdges_41q.2.1
theorem dX7_drawEdges_43 : decode cX7_drawEdges 43 = .ok (.invokevirtual 47, 3) := eX7_drawEdges_41q.2.2.1
theorem dX7_drawEdges_46 : decode cX7_drawEdges 46 = .ok (.istore 4, 2) := eX7_drawEdges_41q.2.2.2.1
theorem dX7_drawEdges_48 : decode cX7_drawEdges 48 = .ok (.aload_n 0, 1) := eX7_drawEdges_41q.2.2.2.2.1
theorem dX7_drawEdges_49 : decode cX7_drawEdges 49 = .ok (.getfield 25, 3) := eX7_drawEdges_41q.2.2.2.2.2.1
theorem dX7_drawEdges_52 : decode cX7_drawEdges 52 = .ok (.iload_n 3, 1) := eX7_drawEdges_41q.2.2.2.2.2.2.1
theorem dX7_drawEdges_53 : decode cX7_drawEdges 53 = .ok (.iload_n 1, 1) := eX7_drawEdges_41q.2.2.2.2.2.2.2
theorem eX7_drawEdges_54q : (decode cX7_drawEdges 54 = .ok (.iload_n 2, 1)) ∧ (decode cX7_drawEdges 55 = .ok (.iconst 1, 1)) ∧ (decode cX7_drawEdges 56 = .ok (.iadd, 1)) ∧ (decode cX7_drawEdges 57 = .ok (.invokevirtual 47, 3)) ∧ (decode cX7_drawEdges 60 = .ok (.istore 5, 2)) ∧ (decode cX7_drawEdges 62 = .ok (.iload 4, 2)) ∧ (decode cX7_drawEdges 64 = .ok (.iconst (-1), 1)) ∧ (decode cX7_drawEdges 65 = .ok (.if_icmp .eq 30, 3)) := by decide +kernel
theorem dX7_drawEdges_54 : decode cX7_drawEdges 54 = .ok (.iload_n 2, 1) := eX7_drawEdges_54q.1
theorem dX7_drawEdges_55 : decode cX7_drawEdges 55 = .ok (.iconst 1, 1) := eX7_drawEdges_54q.2.1
theorem dX7_drawEdges_56 : decode cX7_drawEdges 56 = .ok (.iadd, 1) := eX7_drawEdges_54q.2.2.1
theorem dX7_drawEdges_57 : decode cX7_drawEdges 57 = .ok (.invokevirtual 47, 3) := eX7_drawEdges_54q.2.2.2.1
theorem dX7_drawEdges_60 : decode cX7_drawEdges 60 = .ok (.istore 5, 2) := eX7_drawEdges_54q.2.2.2.2.1
theorem dX7_drawEdges_62 : decode cX7_drawEdges 62 = .ok (.iload 4, 2) := eX7_drawEdges_54q.2.2.2.2.2.1
theorem dX7_drawEdges_64 : decode cX7_drawEdges 64 = .ok (.iconst (-1), 1) := eX7_drawEdges_54q.2.2.2.2.2.2.1
theorem dX7_drawEdges_65 : decode cX7_drawEdges 65 = .ok (.if_icmp .eq 30, 3) := eX7_drawEdges_54q.2.2.2.2.2.2.2
theorem eX7_drawEdges_68q : (decode cX7_drawEdges 68 = .ok (.iload 5, 2)) ∧ (decode cX7_drawEdges 70 = .ok (.iconst (-1), 1)) ∧ (decode cX7_drawEdges 71 = .ok (.if_icmp .eq 24, 3)) ∧ (decode cX7_drawEdges 74 = .ok (.iload 4, 2)) ∧ (decode cX7_drawEdges 76 = .ok (.iload 5, 2)) ∧ (decode cX7_drawEdges 78 = .ok (.if_icmp .eq 17, 3)) ∧ (decode cX7_drawEdges 81 = .ok (.aload_n 0, 1)) ∧ (decode cX7_drawEdges 82 = .ok (.getfield 9, 3)) := by decide +kernel
theorem dX7_drawEdges_68 : decode cX7_drawEdges 68 = .ok (.iload 5, 2) := eX7_drawEdges_68q.1
theorem dX7_drawEdges_70 : decode cX7_drawEdges 70 = .ok (.iconst (-1), 1) := eX7_drawEdges_68q.2.1
theorem dX7_drawEdges_71 : decode cX7_drawEdges 71 = .ok (.if_icmp .eq 24, 3) := eX7_drawEdges_68q.2.2.1
theorem dX7_drawEdges_74 : decode cX7_drawEdges 74 = .ok (.iload 4, 2) := eX7_drawEdges_68q.2.2.2.1
theorem dX7_drawEdges_76 : decode cX7_drawEdges 76 = .ok (.iload 5, 2) := eX7_drawEdges_68q.2.2.2.2.1
theorem dX7_drawEdges_78 : decode cX7_drawEdges 78 = .ok (.if_icmp .eq 17, 3) := eX7_drawEdges_68q.2.2.2.2.2.1
theorem dX7_drawEdges_81 : decode cX7_drawEdges 81 = .ok (.aload_n 0, 1) := eX7_drawEdges_68q.2.2.2.2.2.2.1
theorem dX7_drawEdges_82 : decode cX7_drawEdges 82 = .ok (.getfield 9, 3) := eX7_drawEdges_68q.2.2.2.2.2.2.2
theorem eX7_drawEdges_85q : (decode cX7_drawEdges 85 = .ok (.iload 4, 2)) ∧ (decode cX7_drawEdges 87 = .ok (.dup2, 1)) ∧ (decode cX7_drawEdges 88 = .ok (.iaload, 1)) ∧ (decode cX7_drawEdges 89 = .ok (.iconst 1, 1)) ∧ (decode cX7_drawEdges 90 = .ok (.iload 5, 2)) ∧ (decode cX7_drawEdges 92 = .ok (.ishl, 1)) ∧ (decode cX7_drawEdges 93 = .ok (.ior, 1)) ∧ (decode cX7_drawEdges 94 = .ok (.iastore, 1)) := by decide +kernel
theorem dX7_drawEdges_85 : decode cX7_drawEdges 85 = .ok (.iload 4, 2) := eX7_drawEdges_85q.1
theorem dX7_drawEdges_87 : decode cX7_drawEdges 87 = .ok (.dup2, 1) := eX7_drawEdges_85q.2.1
theorem dX7_drawEdges_88 : decode cX7_drawEdges 88 = .ok (.iaload, 1) := eX7_drawEdges_85q.2.2.1
theorem dX7_drawEdges_89 : decode cX7_drawEdges 89 = .ok (.iconst 1, 1) := eX7_drawEdges_85q.2.2.2.1
theorem dX7_drawEdges_90 : decode cX7_drawEdges 90 = .ok (.iload 5, 2) := eX7_drawEdges_85q.2.2.2.2.1
theorem dX7_drawEdges_92 : decode cX7_drawEdges 92 = .ok (.ishl, 1) := eX7_drawEdges_85q.2.2.2.2.2.1
theorem dX7_drawEdges_93 : decode cX7_drawEdges 93 = .ok (.ior, 1) := eX7_drawEdges_85q.2.2.2.2.2.2.1
theorem dX7_drawEdges_94 : decode cX7_drawEdges 94 = .ok (.iastore, 1) := eX7_drawEdges_85q.2.2.2.2.2.2.2
theorem eX7_drawEdges_95q : (decode cX7_drawEdges 95 = .ok (.iinc 3 1, 3)) ∧ (decode cX7_drawEdges 98 = .ok (.goto (-68), 3)) ∧ (decode cX7_drawEdges 101 = .ok (.return_, 1)) := by decide +kernel
theorem dX7_drawEdges_95 : decode cX7_drawEdges 95 = .ok (.iinc 3 1, 3) := eX7_drawEdges_95q.1
theorem dX7_drawEdges_98 : decode cX7_drawEdges 98 = .ok (.goto (-68), 3) := eX7_drawEdges_95q.2.1
theorem dX7_drawEdges_101 : decode cX7_drawEdges 101 = .ok (.return_, 1) := eX7_drawEdges_95q.2.2
set_option maxRecDepth 20000 in
theorem ggX7_edgesAt_X7_drawEdges : GoodIn wsX7_edgesAt wsX7_drawEdges := by
  have h := goodIn_app (goodIn_app (goodIn_r (big := wsX7_edgesAt) (.code yX7_drawEdges cX7_drawEdges 6 none :: ([.fieldLink RX7 9 "PathProber$Sight" "edgesFrom" "[I", .fieldLink RX7 25 "PathProber$Sight" "now" "LPathProber$Condition;", .methodLink RX7 47 yX0_seenBy, .instanceMethod yX0_seenBy, .selects RX0 yX0_seenBy yX0_seenBy, .initialized RX0, .code yX0_seenBy cX0_seenBy 6 (some .int), .fieldLink RX0 9 "PathProber$Condition" "seen" "[J", .constantLong RX0 53 (31)]) : List Cond) [6, 1, 7, 8, 9, 10, 11, 12, 13, 14] rfl (by decide +kernel)) (goodIn_few (big := wsX7_edgesAt) (fun _ h9 => List.mem_cons_of_mem _ (List.mem_append_left _ (List.mem_append_right _ h9))) gb_7)) (goodIn_few (big := wsX7_edgesAt) (fun _ h9 => List.mem_cons_of_mem _ (List.mem_append_right _ h9)) gb_1)
  exact h
set_option maxRecDepth 20000 in
theorem gX7_edgesAt_X7_drawEdges : GoodIn wsX7_edgesAt (wsV RX7 51 RX7 yX7_drawEdges wsX7_drawEdges) := goodIn_app (goodIn_r _ [2, 3, 4, 5] rfl (by decide +kernel)) ggX7_edgesAt_X7_drawEdges
set_option maxRecDepth 20000 in
theorem ggX7_edgesAt_J6_bitCount_0f7a4 : GoodIn wsX7_edgesAt wsJ6_bitCount_0f7a4 := goodIn_r _ [18, 19, 20, 21] rfl (by decide +kernel)
set_option maxRecDepth 20000 in
theorem gX7_edgesAt_J6_bitCount_0f7a4 : GoodIn wsX7_edgesAt (va_wsS RX7 35 yJ6_bitCount_0f7a4 wsJ6_bitCount_0f7a4) := goodIn_app (goodIn_r _ [15, 16, 17] rfl (by decide +kernel)) ggX7_edgesAt_J6_bitCount_0f7a4
theorem eX7_edgesAt_0q : (decode cX7_edgesAt 0 = .ok (.aload_n 0, 1)) ∧ (decode cX7_edgesAt 1 = .ok (.iload_n 1, 1)) ∧ (decode cX7_edgesAt 2 = .ok (.iload_n 2, 1)) ∧ (decode cX7_edgesAt 3 = .ok (.invokevirtual 51, 3)) ∧ (decode cX7_edgesAt 6 = .ok (.iconst 0, 1)) ∧ (decode cX7_edgesAt 7 = .ok (.istore_n 3, 1)) ∧ (decode cX7_edgesAt 8 = .ok (.iconst 0, 1)) ∧ (decode cX7_edgesAt 9 = .ok (.istore 4, 2)) := by decide +kernel
theorem dX7_edgesAt_0 : decode cX7_edgesAt 0 = .ok (.aload_n 0, 1) := eX7_edgesAt_0q.1
theorem dX7_edgesAt_1 : decode cX7_edgesAt 1 = .ok (.iload_n 1, 1) := eX7_edgesAt_0q.2.1
theorem dX7_edgesAt_2 : decode cX7_edgesAt 2 = .ok (.iload_n 2, 1) := eX7_edgesAt_0q.2.2.1
theorem dX7_edgesAt_3 : decode cX7_edgesAt 3 = .ok (.invokevirtual 51, 3) := eX7_edgesAt_0q.2.2.2.1
theorem dX7_edgesAt_6 : decode cX7_edgesAt 6 = .ok (.iconst 0, 1) := eX7_edgesAt_0q.2.2.2.2.1
theorem dX7_edgesAt_7 : decode cX7_edgesAt 7 = .ok (.istore_n 3, 1) := eX7_edgesAt_0q.2.2.2.2.2.1
theorem dX7_edgesAt_8 : decode cX7_edgesAt 8 = .ok (.iconst 0, 1) := eX7_edgesAt_0q.2.2.2.2.2.2.1
theorem dX7_edgesAt_9 : decode cX7_edgesAt 9 = .ok (.istore 4, 2) := eX7_edgesAt_0q.2.2.2.2.2.2.2
theorem eX7_edgesAt_11q : (decode cX7_edgesAt 11 = .ok (.iload 4, 2)) ∧ (decode cX7_edgesAt 13 = .ok (.bipush 21, 2)) ∧ (decode cX7_edgesAt 15 = .ok (.if_icmp .ge 22, 3)) ∧ (decode cX7_edgesAt 18 = .ok (.iload_n 3, 1)) ∧ (decode cX7_edgesAt 19 = .ok (.aload_n 0, 1)) ∧ (decode cX7_edgesAt 20 = .ok (.getfield 9, 3)) ∧ (decode cX7_edgesAt 23 = .ok (.iload 4, 2)) ∧ (decode cX7_edgesAt 25 = .ok (.iaload, 1)) := by decide +kernel
theorem dX7_edgesAt_11 : decode cX7_edgesAt 11 = .ok (.iload 4, 2) := eX7_edgesAt_11q.1
theorem dX7_edgesAt_13 : decode cX7_edgesAt 13 = .ok (.bipush 21, 2) := eX7_edgesAt_11q.2.1
theorem dX7_edgesAt_15 : decode cX7_edgesAt 15 = .ok (.if_icmp .ge 22, 3) := eX7_edgesAt_11q.2.2.1
theorem dX7_edgesAt_18 : decode cX7_edgesAt 18 = .ok (.iload_n 3, 1) := eX7_edgesAt_11q.2.2.2.1
theorem dX7_edgesAt_19 : decode cX7_edgesAt 19 = .ok (.aload_n 0, 1) := eX7_edgesAt_11q.2.2.2.2.1
theorem dX7_edgesAt_20 : decode cX7_edgesAt 20 = .ok (.getfield 9, 3) := eX7_edgesAt_11q.2.2.2.2.2.1
theorem dX7_edgesAt_23 : decode cX7_edgesAt 23 = .ok (.iload 4, 2) := eX7_edgesAt_11q.2.2.2.2.2.2.1
theorem dX7_edgesAt_25 : decode cX7_edgesAt 25 = .ok (.iaload, 1) := eX7_edgesAt_11q.2.2.2.2.2.2.2
theorem eX7_edgesAt_26q : (decode cX7_edgesAt 26 = .ok (.invokestatic 35, 3)) ∧ (decode cX7_edgesAt 29 = .ok (.iadd, 1)) ∧ (decode cX7_edgesAt 30 = .ok (.istore_n 3, 1)) ∧ (decode cX7_edgesAt 31 = .ok (.iinc 4 1, 3)) ∧ (decode cX7_edgesAt 34 = .ok (.goto (-23), 3)) ∧ (decode cX7_edgesAt 37 = .ok (.iload_n 3, 1)) ∧ (decode cX7_edgesAt 38 = .ok (.ireturn, 1)) := by decide +kernel
theorem dX7_edgesAt_26 : decode cX7_edgesAt 26 = .ok (.invokestatic 35, 3) := eX7_edgesAt_26q.1
theorem dX7_edgesAt_29 : decode cX7_edgesAt 29 = .ok (.iadd, 1) := eX7_edgesAt_26q.2.1
theorem dX7_edgesAt_30 : decode cX7_edgesAt 30 = .ok (.istore_n 3, 1) := eX7_edgesAt_26q.2.2.1
theorem dX7_edgesAt_31 : decode cX7_edgesAt 31 = .ok (.iinc 4 1, 3) := eX7_edgesAt_26q.2.2.2.1
theorem dX7_edgesAt_34 : decode cX7_edgesAt 34 = .ok (.goto (-23), 3) := eX7_edgesAt_26q.2.2.2.2.1
theorem dX7_edgesAt_37 : decode cX7_edgesAt 37 = .ok (.iload_n 3, 1) := eX7_edgesAt_26q.2.2.2.2.2.1
theorem dX7_edgesAt_38 : decode cX7_edgesAt 38 = .ok (.ireturn, 1) := eX7_edgesAt_26q.2.2.2.2.2.2
set_option maxRecDepth 20000 in
theorem ggX7_edgesInAll_X7_edgesAt : GoodIn wsX7_edgesInAll wsX7_edgesAt := by
  have h := goodIn_app (goodIn_app (goodIn_r (big := wsX7_edgesInAll) (.code yX7_edgesAt cX7_edgesAt 5 (some .int) :: ([.fieldLink RX7 9 "PathProber$Sight" "edgesFrom" "[I", .methodLink RX7 51 yX7_drawEdges, .instanceMethod yX7_drawEdges, .selects RX7 yX7_drawEdges yX7_drawEdges, .initialized RX7, .code yX7_drawEdges cX7_drawEdges 6 none, .fieldLink RX7 25 "PathProber$Sight" "now" "LPathProber$Condition;", .methodLink RX7 47 yX0_seenBy, .instanceMethod yX0_seenBy, .selects RX0 yX0_seenBy yX0_seenBy, .initialized RX0, .code yX0_seenBy cX0_seenBy 6 (some .int), .fieldLink RX0 9 "PathProber$Condition" "seen" "[J", .constantLong RX0 53 (31), .methodLink RX7 35 yJ6_bitCount_0f7a4, .static yJ6_bitCount_0f7a4, .initialized RJ6, .code yJ6_bitCount_0f7a4 cJ6_bitCount_0f7a4 1 (some .int), .constant RJ6 265 (1431655765), .constant RJ6 266 (858993459), .constant RJ6 267 (252645135)]) : List Cond) [7, 8, 9, 10, 11, 6, 12, 13, 14, 15, 16, 17, 18, 19, 20, 21, 22, 23, 24, 25, 26, 27] rfl (by decide +kernel)) (goodIn_few (big := wsX7_edgesInAll) (fun _ h9 => List.mem_cons_of_mem _ (List.mem_append_left _ (List.mem_append_left _ (List.mem_append_right _ h9)))) gb_7)) (goodIn_few (big := wsX7_edgesInAll) (fun _ h9 => List.mem_cons_of_mem _ (List.mem_append_right _ h9)) gb_1)
  exact h
set_option maxRecDepth 20000 in
theorem gX7_edgesInAll_X7_edgesAt : GoodIn wsX7_edgesInAll (wsV RX7 55 RX7 yX7_edgesAt wsX7_edgesAt) := goodIn_app (goodIn_r _ [3, 4, 5, 6] rfl (by decide +kernel)) ggX7_edgesInAll_X7_edgesAt
theorem eX7_edgesInAll_0q : (decode cX7_edgesInAll 0 = .ok (.iconst 0, 1)) ∧ (decode cX7_edgesInAll 1 = .ok (.istore_n 1, 1)) ∧ (decode cX7_edgesInAll 2 = .ok (.iconst 0, 1)) ∧ (decode cX7_edgesInAll 3 = .ok (.istore_n 2, 1)) ∧ (decode cX7_edgesInAll 4 = .ok (.iload_n 2, 1)) ∧ (decode cX7_edgesInAll 5 = .ok (.aload_n 0, 1)) ∧ (decode cX7_edgesInAll 6 = .ok (.getfield 21, 3)) ∧ (decode cX7_edgesInAll 9 = .ok (.getfield 41, 3)) := by decide +kernel
theorem dX7_edgesInAll_0 : decode cX7_edgesInAll 0 = .ok (.iconst 0, 1) := eX7_edgesInAll_0q.1
theorem dX7_edgesInAll_1 : decode cX7_edgesInAll 1 = .ok (.istore_n 1, 1) := eX7_edgesInAll_0q.2.1
theorem dX7_edgesInAll_2 : decode cX7_edgesInAll 2 = .ok (.iconst 0, 1) := eX7_edgesInAll_0q.2.2.1
theorem dX7_edgesInAll_3 : decode cX7_edgesInAll 3 = .ok (.istore_n 2, 1) := eX7_edgesInAll_0q.2.2.2.1
theorem dX7_edgesInAll_4 : decode cX7_edgesInAll 4 = .ok (.iload_n 2, 1) := eX7_edgesInAll_0q.2.2.2.2.1
theorem dX7_edgesInAll_5 : decode cX7_edgesInAll 5 = .ok (.aload_n 0, 1) := eX7_edgesInAll_0q.2.2.2.2.2.1
theorem dX7_edgesInAll_6 : decode cX7_edgesInAll 6 = .ok (.getfield 21, 3) := eX7_edgesInAll_0q.2.2.2.2.2.2.1
theorem dX7_edgesInAll_9 : decode cX7_edgesInAll 9 = .ok (.getfield 41, 3) := eX7_edgesInAll_0q.2.2.2.2.2.2.2
theorem eX7_edgesInAll_12q : (decode cX7_edgesInAll 12 = .ok (.if_icmp .ge 32, 3)) ∧ (decode cX7_edgesInAll 15 = .ok (.iconst 1, 1)) ∧ (decode cX7_edgesInAll 16 = .ok (.istore_n 3, 1)) ∧ (decode cX7_edgesInAll 17 = .ok (.iload_n 3, 1)) ∧ (decode cX7_edgesInAll 18 = .ok (.bipush 10, 2)) ∧ (decode cX7_edgesInAll 20 = .ok (.if_icmp .ge 18, 3)) ∧ (decode cX7_edgesInAll 23 = .ok (.iload_n 1, 1)) ∧ (decode cX7_edgesInAll 24 = .ok (.aload_n 0, 1)) := by decide +kernel
theorem dX7_edgesInAll_12 : decode cX7_edgesInAll 12 = .ok (.if_icmp .ge 32, 3) := eX7_edgesInAll_12q.1
theorem dX7_edgesInAll_15 : decode cX7_edgesInAll 15 = .ok (.iconst 1, 1) := eX7_edgesInAll_12q.2.1
theorem dX7_edgesInAll_16 : decode cX7_edgesInAll 16 = .ok (.istore_n 3, 1) := eX7_edgesInAll_12q.2.2.1
theorem dX7_edgesInAll_17 : decode cX7_edgesInAll 17 = .ok (.iload_n 3, 1) := eX7_edgesInAll_12q.2.2.2.1
theorem dX7_edgesInAll_18 : decode cX7_edgesInAll 18 = .ok (.bipush 10, 2) := eX7_edgesInAll_12q.2.2.2.2.1
theorem dX7_edgesInAll_20 : decode cX7_edgesInAll 20 = .ok (.if_icmp .ge 18, 3) := eX7_edgesInAll_12q.2.2.2.2.2.1
theorem dX7_edgesInAll_23 : decode cX7_edgesInAll 23 = .ok (.iload_n 1, 1) := eX7_edgesInAll_12q.2.2.2.2.2.2.1
theorem dX7_edgesInAll_24 : decode cX7_edgesInAll 24 = .ok (.aload_n 0, 1) := eX7_edgesInAll_12q.2.2.2.2.2.2.2
theorem eX7_edgesInAll_25q : (decode cX7_edgesInAll 25 = .ok (.iload_n 2, 1)) ∧ (decode cX7_edgesInAll 26 = .ok (.iload_n 3, 1)) ∧ (decode cX7_edgesInAll 27 = .ok (.invokevirtual 55, 3)) ∧ (decode cX7_edgesInAll 30 = .ok (.iadd, 1)) ∧ (decode cX7_edgesInAll 31 = .ok (.istore_n 1, 1)) ∧ (decode cX7_edgesInAll 32 = .ok (.iinc 3 1, 3)) ∧ (decode cX7_edgesInAll 35 = .ok (.goto (-18), 3)) ∧ (decode cX7_edgesInAll 38 = .ok (.iinc 2 1, 3)) := by decide +kernel
theorem dX7_edgesInAll_25 : decode cX7_edgesInAll 25 = .ok (.iload_n 2, 1) := eX7_edgesInAll_25q.1
theorem dX7_edgesInAll_26 : decode cX7_edgesInAll 26 = .ok (.iload_n 3, 1) := eX7_edgesInAll_25q.2.1
theorem dX7_edgesInAll_27 : decode cX7_edgesInAll 27 = .ok (.invokevirtual 55, 3) := eX7_edgesInAll_25q.2.2.1
theorem dX7_edgesInAll_30 : decode cX7_edgesInAll 30 = .ok (.iadd, 1) := eX7_edgesInAll_25q.2.2.2.1
theorem dX7_edgesInAll_31 : decode cX7_edgesInAll 31 = .ok (.istore_n 1, 1) := eX7_edgesInAll_25q.2.2.2.2.1
theorem dX7_edgesInAll_32 : decode cX7_edgesInAll 32 = .ok (.iinc 3 1, 3) := eX7_edgesInAll_25q.2.2.2.2.2.1
theorem dX7_edgesInAll_35 : decode cX7_edgesInAll 35 = .ok (.goto (-18), 3) := eX7_edgesInAll_25q.2.2.2.2.2.2.1
theorem dX7_edgesInAll_38 : decode cX7_edgesInAll 38 = .ok (.iinc 2 1, 3) := eX7_edgesInAll_25q.2.2.2.2.2.2.2
theorem eX7_edgesInAll_41q : (decode cX7_edgesInAll 41 = .ok (.goto (-37), 3)) ∧ (decode cX7_edgesInAll 44 = .ok (.iload_n 1, 1)) ∧ (decode cX7_edgesInAll 45 = .ok (.ireturn, 1)) := by decide +kernel
theorem dX7_edgesInAll_41 : decode cX7_edgesInAll 41 = .ok (.goto (-37), 3) := eX7_edgesInAll_41q.1
theorem dX7_edgesInAll_44 : decode cX7_edgesInAll 44 = .ok (.iload_n 1, 1) := eX7_edgesInAll_41q.2.1
theorem dX7_edgesInAll_45 : decode cX7_edgesInAll 45 = .ok (.ireturn, 1) := eX7_edgesInAll_41q.2.2
set_option maxRecDepth 20000 in
theorem ggX7_widthOf_X7_widthAt : GoodIn wsX7_widthOf wsX7_widthAt := by
  have h := goodIn_app (goodIn_app (goodIn_r (big := wsX7_widthOf) (.code yX7_widthAt cX7_widthAt 3 (some .int) :: ([.fieldLink RX7 25 "PathProber$Sight" "now" "LPathProber$Condition;", .methodLink RX7 29 yX0_seenAt, .instanceMethod yX0_seenAt, .selects RX0 yX0_seenAt yX0_seenAt, .initialized RX0, .code yX0_seenAt cX0_seenAt 6 (some .int), .fieldLink RX0 9 "PathProber$Condition" "seen" "[J", .constantLong RX0 53 (31), .methodLink RX7 35 yJ6_bitCount_0f7a4, .static yJ6_bitCount_0f7a4, .initialized RJ6, .code yJ6_bitCount_0f7a4 cJ6_bitCount_0f7a4 1 (some .int), .constant RJ6 265 (1431655765), .constant RJ6 266 (858993459), .constant RJ6 267 (252645135)]) : List Cond) [9, 10, 11, 12, 13, 14, 15, 16, 17, 18, 19, 20, 21, 22, 23, 24] rfl (by decide +kernel)) (goodIn_few (big := wsX7_widthOf) (fun _ h9 => List.mem_cons_of_mem _ (List.mem_append_left _ (List.mem_append_right _ h9))) gb_7)) (goodIn_few (big := wsX7_widthOf) (fun _ h9 => List.mem_cons_of_mem _ (List.mem_append_right _ h9)) gb_1)
  exact h
set_option maxRecDepth 20000 in
theorem gX7_widthOf_X7_widthAt : GoodIn wsX7_widthOf (wsV RX7 58 RX7 yX7_widthAt wsX7_widthAt) := goodIn_app (goodIn_r _ [5, 6, 7, 8] rfl (by decide +kernel)) ggX7_widthOf_X7_widthAt
theorem eX7_widthOf_0q : (decode cX7_widthOf 0 = .ok (.iconst 0, 1)) ∧ (decode cX7_widthOf 1 = .ok (.istore 4, 2)) ∧ (decode cX7_widthOf 3 = .ok (.iload_n 2, 1)) ∧ (decode cX7_widthOf 4 = .ok (.istore 5, 2)) ∧ (decode cX7_widthOf 6 = .ok (.iload 5, 2)) ∧ (decode cX7_widthOf 8 = .ok (.iload_n 3, 1)) ∧ (decode cX7_widthOf 9 = .ok (.if_icmp .gt 23, 3)) ∧ (decode cX7_widthOf 12 = .ok (.iload 4, 2)) := by decide +kernel
theorem dX7_widthOf_0 : decode cX7_widthOf 0 = .ok (.iconst 0, 1) := eX7_widthOf_0q.1
theorem dX7_widthOf_1 : decode cX7_widthOf 1 = .ok (.istore 4, 2) := eX7_widthOf_0q.2.1
theorem dX7_widthOf_3 : decode cX7_widthOf 3 = .ok (.iload_n 2, 1) := eX7_widthOf_0q.2.2.1
theorem dX7_widthOf_4 : decode cX7_widthOf 4 = .ok (.istore 5, 2) := eX7_widthOf_0q.2.2.2.1
theorem dX7_widthOf_6 : decode cX7_widthOf 6 = .ok (.iload 5, 2) := eX7_widthOf_0q.2.2.2.2.1
theorem dX7_widthOf_8 : decode cX7_widthOf 8 = .ok (.iload_n 3, 1) := eX7_widthOf_0q.2.2.2.2.2.1
theorem dX7_widthOf_9 : decode cX7_widthOf 9 = .ok (.if_icmp .gt 23, 3) := eX7_widthOf_0q.2.2.2.2.2.2.1
theorem dX7_widthOf_12 : decode cX7_widthOf 12 = .ok (.iload 4, 2) := eX7_widthOf_0q.2.2.2.2.2.2.2
theorem eX7_widthOf_14q : (decode cX7_widthOf 14 = .ok (.aload_n 0, 1)) ∧ (decode cX7_widthOf 15 = .ok (.iload_n 1, 1)) ∧ (decode cX7_widthOf 16 = .ok (.iload 5, 2)) ∧ (decode cX7_widthOf 18 = .ok (.invokevirtual 58, 3)) ∧ (decode cX7_widthOf 21 = .ok (.invokestatic 61, 3)) ∧ (decode cX7_widthOf 24 = .ok (.istore 4, 2)) ∧ (decode cX7_widthOf 26 = .ok (.iinc 5 1, 3)) ∧ (decode cX7_widthOf 29 = .ok (.goto (-23), 3)) := by decide +kernel
theorem dX7_widthOf_14 : decode cX7_widthOf 14 = .ok (.aload_n 0, 1) := eX7_widthOf_14q.1
theorem dX7_widthOf_15 : decode cX7_widthOf 15 = .ok (.iload_n 1, 1) := eX7_widthOf_14q.2.1
theorem dX7_widthOf_16 : decode cX7_widthOf 16 = .ok (.iload 5, 2) := eX7_widthOf_14q.2.2.1
theorem dX7_widthOf_18 : decode cX7_widthOf 18 = .ok (.invokevirtual 58, 3) := eX7_widthOf_14q.2.2.2.1
theorem dX7_widthOf_21 : decode cX7_widthOf 21 = .ok (.invokestatic 61, 3) := eX7_widthOf_14q.2.2.2.2.1
theorem dX7_widthOf_24 : decode cX7_widthOf 24 = .ok (.istore 4, 2) := eX7_widthOf_14q.2.2.2.2.2.1
theorem dX7_widthOf_26 : decode cX7_widthOf 26 = .ok (.iinc 5 1, 3) := eX7_widthOf_14q.2.2.2.2.2.2.1
theorem dX7_widthOf_29 : decode cX7_widthOf 29 = .ok (.goto (-23), 3) := eX7_widthOf_14q.2.2.2.2.2.2.2
theorem dX7_widthOf_32 : decode cX7_widthOf 32 = .ok (.iload 4, 2) := by decide +kernel
theorem dX7_widthOf_34 : decode cX7_widthOf 34 = .ok (.ireturn, 1) := by decide +kernel
set_option maxRecDepth 20000 in
theorem ggX7_skewOf_X7_skewAt : GoodIn wsX7_skewOf wsX7_skewAt := by
  have h := goodIn_app (goodIn_app (goodIn_r (big := wsX7_skewOf) (.code yX7_skewAt cX7_skewAt 8 (some .int) :: (wsX7_skewAt_r1 ++ wsX7_skewAt_r2) : List Cond) [9, 10, 11, 1, 2, 3, 4, 12, 13, 14, 15, 16, 17, 18, 19, 20, 21, 22, 23, 24, 8, 25, 26, 27, 28, 29, 30, 31, 32, 33, 34, 35, 36] rfl (by decide +kernel)) (goodIn_few (big := wsX7_skewOf) (fun _ h9 => List.mem_cons_of_mem _ (List.mem_append_left _ (List.mem_append_right _ h9))) gb_7)) (goodIn_few (big := wsX7_skewOf) (fun _ h9 => List.mem_cons_of_mem _ (List.mem_append_right _ h9)) gb_1)
  exact h
set_option maxRecDepth 20000 in
theorem gX7_skewOf_X7_skewAt : GoodIn wsX7_skewOf (wsV RX7 66 RX7 yX7_skewAt wsX7_skewAt) := goodIn_app (goodIn_r _ [5, 6, 7, 8] rfl (by decide +kernel)) ggX7_skewOf_X7_skewAt
theorem eX7_skewOf_0q : (decode cX7_skewOf 0 = .ok (.iconst 0, 1)) ∧ (decode cX7_skewOf 1 = .ok (.istore 4, 2)) ∧ (decode cX7_skewOf 3 = .ok (.iload_n 2, 1)) ∧ (decode cX7_skewOf 4 = .ok (.istore 5, 2)) ∧ (decode cX7_skewOf 6 = .ok (.iload 5, 2)) ∧ (decode cX7_skewOf 8 = .ok (.iload_n 3, 1)) ∧ (decode cX7_skewOf 9 = .ok (.if_icmp .ge 23, 3)) ∧ (decode cX7_skewOf 12 = .ok (.iload 4, 2)) := by decide +kernel
theorem dX7_skewOf_0 : decode cX7_skewOf 0 = .ok (.iconst 0, 1) := eX7_skewOf_0q.1
theorem dX7_skewOf_1 : decode cX7_skewOf 1 = .ok (.istore 4, 2) := eX7_skewOf_0q.2.1
theorem dX7_skewOf_3 : decode cX7_skewOf 3 = .ok (.iload_n 2, 1) := eX7_skewOf_0q.2.2.1
theorem dX7_skewOf_4 : decode cX7_skewOf 4 = .ok (.istore 5, 2) := eX7_skewOf_0q.2.2.2.1
theorem dX7_skewOf_6 : decode cX7_skewOf 6 = .ok (.iload 5, 2) := eX7_skewOf_0q.2.2.2.2.1
theorem dX7_skewOf_8 : decode cX7_skewOf 8 = .ok (.iload_n 3, 1) := eX7_skewOf_0q.2.2.2.2.2.1
theorem dX7_skewOf_9 : decode cX7_skewOf 9 = .ok (.if_icmp .ge 23, 3) := eX7_skewOf_0q.2.2.2.2.2.2.1
theorem dX7_skewOf_12 : decode cX7_skewOf 12 = .ok (.iload 4, 2) := eX7_skewOf_0q.2.2.2.2.2.2.2
theorem eX7_skewOf_14q : (decode cX7_skewOf 14 = .ok (.aload_n 0, 1)) ∧ (decode cX7_skewOf 15 = .ok (.iload_n 1, 1)) ∧ (decode cX7_skewOf 16 = .ok (.iload 5, 2)) ∧ (decode cX7_skewOf 18 = .ok (.invokevirtual 66, 3)) ∧ (decode cX7_skewOf 21 = .ok (.invokestatic 61, 3)) ∧ (decode cX7_skewOf 24 = .ok (.istore 4, 2)) ∧ (decode cX7_skewOf 26 = .ok (.iinc 5 1, 3)) ∧ (decode cX7_skewOf 29 = .ok (.goto (-23), 3)) := by decide +kernel
theorem dX7_skewOf_14 : decode cX7_skewOf 14 = .ok (.aload_n 0, 1) := eX7_skewOf_14q.1
theorem dX7_skewOf_15 : decode cX7_skewOf 15 = .ok (.iload_n 1, 1) := eX7_skewOf_14q.2.1
theorem dX7_skewOf_16 : decode cX7_skewOf 16 = .ok (.iload 5, 2) := eX7_skewOf_14q.2.2.1
theorem dX7_skewOf_18 : decode cX7_skewOf 18 = .ok (.invokevirtual 66, 3) := eX7_skewOf_14q.2.2.2.1
theorem dX7_skewOf_21 : decode cX7_skewOf 21 = .ok (.invokestatic 61, 3) := eX7_skewOf_14q.2.2.2.2.1
theorem dX7_skewOf_24 : decode cX7_skewOf 24 = .ok (.istore 4, 2) := eX7_skewOf_14q.2.2.2.2.2.1
theorem dX7_skewOf_26 : decode cX7_skewOf 26 = .ok (.iinc 5 1, 3) := eX7_skewOf_14q.2.2.2.2.2.2.1
theorem dX7_skewOf_29 : decode cX7_skewOf 29 = .ok (.goto (-23), 3) := eX7_skewOf_14q.2.2.2.2.2.2.2
theorem dX7_skewOf_32 : decode cX7_skewOf 32 = .ok (.iload 4, 2) := by decide +kernel
theorem dX7_skewOf_34 : decode cX7_skewOf 34 = .ok (.ireturn, 1) := by decide +kernel
set_option maxRecDepth 20000 in
theorem ggX7_skewAt_X0_seenAt : GoodIn wsX7_skewAt wsX0_seenAt := by
  have h := goodIn_app (goodIn_r (big := wsX7_skewAt) (.code yX0_seenAt cX0_seenAt 6 (some .int) :: ([.fieldLink RX0 9 "PathProber$Condition" "seen" "[J", .constantLong RX0 53 (31)]) : List Cond) [14, 15, 16] rfl (by decide +kernel)) (goodIn_few (big := wsX7_skewAt) (fun _ h9 => List.mem_cons_of_mem _ (List.mem_append_right _ h9)) gb_1)
  exact h
set_option maxRecDepth 20000 in
theorem gX7_skewAt_X0_seenAt : GoodIn wsX7_skewAt (wsV RX7 29 RX0 yX0_seenAt wsX0_seenAt) := goodIn_app (goodIn_r _ [10, 11, 12, 13] rfl (by decide +kernel)) ggX7_skewAt_X0_seenAt
set_option maxRecDepth 20000 in
theorem ggX7_skewAt_X7_drawEdges : GoodIn wsX7_skewAt wsX7_drawEdges := by
  have h := goodIn_app (goodIn_app (goodIn_r (big := wsX7_skewAt) (.code yX7_drawEdges cX7_drawEdges 6 none :: ([.fieldLink RX7 9 "PathProber$Sight" "edgesFrom" "[I", .fieldLink RX7 25 "PathProber$Sight" "now" "LPathProber$Condition;", .methodLink RX7 47 yX0_seenBy, .instanceMethod yX0_seenBy, .selects RX0 yX0_seenBy yX0_seenBy, .initialized RX0, .code yX0_seenBy cX0_seenBy 6 (some .int), .fieldLink RX0 9 "PathProber$Condition" "seen" "[J", .constantLong RX0 53 (31)]) : List Cond) [21, 2, 1, 22, 23, 24, 13, 25, 15, 16] rfl (by decide +kernel)) (goodIn_few (big := wsX7_skewAt) (fun _ h9 => List.mem_cons_of_mem _ (List.mem_append_left _ (List.mem_append_right _ h9))) gb_7)) (goodIn_few (big := wsX7_skewAt) (fun _ h9 => List.mem_cons_of_mem _ (List.mem_append_right _ h9)) gb_1)
  exact h
set_option maxRecDepth 20000 in
theorem gX7_skewAt_X7_drawEdges : GoodIn wsX7_skewAt (wsV RX7 51 RX7 yX7_drawEdges wsX7_drawEdges) := goodIn_app (goodIn_r _ [17, 18, 19, 20] rfl (by decide +kernel)) ggX7_skewAt_X7_drawEdges
set_option maxRecDepth 20000 in
theorem ggX7_skewAt_J6_bitCount_0f7a4 : GoodIn wsX7_skewAt wsJ6_bitCount_0f7a4 := goodIn_r _ [29, 30, 31, 32] rfl (by decide +kernel)
set_option maxRecDepth 20000 in
theorem gX7_skewAt_J6_bitCount_0f7a4 : GoodIn wsX7_skewAt (va_wsS RX7 35 yJ6_bitCount_0f7a4 wsJ6_bitCount_0f7a4) := goodIn_app (goodIn_r _ [26, 27, 28] rfl (by decide +kernel)) ggX7_skewAt_J6_bitCount_0f7a4
theorem eX7_skewAt_0q : (decode cX7_skewAt 0 = .ok (.aload_n 0, 1)) ∧ (decode cX7_skewAt 1 = .ok (.getfield 25, 3)) ∧ (decode cX7_skewAt 4 = .ok (.iload_n 1, 1)) ∧ (decode cX7_skewAt 5 = .ok (.iload_n 2, 1)) ∧ (decode cX7_skewAt 6 = .ok (.invokevirtual 29, 3)) ∧ (decode cX7_skewAt 9 = .ok (.istore_n 3, 1)) ∧ (decode cX7_skewAt 10 = .ok (.aload_n 0, 1)) ∧ (decode cX7_skewAt 11 = .ok (.iload_n 1, 1)) := by decide +kernel
theorem dX7_skewAt_0 : decode cX7_skewAt 0 = .ok (.aload_n 0, 1) := eX7_skewAt_0q.1
theorem dX7_skewAt_1 : decode cX7_skewAt 1 = .ok (.getfield 25, 3) := eX7_skewAt_0q.2.1
theorem dX7_skewAt_4 : decode cX7_skewAt 4 = .ok (.iload_n 1, 1) := eX7_skewAt_0q.2.2.1
theorem dX7_skewAt_5 : decode cX7_skewAt 5 = .ok (.iload_n 2, 1) := eX7_skewAt_0q.2.2.2.1
theorem dX7_skewAt_6 : decode cX7_skewAt 6 = .ok (.invokevirtual 29, 3) := eX7_skewAt_0q.2.2.2.2.1
theorem dX7_skewAt_9 : decode cX7_skewAt 9 = .ok (.istore_n 3, 1) := eX7_skewAt_0q.2.2.2.2.2.1
theorem dX7_skewAt_10 : decode cX7_skewAt 10 = .ok (.aload_n 0, 1) := eX7_skewAt_0q.2.2.2.2.2.2.1
theorem dX7_skewAt_11 : decode cX7_skewAt 11 = .ok (.iload_n 1, 1) := eX7_skewAt_0q.2.2.2.2.2.2.2
theorem eX7_skewAt_12q : (decode cX7_skewAt 12 = .ok (.iload_n 2, 1)) ∧ (decode cX7_skewAt 13 = .ok (.invokevirtual 51, 3)) ∧ (decode cX7_skewAt 16 = .ok (.iconst 0, 1)) ∧ (decode cX7_skewAt 17 = .ok (.istore 4, 2)) ∧ (decode cX7_skewAt 19 = .ok (.bipush 21, 2)) ∧ (decode cX7_skewAt 21 = .ok (.istore 5, 2)) ∧ (decode cX7_skewAt 23 = .ok (.iconst 0, 1)) ∧ (decode cX7_skewAt 24 = .ok (.istore 6, 2)) := by decide +kernel
theorem dX7_skewAt_12 : decode cX7_skewAt 12 = .ok (.iload_n 2, 1) := eX7_skewAt_12q.1
theorem dX7_skewAt_13 : decode cX7_skewAt 13 = .ok (.invokevirtual 51, 3) := eX7_skewAt_12q.2.1
theorem dX7_skewAt_16 : decode cX7_skewAt 16 = .ok (.iconst 0, 1) := eX7_skewAt_12q.2.2.1
theorem dX7_skewAt_17 : decode cX7_skewAt 17 = .ok (.istore 4, 2) := eX7_skewAt_12q.2.2.2.1
theorem dX7_skewAt_19 : decode cX7_skewAt 19 = .ok (.bipush 21, 2) := eX7_skewAt_12q.2.2.2.2.1
theorem dX7_skewAt_21 : decode cX7_skewAt 21 = .ok (.istore 5, 2) := eX7_skewAt_12q.2.2.2.2.2.1
theorem dX7_skewAt_23 : decode cX7_skewAt 23 = .ok (.iconst 0, 1) := eX7_skewAt_12q.2.2.2.2.2.2.1
theorem dX7_skewAt_24 : decode cX7_skewAt 24 = .ok (.istore 6, 2) := eX7_skewAt_12q.2.2.2.2.2.2.2
theorem eX7_skewAt_26q : (decode cX7_skewAt 26 = .ok (.iload 6, 2)) ∧ (decode cX7_skewAt 28 = .ok (.bipush 21, 2)) ∧ (decode cX7_skewAt 30 = .ok (.if_icmp .ge 49, 3)) ∧ (decode cX7_skewAt 33 = .ok (.iload_n 3, 1)) ∧ (decode cX7_skewAt 34 = .ok (.iload 6, 2)) ∧ (decode cX7_skewAt 36 = .ok (.ishr, 1)) ∧ (decode cX7_skewAt 37 = .ok (.iconst 1, 1)) ∧ (decode cX7_skewAt 38 = .ok (.iand, 1)) := by decide +kernel
theorem dX7_skewAt_26 : decode cX7_skewAt 26 = .ok (.iload 6, 2) := eX7_skewAt_26q.1
theorem dX7_skewAt_28 : decode cX7_skewAt 28 = .ok (.bipush 21, 2) := eX7_skewAt_26q.2.1
theorem dX7_skewAt_30 : decode cX7_skewAt 30 = .ok (.if_icmp .ge 49, 3) := eX7_skewAt_26q.2.2.1
theorem dX7_skewAt_33 : decode cX7_skewAt 33 = .ok (.iload_n 3, 1) := eX7_skewAt_26q.2.2.2.1
theorem dX7_skewAt_34 : decode cX7_skewAt 34 = .ok (.iload 6, 2) := eX7_skewAt_26q.2.2.2.2.1
theorem dX7_skewAt_36 : decode cX7_skewAt 36 = .ok (.ishr, 1) := eX7_skewAt_26q.2.2.2.2.2.1
theorem dX7_skewAt_37 : decode cX7_skewAt 37 = .ok (.iconst 1, 1) := eX7_skewAt_26q.2.2.2.2.2.2.1
theorem dX7_skewAt_38 : decode cX7_skewAt 38 = .ok (.iand, 1) := eX7_skewAt_26q.2.2.2.2.2.2.2
theorem eX7_skewAt_39q : (decode cX7_skewAt 39 = .ok (.iconst 1, 1)) ∧ (decode cX7_skewAt 40 = .ok (.if_icmp .ne 33, 3)) ∧ (decode cX7_skewAt 43 = .ok (.aload_n 0, 1)) ∧ (decode cX7_skewAt 44 = .ok (.getfield 9, 3)) ∧ (decode cX7_skewAt 47 = .ok (.iload 6, 2)) ∧ (decode cX7_skewAt 49 = .ok (.iaload, 1)) ∧ (decode cX7_skewAt 50 = .ok (.invokestatic 35, 3)) ∧ (decode cX7_skewAt 53 = .ok (.istore 7, 2)) := by decide +kernel
theorem dX7_skewAt_39 : decode cX7_skewAt 39 = .ok (.iconst 1, 1) := eX7_skewAt_39q.1
theorem dX7_skewAt_40 : decode cX7_skewAt 40 = .ok (.if_icmp .ne 33, 3) := eX7_skewAt_39q.2.1
theorem dX7_skewAt_43 : decode cX7_skewAt 43 = .ok (.aload_n 0, 1) := eX7_skewAt_39q.2.2.1
theorem dX7_skewAt_44 : decode cX7_skewAt 44 = .ok (.getfield 9, 3) := eX7_skewAt_39q.2.2.2.1
theorem dX7_skewAt_47 : decode cX7_skewAt 47 = .ok (.iload 6, 2) := eX7_skewAt_39q.2.2.2.2.1
theorem dX7_skewAt_49 : decode cX7_skewAt 49 = .ok (.iaload, 1) := eX7_skewAt_39q.2.2.2.2.2.1
theorem dX7_skewAt_50 : decode cX7_skewAt 50 = .ok (.invokestatic 35, 3) := eX7_skewAt_39q.2.2.2.2.2.2.1
theorem dX7_skewAt_53 : decode cX7_skewAt 53 = .ok (.istore 7, 2) := eX7_skewAt_39q.2.2.2.2.2.2.2
theorem eX7_skewAt_55q : (decode cX7_skewAt 55 = .ok (.iload 4, 2)) ∧ (decode cX7_skewAt 57 = .ok (.iload 7, 2)) ∧ (decode cX7_skewAt 59 = .ok (.invokestatic 61, 3)) ∧ (decode cX7_skewAt 62 = .ok (.istore 4, 2)) ∧ (decode cX7_skewAt 64 = .ok (.iload 5, 2)) ∧ (decode cX7_skewAt 66 = .ok (.iload 7, 2)) ∧ (decode cX7_skewAt 68 = .ok (.invokestatic 69, 3)) ∧ (decode cX7_skewAt 71 = .ok (.istore 5, 2)) := by decide +kernel
theorem dX7_skewAt_55 : decode cX7_skewAt 55 = .ok (.iload 4, 2) := eX7_skewAt_55q.1
theorem dX7_skewAt_57 : decode cX7_skewAt 57 = .ok (.iload 7, 2) := eX7_skewAt_55q.2.1
theorem dX7_skewAt_59 : decode cX7_skewAt 59 = .ok (.invokestatic 61, 3) := eX7_skewAt_55q.2.2.1
theorem dX7_skewAt_62 : decode cX7_skewAt 62 = .ok (.istore 4, 2) := eX7_skewAt_55q.2.2.2.1
theorem dX7_skewAt_64 : decode cX7_skewAt 64 = .ok (.iload 5, 2) := eX7_skewAt_55q.2.2.2.2.1
theorem dX7_skewAt_66 : decode cX7_skewAt 66 = .ok (.iload 7, 2) := eX7_skewAt_55q.2.2.2.2.2.1
theorem dX7_skewAt_68 : decode cX7_skewAt 68 = .ok (.invokestatic 69, 3) := eX7_skewAt_55q.2.2.2.2.2.2.1
theorem dX7_skewAt_71 : decode cX7_skewAt 71 = .ok (.istore 5, 2) := eX7_skewAt_55q.2.2.2.2.2.2.2
theorem eX7_skewAt_73q : (decode cX7_skewAt 73 = .ok (.iinc 6 1, 3)) ∧ (decode cX7_skewAt 76 = .ok (.goto (-50), 3)) ∧ (decode cX7_skewAt 79 = .ok (.iload 4, 2)) ∧ (decode cX7_skewAt 81 = .ok (.iload 5, 2)) ∧ (decode cX7_skewAt 83 = .ok (.isub, 1)) ∧ (decode cX7_skewAt 84 = .ok (.iconst 0, 1)) ∧ (decode cX7_skewAt 85 = .ok (.invokestatic 61, 3)) ∧ (decode cX7_skewAt 88 = .ok (.ireturn, 1)) := by decide +kernel
theorem dX7_skewAt_73 : decode cX7_skewAt 73 = .ok (.iinc 6 1, 3) := eX7_skewAt_73q.1
theorem dX7_skewAt_76 : decode cX7_skewAt 76 = .ok (.goto (-50), 3) := eX7_skewAt_73q.2.1
theorem dX7_skewAt_79 : decode cX7_skewAt 79 = .ok (.iload 4, 2) := eX7_skewAt_73q.2.2.1
theorem dX7_skewAt_81 : decode cX7_skewAt 81 = .ok (.iload 5, 2) := eX7_skewAt_73q.2.2.2.1
theorem dX7_skewAt_83 : decode cX7_skewAt 83 = .ok (.isub, 1) := eX7_skewAt_73q.2.2.2.2.1
theorem dX7_skewAt_84 : decode cX7_skewAt 84 = .ok (.iconst 0, 1) := eX7_skewAt_73q.2.2.2.2.2.1
theorem dX7_skewAt_85 : decode cX7_skewAt 85 = .ok (.invokestatic 61, 3) := eX7_skewAt_73q.2.2.2.2.2.2.1
theorem dX7_skewAt_88 : decode cX7_skewAt 88 = .ok (.ireturn, 1) := eX7_skewAt_73q.2.2.2.2.2.2.2
set_option maxRecDepth 20000 in
theorem ggX7_loopOf_X0_seenBy : GoodIn wsX7_loopOf wsX0_seenBy := by
  have h := goodIn_app (goodIn_r (big := wsX7_loopOf) (.code yX0_seenBy cX0_seenBy 6 (some .int) :: ([.fieldLink RX0 9 "PathProber$Condition" "seen" "[J", .constantLong RX0 53 (31)]) : List Cond) [8, 9, 10] rfl (by decide +kernel)) (goodIn_few (big := wsX7_loopOf) (fun _ h9 => List.mem_cons_of_mem _ (List.mem_append_right _ h9)) gb_1)
  exact h
set_option maxRecDepth 20000 in
theorem gX7_loopOf_X0_seenBy : GoodIn wsX7_loopOf (wsV RX7 47 RX0 yX0_seenBy wsX0_seenBy) := goodIn_app (goodIn_r _ [4, 5, 6, 7] rfl (by decide +kernel)) ggX7_loopOf_X0_seenBy
set_option maxRecDepth 20000 in
theorem ggX7_loopOf_X2_routerOf : GoodIn wsX7_loopOf wsX2_routerOf := by
  have h := goodIn_app (goodIn_r (big := wsX7_loopOf) (.code yX2_routerOf cX2_routerOf 2 (some .int) :: ([.fieldLink RX2 37 "PathProber$Net" "links" "I", .fieldLink RX2 27 "PathProber$Net" "to" "[I"]) : List Cond) [15, 16, 17] rfl (by decide +kernel)) (goodIn_few (big := wsX7_loopOf) (fun _ h9 => List.mem_cons_of_mem _ (List.mem_append_left _ (List.mem_append_right _ h9))) gb_2)
  exact h
set_option maxRecDepth 20000 in
theorem gX7_loopOf_X2_routerOf : GoodIn wsX7_loopOf (wsV RX7 72 RX2 yX2_routerOf wsX2_routerOf) := goodIn_app (goodIn_r _ [11, 12, 13, 14] rfl (by decide +kernel)) ggX7_loopOf_X2_routerOf
theorem eX7_loopOf_0q : (decode cX7_loopOf 0 = .ok (.iconst 1, 1)) ∧ (decode cX7_loopOf 1 = .ok (.istore_n 3, 1)) ∧ (decode cX7_loopOf 2 = .ok (.iload_n 3, 1)) ∧ (decode cX7_loopOf 3 = .ok (.bipush 10, 2)) ∧ (decode cX7_loopOf 5 = .ok (.if_icmp .ge 79, 3)) ∧ (decode cX7_loopOf 8 = .ok (.aload_n 0, 1)) ∧ (decode cX7_loopOf 9 = .ok (.getfield 25, 3)) ∧ (decode cX7_loopOf 12 = .ok (.iload_n 1, 1)) := by decide +kernel
theorem dX7_loopOf_0 : decode cX7_loopOf 0 = .ok (.iconst 1, 1) := eX7_loopOf_0q.1
theorem dX7_loopOf_1 : decode cX7_loopOf 1 = .ok (.istore_n 3, 1) := eX7_loopOf_0q.2.1
theorem dX7_loopOf_2 : decode cX7_loopOf 2 = .ok (.iload_n 3, 1) := eX7_loopOf_0q.2.2.1
theorem dX7_loopOf_3 : decode cX7_loopOf 3 = .ok (.bipush 10, 2) := eX7_loopOf_0q.2.2.2.1
theorem dX7_loopOf_5 : decode cX7_loopOf 5 = .ok (.if_icmp .ge 79, 3) := eX7_loopOf_0q.2.2.2.2.1
theorem dX7_loopOf_8 : decode cX7_loopOf 8 = .ok (.aload_n 0, 1) := eX7_loopOf_0q.2.2.2.2.2.1
theorem dX7_loopOf_9 : decode cX7_loopOf 9 = .ok (.getfield 25, 3) := eX7_loopOf_0q.2.2.2.2.2.2.1
theorem dX7_loopOf_12 : decode cX7_loopOf 12 = .ok (.iload_n 1, 1) := eX7_loopOf_0q.2.2.2.2.2.2.2
theorem eX7_loopOf_13q : (decode cX7_loopOf 13 = .ok (.iload_n 2, 1)) ∧ (decode cX7_loopOf 14 = .ok (.iload_n 3, 1)) ∧ (decode cX7_loopOf 15 = .ok (.invokevirtual 47, 3)) ∧ (decode cX7_loopOf 18 = .ok (.istore 4, 2)) ∧ (decode cX7_loopOf 20 = .ok (.iload 4, 2)) ∧ (decode cX7_loopOf 22 = .ok (.iconst (-1), 1)) ∧ (decode cX7_loopOf 23 = .ok (.if_icmp .eq 24, 3)) ∧ (decode cX7_loopOf 26 = .ok (.iload 4, 2)) := by decide +kernel
theorem dX7_loopOf_13 : decode cX7_loopOf 13 = .ok (.iload_n 2, 1) := eX7_loopOf_13q.1
theorem dX7_loopOf_14 : decode cX7_loopOf 14 = .ok (.iload_n 3, 1) := eX7_loopOf_13q.2.1
theorem dX7_loopOf_15 : decode cX7_loopOf 15 = .ok (.invokevirtual 47, 3) := eX7_loopOf_13q.2.2.1
theorem dX7_loopOf_18 : decode cX7_loopOf 18 = .ok (.istore 4, 2) := eX7_loopOf_13q.2.2.2.1
theorem dX7_loopOf_20 : decode cX7_loopOf 20 = .ok (.iload 4, 2) := eX7_loopOf_13q.2.2.2.2.1
theorem dX7_loopOf_22 : decode cX7_loopOf 22 = .ok (.iconst (-1), 1) := eX7_loopOf_13q.2.2.2.2.2.1
theorem dX7_loopOf_23 : decode cX7_loopOf 23 = .ok (.if_icmp .eq 24, 3) := eX7_loopOf_13q.2.2.2.2.2.2.1
theorem dX7_loopOf_26 : decode cX7_loopOf 26 = .ok (.iload 4, 2) := eX7_loopOf_13q.2.2.2.2.2.2.2
theorem eX7_loopOf_28q : (decode cX7_loopOf 28 = .ok (.aload_n 0, 1)) ∧ (decode cX7_loopOf 29 = .ok (.getfield 25, 3)) ∧ (decode cX7_loopOf 32 = .ok (.iload_n 1, 1)) ∧ (decode cX7_loopOf 33 = .ok (.iload_n 2, 1)) ∧ (decode cX7_loopOf 34 = .ok (.iload_n 3, 1)) ∧ (decode cX7_loopOf 35 = .ok (.iconst 1, 1)) ∧ (decode cX7_loopOf 36 = .ok (.iadd, 1)) ∧ (decode cX7_loopOf 37 = .ok (.invokevirtual 47, 3)) := by decide +kernel
theorem dX7_loopOf_28 : decode cX7_loopOf 28 = .ok (.aload_n 0, 1) := eX7_loopOf_28q.1
theorem dX7_loopOf_29 : decode cX7_loopOf 29 = .ok (.getfield 25, 3) := eX7_loopOf_28q.2.1
theorem dX7_loopOf_32 : decode cX7_loopOf 32 = .ok (.iload_n 1, 1) := eX7_loopOf_28q.2.2.1
theorem dX7_loopOf_33 : decode cX7_loopOf 33 = .ok (.iload_n 2, 1) := eX7_loopOf_28q.2.2.2.1
theorem dX7_loopOf_34 : decode cX7_loopOf 34 = .ok (.iload_n 3, 1) := eX7_loopOf_28q.2.2.2.2.1
theorem dX7_loopOf_35 : decode cX7_loopOf 35 = .ok (.iconst 1, 1) := eX7_loopOf_28q.2.2.2.2.2.1
theorem dX7_loopOf_36 : decode cX7_loopOf 36 = .ok (.iadd, 1) := eX7_loopOf_28q.2.2.2.2.2.2.1
theorem dX7_loopOf_37 : decode cX7_loopOf 37 = .ok (.invokevirtual 47, 3) := eX7_loopOf_28q.2.2.2.2.2.2.2
theorem eX7_loopOf_40q : (decode cX7_loopOf 40 = .ok (.if_icmp .ne 7, 3)) ∧ (decode cX7_loopOf 43 = .ok (.iconst 1, 1)) ∧ (decode cX7_loopOf 44 = .ok (.goto 4, 3)) ∧ (decode cX7_loopOf 47 = .ok (.iconst 0, 1)) ∧ (decode cX7_loopOf 48 = .ok (.istore 5, 2)) ∧ (decode cX7_loopOf 50 = .ok (.iload 5, 2)) ∧ (decode cX7_loopOf 52 = .ok (.ifCond .eq 26, 3)) ∧ (decode cX7_loopOf 55 = .ok (.aload_n 0, 1)) := by decide +kernel
theorem dX7_loopOf_40 : decode cX7_loopOf 40 = .ok (.if_icmp .ne 7, 3) := eX7_loopOf_40q.1
theorem dX7_loopOf_43 : decode cX7_loopOf 43 = .ok (.iconst 1, 1) := eX7_loopOf_40q.2.1
theorem dX7_loopOf_44 : decode cX7_loopOf 44 = .ok (.goto 4, 3) := eX7_loopOf_40q.2.2.1
theorem dX7_loopOf_47 : decode cX7_loopOf 47 = .ok (.iconst 0, 1) := eX7_loopOf_40q.2.2.2.1
theorem dX7_loopOf_48 : decode cX7_loopOf 48 = .ok (.istore 5, 2) := eX7_loopOf_40q.2.2.2.2.1
theorem dX7_loopOf_50 : decode cX7_loopOf 50 = .ok (.iload 5, 2) := eX7_loopOf_40q.2.2.2.2.2.1
theorem dX7_loopOf_52 : decode cX7_loopOf 52 = .ok (.ifCond .eq 26, 3) := eX7_loopOf_40q.2.2.2.2.2.2.1
theorem dX7_loopOf_55 : decode cX7_loopOf 55 = .ok (.aload_n 0, 1) := eX7_loopOf_40q.2.2.2.2.2.2.2
theorem eX7_loopOf_56q : (decode cX7_loopOf 56 = .ok (.getfield 21, 3)) ∧ (decode cX7_loopOf 59 = .ok (.iload 4, 2)) ∧ (decode cX7_loopOf 61 = .ok (.invokevirtual 72, 3)) ∧ (decode cX7_loopOf 64 = .ok (.aload_n 0, 1)) ∧ (decode cX7_loopOf 65 = .ok (.getfield 21, 3)) ∧ (decode cX7_loopOf 68 = .ok (.getfield 75, 3)) ∧ (decode cX7_loopOf 71 = .ok (.iload_n 2, 1)) ∧ (decode cX7_loopOf 72 = .ok (.iaload, 1)) := by decide +kernel
theorem dX7_loopOf_56 : decode cX7_loopOf 56 = .ok (.getfield 21, 3) := eX7_loopOf_56q.1
theorem dX7_loopOf_59 : decode cX7_loopOf 59 = .ok (.iload 4, 2) := eX7_loopOf_56q.2.1
theorem dX7_loopOf_61 : decode cX7_loopOf 61 = .ok (.invokevirtual 72, 3) := eX7_loopOf_56q.2.2.1
theorem dX7_loopOf_64 : decode cX7_loopOf 64 = .ok (.aload_n 0, 1) := eX7_loopOf_56q.2.2.2.1
theorem dX7_loopOf_65 : decode cX7_loopOf 65 = .ok (.getfield 21, 3) := eX7_loopOf_56q.2.2.2.2.1
theorem dX7_loopOf_68 : decode cX7_loopOf 68 = .ok (.getfield 75, 3) := eX7_loopOf_56q.2.2.2.2.2.1
theorem dX7_loopOf_71 : decode cX7_loopOf 71 = .ok (.iload_n 2, 1) := eX7_loopOf_56q.2.2.2.2.2.2.1
theorem dX7_loopOf_72 : decode cX7_loopOf 72 = .ok (.iaload, 1) := eX7_loopOf_56q.2.2.2.2.2.2.2
theorem eX7_loopOf_73q : (decode cX7_loopOf 73 = .ok (.if_icmp .eq 5, 3)) ∧ (decode cX7_loopOf 76 = .ok (.iload_n 3, 1)) ∧ (decode cX7_loopOf 77 = .ok (.ireturn, 1)) ∧ (decode cX7_loopOf 78 = .ok (.iinc 3 1, 3)) ∧ (decode cX7_loopOf 81 = .ok (.goto (-79), 3)) ∧ (decode cX7_loopOf 84 = .ok (.iconst (-1), 1)) ∧ (decode cX7_loopOf 85 = .ok (.ireturn, 1)) := by decide +kernel
theorem dX7_loopOf_73 : decode cX7_loopOf 73 = .ok (.if_icmp .eq 5, 3) := eX7_loopOf_73q.1
theorem dX7_loopOf_76 : decode cX7_loopOf 76 = .ok (.iload_n 3, 1) := eX7_loopOf_73q.2.1
theorem dX7_loopOf_77 : decode cX7_loopOf 77 = .ok (.ireturn, 1) := eX7_loopOf_73q.2.2.1
theorem dX7_loopOf_78 : decode cX7_loopOf 78 = .ok (.iinc 3 1, 3) := eX7_loopOf_73q.2.2.2.1
theorem dX7_loopOf_81 : decode cX7_loopOf 81 = .ok (.goto (-79), 3) := eX7_loopOf_73q.2.2.2.2.1
theorem dX7_loopOf_84 : decode cX7_loopOf 84 = .ok (.iconst (-1), 1) := eX7_loopOf_73q.2.2.2.2.2.1
theorem dX7_loopOf_85 : decode cX7_loopOf 85 = .ok (.ireturn, 1) := eX7_loopOf_73q.2.2.2.2.2.2
set_option maxRecDepth 20000 in
theorem ggX9_takeAll_X9_take : GoodIn wsX9_takeAll wsX9_take := by
  have h := goodIn_app (goodIn_app (goodIn_app (goodIn_r (big := wsX9_takeAll) (.code yX9_take cX9_take 6 none :: (wsX9_take_r1 ++ wsX9_take_r2) : List Cond) [5, 6, 7, 8, 9, 10, 11, 12, 13, 14, 15, 16, 17, 4, 18, 19, 20, 21, 22, 23, 24, 25, 26, 27, 28, 29, 30, 31, 32, 33, 34, 35, 36, 37, 38, 39] rfl (by decide +kernel)) (goodIn_few (big := wsX9_takeAll) (fun _ h9 => List.mem_cons_of_mem _ (List.mem_append_left _ (List.mem_append_left _ (List.mem_append_right _ h9)))) gb_5)) (goodIn_few (big := wsX9_takeAll) (fun _ h9 => List.mem_cons_of_mem _ (List.mem_append_left _ (List.mem_append_right _ h9))) gb_2)) (goodIn_few (big := wsX9_takeAll) (fun _ h9 => List.mem_cons_of_mem _ (List.mem_append_right _ h9)) gb_1)
  exact h
set_option maxRecDepth 20000 in
theorem gX9_takeAll_X9_take : GoodIn wsX9_takeAll (wsV RX9 45 RX9 yX9_take wsX9_take) := goodIn_app (goodIn_r _ [1, 2, 3, 4] rfl (by decide +kernel)) ggX9_takeAll_X9_take
theorem eX9_takeAll_0q : (decode cX9_takeAll 0 = .ok (.aload_n 0, 1)) ∧ (decode cX9_takeAll 1 = .ok (.iload_n 1, 1)) ∧ (decode cX9_takeAll 2 = .ok (.iload_n 2, 1)) ∧ (decode cX9_takeAll 3 = .ok (.bipush 13, 2)) ∧ (decode cX9_takeAll 5 = .ok (.invokevirtual 45, 3)) ∧ (decode cX9_takeAll 8 = .ok (.return_, 1)) := by decide +kernel
theorem dX9_takeAll_0 : decode cX9_takeAll 0 = .ok (.aload_n 0, 1) := eX9_takeAll_0q.1
theorem dX9_takeAll_1 : decode cX9_takeAll 1 = .ok (.iload_n 1, 1) := eX9_takeAll_0q.2.1
theorem dX9_takeAll_2 : decode cX9_takeAll 2 = .ok (.iload_n 2, 1) := eX9_takeAll_0q.2.2.1
theorem dX9_takeAll_3 : decode cX9_takeAll 3 = .ok (.bipush 13, 2) := eX9_takeAll_0q.2.2.2.1
theorem dX9_takeAll_5 : decode cX9_takeAll 5 = .ok (.invokevirtual 45, 3) := eX9_takeAll_0q.2.2.2.2.1
theorem dX9_takeAll_8 : decode cX9_takeAll 8 = .ok (.return_, 1) := eX9_takeAll_0q.2.2.2.2.2
set_option maxRecDepth 20000 in
theorem ggX9_isAnswered_X2_goalAt : GoodIn wsX9_isAnswered wsX2_goalAt := by
  have h := goodIn_app (goodIn_r (big := wsX9_isAnswered) (.code yX2_goalAt cX2_goalAt 3 (some .int) :: ([.fieldLink RX2 40 "PathProber$Net" "goals" "I", .fieldLink RX2 30 "PathProber$Net" "goal" "[I"]) : List Cond) [9, 10, 11] rfl (by decide +kernel)) (goodIn_few (big := wsX9_isAnswered) (fun _ h9 => List.mem_cons_of_mem _ (List.mem_append_right _ h9)) gb_2)
  exact h
set_option maxRecDepth 20000 in
theorem gX9_isAnswered_X2_goalAt : GoodIn wsX9_isAnswered (wsV RX9 88 RX2 yX2_goalAt wsX2_goalAt) := goodIn_app (goodIn_r _ [5, 6, 7, 8] rfl (by decide +kernel)) ggX9_isAnswered_X2_goalAt
theorem eX9_isAnswered_0q : (decode cX9_isAnswered 0 = .ok (.aload_n 0, 1)) ∧ (decode cX9_isAnswered 1 = .ok (.getfield 33, 3)) ∧ (decode cX9_isAnswered 4 = .ok (.ifCond .ne 38, 3)) ∧ (decode cX9_isAnswered 7 = .ok (.aload_n 0, 1)) ∧ (decode cX9_isAnswered 8 = .ok (.getfield 37, 3)) ∧ (decode cX9_isAnswered 11 = .ok (.getfield 55, 3)) ∧ (decode cX9_isAnswered 14 = .ok (.aload_n 0, 1)) ∧ (decode cX9_isAnswered 15 = .ok (.getfield 18, 3)) := by decide +kernel
theorem dX9_isAnswered_0 : decode cX9_isAnswered 0 = .ok (.aload_n 0, 1) := eX9_isAnswered_0q.1
theorem dX9_isAnswered_1 : decode cX9_isAnswered 1 = .ok (.getfield 33, 3) := eX9_isAnswered_0q.2.1
theorem dX9_isAnswered_4 : decode cX9_isAnswered 4 = .ok (.ifCond .ne 38, 3) := eX9_isAnswered_0q.2.2.1
theorem dX9_isAnswered_7 : decode cX9_isAnswered 7 = .ok (.aload_n 0, 1) := eX9_isAnswered_0q.2.2.2.1
theorem dX9_isAnswered_8 : decode cX9_isAnswered 8 = .ok (.getfield 37, 3) := eX9_isAnswered_0q.2.2.2.2.1
theorem dX9_isAnswered_11 : decode cX9_isAnswered 11 = .ok (.getfield 55, 3) := eX9_isAnswered_0q.2.2.2.2.2.1
theorem dX9_isAnswered_14 : decode cX9_isAnswered 14 = .ok (.aload_n 0, 1) := eX9_isAnswered_0q.2.2.2.2.2.2.1
theorem dX9_isAnswered_15 : decode cX9_isAnswered 15 = .ok (.getfield 18, 3) := eX9_isAnswered_0q.2.2.2.2.2.2.2
theorem eX9_isAnswered_18q : (decode cX9_isAnswered 18 = .ok (.iaload, 1)) ∧ (decode cX9_isAnswered 19 = .ok (.iconst 1, 1)) ∧ (decode cX9_isAnswered 20 = .ok (.if_icmp .ne 18, 3)) ∧ (decode cX9_isAnswered 23 = .ok (.aload_n 0, 1)) ∧ (decode cX9_isAnswered 24 = .ok (.getfield 37, 3)) ∧ (decode cX9_isAnswered 27 = .ok (.aload_n 0, 1)) ∧ (decode cX9_isAnswered 28 = .ok (.getfield 18, 3)) ∧ (decode cX9_isAnswered 31 = .ok (.invokevirtual 88, 3)) := by decide +kernel
theorem dX9_isAnswered_18 : decode cX9_isAnswered 18 = .ok (.iaload, 1) := eX9_isAnswered_18q.1
theorem dX9_isAnswered_19 : decode cX9_isAnswered 19 = .ok (.iconst 1, 1) := eX9_isAnswered_18q.2.1
theorem dX9_isAnswered_20 : decode cX9_isAnswered 20 = .ok (.if_icmp .ne 18, 3) := eX9_isAnswered_18q.2.2.1
theorem dX9_isAnswered_23 : decode cX9_isAnswered 23 = .ok (.aload_n 0, 1) := eX9_isAnswered_18q.2.2.2.1
theorem dX9_isAnswered_24 : decode cX9_isAnswered 24 = .ok (.getfield 37, 3) := eX9_isAnswered_18q.2.2.2.2.1
theorem dX9_isAnswered_27 : decode cX9_isAnswered 27 = .ok (.aload_n 0, 1) := eX9_isAnswered_18q.2.2.2.2.2.1
theorem dX9_isAnswered_28 : decode cX9_isAnswered 28 = .ok (.getfield 18, 3) := eX9_isAnswered_18q.2.2.2.2.2.2.1
theorem dX9_isAnswered_31 : decode cX9_isAnswered 31 = .ok (.invokevirtual 88, 3) := eX9_isAnswered_18q.2.2.2.2.2.2.2
theorem eX9_isAnswered_34q : (decode cX9_isAnswered 34 = .ok (.iconst (-1), 1)) ∧ (decode cX9_isAnswered 35 = .ok (.if_icmp .eq 7, 3)) ∧ (decode cX9_isAnswered 38 = .ok (.iconst 1, 1)) ∧ (decode cX9_isAnswered 39 = .ok (.goto 4, 3)) ∧ (decode cX9_isAnswered 42 = .ok (.iconst 0, 1)) ∧ (decode cX9_isAnswered 43 = .ok (.ireturn, 1)) := by decide +kernel
theorem dX9_isAnswered_34 : decode cX9_isAnswered 34 = .ok (.iconst (-1), 1) := eX9_isAnswered_34q.1
theorem dX9_isAnswered_35 : decode cX9_isAnswered 35 = .ok (.if_icmp .eq 7, 3) := eX9_isAnswered_34q.2.1
theorem dX9_isAnswered_38 : decode cX9_isAnswered 38 = .ok (.iconst 1, 1) := eX9_isAnswered_34q.2.2.1
theorem dX9_isAnswered_39 : decode cX9_isAnswered 39 = .ok (.goto 4, 3) := eX9_isAnswered_34q.2.2.2.1
theorem dX9_isAnswered_42 : decode cX9_isAnswered 42 = .ok (.iconst 0, 1) := eX9_isAnswered_34q.2.2.2.2.1
theorem dX9_isAnswered_43 : decode cX9_isAnswered 43 = .ok (.ireturn, 1) := eX9_isAnswered_34q.2.2.2.2.2
theorem eJ6_numberOfTrailingZeros_0f7a4_0q : (decode cJ6_numberOfTrailingZeros_0f7a4 0 = .ok (.iload_n 0, 1)) ∧ (decode cJ6_numberOfTrailingZeros_0f7a4 1 = .ok (.iconst (-1), 1)) ∧ (decode cJ6_numberOfTrailingZeros_0f7a4 2 = .ok (.ixor, 1)) ∧ (decode cJ6_numberOfTrailingZeros_0f7a4 3 = .ok (.iload_n 0, 1)) ∧ (decode cJ6_numberOfTrailingZeros_0f7a4 4 = .ok (.iconst 1, 1)) ∧ (decode cJ6_numberOfTrailingZeros_0f7a4 5 = .ok (.isub, 1)) ∧ (decode cJ6_numberOfTrailingZeros_0f7a4 6 = .ok (.iand, 1)) ∧ (decode cJ6_numberOfTrailingZeros_0f7a4 7 = .ok (.istore_n 0, 1)) := by decide +kernel
theorem dJ6_numberOfTrailingZeros_0f7a4_0 : decode cJ6_numberOfTrailingZeros_0f7a4 0 = .ok (.iload_n 0, 1) := eJ6_numberOfTrailingZeros_0f7a4_0q.1
theorem dJ6_numberOfTrailingZeros_0f7a4_1 : decode cJ6_numberOfTrailingZeros_0f7a4 1 = .ok (.iconst (-1), 1) := eJ6_numberOfTrailingZeros_0f7a4_0q.2.1
theorem dJ6_numberOfTrailingZeros_0f7a4_2 : decode cJ6_numberOfTrailingZeros_0f7a4 2 = .ok (.ixor, 1) := eJ6_numberOfTrailingZeros_0f7a4_0q.2.2.1
theorem dJ6_numberOfTrailingZeros_0f7a4_3 : decode cJ6_numberOfTrailingZeros_0f7a4 3 = .ok (.iload_n 0, 1) := eJ6_numberOfTrailingZeros_0f7a4_0q.2.2.2.1
theorem dJ6_numberOfTrailingZeros_0f7a4_4 : decode cJ6_numberOfTrailingZeros_0f7a4 4 = .ok (.iconst 1, 1) := eJ6_numberOfTrailingZeros_0f7a4_0q.2.2.2.2.1
theorem dJ6_numberOfTrailingZeros_0f7a4_5 : decode cJ6_numberOfTrailingZeros_0f7a4 5 = .ok (.isub, 1) := eJ6_numberOfTrailingZeros_0f7a4_0q.2.2.2.2.2.1
theorem dJ6_numberOfTrailingZeros_0f7a4_6 : decode cJ6_numberOfTrailingZeros_0f7a4 6 = .ok (.iand, 1) := eJ6_numberOfTrailingZeros_0f7a4_0q.2.2.2.2.2.2.1
theorem dJ6_numberOfTrailingZeros_0f7a4_7 : decode cJ6_numberOfTrailingZeros_0f7a4 7 = .ok (.istore_n 0, 1) := eJ6_numberOfTrailingZeros_0f7a4_0q.2.2.2.2.2.2.2
theorem eJ6_numberOfTrailingZeros_0f7a4_8q : (decode cJ6_numberOfTrailingZeros_0f7a4 8 = .ok (.iload_n 0, 1)) ∧ (decode cJ6_numberOfTrailingZeros_0f7a4 9 = .ok (.ifCond .gt 8, 3)) ∧ (decode cJ6_numberOfTrailingZeros_0f7a4 12 = .ok (.iload_n 0, 1)) ∧ (decode cJ6_numberOfTrailingZeros_0f7a4 13 = .ok (.bipush 32, 2)) ∧ (decode cJ6_numberOfTrailingZeros_0f7a4 15 = .ok (.iand, 1)) ∧ (decode cJ6_numberOfTrailingZeros_0f7a4 16 = .ok (.ireturn, 1)) ∧ (decode cJ6_numberOfTrailingZeros_0f7a4 17 = .ok (.iconst 1, 1)) ∧ (decode cJ6_numberOfTrailingZeros_0f7a4 18 = .ok (.istore_n 1, 1)) := by decide +kernel
theorem dJ6_numberOfTrailingZeros_0f7a4_8 : decode cJ6_numberOfTrailingZeros_0f7a4 8 = .ok (.iload_n 0, 1) := eJ6_numberOfTrailingZeros_0f7a4_8q.1
theorem dJ6_numberOfTrailingZeros_0f7a4_9 : decode cJ6_numberOfTrailingZeros_0f7a4 9 = .ok (.ifCond .gt 8, 3) := eJ6_numberOfTrailingZeros_0f7a4_8q.2.1
theorem dJ6_numberOfTrailingZeros_0f7a4_12 : decode cJ6_numberOfTrailingZeros_0f7a4 12 = .ok (.iload_n 0, 1) := eJ6_numberOfTrailingZeros_0f7a4_8q.2.2.1
theorem dJ6_numberOfTrailingZeros_0f7a4_13 : decode cJ6_numberOfTrailingZeros_0f7a4 13 = .ok (.bipush 32, 2) := eJ6_numberOfTrailingZeros_0f7a4_8q.2.2.2.1
theorem dJ6_numberOfTrailingZeros_0f7a4_15 : decode cJ6_numberOfTrailingZeros_0f7a4 15 = .ok (.iand, 1) := eJ6_numberOfTrailingZeros_0f7a4_8q.2.2.2.2.1
theorem dJ6_numberOfTrailingZeros_0f7a4_16 : decode cJ6_numberOfTrailingZeros_0f7a4 16 = .ok (.ireturn, 1) := eJ6_numberOfTrailingZeros_0f7a4_8q.2.2.2.2.2.1
theorem dJ6_numberOfTrailingZeros_0f7a4_17 : decode cJ6_numberOfTrailingZeros_0f7a4 17 = .ok (.iconst 1, 1) := eJ6_numberOfTrailingZeros_0f7a4_8q.2.2.2.2.2.2.1
theorem dJ6_numberOfTrailingZeros_0f7a4_18 : decode cJ6_numberOfTrailingZeros_0f7a4 18 = .ok (.istore_n 1, 1) := eJ6_numberOfTrailingZeros_0f7a4_8q.2.2.2.2.2.2.2
theorem eJ6_numberOfTrailingZeros_0f7a4_19q : (decode cJ6_numberOfTrailingZeros_0f7a4 19 = .ok (.iload_n 0, 1)) ∧ (decode cJ6_numberOfTrailingZeros_0f7a4 20 = .ok (.ldc_w 264, 3)) ∧ (decode cJ6_numberOfTrailingZeros_0f7a4 23 = .ok (.if_icmp .le 11, 3)) ∧ (decode cJ6_numberOfTrailingZeros_0f7a4 26 = .ok (.iinc 1 16, 3)) ∧ (decode cJ6_numberOfTrailingZeros_0f7a4 29 = .ok (.iload_n 0, 1)) ∧ (decode cJ6_numberOfTrailingZeros_0f7a4 30 = .ok (.bipush 16, 2)) ∧ (decode cJ6_numberOfTrailingZeros_0f7a4 32 = .ok (.iushr, 1)) ∧ (decode cJ6_numberOfTrailingZeros_0f7a4 33 = .ok (.istore_n 0, 1)) := by decide +kernel
theorem dJ6_numberOfTrailingZeros_0f7a4_19 : decode cJ6_numberOfTrailingZeros_0f7a4 19 = .ok (.iload_n 0, 1) := eJ6_numberOfTrailingZeros_0f7a4_19q.1
theorem dJ6_numberOfTrailingZeros_0f7a4_20 : decode cJ6_numberOfTrailingZeros_0f7a4 20 = .ok (.ldc_w 264, 3) := eJ6_numberOfTrailingZeros_0f7a4_19q.2.1
theorem dJ6_numberOfTrailingZeros_0f7a4_23 : decode cJ6_numberOfTrailingZeros_0f7a4 23 = .ok (.if_icmp .le 11, 3) := eJ6_numberOfTrailingZeros_0f7a4_19q.2.2.1
theorem dJ6_numberOfTrailingZeros_0f7a4_26 : decode cJ6_numberOfTrailingZeros_0f7a4 26 = .ok (.iinc 1 16, 3) := eJ6_numberOfTrailingZeros_0f7a4_19q.2.2.2.1
theorem dJ6_numberOfTrailingZeros_0f7a4_29 : decode cJ6_numberOfTrailingZeros_0f7a4 29 = .ok (.iload_n 0, 1) := eJ6_numberOfTrailingZeros_0f7a4_19q.2.2.2.2.1
theorem dJ6_numberOfTrailingZeros_0f7a4_30 : decode cJ6_numberOfTrailingZeros_0f7a4 30 = .ok (.bipush 16, 2) := eJ6_numberOfTrailingZeros_0f7a4_19q.2.2.2.2.2.1
theorem dJ6_numberOfTrailingZeros_0f7a4_32 : decode cJ6_numberOfTrailingZeros_0f7a4 32 = .ok (.iushr, 1) := eJ6_numberOfTrailingZeros_0f7a4_19q.2.2.2.2.2.2.1
theorem dJ6_numberOfTrailingZeros_0f7a4_33 : decode cJ6_numberOfTrailingZeros_0f7a4 33 = .ok (.istore_n 0, 1) := eJ6_numberOfTrailingZeros_0f7a4_19q.2.2.2.2.2.2.2
theorem eJ6_numberOfTrailingZeros_0f7a4_34q : (decode cJ6_numberOfTrailingZeros_0f7a4 34 = .ok (.iload_n 0, 1)) ∧ (decode cJ6_numberOfTrailingZeros_0f7a4 35 = .ok (.sipush 256, 3)) ∧ (decode cJ6_numberOfTrailingZeros_0f7a4 38 = .ok (.if_icmp .le 11, 3)) ∧ (decode cJ6_numberOfTrailingZeros_0f7a4 41 = .ok (.iinc 1 8, 3)) ∧ (decode cJ6_numberOfTrailingZeros_0f7a4 44 = .ok (.iload_n 0, 1)) ∧ (decode cJ6_numberOfTrailingZeros_0f7a4 45 = .ok (.bipush 8, 2)) ∧ (decode cJ6_numberOfTrailingZeros_0f7a4 47 = .ok (.iushr, 1)) ∧ (decode cJ6_numberOfTrailingZeros_0f7a4 48 = .ok (.istore_n 0, 1)) := by decide +kernel
theorem dJ6_numberOfTrailingZeros_0f7a4_34 : decode cJ6_numberOfTrailingZeros_0f7a4 34 = .ok (.iload_n 0, 1) := eJ6_numberOfTrailingZeros_0f7a4_34q.1
theorem dJ6_numberOfTrailingZeros_0f7a4_35 : decode cJ6_numberOfTrailingZeros_0f7a4 35 = .ok (.sipush 256, 3) := eJ6_numberOfTrailingZeros_0f7a4_34q.2.1
theorem dJ6_numberOfTrailingZeros_0f7a4_38 : decode cJ6_numberOfTrailingZeros_0f7a4 38 = .ok (.if_icmp .le 11, 3) := eJ6_numberOfTrailingZeros_0f7a4_34q.2.2.1
theorem dJ6_numberOfTrailingZeros_0f7a4_41 : decode cJ6_numberOfTrailingZeros_0f7a4 41 = .ok (.iinc 1 8, 3) := eJ6_numberOfTrailingZeros_0f7a4_34q.2.2.2.1
theorem dJ6_numberOfTrailingZeros_0f7a4_44 : decode cJ6_numberOfTrailingZeros_0f7a4 44 = .ok (.iload_n 0, 1) := eJ6_numberOfTrailingZeros_0f7a4_34q.2.2.2.2.1
theorem dJ6_numberOfTrailingZeros_0f7a4_45 : decode cJ6_numberOfTrailingZeros_0f7a4 45 = .ok (.bipush 8, 2) := eJ6_numberOfTrailingZeros_0f7a4_34q.2.2.2.2.2.1
theorem dJ6_numberOfTrailingZeros_0f7a4_47 : decode cJ6_numberOfTrailingZeros_0f7a4 47 = .ok (.iushr, 1) := eJ6_numberOfTrailingZeros_0f7a4_34q.2.2.2.2.2.2.1
theorem dJ6_numberOfTrailingZeros_0f7a4_48 : decode cJ6_numberOfTrailingZeros_0f7a4 48 = .ok (.istore_n 0, 1) := eJ6_numberOfTrailingZeros_0f7a4_34q.2.2.2.2.2.2.2
theorem eJ6_numberOfTrailingZeros_0f7a4_49q : (decode cJ6_numberOfTrailingZeros_0f7a4 49 = .ok (.iload_n 0, 1)) ∧ (decode cJ6_numberOfTrailingZeros_0f7a4 50 = .ok (.bipush 16, 2)) ∧ (decode cJ6_numberOfTrailingZeros_0f7a4 52 = .ok (.if_icmp .le 10, 3)) ∧ (decode cJ6_numberOfTrailingZeros_0f7a4 55 = .ok (.iinc 1 4, 3)) ∧ (decode cJ6_numberOfTrailingZeros_0f7a4 58 = .ok (.iload_n 0, 1)) ∧ (decode cJ6_numberOfTrailingZeros_0f7a4 59 = .ok (.iconst 4, 1)) ∧ (decode cJ6_numberOfTrailingZeros_0f7a4 60 = .ok (.iushr, 1)) ∧ (decode cJ6_numberOfTrailingZeros_0f7a4 61 = .ok (.istore_n 0, 1)) := by decide +kernel
theorem dJ6_numberOfTrailingZeros_0f7a4_49 : decode cJ6_numberOfTrailingZeros_0f7a4 49 = .ok (.iload_n 0, 1) := eJ6_numberOfTrailingZeros_0f7a4_49q.1
theorem dJ6_numberOfTrailingZeros_0f7a4_50 : decode cJ6_numberOfTrailingZeros_0f7a4 50 = .ok (.bipush 16, 2) := eJ6_numberOfTrailingZeros_0f7a4_49q.2.1
theorem dJ6_numberOfTrailingZeros_0f7a4_52 : decode cJ6_numberOfTrailingZeros_0f7a4 52 = .ok (.if_icmp .le 10, 3) := eJ6_numberOfTrailingZeros_0f7a4_49q.2.2.1
theorem dJ6_numberOfTrailingZeros_0f7a4_55 : decode cJ6_numberOfTrailingZeros_0f7a4 55 = .ok (.iinc 1 4, 3) := eJ6_numberOfTrailingZeros_0f7a4_49q.2.2.2.1
theorem dJ6_numberOfTrailingZeros_0f7a4_58 : decode cJ6_numberOfTrailingZeros_0f7a4 58 = .ok (.iload_n 0, 1) := eJ6_numberOfTrailingZeros_0f7a4_49q.2.2.2.2.1
theorem dJ6_numberOfTrailingZeros_0f7a4_59 : decode cJ6_numberOfTrailingZeros_0f7a4 59 = .ok (.iconst 4, 1) := eJ6_numberOfTrailingZeros_0f7a4_49q.2.2.2.2.2.1
theorem dJ6_numberOfTrailingZeros_0f7a4_60 : decode cJ6_numberOfTrailingZeros_0f7a4 60 = .ok (.iushr, 1) := eJ6_numberOfTrailingZeros_0f7a4_49q.2.2.2.2.2.2.1
theorem dJ6_numberOfTrailingZeros_0f7a4_61 : decode cJ6_numberOfTrailingZeros_0f7a4 61 = .ok (.istore_n 0, 1) := eJ6_numberOfTrailingZeros_0f7a4_49q.2.2.2.2.2.2.2
theorem eJ6_numberOfTrailingZeros_0f7a4_62q : (decode cJ6_numberOfTrailingZeros_0f7a4 62 = .ok (.iload_n 0, 1)) ∧ (decode cJ6_numberOfTrailingZeros_0f7a4 63 = .ok (.iconst 4, 1)) ∧ (decode cJ6_numberOfTrailingZeros_0f7a4 64 = .ok (.if_icmp .le 10, 3)) ∧ (decode cJ6_numberOfTrailingZeros_0f7a4 67 = .ok (.iinc 1 2, 3)) ∧ (decode cJ6_numberOfTrailingZeros_0f7a4 70 = .ok (.iload_n 0, 1)) ∧ (decode cJ6_numberOfTrailingZeros_0f7a4 71 = .ok (.iconst 2, 1)) ∧ (decode cJ6_numberOfTrailingZeros_0f7a4 72 = .ok (.iushr, 1)) ∧ (decode cJ6_numberOfTrailingZeros_0f7a4 73 = .ok (.istore_n 0, 1)) := by decide +kernel
theorem dJ6_numberOfTrailingZeros_0f7a4_62 : decode cJ6_numberOfTrailingZeros_0f7a4 62 = .ok (.iload_n 0, 1) := eJ6_numberOfTrailingZeros_0f7a4_62q.1
theorem dJ6_numberOfTrailingZeros_0f7a4_63 : decode cJ6_numberOfTrailingZeros_0f7a4 63 = .ok (.iconst 4, 1) := eJ6_numberOfTrailingZeros_0f7a4_62q.2.1
theorem dJ6_numberOfTrailingZeros_0f7a4_64 : decode cJ6_numberOfTrailingZeros_0f7a4 64 = .ok (.if_icmp .le 10, 3) := eJ6_numberOfTrailingZeros_0f7a4_62q.2.2.1
theorem dJ6_numberOfTrailingZeros_0f7a4_67 : decode cJ6_numberOfTrailingZeros_0f7a4 67 = .ok (.iinc 1 2, 3) := eJ6_numberOfTrailingZeros_0f7a4_62q.2.2.2.1
theorem dJ6_numberOfTrailingZeros_0f7a4_70 : decode cJ6_numberOfTrailingZeros_0f7a4 70 = .ok (.iload_n 0, 1) := eJ6_numberOfTrailingZeros_0f7a4_62q.2.2.2.2.1
theorem dJ6_numberOfTrailingZeros_0f7a4_71 : decode cJ6_numberOfTrailingZeros_0f7a4 71 = .ok (.iconst 2, 1) := eJ6_numberOfTrailingZeros_0f7a4_62q.2.2.2.2.2.1
theorem dJ6_numberOfTrailingZeros_0f7a4_72 : decode cJ6_numberOfTrailingZeros_0f7a4 72 = .ok (.iushr, 1) := eJ6_numberOfTrailingZeros_0f7a4_62q.2.2.2.2.2.2.1
theorem dJ6_numberOfTrailingZeros_0f7a4_73 : decode cJ6_numberOfTrailingZeros_0f7a4 73 = .ok (.istore_n 0, 1) := eJ6_numberOfTrailingZeros_0f7a4_62q.2.2.2.2.2.2.2
theorem eJ6_numberOfTrailingZeros_0f7a4_74q : (decode cJ6_numberOfTrailingZeros_0f7a4 74 = .ok (.iload_n 1, 1)) ∧ (decode cJ6_numberOfTrailingZeros_0f7a4 75 = .ok (.iload_n 0, 1)) ∧ (decode cJ6_numberOfTrailingZeros_0f7a4 76 = .ok (.iconst 1, 1)) ∧ (decode cJ6_numberOfTrailingZeros_0f7a4 77 = .ok (.iushr, 1)) ∧ (decode cJ6_numberOfTrailingZeros_0f7a4 78 = .ok (.iadd, 1)) ∧ (decode cJ6_numberOfTrailingZeros_0f7a4 79 = .ok (.ireturn, 1)) := by decide +kernel
theorem dJ6_numberOfTrailingZeros_0f7a4_74 : decode cJ6_numberOfTrailingZeros_0f7a4 74 = .ok (.iload_n 1, 1) := eJ6_numberOfTrailingZeros_0f7a4_74q.1
theorem dJ6_numberOfTrailingZeros_0f7a4_75 : decode cJ6_numberOfTrailingZeros_0f7a4 75 = .ok (.iload_n 0, 1) := eJ6_numberOfTrailingZeros_0f7a4_74q.2.1
theorem dJ6_numberOfTrailingZeros_0f7a4_76 : decode cJ6_numberOfTrailingZeros_0f7a4 76 = .ok (.iconst 1, 1) := eJ6_numberOfTrailingZeros_0f7a4_74q.2.2.1
theorem dJ6_numberOfTrailingZeros_0f7a4_77 : decode cJ6_numberOfTrailingZeros_0f7a4 77 = .ok (.iushr, 1) := eJ6_numberOfTrailingZeros_0f7a4_74q.2.2.2.1
theorem dJ6_numberOfTrailingZeros_0f7a4_78 : decode cJ6_numberOfTrailingZeros_0f7a4 78 = .ok (.iadd, 1) := eJ6_numberOfTrailingZeros_0f7a4_74q.2.2.2.2.1
theorem dJ6_numberOfTrailingZeros_0f7a4_79 : decode cJ6_numberOfTrailingZeros_0f7a4 79 = .ok (.ireturn, 1) := eJ6_numberOfTrailingZeros_0f7a4_74q.2.2.2.2.2
set_option maxRecDepth 20000 in
theorem ggJ13_numberOfTrailingZeros_95d88_J6_numberOfTrailingZeros_0f7a4 : GoodIn wsJ13_numberOfTrailingZeros_95d88 wsJ6_numberOfTrailingZeros_0f7a4 := goodIn_r _ [4, 5] rfl (by decide +kernel)
set_option maxRecDepth 20000 in
theorem gJ13_numberOfTrailingZeros_95d88_J6_numberOfTrailingZeros_0f7a4 : GoodIn wsJ13_numberOfTrailingZeros_95d88 (va_wsS RJ13 311 yJ6_numberOfTrailingZeros_0f7a4 wsJ6_numberOfTrailingZeros_0f7a4) := goodIn_app (goodIn_r _ [1, 2, 3] rfl (by decide +kernel)) ggJ13_numberOfTrailingZeros_95d88_J6_numberOfTrailingZeros_0f7a4
theorem eJ13_numberOfTrailingZeros_95d88_0q : (decode cJ13_numberOfTrailingZeros_95d88 0 = .ok (.lload_n 0, 1)) ∧ (decode cJ13_numberOfTrailingZeros_95d88 1 = .ok (.l2i, 1)) ∧ (decode cJ13_numberOfTrailingZeros_95d88 2 = .ok (.istore_n 2, 1)) ∧ (decode cJ13_numberOfTrailingZeros_95d88 3 = .ok (.iload_n 2, 1)) ∧ (decode cJ13_numberOfTrailingZeros_95d88 4 = .ok (.ifCond .ne 17, 3)) ∧ (decode cJ13_numberOfTrailingZeros_95d88 7 = .ok (.bipush 32, 2)) ∧ (decode cJ13_numberOfTrailingZeros_95d88 9 = .ok (.lload_n 0, 1)) ∧ (decode cJ13_numberOfTrailingZeros_95d88 10 = .ok (.bipush 32, 2)) := by decide +kernel
theorem dJ13_numberOfTrailingZeros_95d88_0 : decode cJ13_numberOfTrailingZeros_95d88 0 = .ok (.lload_n 0, 1) := eJ13_numberOfTrailingZeros_95d88_0q.1
theorem dJ13_numberOfTrailingZeros_95d88_1 : decode cJ13_numberOfTrailingZeros_95d88 1 = .ok (.l2i, 1) := eJ13_numberOfTrailingZeros_95d88_0q.2.1
theorem dJ13_numberOfTrailingZeros_95d88_2 : decode cJ13_numberOfTrailingZeros_95d88 2 = .ok (.istore_n 2, 1) := eJ13_numberOfTrailingZeros_95d88_0q.2.2.1
theorem dJ13_numberOfTrailingZeros_95d88_3 : decode cJ13_numberOfTrailingZeros_95d88 3 = .ok (.iload_n 2, 1) := eJ13_numberOfTrailingZeros_95d88_0q.2.2.2.1
theorem dJ13_numberOfTrailingZeros_95d88_4 : decode cJ13_numberOfTrailingZeros_95d88 4 = .ok (.ifCond .ne 17, 3) := eJ13_numberOfTrailingZeros_95d88_0q.2.2.2.2.1
theorem dJ13_numberOfTrailingZeros_95d88_7 : decode cJ13_numberOfTrailingZeros_95d88 7 = .ok (.bipush 32, 2) := eJ13_numberOfTrailingZeros_95d88_0q.2.2.2.2.2.1
theorem dJ13_numberOfTrailingZeros_95d88_9 : decode cJ13_numberOfTrailingZeros_95d88 9 = .ok (.lload_n 0, 1) := eJ13_numberOfTrailingZeros_95d88_0q.2.2.2.2.2.2.1
theorem dJ13_numberOfTrailingZeros_95d88_10 : decode cJ13_numberOfTrailingZeros_95d88 10 = .ok (.bipush 32, 2) := eJ13_numberOfTrailingZeros_95d88_0q.2.2.2.2.2.2.2
theorem eJ13_numberOfTrailingZeros_95d88_12q : (decode cJ13_numberOfTrailingZeros_95d88 12 = .ok (.lushr, 1)) ∧ (decode cJ13_numberOfTrailingZeros_95d88 13 = .ok (.l2i, 1)) ∧ (decode cJ13_numberOfTrailingZeros_95d88 14 = .ok (.invokestatic 311, 3)) ∧ (decode cJ13_numberOfTrailingZeros_95d88 17 = .ok (.iadd, 1)) ∧ (decode cJ13_numberOfTrailingZeros_95d88 18 = .ok (.goto 7, 3)) ∧ (decode cJ13_numberOfTrailingZeros_95d88 21 = .ok (.iload_n 2, 1)) ∧ (decode cJ13_numberOfTrailingZeros_95d88 22 = .ok (.invokestatic 311, 3)) ∧ (decode cJ13_numberOfTrailingZeros_95d88 25 = .ok (.ireturn, 1)) := by decide +kernel
theorem dJ13_numberOfTrailingZeros_95d88_12 : decode cJ13_numberOfTrailingZeros_95d88 12 = .ok (.lushr, 1) := eJ13_numberOfTrailingZeros_95d88_12q.1
theorem dJ13_numberOfTrailingZeros_95d88_13 : decode cJ13_numberOfTrailingZeros_95d88 13 = .ok (.l2i, 1) := eJ13_numberOfTrailingZeros_95d88_12q.2.1
theorem dJ13_numberOfTrailingZeros_95d88_14 : decode cJ13_numberOfTrailingZeros_95d88 14 = .ok (.invokestatic 311, 3) := eJ13_numberOfTrailingZeros_95d88_12q.2.2.1
theorem dJ13_numberOfTrailingZeros_95d88_17 : decode cJ13_numberOfTrailingZeros_95d88 17 = .ok (.iadd, 1) := eJ13_numberOfTrailingZeros_95d88_12q.2.2.2.1
theorem dJ13_numberOfTrailingZeros_95d88_18 : decode cJ13_numberOfTrailingZeros_95d88 18 = .ok (.goto 7, 3) := eJ13_numberOfTrailingZeros_95d88_12q.2.2.2.2.1
theorem dJ13_numberOfTrailingZeros_95d88_21 : decode cJ13_numberOfTrailingZeros_95d88 21 = .ok (.iload_n 2, 1) := eJ13_numberOfTrailingZeros_95d88_12q.2.2.2.2.2.1
theorem dJ13_numberOfTrailingZeros_95d88_22 : decode cJ13_numberOfTrailingZeros_95d88 22 = .ok (.invokestatic 311, 3) := eJ13_numberOfTrailingZeros_95d88_12q.2.2.2.2.2.2.1
theorem dJ13_numberOfTrailingZeros_95d88_25 : decode cJ13_numberOfTrailingZeros_95d88 25 = .ok (.ireturn, 1) := eJ13_numberOfTrailingZeros_95d88_12q.2.2.2.2.2.2.2
theorem eJ13_bitCount_95d88_0q : (decode cJ13_bitCount_95d88 0 = .ok (.lload_n 0, 1)) ∧ (decode cJ13_bitCount_95d88 1 = .ok (.lload_n 0, 1)) ∧ (decode cJ13_bitCount_95d88 2 = .ok (.iconst 1, 1)) ∧ (decode cJ13_bitCount_95d88 3 = .ok (.lushr, 1)) ∧ (decode cJ13_bitCount_95d88 4 = .ok (.ldc2_w 314, 3)) ∧ (decode cJ13_bitCount_95d88 7 = .ok (.land, 1)) ∧ (decode cJ13_bitCount_95d88 8 = .ok (.lsub, 1)) ∧ (decode cJ13_bitCount_95d88 9 = .ok (.lstore_n 0, 1)) := by decide +kernel
theorem dJ13_bitCount_95d88_0 : decode cJ13_bitCount_95d88 0 = .ok (.lload_n 0, 1) := eJ13_bitCount_95d88_0q.1
theorem dJ13_bitCount_95d88_1 : decode cJ13_bitCount_95d88 1 = .ok (.lload_n 0, 1) := eJ13_bitCount_95d88_0q.2.1
theorem dJ13_bitCount_95d88_2 : decode cJ13_bitCount_95d88 2 = .ok (.iconst 1, 1) := eJ13_bitCount_95d88_0q.2.2.1
theorem dJ13_bitCount_95d88_3 : decode cJ13_bitCount_95d88 3 = .ok (.lushr, 1) := eJ13_bitCount_95d88_0q.2.2.2.1
theorem dJ13_bitCount_95d88_4 : decode cJ13_bitCount_95d88 4 = .ok (.ldc2_w 314, 3) := eJ13_bitCount_95d88_0q.2.2.2.2.1
theorem dJ13_bitCount_95d88_7 : decode cJ13_bitCount_95d88 7 = .ok (.land, 1) := eJ13_bitCount_95d88_0q.2.2.2.2.2.1
theorem dJ13_bitCount_95d88_8 : decode cJ13_bitCount_95d88 8 = .ok (.lsub, 1) := eJ13_bitCount_95d88_0q.2.2.2.2.2.2.1
theorem dJ13_bitCount_95d88_9 : decode cJ13_bitCount_95d88 9 = .ok (.lstore_n 0, 1) := eJ13_bitCount_95d88_0q.2.2.2.2.2.2.2
theorem eJ13_bitCount_95d88_10q : (decode cJ13_bitCount_95d88 10 = .ok (.lload_n 0, 1)) ∧ (decode cJ13_bitCount_95d88 11 = .ok (.ldc2_w 316, 3)) ∧ (decode cJ13_bitCount_95d88 14 = .ok (.land, 1)) ∧ (decode cJ13_bitCount_95d88 15 = .ok (.lload_n 0, 1)) ∧ (decode cJ13_bitCount_95d88 16 = .ok (.iconst 2, 1)) ∧ (decode cJ13_bitCount_95d88 17 = .ok (.lushr, 1)) ∧ (decode cJ13_bitCount_95d88 18 = .ok (.ldc2_w 316, 3)) ∧ (decode cJ13_bitCount_95d88 21 = .ok (.land, 1)) := by decide +kernel
theorem dJ13_bitCount_95d88_10 : decode cJ13_bitCount_95d88 10 = .ok (.lload_n 0, 1) := eJ13_bitCount_95d88_10q.1
theorem dJ13_bitCount_95d88_11 : decode cJ13_bitCount_95d88 11 = .ok (.ldc2_w 316, 3) := eJ13_bitCount_95d88_10q.2.1
theorem dJ13_bitCount_95d88_14 : decode cJ13_bitCount_95d88 14 = .ok (.land, 1) := eJ13_bitCount_95d88_10q.2.2.1
theorem dJ13_bitCount_95d88_15 : decode cJ13_bitCount_95d88 15 = .ok (.lload_n 0, 1) := eJ13_bitCount_95d88_10q.2.2.2.1
theorem dJ13_bitCount_95d88_16 : decode cJ13_bitCount_95d88 16 = .ok (.iconst 2, 1) := eJ13_bitCount_95d88_10q.2.2.2.2.1
theorem dJ13_bitCount_95d88_17 : decode cJ13_bitCount_95d88 17 = .ok (.lushr, 1) := eJ13_bitCount_95d88_10q.2.2.2.2.2.1
theorem dJ13_bitCount_95d88_18 : decode cJ13_bitCount_95d88 18 = .ok (.ldc2_w 316, 3) := eJ13_bitCount_95d88_10q.2.2.2.2.2.2.1
theorem dJ13_bitCount_95d88_21 : decode cJ13_bitCount_95d88 21 = .ok (.land, 1) := eJ13_bitCount_95d88_10q.2.2.2.2.2.2.2
theorem eJ13_bitCount_95d88_22q : (decode cJ13_bitCount_95d88 22 = .ok (.ladd, 1)) ∧ (decode cJ13_bitCount_95d88 23 = .ok (.lstore_n 0, 1)) ∧ (decode cJ13_bitCount_95d88 24 = .ok (.lload_n 0, 1)) ∧ (decode cJ13_bitCount_95d88 25 = .ok (.lload_n 0, 1)) ∧ (decode cJ13_bitCount_95d88 26 = .ok (.iconst 4, 1)) ∧ (decode cJ13_bitCount_95d88 27 = .ok (.lushr, 1)) ∧ (decode cJ13_bitCount_95d88 28 = .ok (.ladd, 1)) ∧ (decode cJ13_bitCount_95d88 29 = .ok (.ldc2_w 318, 3)) := by decide +kernel
theorem dJ13_bitCount_95d88_22 : decode cJ13_bitCount_95d88 22 = .ok (.ladd, 1) := eJ13_bitCount_95d88_22q.1
theorem dJ13_bitCount_95d88_23 : decode cJ13_bitCount_95d88 23 = .ok (.lstore_n 0, 1) := eJ13_bitCount_95d88_22q.2.1
theorem dJ13_bitCount_95d88_24 : decode cJ13_bitCount_95d88 24 = .ok (.lload_n 0, 1) := eJ13_bitCount_95d88_22q.2.2.1
theorem dJ13_bitCount_95d88_25 : decode cJ13_bitCount_95d88 25 = .ok (.lload_n 0, 1) := eJ13_bitCount_95d88_22q.2.2.2.1
theorem dJ13_bitCount_95d88_26 : decode cJ13_bitCount_95d88 26 = .ok (.iconst 4, 1) := eJ13_bitCount_95d88_22q.2.2.2.2.1
theorem dJ13_bitCount_95d88_27 : decode cJ13_bitCount_95d88 27 = .ok (.lushr, 1) := eJ13_bitCount_95d88_22q.2.2.2.2.2.1
theorem dJ13_bitCount_95d88_28 : decode cJ13_bitCount_95d88 28 = .ok (.ladd, 1) := eJ13_bitCount_95d88_22q.2.2.2.2.2.2.1
theorem dJ13_bitCount_95d88_29 : decode cJ13_bitCount_95d88 29 = .ok (.ldc2_w 318, 3) := eJ13_bitCount_95d88_22q.2.2.2.2.2.2.2
theorem eJ13_bitCount_95d88_32q : (decode cJ13_bitCount_95d88 32 = .ok (.land, 1)) ∧ (decode cJ13_bitCount_95d88 33 = .ok (.lstore_n 0, 1)) ∧ (decode cJ13_bitCount_95d88 34 = .ok (.lload_n 0, 1)) ∧ (decode cJ13_bitCount_95d88 35 = .ok (.lload_n 0, 1)) ∧ (decode cJ13_bitCount_95d88 36 = .ok (.bipush 8, 2)) ∧ (decode cJ13_bitCount_95d88 38 = .ok (.lushr, 1)) ∧ (decode cJ13_bitCount_95d88 39 = .ok (.ladd, 1)) ∧ (decode cJ13_bitCount_95d88 40 = .ok (.lstore_n 0, 1)) := by decide +kernel
theorem dJ13_bitCount_95d88_32 : decode cJ13_bitCount_95d88 32 = .ok (.land, 1) := eJ13_bitCount_95d88_32q.1
theorem dJ13_bitCount_95d88_33 : decode cJ13_bitCount_95d88 33 = .ok (.lstore_n 0, 1) := eJ13_bitCount_95d88_32q.2.1
theorem dJ13_bitCount_95d88_34 : decode cJ13_bitCount_95d88 34 = .ok (.lload_n 0, 1) := eJ13_bitCount_95d88_32q.2.2.1
theorem dJ13_bitCount_95d88_35 : decode cJ13_bitCount_95d88 35 = .ok (.lload_n 0, 1) := eJ13_bitCount_95d88_32q.2.2.2.1
theorem dJ13_bitCount_95d88_36 : decode cJ13_bitCount_95d88 36 = .ok (.bipush 8, 2) := eJ13_bitCount_95d88_32q.2.2.2.2.1
theorem dJ13_bitCount_95d88_38 : decode cJ13_bitCount_95d88 38 = .ok (.lushr, 1) := eJ13_bitCount_95d88_32q.2.2.2.2.2.1
theorem dJ13_bitCount_95d88_39 : decode cJ13_bitCount_95d88 39 = .ok (.ladd, 1) := eJ13_bitCount_95d88_32q.2.2.2.2.2.2.1
theorem dJ13_bitCount_95d88_40 : decode cJ13_bitCount_95d88 40 = .ok (.lstore_n 0, 1) := eJ13_bitCount_95d88_32q.2.2.2.2.2.2.2
theorem eJ13_bitCount_95d88_41q : (decode cJ13_bitCount_95d88 41 = .ok (.lload_n 0, 1)) ∧ (decode cJ13_bitCount_95d88 42 = .ok (.lload_n 0, 1)) ∧ (decode cJ13_bitCount_95d88 43 = .ok (.bipush 16, 2)) ∧ (decode cJ13_bitCount_95d88 45 = .ok (.lushr, 1)) ∧ (decode cJ13_bitCount_95d88 46 = .ok (.ladd, 1)) ∧ (decode cJ13_bitCount_95d88 47 = .ok (.lstore_n 0, 1)) ∧ (decode cJ13_bitCount_95d88 48 = .ok (.lload_n 0, 1)) ∧ (decode cJ13_bitCount_95d88 49 = .ok (.lload_n 0, 1)) := by decide +kernel
theorem dJ13_bitCount_95d88_41 : decode cJ13_bitCount_95d88 41 = .ok (.lload_n 0, 1) := eJ13_bitCount_95d88_41q.1
theorem dJ13_bitCount_95d88_42 : decode cJ13_bitCount_95d88 42 = .ok (.lload_n 0, 1) := eJ13_bitCount_95d88_41q.2.1
theorem dJ13_bitCount_95d88_43 : decode cJ13_bitCount_95d88 43 = .ok (.bipush 16, 2) := eJ13_bitCount_95d88_41q.2.2.1
theorem dJ13_bitCount_95d88_45 : decode cJ13_bitCount_95d88 45 = .ok (.lushr, 1) := eJ13_bitCount_95d88_41q.2.2.2.1
theorem dJ13_bitCount_95d88_46 : decode cJ13_bitCount_95d88 46 = .ok (.ladd, 1) := eJ13_bitCount_95d88_41q.2.2.2.2.1
theorem dJ13_bitCount_95d88_47 : decode cJ13_bitCount_95d88 47 = .ok (.lstore_n 0, 1) := eJ13_bitCount_95d88_41q.2.2.2.2.2.1
theorem dJ13_bitCount_95d88_48 : decode cJ13_bitCount_95d88 48 = .ok (.lload_n 0, 1) := eJ13_bitCount_95d88_41q.2.2.2.2.2.2.1
theorem dJ13_bitCount_95d88_49 : decode cJ13_bitCount_95d88 49 = .ok (.lload_n 0, 1) := eJ13_bitCount_95d88_41q.2.2.2.2.2.2.2
theorem eJ13_bitCount_95d88_50q : (decode cJ13_bitCount_95d88 50 = .ok (.bipush 32, 2)) ∧ (decode cJ13_bitCount_95d88 52 = .ok (.lushr, 1)) ∧ (decode cJ13_bitCount_95d88 53 = .ok (.ladd, 1)) ∧ (decode cJ13_bitCount_95d88 54 = .ok (.lstore_n 0, 1)) ∧ (decode cJ13_bitCount_95d88 55 = .ok (.lload_n 0, 1)) ∧ (decode cJ13_bitCount_95d88 56 = .ok (.l2i, 1)) ∧ (decode cJ13_bitCount_95d88 57 = .ok (.bipush 127, 2)) ∧ (decode cJ13_bitCount_95d88 59 = .ok (.iand, 1)) := by decide +kernel
theorem dJ13_bitCount_95d88_50 : decode cJ13_bitCount_95d88 50 = .ok (.bipush 32, 2) := eJ13_bitCount_95d88_50q.1
theorem dJ13_bitCount_95d88_52 : decode cJ13_bitCount_95d88 52 = .ok (.lushr, 1) := eJ13_bitCount_95d88_50q.2.1
theorem dJ13_bitCount_95d88_53 : decode cJ13_bitCount_95d88 53 = .ok (.ladd, 1) := eJ13_bitCount_95d88_50q.2.2.1
theorem dJ13_bitCount_95d88_54 : decode cJ13_bitCount_95d88 54 = .ok (.lstore_n 0, 1) := eJ13_bitCount_95d88_50q.2.2.2.1
theorem dJ13_bitCount_95d88_55 : decode cJ13_bitCount_95d88 55 = .ok (.lload_n 0, 1) := eJ13_bitCount_95d88_50q.2.2.2.2.1
theorem dJ13_bitCount_95d88_56 : decode cJ13_bitCount_95d88 56 = .ok (.l2i, 1) := eJ13_bitCount_95d88_50q.2.2.2.2.2.1
theorem dJ13_bitCount_95d88_57 : decode cJ13_bitCount_95d88 57 = .ok (.bipush 127, 2) := eJ13_bitCount_95d88_50q.2.2.2.2.2.2.1
theorem dJ13_bitCount_95d88_59 : decode cJ13_bitCount_95d88 59 = .ok (.iand, 1) := eJ13_bitCount_95d88_50q.2.2.2.2.2.2.2
theorem dJ13_bitCount_95d88_60 : decode cJ13_bitCount_95d88 60 = .ok (.ireturn, 1) := by decide +kernel
