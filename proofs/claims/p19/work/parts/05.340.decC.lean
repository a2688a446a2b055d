set_option maxRecDepth 20000 in
theorem ggX10_feed_X8_hasRoomFor : GoodIn wsX10_feed wsX8_hasRoomFor := by
  have h := goodIn_app (goodIn_r (big := wsX10_feed) (.code yX8_hasRoomFor cX8_hasRoomFor 2 (some .boolean) :: ([.fieldLink RX8 15 "PathProber$Tape" "length" "I"]) : List Cond) [7, 8] rfl (by decide +kernel)) (goodIn_few (big := wsX10_feed) (fun _ h9 => List.mem_cons_of_mem _ (List.mem_append_right _ h9)) gb_4)
  exact h
set_option maxRecDepth 20000 in
theorem gX10_feed_X8_hasRoomFor : GoodIn wsX10_feed (wsV RX10 117 RX8 yX8_hasRoomFor wsX8_hasRoomFor) := goodIn_app (goodIn_r _ [3, 4, 5, 6] rfl (by decide +kernel)) ggX10_feed_X8_hasRoomFor
set_option maxRecDepth 20000 in
theorem ggX10_feed_X8_append : GoodIn wsX10_feed wsX8_append := by
  have h := goodIn_app (goodIn_r (big := wsX10_feed) (.code yX8_append cX8_append 3 none :: ([.fieldLink RX8 9 "PathProber$Tape" "bytes" "[B", .fieldLink RX8 15 "PathProber$Tape" "length" "I", .methodLink RX8 19 yX8_hasRoomFor, .instanceMethod yX8_hasRoomFor, .selects RX8 yX8_hasRoomFor yX8_hasRoomFor, .initialized RX8, .code yX8_hasRoomFor cX8_hasRoomFor 2 (some .boolean)]) : List Cond) [12, 13, 8, 14, 4, 5, 6, 7] rfl (by decide +kernel)) (goodIn_few (big := wsX10_feed) (fun _ h9 => List.mem_cons_of_mem _ (List.mem_append_right _ h9)) gb_4)
  exact h
set_option maxRecDepth 20000 in
theorem gX10_feed_X8_append : GoodIn wsX10_feed (wsV RX10 121 RX8 yX8_append wsX8_append) := goodIn_app (goodIn_r _ [9, 10, 11, 6] rfl (by decide +kernel)) ggX10_feed_X8_append
theorem eX10_feed_0q : (decode cX10_feed 0 = .ok (.aload_n 0, 1)) ∧ (decode cX10_feed 1 = .ok (.getfield 12, 3)) ∧ (decode cX10_feed 4 = .ok (.bipush 20, 2)) ∧ (decode cX10_feed 6 = .ok (.invokevirtual 117, 3)) ∧ (decode cX10_feed 9 = .ok (.ifCond .ne 5, 3)) ∧ (decode cX10_feed 12 = .ok (.iconst (-1), 1)) ∧ (decode cX10_feed 13 = .ok (.ireturn, 1)) ∧ (decode cX10_feed 14 = .ok (.aload_n 0, 1)) := by decide +kernel
theorem dX10_feed_0 : decode cX10_feed 0 = .ok (.aload_n 0, 1) := eX10_feed_0q.1
theorem dX10_feed_1 : decode cX10_feed 1 = .ok (.getfield 12, 3) := eX10_feed_0q.2.1
theorem dX10_feed_4 : decode cX10_feed 4 = .ok (.bipush 20, 2) := eX10_feed_0q.2.2.1
theorem dX10_feed_6 : decode cX10_feed 6 = .ok (.invokevirtual 117, 3) := eX10_feed_0q.2.2.2.1
theorem dX10_feed_9 : decode cX10_feed 9 = .ok (.ifCond .ne 5, 3) := eX10_feed_0q.2.2.2.2.1
theorem dX10_feed_12 : decode cX10_feed 12 = .ok (.iconst (-1), 1) := eX10_feed_0q.2.2.2.2.2.1
theorem dX10_feed_13 : decode cX10_feed 13 = .ok (.ireturn, 1) := eX10_feed_0q.2.2.2.2.2.2.1
theorem dX10_feed_14 : decode cX10_feed 14 = .ok (.aload_n 0, 1) := eX10_feed_0q.2.2.2.2.2.2.2
theorem eX10_feed_15q : (decode cX10_feed 15 = .ok (.getfield 12, 3)) ∧ (decode cX10_feed 18 = .ok (.iload_n 1, 1)) ∧ (decode cX10_feed 19 = .ok (.invokevirtual 121, 3)) ∧ (decode cX10_feed 22 = .ok (.aload_n 0, 1)) ∧ (decode cX10_feed 23 = .ok (.getfield 12, 3)) ∧ (decode cX10_feed 26 = .ok (.iload_n 2, 1)) ∧ (decode cX10_feed 27 = .ok (.invokevirtual 121, 3)) ∧ (decode cX10_feed 30 = .ok (.aload_n 0, 1)) := by decide +kernel
theorem dX10_feed_15 : decode cX10_feed 15 = .ok (.getfield 12, 3) := eX10_feed_15q.1
theorem dX10_feed_18 : decode cX10_feed 18 = .ok (.iload_n 1, 1) := eX10_feed_15q.2.1
theorem dX10_feed_19 : decode cX10_feed 19 = .ok (.invokevirtual 121, 3) := eX10_feed_15q.2.2.1
theorem dX10_feed_22 : decode cX10_feed 22 = .ok (.aload_n 0, 1) := eX10_feed_15q.2.2.2.1
theorem dX10_feed_23 : decode cX10_feed 23 = .ok (.getfield 12, 3) := eX10_feed_15q.2.2.2.2.1
theorem dX10_feed_26 : decode cX10_feed 26 = .ok (.iload_n 2, 1) := eX10_feed_15q.2.2.2.2.2.1
theorem dX10_feed_27 : decode cX10_feed 27 = .ok (.invokevirtual 121, 3) := eX10_feed_15q.2.2.2.2.2.2.1
theorem dX10_feed_30 : decode cX10_feed 30 = .ok (.aload_n 0, 1) := eX10_feed_15q.2.2.2.2.2.2.2
theorem eX10_feed_31q : (decode cX10_feed 31 = .ok (.getfield 12, 3)) ∧ (decode cX10_feed 34 = .ok (.iload_n 3, 1)) ∧ (decode cX10_feed 35 = .ok (.invokevirtual 121, 3)) ∧ (decode cX10_feed 38 = .ok (.aload_n 0, 1)) ∧ (decode cX10_feed 39 = .ok (.getfield 12, 3)) ∧ (decode cX10_feed 42 = .ok (.iload 4, 2)) ∧ (decode cX10_feed 44 = .ok (.invokevirtual 121, 3)) ∧ (decode cX10_feed 47 = .ok (.aload_n 0, 1)) := by decide +kernel
theorem dX10_feed_31 : decode cX10_feed 31 = .ok (.getfield 12, 3) := eX10_feed_31q.1
theorem dX10_feed_34 : decode cX10_feed 34 = .ok (.iload_n 3, 1) := eX10_feed_31q.2.1
theorem dX10_feed_35 : decode cX10_feed 35 = .ok (.invokevirtual 121, 3) := eX10_feed_31q.2.2.1
theorem dX10_feed_38 : decode cX10_feed 38 = .ok (.aload_n 0, 1) := eX10_feed_31q.2.2.2.1
theorem dX10_feed_39 : decode cX10_feed 39 = .ok (.getfield 12, 3) := eX10_feed_31q.2.2.2.2.1
theorem dX10_feed_42 : decode cX10_feed 42 = .ok (.iload 4, 2) := eX10_feed_31q.2.2.2.2.2.1
theorem dX10_feed_44 : decode cX10_feed 44 = .ok (.invokevirtual 121, 3) := eX10_feed_31q.2.2.2.2.2.2.1
theorem dX10_feed_47 : decode cX10_feed 47 = .ok (.aload_n 0, 1) := eX10_feed_31q.2.2.2.2.2.2.2
theorem eX10_feed_48q : (decode cX10_feed 48 = .ok (.getfield 12, 3)) ∧ (decode cX10_feed 51 = .ok (.iload 5, 2)) ∧ (decode cX10_feed 53 = .ok (.invokevirtual 121, 3)) ∧ (decode cX10_feed 56 = .ok (.aload_n 0, 1)) ∧ (decode cX10_feed 57 = .ok (.getfield 12, 3)) ∧ (decode cX10_feed 60 = .ok (.getfield 125, 3)) ∧ (decode cX10_feed 63 = .ok (.ireturn, 1)) := by decide +kernel
theorem dX10_feed_48 : decode cX10_feed 48 = .ok (.getfield 12, 3) := eX10_feed_48q.1
theorem dX10_feed_51 : decode cX10_feed 51 = .ok (.iload 5, 2) := eX10_feed_48q.2.1
theorem dX10_feed_53 : decode cX10_feed 53 = .ok (.invokevirtual 121, 3) := eX10_feed_48q.2.2.1
theorem dX10_feed_56 : decode cX10_feed 56 = .ok (.aload_n 0, 1) := eX10_feed_48q.2.2.2.1
theorem dX10_feed_57 : decode cX10_feed 57 = .ok (.getfield 12, 3) := eX10_feed_48q.2.2.2.2.1
theorem dX10_feed_60 : decode cX10_feed 60 = .ok (.getfield 125, 3) := eX10_feed_48q.2.2.2.2.2.1
theorem dX10_feed_63 : decode cX10_feed 63 = .ok (.ireturn, 1) := eX10_feed_48q.2.2.2.2.2.2
theorem eX10_fault_0q : (decode cX10_fault 0 = .ok (.aload_n 0, 1)) ∧ (decode cX10_fault 1 = .ok (.getfield 113, 3)) ∧ (decode cX10_fault 4 = .ok (.ireturn, 1)) := by decide +kernel
theorem dX10_fault_0 : decode cX10_fault 0 = .ok (.aload_n 0, 1) := eX10_fault_0q.1
theorem dX10_fault_1 : decode cX10_fault 1 = .ok (.getfield 113, 3) := eX10_fault_0q.2.1
theorem dX10_fault_4 : decode cX10_fault 4 = .ok (.ireturn, 1) := eX10_fault_0q.2.2
set_option maxRecDepth 20000 in
theorem ggX10_count_X4_enoughFor : GoodIn wsX10_count wsX4_enoughFor := by
  have h := goodIn_app (goodIn_r (big := wsX10_count) (.code yX4_enoughFor cX4_enoughFor 4 (some .int) :: ([.fieldLink RX4 19 "PathProber$Odds" "lossOfEnough" "I", .fieldLink RX4 15 "PathProber$Odds" "enough" "[I", .constantLong RX4 32 (10000000000), .methodLink RX4 34 yX4_leastFor, .instanceMethod yX4_leastFor, .selects RX4 yX4_leastFor yX4_leastFor, .initialized RX4, .code yX4_leastFor cX4_leastFor 5 (some .int), .constantLong RX4 23 (1000000000000), .fieldLink RX4 9 "PathProber$Odds" "met" "[J", .methodLink RX4 25 yX4_begin, .instanceMethod yX4_begin, .selects RX4 yX4_begin yX4_begin, .code yX4_begin cX4_begin 3 none, .methodLink RX4 29 yX4_sendNext, .instanceMethod yX4_sendNext, .selects RX4 yX4_sendNext yX4_sendNext, .code yX4_sendNext cX4_sendNext 5 none]) : List Cond) [27, 28, 29, 30, 31, 32, 33, 26, 34, 35, 36, 37, 38, 39, 40, 41, 42, 43, 44] rfl (by decide +kernel)) (goodIn_few (big := wsX10_count) (fun _ h9 => List.mem_cons_of_mem _ (List.mem_append_left _ (List.mem_append_left _ (List.mem_append_right _ h9)))) gb_3)
  exact h
set_option maxRecDepth 20000 in
theorem gX10_count_X4_enoughFor : GoodIn wsX10_count (wsV RX10 160 RX4 yX4_enoughFor wsX4_enoughFor) := goodIn_app (goodIn_r _ [23, 24, 25, 26] rfl (by decide +kernel)) ggX10_count_X4_enoughFor
set_option maxRecDepth 20000 in
theorem ggX10_count_X7_addressesEverywhere : GoodIn wsX10_count wsX7_addressesEverywhere := by
  have h := goodIn_app (goodIn_app (goodIn_app (goodIn_r (big := wsX10_count) (.code yX7_addressesEverywhere cX7_addressesEverywhere 4 (some .int) :: ([.fieldLink RX7 21 "PathProber$Sight" "net" "LPathProber$Net;", .fieldLink RX7 41 "PathProber$Net" "goals" "I", .fieldLink RX7 25 "PathProber$Sight" "now" "LPathProber$Condition;", .methodLink RX7 29 yX0_seenAt, .instanceMethod yX0_seenAt, .selects RX0 yX0_seenAt yX0_seenAt, .initialized RX0, .code yX0_seenAt cX0_seenAt 6 (some .int), .fieldLink RX0 9 "PathProber$Condition" "seen" "[J", .constantLong RX0 53 (31)]) : List Cond) [49, 50, 51, 52, 53, 54, 55, 56, 57, 58, 59] rfl (by decide +kernel)) (goodIn_few (big := wsX10_count) (fun _ h9 => List.mem_cons_of_mem _ (List.mem_append_left _ (List.mem_append_right _ h9))) gb_7)) (goodIn_few (big := wsX10_count) (fun _ h9 => List.mem_cons_of_mem _ (List.mem_append_left _ (List.mem_append_left _ (List.mem_append_left _ (List.mem_append_left _ (List.mem_append_left _ (List.mem_append_left _ (List.mem_append_right _ h9)))))))) gb_2)) (goodIn_few (big := wsX10_count) (fun _ h9 => List.mem_cons_of_mem _ (List.mem_append_left _ (List.mem_append_left _ (List.mem_append_left _ (List.mem_append_left _ (List.mem_append_left _ (List.mem_append_left _ (List.mem_append_left _ (List.mem_append_right _ h9))))))))) gb_1)
  exact h
set_option maxRecDepth 20000 in
theorem gX10_count_X7_addressesEverywhere : GoodIn wsX10_count (wsV RX10 173 RX7 yX7_addressesEverywhere wsX7_addressesEverywhere) := goodIn_app (goodIn_r _ [45, 46, 47, 48] rfl (by decide +kernel)) ggX10_count_X7_addressesEverywhere
set_option maxRecDepth 20000 in
theorem ggX10_count_X0_sentInAll : GoodIn wsX10_count wsX0_sentInAll := by
  have h := goodIn_app (goodIn_r (big := wsX10_count) (.code yX0_sentInAll cX0_sentInAll 3 (some .int) :: ([.fieldLink RX0 15 "PathProber$Condition" "sent" "[I"]) : List Cond) [63, 64] rfl (by decide +kernel)) (goodIn_few (big := wsX10_count) (fun _ h9 => List.mem_cons_of_mem _ (List.mem_append_left _ (List.mem_append_left _ (List.mem_append_left _ (List.mem_append_left _ (List.mem_append_left _ (List.mem_append_left _ (List.mem_append_left _ (List.mem_append_right _ h9))))))))) gb_1)
  exact h
set_option maxRecDepth 20000 in
theorem gX10_count_X0_sentInAll : GoodIn wsX10_count (wsV RX10 177 RX0 yX0_sentInAll wsX0_sentInAll) := goodIn_app (goodIn_r _ [60, 61, 62, 56] rfl (by decide +kernel)) ggX10_count_X0_sentInAll
theorem eX10_count_0q : (decode cX10_count 0 = .ok (.iload_n 1, 1)) ∧ (decode cX10_count 1 = .ok (.iconst 4, 1)) ∧ (decode cX10_count 2 = .ok (.if_icmp .lt 27, 3)) ∧ (decode cX10_count 5 = .ok (.iload_n 1, 1)) ∧ (decode cX10_count 6 = .ok (.bipush 7, 2)) ∧ (decode cX10_count 8 = .ok (.if_icmp .gt 21, 3)) ∧ (decode cX10_count 11 = .ok (.aload_n 0, 1)) ∧ (decode cX10_count 12 = .ok (.getfield 48, 3)) := by decide +kernel
theorem dX10_count_0 : decode cX10_count 0 = .ok (.iload_n 1, 1) := eX10_count_0q.1
theorem dX10_count_1 : decode cX10_count 1 = .ok (.iconst 4, 1) := eX10_count_0q.2.1
theorem dX10_count_2 : decode cX10_count 2 = .ok (.if_icmp .lt 27, 3) := eX10_count_0q.2.2.1
theorem dX10_count_5 : decode cX10_count 5 = .ok (.iload_n 1, 1) := eX10_count_0q.2.2.2.1
theorem dX10_count_6 : decode cX10_count 6 = .ok (.bipush 7, 2) := eX10_count_0q.2.2.2.2.1
theorem dX10_count_8 : decode cX10_count 8 = .ok (.if_icmp .gt 21, 3) := eX10_count_0q.2.2.2.2.2.1
theorem dX10_count_11 : decode cX10_count 11 = .ok (.aload_n 0, 1) := eX10_count_0q.2.2.2.2.2.2.1
theorem dX10_count_12 : decode cX10_count 12 = .ok (.getfield 48, 3) := eX10_count_0q.2.2.2.2.2.2.2
theorem eX10_count_15q : (decode cX10_count 15 = .ok (.iload_n 1, 1)) ∧ (decode cX10_count 16 = .ok (.iconst 3, 1)) ∧ (decode cX10_count 17 = .ok (.isub, 1)) ∧ (decode cX10_count 18 = .ok (.aload_n 0, 1)) ∧ (decode cX10_count 19 = .ok (.getfield 38, 3)) ∧ (decode cX10_count 22 = .ok (.getfield 159, 3)) ∧ (decode cX10_count 25 = .ok (.invokevirtual 160, 3)) ∧ (decode cX10_count 28 = .ok (.ireturn, 1)) := by decide +kernel
theorem dX10_count_15 : decode cX10_count 15 = .ok (.iload_n 1, 1) := eX10_count_15q.1
theorem dX10_count_16 : decode cX10_count 16 = .ok (.iconst 3, 1) := eX10_count_15q.2.1
theorem dX10_count_17 : decode cX10_count 17 = .ok (.isub, 1) := eX10_count_15q.2.2.1
theorem dX10_count_18 : decode cX10_count 18 = .ok (.aload_n 0, 1) := eX10_count_15q.2.2.2.1
theorem dX10_count_19 : decode cX10_count 19 = .ok (.getfield 38, 3) := eX10_count_15q.2.2.2.2.1
theorem dX10_count_22 : decode cX10_count 22 = .ok (.getfield 159, 3) := eX10_count_15q.2.2.2.2.2.1
theorem dX10_count_25 : decode cX10_count 25 = .ok (.invokevirtual 160, 3) := eX10_count_15q.2.2.2.2.2.2.1
theorem dX10_count_28 : decode cX10_count 28 = .ok (.ireturn, 1) := eX10_count_15q.2.2.2.2.2.2.2
theorem eX10_count_29q : (decode cX10_count 29 = .ok (.iload_n 1, 1)) ∧ (decode cX10_count 30 = .ok (.bipush 13, 2)) ∧ (decode cX10_count 32 = .ok (.if_icmp .lt 19, 3)) ∧ (decode cX10_count 35 = .ok (.iload_n 1, 1)) ∧ (decode cX10_count 36 = .ok (.bipush 15, 2)) ∧ (decode cX10_count 38 = .ok (.if_icmp .gt 13, 3)) ∧ (decode cX10_count 41 = .ok (.aload_n 0, 1)) ∧ (decode cX10_count 42 = .ok (.getfield 93, 3)) := by decide +kernel
theorem dX10_count_29 : decode cX10_count 29 = .ok (.iload_n 1, 1) := eX10_count_29q.1
theorem dX10_count_30 : decode cX10_count 30 = .ok (.bipush 13, 2) := eX10_count_29q.2.1
theorem dX10_count_32 : decode cX10_count 32 = .ok (.if_icmp .lt 19, 3) := eX10_count_29q.2.2.1
theorem dX10_count_35 : decode cX10_count 35 = .ok (.iload_n 1, 1) := eX10_count_29q.2.2.2.1
theorem dX10_count_36 : decode cX10_count 36 = .ok (.bipush 15, 2) := eX10_count_29q.2.2.2.2.1
theorem dX10_count_38 : decode cX10_count 38 = .ok (.if_icmp .gt 13, 3) := eX10_count_29q.2.2.2.2.2.1
theorem dX10_count_41 : decode cX10_count 41 = .ok (.aload_n 0, 1) := eX10_count_29q.2.2.2.2.2.2.1
theorem dX10_count_42 : decode cX10_count 42 = .ok (.getfield 93, 3) := eX10_count_29q.2.2.2.2.2.2.2
theorem eX10_count_45q : (decode cX10_count 45 = .ok (.iload_n 1, 1)) ∧ (decode cX10_count 46 = .ok (.bipush 13, 2)) ∧ (decode cX10_count 48 = .ok (.isub, 1)) ∧ (decode cX10_count 49 = .ok (.iaload, 1)) ∧ (decode cX10_count 50 = .ok (.ireturn, 1)) ∧ (decode cX10_count 51 = .ok (.iload_n 1, 1)) ∧ (decode cX10_count 52 = .ok (.tableswitch 212 0 20 #[100, 108, 116, 124, 212, 212, 212, 212, 132, 140, 148, 156, 164, 212, 212, 212, 172, 180, 188, 196, 204], 100)) ∧ (decode cX10_count 152 = .ok (.aload_n 0, 1)) := by decide +kernel
theorem dX10_count_45 : decode cX10_count 45 = .ok (.iload_n 1, 1) := eX10_count_45q.1
theorem dX10_count_46 : decode cX10_count 46 = .ok (.bipush 13, 2) := eX10_count_45q.2.1
theorem dX10_count_48 : decode cX10_count 48 = .ok (.isub, 1) := eX10_count_45q.2.2.1
theorem dX10_count_49 : decode cX10_count 49 = .ok (.iaload, 1) := eX10_count_45q.2.2.2.1
theorem dX10_count_50 : decode cX10_count 50 = .ok (.ireturn, 1) := eX10_count_45q.2.2.2.2.1
theorem dX10_count_51 : decode cX10_count 51 = .ok (.iload_n 1, 1) := eX10_count_45q.2.2.2.2.2.1
theorem dX10_count_52 : decode cX10_count 52 = .ok (.tableswitch 212 0 20 #[100, 108, 116, 124, 212, 212, 212, 212, 132, 140, 148, 156, 164, 212, 212, 212, 172, 180, 188, 196, 204], 100) := eX10_count_45q.2.2.2.2.2.2.1
theorem dX10_count_152 : decode cX10_count 152 = .ok (.aload_n 0, 1) := eX10_count_45q.2.2.2.2.2.2.2
theorem eX10_count_153q : (decode cX10_count 153 = .ok (.getfield 19, 3)) ∧ (decode cX10_count 156 = .ok (.getfield 164, 3)) ∧ (decode cX10_count 159 = .ok (.ireturn, 1)) ∧ (decode cX10_count 160 = .ok (.aload_n 0, 1)) ∧ (decode cX10_count 161 = .ok (.getfield 19, 3)) ∧ (decode cX10_count 164 = .ok (.getfield 167, 3)) ∧ (decode cX10_count 167 = .ok (.ireturn, 1)) ∧ (decode cX10_count 168 = .ok (.aload_n 0, 1)) := by decide +kernel
theorem dX10_count_153 : decode cX10_count 153 = .ok (.getfield 19, 3) := eX10_count_153q.1
theorem dX10_count_156 : decode cX10_count 156 = .ok (.getfield 164, 3) := eX10_count_153q.2.1
theorem dX10_count_159 : decode cX10_count 159 = .ok (.ireturn, 1) := eX10_count_153q.2.2.1
theorem dX10_count_160 : decode cX10_count 160 = .ok (.aload_n 0, 1) := eX10_count_153q.2.2.2.1
theorem dX10_count_161 : decode cX10_count 161 = .ok (.getfield 19, 3) := eX10_count_153q.2.2.2.2.1
theorem dX10_count_164 : decode cX10_count 164 = .ok (.getfield 167, 3) := eX10_count_153q.2.2.2.2.2.1
theorem dX10_count_167 : decode cX10_count 167 = .ok (.ireturn, 1) := eX10_count_153q.2.2.2.2.2.2.1
theorem dX10_count_168 : decode cX10_count 168 = .ok (.aload_n 0, 1) := eX10_count_153q.2.2.2.2.2.2.2
theorem eX10_count_169q : (decode cX10_count 169 = .ok (.getfield 19, 3)) ∧ (decode cX10_count 172 = .ok (.getfield 170, 3)) ∧ (decode cX10_count 175 = .ok (.ireturn, 1)) ∧ (decode cX10_count 176 = .ok (.aload_n 0, 1)) ∧ (decode cX10_count 177 = .ok (.getfield 38, 3)) ∧ (decode cX10_count 180 = .ok (.getfield 159, 3)) ∧ (decode cX10_count 183 = .ok (.ireturn, 1)) ∧ (decode cX10_count 184 = .ok (.aload_n 0, 1)) := by decide +kernel
theorem dX10_count_169 : decode cX10_count 169 = .ok (.getfield 19, 3) := eX10_count_169q.1
theorem dX10_count_172 : decode cX10_count 172 = .ok (.getfield 170, 3) := eX10_count_169q.2.1
theorem dX10_count_175 : decode cX10_count 175 = .ok (.ireturn, 1) := eX10_count_169q.2.2.1
theorem dX10_count_176 : decode cX10_count 176 = .ok (.aload_n 0, 1) := eX10_count_169q.2.2.2.1
theorem dX10_count_177 : decode cX10_count 177 = .ok (.getfield 38, 3) := eX10_count_169q.2.2.2.2.1
theorem dX10_count_180 : decode cX10_count 180 = .ok (.getfield 159, 3) := eX10_count_169q.2.2.2.2.2.1
theorem dX10_count_183 : decode cX10_count 183 = .ok (.ireturn, 1) := eX10_count_169q.2.2.2.2.2.2.1
theorem dX10_count_184 : decode cX10_count 184 = .ok (.aload_n 0, 1) := eX10_count_169q.2.2.2.2.2.2.2
theorem eX10_count_185q : (decode cX10_count 185 = .ok (.getfield 57, 3)) ∧ (decode cX10_count 188 = .ok (.invokevirtual 173, 3)) ∧ (decode cX10_count 191 = .ok (.ireturn, 1)) ∧ (decode cX10_count 192 = .ok (.aload_n 0, 1)) ∧ (decode cX10_count 193 = .ok (.getfield 38, 3)) ∧ (decode cX10_count 196 = .ok (.invokevirtual 177, 3)) ∧ (decode cX10_count 199 = .ok (.ireturn, 1)) ∧ (decode cX10_count 200 = .ok (.aload_n 0, 1)) := by decide +kernel
theorem dX10_count_185 : decode cX10_count 185 = .ok (.getfield 57, 3) := eX10_count_185q.1
theorem dX10_count_188 : decode cX10_count 188 = .ok (.invokevirtual 173, 3) := eX10_count_185q.2.1
theorem dX10_count_191 : decode cX10_count 191 = .ok (.ireturn, 1) := eX10_count_185q.2.2.1
theorem dX10_count_192 : decode cX10_count 192 = .ok (.aload_n 0, 1) := eX10_count_185q.2.2.2.1
theorem dX10_count_193 : decode cX10_count 193 = .ok (.getfield 38, 3) := eX10_count_185q.2.2.2.2.1
theorem dX10_count_196 : decode cX10_count 196 = .ok (.invokevirtual 177, 3) := eX10_count_185q.2.2.2.2.2.1
theorem dX10_count_199 : decode cX10_count 199 = .ok (.ireturn, 1) := eX10_count_185q.2.2.2.2.2.2.1
theorem dX10_count_200 : decode cX10_count 200 = .ok (.aload_n 0, 1) := eX10_count_185q.2.2.2.2.2.2.2
theorem eX10_count_201q : (decode cX10_count 201 = .ok (.getfield 89, 3)) ∧ (decode cX10_count 204 = .ok (.getfield 155, 3)) ∧ (decode cX10_count 207 = .ok (.ireturn, 1)) ∧ (decode cX10_count 208 = .ok (.aload_n 0, 1)) ∧ (decode cX10_count 209 = .ok (.getfield 82, 3)) ∧ (decode cX10_count 212 = .ok (.getfield 158, 3)) ∧ (decode cX10_count 215 = .ok (.ireturn, 1)) ∧ (decode cX10_count 216 = .ok (.aload_n 0, 1)) := by decide +kernel
theorem dX10_count_201 : decode cX10_count 201 = .ok (.getfield 89, 3) := eX10_count_201q.1
theorem dX10_count_204 : decode cX10_count 204 = .ok (.getfield 155, 3) := eX10_count_201q.2.1
theorem dX10_count_207 : decode cX10_count 207 = .ok (.ireturn, 1) := eX10_count_201q.2.2.1
theorem dX10_count_208 : decode cX10_count 208 = .ok (.aload_n 0, 1) := eX10_count_201q.2.2.2.1
theorem dX10_count_209 : decode cX10_count 209 = .ok (.getfield 82, 3) := eX10_count_201q.2.2.2.2.1
theorem dX10_count_212 : decode cX10_count 212 = .ok (.getfield 158, 3) := eX10_count_201q.2.2.2.2.2.1
theorem dX10_count_215 : decode cX10_count 215 = .ok (.ireturn, 1) := eX10_count_201q.2.2.2.2.2.2.1
theorem dX10_count_216 : decode cX10_count 216 = .ok (.aload_n 0, 1) := eX10_count_201q.2.2.2.2.2.2.2
theorem eX10_count_217q : (decode cX10_count 217 = .ok (.getfield 12, 3)) ∧ (decode cX10_count 220 = .ok (.getfield 125, 3)) ∧ (decode cX10_count 223 = .ok (.ireturn, 1)) ∧ (decode cX10_count 224 = .ok (.aload_n 0, 1)) ∧ (decode cX10_count 225 = .ok (.getfield 38, 3)) ∧ (decode cX10_count 228 = .ok (.getfield 180, 3)) ∧ (decode cX10_count 231 = .ok (.ireturn, 1)) ∧ (decode cX10_count 232 = .ok (.aload_n 0, 1)) := by decide +kernel
theorem dX10_count_217 : decode cX10_count 217 = .ok (.getfield 12, 3) := eX10_count_217q.1
theorem dX10_count_220 : decode cX10_count 220 = .ok (.getfield 125, 3) := eX10_count_217q.2.1
theorem dX10_count_223 : decode cX10_count 223 = .ok (.ireturn, 1) := eX10_count_217q.2.2.1
theorem dX10_count_224 : decode cX10_count 224 = .ok (.aload_n 0, 1) := eX10_count_217q.2.2.2.1
theorem dX10_count_225 : decode cX10_count 225 = .ok (.getfield 38, 3) := eX10_count_217q.2.2.2.2.1
theorem dX10_count_228 : decode cX10_count 228 = .ok (.getfield 180, 3) := eX10_count_217q.2.2.2.2.2.1
theorem dX10_count_231 : decode cX10_count 231 = .ok (.ireturn, 1) := eX10_count_217q.2.2.2.2.2.2.1
theorem dX10_count_232 : decode cX10_count 232 = .ok (.aload_n 0, 1) := eX10_count_217q.2.2.2.2.2.2.2
theorem eX10_count_233q : (decode cX10_count 233 = .ok (.getfield 38, 3)) ∧ (decode cX10_count 236 = .ok (.getfield 183, 3)) ∧ (decode cX10_count 239 = .ok (.ireturn, 1)) ∧ (decode cX10_count 240 = .ok (.aload_n 0, 1)) ∧ (decode cX10_count 241 = .ok (.getfield 38, 3)) ∧ (decode cX10_count 244 = .ok (.getfield 186, 3)) ∧ (decode cX10_count 247 = .ok (.ireturn, 1)) ∧ (decode cX10_count 248 = .ok (.aload_n 0, 1)) := by decide +kernel
theorem dX10_count_233 : decode cX10_count 233 = .ok (.getfield 38, 3) := eX10_count_233q.1
theorem dX10_count_236 : decode cX10_count 236 = .ok (.getfield 183, 3) := eX10_count_233q.2.1
theorem dX10_count_239 : decode cX10_count 239 = .ok (.ireturn, 1) := eX10_count_233q.2.2.1
theorem dX10_count_240 : decode cX10_count 240 = .ok (.aload_n 0, 1) := eX10_count_233q.2.2.2.1
theorem dX10_count_241 : decode cX10_count 241 = .ok (.getfield 38, 3) := eX10_count_233q.2.2.2.2.1
theorem dX10_count_244 : decode cX10_count 244 = .ok (.getfield 186, 3) := eX10_count_233q.2.2.2.2.2.1
theorem dX10_count_247 : decode cX10_count 247 = .ok (.ireturn, 1) := eX10_count_233q.2.2.2.2.2.2.1
theorem dX10_count_248 : decode cX10_count 248 = .ok (.aload_n 0, 1) := eX10_count_233q.2.2.2.2.2.2.2
theorem eX10_count_249q : (decode cX10_count 249 = .ok (.getfield 38, 3)) ∧ (decode cX10_count 252 = .ok (.getfield 189, 3)) ∧ (decode cX10_count 255 = .ok (.ireturn, 1)) ∧ (decode cX10_count 256 = .ok (.aload_n 0, 1)) ∧ (decode cX10_count 257 = .ok (.getfield 38, 3)) ∧ (decode cX10_count 260 = .ok (.getfield 192, 3)) ∧ (decode cX10_count 263 = .ok (.ireturn, 1)) ∧ (decode cX10_count 264 = .ok (.new 195, 3)) := by decide +kernel
theorem dX10_count_249 : decode cX10_count 249 = .ok (.getfield 38, 3) := eX10_count_249q.1
theorem dX10_count_252 : decode cX10_count 252 = .ok (.getfield 189, 3) := eX10_count_249q.2.1
theorem dX10_count_255 : decode cX10_count 255 = .ok (.ireturn, 1) := eX10_count_249q.2.2.1
theorem dX10_count_256 : decode cX10_count 256 = .ok (.aload_n 0, 1) := eX10_count_249q.2.2.2.1
theorem dX10_count_257 : decode cX10_count 257 = .ok (.getfield 38, 3) := eX10_count_249q.2.2.2.2.1
theorem dX10_count_260 : decode cX10_count 260 = .ok (.getfield 192, 3) := eX10_count_249q.2.2.2.2.2.1
theorem dX10_count_263 : decode cX10_count 263 = .ok (.ireturn, 1) := eX10_count_249q.2.2.2.2.2.2.1
theorem dX10_count_264 : decode cX10_count 264 = .ok (.new 195, 3) := eX10_count_249q.2.2.2.2.2.2.2
theorem eX10_count_267q : (decode cX10_count 267 = .ok (.dup, 1)) ∧ (decode cX10_count 268 = .ok (.ldc 197, 2)) ∧ (decode cX10_count 270 = .ok (.invokespecial 199, 3)) ∧ (decode cX10_count 273 = .ok (.athrow, 1)) := by decide +kernel
theorem dX10_count_267 : decode cX10_count 267 = .ok (.dup, 1) := eX10_count_267q.1
theorem dX10_count_268 : decode cX10_count 268 = .ok (.ldc 197, 2) := eX10_count_267q.2.1
theorem dX10_count_270 : decode cX10_count 270 = .ok (.invokespecial 199, 3) := eX10_count_267q.2.2.1
theorem dX10_count_273 : decode cX10_count 273 = .ok (.athrow, 1) := eX10_count_267q.2.2.2
set_option maxRecDepth 20000 in
theorem ggX10_router_X10_mustBeRouter : GoodIn wsX10_router wsX10_mustBeRouter := goodIn_ca (goodIn_r _ [15, 1, 2, 3, 16, 17, 18, 19, 20, 21, 34, 35, 36, 37, 38, 39, 40, 41, 42, 43, 44, 45, 46, 47, 48, 49, 50, 51, 52, 53, 54, 55, 56, 57, 58, 59, 60, 61, 62, 63, 64, 65, 66, 67] rfl (by decide +kernel)) (goodIn_sub (fun _ h => List.mem_cons_of_mem _ (List.mem_append_right _ h)) (by decide +kernel))
set_option maxRecDepth 20000 in
theorem gX10_router_X10_mustBeRouter : GoodIn wsX10_router (wsV RX10 200 RX10 yX10_mustBeRouter wsX10_mustBeRouter) := goodIn_app (goodIn_r _ [11, 12, 13, 14] rfl (by decide +kernel)) ggX10_router_X10_mustBeRouter
set_option maxRecDepth 20000 in
theorem ggX10_router_X2_linksFrom : GoodIn wsX10_router wsX2_linksFrom := by
  have h := goodIn_app (goodIn_r (big := wsX10_router) (.code yX2_linksFrom cX2_linksFrom 4 (some .int) :: ([.fieldLink RX2 37 "PathProber$Net" "links" "I", .fieldLink RX2 24 "PathProber$Net" "from" "[I"]) : List Cond) [25, 26, 27] rfl (by decide +kernel)) (goodIn_few (big := wsX10_router) (fun _ h9 => List.mem_cons_of_mem _ (List.mem_append_left _ (List.mem_append_left _ (List.mem_append_right _ h9)))) gb_2)
  exact h
set_option maxRecDepth 20000 in
theorem gX10_router_X2_linksFrom : GoodIn wsX10_router (wsV RX10 221 RX2 yX2_linksFrom wsX2_linksFrom) := goodIn_app (goodIn_r _ [22, 23, 24, 19] rfl (by decide +kernel)) ggX10_router_X2_linksFrom
set_option maxRecDepth 20000 in
theorem ggX10_router_X2_goalAt : GoodIn wsX10_router wsX2_goalAt := by
  have h := goodIn_app (goodIn_r (big := wsX10_router) (.code yX2_goalAt cX2_goalAt 3 (some .int) :: ([.fieldLink RX2 40 "PathProber$Net" "goals" "I", .fieldLink RX2 30 "PathProber$Net" "goal" "[I"]) : List Cond) [31, 32, 33] rfl (by decide +kernel)) (goodIn_few (big := wsX10_router) (fun _ h9 => List.mem_cons_of_mem _ (List.mem_append_left _ (List.mem_append_left _ (List.mem_append_right _ h9)))) gb_2)
  exact h
set_option maxRecDepth 20000 in
theorem gX10_router_X2_goalAt : GoodIn wsX10_router (wsV RX10 224 RX2 yX2_goalAt wsX2_goalAt) := goodIn_app (goodIn_r _ [28, 29, 30, 19] rfl (by decide +kernel)) ggX10_router_X2_goalAt
theorem eX10_router_0q : (decode cX10_router 0 = .ok (.aload_n 0, 1)) ∧ (decode cX10_router 1 = .ok (.iload_n 1, 1)) ∧ (decode cX10_router 2 = .ok (.invokevirtual 200, 3)) ∧ (decode cX10_router 5 = .ok (.iload_n 2, 1)) ∧ (decode cX10_router 6 = .ok (.tableswitch 124 0 7 #[46, 56, 66, 76, 86, 96, 106, 115], 46)) ∧ (decode cX10_router 52 = .ok (.aload_n 0, 1)) ∧ (decode cX10_router 53 = .ok (.getfield 19, 3)) ∧ (decode cX10_router 56 = .ok (.getfield 203, 3)) := by decide +kernel
theorem dX10_router_0 : decode cX10_router 0 = .ok (.aload_n 0, 1) := eX10_router_0q.1
theorem dX10_router_1 : decode cX10_router 1 = .ok (.iload_n 1, 1) := eX10_router_0q.2.1
theorem dX10_router_2 : decode cX10_router 2 = .ok (.invokevirtual 200, 3) := eX10_router_0q.2.2.1
theorem dX10_router_5 : decode cX10_router 5 = .ok (.iload_n 2, 1) := eX10_router_0q.2.2.2.1
theorem dX10_router_6 : decode cX10_router 6 = .ok (.tableswitch 124 0 7 #[46, 56, 66, 76, 86, 96, 106, 115], 46) := eX10_router_0q.2.2.2.2.1
theorem dX10_router_52 : decode cX10_router 52 = .ok (.aload_n 0, 1) := eX10_router_0q.2.2.2.2.2.1
theorem dX10_router_53 : decode cX10_router 53 = .ok (.getfield 19, 3) := eX10_router_0q.2.2.2.2.2.2.1
theorem dX10_router_56 : decode cX10_router 56 = .ok (.getfield 203, 3) := eX10_router_0q.2.2.2.2.2.2.2
theorem eX10_router_59q : (decode cX10_router 59 = .ok (.iload_n 1, 1)) ∧ (decode cX10_router 60 = .ok (.iaload, 1)) ∧ (decode cX10_router 61 = .ok (.ireturn, 1)) ∧ (decode cX10_router 62 = .ok (.aload_n 0, 1)) ∧ (decode cX10_router 63 = .ok (.getfield 19, 3)) ∧ (decode cX10_router 66 = .ok (.getfield 206, 3)) ∧ (decode cX10_router 69 = .ok (.iload_n 1, 1)) ∧ (decode cX10_router 70 = .ok (.iaload, 1)) := by decide +kernel
theorem dX10_router_59 : decode cX10_router 59 = .ok (.iload_n 1, 1) := eX10_router_59q.1
theorem dX10_router_60 : decode cX10_router 60 = .ok (.iaload, 1) := eX10_router_59q.2.1
theorem dX10_router_61 : decode cX10_router 61 = .ok (.ireturn, 1) := eX10_router_59q.2.2.1
theorem dX10_router_62 : decode cX10_router 62 = .ok (.aload_n 0, 1) := eX10_router_59q.2.2.2.1
theorem dX10_router_63 : decode cX10_router 63 = .ok (.getfield 19, 3) := eX10_router_59q.2.2.2.2.1
theorem dX10_router_66 : decode cX10_router 66 = .ok (.getfield 206, 3) := eX10_router_59q.2.2.2.2.2.1
theorem dX10_router_69 : decode cX10_router 69 = .ok (.iload_n 1, 1) := eX10_router_59q.2.2.2.2.2.2.1
theorem dX10_router_70 : decode cX10_router 70 = .ok (.iaload, 1) := eX10_router_59q.2.2.2.2.2.2.2
theorem eX10_router_71q : (decode cX10_router 71 = .ok (.ireturn, 1)) ∧ (decode cX10_router 72 = .ok (.aload_n 0, 1)) ∧ (decode cX10_router 73 = .ok (.getfield 19, 3)) ∧ (decode cX10_router 76 = .ok (.getfield 209, 3)) ∧ (decode cX10_router 79 = .ok (.iload_n 1, 1)) ∧ (decode cX10_router 80 = .ok (.iaload, 1)) ∧ (decode cX10_router 81 = .ok (.ireturn, 1)) ∧ (decode cX10_router 82 = .ok (.aload_n 0, 1)) := by decide +kernel
theorem dX10_router_71 : decode cX10_router 71 = .ok (.ireturn, 1) := eX10_router_71q.1
theorem dX10_router_72 : decode cX10_router 72 = .ok (.aload_n 0, 1) := eX10_router_71q.2.1
theorem dX10_router_73 : decode cX10_router 73 = .ok (.getfield 19, 3) := eX10_router_71q.2.2.1
theorem dX10_router_76 : decode cX10_router 76 = .ok (.getfield 209, 3) := eX10_router_71q.2.2.2.1
theorem dX10_router_79 : decode cX10_router 79 = .ok (.iload_n 1, 1) := eX10_router_71q.2.2.2.2.1
theorem dX10_router_80 : decode cX10_router 80 = .ok (.iaload, 1) := eX10_router_71q.2.2.2.2.2.1
theorem dX10_router_81 : decode cX10_router 81 = .ok (.ireturn, 1) := eX10_router_71q.2.2.2.2.2.2.1
theorem dX10_router_82 : decode cX10_router 82 = .ok (.aload_n 0, 1) := eX10_router_71q.2.2.2.2.2.2.2
theorem eX10_router_83q : (decode cX10_router 83 = .ok (.getfield 19, 3)) ∧ (decode cX10_router 86 = .ok (.getfield 212, 3)) ∧ (decode cX10_router 89 = .ok (.iload_n 1, 1)) ∧ (decode cX10_router 90 = .ok (.iaload, 1)) ∧ (decode cX10_router 91 = .ok (.ireturn, 1)) ∧ (decode cX10_router 92 = .ok (.aload_n 0, 1)) ∧ (decode cX10_router 93 = .ok (.getfield 38, 3)) ∧ (decode cX10_router 96 = .ok (.getfield 215, 3)) := by decide +kernel
theorem dX10_router_83 : decode cX10_router 83 = .ok (.getfield 19, 3) := eX10_router_83q.1
theorem dX10_router_86 : decode cX10_router 86 = .ok (.getfield 212, 3) := eX10_router_83q.2.1
theorem dX10_router_89 : decode cX10_router 89 = .ok (.iload_n 1, 1) := eX10_router_83q.2.2.1
theorem dX10_router_90 : decode cX10_router 90 = .ok (.iaload, 1) := eX10_router_83q.2.2.2.1
theorem dX10_router_91 : decode cX10_router 91 = .ok (.ireturn, 1) := eX10_router_83q.2.2.2.2.1
theorem dX10_router_92 : decode cX10_router 92 = .ok (.aload_n 0, 1) := eX10_router_83q.2.2.2.2.2.1
theorem dX10_router_93 : decode cX10_router 93 = .ok (.getfield 38, 3) := eX10_router_83q.2.2.2.2.2.2.1
theorem dX10_router_96 : decode cX10_router 96 = .ok (.getfield 215, 3) := eX10_router_83q.2.2.2.2.2.2.2
theorem eX10_router_99q : (decode cX10_router 99 = .ok (.iload_n 1, 1)) ∧ (decode cX10_router 100 = .ok (.iaload, 1)) ∧ (decode cX10_router 101 = .ok (.ireturn, 1)) ∧ (decode cX10_router 102 = .ok (.aload_n 0, 1)) ∧ (decode cX10_router 103 = .ok (.getfield 38, 3)) ∧ (decode cX10_router 106 = .ok (.getfield 218, 3)) ∧ (decode cX10_router 109 = .ok (.iload_n 1, 1)) ∧ (decode cX10_router 110 = .ok (.iaload, 1)) := by decide +kernel
theorem dX10_router_99 : decode cX10_router 99 = .ok (.iload_n 1, 1) := eX10_router_99q.1
theorem dX10_router_100 : decode cX10_router 100 = .ok (.iaload, 1) := eX10_router_99q.2.1
theorem dX10_router_101 : decode cX10_router 101 = .ok (.ireturn, 1) := eX10_router_99q.2.2.1
theorem dX10_router_102 : decode cX10_router 102 = .ok (.aload_n 0, 1) := eX10_router_99q.2.2.2.1
theorem dX10_router_103 : decode cX10_router 103 = .ok (.getfield 38, 3) := eX10_router_99q.2.2.2.2.1
theorem dX10_router_106 : decode cX10_router 106 = .ok (.getfield 218, 3) := eX10_router_99q.2.2.2.2.2.1
theorem dX10_router_109 : decode cX10_router 109 = .ok (.iload_n 1, 1) := eX10_router_99q.2.2.2.2.2.2.1
theorem dX10_router_110 : decode cX10_router 110 = .ok (.iaload, 1) := eX10_router_99q.2.2.2.2.2.2.2
theorem eX10_router_111q : (decode cX10_router 111 = .ok (.ireturn, 1)) ∧ (decode cX10_router 112 = .ok (.aload_n 0, 1)) ∧ (decode cX10_router 113 = .ok (.getfield 19, 3)) ∧ (decode cX10_router 116 = .ok (.iload_n 1, 1)) ∧ (decode cX10_router 117 = .ok (.invokevirtual 221, 3)) ∧ (decode cX10_router 120 = .ok (.ireturn, 1)) ∧ (decode cX10_router 121 = .ok (.aload_n 0, 1)) ∧ (decode cX10_router 122 = .ok (.getfield 19, 3)) := by decide +kernel
theorem dX10_router_111 : decode cX10_router 111 = .ok (.ireturn, 1) := eX10_router_111q.1
theorem dX10_router_112 : decode cX10_router 112 = .ok (.aload_n 0, 1) := eX10_router_111q.2.1
theorem dX10_router_113 : decode cX10_router 113 = .ok (.getfield 19, 3) := eX10_router_111q.2.2.1
theorem dX10_router_116 : decode cX10_router 116 = .ok (.iload_n 1, 1) := eX10_router_111q.2.2.2.1
theorem dX10_router_117 : decode cX10_router 117 = .ok (.invokevirtual 221, 3) := eX10_router_111q.2.2.2.2.1
theorem dX10_router_120 : decode cX10_router 120 = .ok (.ireturn, 1) := eX10_router_111q.2.2.2.2.2.1
theorem dX10_router_121 : decode cX10_router 121 = .ok (.aload_n 0, 1) := eX10_router_111q.2.2.2.2.2.2.1
theorem dX10_router_122 : decode cX10_router 122 = .ok (.getfield 19, 3) := eX10_router_111q.2.2.2.2.2.2.2
theorem eX10_router_125q : (decode cX10_router 125 = .ok (.iload_n 1, 1)) ∧ (decode cX10_router 126 = .ok (.invokevirtual 224, 3)) ∧ (decode cX10_router 129 = .ok (.ireturn, 1)) ∧ (decode cX10_router 130 = .ok (.new 195, 3)) ∧ (decode cX10_router 133 = .ok (.dup, 1)) ∧ (decode cX10_router 134 = .ok (.ldc 227, 2)) ∧ (decode cX10_router 136 = .ok (.invokespecial 199, 3)) ∧ (decode cX10_router 139 = .ok (.athrow, 1)) := by decide +kernel
theorem dX10_router_125 : decode cX10_router 125 = .ok (.iload_n 1, 1) := eX10_router_125q.1
theorem dX10_router_126 : decode cX10_router 126 = .ok (.invokevirtual 224, 3) := eX10_router_125q.2.1
theorem dX10_router_129 : decode cX10_router 129 = .ok (.ireturn, 1) := eX10_router_125q.2.2.1
theorem dX10_router_130 : decode cX10_router 130 = .ok (.new 195, 3) := eX10_router_125q.2.2.2.1
theorem dX10_router_133 : decode cX10_router 133 = .ok (.dup, 1) := eX10_router_125q.2.2.2.2.1
theorem dX10_router_134 : decode cX10_router 134 = .ok (.ldc 227, 2) := eX10_router_125q.2.2.2.2.2.1
theorem dX10_router_136 : decode cX10_router 136 = .ok (.invokespecial 199, 3) := eX10_router_125q.2.2.2.2.2.2.1
theorem dX10_router_139 : decode cX10_router 139 = .ok (.athrow, 1) := eX10_router_125q.2.2.2.2.2.2.2
set_option maxRecDepth 20000 in
theorem ggX10_link_X10_mustBeLink : GoodIn wsX10_link wsX10_mustBeLink := goodIn_ca (goodIn_r _ [8, 9, 10, 1, 11, 12, 13, 14, 15, 16, 20, 21, 22, 23, 24, 25, 26, 27, 28, 29, 30, 31, 32, 33, 34, 35, 36, 37, 38, 39, 40, 41, 42, 43, 44, 45, 46, 47, 48, 49, 50, 51, 52, 53] rfl (by decide +kernel)) (goodIn_sub (fun _ h => List.mem_cons_of_mem _ (List.mem_append_right _ h)) (by decide +kernel))
set_option maxRecDepth 20000 in
theorem gX10_link_X10_mustBeLink : GoodIn wsX10_link (wsV RX10 229 RX10 yX10_mustBeLink wsX10_mustBeLink) := goodIn_app (goodIn_r _ [4, 5, 6, 7] rfl (by decide +kernel)) ggX10_link_X10_mustBeLink
set_option maxRecDepth 20000 in
theorem ggX10_link_X10_mustBeWhat : GoodIn wsX10_link wsX10_mustBeWhat := goodIn_ca (goodIn_r _ [19, 9, 10] rfl (by decide +kernel)) (goodIn_sub (fun _ h => List.mem_cons_of_mem _ (List.mem_append_right _ h)) (by decide +kernel))
set_option maxRecDepth 20000 in
theorem gX10_link_X10_mustBeWhat : GoodIn wsX10_link (va_wsS RX10 232 yX10_mustBeWhat wsX10_mustBeWhat) := goodIn_app (goodIn_r _ [17, 18, 7] rfl (by decide +kernel)) ggX10_link_X10_mustBeWhat
theorem eX10_link_0q : (decode cX10_link 0 = .ok (.aload_n 0, 1)) ∧ (decode cX10_link 1 = .ok (.iload_n 1, 1)) ∧ (decode cX10_link 2 = .ok (.invokevirtual 229, 3)) ∧ (decode cX10_link 5 = .ok (.iload_n 2, 1)) ∧ (decode cX10_link 6 = .ok (.iconst 1, 1)) ∧ (decode cX10_link 7 = .ok (.invokestatic 232, 3)) ∧ (decode cX10_link 10 = .ok (.iload_n 2, 1)) ∧ (decode cX10_link 11 = .ok (.ifCond .ne 15, 3)) := by decide +kernel
theorem dX10_link_0 : decode cX10_link 0 = .ok (.aload_n 0, 1) := eX10_link_0q.1
theorem dX10_link_1 : decode cX10_link 1 = .ok (.iload_n 1, 1) := eX10_link_0q.2.1
theorem dX10_link_2 : decode cX10_link 2 = .ok (.invokevirtual 229, 3) := eX10_link_0q.2.2.1
theorem dX10_link_5 : decode cX10_link 5 = .ok (.iload_n 2, 1) := eX10_link_0q.2.2.2.1
theorem dX10_link_6 : decode cX10_link 6 = .ok (.iconst 1, 1) := eX10_link_0q.2.2.2.2.1
theorem dX10_link_7 : decode cX10_link 7 = .ok (.invokestatic 232, 3) := eX10_link_0q.2.2.2.2.2.1
theorem dX10_link_10 : decode cX10_link 10 = .ok (.iload_n 2, 1) := eX10_link_0q.2.2.2.2.2.2.1
theorem dX10_link_11 : decode cX10_link 11 = .ok (.ifCond .ne 15, 3) := eX10_link_0q.2.2.2.2.2.2.2
theorem eX10_link_14q : (decode cX10_link 14 = .ok (.aload_n 0, 1)) ∧ (decode cX10_link 15 = .ok (.getfield 19, 3)) ∧ (decode cX10_link 18 = .ok (.getfield 236, 3)) ∧ (decode cX10_link 21 = .ok (.iload_n 1, 1)) ∧ (decode cX10_link 22 = .ok (.iaload, 1)) ∧ (decode cX10_link 23 = .ok (.goto 12, 3)) ∧ (decode cX10_link 26 = .ok (.aload_n 0, 1)) ∧ (decode cX10_link 27 = .ok (.getfield 19, 3)) := by decide +kernel
theorem dX10_link_14 : decode cX10_link 14 = .ok (.aload_n 0, 1) := eX10_link_14q.1
theorem dX10_link_15 : decode cX10_link 15 = .ok (.getfield 19, 3) := eX10_link_14q.2.1
theorem dX10_link_18 : decode cX10_link 18 = .ok (.getfield 236, 3) := eX10_link_14q.2.2.1
theorem dX10_link_21 : decode cX10_link 21 = .ok (.iload_n 1, 1) := eX10_link_14q.2.2.2.1
theorem dX10_link_22 : decode cX10_link 22 = .ok (.iaload, 1) := eX10_link_14q.2.2.2.2.1
theorem dX10_link_23 : decode cX10_link 23 = .ok (.goto 12, 3) := eX10_link_14q.2.2.2.2.2.1
theorem dX10_link_26 : decode cX10_link 26 = .ok (.aload_n 0, 1) := eX10_link_14q.2.2.2.2.2.2.1
theorem dX10_link_27 : decode cX10_link 27 = .ok (.getfield 19, 3) := eX10_link_14q.2.2.2.2.2.2.2
theorem eX10_link_30q : (decode cX10_link 30 = .ok (.getfield 239, 3)) ∧ (decode cX10_link 33 = .ok (.iload_n 1, 1)) ∧ (decode cX10_link 34 = .ok (.iaload, 1)) ∧ (decode cX10_link 35 = .ok (.ireturn, 1)) := by decide +kernel
theorem dX10_link_30 : decode cX10_link 30 = .ok (.getfield 239, 3) := eX10_link_30q.1
theorem dX10_link_33 : decode cX10_link 33 = .ok (.iload_n 1, 1) := eX10_link_30q.2.1
theorem dX10_link_34 : decode cX10_link 34 = .ok (.iaload, 1) := eX10_link_30q.2.2.1
theorem dX10_link_35 : decode cX10_link 35 = .ok (.ireturn, 1) := eX10_link_30q.2.2.2
set_option maxRecDepth 20000 in
theorem ggX10_seen_X10_mustBePort : GoodIn wsX10_seen wsX10_mustBePort := goodIn_ca (goodIn_r _ [5, 6, 7, 8, 9, 4, 10] rfl (by decide +kernel)) (goodIn_sub (fun _ h => List.mem_cons_of_mem _ (List.mem_append_right _ h)) (by decide +kernel))
set_option maxRecDepth 20000 in
theorem gX10_seen_X10_mustBePort : GoodIn wsX10_seen (va_wsS RX10 242 yX10_mustBePort wsX10_mustBePort) := goodIn_app (goodIn_r _ [2, 3, 4] rfl (by decide +kernel)) ggX10_seen_X10_mustBePort
set_option maxRecDepth 20000 in
theorem ggX10_seen_X10_mustBeGoal : GoodIn wsX10_seen wsX10_mustBeGoal := goodIn_ca (goodIn_r _ [14, 6, 7, 15, 16, 17, 18, 19, 20, 21, 35, 36, 37, 38, 39, 40, 41, 42, 43, 44, 45, 46, 47, 48, 49, 50, 51, 52, 53, 54, 55, 56, 57, 58, 59, 60, 61, 62, 63, 64, 65, 66, 67, 68] rfl (by decide +kernel)) (goodIn_sub (fun _ h => List.mem_cons_of_mem _ (List.mem_append_right _ h)) (by decide +kernel))
set_option maxRecDepth 20000 in
theorem gX10_seen_X10_mustBeGoal : GoodIn wsX10_seen (wsV RX10 245 RX10 yX10_mustBeGoal wsX10_mustBeGoal) := goodIn_app (goodIn_r _ [11, 12, 13, 4] rfl (by decide +kernel)) ggX10_seen_X10_mustBeGoal
set_option maxRecDepth 20000 in
theorem ggX10_seen_X10_mustBeHops : GoodIn wsX10_seen wsX10_mustBeHops := goodIn_ca (goodIn_r _ [24, 6, 7, 25, 26, 4, 27] rfl (by decide +kernel)) (goodIn_sub (fun _ h => List.mem_cons_of_mem _ (List.mem_append_right _ h)) (by decide +kernel))
set_option maxRecDepth 20000 in
theorem gX10_seen_X10_mustBeHops : GoodIn wsX10_seen (va_wsS RX10 248 yX10_mustBeHops wsX10_mustBeHops) := goodIn_app (goodIn_r _ [22, 23, 4] rfl (by decide +kernel)) ggX10_seen_X10_mustBeHops
set_option maxRecDepth 20000 in
theorem ggX10_seen_X0_seenBy : GoodIn wsX10_seen wsX0_seenBy := by
  have h := goodIn_app (goodIn_r (big := wsX10_seen) (.code yX0_seenBy cX0_seenBy 6 (some .int) :: ([.fieldLink RX0 9 "PathProber$Condition" "seen" "[J", .constantLong RX0 53 (31)]) : List Cond) [32, 33, 34] rfl (by decide +kernel)) (goodIn_few (big := wsX10_seen) (fun _ h9 => List.mem_cons_of_mem _ (List.mem_append_left _ (List.mem_append_right _ h9))) gb_1)
  exact h
set_option maxRecDepth 20000 in
theorem gX10_seen_X0_seenBy : GoodIn wsX10_seen (wsV RX10 251 RX0 yX0_seenBy wsX0_seenBy) := goodIn_app (goodIn_r _ [28, 29, 30, 31] rfl (by decide +kernel)) ggX10_seen_X0_seenBy
theorem eX10_seen_0q : (decode cX10_seen 0 = .ok (.iload_n 1, 1)) ∧ (decode cX10_seen 1 = .ok (.invokestatic 242, 3)) ∧ (decode cX10_seen 4 = .ok (.aload_n 0, 1)) ∧ (decode cX10_seen 5 = .ok (.iload_n 2, 1)) ∧ (decode cX10_seen 6 = .ok (.invokevirtual 245, 3)) ∧ (decode cX10_seen 9 = .ok (.iload_n 3, 1)) ∧ (decode cX10_seen 10 = .ok (.invokestatic 248, 3)) ∧ (decode cX10_seen 13 = .ok (.aload_n 0, 1)) := by decide +kernel
theorem dX10_seen_0 : decode cX10_seen 0 = .ok (.iload_n 1, 1) := eX10_seen_0q.1
theorem dX10_seen_1 : decode cX10_seen 1 = .ok (.invokestatic 242, 3) := eX10_seen_0q.2.1
theorem dX10_seen_4 : decode cX10_seen 4 = .ok (.aload_n 0, 1) := eX10_seen_0q.2.2.1
theorem dX10_seen_5 : decode cX10_seen 5 = .ok (.iload_n 2, 1) := eX10_seen_0q.2.2.2.1
theorem dX10_seen_6 : decode cX10_seen 6 = .ok (.invokevirtual 245, 3) := eX10_seen_0q.2.2.2.2.1
theorem dX10_seen_9 : decode cX10_seen 9 = .ok (.iload_n 3, 1) := eX10_seen_0q.2.2.2.2.2.1
theorem dX10_seen_10 : decode cX10_seen 10 = .ok (.invokestatic 248, 3) := eX10_seen_0q.2.2.2.2.2.2.1
theorem dX10_seen_13 : decode cX10_seen 13 = .ok (.aload_n 0, 1) := eX10_seen_0q.2.2.2.2.2.2.2
theorem eX10_seen_14q : (decode cX10_seen 14 = .ok (.getfield 38, 3)) ∧ (decode cX10_seen 17 = .ok (.iload_n 1, 1)) ∧ (decode cX10_seen 18 = .ok (.iload_n 2, 1)) ∧ (decode cX10_seen 19 = .ok (.iload_n 3, 1)) ∧ (decode cX10_seen 20 = .ok (.invokevirtual 251, 3)) ∧ (decode cX10_seen 23 = .ok (.ireturn, 1)) := by decide +kernel
theorem dX10_seen_14 : decode cX10_seen 14 = .ok (.getfield 38, 3) := eX10_seen_14q.1
theorem dX10_seen_17 : decode cX10_seen 17 = .ok (.iload_n 1, 1) := eX10_seen_14q.2.1
theorem dX10_seen_18 : decode cX10_seen 18 = .ok (.iload_n 2, 1) := eX10_seen_14q.2.2.1
theorem dX10_seen_19 : decode cX10_seen 19 = .ok (.iload_n 3, 1) := eX10_seen_14q.2.2.2.1
theorem dX10_seen_20 : decode cX10_seen 20 = .ok (.invokevirtual 251, 3) := eX10_seen_14q.2.2.2.2.1
theorem dX10_seen_23 : decode cX10_seen 23 = .ok (.ireturn, 1) := eX10_seen_14q.2.2.2.2.2
set_option maxRecDepth 20000 in
theorem ggX10_hop_X10_mustBeGoal : GoodIn wsX10_hop wsX10_mustBeGoal := goodIn_ca (goodIn_r _ [10, 1, 2, 5, 11, 12, 13, 14, 15, 16, 91, 92, 93, 94, 95, 96, 97, 98, 99, 100, 101, 102, 103, 104, 105, 106, 107, 108, 109, 110, 111, 112, 113, 114, 115, 116, 117, 118, 119, 120, 121, 122, 123, 124] rfl (by decide +kernel)) (goodIn_sub (fun _ h => List.mem_cons_of_mem _ (List.mem_append_right _ h)) (by decide +kernel))
set_option maxRecDepth 20000 in
theorem gX10_hop_X10_mustBeGoal : GoodIn wsX10_hop (wsV RX10 245 RX10 yX10_mustBeGoal wsX10_mustBeGoal) := goodIn_app (goodIn_r _ [6, 7, 8, 9] rfl (by decide +kernel)) ggX10_hop_X10_mustBeGoal
set_option maxRecDepth 20000 in
theorem ggX10_hop_X10_mustBeHops : GoodIn wsX10_hop wsX10_mustBeHops := goodIn_ca (goodIn_r _ [19, 1, 2, 20, 21, 9, 22] rfl (by decide +kernel)) (goodIn_sub (fun _ h => List.mem_cons_of_mem _ (List.mem_append_right _ h)) (by decide +kernel))
set_option maxRecDepth 20000 in
theorem gX10_hop_X10_mustBeHops : GoodIn wsX10_hop (va_wsS RX10 248 yX10_mustBeHops wsX10_mustBeHops) := goodIn_app (goodIn_r _ [17, 18, 9] rfl (by decide +kernel)) ggX10_hop_X10_mustBeHops
set_option maxRecDepth 20000 in
theorem ggX10_hop_X0_seenAt : GoodIn wsX10_hop wsX0_seenAt := by
  have h := goodIn_app (goodIn_r (big := wsX10_hop) (.code yX0_seenAt cX0_seenAt 6 (some .int) :: ([.fieldLink RX0 9 "PathProber$Condition" "seen" "[J", .constantLong RX0 53 (31)]) : List Cond) [27, 28, 29] rfl (by decide +kernel)) (goodIn_few (big := wsX10_hop) (fun _ h9 => List.mem_cons_of_mem _ (List.mem_append_left _ (List.mem_append_left _ (List.mem_append_right _ h9)))) gb_1)
  exact h
set_option maxRecDepth 20000 in
theorem gX10_hop_X0_seenAt : GoodIn wsX10_hop (wsV RX10 255 RX0 yX0_seenAt wsX0_seenAt) := goodIn_app (goodIn_r _ [23, 24, 25, 26] rfl (by decide +kernel)) ggX10_hop_X0_seenAt
set_option maxRecDepth 20000 in
theorem ggX10_hop_X0_sentAt : GoodIn wsX10_hop wsX0_sentAt := by
  have h := goodIn_app (goodIn_r (big := wsX10_hop) (.code yX0_sentAt cX0_sentAt 3 (some .int) :: ([.fieldLink RX0 15 "PathProber$Condition" "sent" "[I"]) : List Cond) [33, 34] rfl (by decide +kernel)) (goodIn_few (big := wsX10_hop) (fun _ h9 => List.mem_cons_of_mem _ (List.mem_append_left _ (List.mem_append_left _ (List.mem_append_right _ h9)))) gb_1)
  exact h
set_option maxRecDepth 20000 in
theorem gX10_hop_X0_sentAt : GoodIn wsX10_hop (wsV RX10 258 RX0 yX0_sentAt wsX0_sentAt) := goodIn_app (goodIn_r _ [30, 31, 32, 26] rfl (by decide +kernel)) ggX10_hop_X0_sentAt
set_option maxRecDepth 20000 in
theorem ggX10_hop_X7_edgesAt : GoodIn wsX10_hop wsX7_edgesAt := by
  have h := goodIn_app (goodIn_app (goodIn_r (big := wsX10_hop) (.code yX7_edgesAt cX7_edgesAt 5 (some .int) :: ([.fieldLink RX7 9 "PathProber$Sight" "edgesFrom" "[I", .methodLink RX7 51 yX7_drawEdges, .instanceMethod yX7_drawEdges, .selects RX7 yX7_drawEdges yX7_drawEdges, .initialized RX7, .code yX7_drawEdges cX7_drawEdges 6 none, .fieldLink RX7 25 "PathProber$Sight" "now" "LPathProber$Condition;", .methodLink RX7 47 yX0_seenBy, .instanceMethod yX0_seenBy, .selects RX0 yX0_seenBy yX0_seenBy, .initialized RX0, .code yX0_seenBy cX0_seenBy 6 (some .int), .fieldLink RX0 9 "PathProber$Condition" "seen" "[J", .constantLong RX0 53 (31), .methodLink RX7 35 yJ6_bitCount_0f7a4, .static yJ6_bitCount_0f7a4, .initialized RJ6, .code yJ6_bitCount_0f7a4 cJ6_bitCount_0f7a4 1 (some .int), .constant RJ6 265 (1431655765), .constant RJ6 266 (858993459), .constant RJ6 267 (252645135)]) : List Cond) [39, 40, 41, 42, 43, 38, 44, 45, 46, 47, 48, 26, 49, 28, 29, 50, 51, 52, 53, 54, 55, 56] rfl (by decide +kernel)) (goodIn_few (big := wsX10_hop) (fun _ h9 => List.mem_cons_of_mem _ (List.mem_append_left _ (List.mem_append_right _ h9))) gb_7)) (goodIn_few (big := wsX10_hop) (fun _ h9 => List.mem_cons_of_mem _ (List.mem_append_left _ (List.mem_append_left _ (List.mem_append_right _ h9)))) gb_1)
  exact h
set_option maxRecDepth 20000 in
theorem gX10_hop_X7_edgesAt : GoodIn wsX10_hop (wsV RX10 261 RX7 yX7_edgesAt wsX7_edgesAt) := goodIn_app (goodIn_r _ [35, 36, 37, 38] rfl (by decide +kernel)) ggX10_hop_X7_edgesAt
set_option maxRecDepth 20000 in
theorem ggX10_hop_X2_placesAt : GoodIn wsX10_hop wsX2_placesAt := by
  have h := goodIn_app (goodIn_r (big := wsX10_hop) (.code yX2_placesAt cX2_placesAt 5 (some .int) :: (wsX2_placesAt_r1 ++ wsX2_placesAt_r2) : List Cond) [60, 61, 62, 63, 64, 14, 65, 66, 67, 68, 69, 70, 71, 72, 73, 74, 75, 76, 77, 78, 79, 80, 81, 82, 83, 84, 85, 86] rfl (by decide +kernel)) (goodIn_few (big := wsX10_hop) (fun _ h9 => List.mem_cons_of_mem _ (List.mem_append_left _ (List.mem_append_left _ (List.mem_append_left _ (List.mem_append_right _ h9))))) gb_2)
  exact h
set_option maxRecDepth 20000 in
theorem gX10_hop_X2_placesAt : GoodIn wsX10_hop (wsV RX10 264 RX2 yX2_placesAt wsX2_placesAt) := goodIn_app (goodIn_r _ [57, 58, 59, 14] rfl (by decide +kernel)) ggX10_hop_X2_placesAt
set_option maxRecDepth 20000 in
theorem ggX10_hop_X10_hiddenAt : GoodIn wsX10_hop wsX10_hiddenAt := by
  have h := goodIn_app (goodIn_app (goodIn_app (goodIn_r (big := wsX10_hop) (.code yX10_hiddenAt cX10_hiddenAt 3 (some .int) :: (wsX10_hiddenAt_r1 ++ wsX10_hiddenAt_r2) : List Cond) [90, 5, 3, 57, 58, 59, 14, 60, 61, 62, 63, 64, 65, 66, 67, 68, 69, 70, 71, 72, 73, 74, 75, 76, 77, 78, 79, 80, 81, 82, 83, 84, 85, 86, 23, 24, 25, 26, 27, 28, 29] rfl (by decide +kernel)) (goodIn_few (big := wsX10_hop) (fun _ h9 => List.mem_cons_of_mem _ (List.mem_append_left _ (List.mem_append_left _ (List.mem_append_left _ (List.mem_append_left _ (List.mem_append_right _ h9)))))) gb_9)) (goodIn_few (big := wsX10_hop) (fun _ h9 => List.mem_cons_of_mem _ (List.mem_append_left _ (List.mem_append_left _ (List.mem_append_left _ (List.mem_append_right _ h9))))) gb_2)) (goodIn_few (big := wsX10_hop) (fun _ h9 => List.mem_cons_of_mem _ (List.mem_append_left _ (List.mem_append_left _ (List.mem_append_right _ h9)))) gb_1)
  exact h
set_option maxRecDepth 20000 in
theorem gX10_hop_X10_hiddenAt : GoodIn wsX10_hop (wsV RX10 267 RX10 yX10_hiddenAt wsX10_hiddenAt) := goodIn_app (goodIn_r _ [87, 88, 89, 9] rfl (by decide +kernel)) ggX10_hop_X10_hiddenAt
theorem eX10_hop_0q : (decode cX10_hop 0 = .ok (.aload_n 0, 1)) ∧ (decode cX10_hop 1 = .ok (.iload_n 1, 1)) ∧ (decode cX10_hop 2 = .ok (.invokevirtual 245, 3)) ∧ (decode cX10_hop 5 = .ok (.iload_n 2, 1)) ∧ (decode cX10_hop 6 = .ok (.invokestatic 248, 3)) ∧ (decode cX10_hop 9 = .ok (.iload_n 3, 1)) ∧ (decode cX10_hop 10 = .ok (.tableswitch 81 0 4 #[34, 44, 54, 64, 74], 34)) ∧ (decode cX10_hop 44 = .ok (.aload_n 0, 1)) := by decide +kernel
theorem dX10_hop_0 : decode cX10_hop 0 = .ok (.aload_n 0, 1) := eX10_hop_0q.1
theorem dX10_hop_1 : decode cX10_hop 1 = .ok (.iload_n 1, 1) := eX10_hop_0q.2.1
theorem dX10_hop_2 : decode cX10_hop 2 = .ok (.invokevirtual 245, 3) := eX10_hop_0q.2.2.1
theorem dX10_hop_5 : decode cX10_hop 5 = .ok (.iload_n 2, 1) := eX10_hop_0q.2.2.2.1
theorem dX10_hop_6 : decode cX10_hop 6 = .ok (.invokestatic 248, 3) := eX10_hop_0q.2.2.2.2.1
theorem dX10_hop_9 : decode cX10_hop 9 = .ok (.iload_n 3, 1) := eX10_hop_0q.2.2.2.2.2.1
theorem dX10_hop_10 : decode cX10_hop 10 = .ok (.tableswitch 81 0 4 #[34, 44, 54, 64, 74], 34) := eX10_hop_0q.2.2.2.2.2.2.1
theorem dX10_hop_44 : decode cX10_hop 44 = .ok (.aload_n 0, 1) := eX10_hop_0q.2.2.2.2.2.2.2
theorem eX10_hop_45q : (decode cX10_hop 45 = .ok (.getfield 38, 3)) ∧ (decode cX10_hop 48 = .ok (.iload_n 1, 1)) ∧ (decode cX10_hop 49 = .ok (.iload_n 2, 1)) ∧ (decode cX10_hop 50 = .ok (.invokevirtual 255, 3)) ∧ (decode cX10_hop 53 = .ok (.ireturn, 1)) ∧ (decode cX10_hop 54 = .ok (.aload_n 0, 1)) ∧ (decode cX10_hop 55 = .ok (.getfield 38, 3)) ∧ (decode cX10_hop 58 = .ok (.iload_n 1, 1)) := by decide +kernel
theorem dX10_hop_45 : decode cX10_hop 45 = .ok (.getfield 38, 3) := eX10_hop_45q.1
theorem dX10_hop_48 : decode cX10_hop 48 = .ok (.iload_n 1, 1) := eX10_hop_45q.2.1
theorem dX10_hop_49 : decode cX10_hop 49 = .ok (.iload_n 2, 1) := eX10_hop_45q.2.2.1
theorem dX10_hop_50 : decode cX10_hop 50 = .ok (.invokevirtual 255, 3) := eX10_hop_45q.2.2.2.1
theorem dX10_hop_53 : decode cX10_hop 53 = .ok (.ireturn, 1) := eX10_hop_45q.2.2.2.2.1
theorem dX10_hop_54 : decode cX10_hop 54 = .ok (.aload_n 0, 1) := eX10_hop_45q.2.2.2.2.2.1
theorem dX10_hop_55 : decode cX10_hop 55 = .ok (.getfield 38, 3) := eX10_hop_45q.2.2.2.2.2.2.1
theorem dX10_hop_58 : decode cX10_hop 58 = .ok (.iload_n 1, 1) := eX10_hop_45q.2.2.2.2.2.2.2
theorem eX10_hop_59q : (decode cX10_hop 59 = .ok (.iload_n 2, 1)) ∧ (decode cX10_hop 60 = .ok (.invokevirtual 258, 3)) ∧ (decode cX10_hop 63 = .ok (.ireturn, 1)) ∧ (decode cX10_hop 64 = .ok (.aload_n 0, 1)) ∧ (decode cX10_hop 65 = .ok (.getfield 57, 3)) ∧ (decode cX10_hop 68 = .ok (.iload_n 1, 1)) ∧ (decode cX10_hop 69 = .ok (.iload_n 2, 1)) ∧ (decode cX10_hop 70 = .ok (.invokevirtual 261, 3)) := by decide +kernel
theorem dX10_hop_59 : decode cX10_hop 59 = .ok (.iload_n 2, 1) := eX10_hop_59q.1
theorem dX10_hop_60 : decode cX10_hop 60 = .ok (.invokevirtual 258, 3) := eX10_hop_59q.2.1
theorem dX10_hop_63 : decode cX10_hop 63 = .ok (.ireturn, 1) := eX10_hop_59q.2.2.1
theorem dX10_hop_64 : decode cX10_hop 64 = .ok (.aload_n 0, 1) := eX10_hop_59q.2.2.2.1
theorem dX10_hop_65 : decode cX10_hop 65 = .ok (.getfield 57, 3) := eX10_hop_59q.2.2.2.2.1
theorem dX10_hop_68 : decode cX10_hop 68 = .ok (.iload_n 1, 1) := eX10_hop_59q.2.2.2.2.2.1
theorem dX10_hop_69 : decode cX10_hop 69 = .ok (.iload_n 2, 1) := eX10_hop_59q.2.2.2.2.2.2.1
theorem dX10_hop_70 : decode cX10_hop 70 = .ok (.invokevirtual 261, 3) := eX10_hop_59q.2.2.2.2.2.2.2
theorem eX10_hop_73q : (decode cX10_hop 73 = .ok (.ireturn, 1)) ∧ (decode cX10_hop 74 = .ok (.aload_n 0, 1)) ∧ (decode cX10_hop 75 = .ok (.getfield 19, 3)) ∧ (decode cX10_hop 78 = .ok (.iload_n 1, 1)) ∧ (decode cX10_hop 79 = .ok (.iload_n 2, 1)) ∧ (decode cX10_hop 80 = .ok (.invokevirtual 264, 3)) ∧ (decode cX10_hop 83 = .ok (.ireturn, 1)) ∧ (decode cX10_hop 84 = .ok (.aload_n 0, 1)) := by decide +kernel
theorem dX10_hop_73 : decode cX10_hop 73 = .ok (.ireturn, 1) := eX10_hop_73q.1
theorem dX10_hop_74 : decode cX10_hop 74 = .ok (.aload_n 0, 1) := eX10_hop_73q.2.1
theorem dX10_hop_75 : decode cX10_hop 75 = .ok (.getfield 19, 3) := eX10_hop_73q.2.2.1
theorem dX10_hop_78 : decode cX10_hop 78 = .ok (.iload_n 1, 1) := eX10_hop_73q.2.2.2.1
theorem dX10_hop_79 : decode cX10_hop 79 = .ok (.iload_n 2, 1) := eX10_hop_73q.2.2.2.2.1
theorem dX10_hop_80 : decode cX10_hop 80 = .ok (.invokevirtual 264, 3) := eX10_hop_73q.2.2.2.2.2.1
theorem dX10_hop_83 : decode cX10_hop 83 = .ok (.ireturn, 1) := eX10_hop_73q.2.2.2.2.2.2.1
theorem dX10_hop_84 : decode cX10_hop 84 = .ok (.aload_n 0, 1) := eX10_hop_73q.2.2.2.2.2.2.2
theorem eX10_hop_85q : (decode cX10_hop 85 = .ok (.iload_n 1, 1)) ∧ (decode cX10_hop 86 = .ok (.iload_n 2, 1)) ∧ (decode cX10_hop 87 = .ok (.invokevirtual 267, 3)) ∧ (decode cX10_hop 90 = .ok (.ireturn, 1)) ∧ (decode cX10_hop 91 = .ok (.new 195, 3)) ∧ (decode cX10_hop 94 = .ok (.dup, 1)) ∧ (decode cX10_hop 95 = .ok (.ldc_w 270, 3)) ∧ (decode cX10_hop 98 = .ok (.invokespecial 199, 3)) := by decide +kernel
theorem dX10_hop_85 : decode cX10_hop 85 = .ok (.iload_n 1, 1) := eX10_hop_85q.1
theorem dX10_hop_86 : decode cX10_hop 86 = .ok (.iload_n 2, 1) := eX10_hop_85q.2.1
theorem dX10_hop_87 : decode cX10_hop 87 = .ok (.invokevirtual 267, 3) := eX10_hop_85q.2.2.1
theorem dX10_hop_90 : decode cX10_hop 90 = .ok (.ireturn, 1) := eX10_hop_85q.2.2.2.1
theorem dX10_hop_91 : decode cX10_hop 91 = .ok (.new 195, 3) := eX10_hop_85q.2.2.2.2.1
theorem dX10_hop_94 : decode cX10_hop 94 = .ok (.dup, 1) := eX10_hop_85q.2.2.2.2.2.1
theorem dX10_hop_95 : decode cX10_hop 95 = .ok (.ldc_w 270, 3) := eX10_hop_85q.2.2.2.2.2.2.1
theorem dX10_hop_98 : decode cX10_hop 98 = .ok (.invokespecial 199, 3) := eX10_hop_85q.2.2.2.2.2.2.2
theorem dX10_hop_101 : decode cX10_hop 101 = .ok (.athrow, 1) := by decide +kernel
set_option maxRecDepth 20000 in
theorem ggX10_sure_X10_mustBeGoal : GoodIn wsX10_sure wsX10_mustBeGoal := goodIn_ca (goodIn_r _ [8, 9, 10, 11, 12, 13, 14, 15, 16, 17, 58, 59, 60, 61, 62, 63, 64, 65, 66, 67, 68, 69, 70, 71, 72, 73, 74, 75, 76, 77, 78, 79, 80, 81, 82, 83, 84, 85, 86, 87, 88, 89, 90, 91] rfl (by decide +kernel)) (goodIn_sub (fun _ h => List.mem_cons_of_mem _ (List.mem_append_right _ h)) (by decide +kernel))
set_option maxRecDepth 20000 in
theorem gX10_sure_X10_mustBeGoal : GoodIn wsX10_sure (wsV RX10 245 RX10 yX10_mustBeGoal wsX10_mustBeGoal) := goodIn_app (goodIn_r _ [4, 5, 6, 7] rfl (by decide +kernel)) ggX10_sure_X10_mustBeGoal
set_option maxRecDepth 20000 in
theorem ggX10_sure_X10_mustBeHops : GoodIn wsX10_sure wsX10_mustBeHops := goodIn_ca (goodIn_r _ [20, 9, 10, 21, 22, 7, 23] rfl (by decide +kernel)) (goodIn_sub (fun _ h => List.mem_cons_of_mem _ (List.mem_append_right _ h)) (by decide +kernel))
set_option maxRecDepth 20000 in
theorem gX10_sure_X10_mustBeHops : GoodIn wsX10_sure (va_wsS RX10 248 yX10_mustBeHops wsX10_mustBeHops) := goodIn_app (goodIn_r _ [18, 19, 7] rfl (by decide +kernel)) ggX10_sure_X10_mustBeHops
set_option maxRecDepth 20000 in
theorem ggX10_sure_X0_seenAt : GoodIn wsX10_sure wsX0_seenAt := by
  have h := goodIn_app (goodIn_r (big := wsX10_sure) (.code yX0_seenAt cX0_seenAt 6 (some .int) :: ([.fieldLink RX0 9 "PathProber$Condition" "seen" "[J", .constantLong RX0 53 (31)]) : List Cond) [28, 29, 30] rfl (by decide +kernel)) (goodIn_few (big := wsX10_sure) (fun _ h9 => List.mem_cons_of_mem _ (List.mem_append_left _ (List.mem_append_left _ (List.mem_append_right _ h9)))) gb_1)
  exact h
set_option maxRecDepth 20000 in
theorem gX10_sure_X0_seenAt : GoodIn wsX10_sure (wsV RX10 255 RX0 yX0_seenAt wsX0_seenAt) := goodIn_app (goodIn_r _ [24, 25, 26, 27] rfl (by decide +kernel)) ggX10_sure_X0_seenAt
set_option maxRecDepth 20000 in
theorem ggX10_sure_J6_bitCount_0f7a4 : GoodIn wsX10_sure wsJ6_bitCount_0f7a4 := goodIn_r _ [34, 35, 36, 37] rfl (by decide +kernel)
set_option maxRecDepth 20000 in
theorem gX10_sure_J6_bitCount_0f7a4 : GoodIn wsX10_sure (va_wsS RX10 272 yJ6_bitCount_0f7a4 wsJ6_bitCount_0f7a4) := goodIn_app (goodIn_r _ [31, 32, 33] rfl (by decide +kernel)) ggX10_sure_J6_bitCount_0f7a4
set_option maxRecDepth 20000 in
theorem ggX10_sure_X0_sentAt : GoodIn wsX10_sure wsX0_sentAt := by
  have h := goodIn_app (goodIn_r (big := wsX10_sure) (.code yX0_sentAt cX0_sentAt 3 (some .int) :: ([.fieldLink RX0 15 "PathProber$Condition" "sent" "[I"]) : List Cond) [41, 42] rfl (by decide +kernel)) (goodIn_few (big := wsX10_sure) (fun _ h9 => List.mem_cons_of_mem _ (List.mem_append_left _ (List.mem_append_left _ (List.mem_append_right _ h9)))) gb_1)
  exact h
set_option maxRecDepth 20000 in
theorem gX10_sure_X0_sentAt : GoodIn wsX10_sure (wsV RX10 258 RX0 yX0_sentAt wsX0_sentAt) := goodIn_app (goodIn_r _ [38, 39, 40, 27] rfl (by decide +kernel)) ggX10_sure_X0_sentAt
set_option maxRecDepth 20000 in
theorem ggX10_sure_X4_missed : GoodIn wsX10_sure wsX4_missed := by
  have h := goodIn_app (goodIn_r (big := wsX10_sure) (.code yX4_missed cX4_missed 4 (some .long) :: ([.fieldLink RX4 9 "PathProber$Odds" "met" "[J", .constantLong RX4 23 (1000000000000), .methodLink RX4 25 yX4_begin, .instanceMethod yX4_begin, .selects RX4 yX4_begin yX4_begin, .initialized RX4, .code yX4_begin cX4_begin 3 none, .methodLink RX4 29 yX4_sendNext, .instanceMethod yX4_sendNext, .selects RX4 yX4_sendNext yX4_sendNext, .code yX4_sendNext cX4_sendNext 5 none]) : List Cond) [47, 48, 49, 50, 51, 52, 46, 53, 54, 55, 56, 57] rfl (by decide +kernel)) (goodIn_few (big := wsX10_sure) (fun _ h9 => List.mem_cons_of_mem _ (List.mem_append_left _ (List.mem_append_right _ h9))) gb_3)
  exact h
set_option maxRecDepth 20000 in
theorem gX10_sure_X4_missed : GoodIn wsX10_sure (wsV RX10 279 RX4 yX4_missed wsX4_missed) := goodIn_app (goodIn_r _ [43, 44, 45, 46] rfl (by decide +kernel)) ggX10_sure_X4_missed
theorem eX10_sure_0q : (decode cX10_sure 0 = .ok (.aload_n 0, 1)) ∧ (decode cX10_sure 1 = .ok (.iload_n 1, 1)) ∧ (decode cX10_sure 2 = .ok (.invokevirtual 245, 3)) ∧ (decode cX10_sure 5 = .ok (.iload_n 2, 1)) ∧ (decode cX10_sure 6 = .ok (.invokestatic 248, 3)) ∧ (decode cX10_sure 9 = .ok (.aload_n 0, 1)) ∧ (decode cX10_sure 10 = .ok (.getfield 38, 3)) ∧ (decode cX10_sure 13 = .ok (.iload_n 1, 1)) := by decide +kernel
theorem dX10_sure_0 : decode cX10_sure 0 = .ok (.aload_n 0, 1) := eX10_sure_0q.1
theorem dX10_sure_1 : decode cX10_sure 1 = .ok (.iload_n 1, 1) := eX10_sure_0q.2.1
theorem dX10_sure_2 : decode cX10_sure 2 = .ok (.invokevirtual 245, 3) := eX10_sure_0q.2.2.1
theorem dX10_sure_5 : decode cX10_sure 5 = .ok (.iload_n 2, 1) := eX10_sure_0q.2.2.2.1
theorem dX10_sure_6 : decode cX10_sure 6 = .ok (.invokestatic 248, 3) := eX10_sure_0q.2.2.2.2.1
theorem dX10_sure_9 : decode cX10_sure 9 = .ok (.aload_n 0, 1) := eX10_sure_0q.2.2.2.2.2.1
theorem dX10_sure_10 : decode cX10_sure 10 = .ok (.getfield 38, 3) := eX10_sure_0q.2.2.2.2.2.2.1
theorem dX10_sure_13 : decode cX10_sure 13 = .ok (.iload_n 1, 1) := eX10_sure_0q.2.2.2.2.2.2.2
theorem eX10_sure_14q : (decode cX10_sure 14 = .ok (.iload_n 2, 1)) ∧ (decode cX10_sure 15 = .ok (.invokevirtual 255, 3)) ∧ (decode cX10_sure 18 = .ok (.invokestatic 272, 3)) ∧ (decode cX10_sure 21 = .ok (.istore_n 3, 1)) ∧ (decode cX10_sure 22 = .ok (.iload_n 3, 1)) ∧ (decode cX10_sure 23 = .ok (.ifCond .ne 9, 3)) ∧ (decode cX10_sure 26 = .ok (.ldc2_w 277, 3)) ∧ (decode cX10_sure 29 = .ok (.goto 22, 3)) := by decide +kernel
theorem dX10_sure_14 : decode cX10_sure 14 = .ok (.iload_n 2, 1) := eX10_sure_14q.1
theorem dX10_sure_15 : decode cX10_sure 15 = .ok (.invokevirtual 255, 3) := eX10_sure_14q.2.1
theorem dX10_sure_18 : decode cX10_sure 18 = .ok (.invokestatic 272, 3) := eX10_sure_14q.2.2.1
theorem dX10_sure_21 : decode cX10_sure 21 = .ok (.istore_n 3, 1) := eX10_sure_14q.2.2.2.1
theorem dX10_sure_22 : decode cX10_sure 22 = .ok (.iload_n 3, 1) := eX10_sure_14q.2.2.2.2.1
theorem dX10_sure_23 : decode cX10_sure 23 = .ok (.ifCond .ne 9, 3) := eX10_sure_14q.2.2.2.2.2.1
theorem dX10_sure_26 : decode cX10_sure 26 = .ok (.ldc2_w 277, 3) := eX10_sure_14q.2.2.2.2.2.2.1
theorem dX10_sure_29 : decode cX10_sure 29 = .ok (.goto 22, 3) := eX10_sure_14q.2.2.2.2.2.2.2
theorem eX10_sure_32q : (decode cX10_sure 32 = .ok (.aload_n 0, 1)) ∧ (decode cX10_sure 33 = .ok (.getfield 48, 3)) ∧ (decode cX10_sure 36 = .ok (.aload_n 0, 1)) ∧ (decode cX10_sure 37 = .ok (.getfield 38, 3)) ∧ (decode cX10_sure 40 = .ok (.iload_n 1, 1)) ∧ (decode cX10_sure 41 = .ok (.iload_n 2, 1)) ∧ (decode cX10_sure 42 = .ok (.invokevirtual 258, 3)) ∧ (decode cX10_sure 45 = .ok (.iload_n 3, 1)) := by decide +kernel
theorem dX10_sure_32 : decode cX10_sure 32 = .ok (.aload_n 0, 1) := eX10_sure_32q.1
theorem dX10_sure_33 : decode cX10_sure 33 = .ok (.getfield 48, 3) := eX10_sure_32q.2.1
theorem dX10_sure_36 : decode cX10_sure 36 = .ok (.aload_n 0, 1) := eX10_sure_32q.2.2.1
theorem dX10_sure_37 : decode cX10_sure 37 = .ok (.getfield 38, 3) := eX10_sure_32q.2.2.2.1
theorem dX10_sure_40 : decode cX10_sure 40 = .ok (.iload_n 1, 1) := eX10_sure_32q.2.2.2.2.1
theorem dX10_sure_41 : decode cX10_sure 41 = .ok (.iload_n 2, 1) := eX10_sure_32q.2.2.2.2.2.1
theorem dX10_sure_42 : decode cX10_sure 42 = .ok (.invokevirtual 258, 3) := eX10_sure_32q.2.2.2.2.2.2.1
theorem dX10_sure_45 : decode cX10_sure 45 = .ok (.iload_n 3, 1) := eX10_sure_32q.2.2.2.2.2.2.2
theorem eX10_sure_46q : (decode cX10_sure 46 = .ok (.iconst 1, 1)) ∧ (decode cX10_sure 47 = .ok (.iadd, 1)) ∧ (decode cX10_sure 48 = .ok (.invokevirtual 279, 3)) ∧ (decode cX10_sure 51 = .ok (.lreturn, 1)) := by decide +kernel
theorem dX10_sure_46 : decode cX10_sure 46 = .ok (.iconst 1, 1) := eX10_sure_46q.1
theorem dX10_sure_47 : decode cX10_sure 47 = .ok (.iadd, 1) := eX10_sure_46q.2.1
theorem dX10_sure_48 : decode cX10_sure 48 = .ok (.invokevirtual 279, 3) := eX10_sure_46q.2.2.1
theorem dX10_sure_51 : decode cX10_sure 51 = .ok (.lreturn, 1) := eX10_sure_46q.2.2.2
set_option maxRecDepth 20000 in
theorem ggX10_missing_X4_missed : GoodIn wsX10_missing wsX4_missed := by
  have h := goodIn_app (goodIn_r (big := wsX10_missing) (.code yX4_missed cX4_missed 4 (some .long) :: ([.fieldLink RX4 9 "PathProber$Odds" "met" "[J", .constantLong RX4 23 (1000000000000), .methodLink RX4 25 yX4_begin, .instanceMethod yX4_begin, .selects RX4 yX4_begin yX4_begin, .initialized RX4, .code yX4_begin cX4_begin 3 none, .methodLink RX4 29 yX4_sendNext, .instanceMethod yX4_sendNext, .selects RX4 yX4_sendNext yX4_sendNext, .code yX4_sendNext cX4_sendNext 5 none]) : List Cond) [8, 9, 10, 11, 12, 13, 7, 14, 15, 16, 17, 18] rfl (by decide +kernel)) (goodIn_few (big := wsX10_missing) (fun _ h9 => List.mem_cons_of_mem _ (List.mem_append_left _ (List.mem_append_right _ h9))) gb_3)
  exact h
set_option maxRecDepth 20000 in
theorem gX10_missing_X4_missed : GoodIn wsX10_missing (wsV RX10 279 RX4 yX4_missed wsX4_missed) := goodIn_app (goodIn_r _ [4, 5, 6, 7] rfl (by decide +kernel)) ggX10_missing_X4_missed
theorem eX10_missing_0q : (decode cX10_missing 0 = .ok (.iload_n 1, 1)) ∧ (decode cX10_missing 1 = .ok (.ifCond .lt 19, 3)) ∧ (decode cX10_missing 4 = .ok (.iload_n 1, 1)) ∧ (decode cX10_missing 5 = .ok (.bipush 60, 2)) ∧ (decode cX10_missing 7 = .ok (.if_icmp .gt 13, 3)) ∧ (decode cX10_missing 10 = .ok (.iload_n 2, 1)) ∧ (decode cX10_missing 11 = .ok (.iconst 1, 1)) ∧ (decode cX10_missing 12 = .ok (.if_icmp .lt 8, 3)) := by decide +kernel
theorem dX10_missing_0 : decode cX10_missing 0 = .ok (.iload_n 1, 1) := eX10_missing_0q.1
theorem dX10_missing_1 : decode cX10_missing 1 = .ok (.ifCond .lt 19, 3) := eX10_missing_0q.2.1
theorem dX10_missing_4 : decode cX10_missing 4 = .ok (.iload_n 1, 1) := eX10_missing_0q.2.2.1
theorem dX10_missing_5 : decode cX10_missing 5 = .ok (.bipush 60, 2) := eX10_missing_0q.2.2.2.1
theorem dX10_missing_7 : decode cX10_missing 7 = .ok (.if_icmp .gt 13, 3) := eX10_missing_0q.2.2.2.2.1
theorem dX10_missing_10 : decode cX10_missing 10 = .ok (.iload_n 2, 1) := eX10_missing_0q.2.2.2.2.2.1
theorem dX10_missing_11 : decode cX10_missing 11 = .ok (.iconst 1, 1) := eX10_missing_0q.2.2.2.2.2.2.1
theorem dX10_missing_12 : decode cX10_missing 12 = .ok (.if_icmp .lt 8, 3) := eX10_missing_0q.2.2.2.2.2.2.2
theorem eX10_missing_15q : (decode cX10_missing 15 = .ok (.iload_n 2, 1)) ∧ (decode cX10_missing 16 = .ok (.iconst 5, 1)) ∧ (decode cX10_missing 17 = .ok (.if_icmp .le 14, 3)) ∧ (decode cX10_missing 20 = .ok (.new 128, 3)) ∧ (decode cX10_missing 23 = .ok (.dup, 1)) ∧ (decode cX10_missing 24 = .ok (.ldc_w 283, 3)) ∧ (decode cX10_missing 27 = .ok (.invokespecial 132, 3)) ∧ (decode cX10_missing 30 = .ok (.athrow, 1)) := by decide +kernel
theorem dX10_missing_15 : decode cX10_missing 15 = .ok (.iload_n 2, 1) := eX10_missing_15q.1
theorem dX10_missing_16 : decode cX10_missing 16 = .ok (.iconst 5, 1) := eX10_missing_15q.2.1
theorem dX10_missing_17 : decode cX10_missing 17 = .ok (.if_icmp .le 14, 3) := eX10_missing_15q.2.2.1
theorem dX10_missing_20 : decode cX10_missing 20 = .ok (.new 128, 3) := eX10_missing_15q.2.2.2.1
theorem dX10_missing_23 : decode cX10_missing 23 = .ok (.dup, 1) := eX10_missing_15q.2.2.2.2.1
theorem dX10_missing_24 : decode cX10_missing 24 = .ok (.ldc_w 283, 3) := eX10_missing_15q.2.2.2.2.2.1
theorem dX10_missing_27 : decode cX10_missing 27 = .ok (.invokespecial 132, 3) := eX10_missing_15q.2.2.2.2.2.2.1
theorem dX10_missing_30 : decode cX10_missing 30 = .ok (.athrow, 1) := eX10_missing_15q.2.2.2.2.2.2.2
theorem eX10_missing_31q : (decode cX10_missing 31 = .ok (.aload_n 0, 1)) ∧ (decode cX10_missing 32 = .ok (.getfield 48, 3)) ∧ (decode cX10_missing 35 = .ok (.iload_n 1, 1)) ∧ (decode cX10_missing 36 = .ok (.iload_n 2, 1)) ∧ (decode cX10_missing 37 = .ok (.invokevirtual 279, 3)) ∧ (decode cX10_missing 40 = .ok (.lreturn, 1)) := by decide +kernel
theorem dX10_missing_31 : decode cX10_missing 31 = .ok (.aload_n 0, 1) := eX10_missing_31q.1
theorem dX10_missing_32 : decode cX10_missing 32 = .ok (.getfield 48, 3) := eX10_missing_31q.2.1
theorem dX10_missing_35 : decode cX10_missing 35 = .ok (.iload_n 1, 1) := eX10_missing_31q.2.2.1
theorem dX10_missing_36 : decode cX10_missing 36 = .ok (.iload_n 2, 1) := eX10_missing_31q.2.2.2.1
theorem dX10_missing_37 : decode cX10_missing 37 = .ok (.invokevirtual 279, 3) := eX10_missing_31q.2.2.2.2.1
theorem dX10_missing_40 : decode cX10_missing 40 = .ok (.lreturn, 1) := eX10_missing_31q.2.2.2.2.2
set_option maxRecDepth 20000 in
theorem ggX10_edge_X10_mustBeGoal : GoodIn wsX10_edge wsX10_mustBeGoal := goodIn_ca (goodIn_r _ [9, 1, 2, 10, 11, 12, 13, 14, 15, 16, 47, 48, 49, 50, 51, 52, 53, 54, 55, 56, 57, 58, 59, 60, 61, 62, 63, 64, 65, 71, 72, 73, 74, 75, 76, 77, 78, 79, 80, 81, 82, 83, 84, 85] rfl (by decide +kernel)) (goodIn_sub (fun _ h => List.mem_cons_of_mem _ (List.mem_append_right _ h)) (by decide +kernel))
set_option maxRecDepth 20000 in
theorem gX10_edge_X10_mustBeGoal : GoodIn wsX10_edge (wsV RX10 245 RX10 yX10_mustBeGoal wsX10_mustBeGoal) := goodIn_app (goodIn_r _ [5, 6, 7, 8] rfl (by decide +kernel)) ggX10_edge_X10_mustBeGoal
set_option maxRecDepth 20000 in
theorem ggX10_edge_X10_mustBeHops : GoodIn wsX10_edge wsX10_mustBeHops := goodIn_ca (goodIn_r _ [19, 1, 2, 20, 21, 8, 22] rfl (by decide +kernel)) (goodIn_sub (fun _ h => List.mem_cons_of_mem _ (List.mem_append_right _ h)) (by decide +kernel))
set_option maxRecDepth 20000 in
theorem gX10_edge_X10_mustBeHops : GoodIn wsX10_edge (va_wsS RX10 248 yX10_mustBeHops wsX10_mustBeHops) := goodIn_app (goodIn_r _ [17, 18, 8] rfl (by decide +kernel)) ggX10_edge_X10_mustBeHops
set_option maxRecDepth 20000 in
theorem ggX10_edge_X10_mustBeAddress : GoodIn wsX10_edge wsX10_mustBeAddress := goodIn_ca (goodIn_r _ [26, 1, 2, 10, 27, 28, 29, 14, 30, 31, 32, 47, 48, 49, 50, 51, 52, 53, 54, 55, 56, 57, 58, 59, 60, 61, 62, 63, 64, 65, 71, 72, 73, 74, 75, 76, 77, 78, 79, 80, 81, 82, 83, 84, 85] rfl (by decide +kernel)) (goodIn_sub (fun _ h => List.mem_cons_of_mem _ (List.mem_append_right _ h)) (by decide +kernel))
set_option maxRecDepth 20000 in
theorem gX10_edge_X10_mustBeAddress : GoodIn wsX10_edge (wsV RX10 285 RX10 yX10_mustBeAddress wsX10_mustBeAddress) := goodIn_app (goodIn_r _ [23, 24, 25, 8] rfl (by decide +kernel)) ggX10_edge_X10_mustBeAddress
set_option maxRecDepth 20000 in
theorem ggX10_edge_X7_drawEdges : GoodIn wsX10_edge wsX7_drawEdges := by
  have h := goodIn_app (goodIn_app (goodIn_r (big := wsX10_edge) (.code yX7_drawEdges cX7_drawEdges 6 none :: ([.fieldLink RX7 9 "PathProber$Sight" "edgesFrom" "[I", .fieldLink RX7 25 "PathProber$Sight" "now" "LPathProber$Condition;", .methodLink RX7 47 yX0_seenBy, .instanceMethod yX0_seenBy, .selects RX0 yX0_seenBy yX0_seenBy, .initialized RX0, .code yX0_seenBy cX0_seenBy 6 (some .int), .fieldLink RX0 9 "PathProber$Condition" "seen" "[J", .constantLong RX0 53 (31)]) : List Cond) [37, 38, 39, 40, 41, 42, 43, 44, 45, 46] rfl (by decide +kernel)) (goodIn_few (big := wsX10_edge) (fun _ h9 => List.mem_cons_of_mem _ (List.mem_append_left _ (List.mem_append_left _ (List.mem_append_left _ (List.mem_append_right _ h9))))) gb_7)) (goodIn_few (big := wsX10_edge) (fun _ h9 => List.mem_cons_of_mem _ (List.mem_append_left _ (List.mem_append_right _ h9))) gb_1)
  exact h
set_option maxRecDepth 20000 in
theorem gX10_edge_X7_drawEdges : GoodIn wsX10_edge (wsV RX10 290 RX7 yX7_drawEdges wsX7_drawEdges) := goodIn_app (goodIn_r _ [33, 34, 35, 36] rfl (by decide +kernel)) ggX10_edge_X7_drawEdges
theorem eX10_edge_0q : (decode cX10_edge 0 = .ok (.aload_n 0, 1)) ∧ (decode cX10_edge 1 = .ok (.iload_n 1, 1)) ∧ (decode cX10_edge 2 = .ok (.invokevirtual 245, 3)) ∧ (decode cX10_edge 5 = .ok (.iload_n 2, 1)) ∧ (decode cX10_edge 6 = .ok (.invokestatic 248, 3)) ∧ (decode cX10_edge 9 = .ok (.aload_n 0, 1)) ∧ (decode cX10_edge 10 = .ok (.iload_n 3, 1)) ∧ (decode cX10_edge 11 = .ok (.invokevirtual 285, 3)) := by decide +kernel
theorem dX10_edge_0 : decode cX10_edge 0 = .ok (.aload_n 0, 1) := eX10_edge_0q.1
theorem dX10_edge_1 : decode cX10_edge 1 = .ok (.iload_n 1, 1) := eX10_edge_0q.2.1
theorem dX10_edge_2 : decode cX10_edge 2 = .ok (.invokevirtual 245, 3) := eX10_edge_0q.2.2.1
theorem dX10_edge_5 : decode cX10_edge 5 = .ok (.iload_n 2, 1) := eX10_edge_0q.2.2.2.1
theorem dX10_edge_6 : decode cX10_edge 6 = .ok (.invokestatic 248, 3) := eX10_edge_0q.2.2.2.2.1
theorem dX10_edge_9 : decode cX10_edge 9 = .ok (.aload_n 0, 1) := eX10_edge_0q.2.2.2.2.2.1
theorem dX10_edge_10 : decode cX10_edge 10 = .ok (.iload_n 3, 1) := eX10_edge_0q.2.2.2.2.2.2.1
theorem dX10_edge_11 : decode cX10_edge 11 = .ok (.invokevirtual 285, 3) := eX10_edge_0q.2.2.2.2.2.2.2
theorem eX10_edge_14q : (decode cX10_edge 14 = .ok (.aload_n 0, 1)) ∧ (decode cX10_edge 15 = .ok (.iload 4, 2)) ∧ (decode cX10_edge 17 = .ok (.invokevirtual 285, 3)) ∧ (decode cX10_edge 20 = .ok (.iload_n 2, 1)) ∧ (decode cX10_edge 21 = .ok (.bipush 10, 2)) ∧ (decode cX10_edge 23 = .ok (.if_icmp .ne 14, 3)) ∧ (decode cX10_edge 26 = .ok (.new 195, 3)) ∧ (decode cX10_edge 29 = .ok (.dup, 1)) := by decide +kernel
theorem dX10_edge_14 : decode cX10_edge 14 = .ok (.aload_n 0, 1) := eX10_edge_14q.1
theorem dX10_edge_15 : decode cX10_edge 15 = .ok (.iload 4, 2) := eX10_edge_14q.2.1
theorem dX10_edge_17 : decode cX10_edge 17 = .ok (.invokevirtual 285, 3) := eX10_edge_14q.2.2.1
theorem dX10_edge_20 : decode cX10_edge 20 = .ok (.iload_n 2, 1) := eX10_edge_14q.2.2.2.1
theorem dX10_edge_21 : decode cX10_edge 21 = .ok (.bipush 10, 2) := eX10_edge_14q.2.2.2.2.1
theorem dX10_edge_23 : decode cX10_edge 23 = .ok (.if_icmp .ne 14, 3) := eX10_edge_14q.2.2.2.2.2.1
theorem dX10_edge_26 : decode cX10_edge 26 = .ok (.new 195, 3) := eX10_edge_14q.2.2.2.2.2.2.1
theorem dX10_edge_29 : decode cX10_edge 29 = .ok (.dup, 1) := eX10_edge_14q.2.2.2.2.2.2.2
theorem eX10_edge_30q : (decode cX10_edge 30 = .ok (.ldc_w 288, 3)) ∧ (decode cX10_edge 33 = .ok (.invokespecial 199, 3)) ∧ (decode cX10_edge 36 = .ok (.athrow, 1)) ∧ (decode cX10_edge 37 = .ok (.aload_n 0, 1)) ∧ (decode cX10_edge 38 = .ok (.getfield 57, 3)) ∧ (decode cX10_edge 41 = .ok (.iload_n 1, 1)) ∧ (decode cX10_edge 42 = .ok (.iload_n 2, 1)) ∧ (decode cX10_edge 43 = .ok (.invokevirtual 290, 3)) := by decide +kernel
theorem dX10_edge_30 : decode cX10_edge 30 = .ok (.ldc_w 288, 3) := eX10_edge_30q.1
theorem dX10_edge_33 : decode cX10_edge 33 = .ok (.invokespecial 199, 3) := eX10_edge_30q.2.1
theorem dX10_edge_36 : decode cX10_edge 36 = .ok (.athrow, 1) := eX10_edge_30q.2.2.1
theorem dX10_edge_37 : decode cX10_edge 37 = .ok (.aload_n 0, 1) := eX10_edge_30q.2.2.2.1
theorem dX10_edge_38 : decode cX10_edge 38 = .ok (.getfield 57, 3) := eX10_edge_30q.2.2.2.2.1
theorem dX10_edge_41 : decode cX10_edge 41 = .ok (.iload_n 1, 1) := eX10_edge_30q.2.2.2.2.2.1
theorem dX10_edge_42 : decode cX10_edge 42 = .ok (.iload_n 2, 1) := eX10_edge_30q.2.2.2.2.2.2.1
theorem dX10_edge_43 : decode cX10_edge 43 = .ok (.invokevirtual 290, 3) := eX10_edge_30q.2.2.2.2.2.2.2
theorem eX10_edge_46q : (decode cX10_edge 46 = .ok (.aload_n 0, 1)) ∧ (decode cX10_edge 47 = .ok (.getfield 57, 3)) ∧ (decode cX10_edge 50 = .ok (.getfield 293, 3)) ∧ (decode cX10_edge 53 = .ok (.iload_n 3, 1)) ∧ (decode cX10_edge 54 = .ok (.iaload, 1)) ∧ (decode cX10_edge 55 = .ok (.iload 4, 2)) ∧ (decode cX10_edge 57 = .ok (.ishr, 1)) ∧ (decode cX10_edge 58 = .ok (.iconst 1, 1)) := by decide +kernel
theorem dX10_edge_46 : decode cX10_edge 46 = .ok (.aload_n 0, 1) := eX10_edge_46q.1
theorem dX10_edge_47 : decode cX10_edge 47 = .ok (.getfield 57, 3) := eX10_edge_46q.2.1
theorem dX10_edge_50 : decode cX10_edge 50 = .ok (.getfield 293, 3) := eX10_edge_46q.2.2.1
theorem dX10_edge_53 : decode cX10_edge 53 = .ok (.iload_n 3, 1) := eX10_edge_46q.2.2.2.1
theorem dX10_edge_54 : decode cX10_edge 54 = .ok (.iaload, 1) := eX10_edge_46q.2.2.2.2.1
theorem dX10_edge_55 : decode cX10_edge 55 = .ok (.iload 4, 2) := eX10_edge_46q.2.2.2.2.2.1
theorem dX10_edge_57 : decode cX10_edge 57 = .ok (.ishr, 1) := eX10_edge_46q.2.2.2.2.2.2.1
theorem dX10_edge_58 : decode cX10_edge 58 = .ok (.iconst 1, 1) := eX10_edge_46q.2.2.2.2.2.2.2
theorem dX10_edge_59 : decode cX10_edge 59 = .ok (.iand, 1) := by decide +kernel
theorem dX10_edge_60 : decode cX10_edge 60 = .ok (.ireturn, 1) := by decide +kernel
set_option maxRecDepth 20000 in
theorem ggX10_diamond_X10_mustBeGoal : GoodIn wsX10_diamond wsX10_mustBeGoal := goodIn_ca (goodIn_r _ [10, 1, 2, 11, 12, 13, 14, 15, 16, 17, 75, 76, 77, 78, 79, 80, 81, 82, 83, 84, 85, 86, 87, 88, 89, 90, 91, 92, 93, 99, 100, 101, 102, 103, 104, 105, 106, 107, 108, 109, 110, 111, 112, 113] rfl (by decide +kernel)) (goodIn_sub (fun _ h => List.mem_cons_of_mem _ (List.mem_append_right _ h)) (by decide +kernel))
set_option maxRecDepth 20000 in
theorem gX10_diamond_X10_mustBeGoal : GoodIn wsX10_diamond (wsV RX10 245 RX10 yX10_mustBeGoal wsX10_mustBeGoal) := goodIn_app (goodIn_r _ [6, 7, 8, 9] rfl (by decide +kernel)) ggX10_diamond_X10_mustBeGoal
set_option maxRecDepth 20000 in
theorem ggX10_diamond_X10_mustBeWhat : GoodIn wsX10_diamond wsX10_mustBeWhat := goodIn_ca (goodIn_r _ [20, 1, 2] rfl (by decide +kernel)) (goodIn_sub (fun _ h => List.mem_cons_of_mem _ (List.mem_append_right _ h)) (by decide +kernel))
set_option maxRecDepth 20000 in
theorem gX10_diamond_X10_mustBeWhat : GoodIn wsX10_diamond (va_wsS RX10 232 yX10_mustBeWhat wsX10_mustBeWhat) := goodIn_app (goodIn_r _ [18, 19, 9] rfl (by decide +kernel)) ggX10_diamond_X10_mustBeWhat
set_option maxRecDepth 20000 in
theorem ggX10_diamond_X7_findDiamonds : GoodIn wsX10_diamond wsX7_findDiamonds := by
  have h := goodIn_app (goodIn_app (goodIn_r (big := wsX10_diamond) (.code yX7_findDiamonds cX7_findDiamonds 6 (some .int) :: ([.fieldLink RX7 15 "PathProber$Sight" "diamondFirst" "[I", .fieldLink RX7 18 "PathProber$Sight" "diamondLast" "[I", .methodLink RX7 58 yX7_widthAt, .instanceMethod yX7_widthAt, .selects RX7 yX7_widthAt yX7_widthAt, .initialized RX7, .code yX7_widthAt cX7_widthAt 3 (some .int), .fieldLink RX7 25 "PathProber$Sight" "now" "LPathProber$Condition;", .methodLink RX7 29 yX0_seenAt, .instanceMethod yX0_seenAt, .selects RX0 yX0_seenAt yX0_seenAt, .initialized RX0, .code yX0_seenAt cX0_seenAt 6 (some .int), .fieldLink RX0 9 "PathProber$Condition" "seen" "[J", .constantLong RX0 53 (31), .methodLink RX7 35 yJ6_bitCount_0f7a4, .static yJ6_bitCount_0f7a4, .initialized RJ6, .code yJ6_bitCount_0f7a4 cJ6_bitCount_0f7a4 1 (some .int), .constant RJ6 265 (1431655765), .constant RJ6 266 (858993459), .constant RJ6 267 (252645135)]) : List Cond) [25, 26, 27, 28, 29, 30, 24, 31, 32, 33, 34, 35, 36, 37, 38, 39, 40, 41, 42, 43, 44, 45, 46] rfl (by decide +kernel)) (goodIn_few (big := wsX10_diamond) (fun _ h9 => List.mem_cons_of_mem _ (List.mem_append_left _ (List.mem_append_left _ (List.mem_append_left _ (List.mem_append_right _ h9))))) gb_7)) (goodIn_few (big := wsX10_diamond) (fun _ h9 => List.mem_cons_of_mem _ (List.mem_append_left _ (List.mem_append_right _ h9))) gb_1)
  exact h
set_option maxRecDepth 20000 in
theorem gX10_diamond_X7_findDiamonds : GoodIn wsX10_diamond (wsV RX10 296 RX7 yX7_findDiamonds wsX7_findDiamonds) := goodIn_app (goodIn_r _ [21, 22, 23, 24] rfl (by decide +kernel)) ggX10_diamond_X7_findDiamonds
set_option maxRecDepth 20000 in
theorem ggX10_diamond_X7_widthOf : GoodIn wsX10_diamond wsX7_widthOf := by
  have h := goodIn_app (goodIn_app (goodIn_r (big := wsX10_diamond) (.code yX7_widthOf cX7_widthOf 6 (some .int) :: ([.methodLink RX7 61 Lib.Math.max.name, .static Lib.Math.max.name, .initialized "java/lang/Math", .code Lib.Math.max.name Lib.Math.max.code 2 (some .int), .methodLink RX7 58 yX7_widthAt, .instanceMethod yX7_widthAt, .selects RX7 yX7_widthAt yX7_widthAt, .initialized RX7, .code yX7_widthAt cX7_widthAt 3 (some .int), .fieldLink RX7 25 "PathProber$Sight" "now" "LPathProber$Condition;", .methodLink RX7 29 yX0_seenAt, .instanceMethod yX0_seenAt, .selects RX0 yX0_seenAt yX0_seenAt, .initialized RX0, .code yX0_seenAt cX0_seenAt 6 (some .int), .fieldLink RX0 9 "PathProber$Condition" "seen" "[J", .constantLong RX0 53 (31), .methodLink RX7 35 yJ6_bitCount_0f7a4, .static yJ6_bitCount_0f7a4, .initialized RJ6, .code yJ6_bitCount_0f7a4 cJ6_bitCount_0f7a4 1 (some .int), .constant RJ6 265 (1431655765), .constant RJ6 266 (858993459), .constant RJ6 267 (252645135)]) : List Cond) [50, 51, 52, 53, 54, 28, 29, 30, 24, 31, 32, 33, 34, 35, 36, 37, 38, 39, 40, 41, 42, 43, 44, 45, 46] rfl (by decide +kernel)) (goodIn_few (big := wsX10_diamond) (fun _ h9 => List.mem_cons_of_mem _ (List.mem_append_left _ (List.mem_append_left _ (List.mem_append_left _ (List.mem_append_right _ h9))))) gb_7)) (goodIn_few (big := wsX10_diamond) (fun _ h9 => List.mem_cons_of_mem _ (List.mem_append_left _ (List.mem_append_right _ h9))) gb_1)
  exact h
set_option maxRecDepth 20000 in
theorem gX10_diamond_X7_widthOf : GoodIn wsX10_diamond (wsV RX10 307 RX7 yX7_widthOf wsX7_widthOf) := goodIn_app (goodIn_r _ [47, 48, 49, 24] rfl (by decide +kernel)) ggX10_diamond_X7_widthOf
set_option maxRecDepth 20000 in
theorem ggX10_diamond_X7_skewOf : GoodIn wsX10_diamond wsX7_skewOf := by
  have h := goodIn_app (goodIn_app (goodIn_r (big := wsX10_diamond) (.code yX7_skewOf cX7_skewOf 6 (some .int) :: (wsX7_skewOf_r1 ++ wsX7_skewOf_r2) : List Cond) [58, 51, 52, 53, 54, 59, 60, 61, 24, 62, 32, 63, 64, 65, 66, 33, 34, 35, 36, 37, 38, 39, 67, 68, 69, 70, 71, 72, 73, 74, 40, 41, 42, 43, 44, 45, 46] rfl (by decide +kernel)) (goodIn_few (big := wsX10_diamond) (fun _ h9 => List.mem_cons_of_mem _ (List.mem_append_left _ (List.mem_append_left _ (List.mem_append_left _ (List.mem_append_right _ h9))))) gb_7)) (goodIn_few (big := wsX10_diamond) (fun _ h9 => List.mem_cons_of_mem _ (List.mem_append_left _ (List.mem_append_right _ h9))) gb_1)
  exact h
set_option maxRecDepth 20000 in
theorem gX10_diamond_X7_skewOf : GoodIn wsX10_diamond (wsV RX10 310 RX7 yX7_skewOf wsX7_skewOf) := goodIn_app (goodIn_r _ [55, 56, 57, 24] rfl (by decide +kernel)) ggX10_diamond_X7_skewOf
theorem eX10_diamond_0q : (decode cX10_diamond 0 = .ok (.aload_n 0, 1)) ∧ (decode cX10_diamond 1 = .ok (.iload_n 1, 1)) ∧ (decode cX10_diamond 2 = .ok (.invokevirtual 245, 3)) ∧ (decode cX10_diamond 5 = .ok (.iload_n 3, 1)) ∧ (decode cX10_diamond 6 = .ok (.iconst 3, 1)) ∧ (decode cX10_diamond 7 = .ok (.invokestatic 232, 3)) ∧ (decode cX10_diamond 10 = .ok (.aload_n 0, 1)) ∧ (decode cX10_diamond 11 = .ok (.getfield 57, 3)) := by decide +kernel
theorem dX10_diamond_0 : decode cX10_diamond 0 = .ok (.aload_n 0, 1) := eX10_diamond_0q.1
theorem dX10_diamond_1 : decode cX10_diamond 1 = .ok (.iload_n 1, 1) := eX10_diamond_0q.2.1
theorem dX10_diamond_2 : decode cX10_diamond 2 = .ok (.invokevirtual 245, 3) := eX10_diamond_0q.2.2.1
theorem dX10_diamond_5 : decode cX10_diamond 5 = .ok (.iload_n 3, 1) := eX10_diamond_0q.2.2.2.1
theorem dX10_diamond_6 : decode cX10_diamond 6 = .ok (.iconst 3, 1) := eX10_diamond_0q.2.2.2.2.1
theorem dX10_diamond_7 : decode cX10_diamond 7 = .ok (.invokestatic 232, 3) := eX10_diamond_0q.2.2.2.2.2.1
theorem dX10_diamond_10 : decode cX10_diamond 10 = .ok (.aload_n 0, 1) := eX10_diamond_0q.2.2.2.2.2.2.1
theorem dX10_diamond_11 : decode cX10_diamond 11 = .ok (.getfield 57, 3) := eX10_diamond_0q.2.2.2.2.2.2.2
theorem eX10_diamond_14q : (decode cX10_diamond 14 = .ok (.iload_n 1, 1)) ∧ (decode cX10_diamond 15 = .ok (.invokevirtual 296, 3)) ∧ (decode cX10_diamond 18 = .ok (.istore 4, 2)) ∧ (decode cX10_diamond 20 = .ok (.iload_n 2, 1)) ∧ (decode cX10_diamond 21 = .ok (.iconst (-1), 1)) ∧ (decode cX10_diamond 22 = .ok (.if_icmp .ne 6, 3)) ∧ (decode cX10_diamond 25 = .ok (.iload 4, 2)) ∧ (decode cX10_diamond 27 = .ok (.ireturn, 1)) := by decide +kernel
theorem dX10_diamond_14 : decode cX10_diamond 14 = .ok (.iload_n 1, 1) := eX10_diamond_14q.1
theorem dX10_diamond_15 : decode cX10_diamond 15 = .ok (.invokevirtual 296, 3) := eX10_diamond_14q.2.1
theorem dX10_diamond_18 : decode cX10_diamond 18 = .ok (.istore 4, 2) := eX10_diamond_14q.2.2.1
theorem dX10_diamond_20 : decode cX10_diamond 20 = .ok (.iload_n 2, 1) := eX10_diamond_14q.2.2.2.1
theorem dX10_diamond_21 : decode cX10_diamond 21 = .ok (.iconst (-1), 1) := eX10_diamond_14q.2.2.2.2.1
theorem dX10_diamond_22 : decode cX10_diamond 22 = .ok (.if_icmp .ne 6, 3) := eX10_diamond_14q.2.2.2.2.2.1
theorem dX10_diamond_25 : decode cX10_diamond 25 = .ok (.iload 4, 2) := eX10_diamond_14q.2.2.2.2.2.2.1
theorem dX10_diamond_27 : decode cX10_diamond 27 = .ok (.ireturn, 1) := eX10_diamond_14q.2.2.2.2.2.2.2
theorem eX10_diamond_28q : (decode cX10_diamond 28 = .ok (.iload_n 2, 1)) ∧ (decode cX10_diamond 29 = .ok (.ifCond .lt 9, 3)) ∧ (decode cX10_diamond 32 = .ok (.iload_n 2, 1)) ∧ (decode cX10_diamond 33 = .ok (.iload 4, 2)) ∧ (decode cX10_diamond 35 = .ok (.if_icmp .lt 14, 3)) ∧ (decode cX10_diamond 38 = .ok (.new 195, 3)) ∧ (decode cX10_diamond 41 = .ok (.dup, 1)) ∧ (decode cX10_diamond 42 = .ok (.ldc_w 299, 3)) := by decide +kernel
theorem dX10_diamond_28 : decode cX10_diamond 28 = .ok (.iload_n 2, 1) := eX10_diamond_28q.1
theorem dX10_diamond_29 : decode cX10_diamond 29 = .ok (.ifCond .lt 9, 3) := eX10_diamond_28q.2.1
theorem dX10_diamond_32 : decode cX10_diamond 32 = .ok (.iload_n 2, 1) := eX10_diamond_28q.2.2.1
theorem dX10_diamond_33 : decode cX10_diamond 33 = .ok (.iload 4, 2) := eX10_diamond_28q.2.2.2.1
theorem dX10_diamond_35 : decode cX10_diamond 35 = .ok (.if_icmp .lt 14, 3) := eX10_diamond_28q.2.2.2.2.1
theorem dX10_diamond_38 : decode cX10_diamond 38 = .ok (.new 195, 3) := eX10_diamond_28q.2.2.2.2.2.1
theorem dX10_diamond_41 : decode cX10_diamond 41 = .ok (.dup, 1) := eX10_diamond_28q.2.2.2.2.2.2.1
theorem dX10_diamond_42 : decode cX10_diamond 42 = .ok (.ldc_w 299, 3) := eX10_diamond_28q.2.2.2.2.2.2.2
theorem eX10_diamond_45q : (decode cX10_diamond 45 = .ok (.invokespecial 199, 3)) ∧ (decode cX10_diamond 48 = .ok (.athrow, 1)) ∧ (decode cX10_diamond 49 = .ok (.aload_n 0, 1)) ∧ (decode cX10_diamond 50 = .ok (.getfield 57, 3)) ∧ (decode cX10_diamond 53 = .ok (.getfield 301, 3)) ∧ (decode cX10_diamond 56 = .ok (.iload_n 2, 1)) ∧ (decode cX10_diamond 57 = .ok (.iaload, 1)) ∧ (decode cX10_diamond 58 = .ok (.istore 5, 2)) := by decide +kernel
theorem dX10_diamond_45 : decode cX10_diamond 45 = .ok (.invokespecial 199, 3) := eX10_diamond_45q.1
theorem dX10_diamond_48 : decode cX10_diamond 48 = .ok (.athrow, 1) := eX10_diamond_45q.2.1
theorem dX10_diamond_49 : decode cX10_diamond 49 = .ok (.aload_n 0, 1) := eX10_diamond_45q.2.2.1
theorem dX10_diamond_50 : decode cX10_diamond 50 = .ok (.getfield 57, 3) := eX10_diamond_45q.2.2.2.1
theorem dX10_diamond_53 : decode cX10_diamond 53 = .ok (.getfield 301, 3) := eX10_diamond_45q.2.2.2.2.1
theorem dX10_diamond_56 : decode cX10_diamond 56 = .ok (.iload_n 2, 1) := eX10_diamond_45q.2.2.2.2.2.1
theorem dX10_diamond_57 : decode cX10_diamond 57 = .ok (.iaload, 1) := eX10_diamond_45q.2.2.2.2.2.2.1
theorem dX10_diamond_58 : decode cX10_diamond 58 = .ok (.istore 5, 2) := eX10_diamond_45q.2.2.2.2.2.2.2
theorem eX10_diamond_60q : (decode cX10_diamond 60 = .ok (.aload_n 0, 1)) ∧ (decode cX10_diamond 61 = .ok (.getfield 57, 3)) ∧ (decode cX10_diamond 64 = .ok (.getfield 304, 3)) ∧ (decode cX10_diamond 67 = .ok (.iload_n 2, 1)) ∧ (decode cX10_diamond 68 = .ok (.iaload, 1)) ∧ (decode cX10_diamond 69 = .ok (.istore 6, 2)) ∧ (decode cX10_diamond 71 = .ok (.iload_n 3, 1)) ∧ (decode cX10_diamond 72 = .ok (.tableswitch 47 0 2 #[28, 31, 34], 28)) := by decide +kernel
theorem dX10_diamond_60 : decode cX10_diamond 60 = .ok (.aload_n 0, 1) := eX10_diamond_60q.1
theorem dX10_diamond_61 : decode cX10_diamond 61 = .ok (.getfield 57, 3) := eX10_diamond_60q.2.1
theorem dX10_diamond_64 : decode cX10_diamond 64 = .ok (.getfield 304, 3) := eX10_diamond_60q.2.2.1
theorem dX10_diamond_67 : decode cX10_diamond 67 = .ok (.iload_n 2, 1) := eX10_diamond_60q.2.2.2.1
theorem dX10_diamond_68 : decode cX10_diamond 68 = .ok (.iaload, 1) := eX10_diamond_60q.2.2.2.2.1
theorem dX10_diamond_69 : decode cX10_diamond 69 = .ok (.istore 6, 2) := eX10_diamond_60q.2.2.2.2.2.1
theorem dX10_diamond_71 : decode cX10_diamond 71 = .ok (.iload_n 3, 1) := eX10_diamond_60q.2.2.2.2.2.2.1
theorem dX10_diamond_72 : decode cX10_diamond 72 = .ok (.tableswitch 47 0 2 #[28, 31, 34], 28) := eX10_diamond_60q.2.2.2.2.2.2.2
theorem eX10_diamond_100q : (decode cX10_diamond 100 = .ok (.iload 5, 2)) ∧ (decode cX10_diamond 102 = .ok (.ireturn, 1)) ∧ (decode cX10_diamond 103 = .ok (.iload 6, 2)) ∧ (decode cX10_diamond 105 = .ok (.ireturn, 1)) ∧ (decode cX10_diamond 106 = .ok (.aload_n 0, 1)) ∧ (decode cX10_diamond 107 = .ok (.getfield 57, 3)) ∧ (decode cX10_diamond 110 = .ok (.iload_n 1, 1)) ∧ (decode cX10_diamond 111 = .ok (.iload 5, 2)) := by decide +kernel
theorem dX10_diamond_100 : decode cX10_diamond 100 = .ok (.iload 5, 2) := eX10_diamond_100q.1
theorem dX10_diamond_102 : decode cX10_diamond 102 = .ok (.ireturn, 1) := eX10_diamond_100q.2.1
theorem dX10_diamond_103 : decode cX10_diamond 103 = .ok (.iload 6, 2) := eX10_diamond_100q.2.2.1
theorem dX10_diamond_105 : decode cX10_diamond 105 = .ok (.ireturn, 1) := eX10_diamond_100q.2.2.2.1
theorem dX10_diamond_106 : decode cX10_diamond 106 = .ok (.aload_n 0, 1) := eX10_diamond_100q.2.2.2.2.1
theorem dX10_diamond_107 : decode cX10_diamond 107 = .ok (.getfield 57, 3) := eX10_diamond_100q.2.2.2.2.2.1
theorem dX10_diamond_110 : decode cX10_diamond 110 = .ok (.iload_n 1, 1) := eX10_diamond_100q.2.2.2.2.2.2.1
theorem dX10_diamond_111 : decode cX10_diamond 111 = .ok (.iload 5, 2) := eX10_diamond_100q.2.2.2.2.2.2.2
theorem eX10_diamond_113q : (decode cX10_diamond 113 = .ok (.iload 6, 2)) ∧ (decode cX10_diamond 115 = .ok (.invokevirtual 307, 3)) ∧ (decode cX10_diamond 118 = .ok (.ireturn, 1)) ∧ (decode cX10_diamond 119 = .ok (.aload_n 0, 1)) ∧ (decode cX10_diamond 120 = .ok (.getfield 57, 3)) ∧ (decode cX10_diamond 123 = .ok (.iload_n 1, 1)) ∧ (decode cX10_diamond 124 = .ok (.iload 5, 2)) ∧ (decode cX10_diamond 126 = .ok (.iload 6, 2)) := by decide +kernel
theorem dX10_diamond_113 : decode cX10_diamond 113 = .ok (.iload 6, 2) := eX10_diamond_113q.1
theorem dX10_diamond_115 : decode cX10_diamond 115 = .ok (.invokevirtual 307, 3) := eX10_diamond_113q.2.1
theorem dX10_diamond_118 : decode cX10_diamond 118 = .ok (.ireturn, 1) := eX10_diamond_113q.2.2.1
theorem dX10_diamond_119 : decode cX10_diamond 119 = .ok (.aload_n 0, 1) := eX10_diamond_113q.2.2.2.1
theorem dX10_diamond_120 : decode cX10_diamond 120 = .ok (.getfield 57, 3) := eX10_diamond_113q.2.2.2.2.1
theorem dX10_diamond_123 : decode cX10_diamond 123 = .ok (.iload_n 1, 1) := eX10_diamond_113q.2.2.2.2.2.1
theorem dX10_diamond_124 : decode cX10_diamond 124 = .ok (.iload 5, 2) := eX10_diamond_113q.2.2.2.2.2.2.1
theorem dX10_diamond_126 : decode cX10_diamond 126 = .ok (.iload 6, 2) := eX10_diamond_113q.2.2.2.2.2.2.2
theorem dX10_diamond_128 : decode cX10_diamond 128 = .ok (.invokevirtual 310, 3) := by decide +kernel
theorem dX10_diamond_131 : decode cX10_diamond 131 = .ok (.ireturn, 1) := by decide +kernel
set_option maxRecDepth 20000 in
theorem ggX10_loop_X10_mustBePort : GoodIn wsX10_loop wsX10_mustBePort := goodIn_ca (goodIn_r _ [7, 8, 9, 10, 11, 6, 12] rfl (by decide +kernel)) (goodIn_sub (fun _ h => List.mem_cons_of_mem _ (List.mem_append_right _ h)) (by decide +kernel))
set_option maxRecDepth 20000 in
theorem gX10_loop_X10_mustBePort : GoodIn wsX10_loop (va_wsS RX10 242 yX10_mustBePort wsX10_mustBePort) := goodIn_app (goodIn_r _ [4, 5, 6] rfl (by decide +kernel)) ggX10_loop_X10_mustBePort
set_option maxRecDepth 20000 in
theorem ggX10_loop_X10_mustBeGoal : GoodIn wsX10_loop wsX10_mustBeGoal := goodIn_ca (goodIn_r _ [16, 8, 9, 2, 17, 18, 19, 20, 21, 22, 62, 63, 64, 65, 66, 67, 68, 69, 70, 71, 72, 73, 74, 75, 76, 77, 78, 79, 80, 81, 82, 83, 84, 85, 86, 87, 88, 89, 90, 91, 92, 93, 94, 95] rfl (by decide +kernel)) (goodIn_sub (fun _ h => List.mem_cons_of_mem _ (List.mem_append_right _ h)) (by decide +kernel))
set_option maxRecDepth 20000 in
theorem gX10_loop_X10_mustBeGoal : GoodIn wsX10_loop (wsV RX10 245 RX10 yX10_mustBeGoal wsX10_mustBeGoal) := goodIn_app (goodIn_r _ [13, 14, 15, 6] rfl (by decide +kernel)) ggX10_loop_X10_mustBeGoal
set_option maxRecDepth 20000 in
theorem ggX10_loop_X10_mustBeWhat : GoodIn wsX10_loop wsX10_mustBeWhat := goodIn_ca (goodIn_r _ [25, 8, 9] rfl (by decide +kernel)) (goodIn_sub (fun _ h => List.mem_cons_of_mem _ (List.mem_append_right _ h)) (by decide +kernel))
set_option maxRecDepth 20000 in
theorem gX10_loop_X10_mustBeWhat : GoodIn wsX10_loop (va_wsS RX10 232 yX10_mustBeWhat wsX10_mustBeWhat) := goodIn_app (goodIn_r _ [23, 24, 6] rfl (by decide +kernel)) ggX10_loop_X10_mustBeWhat
set_option maxRecDepth 20000 in
theorem ggX10_loop_X7_loopOf : GoodIn wsX10_loop wsX7_loopOf := by
  have h := goodIn_app (goodIn_app (goodIn_app (goodIn_r (big := wsX10_loop) (.code yX7_loopOf cX7_loopOf 6 (some .int) :: ([.fieldLink RX7 25 "PathProber$Sight" "now" "LPathProber$Condition;", .fieldLink RX7 21 "PathProber$Sight" "net" "LPathProber$Net;", .fieldLink RX7 75 "PathProber$Net" "goal" "[I", .methodLink RX7 47 yX0_seenBy, .instanceMethod yX0_seenBy, .selects RX0 yX0_seenBy yX0_seenBy, .initialized RX0, .code yX0_seenBy cX0_seenBy 6 (some .int), .fieldLink RX0 9 "PathProber$Condition" "seen" "[J", .constantLong RX0 53 (31), .methodLink RX7 72 yX2_routerOf, .instanceMethod yX2_routerOf, .selects RX2 yX2_routerOf yX2_routerOf, .initialized RX2, .code yX2_routerOf cX2_routerOf 2 (some .int), .fieldLink RX2 37 "PathProber$Net" "links" "I", .fieldLink RX2 27 "PathProber$Net" "to" "[I"]) : List Cond) [30, 31, 32, 33, 34, 35, 36, 37, 38, 39, 40, 41, 42, 43, 20, 44, 45, 46] rfl (by decide +kernel)) (goodIn_few (big := wsX10_loop) (fun _ h9 => List.mem_cons_of_mem _ (List.mem_append_left _ (List.mem_append_left _ (List.mem_append_right _ h9)))) gb_7)) (goodIn_few (big := wsX10_loop) (fun _ h9 => List.mem_cons_of_mem _ (List.mem_append_left _ (List.mem_append_left _ (List.mem_append_left _ (List.mem_append_right _ h9))))) gb_2)) (goodIn_few (big := wsX10_loop) (fun _ h9 => List.mem_cons_of_mem _ (List.mem_append_left _ (List.mem_append_right _ h9))) gb_1)
  exact h
set_option maxRecDepth 20000 in
theorem gX10_loop_X7_loopOf : GoodIn wsX10_loop (wsV RX10 313 RX7 yX7_loopOf wsX7_loopOf) := goodIn_app (goodIn_r _ [26, 27, 28, 29] rfl (by decide +kernel)) ggX10_loop_X7_loopOf
set_option maxRecDepth 20000 in
theorem ggX10_loop_X0_seenBy : GoodIn wsX10_loop wsX0_seenBy := by
  have h := goodIn_app (goodIn_r (big := wsX10_loop) (.code yX0_seenBy cX0_seenBy 6 (some .int) :: ([.fieldLink RX0 9 "PathProber$Condition" "seen" "[J", .constantLong RX0 53 (31)]) : List Cond) [38, 39, 40] rfl (by decide +kernel)) (goodIn_few (big := wsX10_loop) (fun _ h9 => List.mem_cons_of_mem _ (List.mem_append_left _ (List.mem_append_right _ h9))) gb_1)
  exact h
set_option maxRecDepth 20000 in
theorem gX10_loop_X0_seenBy : GoodIn wsX10_loop (wsV RX10 251 RX0 yX0_seenBy wsX0_seenBy) := goodIn_app (goodIn_r _ [47, 35, 36, 37] rfl (by decide +kernel)) ggX10_loop_X0_seenBy
set_option maxRecDepth 20000 in
theorem ggX10_loop_X2_routerOf : GoodIn wsX10_loop wsX2_routerOf := by
  have h := goodIn_app (goodIn_r (big := wsX10_loop) (.code yX2_routerOf cX2_routerOf 2 (some .int) :: ([.fieldLink RX2 37 "PathProber$Net" "links" "I", .fieldLink RX2 27 "PathProber$Net" "to" "[I"]) : List Cond) [44, 45, 46] rfl (by decide +kernel)) (goodIn_few (big := wsX10_loop) (fun _ h9 => List.mem_cons_of_mem _ (List.mem_append_left _ (List.mem_append_left _ (List.mem_append_left _ (List.mem_append_right _ h9))))) gb_2)
  exact h
set_option maxRecDepth 20000 in
theorem gX10_loop_X2_routerOf : GoodIn wsX10_loop (wsV RX10 316 RX2 yX2_routerOf wsX2_routerOf) := goodIn_app (goodIn_r _ [48, 42, 43, 20] rfl (by decide +kernel)) ggX10_loop_X2_routerOf
set_option maxRecDepth 20000 in
theorem ggX10_loop_X2_whyLoopAt : GoodIn wsX10_loop wsX2_whyLoopAt := by
  have h := goodIn_app (goodIn_r (big := wsX10_loop) (.code yX2_whyLoopAt cX2_whyLoopAt 3 (some .int) :: ([.fieldLink RX2 37 "PathProber$Net" "links" "I", .fieldLink RX2 27 "PathProber$Net" "to" "[I", .fieldLink RX2 21 "PathProber$Net" "manner" "[I", .fieldLink RX2 24 "PathProber$Net" "from" "[I", .fieldLink RX2 33 "PathProber$Net" "routers" "I", .fieldLink RX2 9 "PathProber$Net" "kind" "[I", .methodLink RX2 67 yX2_comesTo, .instanceMethod yX2_comesTo, .selects RX2 yX2_comesTo yX2_comesTo, .initialized RX2, .code yX2_comesTo cX2_comesTo 3 (some .boolean), .fieldLink RX2 46 "PathProber$Net" "reach" "[I"]) : List Cond) [52, 45, 46, 53, 54, 55, 56, 57, 58, 59, 20, 60, 61] rfl (by decide +kernel)) (goodIn_few (big := wsX10_loop) (fun _ h9 => List.mem_cons_of_mem _ (List.mem_append_left _ (List.mem_append_left _ (List.mem_append_left _ (List.mem_append_right _ h9))))) gb_2)
  exact h
set_option maxRecDepth 20000 in
theorem gX10_loop_X2_whyLoopAt : GoodIn wsX10_loop (wsV RX10 319 RX2 yX2_whyLoopAt wsX2_whyLoopAt) := goodIn_app (goodIn_r _ [49, 50, 51, 20] rfl (by decide +kernel)) ggX10_loop_X2_whyLoopAt
theorem eX10_loop_0q : (decode cX10_loop 0 = .ok (.iload_n 1, 1)) ∧ (decode cX10_loop 1 = .ok (.invokestatic 242, 3)) ∧ (decode cX10_loop 4 = .ok (.aload_n 0, 1)) ∧ (decode cX10_loop 5 = .ok (.iload_n 2, 1)) ∧ (decode cX10_loop 6 = .ok (.invokevirtual 245, 3)) ∧ (decode cX10_loop 9 = .ok (.iload_n 3, 1)) ∧ (decode cX10_loop 10 = .ok (.iconst 1, 1)) ∧ (decode cX10_loop 11 = .ok (.invokestatic 232, 3)) := by decide +kernel
theorem dX10_loop_0 : decode cX10_loop 0 = .ok (.iload_n 1, 1) := eX10_loop_0q.1
theorem dX10_loop_1 : decode cX10_loop 1 = .ok (.invokestatic 242, 3) := eX10_loop_0q.2.1
theorem dX10_loop_4 : decode cX10_loop 4 = .ok (.aload_n 0, 1) := eX10_loop_0q.2.2.1
theorem dX10_loop_5 : decode cX10_loop 5 = .ok (.iload_n 2, 1) := eX10_loop_0q.2.2.2.1
theorem dX10_loop_6 : decode cX10_loop 6 = .ok (.invokevirtual 245, 3) := eX10_loop_0q.2.2.2.2.1
theorem dX10_loop_9 : decode cX10_loop 9 = .ok (.iload_n 3, 1) := eX10_loop_0q.2.2.2.2.2.1
theorem dX10_loop_10 : decode cX10_loop 10 = .ok (.iconst 1, 1) := eX10_loop_0q.2.2.2.2.2.2.1
theorem dX10_loop_11 : decode cX10_loop 11 = .ok (.invokestatic 232, 3) := eX10_loop_0q.2.2.2.2.2.2.2
theorem eX10_loop_14q : (decode cX10_loop 14 = .ok (.aload_n 0, 1)) ∧ (decode cX10_loop 15 = .ok (.getfield 57, 3)) ∧ (decode cX10_loop 18 = .ok (.iload_n 1, 1)) ∧ (decode cX10_loop 19 = .ok (.iload_n 2, 1)) ∧ (decode cX10_loop 20 = .ok (.invokevirtual 313, 3)) ∧ (decode cX10_loop 23 = .ok (.istore 4, 2)) ∧ (decode cX10_loop 25 = .ok (.iload_n 3, 1)) ∧ (decode cX10_loop 26 = .ok (.ifCond .ne 6, 3)) := by decide +kernel
theorem dX10_loop_14 : decode cX10_loop 14 = .ok (.aload_n 0, 1) := eX10_loop_14q.1
theorem dX10_loop_15 : decode cX10_loop 15 = .ok (.getfield 57, 3) := eX10_loop_14q.2.1
theorem dX10_loop_18 : decode cX10_loop 18 = .ok (.iload_n 1, 1) := eX10_loop_14q.2.2.1
theorem dX10_loop_19 : decode cX10_loop 19 = .ok (.iload_n 2, 1) := eX10_loop_14q.2.2.2.1
theorem dX10_loop_20 : decode cX10_loop 20 = .ok (.invokevirtual 313, 3) := eX10_loop_14q.2.2.2.2.1
theorem dX10_loop_23 : decode cX10_loop 23 = .ok (.istore 4, 2) := eX10_loop_14q.2.2.2.2.2.1
theorem dX10_loop_25 : decode cX10_loop 25 = .ok (.iload_n 3, 1) := eX10_loop_14q.2.2.2.2.2.2.1
theorem dX10_loop_26 : decode cX10_loop 26 = .ok (.ifCond .ne 6, 3) := eX10_loop_14q.2.2.2.2.2.2.2
theorem eX10_loop_29q : (decode cX10_loop 29 = .ok (.iload 4, 2)) ∧ (decode cX10_loop 31 = .ok (.ireturn, 1)) ∧ (decode cX10_loop 32 = .ok (.iload 4, 2)) ∧ (decode cX10_loop 34 = .ok (.iconst (-1), 1)) ∧ (decode cX10_loop 35 = .ok (.if_icmp .ne 7, 3)) ∧ (decode cX10_loop 38 = .ok (.iconst 0, 1)) ∧ (decode cX10_loop 39 = .ok (.goto 28, 3)) ∧ (decode cX10_loop 42 = .ok (.aload_n 0, 1)) := by decide +kernel
theorem dX10_loop_29 : decode cX10_loop 29 = .ok (.iload 4, 2) := eX10_loop_29q.1
theorem dX10_loop_31 : decode cX10_loop 31 = .ok (.ireturn, 1) := eX10_loop_29q.2.1
theorem dX10_loop_32 : decode cX10_loop 32 = .ok (.iload 4, 2) := eX10_loop_29q.2.2.1
theorem dX10_loop_34 : decode cX10_loop 34 = .ok (.iconst (-1), 1) := eX10_loop_29q.2.2.2.1
theorem dX10_loop_35 : decode cX10_loop 35 = .ok (.if_icmp .ne 7, 3) := eX10_loop_29q.2.2.2.2.1
theorem dX10_loop_38 : decode cX10_loop 38 = .ok (.iconst 0, 1) := eX10_loop_29q.2.2.2.2.2.1
theorem dX10_loop_39 : decode cX10_loop 39 = .ok (.goto 28, 3) := eX10_loop_29q.2.2.2.2.2.2.1
theorem dX10_loop_42 : decode cX10_loop 42 = .ok (.aload_n 0, 1) := eX10_loop_29q.2.2.2.2.2.2.2
theorem eX10_loop_43q : (decode cX10_loop 43 = .ok (.getfield 19, 3)) ∧ (decode cX10_loop 46 = .ok (.aload_n 0, 1)) ∧ (decode cX10_loop 47 = .ok (.getfield 19, 3)) ∧ (decode cX10_loop 50 = .ok (.aload_n 0, 1)) ∧ (decode cX10_loop 51 = .ok (.getfield 38, 3)) ∧ (decode cX10_loop 54 = .ok (.iload_n 1, 1)) ∧ (decode cX10_loop 55 = .ok (.iload_n 2, 1)) ∧ (decode cX10_loop 56 = .ok (.iload 4, 2)) := by decide +kernel
theorem dX10_loop_43 : decode cX10_loop 43 = .ok (.getfield 19, 3) := eX10_loop_43q.1
theorem dX10_loop_46 : decode cX10_loop 46 = .ok (.aload_n 0, 1) := eX10_loop_43q.2.1
theorem dX10_loop_47 : decode cX10_loop 47 = .ok (.getfield 19, 3) := eX10_loop_43q.2.2.1
theorem dX10_loop_50 : decode cX10_loop 50 = .ok (.aload_n 0, 1) := eX10_loop_43q.2.2.2.1
theorem dX10_loop_51 : decode cX10_loop 51 = .ok (.getfield 38, 3) := eX10_loop_43q.2.2.2.2.1
theorem dX10_loop_54 : decode cX10_loop 54 = .ok (.iload_n 1, 1) := eX10_loop_43q.2.2.2.2.2.1
theorem dX10_loop_55 : decode cX10_loop 55 = .ok (.iload_n 2, 1) := eX10_loop_43q.2.2.2.2.2.2.1
theorem dX10_loop_56 : decode cX10_loop 56 = .ok (.iload 4, 2) := eX10_loop_43q.2.2.2.2.2.2.2
theorem eX10_loop_58q : (decode cX10_loop 58 = .ok (.invokevirtual 251, 3)) ∧ (decode cX10_loop 61 = .ok (.invokevirtual 316, 3)) ∧ (decode cX10_loop 64 = .ok (.invokevirtual 319, 3)) ∧ (decode cX10_loop 67 = .ok (.ireturn, 1)) := by decide +kernel
theorem dX10_loop_58 : decode cX10_loop 58 = .ok (.invokevirtual 251, 3) := eX10_loop_58q.1
theorem dX10_loop_61 : decode cX10_loop 61 = .ok (.invokevirtual 316, 3) := eX10_loop_58q.2.1
theorem dX10_loop_64 : decode cX10_loop 64 = .ok (.invokevirtual 319, 3) := eX10_loop_58q.2.2.1
theorem dX10_loop_67 : decode cX10_loop 67 = .ok (.ireturn, 1) := eX10_loop_58q.2.2.2
set_option maxRecDepth 20000 in
theorem ggX10_truth_X10_mustBeGoal : GoodIn wsX10_truth wsX10_mustBeGoal := goodIn_ca (goodIn_r _ [8, 1, 2, 3, 9, 10, 11, 12, 13, 14, 89, 90, 91, 92, 93, 94, 95, 96, 97, 98, 99, 100, 101, 102, 103, 104, 105, 106, 107, 108, 109, 110, 111, 112, 113, 114, 115, 116, 117, 118, 119, 120, 121, 122] rfl (by decide +kernel)) (goodIn_sub (fun _ h => List.mem_cons_of_mem _ (List.mem_append_right _ h)) (by decide +kernel))
set_option maxRecDepth 20000 in
theorem gX10_truth_X10_mustBeGoal : GoodIn wsX10_truth (wsV RX10 245 RX10 yX10_mustBeGoal wsX10_mustBeGoal) := goodIn_app (goodIn_r _ [4, 5, 6, 7] rfl (by decide +kernel)) ggX10_truth_X10_mustBeGoal
set_option maxRecDepth 20000 in
theorem ggX10_truth_X2_waysTo : GoodIn wsX10_truth wsX2_waysTo := by
  have h := goodIn_app (goodIn_r (big := wsX10_truth) (.code yX2_waysTo cX2_waysTo 5 (some .int) :: ([.fieldLink RX2 33 "PathProber$Net" "routers" "I", .fieldLink RX2 30 "PathProber$Net" "goal" "[I", .fieldLink RX2 55 "PathProber$Net" "tally" "[I", .fieldLink RX2 27 "PathProber$Net" "to" "[I", .methodLink RX2 75 yX2_branchesOf, .instanceMethod yX2_branchesOf, .selects RX2 yX2_branchesOf yX2_branchesOf, .initialized RX2, .code yX2_branchesOf cX2_branchesOf 3 (some .int), .fieldLink RX2 49 "PathProber$Net" "branches" "[I", .methodLink RX2 79 yX2_branchOf, .instanceMethod yX2_branchOf, .selects RX2 yX2_branchOf yX2_branchOf, .code yX2_branchOf cX2_branchOf 4 (some .int), .fieldLink RX2 52 "PathProber$Net" "branch" "[I"]) : List Cond) [18, 19, 20, 21, 22, 23, 24, 25, 12, 26, 27, 28, 29, 30, 31, 32] rfl (by decide +kernel)) (goodIn_few (big := wsX10_truth) (fun _ h9 => List.mem_cons_of_mem _ (List.mem_append_left _ (List.mem_append_left _ (List.mem_append_right _ h9)))) gb_2)
  exact h
set_option maxRecDepth 20000 in
theorem gX10_truth_X2_waysTo : GoodIn wsX10_truth (wsV RX10 322 RX2 yX2_waysTo wsX2_waysTo) := goodIn_app (goodIn_r _ [15, 16, 17, 12] rfl (by decide +kernel)) ggX10_truth_X2_waysTo
set_option maxRecDepth 20000 in
theorem ggX10_truth_X2_longestTo : GoodIn wsX10_truth wsX2_longestTo := by
  have h := goodIn_app (goodIn_r (big := wsX10_truth) (.code yX2_longestTo cX2_longestTo 5 (some .int) :: ([.fieldLink RX2 33 "PathProber$Net" "routers" "I", .fieldLink RX2 30 "PathProber$Net" "goal" "[I", .fieldLink RX2 55 "PathProber$Net" "tally" "[I", .fieldLink RX2 27 "PathProber$Net" "to" "[I", .methodLink RX2 83 Lib.Math.max.name, .static Lib.Math.max.name, .initialized "java/lang/Math", .code Lib.Math.max.name Lib.Math.max.code 2 (some .int), .methodLink RX2 75 yX2_branchesOf, .instanceMethod yX2_branchesOf, .selects RX2 yX2_branchesOf yX2_branchesOf, .initialized RX2, .code yX2_branchesOf cX2_branchesOf 3 (some .int), .fieldLink RX2 49 "PathProber$Net" "branches" "[I", .methodLink RX2 79 yX2_branchOf, .instanceMethod yX2_branchOf, .selects RX2 yX2_branchOf yX2_branchOf, .code yX2_branchOf cX2_branchOf 4 (some .int), .fieldLink RX2 52 "PathProber$Net" "branch" "[I"]) : List Cond) [36, 19, 20, 21, 22, 37, 38, 39, 40, 23, 24, 25, 12, 26, 27, 28, 29, 30, 31, 32] rfl (by decide +kernel)) (goodIn_few (big := wsX10_truth) (fun _ h9 => List.mem_cons_of_mem _ (List.mem_append_left _ (List.mem_append_left _ (List.mem_append_right _ h9)))) gb_2)
  exact h
set_option maxRecDepth 20000 in
theorem gX10_truth_X2_longestTo : GoodIn wsX10_truth (wsV RX10 325 RX2 yX2_longestTo wsX2_longestTo) := goodIn_app (goodIn_r _ [33, 34, 35, 12] rfl (by decide +kernel)) ggX10_truth_X2_longestTo
set_option maxRecDepth 20000 in
theorem ggX10_truth_X2_shortestTo : GoodIn wsX10_truth wsX2_shortestTo := by
  have h := goodIn_app (goodIn_r (big := wsX10_truth) (.code yX2_shortestTo cX2_shortestTo 6 (some .int) :: ([.fieldLink RX2 33 "PathProber$Net" "routers" "I", .fieldLink RX2 30 "PathProber$Net" "goal" "[I", .fieldLink RX2 55 "PathProber$Net" "tally" "[I", .fieldLink RX2 27 "PathProber$Net" "to" "[I", .methodLink RX2 88 Lib.Math.min.name, .static Lib.Math.min.name, .initialized "java/lang/Math", .code Lib.Math.min.name Lib.Math.min.code 2 (some .int), .methodLink RX2 75 yX2_branchesOf, .instanceMethod yX2_branchesOf, .selects RX2 yX2_branchesOf yX2_branchesOf, .initialized RX2, .code yX2_branchesOf cX2_branchesOf 3 (some .int), .fieldLink RX2 49 "PathProber$Net" "branches" "[I", .methodLink RX2 79 yX2_branchOf, .instanceMethod yX2_branchOf, .selects RX2 yX2_branchOf yX2_branchOf, .code yX2_branchOf cX2_branchOf 4 (some .int), .fieldLink RX2 52 "PathProber$Net" "branch" "[I"]) : List Cond) [44, 19, 20, 21, 22, 45, 46, 39, 47, 23, 24, 25, 12, 26, 27, 28, 29, 30, 31, 32] rfl (by decide +kernel)) (goodIn_few (big := wsX10_truth) (fun _ h9 => List.mem_cons_of_mem _ (List.mem_append_left _ (List.mem_append_left _ (List.mem_append_right _ h9)))) gb_2)
  exact h
set_option maxRecDepth 20000 in
theorem gX10_truth_X2_shortestTo : GoodIn wsX10_truth (wsV RX10 328 RX2 yX2_shortestTo wsX2_shortestTo) := goodIn_app (goodIn_r _ [41, 42, 43, 12] rfl (by decide +kernel)) ggX10_truth_X2_shortestTo
set_option maxRecDepth 20000 in
theorem ggX10_truth_X10_hiddenInAll : GoodIn wsX10_truth wsX10_hiddenInAll := by
  have h := goodIn_app (goodIn_app (goodIn_app (goodIn_r (big := wsX10_truth) (.code yX10_hiddenInAll cX10_hiddenInAll 4 (some .int) :: (wsX10_hiddenInAll_r1 ++ (wsX10_hiddenInAll_r2 ++ wsX10_hiddenInAll_r3)) : List Cond) [51, 52, 53, 54, 7, 55, 3, 56, 57, 58, 59, 12, 60, 20, 61, 62, 63, 64, 65, 66, 67, 68, 69, 70, 71, 72, 73, 74, 22, 23, 24, 25, 26, 27, 28, 29, 30, 31, 32, 75, 76, 77, 78, 79, 80, 81, 82, 83, 84, 85, 86, 87, 88] rfl (by decide +kernel)) (goodIn_few (big := wsX10_truth) (fun _ h9 => List.mem_cons_of_mem _ (List.mem_append_left _ (List.mem_append_left _ (List.mem_append_left _ (List.mem_append_right _ h9))))) gb_9)) (goodIn_few (big := wsX10_truth) (fun _ h9 => List.mem_cons_of_mem _ (List.mem_append_left _ (List.mem_append_left _ (List.mem_append_right _ h9)))) gb_2)) (goodIn_few (big := wsX10_truth) (fun _ h9 => List.mem_cons_of_mem _ (List.mem_append_left _ (List.mem_append_right _ h9))) gb_1)
  exact h
set_option maxRecDepth 20000 in
theorem gX10_truth_X10_hiddenInAll : GoodIn wsX10_truth (wsV RX10 331 RX10 yX10_hiddenInAll wsX10_hiddenInAll) := goodIn_app (goodIn_r _ [48, 49, 50, 7] rfl (by decide +kernel)) ggX10_truth_X10_hiddenInAll
theorem eX10_truth_0q : (decode cX10_truth 0 = .ok (.aload_n 0, 1)) ∧ (decode cX10_truth 1 = .ok (.iload_n 1, 1)) ∧ (decode cX10_truth 2 = .ok (.invokevirtual 245, 3)) ∧ (decode cX10_truth 5 = .ok (.iload_n 2, 1)) ∧ (decode cX10_truth 6 = .ok (.tableswitch 63 0 3 #[30, 39, 48, 57], 30)) ∧ (decode cX10_truth 36 = .ok (.aload_n 0, 1)) ∧ (decode cX10_truth 37 = .ok (.getfield 19, 3)) ∧ (decode cX10_truth 40 = .ok (.iload_n 1, 1)) := by decide +kernel
theorem dX10_truth_0 : decode cX10_truth 0 = .ok (.aload_n 0, 1) := eX10_truth_0q.1
theorem dX10_truth_1 : decode cX10_truth 1 = .ok (.iload_n 1, 1) := eX10_truth_0q.2.1
theorem dX10_truth_2 : decode cX10_truth 2 = .ok (.invokevirtual 245, 3) := eX10_truth_0q.2.2.1
theorem dX10_truth_5 : decode cX10_truth 5 = .ok (.iload_n 2, 1) := eX10_truth_0q.2.2.2.1
theorem dX10_truth_6 : decode cX10_truth 6 = .ok (.tableswitch 63 0 3 #[30, 39, 48, 57], 30) := eX10_truth_0q.2.2.2.2.1
theorem dX10_truth_36 : decode cX10_truth 36 = .ok (.aload_n 0, 1) := eX10_truth_0q.2.2.2.2.2.1
theorem dX10_truth_37 : decode cX10_truth 37 = .ok (.getfield 19, 3) := eX10_truth_0q.2.2.2.2.2.2.1
theorem dX10_truth_40 : decode cX10_truth 40 = .ok (.iload_n 1, 1) := eX10_truth_0q.2.2.2.2.2.2.2
theorem eX10_truth_41q : (decode cX10_truth 41 = .ok (.invokevirtual 322, 3)) ∧ (decode cX10_truth 44 = .ok (.ireturn, 1)) ∧ (decode cX10_truth 45 = .ok (.aload_n 0, 1)) ∧ (decode cX10_truth 46 = .ok (.getfield 19, 3)) ∧ (decode cX10_truth 49 = .ok (.iload_n 1, 1)) ∧ (decode cX10_truth 50 = .ok (.invokevirtual 325, 3)) ∧ (decode cX10_truth 53 = .ok (.ireturn, 1)) ∧ (decode cX10_truth 54 = .ok (.aload_n 0, 1)) := by decide +kernel
theorem dX10_truth_41 : decode cX10_truth 41 = .ok (.invokevirtual 322, 3) := eX10_truth_41q.1
theorem dX10_truth_44 : decode cX10_truth 44 = .ok (.ireturn, 1) := eX10_truth_41q.2.1
theorem dX10_truth_45 : decode cX10_truth 45 = .ok (.aload_n 0, 1) := eX10_truth_41q.2.2.1
theorem dX10_truth_46 : decode cX10_truth 46 = .ok (.getfield 19, 3) := eX10_truth_41q.2.2.2.1
theorem dX10_truth_49 : decode cX10_truth 49 = .ok (.iload_n 1, 1) := eX10_truth_41q.2.2.2.2.1
theorem dX10_truth_50 : decode cX10_truth 50 = .ok (.invokevirtual 325, 3) := eX10_truth_41q.2.2.2.2.2.1
theorem dX10_truth_53 : decode cX10_truth 53 = .ok (.ireturn, 1) := eX10_truth_41q.2.2.2.2.2.2.1
theorem dX10_truth_54 : decode cX10_truth 54 = .ok (.aload_n 0, 1) := eX10_truth_41q.2.2.2.2.2.2.2
theorem eX10_truth_55q : (decode cX10_truth 55 = .ok (.getfield 19, 3)) ∧ (decode cX10_truth 58 = .ok (.iload_n 1, 1)) ∧ (decode cX10_truth 59 = .ok (.invokevirtual 328, 3)) ∧ (decode cX10_truth 62 = .ok (.ireturn, 1)) ∧ (decode cX10_truth 63 = .ok (.aload_n 0, 1)) ∧ (decode cX10_truth 64 = .ok (.iload_n 1, 1)) ∧ (decode cX10_truth 65 = .ok (.invokevirtual 331, 3)) ∧ (decode cX10_truth 68 = .ok (.ireturn, 1)) := by decide +kernel
theorem dX10_truth_55 : decode cX10_truth 55 = .ok (.getfield 19, 3) := eX10_truth_55q.1
theorem dX10_truth_58 : decode cX10_truth 58 = .ok (.iload_n 1, 1) := eX10_truth_55q.2.1
theorem dX10_truth_59 : decode cX10_truth 59 = .ok (.invokevirtual 328, 3) := eX10_truth_55q.2.2.1
theorem dX10_truth_62 : decode cX10_truth 62 = .ok (.ireturn, 1) := eX10_truth_55q.2.2.2.1
theorem dX10_truth_63 : decode cX10_truth 63 = .ok (.aload_n 0, 1) := eX10_truth_55q.2.2.2.2.1
theorem dX10_truth_64 : decode cX10_truth 64 = .ok (.iload_n 1, 1) := eX10_truth_55q.2.2.2.2.2.1
theorem dX10_truth_65 : decode cX10_truth 65 = .ok (.invokevirtual 331, 3) := eX10_truth_55q.2.2.2.2.2.2.1
theorem dX10_truth_68 : decode cX10_truth 68 = .ok (.ireturn, 1) := eX10_truth_55q.2.2.2.2.2.2.2
theorem eX10_truth_69q : (decode cX10_truth 69 = .ok (.new 195, 3)) ∧ (decode cX10_truth 72 = .ok (.dup, 1)) ∧ (decode cX10_truth 73 = .ok (.ldc_w 334, 3)) ∧ (decode cX10_truth 76 = .ok (.invokespecial 199, 3)) ∧ (decode cX10_truth 79 = .ok (.athrow, 1)) := by decide +kernel
theorem dX10_truth_69 : decode cX10_truth 69 = .ok (.new 195, 3) := eX10_truth_69q.1
theorem dX10_truth_72 : decode cX10_truth 72 = .ok (.dup, 1) := eX10_truth_69q.2.1
theorem dX10_truth_73 : decode cX10_truth 73 = .ok (.ldc_w 334, 3) := eX10_truth_69q.2.2.1
theorem dX10_truth_76 : decode cX10_truth 76 = .ok (.invokespecial 199, 3) := eX10_truth_69q.2.2.2.1
theorem dX10_truth_79 : decode cX10_truth 79 = .ok (.athrow, 1) := eX10_truth_69q.2.2.2.2
set_option maxRecDepth 20000 in
theorem ggX10_same_X10_mustBeAddress : GoodIn wsX10_same wsX10_mustBeAddress := goodIn_ca (goodIn_r _ [6, 7, 8, 1, 9, 10, 11, 12, 13, 14, 15, 21, 22, 23, 24, 25, 26, 27, 28, 29, 30, 31, 32, 33, 34, 35, 36, 37, 38, 39, 40, 41, 42, 43, 44, 45, 46, 47, 48, 49, 50, 51, 52, 53, 54] rfl (by decide +kernel)) (goodIn_sub (fun _ h => List.mem_cons_of_mem _ (List.mem_append_right _ h)) (by decide +kernel))
set_option maxRecDepth 20000 in
theorem gX10_same_X10_mustBeAddress : GoodIn wsX10_same (wsV RX10 285 RX10 yX10_mustBeAddress wsX10_mustBeAddress) := goodIn_app (goodIn_r _ [2, 3, 4, 5] rfl (by decide +kernel)) ggX10_same_X10_mustBeAddress
set_option maxRecDepth 20000 in
theorem ggX10_same_X2_routerOf : GoodIn wsX10_same wsX2_routerOf := by
  have h := goodIn_app (goodIn_r (big := wsX10_same) (.code yX2_routerOf cX2_routerOf 2 (some .int) :: ([.fieldLink RX2 37 "PathProber$Net" "links" "I", .fieldLink RX2 27 "PathProber$Net" "to" "[I"]) : List Cond) [19, 15, 20] rfl (by decide +kernel)) (goodIn_few (big := wsX10_same) (fun _ h9 => List.mem_cons_of_mem _ (List.mem_append_left _ (List.mem_append_right _ h9))) gb_2)
  exact h
set_option maxRecDepth 20000 in
theorem gX10_same_X2_routerOf : GoodIn wsX10_same (wsV RX10 316 RX2 yX2_routerOf wsX2_routerOf) := goodIn_app (goodIn_r _ [16, 17, 18, 12] rfl (by decide +kernel)) ggX10_same_X2_routerOf
theorem eX10_same_0q : (decode cX10_same 0 = .ok (.aload_n 0, 1)) ∧ (decode cX10_same 1 = .ok (.iload_n 1, 1)) ∧ (decode cX10_same 2 = .ok (.invokevirtual 285, 3)) ∧ (decode cX10_same 5 = .ok (.aload_n 0, 1)) ∧ (decode cX10_same 6 = .ok (.iload_n 2, 1)) ∧ (decode cX10_same 7 = .ok (.invokevirtual 285, 3)) ∧ (decode cX10_same 10 = .ok (.aload_n 0, 1)) ∧ (decode cX10_same 11 = .ok (.getfield 19, 3)) := by decide +kernel
theorem dX10_same_0 : decode cX10_same 0 = .ok (.aload_n 0, 1) := eX10_same_0q.1
theorem dX10_same_1 : decode cX10_same 1 = .ok (.iload_n 1, 1) := eX10_same_0q.2.1
theorem dX10_same_2 : decode cX10_same 2 = .ok (.invokevirtual 285, 3) := eX10_same_0q.2.2.1
theorem dX10_same_5 : decode cX10_same 5 = .ok (.aload_n 0, 1) := eX10_same_0q.2.2.2.1
theorem dX10_same_6 : decode cX10_same 6 = .ok (.iload_n 2, 1) := eX10_same_0q.2.2.2.2.1
theorem dX10_same_7 : decode cX10_same 7 = .ok (.invokevirtual 285, 3) := eX10_same_0q.2.2.2.2.2.1
theorem dX10_same_10 : decode cX10_same 10 = .ok (.aload_n 0, 1) := eX10_same_0q.2.2.2.2.2.2.1
theorem dX10_same_11 : decode cX10_same 11 = .ok (.getfield 19, 3) := eX10_same_0q.2.2.2.2.2.2.2
theorem eX10_same_14q : (decode cX10_same 14 = .ok (.iload_n 1, 1)) ∧ (decode cX10_same 15 = .ok (.invokevirtual 316, 3)) ∧ (decode cX10_same 18 = .ok (.aload_n 0, 1)) ∧ (decode cX10_same 19 = .ok (.getfield 19, 3)) ∧ (decode cX10_same 22 = .ok (.iload_n 2, 1)) ∧ (decode cX10_same 23 = .ok (.invokevirtual 316, 3)) ∧ (decode cX10_same 26 = .ok (.if_icmp .ne 7, 3)) ∧ (decode cX10_same 29 = .ok (.iconst 1, 1)) := by decide +kernel
theorem dX10_same_14 : decode cX10_same 14 = .ok (.iload_n 1, 1) := eX10_same_14q.1
theorem dX10_same_15 : decode cX10_same 15 = .ok (.invokevirtual 316, 3) := eX10_same_14q.2.1
theorem dX10_same_18 : decode cX10_same 18 = .ok (.aload_n 0, 1) := eX10_same_14q.2.2.1
theorem dX10_same_19 : decode cX10_same 19 = .ok (.getfield 19, 3) := eX10_same_14q.2.2.2.1
theorem dX10_same_22 : decode cX10_same 22 = .ok (.iload_n 2, 1) := eX10_same_14q.2.2.2.2.1
theorem dX10_same_23 : decode cX10_same 23 = .ok (.invokevirtual 316, 3) := eX10_same_14q.2.2.2.2.2.1
theorem dX10_same_26 : decode cX10_same 26 = .ok (.if_icmp .ne 7, 3) := eX10_same_14q.2.2.2.2.2.2.1
theorem dX10_same_29 : decode cX10_same 29 = .ok (.iconst 1, 1) := eX10_same_14q.2.2.2.2.2.2.2
theorem eX10_same_30q : (decode cX10_same 30 = .ok (.goto 4, 3)) ∧ (decode cX10_same 33 = .ok (.iconst 0, 1)) ∧ (decode cX10_same 34 = .ok (.ireturn, 1)) := by decide +kernel
theorem dX10_same_30 : decode cX10_same 30 = .ok (.goto 4, 3) := eX10_same_30q.1
theorem dX10_same_33 : decode cX10_same 33 = .ok (.iconst 0, 1) := eX10_same_30q.2.1
theorem dX10_same_34 : decode cX10_same 34 = .ok (.ireturn, 1) := eX10_same_30q.2.2
set_option maxRecDepth 20000 in
theorem ggX10_hiddenAt_X2_placesAt : GoodIn wsX10_hiddenAt wsX2_placesAt := by
  have h := goodIn_app (goodIn_r (big := wsX10_hiddenAt) (.code yX2_placesAt cX2_placesAt 5 (some .int) :: (wsX2_placesAt_r1 ++ wsX2_placesAt_r2) : List Cond) [7, 8, 9, 10, 11, 6, 12, 13, 14, 15, 16, 17, 18, 19, 20, 21, 22, 23, 24, 25, 26, 27, 28, 29, 30, 31, 32, 33] rfl (by decide +kernel)) (goodIn_few (big := wsX10_hiddenAt) (fun _ h9 => List.mem_cons_of_mem _ (List.mem_append_left _ (List.mem_append_right _ h9))) gb_2)
  exact h
set_option maxRecDepth 20000 in
theorem gX10_hiddenAt_X2_placesAt : GoodIn wsX10_hiddenAt (wsV RX10 264 RX2 yX2_placesAt wsX2_placesAt) := goodIn_app (goodIn_r _ [3, 4, 5, 6] rfl (by decide +kernel)) ggX10_hiddenAt_X2_placesAt
set_option maxRecDepth 20000 in
theorem ggX10_hiddenAt_X0_seenAt : GoodIn wsX10_hiddenAt wsX0_seenAt := by
  have h := goodIn_app (goodIn_r (big := wsX10_hiddenAt) (.code yX0_seenAt cX0_seenAt 6 (some .int) :: ([.fieldLink RX0 9 "PathProber$Condition" "seen" "[J", .constantLong RX0 53 (31)]) : List Cond) [38, 39, 40] rfl (by decide +kernel)) (goodIn_few (big := wsX10_hiddenAt) (fun _ h9 => List.mem_cons_of_mem _ (List.mem_append_right _ h9)) gb_1)
  exact h
set_option maxRecDepth 20000 in
theorem gX10_hiddenAt_X0_seenAt : GoodIn wsX10_hiddenAt (wsV RX10 255 RX0 yX0_seenAt wsX0_seenAt) := goodIn_app (goodIn_r _ [34, 35, 36, 37] rfl (by decide +kernel)) ggX10_hiddenAt_X0_seenAt
theorem eX10_hiddenAt_0q : (decode cX10_hiddenAt 0 = .ok (.aload_n 0, 1)) ∧ (decode cX10_hiddenAt 1 = .ok (.getfield 19, 3)) ∧ (decode cX10_hiddenAt 4 = .ok (.iload_n 1, 1)) ∧ (decode cX10_hiddenAt 5 = .ok (.iload_n 2, 1)) ∧ (decode cX10_hiddenAt 6 = .ok (.invokevirtual 264, 3)) ∧ (decode cX10_hiddenAt 9 = .ok (.aload_n 0, 1)) ∧ (decode cX10_hiddenAt 10 = .ok (.getfield 38, 3)) ∧ (decode cX10_hiddenAt 13 = .ok (.iload_n 1, 1)) := by decide +kernel
theorem dX10_hiddenAt_0 : decode cX10_hiddenAt 0 = .ok (.aload_n 0, 1) := eX10_hiddenAt_0q.1
theorem dX10_hiddenAt_1 : decode cX10_hiddenAt 1 = .ok (.getfield 19, 3) := eX10_hiddenAt_0q.2.1
theorem dX10_hiddenAt_4 : decode cX10_hiddenAt 4 = .ok (.iload_n 1, 1) := eX10_hiddenAt_0q.2.2.1
theorem dX10_hiddenAt_5 : decode cX10_hiddenAt 5 = .ok (.iload_n 2, 1) := eX10_hiddenAt_0q.2.2.2.1
theorem dX10_hiddenAt_6 : decode cX10_hiddenAt 6 = .ok (.invokevirtual 264, 3) := eX10_hiddenAt_0q.2.2.2.2.1
theorem dX10_hiddenAt_9 : decode cX10_hiddenAt 9 = .ok (.aload_n 0, 1) := eX10_hiddenAt_0q.2.2.2.2.2.1
theorem dX10_hiddenAt_10 : decode cX10_hiddenAt 10 = .ok (.getfield 38, 3) := eX10_hiddenAt_0q.2.2.2.2.2.2.1
theorem dX10_hiddenAt_13 : decode cX10_hiddenAt 13 = .ok (.iload_n 1, 1) := eX10_hiddenAt_0q.2.2.2.2.2.2.2
theorem eX10_hiddenAt_14q : (decode cX10_hiddenAt 14 = .ok (.iload_n 2, 1)) ∧ (decode cX10_hiddenAt 15 = .ok (.invokevirtual 255, 3)) ∧ (decode cX10_hiddenAt 18 = .ok (.iconst (-1), 1)) ∧ (decode cX10_hiddenAt 19 = .ok (.ixor, 1)) ∧ (decode cX10_hiddenAt 20 = .ok (.iand, 1)) ∧ (decode cX10_hiddenAt 21 = .ok (.ireturn, 1)) := by decide +kernel
theorem dX10_hiddenAt_14 : decode cX10_hiddenAt 14 = .ok (.iload_n 2, 1) := eX10_hiddenAt_14q.1
theorem dX10_hiddenAt_15 : decode cX10_hiddenAt 15 = .ok (.invokevirtual 255, 3) := eX10_hiddenAt_14q.2.1
theorem dX10_hiddenAt_18 : decode cX10_hiddenAt 18 = .ok (.iconst (-1), 1) := eX10_hiddenAt_14q.2.2.1
theorem dX10_hiddenAt_19 : decode cX10_hiddenAt 19 = .ok (.ixor, 1) := eX10_hiddenAt_14q.2.2.2.1
theorem dX10_hiddenAt_20 : decode cX10_hiddenAt 20 = .ok (.iand, 1) := eX10_hiddenAt_14q.2.2.2.2.1
theorem dX10_hiddenAt_21 : decode cX10_hiddenAt 21 = .ok (.ireturn, 1) := eX10_hiddenAt_14q.2.2.2.2.2
set_option maxRecDepth 20000 in
theorem ggX10_hiddenInAll_X10_hiddenAt : GoodIn wsX10_hiddenInAll wsX10_hiddenAt := by
  have h := goodIn_app (goodIn_app (goodIn_app (goodIn_r (big := wsX10_hiddenInAll) (.code yX10_hiddenAt cX10_hiddenAt 3 (some .int) :: (wsX10_hiddenAt_r1 ++ wsX10_hiddenAt_r2) : List Cond) [5, 6, 7, 8, 9, 10, 11, 12, 13, 14, 15, 16, 17, 18, 19, 20, 21, 22, 23, 24, 25, 26, 27, 28, 29, 30, 31, 32, 33, 34, 35, 36, 37, 38, 39, 40, 41, 42, 43, 44, 45] rfl (by decide +kernel)) (goodIn_few (big := wsX10_hiddenInAll) (fun _ h9 => List.mem_cons_of_mem _ (List.mem_append_left _ (List.mem_append_left _ (List.mem_append_right _ h9)))) gb_9)) (goodIn_few (big := wsX10_hiddenInAll) (fun _ h9 => List.mem_cons_of_mem _ (List.mem_append_left _ (List.mem_append_right _ h9))) gb_2)) (goodIn_few (big := wsX10_hiddenInAll) (fun _ h9 => List.mem_cons_of_mem _ (List.mem_append_right _ h9)) gb_1)
  exact h
set_option maxRecDepth 20000 in
theorem gX10_hiddenInAll_X10_hiddenAt : GoodIn wsX10_hiddenInAll (wsV RX10 267 RX10 yX10_hiddenAt wsX10_hiddenAt) := goodIn_app (goodIn_r _ [1, 2, 3, 4] rfl (by decide +kernel)) ggX10_hiddenInAll_X10_hiddenAt
set_option maxRecDepth 20000 in
theorem ggX10_hiddenInAll_J6_bitCount_0f7a4 : GoodIn wsX10_hiddenInAll wsJ6_bitCount_0f7a4 := goodIn_r _ [49, 50, 51, 52] rfl (by decide +kernel)
set_option maxRecDepth 20000 in
theorem gX10_hiddenInAll_J6_bitCount_0f7a4 : GoodIn wsX10_hiddenInAll (va_wsS RX10 272 yJ6_bitCount_0f7a4 wsJ6_bitCount_0f7a4) := goodIn_app (goodIn_r _ [46, 47, 48] rfl (by decide +kernel)) ggX10_hiddenInAll_J6_bitCount_0f7a4
theorem eX10_hiddenInAll_0q : (decode cX10_hiddenInAll 0 = .ok (.iconst 0, 1)) ∧ (decode cX10_hiddenInAll 1 = .ok (.istore_n 2, 1)) ∧ (decode cX10_hiddenInAll 2 = .ok (.iconst 1, 1)) ∧ (decode cX10_hiddenInAll 3 = .ok (.istore_n 3, 1)) ∧ (decode cX10_hiddenInAll 4 = .ok (.iload_n 3, 1)) ∧ (decode cX10_hiddenInAll 5 = .ok (.bipush 10, 2)) ∧ (decode cX10_hiddenInAll 7 = .ok (.if_icmp .gt 21, 3)) ∧ (decode cX10_hiddenInAll 10 = .ok (.iload_n 2, 1)) := by decide +kernel
theorem dX10_hiddenInAll_0 : decode cX10_hiddenInAll 0 = .ok (.iconst 0, 1) := eX10_hiddenInAll_0q.1
theorem dX10_hiddenInAll_1 : decode cX10_hiddenInAll 1 = .ok (.istore_n 2, 1) := eX10_hiddenInAll_0q.2.1
theorem dX10_hiddenInAll_2 : decode cX10_hiddenInAll 2 = .ok (.iconst 1, 1) := eX10_hiddenInAll_0q.2.2.1
theorem dX10_hiddenInAll_3 : decode cX10_hiddenInAll 3 = .ok (.istore_n 3, 1) := eX10_hiddenInAll_0q.2.2.2.1
theorem dX10_hiddenInAll_4 : decode cX10_hiddenInAll 4 = .ok (.iload_n 3, 1) := eX10_hiddenInAll_0q.2.2.2.2.1
theorem dX10_hiddenInAll_5 : decode cX10_hiddenInAll 5 = .ok (.bipush 10, 2) := eX10_hiddenInAll_0q.2.2.2.2.2.1
theorem dX10_hiddenInAll_7 : decode cX10_hiddenInAll 7 = .ok (.if_icmp .gt 21, 3) := eX10_hiddenInAll_0q.2.2.2.2.2.2.1
theorem dX10_hiddenInAll_10 : decode cX10_hiddenInAll 10 = .ok (.iload_n 2, 1) := eX10_hiddenInAll_0q.2.2.2.2.2.2.2
theorem eX10_hiddenInAll_11q : (decode cX10_hiddenInAll 11 = .ok (.aload_n 0, 1)) ∧ (decode cX10_hiddenInAll 12 = .ok (.iload_n 1, 1)) ∧ (decode cX10_hiddenInAll 13 = .ok (.iload_n 3, 1)) ∧ (decode cX10_hiddenInAll 14 = .ok (.invokevirtual 267, 3)) ∧ (decode cX10_hiddenInAll 17 = .ok (.invokestatic 272, 3)) ∧ (decode cX10_hiddenInAll 20 = .ok (.iadd, 1)) ∧ (decode cX10_hiddenInAll 21 = .ok (.istore_n 2, 1)) ∧ (decode cX10_hiddenInAll 22 = .ok (.iinc 3 1, 3)) := by decide +kernel
theorem dX10_hiddenInAll_11 : decode cX10_hiddenInAll 11 = .ok (.aload_n 0, 1) := eX10_hiddenInAll_11q.1
theorem dX10_hiddenInAll_12 : decode cX10_hiddenInAll 12 = .ok (.iload_n 1, 1) := eX10_hiddenInAll_11q.2.1
theorem dX10_hiddenInAll_13 : decode cX10_hiddenInAll 13 = .ok (.iload_n 3, 1) := eX10_hiddenInAll_11q.2.2.1
theorem dX10_hiddenInAll_14 : decode cX10_hiddenInAll 14 = .ok (.invokevirtual 267, 3) := eX10_hiddenInAll_11q.2.2.2.1
theorem dX10_hiddenInAll_17 : decode cX10_hiddenInAll 17 = .ok (.invokestatic 272, 3) := eX10_hiddenInAll_11q.2.2.2.2.1
theorem dX10_hiddenInAll_20 : decode cX10_hiddenInAll 20 = .ok (.iadd, 1) := eX10_hiddenInAll_11q.2.2.2.2.2.1
theorem dX10_hiddenInAll_21 : decode cX10_hiddenInAll 21 = .ok (.istore_n 2, 1) := eX10_hiddenInAll_11q.2.2.2.2.2.2.1
theorem dX10_hiddenInAll_22 : decode cX10_hiddenInAll 22 = .ok (.iinc 3 1, 3) := eX10_hiddenInAll_11q.2.2.2.2.2.2.2
theorem eX10_hiddenInAll_25q : (decode cX10_hiddenInAll 25 = .ok (.goto (-21), 3)) ∧ (decode cX10_hiddenInAll 28 = .ok (.iload_n 2, 1)) ∧ (decode cX10_hiddenInAll 29 = .ok (.ireturn, 1)) := by decide +kernel
theorem dX10_hiddenInAll_25 : decode cX10_hiddenInAll 25 = .ok (.goto (-21), 3) := eX10_hiddenInAll_25q.1
theorem dX10_hiddenInAll_28 : decode cX10_hiddenInAll 28 = .ok (.iload_n 2, 1) := eX10_hiddenInAll_25q.2.1
theorem dX10_hiddenInAll_29 : decode cX10_hiddenInAll 29 = .ok (.ireturn, 1) := eX10_hiddenInAll_25q.2.2
