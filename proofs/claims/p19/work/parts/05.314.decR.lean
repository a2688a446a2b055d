theorem eX11_seenAt_0q : (decode cX11_seenAt 0 = .ok (.bipush 59, 2)) ∧ (decode cX11_seenAt 2 = .ok (.bipush 10, 2)) ∧ (decode cX11_seenAt 4 = .ok (.iconst 3, 1)) ∧ (decode cX11_seenAt 5 = .ok (.iload_n 0, 1)) ∧ (decode cX11_seenAt 6 = .ok (.imul, 1)) ∧ (decode cX11_seenAt 7 = .ok (.iload_n 1, 1)) ∧ (decode cX11_seenAt 8 = .ok (.iadd, 1)) ∧ (decode cX11_seenAt 9 = .ok (.imul, 1)) := by decide +kernel
theorem dX11_seenAt_0 : decode cX11_seenAt 0 = .ok (.bipush 59, 2) := eX11_seenAt_0q.1
theorem dX11_seenAt_2 : decode cX11_seenAt 2 = .ok (.bipush 10, 2) := eX11_seenAt_0q.2.1
theorem dX11_seenAt_4 : decode cX11_seenAt 4 = .ok (.iconst 3, 1) := eX11_seenAt_0q.2.2.1
theorem dX11_seenAt_5 : decode cX11_seenAt 5 = .ok (.iload_n 0, 1) := eX11_seenAt_0q.2.2.2.1
theorem dX11_seenAt_6 : decode cX11_seenAt 6 = .ok (.imul, 1) := eX11_seenAt_0q.2.2.2.2.1
theorem dX11_seenAt_7 : decode cX11_seenAt 7 = .ok (.iload_n 1, 1) := eX11_seenAt_0q.2.2.2.2.2.1
theorem dX11_seenAt_8 : decode cX11_seenAt 8 = .ok (.iadd, 1) := eX11_seenAt_0q.2.2.2.2.2.2.1
theorem dX11_seenAt_9 : decode cX11_seenAt 9 = .ok (.imul, 1) := eX11_seenAt_0q.2.2.2.2.2.2.2
theorem eX11_seenAt_10q : (decode cX11_seenAt 10 = .ok (.iadd, 1)) ∧ (decode cX11_seenAt 11 = .ok (.iload_n 2, 1)) ∧ (decode cX11_seenAt 12 = .ok (.iadd, 1)) ∧ (decode cX11_seenAt 13 = .ok (.iconst 1, 1)) ∧ (decode cX11_seenAt 14 = .ok (.isub, 1)) ∧ (decode cX11_seenAt 15 = .ok (.ireturn, 1)) := by decide +kernel
theorem dX11_seenAt_10 : decode cX11_seenAt 10 = .ok (.iadd, 1) := eX11_seenAt_10q.1
theorem dX11_seenAt_11 : decode cX11_seenAt 11 = .ok (.iload_n 2, 1) := eX11_seenAt_10q.2.1
theorem dX11_seenAt_12 : decode cX11_seenAt 12 = .ok (.iadd, 1) := eX11_seenAt_10q.2.2.1
theorem dX11_seenAt_13 : decode cX11_seenAt 13 = .ok (.iconst 1, 1) := eX11_seenAt_10q.2.2.2.1
theorem dX11_seenAt_14 : decode cX11_seenAt 14 = .ok (.isub, 1) := eX11_seenAt_10q.2.2.2.2.1
theorem dX11_seenAt_15 : decode cX11_seenAt 15 = .ok (.ireturn, 1) := eX11_seenAt_10q.2.2.2.2.2
set_option maxRecDepth 20000 in
theorem ggX11_seenBy_X11_seenAt : GoodIn wsX11_seenBy wsX11_seenAt := goodIn_r _ [5] rfl (by decide +kernel)
set_option maxRecDepth 20000 in
theorem gX11_seenBy_X11_seenAt : GoodIn wsX11_seenBy (va_wsS RX11 298 yX11_seenAt wsX11_seenAt) := goodIn_app (goodIn_r _ [2, 3, 4] rfl (by decide +kernel)) ggX11_seenBy_X11_seenAt
theorem eX11_seenBy_0q : (decode cX11_seenBy 0 = .ok (.aload_n 0, 1)) ∧ (decode cX11_seenBy 1 = .ok (.getfield 60, 3)) ∧ (decode cX11_seenBy 4 = .ok (.iload_n 1, 1)) ∧ (decode cX11_seenBy 5 = .ok (.iload_n 2, 1)) ∧ (decode cX11_seenBy 6 = .ok (.iload_n 3, 1)) ∧ (decode cX11_seenBy 7 = .ok (.invokestatic 298, 3)) ∧ (decode cX11_seenBy 10 = .ok (.iaload, 1)) ∧ (decode cX11_seenBy 11 = .ok (.iconst 1, 1)) := by decide +kernel
theorem dX11_seenBy_0 : decode cX11_seenBy 0 = .ok (.aload_n 0, 1) := eX11_seenBy_0q.1
theorem dX11_seenBy_1 : decode cX11_seenBy 1 = .ok (.getfield 60, 3) := eX11_seenBy_0q.2.1
theorem dX11_seenBy_4 : decode cX11_seenBy 4 = .ok (.iload_n 1, 1) := eX11_seenBy_0q.2.2.1
theorem dX11_seenBy_5 : decode cX11_seenBy 5 = .ok (.iload_n 2, 1) := eX11_seenBy_0q.2.2.2.1
theorem dX11_seenBy_6 : decode cX11_seenBy 6 = .ok (.iload_n 3, 1) := eX11_seenBy_0q.2.2.2.2.1
theorem dX11_seenBy_7 : decode cX11_seenBy 7 = .ok (.invokestatic 298, 3) := eX11_seenBy_0q.2.2.2.2.2.1
theorem dX11_seenBy_10 : decode cX11_seenBy 10 = .ok (.iaload, 1) := eX11_seenBy_0q.2.2.2.2.2.2.1
theorem dX11_seenBy_11 : decode cX11_seenBy 11 = .ok (.iconst 1, 1) := eX11_seenBy_0q.2.2.2.2.2.2.2
theorem dX11_seenBy_12 : decode cX11_seenBy 12 = .ok (.isub, 1) := by decide +kernel
theorem dX11_seenBy_13 : decode cX11_seenBy 13 = .ok (.ireturn, 1) := by decide +kernel
theorem eX11_sentAt_0q : (decode cX11_sentAt 0 = .ok (.bipush 24, 2)) ∧ (decode cX11_sentAt 2 = .ok (.bipush 10, 2)) ∧ (decode cX11_sentAt 4 = .ok (.iload_n 0, 1)) ∧ (decode cX11_sentAt 5 = .ok (.imul, 1)) ∧ (decode cX11_sentAt 6 = .ok (.iadd, 1)) ∧ (decode cX11_sentAt 7 = .ok (.iload_n 1, 1)) ∧ (decode cX11_sentAt 8 = .ok (.iadd, 1)) ∧ (decode cX11_sentAt 9 = .ok (.iconst 1, 1)) := by decide +kernel
theorem dX11_sentAt_0 : decode cX11_sentAt 0 = .ok (.bipush 24, 2) := eX11_sentAt_0q.1
theorem dX11_sentAt_2 : decode cX11_sentAt 2 = .ok (.bipush 10, 2) := eX11_sentAt_0q.2.1
theorem dX11_sentAt_4 : decode cX11_sentAt 4 = .ok (.iload_n 0, 1) := eX11_sentAt_0q.2.2.1
theorem dX11_sentAt_5 : decode cX11_sentAt 5 = .ok (.imul, 1) := eX11_sentAt_0q.2.2.2.1
theorem dX11_sentAt_6 : decode cX11_sentAt 6 = .ok (.iadd, 1) := eX11_sentAt_0q.2.2.2.2.1
theorem dX11_sentAt_7 : decode cX11_sentAt 7 = .ok (.iload_n 1, 1) := eX11_sentAt_0q.2.2.2.2.2.1
theorem dX11_sentAt_8 : decode cX11_sentAt 8 = .ok (.iadd, 1) := eX11_sentAt_0q.2.2.2.2.2.2.1
theorem dX11_sentAt_9 : decode cX11_sentAt 9 = .ok (.iconst 1, 1) := eX11_sentAt_0q.2.2.2.2.2.2.2
theorem dX11_sentAt_10 : decode cX11_sentAt 10 = .ok (.isub, 1) := by decide +kernel
theorem dX11_sentAt_11 : decode cX11_sentAt 11 = .ok (.ireturn, 1) := by decide +kernel
set_option maxRecDepth 20000 in
theorem ggX11_addresses_X11_seenBy : GoodIn wsX11_addresses wsX11_seenBy := by
  have h := goodIn_app (goodIn_r (big := wsX11_addresses) (.code yX11_seenBy cX11_seenBy 4 (some .int) :: ([.fieldLink RX11 60 "PathProberModel" "now" "[I", .methodLink RX11 298 yX11_seenAt, .static yX11_seenAt, .initialized RX11, .code yX11_seenAt cX11_seenAt 3 (some .int)]) : List Cond) [5, 6, 7, 8, 4, 9] rfl (by decide +kernel)) (goodIn_few (big := wsX11_addresses) (fun _ h9 => List.mem_cons_of_mem _ (List.mem_append_right _ h9)) gb_0)
  exact h
set_option maxRecDepth 20000 in
theorem gX11_addresses_X11_seenBy : GoodIn wsX11_addresses (wsV RX11 301 RX11 yX11_seenBy wsX11_seenBy) := goodIn_app (goodIn_r _ [1, 2, 3, 4] rfl (by decide +kernel)) ggX11_addresses_X11_seenBy
theorem eX11_addresses_0q : (decode cX11_addresses 0 = .ok (.iconst 0, 1)) ∧ (decode cX11_addresses 1 = .ok (.istore_n 3, 1)) ∧ (decode cX11_addresses 2 = .ok (.iconst 0, 1)) ∧ (decode cX11_addresses 3 = .ok (.istore 4, 2)) ∧ (decode cX11_addresses 5 = .ok (.iload 4, 2)) ∧ (decode cX11_addresses 7 = .ok (.bipush 32, 2)) ∧ (decode cX11_addresses 9 = .ok (.if_icmp .ge 38, 3)) ∧ (decode cX11_addresses 12 = .ok (.iload_n 3, 1)) := by decide +kernel
theorem dX11_addresses_0 : decode cX11_addresses 0 = .ok (.iconst 0, 1) := eX11_addresses_0q.1
theorem dX11_addresses_1 : decode cX11_addresses 1 = .ok (.istore_n 3, 1) := eX11_addresses_0q.2.1
theorem dX11_addresses_2 : decode cX11_addresses 2 = .ok (.iconst 0, 1) := eX11_addresses_0q.2.2.1
theorem dX11_addresses_3 : decode cX11_addresses 3 = .ok (.istore 4, 2) := eX11_addresses_0q.2.2.2.1
theorem dX11_addresses_5 : decode cX11_addresses 5 = .ok (.iload 4, 2) := eX11_addresses_0q.2.2.2.2.1
theorem dX11_addresses_7 : decode cX11_addresses 7 = .ok (.bipush 32, 2) := eX11_addresses_0q.2.2.2.2.2.1
theorem dX11_addresses_9 : decode cX11_addresses 9 = .ok (.if_icmp .ge 38, 3) := eX11_addresses_0q.2.2.2.2.2.2.1
theorem dX11_addresses_12 : decode cX11_addresses 12 = .ok (.iload_n 3, 1) := eX11_addresses_0q.2.2.2.2.2.2.2
theorem eX11_addresses_13q : (decode cX11_addresses 13 = .ok (.aload_n 0, 1)) ∧ (decode cX11_addresses 14 = .ok (.iload 4, 2)) ∧ (decode cX11_addresses 16 = .ok (.iload_n 1, 1)) ∧ (decode cX11_addresses 17 = .ok (.iload_n 2, 1)) ∧ (decode cX11_addresses 18 = .ok (.invokevirtual 301, 3)) ∧ (decode cX11_addresses 21 = .ok (.iconst (-1), 1)) ∧ (decode cX11_addresses 22 = .ok (.if_icmp .eq 16, 3)) ∧ (decode cX11_addresses 25 = .ok (.iconst 1, 1)) := by decide +kernel
theorem dX11_addresses_13 : decode cX11_addresses 13 = .ok (.aload_n 0, 1) := eX11_addresses_13q.1
theorem dX11_addresses_14 : decode cX11_addresses 14 = .ok (.iload 4, 2) := eX11_addresses_13q.2.1
theorem dX11_addresses_16 : decode cX11_addresses 16 = .ok (.iload_n 1, 1) := eX11_addresses_13q.2.2.1
theorem dX11_addresses_17 : decode cX11_addresses 17 = .ok (.iload_n 2, 1) := eX11_addresses_13q.2.2.2.1
theorem dX11_addresses_18 : decode cX11_addresses 18 = .ok (.invokevirtual 301, 3) := eX11_addresses_13q.2.2.2.2.1
theorem dX11_addresses_21 : decode cX11_addresses 21 = .ok (.iconst (-1), 1) := eX11_addresses_13q.2.2.2.2.2.1
theorem dX11_addresses_22 : decode cX11_addresses 22 = .ok (.if_icmp .eq 16, 3) := eX11_addresses_13q.2.2.2.2.2.2.1
theorem dX11_addresses_25 : decode cX11_addresses 25 = .ok (.iconst 1, 1) := eX11_addresses_13q.2.2.2.2.2.2.2
theorem eX11_addresses_26q : (decode cX11_addresses 26 = .ok (.aload_n 0, 1)) ∧ (decode cX11_addresses 27 = .ok (.iload 4, 2)) ∧ (decode cX11_addresses 29 = .ok (.iload_n 1, 1)) ∧ (decode cX11_addresses 30 = .ok (.iload_n 2, 1)) ∧ (decode cX11_addresses 31 = .ok (.invokevirtual 301, 3)) ∧ (decode cX11_addresses 34 = .ok (.ishl, 1)) ∧ (decode cX11_addresses 35 = .ok (.goto 4, 3)) ∧ (decode cX11_addresses 38 = .ok (.iconst 0, 1)) := by decide +kernel
theorem dX11_addresses_26 : decode cX11_addresses 26 = .ok (.aload_n 0, 1) := eX11_addresses_26q.1
theorem dX11_addresses_27 : decode cX11_addresses 27 = .ok (.iload 4, 2) := eX11_addresses_26q.2.1
theorem dX11_addresses_29 : decode cX11_addresses 29 = .ok (.iload_n 1, 1) := eX11_addresses_26q.2.2.1
theorem dX11_addresses_30 : decode cX11_addresses 30 = .ok (.iload_n 2, 1) := eX11_addresses_26q.2.2.2.1
theorem dX11_addresses_31 : decode cX11_addresses 31 = .ok (.invokevirtual 301, 3) := eX11_addresses_26q.2.2.2.2.1
theorem dX11_addresses_34 : decode cX11_addresses 34 = .ok (.ishl, 1) := eX11_addresses_26q.2.2.2.2.2.1
theorem dX11_addresses_35 : decode cX11_addresses 35 = .ok (.goto 4, 3) := eX11_addresses_26q.2.2.2.2.2.2.1
theorem dX11_addresses_38 : decode cX11_addresses 38 = .ok (.iconst 0, 1) := eX11_addresses_26q.2.2.2.2.2.2.2
theorem eX11_addresses_39q : (decode cX11_addresses 39 = .ok (.ior, 1)) ∧ (decode cX11_addresses 40 = .ok (.istore_n 3, 1)) ∧ (decode cX11_addresses 41 = .ok (.iinc 4 1, 3)) ∧ (decode cX11_addresses 44 = .ok (.goto (-39), 3)) ∧ (decode cX11_addresses 47 = .ok (.iload_n 3, 1)) ∧ (decode cX11_addresses 48 = .ok (.ireturn, 1)) := by decide +kernel
theorem dX11_addresses_39 : decode cX11_addresses 39 = .ok (.ior, 1) := eX11_addresses_39q.1
theorem dX11_addresses_40 : decode cX11_addresses 40 = .ok (.istore_n 3, 1) := eX11_addresses_39q.2.1
theorem dX11_addresses_41 : decode cX11_addresses 41 = .ok (.iinc 4 1, 3) := eX11_addresses_39q.2.2.1
theorem dX11_addresses_44 : decode cX11_addresses 44 = .ok (.goto (-39), 3) := eX11_addresses_39q.2.2.2.1
theorem dX11_addresses_47 : decode cX11_addresses 47 = .ok (.iload_n 3, 1) := eX11_addresses_39q.2.2.2.2.1
theorem dX11_addresses_48 : decode cX11_addresses 48 = .ok (.ireturn, 1) := eX11_addresses_39q.2.2.2.2.2
set_option maxRecDepth 20000 in
theorem ggX11_allSeen_X11_goals : GoodIn wsX11_allSeen wsX11_goals := by
  have h := goodIn_app (goodIn_r (big := wsX11_allSeen) (.code yX11_goals cX11_goals 1 (some .int) :: ([.fieldLink RX11 34 "PathProberModel" "told" "[I"]) : List Cond) [5, 6] rfl (by decide +kernel)) (goodIn_few (big := wsX11_allSeen) (fun _ h9 => List.mem_cons_of_mem _ (List.mem_append_right _ h9)) gb_0)
  exact h
set_option maxRecDepth 20000 in
theorem gX11_allSeen_X11_goals : GoodIn wsX11_allSeen (wsV RX11 304 RX11 yX11_goals wsX11_goals) := goodIn_app (goodIn_r _ [1, 2, 3, 4] rfl (by decide +kernel)) ggX11_allSeen_X11_goals
set_option maxRecDepth 20000 in
theorem ggX11_allSeen_X11_addresses : GoodIn wsX11_allSeen wsX11_addresses := by
  have h := goodIn_app (goodIn_r (big := wsX11_allSeen) (.code yX11_addresses cX11_addresses 5 (some .int) :: ([.methodLink RX11 301 yX11_seenBy, .instanceMethod yX11_seenBy, .selects RX11 yX11_seenBy yX11_seenBy, .initialized RX11, .code yX11_seenBy cX11_seenBy 4 (some .int), .fieldLink RX11 60 "PathProberModel" "now" "[I", .methodLink RX11 298 yX11_seenAt, .static yX11_seenAt, .code yX11_seenAt cX11_seenAt 3 (some .int)]) : List Cond) [10, 11, 12, 13, 4, 14, 15, 16, 17, 18] rfl (by decide +kernel)) (goodIn_few (big := wsX11_allSeen) (fun _ h9 => List.mem_cons_of_mem _ (List.mem_append_right _ h9)) gb_0)
  exact h
set_option maxRecDepth 20000 in
theorem gX11_allSeen_X11_addresses : GoodIn wsX11_allSeen (wsV RX11 307 RX11 yX11_addresses wsX11_addresses) := goodIn_app (goodIn_r _ [7, 8, 9, 4] rfl (by decide +kernel)) ggX11_allSeen_X11_addresses
theorem eX11_allSeen_0q : (decode cX11_allSeen 0 = .ok (.iconst 0, 1)) ∧ (decode cX11_allSeen 1 = .ok (.istore_n 1, 1)) ∧ (decode cX11_allSeen 2 = .ok (.iconst 0, 1)) ∧ (decode cX11_allSeen 3 = .ok (.istore_n 2, 1)) ∧ (decode cX11_allSeen 4 = .ok (.iload_n 2, 1)) ∧ (decode cX11_allSeen 5 = .ok (.aload_n 0, 1)) ∧ (decode cX11_allSeen 6 = .ok (.invokevirtual 304, 3)) ∧ (decode cX11_allSeen 9 = .ok (.if_icmp .ge 32, 3)) := by decide +kernel
theorem dX11_allSeen_0 : decode cX11_allSeen 0 = .ok (.iconst 0, 1) := eX11_allSeen_0q.1
theorem dX11_allSeen_1 : decode cX11_allSeen 1 = .ok (.istore_n 1, 1) := eX11_allSeen_0q.2.1
theorem dX11_allSeen_2 : decode cX11_allSeen 2 = .ok (.iconst 0, 1) := eX11_allSeen_0q.2.2.1
theorem dX11_allSeen_3 : decode cX11_allSeen 3 = .ok (.istore_n 2, 1) := eX11_allSeen_0q.2.2.2.1
theorem dX11_allSeen_4 : decode cX11_allSeen 4 = .ok (.iload_n 2, 1) := eX11_allSeen_0q.2.2.2.2.1
theorem dX11_allSeen_5 : decode cX11_allSeen 5 = .ok (.aload_n 0, 1) := eX11_allSeen_0q.2.2.2.2.2.1
theorem dX11_allSeen_6 : decode cX11_allSeen 6 = .ok (.invokevirtual 304, 3) := eX11_allSeen_0q.2.2.2.2.2.2.1
theorem dX11_allSeen_9 : decode cX11_allSeen 9 = .ok (.if_icmp .ge 32, 3) := eX11_allSeen_0q.2.2.2.2.2.2.2
theorem eX11_allSeen_12q : (decode cX11_allSeen 12 = .ok (.iconst 1, 1)) ∧ (decode cX11_allSeen 13 = .ok (.istore_n 3, 1)) ∧ (decode cX11_allSeen 14 = .ok (.iload_n 3, 1)) ∧ (decode cX11_allSeen 15 = .ok (.bipush 10, 2)) ∧ (decode cX11_allSeen 17 = .ok (.if_icmp .gt 18, 3)) ∧ (decode cX11_allSeen 20 = .ok (.iload_n 1, 1)) ∧ (decode cX11_allSeen 21 = .ok (.aload_n 0, 1)) ∧ (decode cX11_allSeen 22 = .ok (.iload_n 2, 1)) := by decide +kernel
theorem dX11_allSeen_12 : decode cX11_allSeen 12 = .ok (.iconst 1, 1) := eX11_allSeen_12q.1
theorem dX11_allSeen_13 : decode cX11_allSeen 13 = .ok (.istore_n 3, 1) := eX11_allSeen_12q.2.1
theorem dX11_allSeen_14 : decode cX11_allSeen 14 = .ok (.iload_n 3, 1) := eX11_allSeen_12q.2.2.1
theorem dX11_allSeen_15 : decode cX11_allSeen 15 = .ok (.bipush 10, 2) := eX11_allSeen_12q.2.2.2.1
theorem dX11_allSeen_17 : decode cX11_allSeen 17 = .ok (.if_icmp .gt 18, 3) := eX11_allSeen_12q.2.2.2.2.1
theorem dX11_allSeen_20 : decode cX11_allSeen 20 = .ok (.iload_n 1, 1) := eX11_allSeen_12q.2.2.2.2.2.1
theorem dX11_allSeen_21 : decode cX11_allSeen 21 = .ok (.aload_n 0, 1) := eX11_allSeen_12q.2.2.2.2.2.2.1
theorem dX11_allSeen_22 : decode cX11_allSeen 22 = .ok (.iload_n 2, 1) := eX11_allSeen_12q.2.2.2.2.2.2.2
theorem eX11_allSeen_23q : (decode cX11_allSeen 23 = .ok (.iload_n 3, 1)) ∧ (decode cX11_allSeen 24 = .ok (.invokevirtual 307, 3)) ∧ (decode cX11_allSeen 27 = .ok (.ior, 1)) ∧ (decode cX11_allSeen 28 = .ok (.istore_n 1, 1)) ∧ (decode cX11_allSeen 29 = .ok (.iinc 3 1, 3)) ∧ (decode cX11_allSeen 32 = .ok (.goto (-18), 3)) ∧ (decode cX11_allSeen 35 = .ok (.iinc 2 1, 3)) ∧ (decode cX11_allSeen 38 = .ok (.goto (-34), 3)) := by decide +kernel
theorem dX11_allSeen_23 : decode cX11_allSeen 23 = .ok (.iload_n 3, 1) := eX11_allSeen_23q.1
theorem dX11_allSeen_24 : decode cX11_allSeen 24 = .ok (.invokevirtual 307, 3) := eX11_allSeen_23q.2.1
theorem dX11_allSeen_27 : decode cX11_allSeen 27 = .ok (.ior, 1) := eX11_allSeen_23q.2.2.1
theorem dX11_allSeen_28 : decode cX11_allSeen 28 = .ok (.istore_n 1, 1) := eX11_allSeen_23q.2.2.2.1
theorem dX11_allSeen_29 : decode cX11_allSeen 29 = .ok (.iinc 3 1, 3) := eX11_allSeen_23q.2.2.2.2.1
theorem dX11_allSeen_32 : decode cX11_allSeen 32 = .ok (.goto (-18), 3) := eX11_allSeen_23q.2.2.2.2.2.1
theorem dX11_allSeen_35 : decode cX11_allSeen 35 = .ok (.iinc 2 1, 3) := eX11_allSeen_23q.2.2.2.2.2.2.1
theorem dX11_allSeen_38 : decode cX11_allSeen 38 = .ok (.goto (-34), 3) := eX11_allSeen_23q.2.2.2.2.2.2.2
theorem dX11_allSeen_41 : decode cX11_allSeen 41 = .ok (.iload_n 1, 1) := by decide +kernel
theorem dX11_allSeen_42 : decode cX11_allSeen 42 = .ok (.ireturn, 1) := by decide +kernel
theorem eX11_sentAll_0q : (decode cX11_sentAll 0 = .ok (.iconst 0, 1)) ∧ (decode cX11_sentAll 1 = .ok (.istore_n 1, 1)) ∧ (decode cX11_sentAll 2 = .ok (.iconst 0, 1)) ∧ (decode cX11_sentAll 3 = .ok (.istore_n 2, 1)) ∧ (decode cX11_sentAll 4 = .ok (.iload_n 2, 1)) ∧ (decode cX11_sentAll 5 = .ok (.bipush 30, 2)) ∧ (decode cX11_sentAll 7 = .ok (.if_icmp .ge 21, 3)) ∧ (decode cX11_sentAll 10 = .ok (.iload_n 1, 1)) := by decide +kernel
theorem dX11_sentAll_0 : decode cX11_sentAll 0 = .ok (.iconst 0, 1) := eX11_sentAll_0q.1
theorem dX11_sentAll_1 : decode cX11_sentAll 1 = .ok (.istore_n 1, 1) := eX11_sentAll_0q.2.1
theorem dX11_sentAll_2 : decode cX11_sentAll 2 = .ok (.iconst 0, 1) := eX11_sentAll_0q.2.2.1
theorem dX11_sentAll_3 : decode cX11_sentAll 3 = .ok (.istore_n 2, 1) := eX11_sentAll_0q.2.2.2.1
theorem dX11_sentAll_4 : decode cX11_sentAll 4 = .ok (.iload_n 2, 1) := eX11_sentAll_0q.2.2.2.2.1
theorem dX11_sentAll_5 : decode cX11_sentAll 5 = .ok (.bipush 30, 2) := eX11_sentAll_0q.2.2.2.2.2.1
theorem dX11_sentAll_7 : decode cX11_sentAll 7 = .ok (.if_icmp .ge 21, 3) := eX11_sentAll_0q.2.2.2.2.2.2.1
theorem dX11_sentAll_10 : decode cX11_sentAll 10 = .ok (.iload_n 1, 1) := eX11_sentAll_0q.2.2.2.2.2.2.2
theorem eX11_sentAll_11q : (decode cX11_sentAll 11 = .ok (.aload_n 0, 1)) ∧ (decode cX11_sentAll 12 = .ok (.getfield 60, 3)) ∧ (decode cX11_sentAll 15 = .ok (.bipush 24, 2)) ∧ (decode cX11_sentAll 17 = .ok (.iload_n 2, 1)) ∧ (decode cX11_sentAll 18 = .ok (.iadd, 1)) ∧ (decode cX11_sentAll 19 = .ok (.iaload, 1)) ∧ (decode cX11_sentAll 20 = .ok (.iadd, 1)) ∧ (decode cX11_sentAll 21 = .ok (.istore_n 1, 1)) := by decide +kernel
theorem dX11_sentAll_11 : decode cX11_sentAll 11 = .ok (.aload_n 0, 1) := eX11_sentAll_11q.1
theorem dX11_sentAll_12 : decode cX11_sentAll 12 = .ok (.getfield 60, 3) := eX11_sentAll_11q.2.1
theorem dX11_sentAll_15 : decode cX11_sentAll 15 = .ok (.bipush 24, 2) := eX11_sentAll_11q.2.2.1
theorem dX11_sentAll_17 : decode cX11_sentAll 17 = .ok (.iload_n 2, 1) := eX11_sentAll_11q.2.2.2.1
theorem dX11_sentAll_18 : decode cX11_sentAll 18 = .ok (.iadd, 1) := eX11_sentAll_11q.2.2.2.2.1
theorem dX11_sentAll_19 : decode cX11_sentAll 19 = .ok (.iaload, 1) := eX11_sentAll_11q.2.2.2.2.2.1
theorem dX11_sentAll_20 : decode cX11_sentAll 20 = .ok (.iadd, 1) := eX11_sentAll_11q.2.2.2.2.2.2.1
theorem dX11_sentAll_21 : decode cX11_sentAll 21 = .ok (.istore_n 1, 1) := eX11_sentAll_11q.2.2.2.2.2.2.2
theorem eX11_sentAll_22q : (decode cX11_sentAll 22 = .ok (.iinc 2 1, 3)) ∧ (decode cX11_sentAll 25 = .ok (.goto (-21), 3)) ∧ (decode cX11_sentAll 28 = .ok (.iload_n 1, 1)) ∧ (decode cX11_sentAll 29 = .ok (.ireturn, 1)) := by decide +kernel
theorem dX11_sentAll_22 : decode cX11_sentAll 22 = .ok (.iinc 2 1, 3) := eX11_sentAll_22q.1
theorem dX11_sentAll_25 : decode cX11_sentAll 25 = .ok (.goto (-21), 3) := eX11_sentAll_22q.2.1
theorem dX11_sentAll_28 : decode cX11_sentAll 28 = .ok (.iload_n 1, 1) := eX11_sentAll_22q.2.2.1
theorem dX11_sentAll_29 : decode cX11_sentAll 29 = .ok (.ireturn, 1) := eX11_sentAll_22q.2.2.2
set_option maxRecDepth 20000 in
theorem ggX11_isEdge_X11_seenBy : GoodIn wsX11_isEdge wsX11_seenBy := by
  have h := goodIn_app (goodIn_r (big := wsX11_isEdge) (.code yX11_seenBy cX11_seenBy 4 (some .int) :: ([.fieldLink RX11 60 "PathProberModel" "now" "[I", .methodLink RX11 298 yX11_seenAt, .static yX11_seenAt, .initialized RX11, .code yX11_seenAt cX11_seenAt 3 (some .int)]) : List Cond) [5, 6, 7, 8, 4, 9] rfl (by decide +kernel)) (goodIn_few (big := wsX11_isEdge) (fun _ h9 => List.mem_cons_of_mem _ (List.mem_append_right _ h9)) gb_0)
  exact h
set_option maxRecDepth 20000 in
theorem gX11_isEdge_X11_seenBy : GoodIn wsX11_isEdge (wsV RX11 301 RX11 yX11_seenBy wsX11_seenBy) := goodIn_app (goodIn_r _ [1, 2, 3, 4] rfl (by decide +kernel)) ggX11_isEdge_X11_seenBy
theorem eX11_isEdge_0q : (decode cX11_isEdge 0 = .ok (.iconst 0, 1)) ∧ (decode cX11_isEdge 1 = .ok (.istore 5, 2)) ∧ (decode cX11_isEdge 3 = .ok (.iconst 0, 1)) ∧ (decode cX11_isEdge 4 = .ok (.istore 6, 2)) ∧ (decode cX11_isEdge 6 = .ok (.iload 6, 2)) ∧ (decode cX11_isEdge 8 = .ok (.bipush 32, 2)) ∧ (decode cX11_isEdge 10 = .ok (.if_icmp .ge 54, 3)) ∧ (decode cX11_isEdge 13 = .ok (.iload_n 3, 1)) := by decide +kernel
theorem dX11_isEdge_0 : decode cX11_isEdge 0 = .ok (.iconst 0, 1) := eX11_isEdge_0q.1
theorem dX11_isEdge_1 : decode cX11_isEdge 1 = .ok (.istore 5, 2) := eX11_isEdge_0q.2.1
theorem dX11_isEdge_3 : decode cX11_isEdge 3 = .ok (.iconst 0, 1) := eX11_isEdge_0q.2.2.1
theorem dX11_isEdge_4 : decode cX11_isEdge 4 = .ok (.istore 6, 2) := eX11_isEdge_0q.2.2.2.1
theorem dX11_isEdge_6 : decode cX11_isEdge 6 = .ok (.iload 6, 2) := eX11_isEdge_0q.2.2.2.2.1
theorem dX11_isEdge_8 : decode cX11_isEdge 8 = .ok (.bipush 32, 2) := eX11_isEdge_0q.2.2.2.2.2.1
theorem dX11_isEdge_10 : decode cX11_isEdge 10 = .ok (.if_icmp .ge 54, 3) := eX11_isEdge_0q.2.2.2.2.2.2.1
theorem dX11_isEdge_13 : decode cX11_isEdge 13 = .ok (.iload_n 3, 1) := eX11_isEdge_0q.2.2.2.2.2.2.2
theorem eX11_isEdge_14q : (decode cX11_isEdge 14 = .ok (.iload 4, 2)) ∧ (decode cX11_isEdge 16 = .ok (.if_icmp .eq 48, 3)) ∧ (decode cX11_isEdge 19 = .ok (.iload 5, 2)) ∧ (decode cX11_isEdge 21 = .ok (.ifCond .ne 30, 3)) ∧ (decode cX11_isEdge 24 = .ok (.aload_n 0, 1)) ∧ (decode cX11_isEdge 25 = .ok (.iload 6, 2)) ∧ (decode cX11_isEdge 27 = .ok (.iload_n 1, 1)) ∧ (decode cX11_isEdge 28 = .ok (.iload_n 2, 1)) := by decide +kernel
theorem dX11_isEdge_14 : decode cX11_isEdge 14 = .ok (.iload 4, 2) := eX11_isEdge_14q.1
theorem dX11_isEdge_16 : decode cX11_isEdge 16 = .ok (.if_icmp .eq 48, 3) := eX11_isEdge_14q.2.1
theorem dX11_isEdge_19 : decode cX11_isEdge 19 = .ok (.iload 5, 2) := eX11_isEdge_14q.2.2.1
theorem dX11_isEdge_21 : decode cX11_isEdge 21 = .ok (.ifCond .ne 30, 3) := eX11_isEdge_14q.2.2.2.1
theorem dX11_isEdge_24 : decode cX11_isEdge 24 = .ok (.aload_n 0, 1) := eX11_isEdge_14q.2.2.2.2.1
theorem dX11_isEdge_25 : decode cX11_isEdge 25 = .ok (.iload 6, 2) := eX11_isEdge_14q.2.2.2.2.2.1
theorem dX11_isEdge_27 : decode cX11_isEdge 27 = .ok (.iload_n 1, 1) := eX11_isEdge_14q.2.2.2.2.2.2.1
theorem dX11_isEdge_28 : decode cX11_isEdge 28 = .ok (.iload_n 2, 1) := eX11_isEdge_14q.2.2.2.2.2.2.2
theorem eX11_isEdge_29q : (decode cX11_isEdge 29 = .ok (.invokevirtual 301, 3)) ∧ (decode cX11_isEdge 32 = .ok (.iload_n 3, 1)) ∧ (decode cX11_isEdge 33 = .ok (.if_icmp .ne 22, 3)) ∧ (decode cX11_isEdge 36 = .ok (.aload_n 0, 1)) ∧ (decode cX11_isEdge 37 = .ok (.iload 6, 2)) ∧ (decode cX11_isEdge 39 = .ok (.iload_n 1, 1)) ∧ (decode cX11_isEdge 40 = .ok (.iload_n 2, 1)) ∧ (decode cX11_isEdge 41 = .ok (.iconst 1, 1)) := by decide +kernel
theorem dX11_isEdge_29 : decode cX11_isEdge 29 = .ok (.invokevirtual 301, 3) := eX11_isEdge_29q.1
theorem dX11_isEdge_32 : decode cX11_isEdge 32 = .ok (.iload_n 3, 1) := eX11_isEdge_29q.2.1
theorem dX11_isEdge_33 : decode cX11_isEdge 33 = .ok (.if_icmp .ne 22, 3) := eX11_isEdge_29q.2.2.1
theorem dX11_isEdge_36 : decode cX11_isEdge 36 = .ok (.aload_n 0, 1) := eX11_isEdge_29q.2.2.2.1
theorem dX11_isEdge_37 : decode cX11_isEdge 37 = .ok (.iload 6, 2) := eX11_isEdge_29q.2.2.2.2.1
theorem dX11_isEdge_39 : decode cX11_isEdge 39 = .ok (.iload_n 1, 1) := eX11_isEdge_29q.2.2.2.2.2.1
theorem dX11_isEdge_40 : decode cX11_isEdge 40 = .ok (.iload_n 2, 1) := eX11_isEdge_29q.2.2.2.2.2.2.1
theorem dX11_isEdge_41 : decode cX11_isEdge 41 = .ok (.iconst 1, 1) := eX11_isEdge_29q.2.2.2.2.2.2.2
theorem eX11_isEdge_42q : (decode cX11_isEdge 42 = .ok (.iadd, 1)) ∧ (decode cX11_isEdge 43 = .ok (.invokevirtual 301, 3)) ∧ (decode cX11_isEdge 46 = .ok (.iload 4, 2)) ∧ (decode cX11_isEdge 48 = .ok (.if_icmp .ne 7, 3)) ∧ (decode cX11_isEdge 51 = .ok (.iconst 1, 1)) ∧ (decode cX11_isEdge 52 = .ok (.goto 4, 3)) ∧ (decode cX11_isEdge 55 = .ok (.iconst 0, 1)) ∧ (decode cX11_isEdge 56 = .ok (.istore 5, 2)) := by decide +kernel
theorem dX11_isEdge_42 : decode cX11_isEdge 42 = .ok (.iadd, 1) := eX11_isEdge_42q.1
theorem dX11_isEdge_43 : decode cX11_isEdge 43 = .ok (.invokevirtual 301, 3) := eX11_isEdge_42q.2.1
theorem dX11_isEdge_46 : decode cX11_isEdge 46 = .ok (.iload 4, 2) := eX11_isEdge_42q.2.2.1
theorem dX11_isEdge_48 : decode cX11_isEdge 48 = .ok (.if_icmp .ne 7, 3) := eX11_isEdge_42q.2.2.2.1
theorem dX11_isEdge_51 : decode cX11_isEdge 51 = .ok (.iconst 1, 1) := eX11_isEdge_42q.2.2.2.2.1
theorem dX11_isEdge_52 : decode cX11_isEdge 52 = .ok (.goto 4, 3) := eX11_isEdge_42q.2.2.2.2.2.1
theorem dX11_isEdge_55 : decode cX11_isEdge 55 = .ok (.iconst 0, 1) := eX11_isEdge_42q.2.2.2.2.2.2.1
theorem dX11_isEdge_56 : decode cX11_isEdge 56 = .ok (.istore 5, 2) := eX11_isEdge_42q.2.2.2.2.2.2.2
theorem eX11_isEdge_58q : (decode cX11_isEdge 58 = .ok (.iinc 6 1, 3)) ∧ (decode cX11_isEdge 61 = .ok (.goto (-55), 3)) ∧ (decode cX11_isEdge 64 = .ok (.iload 5, 2)) ∧ (decode cX11_isEdge 66 = .ok (.ireturn, 1)) := by decide +kernel
theorem dX11_isEdge_58 : decode cX11_isEdge 58 = .ok (.iinc 6 1, 3) := eX11_isEdge_58q.1
theorem dX11_isEdge_61 : decode cX11_isEdge 61 = .ok (.goto (-55), 3) := eX11_isEdge_58q.2.1
theorem dX11_isEdge_64 : decode cX11_isEdge 64 = .ok (.iload 5, 2) := eX11_isEdge_58q.2.2.1
theorem dX11_isEdge_66 : decode cX11_isEdge 66 = .ok (.ireturn, 1) := eX11_isEdge_58q.2.2.2
set_option maxRecDepth 20000 in
theorem ggX11_edgesFrom_X11_links : GoodIn wsX11_edgesFrom wsX11_links := by
  have h := goodIn_app (goodIn_r (big := wsX11_edgesFrom) (.code yX11_links cX11_links 1 (some .int) :: ([.fieldLink RX11 34 "PathProberModel" "told" "[I"]) : List Cond) [5, 6] rfl (by decide +kernel)) (goodIn_few (big := wsX11_edgesFrom) (fun _ h9 => List.mem_cons_of_mem _ (List.mem_append_right _ h9)) gb_0)
  exact h
set_option maxRecDepth 20000 in
theorem gX11_edgesFrom_X11_links : GoodIn wsX11_edgesFrom (wsV RX11 266 RX11 yX11_links wsX11_links) := goodIn_app (goodIn_r _ [1, 2, 3, 4] rfl (by decide +kernel)) ggX11_edgesFrom_X11_links
set_option maxRecDepth 20000 in
theorem ggX11_edgesFrom_X11_isEdge : GoodIn wsX11_edgesFrom wsX11_isEdge := by
  have h := goodIn_app (goodIn_r (big := wsX11_edgesFrom) (.code yX11_isEdge cX11_isEdge 7 (some .boolean) :: ([.methodLink RX11 301 yX11_seenBy, .instanceMethod yX11_seenBy, .selects RX11 yX11_seenBy yX11_seenBy, .initialized RX11, .code yX11_seenBy cX11_seenBy 4 (some .int), .fieldLink RX11 60 "PathProberModel" "now" "[I", .methodLink RX11 298 yX11_seenAt, .static yX11_seenAt, .code yX11_seenAt cX11_seenAt 3 (some .int)]) : List Cond) [10, 11, 12, 13, 4, 14, 15, 16, 17, 18] rfl (by decide +kernel)) (goodIn_few (big := wsX11_edgesFrom) (fun _ h9 => List.mem_cons_of_mem _ (List.mem_append_right _ h9)) gb_0)
  exact h
set_option maxRecDepth 20000 in
theorem gX11_edgesFrom_X11_isEdge : GoodIn wsX11_edgesFrom (wsV RX11 310 RX11 yX11_isEdge wsX11_isEdge) := goodIn_app (goodIn_r _ [7, 8, 9, 4] rfl (by decide +kernel)) ggX11_edgesFrom_X11_isEdge
theorem eX11_edgesFrom_0q : (decode cX11_edgesFrom 0 = .ok (.iconst 0, 1)) ∧ (decode cX11_edgesFrom 1 = .ok (.istore 4, 2)) ∧ (decode cX11_edgesFrom 3 = .ok (.iconst 0, 1)) ∧ (decode cX11_edgesFrom 4 = .ok (.istore 5, 2)) ∧ (decode cX11_edgesFrom 6 = .ok (.iload 5, 2)) ∧ (decode cX11_edgesFrom 8 = .ok (.aload_n 0, 1)) ∧ (decode cX11_edgesFrom 9 = .ok (.invokevirtual 266, 3)) ∧ (decode cX11_edgesFrom 12 = .ok (.if_icmp .gt 31, 3)) := by decide +kernel
theorem dX11_edgesFrom_0 : decode cX11_edgesFrom 0 = .ok (.iconst 0, 1) := eX11_edgesFrom_0q.1
theorem dX11_edgesFrom_1 : decode cX11_edgesFrom 1 = .ok (.istore 4, 2) := eX11_edgesFrom_0q.2.1
theorem dX11_edgesFrom_3 : decode cX11_edgesFrom 3 = .ok (.iconst 0, 1) := eX11_edgesFrom_0q.2.2.1
theorem dX11_edgesFrom_4 : decode cX11_edgesFrom 4 = .ok (.istore 5, 2) := eX11_edgesFrom_0q.2.2.2.1
theorem dX11_edgesFrom_6 : decode cX11_edgesFrom 6 = .ok (.iload 5, 2) := eX11_edgesFrom_0q.2.2.2.2.1
theorem dX11_edgesFrom_8 : decode cX11_edgesFrom 8 = .ok (.aload_n 0, 1) := eX11_edgesFrom_0q.2.2.2.2.2.1
theorem dX11_edgesFrom_9 : decode cX11_edgesFrom 9 = .ok (.invokevirtual 266, 3) := eX11_edgesFrom_0q.2.2.2.2.2.2.1
theorem dX11_edgesFrom_12 : decode cX11_edgesFrom 12 = .ok (.if_icmp .gt 31, 3) := eX11_edgesFrom_0q.2.2.2.2.2.2.2
theorem eX11_edgesFrom_15q : (decode cX11_edgesFrom 15 = .ok (.iload 4, 2)) ∧ (decode cX11_edgesFrom 17 = .ok (.aload_n 0, 1)) ∧ (decode cX11_edgesFrom 18 = .ok (.iload_n 1, 1)) ∧ (decode cX11_edgesFrom 19 = .ok (.iload_n 2, 1)) ∧ (decode cX11_edgesFrom 20 = .ok (.iload_n 3, 1)) ∧ (decode cX11_edgesFrom 21 = .ok (.iload 5, 2)) ∧ (decode cX11_edgesFrom 23 = .ok (.invokevirtual 310, 3)) ∧ (decode cX11_edgesFrom 26 = .ok (.ifCond .eq 7, 3)) := by decide +kernel
theorem dX11_edgesFrom_15 : decode cX11_edgesFrom 15 = .ok (.iload 4, 2) := eX11_edgesFrom_15q.1
theorem dX11_edgesFrom_17 : decode cX11_edgesFrom 17 = .ok (.aload_n 0, 1) := eX11_edgesFrom_15q.2.1
theorem dX11_edgesFrom_18 : decode cX11_edgesFrom 18 = .ok (.iload_n 1, 1) := eX11_edgesFrom_15q.2.2.1
theorem dX11_edgesFrom_19 : decode cX11_edgesFrom 19 = .ok (.iload_n 2, 1) := eX11_edgesFrom_15q.2.2.2.1
theorem dX11_edgesFrom_20 : decode cX11_edgesFrom 20 = .ok (.iload_n 3, 1) := eX11_edgesFrom_15q.2.2.2.2.1
theorem dX11_edgesFrom_21 : decode cX11_edgesFrom 21 = .ok (.iload 5, 2) := eX11_edgesFrom_15q.2.2.2.2.2.1
theorem dX11_edgesFrom_23 : decode cX11_edgesFrom 23 = .ok (.invokevirtual 310, 3) := eX11_edgesFrom_15q.2.2.2.2.2.2.1
theorem dX11_edgesFrom_26 : decode cX11_edgesFrom 26 = .ok (.ifCond .eq 7, 3) := eX11_edgesFrom_15q.2.2.2.2.2.2.2
theorem eX11_edgesFrom_29q : (decode cX11_edgesFrom 29 = .ok (.iconst 1, 1)) ∧ (decode cX11_edgesFrom 30 = .ok (.goto 4, 3)) ∧ (decode cX11_edgesFrom 33 = .ok (.iconst 0, 1)) ∧ (decode cX11_edgesFrom 34 = .ok (.iadd, 1)) ∧ (decode cX11_edgesFrom 35 = .ok (.istore 4, 2)) ∧ (decode cX11_edgesFrom 37 = .ok (.iinc 5 1, 3)) ∧ (decode cX11_edgesFrom 40 = .ok (.goto (-34), 3)) ∧ (decode cX11_edgesFrom 43 = .ok (.iload 4, 2)) := by decide +kernel
theorem dX11_edgesFrom_29 : decode cX11_edgesFrom 29 = .ok (.iconst 1, 1) := eX11_edgesFrom_29q.1
theorem dX11_edgesFrom_30 : decode cX11_edgesFrom 30 = .ok (.goto 4, 3) := eX11_edgesFrom_29q.2.1
theorem dX11_edgesFrom_33 : decode cX11_edgesFrom 33 = .ok (.iconst 0, 1) := eX11_edgesFrom_29q.2.2.1
theorem dX11_edgesFrom_34 : decode cX11_edgesFrom 34 = .ok (.iadd, 1) := eX11_edgesFrom_29q.2.2.2.1
theorem dX11_edgesFrom_35 : decode cX11_edgesFrom 35 = .ok (.istore 4, 2) := eX11_edgesFrom_29q.2.2.2.2.1
theorem dX11_edgesFrom_37 : decode cX11_edgesFrom 37 = .ok (.iinc 5 1, 3) := eX11_edgesFrom_29q.2.2.2.2.2.1
theorem dX11_edgesFrom_40 : decode cX11_edgesFrom 40 = .ok (.goto (-34), 3) := eX11_edgesFrom_29q.2.2.2.2.2.2.1
theorem dX11_edgesFrom_43 : decode cX11_edgesFrom 43 = .ok (.iload 4, 2) := eX11_edgesFrom_29q.2.2.2.2.2.2.2
theorem dX11_edgesFrom_45 : decode cX11_edgesFrom 45 = .ok (.ireturn, 1) := by decide +kernel
set_option maxRecDepth 20000 in
theorem ggX11_edgesAt_X11_links : GoodIn wsX11_edgesAt wsX11_links := by
  have h := goodIn_app (goodIn_r (big := wsX11_edgesAt) (.code yX11_links cX11_links 1 (some .int) :: ([.fieldLink RX11 34 "PathProberModel" "told" "[I"]) : List Cond) [5, 6] rfl (by decide +kernel)) (goodIn_few (big := wsX11_edgesAt) (fun _ h9 => List.mem_cons_of_mem _ (List.mem_append_right _ h9)) gb_0)
  exact h
set_option maxRecDepth 20000 in
theorem gX11_edgesAt_X11_links : GoodIn wsX11_edgesAt (wsV RX11 266 RX11 yX11_links wsX11_links) := goodIn_app (goodIn_r _ [1, 2, 3, 4] rfl (by decide +kernel)) ggX11_edgesAt_X11_links
set_option maxRecDepth 20000 in
theorem ggX11_edgesAt_X11_edgesFrom : GoodIn wsX11_edgesAt wsX11_edgesFrom := by
  have h := goodIn_app (goodIn_r (big := wsX11_edgesAt) (.code yX11_edgesFrom cX11_edgesFrom 6 (some .int) :: ([.methodLink RX11 266 yX11_links, .instanceMethod yX11_links, .selects RX11 yX11_links yX11_links, .initialized RX11, .code yX11_links cX11_links 1 (some .int), .fieldLink RX11 34 "PathProberModel" "told" "[I", .methodLink RX11 310 yX11_isEdge, .instanceMethod yX11_isEdge, .selects RX11 yX11_isEdge yX11_isEdge, .code yX11_isEdge cX11_isEdge 7 (some .boolean), .methodLink RX11 301 yX11_seenBy, .instanceMethod yX11_seenBy, .selects RX11 yX11_seenBy yX11_seenBy, .code yX11_seenBy cX11_seenBy 4 (some .int), .fieldLink RX11 60 "PathProberModel" "now" "[I", .methodLink RX11 298 yX11_seenAt, .static yX11_seenAt, .code yX11_seenAt cX11_seenAt 3 (some .int)]) : List Cond) [10, 1, 2, 3, 4, 5, 6, 11, 12, 13, 14, 15, 16, 17, 18, 19, 20, 21, 22] rfl (by decide +kernel)) (goodIn_few (big := wsX11_edgesAt) (fun _ h9 => List.mem_cons_of_mem _ (List.mem_append_right _ h9)) gb_0)
  exact h
set_option maxRecDepth 20000 in
theorem gX11_edgesAt_X11_edgesFrom : GoodIn wsX11_edgesAt (wsV RX11 314 RX11 yX11_edgesFrom wsX11_edgesFrom) := goodIn_app (goodIn_r _ [7, 8, 9, 4] rfl (by decide +kernel)) ggX11_edgesAt_X11_edgesFrom
theorem eX11_edgesAt_0q : (decode cX11_edgesAt 0 = .ok (.iconst 0, 1)) ∧ (decode cX11_edgesAt 1 = .ok (.istore_n 3, 1)) ∧ (decode cX11_edgesAt 2 = .ok (.iconst 0, 1)) ∧ (decode cX11_edgesAt 3 = .ok (.istore 4, 2)) ∧ (decode cX11_edgesAt 5 = .ok (.iload 4, 2)) ∧ (decode cX11_edgesAt 7 = .ok (.aload_n 0, 1)) ∧ (decode cX11_edgesAt 8 = .ok (.invokevirtual 266, 3)) ∧ (decode cX11_edgesAt 11 = .ok (.if_icmp .gt 26, 3)) := by decide +kernel
theorem dX11_edgesAt_0 : decode cX11_edgesAt 0 = .ok (.iconst 0, 1) := eX11_edgesAt_0q.1
theorem dX11_edgesAt_1 : decode cX11_edgesAt 1 = .ok (.istore_n 3, 1) := eX11_edgesAt_0q.2.1
theorem dX11_edgesAt_2 : decode cX11_edgesAt 2 = .ok (.iconst 0, 1) := eX11_edgesAt_0q.2.2.1
theorem dX11_edgesAt_3 : decode cX11_edgesAt 3 = .ok (.istore 4, 2) := eX11_edgesAt_0q.2.2.2.1
theorem dX11_edgesAt_5 : decode cX11_edgesAt 5 = .ok (.iload 4, 2) := eX11_edgesAt_0q.2.2.2.2.1
theorem dX11_edgesAt_7 : decode cX11_edgesAt 7 = .ok (.aload_n 0, 1) := eX11_edgesAt_0q.2.2.2.2.2.1
theorem dX11_edgesAt_8 : decode cX11_edgesAt 8 = .ok (.invokevirtual 266, 3) := eX11_edgesAt_0q.2.2.2.2.2.2.1
theorem dX11_edgesAt_11 : decode cX11_edgesAt 11 = .ok (.if_icmp .gt 26, 3) := eX11_edgesAt_0q.2.2.2.2.2.2.2
theorem eX11_edgesAt_14q : (decode cX11_edgesAt 14 = .ok (.iload_n 2, 1)) ∧ (decode cX11_edgesAt 15 = .ok (.bipush 10, 2)) ∧ (decode cX11_edgesAt 17 = .ok (.if_icmp .ge 20, 3)) ∧ (decode cX11_edgesAt 20 = .ok (.iload_n 3, 1)) ∧ (decode cX11_edgesAt 21 = .ok (.aload_n 0, 1)) ∧ (decode cX11_edgesAt 22 = .ok (.iload_n 1, 1)) ∧ (decode cX11_edgesAt 23 = .ok (.iload_n 2, 1)) ∧ (decode cX11_edgesAt 24 = .ok (.iload 4, 2)) := by decide +kernel
theorem dX11_edgesAt_14 : decode cX11_edgesAt 14 = .ok (.iload_n 2, 1) := eX11_edgesAt_14q.1
theorem dX11_edgesAt_15 : decode cX11_edgesAt 15 = .ok (.bipush 10, 2) := eX11_edgesAt_14q.2.1
theorem dX11_edgesAt_17 : decode cX11_edgesAt 17 = .ok (.if_icmp .ge 20, 3) := eX11_edgesAt_14q.2.2.1
theorem dX11_edgesAt_20 : decode cX11_edgesAt 20 = .ok (.iload_n 3, 1) := eX11_edgesAt_14q.2.2.2.1
theorem dX11_edgesAt_21 : decode cX11_edgesAt 21 = .ok (.aload_n 0, 1) := eX11_edgesAt_14q.2.2.2.2.1
theorem dX11_edgesAt_22 : decode cX11_edgesAt 22 = .ok (.iload_n 1, 1) := eX11_edgesAt_14q.2.2.2.2.2.1
theorem dX11_edgesAt_23 : decode cX11_edgesAt 23 = .ok (.iload_n 2, 1) := eX11_edgesAt_14q.2.2.2.2.2.2.1
theorem dX11_edgesAt_24 : decode cX11_edgesAt 24 = .ok (.iload 4, 2) := eX11_edgesAt_14q.2.2.2.2.2.2.2
theorem eX11_edgesAt_26q : (decode cX11_edgesAt 26 = .ok (.invokevirtual 314, 3)) ∧ (decode cX11_edgesAt 29 = .ok (.iadd, 1)) ∧ (decode cX11_edgesAt 30 = .ok (.istore_n 3, 1)) ∧ (decode cX11_edgesAt 31 = .ok (.iinc 4 1, 3)) ∧ (decode cX11_edgesAt 34 = .ok (.goto (-29), 3)) ∧ (decode cX11_edgesAt 37 = .ok (.iload_n 3, 1)) ∧ (decode cX11_edgesAt 38 = .ok (.ireturn, 1)) := by decide +kernel
theorem dX11_edgesAt_26 : decode cX11_edgesAt 26 = .ok (.invokevirtual 314, 3) := eX11_edgesAt_26q.1
theorem dX11_edgesAt_29 : decode cX11_edgesAt 29 = .ok (.iadd, 1) := eX11_edgesAt_26q.2.1
theorem dX11_edgesAt_30 : decode cX11_edgesAt 30 = .ok (.istore_n 3, 1) := eX11_edgesAt_26q.2.2.1
theorem dX11_edgesAt_31 : decode cX11_edgesAt 31 = .ok (.iinc 4 1, 3) := eX11_edgesAt_26q.2.2.2.1
theorem dX11_edgesAt_34 : decode cX11_edgesAt 34 = .ok (.goto (-29), 3) := eX11_edgesAt_26q.2.2.2.2.1
theorem dX11_edgesAt_37 : decode cX11_edgesAt 37 = .ok (.iload_n 3, 1) := eX11_edgesAt_26q.2.2.2.2.2.1
theorem dX11_edgesAt_38 : decode cX11_edgesAt 38 = .ok (.ireturn, 1) := eX11_edgesAt_26q.2.2.2.2.2.2
set_option maxRecDepth 20000 in
theorem ggX11_edgesAll_X11_goals : GoodIn wsX11_edgesAll wsX11_goals := by
  have h := goodIn_app (goodIn_r (big := wsX11_edgesAll) (.code yX11_goals cX11_goals 1 (some .int) :: ([.fieldLink RX11 34 "PathProberModel" "told" "[I"]) : List Cond) [5, 6] rfl (by decide +kernel)) (goodIn_few (big := wsX11_edgesAll) (fun _ h9 => List.mem_cons_of_mem _ (List.mem_append_right _ h9)) gb_0)
  exact h
set_option maxRecDepth 20000 in
theorem gX11_edgesAll_X11_goals : GoodIn wsX11_edgesAll (wsV RX11 304 RX11 yX11_goals wsX11_goals) := goodIn_app (goodIn_r _ [1, 2, 3, 4] rfl (by decide +kernel)) ggX11_edgesAll_X11_goals
set_option maxRecDepth 20000 in
theorem ggX11_edgesAll_X11_edgesAt : GoodIn wsX11_edgesAll wsX11_edgesAt := by
  have h := goodIn_app (goodIn_r (big := wsX11_edgesAll) (.code yX11_edgesAt cX11_edgesAt 5 (some .int) :: ([.methodLink RX11 266 yX11_links, .instanceMethod yX11_links, .selects RX11 yX11_links yX11_links, .initialized RX11, .code yX11_links cX11_links 1 (some .int), .fieldLink RX11 34 "PathProberModel" "told" "[I", .methodLink RX11 314 yX11_edgesFrom, .instanceMethod yX11_edgesFrom, .selects RX11 yX11_edgesFrom yX11_edgesFrom, .code yX11_edgesFrom cX11_edgesFrom 6 (some .int), .methodLink RX11 310 yX11_isEdge, .instanceMethod yX11_isEdge, .selects RX11 yX11_isEdge yX11_isEdge, .code yX11_isEdge cX11_isEdge 7 (some .boolean), .methodLink RX11 301 yX11_seenBy, .instanceMethod yX11_seenBy, .selects RX11 yX11_seenBy yX11_seenBy, .code yX11_seenBy cX11_seenBy 4 (some .int), .fieldLink RX11 60 "PathProberModel" "now" "[I", .methodLink RX11 298 yX11_seenAt, .static yX11_seenAt, .code yX11_seenAt cX11_seenAt 3 (some .int)]) : List Cond) [10, 11, 12, 13, 4, 14, 6, 15, 16, 17, 18, 19, 20, 21, 22, 23, 24, 25, 26, 27, 28, 29, 30] rfl (by decide +kernel)) (goodIn_few (big := wsX11_edgesAll) (fun _ h9 => List.mem_cons_of_mem _ (List.mem_append_right _ h9)) gb_0)
  exact h
set_option maxRecDepth 20000 in
theorem gX11_edgesAll_X11_edgesAt : GoodIn wsX11_edgesAll (wsV RX11 317 RX11 yX11_edgesAt wsX11_edgesAt) := goodIn_app (goodIn_r _ [7, 8, 9, 4] rfl (by decide +kernel)) ggX11_edgesAll_X11_edgesAt
theorem eX11_edgesAll_0q : (decode cX11_edgesAll 0 = .ok (.iconst 0, 1)) ∧ (decode cX11_edgesAll 1 = .ok (.istore_n 1, 1)) ∧ (decode cX11_edgesAll 2 = .ok (.iconst 0, 1)) ∧ (decode cX11_edgesAll 3 = .ok (.istore_n 2, 1)) ∧ (decode cX11_edgesAll 4 = .ok (.iload_n 2, 1)) ∧ (decode cX11_edgesAll 5 = .ok (.aload_n 0, 1)) ∧ (decode cX11_edgesAll 6 = .ok (.invokevirtual 304, 3)) ∧ (decode cX11_edgesAll 9 = .ok (.if_icmp .ge 32, 3)) := by decide +kernel
theorem dX11_edgesAll_0 : decode cX11_edgesAll 0 = .ok (.iconst 0, 1) := eX11_edgesAll_0q.1
theorem dX11_edgesAll_1 : decode cX11_edgesAll 1 = .ok (.istore_n 1, 1) := eX11_edgesAll_0q.2.1
theorem dX11_edgesAll_2 : decode cX11_edgesAll 2 = .ok (.iconst 0, 1) := eX11_edgesAll_0q.2.2.1
theorem dX11_edgesAll_3 : decode cX11_edgesAll 3 = .ok (.istore_n 2, 1) := eX11_edgesAll_0q.2.2.2.1
theorem dX11_edgesAll_4 : decode cX11_edgesAll 4 = .ok (.iload_n 2, 1) := eX11_edgesAll_0q.2.2.2.2.1
theorem dX11_edgesAll_5 : decode cX11_edgesAll 5 = .ok (.aload_n 0, 1) := eX11_edgesAll_0q.2.2.2.2.2.1
theorem dX11_edgesAll_6 : decode cX11_edgesAll 6 = .ok (.invokevirtual 304, 3) := eX11_edgesAll_0q.2.2.2.2.2.2.1
theorem dX11_edgesAll_9 : decode cX11_edgesAll 9 = .ok (.if_icmp .ge 32, 3) := eX11_edgesAll_0q.2.2.2.2.2.2.2
theorem eX11_edgesAll_12q : (decode cX11_edgesAll 12 = .ok (.iconst 1, 1)) ∧ (decode cX11_edgesAll 13 = .ok (.istore_n 3, 1)) ∧ (decode cX11_edgesAll 14 = .ok (.iload_n 3, 1)) ∧ (decode cX11_edgesAll 15 = .ok (.bipush 10, 2)) ∧ (decode cX11_edgesAll 17 = .ok (.if_icmp .ge 18, 3)) ∧ (decode cX11_edgesAll 20 = .ok (.iload_n 1, 1)) ∧ (decode cX11_edgesAll 21 = .ok (.aload_n 0, 1)) ∧ (decode cX11_edgesAll 22 = .ok (.iload_n 2, 1)) := by decide +kernel
theorem dX11_edgesAll_12 : decode cX11_edgesAll 12 = .ok (.iconst 1, 1) := eX11_edgesAll_12q.1
theorem dX11_edgesAll_13 : decode cX11_edgesAll 13 = .ok (.istore_n 3, 1) := eX11_edgesAll_12q.2.1
theorem dX11_edgesAll_14 : decode cX11_edgesAll 14 = .ok (.iload_n 3, 1) := eX11_edgesAll_12q.2.2.1
theorem dX11_edgesAll_15 : decode cX11_edgesAll 15 = .ok (.bipush 10, 2) := eX11_edgesAll_12q.2.2.2.1
theorem dX11_edgesAll_17 : decode cX11_edgesAll 17 = .ok (.if_icmp .ge 18, 3) := eX11_edgesAll_12q.2.2.2.2.1
theorem dX11_edgesAll_20 : decode cX11_edgesAll 20 = .ok (.iload_n 1, 1) := eX11_edgesAll_12q.2.2.2.2.2.1
theorem dX11_edgesAll_21 : decode cX11_edgesAll 21 = .ok (.aload_n 0, 1) := eX11_edgesAll_12q.2.2.2.2.2.2.1
theorem dX11_edgesAll_22 : decode cX11_edgesAll 22 = .ok (.iload_n 2, 1) := eX11_edgesAll_12q.2.2.2.2.2.2.2
theorem eX11_edgesAll_23q : (decode cX11_edgesAll 23 = .ok (.iload_n 3, 1)) ∧ (decode cX11_edgesAll 24 = .ok (.invokevirtual 317, 3)) ∧ (decode cX11_edgesAll 27 = .ok (.iadd, 1)) ∧ (decode cX11_edgesAll 28 = .ok (.istore_n 1, 1)) ∧ (decode cX11_edgesAll 29 = .ok (.iinc 3 1, 3)) ∧ (decode cX11_edgesAll 32 = .ok (.goto (-18), 3)) ∧ (decode cX11_edgesAll 35 = .ok (.iinc 2 1, 3)) ∧ (decode cX11_edgesAll 38 = .ok (.goto (-34), 3)) := by decide +kernel
theorem dX11_edgesAll_23 : decode cX11_edgesAll 23 = .ok (.iload_n 3, 1) := eX11_edgesAll_23q.1
theorem dX11_edgesAll_24 : decode cX11_edgesAll 24 = .ok (.invokevirtual 317, 3) := eX11_edgesAll_23q.2.1
theorem dX11_edgesAll_27 : decode cX11_edgesAll 27 = .ok (.iadd, 1) := eX11_edgesAll_23q.2.2.1
theorem dX11_edgesAll_28 : decode cX11_edgesAll 28 = .ok (.istore_n 1, 1) := eX11_edgesAll_23q.2.2.2.1
theorem dX11_edgesAll_29 : decode cX11_edgesAll 29 = .ok (.iinc 3 1, 3) := eX11_edgesAll_23q.2.2.2.2.1
theorem dX11_edgesAll_32 : decode cX11_edgesAll 32 = .ok (.goto (-18), 3) := eX11_edgesAll_23q.2.2.2.2.2.1
theorem dX11_edgesAll_35 : decode cX11_edgesAll 35 = .ok (.iinc 2 1, 3) := eX11_edgesAll_23q.2.2.2.2.2.2.1
theorem dX11_edgesAll_38 : decode cX11_edgesAll 38 = .ok (.goto (-34), 3) := eX11_edgesAll_23q.2.2.2.2.2.2.2
theorem dX11_edgesAll_41 : decode cX11_edgesAll 41 = .ok (.iload_n 1, 1) := by decide +kernel
theorem dX11_edgesAll_42 : decode cX11_edgesAll 42 = .ok (.ireturn, 1) := by decide +kernel
theorem eX11_opens_0q : (decode cX11_opens 0 = .ok (.aload_n 0, 1)) ∧ (decode cX11_opens 1 = .ok (.getfield 60, 3)) ∧ (decode cX11_opens 4 = .ok (.bipush 55, 2)) ∧ (decode cX11_opens 6 = .ok (.dup2, 1)) ∧ (decode cX11_opens 7 = .ok (.iaload, 1)) ∧ (decode cX11_opens 8 = .ok (.iconst 1, 1)) ∧ (decode cX11_opens 9 = .ok (.iadd, 1)) ∧ (decode cX11_opens 10 = .ok (.iastore, 1)) := by decide +kernel
theorem dX11_opens_0 : decode cX11_opens 0 = .ok (.aload_n 0, 1) := eX11_opens_0q.1
theorem dX11_opens_1 : decode cX11_opens 1 = .ok (.getfield 60, 3) := eX11_opens_0q.2.1
theorem dX11_opens_4 : decode cX11_opens 4 = .ok (.bipush 55, 2) := eX11_opens_0q.2.2.1
theorem dX11_opens_6 : decode cX11_opens 6 = .ok (.dup2, 1) := eX11_opens_0q.2.2.2.1
theorem dX11_opens_7 : decode cX11_opens 7 = .ok (.iaload, 1) := eX11_opens_0q.2.2.2.2.1
theorem dX11_opens_8 : decode cX11_opens 8 = .ok (.iconst 1, 1) := eX11_opens_0q.2.2.2.2.2.1
theorem dX11_opens_9 : decode cX11_opens 9 = .ok (.iadd, 1) := eX11_opens_0q.2.2.2.2.2.2.1
theorem dX11_opens_10 : decode cX11_opens 10 = .ok (.iastore, 1) := eX11_opens_0q.2.2.2.2.2.2.2
theorem eX11_opens_11q : (decode cX11_opens 11 = .ok (.aload_n 0, 1)) ∧ (decode cX11_opens 12 = .ok (.getfield 60, 3)) ∧ (decode cX11_opens 15 = .ok (.bipush 56, 2)) ∧ (decode cX11_opens 17 = .ok (.aload_n 0, 1)) ∧ (decode cX11_opens 18 = .ok (.getfield 60, 3)) ∧ (decode cX11_opens 21 = .ok (.bipush 56, 2)) ∧ (decode cX11_opens 23 = .ok (.iaload, 1)) ∧ (decode cX11_opens 24 = .ok (.iload_n 1, 1)) := by decide +kernel
theorem dX11_opens_11 : decode cX11_opens 11 = .ok (.aload_n 0, 1) := eX11_opens_11q.1
theorem dX11_opens_12 : decode cX11_opens 12 = .ok (.getfield 60, 3) := eX11_opens_11q.2.1
theorem dX11_opens_15 : decode cX11_opens 15 = .ok (.bipush 56, 2) := eX11_opens_11q.2.2.1
theorem dX11_opens_17 : decode cX11_opens 17 = .ok (.aload_n 0, 1) := eX11_opens_11q.2.2.2.1
theorem dX11_opens_18 : decode cX11_opens 18 = .ok (.getfield 60, 3) := eX11_opens_11q.2.2.2.2.1
theorem dX11_opens_21 : decode cX11_opens 21 = .ok (.bipush 56, 2) := eX11_opens_11q.2.2.2.2.2.1
theorem dX11_opens_23 : decode cX11_opens 23 = .ok (.iaload, 1) := eX11_opens_11q.2.2.2.2.2.2.1
theorem dX11_opens_24 : decode cX11_opens 24 = .ok (.iload_n 1, 1) := eX11_opens_11q.2.2.2.2.2.2.2
theorem eX11_opens_25q : (decode cX11_opens 25 = .ok (.invokestatic 328, 3)) ∧ (decode cX11_opens 28 = .ok (.iastore, 1)) ∧ (decode cX11_opens 29 = .ok (.return_, 1)) := by decide +kernel
theorem dX11_opens_25 : decode cX11_opens 25 = .ok (.invokestatic 328, 3) := eX11_opens_25q.1
theorem dX11_opens_28 : decode cX11_opens 28 = .ok (.iastore, 1) := eX11_opens_25q.2.1
theorem dX11_opens_29 : decode cX11_opens 29 = .ok (.return_, 1) := eX11_opens_25q.2.2
theorem eX11_answered_0q : (decode cX11_answered 0 = .ok (.aload_n 0, 1)) ∧ (decode cX11_answered 1 = .ok (.getfield 60, 3)) ∧ (decode cX11_answered 4 = .ok (.bipush 12, 2)) ∧ (decode cX11_answered 6 = .ok (.iload_n 1, 1)) ∧ (decode cX11_answered 7 = .ok (.iadd, 1)) ∧ (decode cX11_answered 8 = .ok (.aload_n 0, 1)) ∧ (decode cX11_answered 9 = .ok (.getfield 60, 3)) ∧ (decode cX11_answered 12 = .ok (.bipush 12, 2)) := by decide +kernel
theorem dX11_answered_0 : decode cX11_answered 0 = .ok (.aload_n 0, 1) := eX11_answered_0q.1
theorem dX11_answered_1 : decode cX11_answered 1 = .ok (.getfield 60, 3) := eX11_answered_0q.2.1
theorem dX11_answered_4 : decode cX11_answered 4 = .ok (.bipush 12, 2) := eX11_answered_0q.2.2.1
theorem dX11_answered_6 : decode cX11_answered 6 = .ok (.iload_n 1, 1) := eX11_answered_0q.2.2.2.1
theorem dX11_answered_7 : decode cX11_answered 7 = .ok (.iadd, 1) := eX11_answered_0q.2.2.2.2.1
theorem dX11_answered_8 : decode cX11_answered 8 = .ok (.aload_n 0, 1) := eX11_answered_0q.2.2.2.2.2.1
theorem dX11_answered_9 : decode cX11_answered 9 = .ok (.getfield 60, 3) := eX11_answered_0q.2.2.2.2.2.2.1
theorem dX11_answered_12 : decode cX11_answered 12 = .ok (.bipush 12, 2) := eX11_answered_0q.2.2.2.2.2.2.2
theorem eX11_answered_14q : (decode cX11_answered 14 = .ok (.iload_n 1, 1)) ∧ (decode cX11_answered 15 = .ok (.iadd, 1)) ∧ (decode cX11_answered 16 = .ok (.iaload, 1)) ∧ (decode cX11_answered 17 = .ok (.aload_n 0, 1)) ∧ (decode cX11_answered 18 = .ok (.getfield 44, 3)) ∧ (decode cX11_answered 21 = .ok (.iload_n 1, 1)) ∧ (decode cX11_answered 22 = .ok (.iaload, 1)) ∧ (decode cX11_answered 23 = .ok (.iadd, 1)) := by decide +kernel
theorem dX11_answered_14 : decode cX11_answered 14 = .ok (.iload_n 1, 1) := eX11_answered_14q.1
theorem dX11_answered_15 : decode cX11_answered 15 = .ok (.iadd, 1) := eX11_answered_14q.2.1
theorem dX11_answered_16 : decode cX11_answered 16 = .ok (.iaload, 1) := eX11_answered_14q.2.2.1
theorem dX11_answered_17 : decode cX11_answered 17 = .ok (.aload_n 0, 1) := eX11_answered_14q.2.2.2.1
theorem dX11_answered_18 : decode cX11_answered 18 = .ok (.getfield 44, 3) := eX11_answered_14q.2.2.2.2.1
theorem dX11_answered_21 : decode cX11_answered 21 = .ok (.iload_n 1, 1) := eX11_answered_14q.2.2.2.2.2.1
theorem dX11_answered_22 : decode cX11_answered 22 = .ok (.iaload, 1) := eX11_answered_14q.2.2.2.2.2.2.1
theorem dX11_answered_23 : decode cX11_answered 23 = .ok (.iadd, 1) := eX11_answered_14q.2.2.2.2.2.2.2
theorem eX11_answered_24q : (decode cX11_answered 24 = .ok (.sipush 256, 3)) ∧ (decode cX11_answered 27 = .ok (.irem, 1)) ∧ (decode cX11_answered 28 = .ok (.iastore, 1)) ∧ (decode cX11_answered 29 = .ok (.aload_n 0, 1)) ∧ (decode cX11_answered 30 = .ok (.getfield 60, 3)) ∧ (decode cX11_answered 33 = .ok (.bipush 12, 2)) ∧ (decode cX11_answered 35 = .ok (.iload_n 1, 1)) ∧ (decode cX11_answered 36 = .ok (.iadd, 1)) := by decide +kernel
theorem dX11_answered_24 : decode cX11_answered 24 = .ok (.sipush 256, 3) := eX11_answered_24q.1
theorem dX11_answered_27 : decode cX11_answered 27 = .ok (.irem, 1) := eX11_answered_24q.2.1
theorem dX11_answered_28 : decode cX11_answered 28 = .ok (.iastore, 1) := eX11_answered_24q.2.2.1
theorem dX11_answered_29 : decode cX11_answered 29 = .ok (.aload_n 0, 1) := eX11_answered_24q.2.2.2.1
theorem dX11_answered_30 : decode cX11_answered 30 = .ok (.getfield 60, 3) := eX11_answered_24q.2.2.2.2.1
theorem dX11_answered_33 : decode cX11_answered 33 = .ok (.bipush 12, 2) := eX11_answered_24q.2.2.2.2.2.1
theorem dX11_answered_35 : decode cX11_answered 35 = .ok (.iload_n 1, 1) := eX11_answered_24q.2.2.2.2.2.2.1
theorem dX11_answered_36 : decode cX11_answered 36 = .ok (.iadd, 1) := eX11_answered_24q.2.2.2.2.2.2.2
theorem dX11_answered_37 : decode cX11_answered 37 = .ok (.iaload, 1) := by decide +kernel
theorem dX11_answered_38 : decode cX11_answered 38 = .ok (.ireturn, 1) := by decide +kernel
set_option maxRecDepth 20000 in
theorem ggX11_isGoal_X11_goals : GoodIn wsX11_isGoal wsX11_goals := by
  have h := goodIn_app (goodIn_r (big := wsX11_isGoal) (.code yX11_goals cX11_goals 1 (some .int) :: ([.fieldLink RX11 34 "PathProberModel" "told" "[I"]) : List Cond) [5, 6] rfl (by decide +kernel)) (goodIn_few (big := wsX11_isGoal) (fun _ h9 => List.mem_cons_of_mem _ (List.mem_append_right _ h9)) gb_0)
  exact h
set_option maxRecDepth 20000 in
theorem gX11_isGoal_X11_goals : GoodIn wsX11_isGoal (wsV RX11 304 RX11 yX11_goals wsX11_goals) := goodIn_app (goodIn_r _ [1, 2, 3, 4] rfl (by decide +kernel)) ggX11_isGoal_X11_goals
set_option maxRecDepth 20000 in
theorem ggX11_isGoal_X11_isIn : GoodIn wsX11_isGoal wsX11_isIn := goodIn_r _ [9] rfl (by decide +kernel)
set_option maxRecDepth 20000 in
theorem gX11_isGoal_X11_isIn : GoodIn wsX11_isGoal (va_wsS RX11 359 yX11_isIn wsX11_isIn) := goodIn_app (goodIn_r _ [7, 8, 4] rfl (by decide +kernel)) ggX11_isGoal_X11_isIn
theorem eX11_isGoal_0q : (decode cX11_isGoal 0 = .ok (.iload_n 1, 1)) ∧ (decode cX11_isGoal 1 = .ok (.iconst 0, 1)) ∧ (decode cX11_isGoal 2 = .ok (.aload_n 0, 1)) ∧ (decode cX11_isGoal 3 = .ok (.invokevirtual 304, 3)) ∧ (decode cX11_isGoal 6 = .ok (.iconst 1, 1)) ∧ (decode cX11_isGoal 7 = .ok (.isub, 1)) ∧ (decode cX11_isGoal 8 = .ok (.invokestatic 359, 3)) ∧ (decode cX11_isGoal 11 = .ok (.ireturn, 1)) := by decide +kernel
theorem dX11_isGoal_0 : decode cX11_isGoal 0 = .ok (.iload_n 1, 1) := eX11_isGoal_0q.1
theorem dX11_isGoal_1 : decode cX11_isGoal 1 = .ok (.iconst 0, 1) := eX11_isGoal_0q.2.1
theorem dX11_isGoal_2 : decode cX11_isGoal 2 = .ok (.aload_n 0, 1) := eX11_isGoal_0q.2.2.1
theorem dX11_isGoal_3 : decode cX11_isGoal 3 = .ok (.invokevirtual 304, 3) := eX11_isGoal_0q.2.2.2.1
theorem dX11_isGoal_6 : decode cX11_isGoal 6 = .ok (.iconst 1, 1) := eX11_isGoal_0q.2.2.2.2.1
theorem dX11_isGoal_7 : decode cX11_isGoal 7 = .ok (.isub, 1) := eX11_isGoal_0q.2.2.2.2.2.1
theorem dX11_isGoal_8 : decode cX11_isGoal 8 = .ok (.invokestatic 359, 3) := eX11_isGoal_0q.2.2.2.2.2.2.1
theorem dX11_isGoal_11 : decode cX11_isGoal 11 = .ok (.ireturn, 1) := eX11_isGoal_0q.2.2.2.2.2.2.2
set_option maxRecDepth 20000 in
theorem ggX11_isHop_X11_isIn : GoodIn wsX11_isHop wsX11_isIn := goodIn_r _ [4] rfl (by decide +kernel)
set_option maxRecDepth 20000 in
theorem gX11_isHop_X11_isIn : GoodIn wsX11_isHop (va_wsS RX11 359 yX11_isIn wsX11_isIn) := goodIn_app (goodIn_r _ [1, 2, 3] rfl (by decide +kernel)) ggX11_isHop_X11_isIn
theorem eX11_isHop_0q : (decode cX11_isHop 0 = .ok (.iload_n 0, 1)) ∧ (decode cX11_isHop 1 = .ok (.iconst 1, 1)) ∧ (decode cX11_isHop 2 = .ok (.bipush 10, 2)) ∧ (decode cX11_isHop 4 = .ok (.invokestatic 359, 3)) ∧ (decode cX11_isHop 7 = .ok (.ireturn, 1)) := by decide +kernel
theorem dX11_isHop_0 : decode cX11_isHop 0 = .ok (.iload_n 0, 1) := eX11_isHop_0q.1
theorem dX11_isHop_1 : decode cX11_isHop 1 = .ok (.iconst 1, 1) := eX11_isHop_0q.2.1
theorem dX11_isHop_2 : decode cX11_isHop 2 = .ok (.bipush 10, 2) := eX11_isHop_0q.2.2.1
theorem dX11_isHop_4 : decode cX11_isHop 4 = .ok (.invokestatic 359, 3) := eX11_isHop_0q.2.2.2.1
theorem dX11_isHop_7 : decode cX11_isHop 7 = .ok (.ireturn, 1) := eX11_isHop_0q.2.2.2.2
set_option maxRecDepth 20000 in
theorem ggX11_isPort_X11_isIn : GoodIn wsX11_isPort wsX11_isIn := goodIn_r _ [4] rfl (by decide +kernel)
set_option maxRecDepth 20000 in
theorem gX11_isPort_X11_isIn : GoodIn wsX11_isPort (va_wsS RX11 359 yX11_isIn wsX11_isIn) := goodIn_app (goodIn_r _ [1, 2, 3] rfl (by decide +kernel)) ggX11_isPort_X11_isIn
theorem eX11_isPort_0q : (decode cX11_isPort 0 = .ok (.iload_n 0, 1)) ∧ (decode cX11_isPort 1 = .ok (.iconst 0, 1)) ∧ (decode cX11_isPort 2 = .ok (.bipush 31, 2)) ∧ (decode cX11_isPort 4 = .ok (.invokestatic 359, 3)) ∧ (decode cX11_isPort 7 = .ok (.ireturn, 1)) := by decide +kernel
theorem dX11_isPort_0 : decode cX11_isPort 0 = .ok (.iload_n 0, 1) := eX11_isPort_0q.1
theorem dX11_isPort_1 : decode cX11_isPort 1 = .ok (.iconst 0, 1) := eX11_isPort_0q.2.1
theorem dX11_isPort_2 : decode cX11_isPort 2 = .ok (.bipush 31, 2) := eX11_isPort_0q.2.2.1
theorem dX11_isPort_4 : decode cX11_isPort 4 = .ok (.invokestatic 359, 3) := eX11_isPort_0q.2.2.2.1
theorem dX11_isPort_7 : decode cX11_isPort 7 = .ok (.ireturn, 1) := eX11_isPort_0q.2.2.2.2
