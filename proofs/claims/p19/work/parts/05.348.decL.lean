set_option maxRecDepth 20000 in
theorem ggL_net_X10_net : GoodIn wsL_net wsX10_net := goodIn_ca (goodIn_r _ [6, 7, 8, 9, 10, 11, 12, 13, 14, 15, 16, 17, 18, 19, 20, 21, 22, 23, 24, 25, 26, 27, 28, 29, 30, 31, 32, 33, 34, 35, 36, 37, 38, 39, 40, 41, 42, 43, 44, 45, 46, 47, 48, 49, 50, 51, 52, 53, 54, 55, 56, 57, 58, 59, 60, 61, 62, 63, 64, 65, 66, 67, 68, 69, 70, 71, 72, 73, 74, 75, 76, 77, 78, 79, 80, 81, 82, 83, 84, 85, 86, 87, 88, 89, 90, 91, 92, 93, 94, 95, 96, 97, 98, 99, 100, 101, 102, 103, 104, 105, 106, 107, 108, 109, 110, 111, 112, 113, 114, 115, 116, 117, 118, 119, 120, 121, 122, 123, 124, 125, 126, 127, 128, 129, 130, 131, 132, 133, 134, 135, 136, 137, 138, 139, 140, 141, 142, 143, 144, 145, 146, 147, 148, 149, 150, 151, 152, 153, 154, 155, 156, 157, 158, 159, 160, 161, 162, 163, 164, 165, 166, 167, 168, 169, 170, 171, 172, 173, 174, 175, 176, 177, 178, 179, 180, 181, 182, 183, 184, 185, 186, 187, 188, 189, 190, 191, 192, 193, 194, 195, 196, 197, 198, 199, 200, 201, 202, 203, 204, 205, 206, 207, 208, 209, 210, 211, 212, 213, 214, 215, 216, 217, 218, 219, 220, 221, 222, 223, 224, 225, 226, 227, 228, 229, 230, 231, 232, 233, 234, 235, 236, 237, 238, 239, 240, 241, 242, 243, 244, 245, 246, 247, 248, 249, 250, 251, 252, 253, 254, 255, 256, 257, 258, 259, 260, 261, 262, 263, 264, 265, 266, 267, 268, 269, 270, 271, 272, 273, 274, 275, 276, 277, 278, 279, 280, 281, 282, 283, 284, 285, 286, 287, 288, 289, 290, 291, 292, 293, 294, 295, 296, 297, 298, 299, 300, 301, 302, 303, 304, 305, 306, 307] rfl (by decide +kernel)) (goodIn_sub (fun _ h => List.mem_cons_of_mem _ (List.mem_append_right _ h)) (by decide +kernel))
set_option maxRecDepth 20000 in
theorem gL_net_X10_net : GoodIn wsL_net (wsV RL 7 RX10 yX10_net wsX10_net) := goodIn_app (goodIn_r _ [2, 3, 4, 5] rfl (by decide +kernel)) ggL_net_X10_net
theorem eL_net_0q : (decode cL_net 0 = .ok (.aload_n 2, 1)) ∧ (decode cL_net 1 = .ok (.iconst 0, 1)) ∧ (decode cL_net 2 = .ok (.aload_n 0, 1)) ∧ (decode cL_net 3 = .ok (.iload_n 1, 1)) ∧ (decode cL_net 4 = .ok (.invokevirtual 7, 3)) ∧ (decode cL_net 7 = .ok (.i2l, 1)) ∧ (decode cL_net 8 = .ok (.lastore, 1)) ∧ (decode cL_net 9 = .ok (.goto 6, 3)) := by decide +kernel
theorem dL_net_0 : decode cL_net 0 = .ok (.aload_n 2, 1) := eL_net_0q.1
theorem dL_net_1 : decode cL_net 1 = .ok (.iconst 0, 1) := eL_net_0q.2.1
theorem dL_net_2 : decode cL_net 2 = .ok (.aload_n 0, 1) := eL_net_0q.2.2.1
theorem dL_net_3 : decode cL_net 3 = .ok (.iload_n 1, 1) := eL_net_0q.2.2.2.1
theorem dL_net_4 : decode cL_net 4 = .ok (.invokevirtual 7, 3) := eL_net_0q.2.2.2.2.1
theorem dL_net_7 : decode cL_net 7 = .ok (.i2l, 1) := eL_net_0q.2.2.2.2.2.1
theorem dL_net_8 : decode cL_net 8 = .ok (.lastore, 1) := eL_net_0q.2.2.2.2.2.2.1
theorem dL_net_9 : decode cL_net 9 = .ok (.goto 6, 3) := eL_net_0q.2.2.2.2.2.2.2
theorem eL_net_12q : (decode cL_net 12 = .ok (.astore_n 3, 1)) ∧ (decode cL_net 13 = .ok (.iconst 1, 1)) ∧ (decode cL_net 14 = .ok (.ireturn, 1)) ∧ (decode cL_net 15 = .ok (.iconst 0, 1)) ∧ (decode cL_net 16 = .ok (.ireturn, 1)) := by decide +kernel
theorem dL_net_12 : decode cL_net 12 = .ok (.astore_n 3, 1) := eL_net_12q.1
theorem dL_net_13 : decode cL_net 13 = .ok (.iconst 1, 1) := eL_net_12q.2.1
theorem dL_net_14 : decode cL_net 14 = .ok (.ireturn, 1) := eL_net_12q.2.2.1
theorem dL_net_15 : decode cL_net 15 = .ok (.iconst 0, 1) := eL_net_12q.2.2.2.1
theorem dL_net_16 : decode cL_net 16 = .ok (.ireturn, 1) := eL_net_12q.2.2.2.2
set_option maxRecDepth 20000 in
theorem ggL_count_X10_count : GoodIn wsL_count wsX10_count := goodIn_ca (goodIn_r _ [6, 7, 8, 9, 10, 11, 12, 13, 14, 15, 16, 17, 18, 19, 20, 21, 22, 23, 24, 25, 26, 27, 28, 29, 30, 31, 32, 33, 34, 35, 36, 37, 38, 39, 40, 41, 42, 43, 44, 45, 46, 47, 48, 49, 50, 51, 52, 53, 54, 55, 56, 57, 58, 59, 60, 61, 62, 63, 64, 65, 66, 67, 68, 69, 70, 71, 72, 73, 74, 75, 76, 77, 78, 79, 80, 81, 82, 83, 84, 85, 86, 87, 88, 89, 90, 91, 92, 93, 94, 95, 96, 97, 98, 99, 100, 101, 102, 103, 104, 105, 106, 107, 108, 109, 110, 111, 112, 113, 114, 115, 116, 117, 118, 119, 120, 121, 122, 123, 124, 125, 126, 127, 128, 129, 130, 131, 132, 133, 134, 135, 136] rfl (by decide +kernel)) (goodIn_sub (fun _ h => List.mem_cons_of_mem _ (List.mem_append_right _ h)) (by decide +kernel))
set_option maxRecDepth 20000 in
theorem gL_count_X10_count : GoodIn wsL_count (wsV RL 15 RX10 yX10_count wsX10_count) := goodIn_app (goodIn_r _ [2, 3, 4, 5] rfl (by decide +kernel)) ggL_count_X10_count
theorem eL_count_0q : (decode cL_count 0 = .ok (.aload_n 2, 1)) ∧ (decode cL_count 1 = .ok (.iconst 0, 1)) ∧ (decode cL_count 2 = .ok (.aload_n 0, 1)) ∧ (decode cL_count 3 = .ok (.iload_n 1, 1)) ∧ (decode cL_count 4 = .ok (.invokevirtual 15, 3)) ∧ (decode cL_count 7 = .ok (.i2l, 1)) ∧ (decode cL_count 8 = .ok (.lastore, 1)) ∧ (decode cL_count 9 = .ok (.goto 6, 3)) := by decide +kernel
theorem dL_count_0 : decode cL_count 0 = .ok (.aload_n 2, 1) := eL_count_0q.1
theorem dL_count_1 : decode cL_count 1 = .ok (.iconst 0, 1) := eL_count_0q.2.1
theorem dL_count_2 : decode cL_count 2 = .ok (.aload_n 0, 1) := eL_count_0q.2.2.1
theorem dL_count_3 : decode cL_count 3 = .ok (.iload_n 1, 1) := eL_count_0q.2.2.2.1
theorem dL_count_4 : decode cL_count 4 = .ok (.invokevirtual 15, 3) := eL_count_0q.2.2.2.2.1
theorem dL_count_7 : decode cL_count 7 = .ok (.i2l, 1) := eL_count_0q.2.2.2.2.2.1
theorem dL_count_8 : decode cL_count 8 = .ok (.lastore, 1) := eL_count_0q.2.2.2.2.2.2.1
theorem dL_count_9 : decode cL_count 9 = .ok (.goto 6, 3) := eL_count_0q.2.2.2.2.2.2.2
theorem eL_count_12q : (decode cL_count 12 = .ok (.astore_n 3, 1)) ∧ (decode cL_count 13 = .ok (.iconst 1, 1)) ∧ (decode cL_count 14 = .ok (.ireturn, 1)) ∧ (decode cL_count 15 = .ok (.iconst 0, 1)) ∧ (decode cL_count 16 = .ok (.ireturn, 1)) := by decide +kernel
theorem dL_count_12 : decode cL_count 12 = .ok (.astore_n 3, 1) := eL_count_12q.1
theorem dL_count_13 : decode cL_count 13 = .ok (.iconst 1, 1) := eL_count_12q.2.1
theorem dL_count_14 : decode cL_count 14 = .ok (.ireturn, 1) := eL_count_12q.2.2.1
theorem dL_count_15 : decode cL_count 15 = .ok (.iconst 0, 1) := eL_count_12q.2.2.2.1
theorem dL_count_16 : decode cL_count 16 = .ok (.ireturn, 1) := eL_count_12q.2.2.2.2
set_option maxRecDepth 20000 in
theorem ggL_router_X10_router : GoodIn wsL_router wsX10_router := goodIn_ca (goodIn_r _ [6, 7, 8, 9, 10, 11, 12, 13, 14, 15, 16, 17, 18, 19, 5, 20, 21, 22, 23, 24, 25, 26, 27, 28, 29, 30, 31, 32, 33, 34, 35, 36, 37, 38, 39, 40, 41, 42, 43, 44, 45, 46, 47, 48, 49, 50, 51, 52, 53, 54, 55, 56, 57, 58, 59, 60, 61, 62, 63, 64, 65, 66, 67, 68, 69, 70, 71, 72, 73, 74, 75, 76, 77, 78, 79, 80, 81, 82] rfl (by decide +kernel)) (goodIn_sub (fun _ h => List.mem_cons_of_mem _ (List.mem_append_right _ h)) (by decide +kernel))
set_option maxRecDepth 20000 in
theorem gL_router_X10_router : GoodIn wsL_router (wsV RL 20 RX10 yX10_router wsX10_router) := goodIn_app (goodIn_r _ [2, 3, 4, 5] rfl (by decide +kernel)) ggL_router_X10_router
theorem eL_router_0q : (decode cL_router 0 = .ok (.aload_n 3, 1)) ∧ (decode cL_router 1 = .ok (.iconst 0, 1)) ∧ (decode cL_router 2 = .ok (.aload_n 0, 1)) ∧ (decode cL_router 3 = .ok (.iload_n 1, 1)) ∧ (decode cL_router 4 = .ok (.iload_n 2, 1)) ∧ (decode cL_router 5 = .ok (.invokevirtual 20, 3)) ∧ (decode cL_router 8 = .ok (.i2l, 1)) ∧ (decode cL_router 9 = .ok (.lastore, 1)) := by decide +kernel
theorem dL_router_0 : decode cL_router 0 = .ok (.aload_n 3, 1) := eL_router_0q.1
theorem dL_router_1 : decode cL_router 1 = .ok (.iconst 0, 1) := eL_router_0q.2.1
theorem dL_router_2 : decode cL_router 2 = .ok (.aload_n 0, 1) := eL_router_0q.2.2.1
theorem dL_router_3 : decode cL_router 3 = .ok (.iload_n 1, 1) := eL_router_0q.2.2.2.1
theorem dL_router_4 : decode cL_router 4 = .ok (.iload_n 2, 1) := eL_router_0q.2.2.2.2.1
theorem dL_router_5 : decode cL_router 5 = .ok (.invokevirtual 20, 3) := eL_router_0q.2.2.2.2.2.1
theorem dL_router_8 : decode cL_router 8 = .ok (.i2l, 1) := eL_router_0q.2.2.2.2.2.2.1
theorem dL_router_9 : decode cL_router 9 = .ok (.lastore, 1) := eL_router_0q.2.2.2.2.2.2.2
theorem eL_router_10q : (decode cL_router 10 = .ok (.goto 7, 3)) ∧ (decode cL_router 13 = .ok (.astore 4, 2)) ∧ (decode cL_router 15 = .ok (.iconst 1, 1)) ∧ (decode cL_router 16 = .ok (.ireturn, 1)) ∧ (decode cL_router 17 = .ok (.iconst 0, 1)) ∧ (decode cL_router 18 = .ok (.ireturn, 1)) := by decide +kernel
theorem dL_router_10 : decode cL_router 10 = .ok (.goto 7, 3) := eL_router_10q.1
theorem dL_router_13 : decode cL_router 13 = .ok (.astore 4, 2) := eL_router_10q.2.1
theorem dL_router_15 : decode cL_router 15 = .ok (.iconst 1, 1) := eL_router_10q.2.2.1
theorem dL_router_16 : decode cL_router 16 = .ok (.ireturn, 1) := eL_router_10q.2.2.2.1
theorem dL_router_17 : decode cL_router 17 = .ok (.iconst 0, 1) := eL_router_10q.2.2.2.2.1
theorem dL_router_18 : decode cL_router 18 = .ok (.ireturn, 1) := eL_router_10q.2.2.2.2.2
set_option maxRecDepth 20000 in
theorem ggL_link_X10_link : GoodIn wsL_link wsX10_link := goodIn_ca (goodIn_r _ [6, 7, 8, 9, 10, 11, 12, 5, 13, 14, 15, 16, 17, 18, 19, 20, 21, 22, 23, 24, 25, 26, 27, 28, 29, 30, 31, 32, 33, 34, 35, 36, 37, 38, 39, 40, 41, 42, 43, 44, 45, 46, 47, 48, 49, 50, 51, 52, 53, 54, 55, 56, 57, 58] rfl (by decide +kernel)) (goodIn_sub (fun _ h => List.mem_cons_of_mem _ (List.mem_append_right _ h)) (by decide +kernel))
set_option maxRecDepth 20000 in
theorem gL_link_X10_link : GoodIn wsL_link (wsV RL 24 RX10 yX10_link wsX10_link) := goodIn_app (goodIn_r _ [2, 3, 4, 5] rfl (by decide +kernel)) ggL_link_X10_link
theorem eL_link_0q : (decode cL_link 0 = .ok (.aload_n 3, 1)) ∧ (decode cL_link 1 = .ok (.iconst 0, 1)) ∧ (decode cL_link 2 = .ok (.aload_n 0, 1)) ∧ (decode cL_link 3 = .ok (.iload_n 1, 1)) ∧ (decode cL_link 4 = .ok (.iload_n 2, 1)) ∧ (decode cL_link 5 = .ok (.invokevirtual 24, 3)) ∧ (decode cL_link 8 = .ok (.i2l, 1)) ∧ (decode cL_link 9 = .ok (.lastore, 1)) := by decide +kernel
theorem dL_link_0 : decode cL_link 0 = .ok (.aload_n 3, 1) := eL_link_0q.1
theorem dL_link_1 : decode cL_link 1 = .ok (.iconst 0, 1) := eL_link_0q.2.1
theorem dL_link_2 : decode cL_link 2 = .ok (.aload_n 0, 1) := eL_link_0q.2.2.1
theorem dL_link_3 : decode cL_link 3 = .ok (.iload_n 1, 1) := eL_link_0q.2.2.2.1
theorem dL_link_4 : decode cL_link 4 = .ok (.iload_n 2, 1) := eL_link_0q.2.2.2.2.1
theorem dL_link_5 : decode cL_link 5 = .ok (.invokevirtual 24, 3) := eL_link_0q.2.2.2.2.2.1
theorem dL_link_8 : decode cL_link 8 = .ok (.i2l, 1) := eL_link_0q.2.2.2.2.2.2.1
theorem dL_link_9 : decode cL_link 9 = .ok (.lastore, 1) := eL_link_0q.2.2.2.2.2.2.2
theorem eL_link_10q : (decode cL_link 10 = .ok (.goto 7, 3)) ∧ (decode cL_link 13 = .ok (.astore 4, 2)) ∧ (decode cL_link 15 = .ok (.iconst 1, 1)) ∧ (decode cL_link 16 = .ok (.ireturn, 1)) ∧ (decode cL_link 17 = .ok (.iconst 0, 1)) ∧ (decode cL_link 18 = .ok (.ireturn, 1)) := by decide +kernel
theorem dL_link_10 : decode cL_link 10 = .ok (.goto 7, 3) := eL_link_10q.1
theorem dL_link_13 : decode cL_link 13 = .ok (.astore 4, 2) := eL_link_10q.2.1
theorem dL_link_15 : decode cL_link 15 = .ok (.iconst 1, 1) := eL_link_10q.2.2.1
theorem dL_link_16 : decode cL_link 16 = .ok (.ireturn, 1) := eL_link_10q.2.2.2.1
theorem dL_link_17 : decode cL_link 17 = .ok (.iconst 0, 1) := eL_link_10q.2.2.2.2.1
theorem dL_link_18 : decode cL_link 18 = .ok (.ireturn, 1) := eL_link_10q.2.2.2.2.2
set_option maxRecDepth 20000 in
theorem ggL_seen_X10_seen : GoodIn wsL_seen wsX10_seen := goodIn_ca (goodIn_r _ [6, 7, 8, 9, 5, 10, 11, 12, 13, 14, 15, 16, 17, 18, 19, 20, 21, 22, 23, 24, 25, 26, 27, 28, 29, 30, 31, 32, 33, 34, 35, 36, 37, 38, 39, 40, 41, 42, 43, 44, 45, 46, 47, 48, 49, 50, 51, 52, 53, 54, 55, 56, 57, 58, 59, 60, 61, 62, 63, 64, 65, 66, 67, 68, 69, 70, 71, 72, 73, 74, 75, 76, 77, 78, 79, 80, 81, 82, 83] rfl (by decide +kernel)) (goodIn_sub (fun _ h => List.mem_cons_of_mem _ (List.mem_append_right _ h)) (by decide +kernel))
set_option maxRecDepth 20000 in
theorem gL_seen_X10_seen : GoodIn wsL_seen (wsV RL 27 RX10 yX10_seen wsX10_seen) := goodIn_app (goodIn_r _ [2, 3, 4, 5] rfl (by decide +kernel)) ggL_seen_X10_seen
theorem eL_seen_0q : (decode cL_seen 0 = .ok (.aload 4, 2)) ∧ (decode cL_seen 2 = .ok (.iconst 0, 1)) ∧ (decode cL_seen 3 = .ok (.aload_n 0, 1)) ∧ (decode cL_seen 4 = .ok (.iload_n 1, 1)) ∧ (decode cL_seen 5 = .ok (.iload_n 2, 1)) ∧ (decode cL_seen 6 = .ok (.iload_n 3, 1)) ∧ (decode cL_seen 7 = .ok (.invokevirtual 27, 3)) ∧ (decode cL_seen 10 = .ok (.i2l, 1)) := by decide +kernel
theorem dL_seen_0 : decode cL_seen 0 = .ok (.aload 4, 2) := eL_seen_0q.1
theorem dL_seen_2 : decode cL_seen 2 = .ok (.iconst 0, 1) := eL_seen_0q.2.1
theorem dL_seen_3 : decode cL_seen 3 = .ok (.aload_n 0, 1) := eL_seen_0q.2.2.1
theorem dL_seen_4 : decode cL_seen 4 = .ok (.iload_n 1, 1) := eL_seen_0q.2.2.2.1
theorem dL_seen_5 : decode cL_seen 5 = .ok (.iload_n 2, 1) := eL_seen_0q.2.2.2.2.1
theorem dL_seen_6 : decode cL_seen 6 = .ok (.iload_n 3, 1) := eL_seen_0q.2.2.2.2.2.1
theorem dL_seen_7 : decode cL_seen 7 = .ok (.invokevirtual 27, 3) := eL_seen_0q.2.2.2.2.2.2.1
theorem dL_seen_10 : decode cL_seen 10 = .ok (.i2l, 1) := eL_seen_0q.2.2.2.2.2.2.2
theorem eL_seen_11q : (decode cL_seen 11 = .ok (.lastore, 1)) ∧ (decode cL_seen 12 = .ok (.goto 7, 3)) ∧ (decode cL_seen 15 = .ok (.astore 5, 2)) ∧ (decode cL_seen 17 = .ok (.iconst 1, 1)) ∧ (decode cL_seen 18 = .ok (.ireturn, 1)) ∧ (decode cL_seen 19 = .ok (.iconst 0, 1)) ∧ (decode cL_seen 20 = .ok (.ireturn, 1)) := by decide +kernel
theorem dL_seen_11 : decode cL_seen 11 = .ok (.lastore, 1) := eL_seen_11q.1
theorem dL_seen_12 : decode cL_seen 12 = .ok (.goto 7, 3) := eL_seen_11q.2.1
theorem dL_seen_15 : decode cL_seen 15 = .ok (.astore 5, 2) := eL_seen_11q.2.2.1
theorem dL_seen_17 : decode cL_seen 17 = .ok (.iconst 1, 1) := eL_seen_11q.2.2.2.1
theorem dL_seen_18 : decode cL_seen 18 = .ok (.ireturn, 1) := eL_seen_11q.2.2.2.2.1
theorem dL_seen_19 : decode cL_seen 19 = .ok (.iconst 0, 1) := eL_seen_11q.2.2.2.2.2.1
theorem dL_seen_20 : decode cL_seen 20 = .ok (.ireturn, 1) := eL_seen_11q.2.2.2.2.2.2
set_option maxRecDepth 20000 in
theorem ggL_hop_X10_hop : GoodIn wsL_hop wsX10_hop := goodIn_ca (goodIn_r _ [6, 7, 8, 9, 10, 11, 12, 13, 14, 5, 15, 16, 17, 18, 19, 20, 21, 22, 23, 24, 25, 26, 27, 28, 29, 30, 31, 32, 33, 34, 35, 36, 37, 38, 39, 40, 41, 42, 43, 44, 45, 46, 47, 48, 49, 50, 51, 52, 53, 54, 55, 56, 57, 58, 59, 60, 61, 62, 63, 64, 65, 66, 67, 68, 69, 70, 71, 72, 73, 74, 75, 76, 77, 78, 79, 80, 81, 82, 83, 84, 85, 86, 87, 88, 89, 90, 91, 92, 93, 94, 95, 96, 97, 98, 99, 100, 101, 102, 103, 104, 105, 106, 107, 108, 109, 110, 111, 112, 113, 114, 115, 116, 117, 118, 119, 120, 121, 122, 123, 124, 125, 126, 127, 128, 129, 130, 131, 132, 133, 134, 135, 136, 137, 138, 139, 140, 141, 142, 143, 144] rfl (by decide +kernel)) (goodIn_sub (fun _ h => List.mem_cons_of_mem _ (List.mem_append_right _ h)) (by decide +kernel))
set_option maxRecDepth 20000 in
theorem gL_hop_X10_hop : GoodIn wsL_hop (wsV RL 31 RX10 yX10_hop wsX10_hop) := goodIn_app (goodIn_r _ [2, 3, 4, 5] rfl (by decide +kernel)) ggL_hop_X10_hop
theorem eL_hop_0q : (decode cL_hop 0 = .ok (.aload 4, 2)) ∧ (decode cL_hop 2 = .ok (.iconst 0, 1)) ∧ (decode cL_hop 3 = .ok (.aload_n 0, 1)) ∧ (decode cL_hop 4 = .ok (.iload_n 1, 1)) ∧ (decode cL_hop 5 = .ok (.iload_n 2, 1)) ∧ (decode cL_hop 6 = .ok (.iload_n 3, 1)) ∧ (decode cL_hop 7 = .ok (.invokevirtual 31, 3)) ∧ (decode cL_hop 10 = .ok (.i2l, 1)) := by decide +kernel
theorem dL_hop_0 : decode cL_hop 0 = .ok (.aload 4, 2) := eL_hop_0q.1
theorem dL_hop_2 : decode cL_hop 2 = .ok (.iconst 0, 1) := eL_hop_0q.2.1
theorem dL_hop_3 : decode cL_hop 3 = .ok (.aload_n 0, 1) := eL_hop_0q.2.2.1
theorem dL_hop_4 : decode cL_hop 4 = .ok (.iload_n 1, 1) := eL_hop_0q.2.2.2.1
theorem dL_hop_5 : decode cL_hop 5 = .ok (.iload_n 2, 1) := eL_hop_0q.2.2.2.2.1
theorem dL_hop_6 : decode cL_hop 6 = .ok (.iload_n 3, 1) := eL_hop_0q.2.2.2.2.2.1
theorem dL_hop_7 : decode cL_hop 7 = .ok (.invokevirtual 31, 3) := eL_hop_0q.2.2.2.2.2.2.1
theorem dL_hop_10 : decode cL_hop 10 = .ok (.i2l, 1) := eL_hop_0q.2.2.2.2.2.2.2
theorem eL_hop_11q : (decode cL_hop 11 = .ok (.lastore, 1)) ∧ (decode cL_hop 12 = .ok (.goto 7, 3)) ∧ (decode cL_hop 15 = .ok (.astore 5, 2)) ∧ (decode cL_hop 17 = .ok (.iconst 1, 1)) ∧ (decode cL_hop 18 = .ok (.ireturn, 1)) ∧ (decode cL_hop 19 = .ok (.iconst 0, 1)) ∧ (decode cL_hop 20 = .ok (.ireturn, 1)) := by decide +kernel
theorem dL_hop_11 : decode cL_hop 11 = .ok (.lastore, 1) := eL_hop_11q.1
theorem dL_hop_12 : decode cL_hop 12 = .ok (.goto 7, 3) := eL_hop_11q.2.1
theorem dL_hop_15 : decode cL_hop 15 = .ok (.astore 5, 2) := eL_hop_11q.2.2.1
theorem dL_hop_17 : decode cL_hop 17 = .ok (.iconst 1, 1) := eL_hop_11q.2.2.2.1
theorem dL_hop_18 : decode cL_hop 18 = .ok (.ireturn, 1) := eL_hop_11q.2.2.2.2.1
theorem dL_hop_19 : decode cL_hop 19 = .ok (.iconst 0, 1) := eL_hop_11q.2.2.2.2.2.1
theorem dL_hop_20 : decode cL_hop 20 = .ok (.ireturn, 1) := eL_hop_11q.2.2.2.2.2.2
set_option maxRecDepth 20000 in
theorem ggL_sure_X10_sure : GoodIn wsL_sure wsX10_sure := goodIn_ca (goodIn_r _ [6, 7, 8, 9, 10, 11, 12, 5, 13, 14, 15, 16, 17, 18, 19, 20, 21, 22, 23, 24, 25, 26, 27, 28, 29, 30, 31, 32, 33, 34, 35, 36, 37, 38, 39, 40, 41, 42, 43, 44, 45, 46, 47, 48, 49, 50, 51, 52, 53, 54, 55, 56, 57, 58, 59, 60, 61, 62, 63, 64, 65, 66, 67, 68, 69, 70, 71, 72, 73, 74, 75, 76, 77, 78, 79, 80, 81, 82, 83, 84, 85, 86, 87, 88, 89, 90, 91, 92, 93, 94, 95, 96, 97, 98, 99, 100, 101, 102, 103, 104, 105, 106, 107, 108, 109] rfl (by decide +kernel)) (goodIn_sub (fun _ h => List.mem_cons_of_mem _ (List.mem_append_right _ h)) (by decide +kernel))
set_option maxRecDepth 20000 in
theorem gL_sure_X10_sure : GoodIn wsL_sure (wsV RL 34 RX10 yX10_sure wsX10_sure) := goodIn_app (goodIn_r _ [2, 3, 4, 5] rfl (by decide +kernel)) ggL_sure_X10_sure
theorem eL_sure_0q : (decode cL_sure 0 = .ok (.aload_n 3, 1)) ∧ (decode cL_sure 1 = .ok (.iconst 0, 1)) ∧ (decode cL_sure 2 = .ok (.aload_n 0, 1)) ∧ (decode cL_sure 3 = .ok (.iload_n 1, 1)) ∧ (decode cL_sure 4 = .ok (.iload_n 2, 1)) ∧ (decode cL_sure 5 = .ok (.invokevirtual 34, 3)) ∧ (decode cL_sure 8 = .ok (.lastore, 1)) ∧ (decode cL_sure 9 = .ok (.goto 7, 3)) := by decide +kernel
theorem dL_sure_0 : decode cL_sure 0 = .ok (.aload_n 3, 1) := eL_sure_0q.1
theorem dL_sure_1 : decode cL_sure 1 = .ok (.iconst 0, 1) := eL_sure_0q.2.1
theorem dL_sure_2 : decode cL_sure 2 = .ok (.aload_n 0, 1) := eL_sure_0q.2.2.1
theorem dL_sure_3 : decode cL_sure 3 = .ok (.iload_n 1, 1) := eL_sure_0q.2.2.2.1
theorem dL_sure_4 : decode cL_sure 4 = .ok (.iload_n 2, 1) := eL_sure_0q.2.2.2.2.1
theorem dL_sure_5 : decode cL_sure 5 = .ok (.invokevirtual 34, 3) := eL_sure_0q.2.2.2.2.2.1
theorem dL_sure_8 : decode cL_sure 8 = .ok (.lastore, 1) := eL_sure_0q.2.2.2.2.2.2.1
theorem dL_sure_9 : decode cL_sure 9 = .ok (.goto 7, 3) := eL_sure_0q.2.2.2.2.2.2.2
theorem eL_sure_12q : (decode cL_sure 12 = .ok (.astore 4, 2)) ∧ (decode cL_sure 14 = .ok (.iconst 1, 1)) ∧ (decode cL_sure 15 = .ok (.ireturn, 1)) ∧ (decode cL_sure 16 = .ok (.iconst 0, 1)) ∧ (decode cL_sure 17 = .ok (.ireturn, 1)) := by decide +kernel
theorem dL_sure_12 : decode cL_sure 12 = .ok (.astore 4, 2) := eL_sure_12q.1
theorem dL_sure_14 : decode cL_sure 14 = .ok (.iconst 1, 1) := eL_sure_12q.2.1
theorem dL_sure_15 : decode cL_sure 15 = .ok (.ireturn, 1) := eL_sure_12q.2.2.1
theorem dL_sure_16 : decode cL_sure 16 = .ok (.iconst 0, 1) := eL_sure_12q.2.2.2.1
theorem dL_sure_17 : decode cL_sure 17 = .ok (.ireturn, 1) := eL_sure_12q.2.2.2.2
set_option maxRecDepth 20000 in
theorem ggL_missing_X10_missing : GoodIn wsL_missing wsX10_missing := goodIn_ca (goodIn_r _ [6, 7, 8, 9, 10, 11, 12, 13, 14, 15, 16, 17, 18, 19, 20, 21, 22, 23, 24, 25, 26, 27, 28, 29, 30, 31, 32, 33, 34, 35, 36, 37, 38, 39, 40, 41, 42, 43, 44, 45, 46] rfl (by decide +kernel)) (goodIn_sub (fun _ h => List.mem_cons_of_mem _ (List.mem_append_right _ h)) (by decide +kernel))
set_option maxRecDepth 20000 in
theorem gL_missing_X10_missing : GoodIn wsL_missing (wsV RL 38 RX10 yX10_missing wsX10_missing) := goodIn_app (goodIn_r _ [2, 3, 4, 5] rfl (by decide +kernel)) ggL_missing_X10_missing
theorem eL_missing_0q : (decode cL_missing 0 = .ok (.aload_n 3, 1)) ∧ (decode cL_missing 1 = .ok (.iconst 0, 1)) ∧ (decode cL_missing 2 = .ok (.aload_n 0, 1)) ∧ (decode cL_missing 3 = .ok (.iload_n 1, 1)) ∧ (decode cL_missing 4 = .ok (.iload_n 2, 1)) ∧ (decode cL_missing 5 = .ok (.invokevirtual 38, 3)) ∧ (decode cL_missing 8 = .ok (.lastore, 1)) ∧ (decode cL_missing 9 = .ok (.goto 7, 3)) := by decide +kernel
theorem dL_missing_0 : decode cL_missing 0 = .ok (.aload_n 3, 1) := eL_missing_0q.1
theorem dL_missing_1 : decode cL_missing 1 = .ok (.iconst 0, 1) := eL_missing_0q.2.1
theorem dL_missing_2 : decode cL_missing 2 = .ok (.aload_n 0, 1) := eL_missing_0q.2.2.1
theorem dL_missing_3 : decode cL_missing 3 = .ok (.iload_n 1, 1) := eL_missing_0q.2.2.2.1
theorem dL_missing_4 : decode cL_missing 4 = .ok (.iload_n 2, 1) := eL_missing_0q.2.2.2.2.1
theorem dL_missing_5 : decode cL_missing 5 = .ok (.invokevirtual 38, 3) := eL_missing_0q.2.2.2.2.2.1
theorem dL_missing_8 : decode cL_missing 8 = .ok (.lastore, 1) := eL_missing_0q.2.2.2.2.2.2.1
theorem dL_missing_9 : decode cL_missing 9 = .ok (.goto 7, 3) := eL_missing_0q.2.2.2.2.2.2.2
theorem eL_missing_12q : (decode cL_missing 12 = .ok (.astore 4, 2)) ∧ (decode cL_missing 14 = .ok (.iconst 1, 1)) ∧ (decode cL_missing 15 = .ok (.ireturn, 1)) ∧ (decode cL_missing 16 = .ok (.iconst 0, 1)) ∧ (decode cL_missing 17 = .ok (.ireturn, 1)) := by decide +kernel
theorem dL_missing_12 : decode cL_missing 12 = .ok (.astore 4, 2) := eL_missing_12q.1
theorem dL_missing_14 : decode cL_missing 14 = .ok (.iconst 1, 1) := eL_missing_12q.2.1
theorem dL_missing_15 : decode cL_missing 15 = .ok (.ireturn, 1) := eL_missing_12q.2.2.1
theorem dL_missing_16 : decode cL_missing 16 = .ok (.iconst 0, 1) := eL_missing_12q.2.2.2.1
theorem dL_missing_17 : decode cL_missing 17 = .ok (.ireturn, 1) := eL_missing_12q.2.2.2.2
set_option maxRecDepth 20000 in
theorem ggL_edge_X10_edge : GoodIn wsL_edge wsX10_edge := goodIn_ca (goodIn_r _ [6, 7, 8, 9, 10, 11, 12, 13, 5, 14, 15, 16, 17, 18, 19, 20, 21, 22, 23, 24, 25, 26, 27, 28, 29, 30, 31, 32, 33, 34, 35, 36, 37, 38, 39, 40, 41, 42, 43, 44, 45, 46, 47, 48, 49, 50, 51, 52, 53, 54, 55, 56, 57, 58, 59, 60, 61, 62, 63, 64, 65, 66, 67, 68, 69, 70, 71, 72, 73, 74, 75, 76, 77, 78, 79, 80, 81, 82, 83, 84, 85, 86, 87, 88, 89, 90, 91, 92, 93, 94, 95, 96, 97, 98, 99, 100] rfl (by decide +kernel)) (goodIn_sub (fun _ h => List.mem_cons_of_mem _ (List.mem_append_right _ h)) (by decide +kernel))
set_option maxRecDepth 20000 in
theorem gL_edge_X10_edge : GoodIn wsL_edge (wsV RL 41 RX10 yX10_edge wsX10_edge) := goodIn_app (goodIn_r _ [2, 3, 4, 5] rfl (by decide +kernel)) ggL_edge_X10_edge
theorem eL_edge_0q : (decode cL_edge 0 = .ok (.aload 5, 2)) ∧ (decode cL_edge 2 = .ok (.iconst 0, 1)) ∧ (decode cL_edge 3 = .ok (.aload_n 0, 1)) ∧ (decode cL_edge 4 = .ok (.iload_n 1, 1)) ∧ (decode cL_edge 5 = .ok (.iload_n 2, 1)) ∧ (decode cL_edge 6 = .ok (.iload_n 3, 1)) ∧ (decode cL_edge 7 = .ok (.iload 4, 2)) ∧ (decode cL_edge 9 = .ok (.invokevirtual 41, 3)) := by decide +kernel
theorem dL_edge_0 : decode cL_edge 0 = .ok (.aload 5, 2) := eL_edge_0q.1
theorem dL_edge_2 : decode cL_edge 2 = .ok (.iconst 0, 1) := eL_edge_0q.2.1
theorem dL_edge_3 : decode cL_edge 3 = .ok (.aload_n 0, 1) := eL_edge_0q.2.2.1
theorem dL_edge_4 : decode cL_edge 4 = .ok (.iload_n 1, 1) := eL_edge_0q.2.2.2.1
theorem dL_edge_5 : decode cL_edge 5 = .ok (.iload_n 2, 1) := eL_edge_0q.2.2.2.2.1
theorem dL_edge_6 : decode cL_edge 6 = .ok (.iload_n 3, 1) := eL_edge_0q.2.2.2.2.2.1
theorem dL_edge_7 : decode cL_edge 7 = .ok (.iload 4, 2) := eL_edge_0q.2.2.2.2.2.2.1
theorem dL_edge_9 : decode cL_edge 9 = .ok (.invokevirtual 41, 3) := eL_edge_0q.2.2.2.2.2.2.2
theorem eL_edge_12q : (decode cL_edge 12 = .ok (.i2l, 1)) ∧ (decode cL_edge 13 = .ok (.lastore, 1)) ∧ (decode cL_edge 14 = .ok (.goto 7, 3)) ∧ (decode cL_edge 17 = .ok (.astore 6, 2)) ∧ (decode cL_edge 19 = .ok (.iconst 1, 1)) ∧ (decode cL_edge 20 = .ok (.ireturn, 1)) ∧ (decode cL_edge 21 = .ok (.iconst 0, 1)) ∧ (decode cL_edge 22 = .ok (.ireturn, 1)) := by decide +kernel
theorem dL_edge_12 : decode cL_edge 12 = .ok (.i2l, 1) := eL_edge_12q.1
theorem dL_edge_13 : decode cL_edge 13 = .ok (.lastore, 1) := eL_edge_12q.2.1
theorem dL_edge_14 : decode cL_edge 14 = .ok (.goto 7, 3) := eL_edge_12q.2.2.1
theorem dL_edge_17 : decode cL_edge 17 = .ok (.astore 6, 2) := eL_edge_12q.2.2.2.1
theorem dL_edge_19 : decode cL_edge 19 = .ok (.iconst 1, 1) := eL_edge_12q.2.2.2.2.1
theorem dL_edge_20 : decode cL_edge 20 = .ok (.ireturn, 1) := eL_edge_12q.2.2.2.2.2.1
theorem dL_edge_21 : decode cL_edge 21 = .ok (.iconst 0, 1) := eL_edge_12q.2.2.2.2.2.2.1
theorem dL_edge_22 : decode cL_edge 22 = .ok (.ireturn, 1) := eL_edge_12q.2.2.2.2.2.2.2
set_option maxRecDepth 20000 in
theorem ggL_diamond_X10_diamond : GoodIn wsL_diamond wsX10_diamond := goodIn_ca (goodIn_r _ [6, 7, 8, 9, 10, 11, 12, 13, 14, 5, 15, 16, 17, 18, 19, 20, 21, 22, 23, 24, 25, 26, 27, 28, 29, 30, 31, 32, 33, 34, 35, 36, 37, 38, 39, 40, 41, 42, 43, 44, 45, 46, 47, 48, 49, 50, 51, 52, 53, 54, 55, 56, 57, 58, 59, 60, 61, 62, 63, 64, 65, 66, 67, 68, 69, 70, 71, 72, 73, 74, 75, 76, 77, 78, 79, 80, 81, 82, 83, 84, 85, 86, 87, 88, 89, 90, 91, 92, 93, 94, 95, 96, 97, 98, 99, 100, 101, 102, 103, 104, 105, 106, 107, 108, 109, 110, 111, 112, 113, 114, 115, 116, 117, 118, 119, 120, 121, 122, 123, 124, 125, 126, 127, 128] rfl (by decide +kernel)) (goodIn_sub (fun _ h => List.mem_cons_of_mem _ (List.mem_append_right _ h)) (by decide +kernel))
set_option maxRecDepth 20000 in
theorem gL_diamond_X10_diamond : GoodIn wsL_diamond (wsV RL 45 RX10 yX10_diamond wsX10_diamond) := goodIn_app (goodIn_r _ [2, 3, 4, 5] rfl (by decide +kernel)) ggL_diamond_X10_diamond
theorem eL_diamond_0q : (decode cL_diamond 0 = .ok (.aload 4, 2)) ∧ (decode cL_diamond 2 = .ok (.iconst 0, 1)) ∧ (decode cL_diamond 3 = .ok (.aload_n 0, 1)) ∧ (decode cL_diamond 4 = .ok (.iload_n 1, 1)) ∧ (decode cL_diamond 5 = .ok (.iload_n 2, 1)) ∧ (decode cL_diamond 6 = .ok (.iload_n 3, 1)) ∧ (decode cL_diamond 7 = .ok (.invokevirtual 45, 3)) ∧ (decode cL_diamond 10 = .ok (.i2l, 1)) := by decide +kernel
theorem dL_diamond_0 : decode cL_diamond 0 = .ok (.aload 4, 2) := eL_diamond_0q.1
theorem dL_diamond_2 : decode cL_diamond 2 = .ok (.iconst 0, 1) := eL_diamond_0q.2.1
theorem dL_diamond_3 : decode cL_diamond 3 = .ok (.aload_n 0, 1) := eL_diamond_0q.2.2.1
theorem dL_diamond_4 : decode cL_diamond 4 = .ok (.iload_n 1, 1) := eL_diamond_0q.2.2.2.1
theorem dL_diamond_5 : decode cL_diamond 5 = .ok (.iload_n 2, 1) := eL_diamond_0q.2.2.2.2.1
theorem dL_diamond_6 : decode cL_diamond 6 = .ok (.iload_n 3, 1) := eL_diamond_0q.2.2.2.2.2.1
theorem dL_diamond_7 : decode cL_diamond 7 = .ok (.invokevirtual 45, 3) := eL_diamond_0q.2.2.2.2.2.2.1
theorem dL_diamond_10 : decode cL_diamond 10 = .ok (.i2l, 1) := eL_diamond_0q.2.2.2.2.2.2.2
theorem eL_diamond_11q : (decode cL_diamond 11 = .ok (.lastore, 1)) ∧ (decode cL_diamond 12 = .ok (.goto 7, 3)) ∧ (decode cL_diamond 15 = .ok (.astore 5, 2)) ∧ (decode cL_diamond 17 = .ok (.iconst 1, 1)) ∧ (decode cL_diamond 18 = .ok (.ireturn, 1)) ∧ (decode cL_diamond 19 = .ok (.iconst 0, 1)) ∧ (decode cL_diamond 20 = .ok (.ireturn, 1)) := by decide +kernel
theorem dL_diamond_11 : decode cL_diamond 11 = .ok (.lastore, 1) := eL_diamond_11q.1
theorem dL_diamond_12 : decode cL_diamond 12 = .ok (.goto 7, 3) := eL_diamond_11q.2.1
theorem dL_diamond_15 : decode cL_diamond 15 = .ok (.astore 5, 2) := eL_diamond_11q.2.2.1
theorem dL_diamond_17 : decode cL_diamond 17 = .ok (.iconst 1, 1) := eL_diamond_11q.2.2.2.1
theorem dL_diamond_18 : decode cL_diamond 18 = .ok (.ireturn, 1) := eL_diamond_11q.2.2.2.2.1
theorem dL_diamond_19 : decode cL_diamond 19 = .ok (.iconst 0, 1) := eL_diamond_11q.2.2.2.2.2.1
theorem dL_diamond_20 : decode cL_diamond 20 = .ok (.ireturn, 1) := eL_diamond_11q.2.2.2.2.2.2
set_option maxRecDepth 20000 in
theorem ggL_loop_X10_loop : GoodIn wsL_loop wsX10_loop := goodIn_ca (goodIn_r _ [6, 7, 8, 9, 10, 11, 5, 12, 13, 14, 15, 16, 17, 18, 19, 20, 21, 22, 23, 24, 25, 26, 27, 28, 29, 30, 31, 32, 33, 34, 35, 36, 37, 38, 39, 40, 41, 42, 43, 44, 45, 46, 47, 48, 49, 50, 51, 52, 53, 54, 55, 56, 57, 58, 59, 60, 61, 62, 63, 64, 65, 66, 67, 68, 69, 70, 71, 72, 73, 74, 75, 76, 77, 78, 79, 80, 81, 82, 83, 84, 85, 86, 87, 88, 89, 90, 91, 92, 93, 94, 95, 96, 97, 98, 99, 100, 101, 102, 103, 104, 105, 106, 107, 108, 109, 110, 111, 112, 113, 114, 115] rfl (by decide +kernel)) (goodIn_sub (fun _ h => List.mem_cons_of_mem _ (List.mem_append_right _ h)) (by decide +kernel))
set_option maxRecDepth 20000 in
theorem gL_loop_X10_loop : GoodIn wsL_loop (wsV RL 48 RX10 yX10_loop wsX10_loop) := goodIn_app (goodIn_r _ [2, 3, 4, 5] rfl (by decide +kernel)) ggL_loop_X10_loop
theorem eL_loop_0q : (decode cL_loop 0 = .ok (.aload 4, 2)) ∧ (decode cL_loop 2 = .ok (.iconst 0, 1)) ∧ (decode cL_loop 3 = .ok (.aload_n 0, 1)) ∧ (decode cL_loop 4 = .ok (.iload_n 1, 1)) ∧ (decode cL_loop 5 = .ok (.iload_n 2, 1)) ∧ (decode cL_loop 6 = .ok (.iload_n 3, 1)) ∧ (decode cL_loop 7 = .ok (.invokevirtual 48, 3)) ∧ (decode cL_loop 10 = .ok (.i2l, 1)) := by decide +kernel
theorem dL_loop_0 : decode cL_loop 0 = .ok (.aload 4, 2) := eL_loop_0q.1
theorem dL_loop_2 : decode cL_loop 2 = .ok (.iconst 0, 1) := eL_loop_0q.2.1
theorem dL_loop_3 : decode cL_loop 3 = .ok (.aload_n 0, 1) := eL_loop_0q.2.2.1
theorem dL_loop_4 : decode cL_loop 4 = .ok (.iload_n 1, 1) := eL_loop_0q.2.2.2.1
theorem dL_loop_5 : decode cL_loop 5 = .ok (.iload_n 2, 1) := eL_loop_0q.2.2.2.2.1
theorem dL_loop_6 : decode cL_loop 6 = .ok (.iload_n 3, 1) := eL_loop_0q.2.2.2.2.2.1
theorem dL_loop_7 : decode cL_loop 7 = .ok (.invokevirtual 48, 3) := eL_loop_0q.2.2.2.2.2.2.1
theorem dL_loop_10 : decode cL_loop 10 = .ok (.i2l, 1) := eL_loop_0q.2.2.2.2.2.2.2
theorem eL_loop_11q : (decode cL_loop 11 = .ok (.lastore, 1)) ∧ (decode cL_loop 12 = .ok (.goto 7, 3)) ∧ (decode cL_loop 15 = .ok (.astore 5, 2)) ∧ (decode cL_loop 17 = .ok (.iconst 1, 1)) ∧ (decode cL_loop 18 = .ok (.ireturn, 1)) ∧ (decode cL_loop 19 = .ok (.iconst 0, 1)) ∧ (decode cL_loop 20 = .ok (.ireturn, 1)) := by decide +kernel
theorem dL_loop_11 : decode cL_loop 11 = .ok (.lastore, 1) := eL_loop_11q.1
theorem dL_loop_12 : decode cL_loop 12 = .ok (.goto 7, 3) := eL_loop_11q.2.1
theorem dL_loop_15 : decode cL_loop 15 = .ok (.astore 5, 2) := eL_loop_11q.2.2.1
theorem dL_loop_17 : decode cL_loop 17 = .ok (.iconst 1, 1) := eL_loop_11q.2.2.2.1
theorem dL_loop_18 : decode cL_loop 18 = .ok (.ireturn, 1) := eL_loop_11q.2.2.2.2.1
theorem dL_loop_19 : decode cL_loop 19 = .ok (.iconst 0, 1) := eL_loop_11q.2.2.2.2.2.1
theorem dL_loop_20 : decode cL_loop 20 = .ok (.ireturn, 1) := eL_loop_11q.2.2.2.2.2.2
set_option maxRecDepth 20000 in
theorem ggL_truth_X10_truth : GoodIn wsL_truth wsX10_truth := goodIn_ca (goodIn_r _ [6, 7, 8, 9, 10, 11, 12, 5, 13, 14, 15, 16, 17, 18, 19, 20, 21, 22, 23, 24, 25, 26, 27, 28, 29, 30, 31, 32, 33, 34, 35, 36, 37, 38, 39, 40, 41, 42, 43, 44, 45, 46, 47, 48, 49, 50, 51, 52, 53, 54, 55, 56, 57, 58, 59, 60, 61, 62, 63, 64, 65, 66, 67, 68, 69, 70, 71, 72, 73, 74, 75, 76, 77, 78, 79, 80, 81, 82, 83, 84, 85, 86, 87, 88, 89, 90, 91, 92, 93, 94, 95, 96, 97, 98, 99, 100, 101, 102, 103, 104, 105, 106, 107, 108, 109, 110, 111, 112, 113, 114, 115, 116, 117, 118, 119, 120, 121, 122, 123, 124, 125, 126, 127, 128, 129, 130, 131, 132, 133, 134, 135, 136, 137] rfl (by decide +kernel)) (goodIn_sub (fun _ h => List.mem_cons_of_mem _ (List.mem_append_right _ h)) (by decide +kernel))
set_option maxRecDepth 20000 in
theorem gL_truth_X10_truth : GoodIn wsL_truth (wsV RL 51 RX10 yX10_truth wsX10_truth) := goodIn_app (goodIn_r _ [2, 3, 4, 5] rfl (by decide +kernel)) ggL_truth_X10_truth
theorem eL_truth_0q : (decode cL_truth 0 = .ok (.aload_n 3, 1)) ∧ (decode cL_truth 1 = .ok (.iconst 0, 1)) ∧ (decode cL_truth 2 = .ok (.aload_n 0, 1)) ∧ (decode cL_truth 3 = .ok (.iload_n 1, 1)) ∧ (decode cL_truth 4 = .ok (.iload_n 2, 1)) ∧ (decode cL_truth 5 = .ok (.invokevirtual 51, 3)) ∧ (decode cL_truth 8 = .ok (.i2l, 1)) ∧ (decode cL_truth 9 = .ok (.lastore, 1)) := by decide +kernel
theorem dL_truth_0 : decode cL_truth 0 = .ok (.aload_n 3, 1) := eL_truth_0q.1
theorem dL_truth_1 : decode cL_truth 1 = .ok (.iconst 0, 1) := eL_truth_0q.2.1
theorem dL_truth_2 : decode cL_truth 2 = .ok (.aload_n 0, 1) := eL_truth_0q.2.2.1
theorem dL_truth_3 : decode cL_truth 3 = .ok (.iload_n 1, 1) := eL_truth_0q.2.2.2.1
theorem dL_truth_4 : decode cL_truth 4 = .ok (.iload_n 2, 1) := eL_truth_0q.2.2.2.2.1
theorem dL_truth_5 : decode cL_truth 5 = .ok (.invokevirtual 51, 3) := eL_truth_0q.2.2.2.2.2.1
theorem dL_truth_8 : decode cL_truth 8 = .ok (.i2l, 1) := eL_truth_0q.2.2.2.2.2.2.1
theorem dL_truth_9 : decode cL_truth 9 = .ok (.lastore, 1) := eL_truth_0q.2.2.2.2.2.2.2
theorem eL_truth_10q : (decode cL_truth 10 = .ok (.goto 7, 3)) ∧ (decode cL_truth 13 = .ok (.astore 4, 2)) ∧ (decode cL_truth 15 = .ok (.iconst 1, 1)) ∧ (decode cL_truth 16 = .ok (.ireturn, 1)) ∧ (decode cL_truth 17 = .ok (.iconst 0, 1)) ∧ (decode cL_truth 18 = .ok (.ireturn, 1)) := by decide +kernel
theorem dL_truth_10 : decode cL_truth 10 = .ok (.goto 7, 3) := eL_truth_10q.1
theorem dL_truth_13 : decode cL_truth 13 = .ok (.astore 4, 2) := eL_truth_10q.2.1
theorem dL_truth_15 : decode cL_truth 15 = .ok (.iconst 1, 1) := eL_truth_10q.2.2.1
theorem dL_truth_16 : decode cL_truth 16 = .ok (.ireturn, 1) := eL_truth_10q.2.2.2.1
theorem dL_truth_17 : decode cL_truth 17 = .ok (.iconst 0, 1) := eL_truth_10q.2.2.2.2.1
theorem dL_truth_18 : decode cL_truth 18 = .ok (.ireturn, 1) := eL_truth_10q.2.2.2.2.2
set_option maxRecDepth 20000 in
theorem ggL_same_X10_same : GoodIn wsL_same wsX10_same := goodIn_ca (goodIn_r _ [6, 7, 8, 9, 10, 5, 11, 12, 13, 14, 15, 16, 17, 18, 19, 20, 21, 22, 23, 24, 25, 26, 27, 28, 29, 30, 31, 32, 33, 34, 35, 36, 37, 38, 39, 40, 41, 42, 43, 44, 45, 46, 47, 48, 49, 50, 51, 52, 53, 54, 55, 56, 57, 58, 59] rfl (by decide +kernel)) (goodIn_sub (fun _ h => List.mem_cons_of_mem _ (List.mem_append_right _ h)) (by decide +kernel))
set_option maxRecDepth 20000 in
theorem gL_same_X10_same : GoodIn wsL_same (wsV RL 54 RX10 yX10_same wsX10_same) := goodIn_app (goodIn_r _ [2, 3, 4, 5] rfl (by decide +kernel)) ggL_same_X10_same
theorem eL_same_0q : (decode cL_same 0 = .ok (.aload_n 3, 1)) ∧ (decode cL_same 1 = .ok (.iconst 0, 1)) ∧ (decode cL_same 2 = .ok (.aload_n 0, 1)) ∧ (decode cL_same 3 = .ok (.iload_n 1, 1)) ∧ (decode cL_same 4 = .ok (.iload_n 2, 1)) ∧ (decode cL_same 5 = .ok (.invokevirtual 54, 3)) ∧ (decode cL_same 8 = .ok (.i2l, 1)) ∧ (decode cL_same 9 = .ok (.lastore, 1)) := by decide +kernel
theorem dL_same_0 : decode cL_same 0 = .ok (.aload_n 3, 1) := eL_same_0q.1
theorem dL_same_1 : decode cL_same 1 = .ok (.iconst 0, 1) := eL_same_0q.2.1
theorem dL_same_2 : decode cL_same 2 = .ok (.aload_n 0, 1) := eL_same_0q.2.2.1
theorem dL_same_3 : decode cL_same 3 = .ok (.iload_n 1, 1) := eL_same_0q.2.2.2.1
theorem dL_same_4 : decode cL_same 4 = .ok (.iload_n 2, 1) := eL_same_0q.2.2.2.2.1
theorem dL_same_5 : decode cL_same 5 = .ok (.invokevirtual 54, 3) := eL_same_0q.2.2.2.2.2.1
theorem dL_same_8 : decode cL_same 8 = .ok (.i2l, 1) := eL_same_0q.2.2.2.2.2.2.1
theorem dL_same_9 : decode cL_same 9 = .ok (.lastore, 1) := eL_same_0q.2.2.2.2.2.2.2
theorem eL_same_10q : (decode cL_same 10 = .ok (.goto 7, 3)) ∧ (decode cL_same 13 = .ok (.astore 4, 2)) ∧ (decode cL_same 15 = .ok (.iconst 1, 1)) ∧ (decode cL_same 16 = .ok (.ireturn, 1)) ∧ (decode cL_same 17 = .ok (.iconst 0, 1)) ∧ (decode cL_same 18 = .ok (.ireturn, 1)) := by decide +kernel
theorem dL_same_10 : decode cL_same 10 = .ok (.goto 7, 3) := eL_same_10q.1
theorem dL_same_13 : decode cL_same 13 = .ok (.astore 4, 2) := eL_same_10q.2.1
theorem dL_same_15 : decode cL_same 15 = .ok (.iconst 1, 1) := eL_same_10q.2.2.1
theorem dL_same_16 : decode cL_same 16 = .ok (.ireturn, 1) := eL_same_10q.2.2.2.1
theorem dL_same_17 : decode cL_same 17 = .ok (.iconst 0, 1) := eL_same_10q.2.2.2.2.1
theorem dL_same_18 : decode cL_same 18 = .ok (.ireturn, 1) := eL_same_10q.2.2.2.2.2
set_option maxRecDepth 20000 in
theorem ggL_port_X10_port : GoodIn wsL_port wsX10_port := goodIn_ca (goodIn_r _ [6, 7, 8, 9, 5, 10, 11, 12, 13, 14, 15, 16, 17, 18, 19, 20, 21, 22, 23, 24, 25, 26, 27, 28, 29, 30, 31, 32, 33, 34, 35, 36, 37, 38, 39, 40, 41, 42, 43, 44, 45, 46, 47, 48, 49, 50, 51, 52, 53, 54, 55, 56, 57, 58, 59, 60, 61, 62, 63, 64, 65, 66, 67, 68, 69, 70, 71, 72, 73, 74, 75, 76, 77, 78, 79, 80, 81, 82, 83, 84, 85, 86, 87, 88, 89, 90, 91, 92, 93, 94, 95, 96, 97, 98, 99, 100, 101, 102, 103, 104, 105, 106, 107, 108, 109, 110, 111, 112, 113, 114, 115, 116, 117, 118, 119, 120, 121, 122, 123, 124, 125, 126, 127, 128, 129, 130] rfl (by decide +kernel)) (goodIn_sub (fun _ h => List.mem_cons_of_mem _ (List.mem_append_right _ h)) (by decide +kernel))
set_option maxRecDepth 20000 in
theorem gL_port_X10_port : GoodIn wsL_port (wsV RL 57 RX10 yX10_port wsX10_port) := goodIn_app (goodIn_r _ [2, 3, 4, 5] rfl (by decide +kernel)) ggL_port_X10_port
theorem eL_port_0q : (decode cL_port 0 = .ok (.aload_n 3, 1)) ∧ (decode cL_port 1 = .ok (.iconst 0, 1)) ∧ (decode cL_port 2 = .ok (.aload_n 0, 1)) ∧ (decode cL_port 3 = .ok (.iload_n 1, 1)) ∧ (decode cL_port 4 = .ok (.iload_n 2, 1)) ∧ (decode cL_port 5 = .ok (.invokevirtual 57, 3)) ∧ (decode cL_port 8 = .ok (.i2l, 1)) ∧ (decode cL_port 9 = .ok (.lastore, 1)) := by decide +kernel
theorem dL_port_0 : decode cL_port 0 = .ok (.aload_n 3, 1) := eL_port_0q.1
theorem dL_port_1 : decode cL_port 1 = .ok (.iconst 0, 1) := eL_port_0q.2.1
theorem dL_port_2 : decode cL_port 2 = .ok (.aload_n 0, 1) := eL_port_0q.2.2.1
theorem dL_port_3 : decode cL_port 3 = .ok (.iload_n 1, 1) := eL_port_0q.2.2.2.1
theorem dL_port_4 : decode cL_port 4 = .ok (.iload_n 2, 1) := eL_port_0q.2.2.2.2.1
theorem dL_port_5 : decode cL_port 5 = .ok (.invokevirtual 57, 3) := eL_port_0q.2.2.2.2.2.1
theorem dL_port_8 : decode cL_port 8 = .ok (.i2l, 1) := eL_port_0q.2.2.2.2.2.2.1
theorem dL_port_9 : decode cL_port 9 = .ok (.lastore, 1) := eL_port_0q.2.2.2.2.2.2.2
theorem eL_port_10q : (decode cL_port 10 = .ok (.goto 7, 3)) ∧ (decode cL_port 13 = .ok (.astore 4, 2)) ∧ (decode cL_port 15 = .ok (.iconst 1, 1)) ∧ (decode cL_port 16 = .ok (.ireturn, 1)) ∧ (decode cL_port 17 = .ok (.iconst 0, 1)) ∧ (decode cL_port 18 = .ok (.ireturn, 1)) := by decide +kernel
theorem dL_port_10 : decode cL_port 10 = .ok (.goto 7, 3) := eL_port_10q.1
theorem dL_port_13 : decode cL_port 13 = .ok (.astore 4, 2) := eL_port_10q.2.1
theorem dL_port_15 : decode cL_port 15 = .ok (.iconst 1, 1) := eL_port_10q.2.2.1
theorem dL_port_16 : decode cL_port 16 = .ok (.ireturn, 1) := eL_port_10q.2.2.2.1
theorem dL_port_17 : decode cL_port 17 = .ok (.iconst 0, 1) := eL_port_10q.2.2.2.2.1
theorem dL_port_18 : decode cL_port 18 = .ok (.ireturn, 1) := eL_port_10q.2.2.2.2.2
set_option maxRecDepth 20000 in
theorem ggL_use_X10_use : GoodIn wsL_use wsX10_use := goodIn_ca (goodIn_r _ [6, 7, 8, 9, 5, 10, 11, 12, 13, 14, 15, 16, 17, 18, 19, 20, 21, 22, 23, 24, 25, 26, 27, 28, 29, 30, 31, 32, 33, 34, 35, 36, 37, 38, 39, 40, 41, 42, 43, 44, 45, 46, 47, 48, 49, 50, 51, 52, 53, 54, 55, 56, 57, 58, 59, 60, 61, 62, 63, 64, 65, 66, 67, 68, 69, 70, 71, 72, 73, 74, 75, 76, 77, 78, 79, 80, 81, 82, 83, 84, 85, 86, 87, 88, 89, 90, 91, 92, 93, 94, 95, 96, 97, 98, 99, 100, 101, 102, 103, 104, 105, 106, 107, 108, 109, 110, 111, 112, 113, 114, 115, 116, 117, 118, 119, 120, 121, 122, 123, 124, 125, 126, 127, 128, 129, 130] rfl (by decide +kernel)) (goodIn_sub (fun _ h => List.mem_cons_of_mem _ (List.mem_append_right _ h)) (by decide +kernel))
set_option maxRecDepth 20000 in
theorem gL_use_X10_use : GoodIn wsL_use (wsV RL 60 RX10 yX10_use wsX10_use) := goodIn_app (goodIn_r _ [2, 3, 4, 5] rfl (by decide +kernel)) ggL_use_X10_use
theorem eL_use_0q : (decode cL_use 0 = .ok (.aload_n 3, 1)) ∧ (decode cL_use 1 = .ok (.iconst 0, 1)) ∧ (decode cL_use 2 = .ok (.aload_n 0, 1)) ∧ (decode cL_use 3 = .ok (.iload_n 1, 1)) ∧ (decode cL_use 4 = .ok (.iload_n 2, 1)) ∧ (decode cL_use 5 = .ok (.invokevirtual 60, 3)) ∧ (decode cL_use 8 = .ok (.i2l, 1)) ∧ (decode cL_use 9 = .ok (.lastore, 1)) := by decide +kernel
theorem dL_use_0 : decode cL_use 0 = .ok (.aload_n 3, 1) := eL_use_0q.1
theorem dL_use_1 : decode cL_use 1 = .ok (.iconst 0, 1) := eL_use_0q.2.1
theorem dL_use_2 : decode cL_use 2 = .ok (.aload_n 0, 1) := eL_use_0q.2.2.1
theorem dL_use_3 : decode cL_use 3 = .ok (.iload_n 1, 1) := eL_use_0q.2.2.2.1
theorem dL_use_4 : decode cL_use 4 = .ok (.iload_n 2, 1) := eL_use_0q.2.2.2.2.1
theorem dL_use_5 : decode cL_use 5 = .ok (.invokevirtual 60, 3) := eL_use_0q.2.2.2.2.2.1
theorem dL_use_8 : decode cL_use 8 = .ok (.i2l, 1) := eL_use_0q.2.2.2.2.2.2.1
theorem dL_use_9 : decode cL_use 9 = .ok (.lastore, 1) := eL_use_0q.2.2.2.2.2.2.2
theorem eL_use_10q : (decode cL_use 10 = .ok (.goto 7, 3)) ∧ (decode cL_use 13 = .ok (.astore 4, 2)) ∧ (decode cL_use 15 = .ok (.iconst 1, 1)) ∧ (decode cL_use 16 = .ok (.ireturn, 1)) ∧ (decode cL_use 17 = .ok (.iconst 0, 1)) ∧ (decode cL_use 18 = .ok (.ireturn, 1)) := by decide +kernel
theorem dL_use_10 : decode cL_use 10 = .ok (.goto 7, 3) := eL_use_10q.1
theorem dL_use_13 : decode cL_use 13 = .ok (.astore 4, 2) := eL_use_10q.2.1
theorem dL_use_15 : decode cL_use 15 = .ok (.iconst 1, 1) := eL_use_10q.2.2.1
theorem dL_use_16 : decode cL_use 16 = .ok (.ireturn, 1) := eL_use_10q.2.2.2.1
theorem dL_use_17 : decode cL_use 17 = .ok (.iconst 0, 1) := eL_use_10q.2.2.2.2.1
theorem dL_use_18 : decode cL_use 18 = .ok (.ireturn, 1) := eL_use_10q.2.2.2.2.2
set_option maxRecDepth 20000 in
theorem ggL_cover_X10_cover : GoodIn wsL_cover wsX10_cover := goodIn_ca (goodIn_r _ [6, 7, 8, 9, 10, 11, 12, 5, 13, 14, 15, 16, 17, 18, 19, 20, 21, 22, 23, 24, 25, 26, 27, 28, 29, 30, 31, 32, 33, 34, 35, 36, 37, 38, 39, 40, 41, 42, 43, 44, 45, 46, 47, 48, 49, 50, 51, 52, 53, 54, 55, 56, 57, 58, 59, 60, 61, 62, 63, 64, 65, 66, 67, 68, 69, 70, 71, 72, 73, 74, 75, 76, 77, 78, 79, 80, 81, 82, 83, 84, 85, 86, 87, 88, 89, 90, 91, 92, 93, 94, 95, 96, 97, 98, 99, 100, 101, 102, 103, 104, 105, 106, 107, 108, 109, 110, 111, 112, 113, 114, 115, 116, 117, 118, 119, 120, 121, 122, 123, 124, 125, 126, 127, 128, 129, 130] rfl (by decide +kernel)) (goodIn_sub (fun _ h => List.mem_cons_of_mem _ (List.mem_append_right _ h)) (by decide +kernel))
set_option maxRecDepth 20000 in
theorem gL_cover_X10_cover : GoodIn wsL_cover (wsV RL 63 RX10 yX10_cover wsX10_cover) := goodIn_app (goodIn_r _ [2, 3, 4, 5] rfl (by decide +kernel)) ggL_cover_X10_cover
theorem eL_cover_0q : (decode cL_cover 0 = .ok (.aload_n 2, 1)) ∧ (decode cL_cover 1 = .ok (.iconst 0, 1)) ∧ (decode cL_cover 2 = .ok (.aload_n 0, 1)) ∧ (decode cL_cover 3 = .ok (.iload_n 1, 1)) ∧ (decode cL_cover 4 = .ok (.invokevirtual 63, 3)) ∧ (decode cL_cover 7 = .ok (.i2l, 1)) ∧ (decode cL_cover 8 = .ok (.lastore, 1)) ∧ (decode cL_cover 9 = .ok (.goto 6, 3)) := by decide +kernel
theorem dL_cover_0 : decode cL_cover 0 = .ok (.aload_n 2, 1) := eL_cover_0q.1
theorem dL_cover_1 : decode cL_cover 1 = .ok (.iconst 0, 1) := eL_cover_0q.2.1
theorem dL_cover_2 : decode cL_cover 2 = .ok (.aload_n 0, 1) := eL_cover_0q.2.2.1
theorem dL_cover_3 : decode cL_cover 3 = .ok (.iload_n 1, 1) := eL_cover_0q.2.2.2.1
theorem dL_cover_4 : decode cL_cover 4 = .ok (.invokevirtual 63, 3) := eL_cover_0q.2.2.2.2.1
theorem dL_cover_7 : decode cL_cover 7 = .ok (.i2l, 1) := eL_cover_0q.2.2.2.2.2.1
theorem dL_cover_8 : decode cL_cover 8 = .ok (.lastore, 1) := eL_cover_0q.2.2.2.2.2.2.1
theorem dL_cover_9 : decode cL_cover 9 = .ok (.goto 6, 3) := eL_cover_0q.2.2.2.2.2.2.2
theorem eL_cover_12q : (decode cL_cover 12 = .ok (.astore_n 3, 1)) ∧ (decode cL_cover 13 = .ok (.iconst 1, 1)) ∧ (decode cL_cover 14 = .ok (.ireturn, 1)) ∧ (decode cL_cover 15 = .ok (.iconst 0, 1)) ∧ (decode cL_cover 16 = .ok (.ireturn, 1)) := by decide +kernel
theorem dL_cover_12 : decode cL_cover 12 = .ok (.astore_n 3, 1) := eL_cover_12q.1
theorem dL_cover_13 : decode cL_cover 13 = .ok (.iconst 1, 1) := eL_cover_12q.2.1
theorem dL_cover_14 : decode cL_cover 14 = .ok (.ireturn, 1) := eL_cover_12q.2.2.1
theorem dL_cover_15 : decode cL_cover 15 = .ok (.iconst 0, 1) := eL_cover_12q.2.2.2.1
theorem dL_cover_16 : decode cL_cover 16 = .ok (.ireturn, 1) := eL_cover_12q.2.2.2.2
set_option maxRecDepth 20000 in
theorem ggL_fits_X10_fits : GoodIn wsL_fits wsX10_fits := goodIn_ca (goodIn_r _ [6, 7, 8, 9, 10, 5, 11, 12, 13, 14, 15, 16, 17, 18, 19, 20, 21, 22, 23, 24, 25, 26, 27, 28, 29, 30, 31, 32, 33, 34, 35, 36, 37, 38, 39, 40, 41, 42, 43, 44, 45, 46, 47, 48, 49, 50, 51, 52, 53, 54, 55, 56, 57, 58, 59, 60, 61, 62, 63, 64, 65, 66, 67, 68, 69, 70, 71, 72, 73, 74, 75, 76, 77, 78, 79, 80, 81, 82, 83, 84, 85, 86, 87, 88, 89, 90, 91, 92, 93, 94, 95, 96, 97, 98, 99, 100, 101, 102, 103, 104, 105, 106, 107, 108, 109, 110, 111, 112, 113, 114, 115, 116, 117, 118, 119, 120, 121, 122, 123, 124, 125, 126, 127, 128, 129, 130, 131, 132, 133, 134, 135, 136, 137, 138, 139, 140, 141, 142, 143, 144, 145, 146, 147, 148, 149, 150, 151, 152, 153, 154, 155, 156, 157, 158, 159, 160, 161, 162, 163, 164, 165, 166, 167, 168, 169, 170, 171, 172, 173, 174, 175, 176, 177, 178, 179, 180, 181, 182, 183] rfl (by decide +kernel)) (goodIn_sub (fun _ h => List.mem_cons_of_mem _ (List.mem_append_right _ h)) (by decide +kernel))
set_option maxRecDepth 20000 in
theorem gL_fits_X10_fits : GoodIn wsL_fits (wsV RL 66 RX10 yX10_fits wsX10_fits) := goodIn_app (goodIn_r _ [2, 3, 4, 5] rfl (by decide +kernel)) ggL_fits_X10_fits
theorem eL_fits_0q : (decode cL_fits 0 = .ok (.aload_n 3, 1)) ∧ (decode cL_fits 1 = .ok (.iconst 0, 1)) ∧ (decode cL_fits 2 = .ok (.aload_n 0, 1)) ∧ (decode cL_fits 3 = .ok (.iload_n 1, 1)) ∧ (decode cL_fits 4 = .ok (.iload_n 2, 1)) ∧ (decode cL_fits 5 = .ok (.invokevirtual 66, 3)) ∧ (decode cL_fits 8 = .ok (.i2l, 1)) ∧ (decode cL_fits 9 = .ok (.lastore, 1)) := by decide +kernel
theorem dL_fits_0 : decode cL_fits 0 = .ok (.aload_n 3, 1) := eL_fits_0q.1
theorem dL_fits_1 : decode cL_fits 1 = .ok (.iconst 0, 1) := eL_fits_0q.2.1
theorem dL_fits_2 : decode cL_fits 2 = .ok (.aload_n 0, 1) := eL_fits_0q.2.2.1
theorem dL_fits_3 : decode cL_fits 3 = .ok (.iload_n 1, 1) := eL_fits_0q.2.2.2.1
theorem dL_fits_4 : decode cL_fits 4 = .ok (.iload_n 2, 1) := eL_fits_0q.2.2.2.2.1
theorem dL_fits_5 : decode cL_fits 5 = .ok (.invokevirtual 66, 3) := eL_fits_0q.2.2.2.2.2.1
theorem dL_fits_8 : decode cL_fits 8 = .ok (.i2l, 1) := eL_fits_0q.2.2.2.2.2.2.1
theorem dL_fits_9 : decode cL_fits 9 = .ok (.lastore, 1) := eL_fits_0q.2.2.2.2.2.2.2
theorem eL_fits_10q : (decode cL_fits 10 = .ok (.goto 7, 3)) ∧ (decode cL_fits 13 = .ok (.astore 4, 2)) ∧ (decode cL_fits 15 = .ok (.iconst 1, 1)) ∧ (decode cL_fits 16 = .ok (.ireturn, 1)) ∧ (decode cL_fits 17 = .ok (.iconst 0, 1)) ∧ (decode cL_fits 18 = .ok (.ireturn, 1)) := by decide +kernel
theorem dL_fits_10 : decode cL_fits 10 = .ok (.goto 7, 3) := eL_fits_10q.1
theorem dL_fits_13 : decode cL_fits 13 = .ok (.astore 4, 2) := eL_fits_10q.2.1
theorem dL_fits_15 : decode cL_fits 15 = .ok (.iconst 1, 1) := eL_fits_10q.2.2.1
theorem dL_fits_16 : decode cL_fits 16 = .ok (.ireturn, 1) := eL_fits_10q.2.2.2.1
theorem dL_fits_17 : decode cL_fits 17 = .ok (.iconst 0, 1) := eL_fits_10q.2.2.2.2.1
theorem dL_fits_18 : decode cL_fits 18 = .ok (.ireturn, 1) := eL_fits_10q.2.2.2.2.2
set_option maxRecDepth 20000 in
theorem ggL_look_X10_look : GoodIn wsL_look wsX10_look := goodIn_ca (goodIn_r _ [6, 7, 8, 9, 10, 11, 12, 5, 13, 14, 15, 16, 17, 18, 19, 20, 21, 22, 23, 24, 25, 26, 27, 28, 29, 30, 31, 32, 33, 34, 35, 36, 37, 38, 39, 40, 41, 42, 43, 44, 45, 46, 47, 48, 49, 50, 51, 52, 53, 54, 55, 56, 57, 58, 59, 60, 61, 62, 63, 64, 65, 66, 67, 68, 69, 70, 71, 72, 73, 74, 75, 76, 77, 78, 79, 80, 81, 82, 83, 84, 85, 86, 87, 88, 89, 90, 91, 92, 93, 94, 95, 96, 97, 98, 99, 100, 101, 102, 103, 104, 105, 106, 107, 108, 109, 110, 111, 112, 113, 114, 115, 116, 117, 118, 119, 120, 121, 122, 123, 124, 125, 126, 127, 128, 129, 130, 131, 132, 133, 134, 135, 136, 137, 138, 139, 140, 141, 142, 143, 144, 145, 146, 147, 148, 149, 150, 151, 152, 153, 154, 155, 156, 157, 158, 159, 160, 161, 162, 163, 164, 165, 166, 167, 168, 169, 170, 171, 172, 173, 174, 175, 176, 177, 178, 179, 180, 181, 182, 183, 184, 185, 186, 187, 188, 189, 190, 191, 192, 193, 194, 195, 196, 197, 198, 199, 200, 201] rfl (by decide +kernel)) (goodIn_sub (fun _ h => List.mem_cons_of_mem _ (List.mem_append_right _ h)) (by decide +kernel))
set_option maxRecDepth 20000 in
theorem gL_look_X10_look : GoodIn wsL_look (wsV RL 69 RX10 yX10_look wsX10_look) := goodIn_app (goodIn_r _ [2, 3, 4, 5] rfl (by decide +kernel)) ggL_look_X10_look
theorem eL_look_0q : (decode cL_look 0 = .ok (.aload 4, 2)) ∧ (decode cL_look 2 = .ok (.iconst 0, 1)) ∧ (decode cL_look 3 = .ok (.aload_n 0, 1)) ∧ (decode cL_look 4 = .ok (.iload_n 1, 1)) ∧ (decode cL_look 5 = .ok (.iload_n 2, 1)) ∧ (decode cL_look 6 = .ok (.iload_n 3, 1)) ∧ (decode cL_look 7 = .ok (.invokevirtual 69, 3)) ∧ (decode cL_look 10 = .ok (.i2l, 1)) := by decide +kernel
theorem dL_look_0 : decode cL_look 0 = .ok (.aload 4, 2) := eL_look_0q.1
theorem dL_look_2 : decode cL_look 2 = .ok (.iconst 0, 1) := eL_look_0q.2.1
theorem dL_look_3 : decode cL_look 3 = .ok (.aload_n 0, 1) := eL_look_0q.2.2.1
theorem dL_look_4 : decode cL_look 4 = .ok (.iload_n 1, 1) := eL_look_0q.2.2.2.1
theorem dL_look_5 : decode cL_look 5 = .ok (.iload_n 2, 1) := eL_look_0q.2.2.2.2.1
theorem dL_look_6 : decode cL_look 6 = .ok (.iload_n 3, 1) := eL_look_0q.2.2.2.2.2.1
theorem dL_look_7 : decode cL_look 7 = .ok (.invokevirtual 69, 3) := eL_look_0q.2.2.2.2.2.2.1
theorem dL_look_10 : decode cL_look 10 = .ok (.i2l, 1) := eL_look_0q.2.2.2.2.2.2.2
theorem eL_look_11q : (decode cL_look 11 = .ok (.lastore, 1)) ∧ (decode cL_look 12 = .ok (.goto 7, 3)) ∧ (decode cL_look 15 = .ok (.astore 5, 2)) ∧ (decode cL_look 17 = .ok (.iconst 1, 1)) ∧ (decode cL_look 18 = .ok (.ireturn, 1)) ∧ (decode cL_look 19 = .ok (.iconst 0, 1)) ∧ (decode cL_look 20 = .ok (.ireturn, 1)) := by decide +kernel
theorem dL_look_11 : decode cL_look 11 = .ok (.lastore, 1) := eL_look_11q.1
theorem dL_look_12 : decode cL_look 12 = .ok (.goto 7, 3) := eL_look_11q.2.1
theorem dL_look_15 : decode cL_look 15 = .ok (.astore 5, 2) := eL_look_11q.2.2.1
theorem dL_look_17 : decode cL_look 17 = .ok (.iconst 1, 1) := eL_look_11q.2.2.2.1
theorem dL_look_18 : decode cL_look 18 = .ok (.ireturn, 1) := eL_look_11q.2.2.2.2.1
theorem dL_look_19 : decode cL_look 19 = .ok (.iconst 0, 1) := eL_look_11q.2.2.2.2.2.1
theorem dL_look_20 : decode cL_look 20 = .ok (.ireturn, 1) := eL_look_11q.2.2.2.2.2.2
