theorem dX2_hasRouter_0 : decode cX2_hasRouter 0 = .ok (.iload_n 1, 1) := by decide +kernel
theorem dX2_hasRouter_1 : decode cX2_hasRouter 1 = .ok (.ifCond .lt 15, 3) := by decide +kernel
theorem dX2_hasRouter_4 : decode cX2_hasRouter 4 = .ok (.iload_n 1, 1) := by decide +kernel
theorem dX2_hasRouter_5 : decode cX2_hasRouter 5 = .ok (.aload_n 0, 1) := by decide +kernel
theorem dX2_hasRouter_6 : decode cX2_hasRouter 6 = .ok (.getfield 33, 3) := by decide +kernel
theorem dX2_hasRouter_9 : decode cX2_hasRouter 9 = .ok (.if_icmp .ge 7, 3) := by decide +kernel
theorem dX2_hasRouter_12 : decode cX2_hasRouter 12 = .ok (.iconst 1, 1) := by decide +kernel
theorem dX2_hasRouter_13 : decode cX2_hasRouter 13 = .ok (.goto 4, 3) := by decide +kernel
theorem dX2_hasRouter_16 : decode cX2_hasRouter 16 = .ok (.iconst 0, 1) := by decide +kernel
theorem dX2_hasRouter_17 : decode cX2_hasRouter 17 = .ok (.ireturn, 1) := by decide +kernel
theorem dX2_hasLink_0 : decode cX2_hasLink 0 = .ok (.iload_n 1, 1) := by decide +kernel
theorem dX2_hasLink_1 : decode cX2_hasLink 1 = .ok (.ifCond .lt 15, 3) := by decide +kernel
theorem dX2_hasLink_4 : decode cX2_hasLink 4 = .ok (.iload_n 1, 1) := by decide +kernel
theorem dX2_hasLink_5 : decode cX2_hasLink 5 = .ok (.aload_n 0, 1) := by decide +kernel
theorem dX2_hasLink_6 : decode cX2_hasLink 6 = .ok (.getfield 37, 3) := by decide +kernel
theorem dX2_hasLink_9 : decode cX2_hasLink 9 = .ok (.if_icmp .ge 7, 3) := by decide +kernel
theorem dX2_hasLink_12 : decode cX2_hasLink 12 = .ok (.iconst 1, 1) := by decide +kernel
theorem dX2_hasLink_13 : decode cX2_hasLink 13 = .ok (.goto 4, 3) := by decide +kernel
theorem dX2_hasLink_16 : decode cX2_hasLink 16 = .ok (.iconst 0, 1) := by decide +kernel
theorem dX2_hasLink_17 : decode cX2_hasLink 17 = .ok (.ireturn, 1) := by decide +kernel
theorem dX2_hasGoal_0 : decode cX2_hasGoal 0 = .ok (.iload_n 1, 1) := by decide +kernel
theorem dX2_hasGoal_1 : decode cX2_hasGoal 1 = .ok (.ifCond .lt 15, 3) := by decide +kernel
theorem dX2_hasGoal_4 : decode cX2_hasGoal 4 = .ok (.iload_n 1, 1) := by decide +kernel
theorem dX2_hasGoal_5 : decode cX2_hasGoal 5 = .ok (.aload_n 0, 1) := by decide +kernel
theorem dX2_hasGoal_6 : decode cX2_hasGoal 6 = .ok (.getfield 40, 3) := by decide +kernel
theorem dX2_hasGoal_9 : decode cX2_hasGoal 9 = .ok (.if_icmp .ge 7, 3) := by decide +kernel
theorem dX2_hasGoal_12 : decode cX2_hasGoal 12 = .ok (.iconst 1, 1) := by decide +kernel
theorem dX2_hasGoal_13 : decode cX2_hasGoal 13 = .ok (.goto 4, 3) := by decide +kernel
theorem dX2_hasGoal_16 : decode cX2_hasGoal 16 = .ok (.iconst 0, 1) := by decide +kernel
theorem dX2_hasGoal_17 : decode cX2_hasGoal 17 = .ok (.ireturn, 1) := by decide +kernel
theorem dX2_hasAddress_0 : decode cX2_hasAddress 0 = .ok (.aload_n 0, 1) := by decide +kernel
theorem dX2_hasAddress_1 : decode cX2_hasAddress 1 = .ok (.getfield 33, 3) := by decide +kernel
theorem dX2_hasAddress_4 : decode cX2_hasAddress 4 = .ok (.ifCond .le 19, 3) := by decide +kernel
theorem dX2_hasAddress_7 : decode cX2_hasAddress 7 = .ok (.iload_n 1, 1) := by decide +kernel
theorem dX2_hasAddress_8 : decode cX2_hasAddress 8 = .ok (.ifCond .lt 15, 3) := by decide +kernel
theorem dX2_hasAddress_11 : decode cX2_hasAddress 11 = .ok (.iload_n 1, 1) := by decide +kernel
theorem dX2_hasAddress_12 : decode cX2_hasAddress 12 = .ok (.aload_n 0, 1) := by decide +kernel
theorem dX2_hasAddress_13 : decode cX2_hasAddress 13 = .ok (.getfield 37, 3) := by decide +kernel
theorem dX2_hasAddress_16 : decode cX2_hasAddress 16 = .ok (.if_icmp .gt 7, 3) := by decide +kernel
theorem dX2_hasAddress_19 : decode cX2_hasAddress 19 = .ok (.iconst 1, 1) := by decide +kernel
theorem dX2_hasAddress_20 : decode cX2_hasAddress 20 = .ok (.goto 4, 3) := by decide +kernel
theorem dX2_hasAddress_23 : decode cX2_hasAddress 23 = .ok (.iconst 0, 1) := by decide +kernel
theorem dX2_hasAddress_24 : decode cX2_hasAddress 24 = .ok (.ireturn, 1) := by decide +kernel
theorem dX10_fault_0 : decode cX10_fault 0 = .ok (.aload_n 0, 1) := by decide +kernel
theorem dX10_fault_1 : decode cX10_fault 1 = .ok (.getfield 113, 3) := by decide +kernel
theorem dX10_fault_4 : decode cX10_fault 4 = .ok (.ireturn, 1) := by decide +kernel
set_option maxRecDepth 20000 in
theorem ggX10_router_X10_mustBeRouter : GoodIn wsX10_router wsX10_mustBeRouter := goodIn_ca (goodIn_r _ [15, 1, 2, 3, 16, 17, 18, 19, 20, 21, 34, 35, 36, 37, 38, 39, 40, 41, 42, 43, 44, 45, 46, 47, 48, 49, 50, 51, 52, 53, 54, 55, 56, 57, 58, 59, 60, 61, 62, 63, 64, 65, 66, 67] (by decide +kernel) (by decide +kernel)) (goodIn_sub (fun _ h => List.mem_cons_of_mem _ (List.mem_append_right _ h)) (by decide +kernel))
set_option maxRecDepth 20000 in
theorem gX10_router_X10_mustBeRouter : GoodIn wsX10_router (wsV RX10 200 RX10 yX10_mustBeRouter wsX10_mustBeRouter) := goodIn_app (goodIn_of _ (by decide +kernel)) ggX10_router_X10_mustBeRouter
set_option maxRecDepth 20000 in
theorem ggX10_router_X2_linksFrom : GoodIn wsX10_router wsX2_linksFrom := goodIn_r _ [25, 26, 27, 53, 54, 55, 56, 57, 58, 59, 60, 61, 62, 63, 64, 65, 66, 67] (by decide +kernel) (by decide +kernel)
set_option maxRecDepth 20000 in
theorem gX10_router_X2_linksFrom : GoodIn wsX10_router (wsV RX10 221 RX2 yX2_linksFrom wsX2_linksFrom) := goodIn_app (goodIn_of _ (by decide +kernel)) ggX10_router_X2_linksFrom
set_option maxRecDepth 20000 in
theorem ggX10_router_X2_goalAt : GoodIn wsX10_router wsX2_goalAt := goodIn_r _ [31, 32, 33, 53, 54, 55, 56, 57, 58, 59, 60, 61, 62, 63, 64, 65, 66, 67] (by decide +kernel) (by decide +kernel)
set_option maxRecDepth 20000 in
theorem gX10_router_X2_goalAt : GoodIn wsX10_router (wsV RX10 224 RX2 yX2_goalAt wsX2_goalAt) := goodIn_app (goodIn_of _ (by decide +kernel)) ggX10_router_X2_goalAt
theorem dX10_router_0 : decode cX10_router 0 = .ok (.aload_n 0, 1) := by decide +kernel
theorem dX10_router_1 : decode cX10_router 1 = .ok (.iload_n 1, 1) := by decide +kernel
theorem dX10_router_2 : decode cX10_router 2 = .ok (.invokevirtual 200, 3) := by decide +kernel
theorem dX10_router_5 : decode cX10_router 5 = .ok (.iload_n 2, 1) := by decide +kernel
theorem dX10_router_6 : decode cX10_router 6 = .ok (.tableswitch 124 0 7 #[46, 56, 66, 76, 86, 96, 106, 115], 46) := by decide +kernel
theorem dX10_router_52 : decode cX10_router 52 = .ok (.aload_n 0, 1) := by decide +kernel
theorem dX10_router_53 : decode cX10_router 53 = .ok (.getfield 19, 3) := by decide +kernel
theorem dX10_router_56 : decode cX10_router 56 = .ok (.getfield 203, 3) := by decide +kernel
theorem dX10_router_59 : decode cX10_router 59 = .ok (.iload_n 1, 1) := by decide +kernel
theorem dX10_router_60 : decode cX10_router 60 = .ok (.iaload, 1) := by decide +kernel
theorem dX10_router_61 : decode cX10_router 61 = .ok (.ireturn, 1) := by decide +kernel
theorem dX10_router_62 : decode cX10_router 62 = .ok (.aload_n 0, 1) := by decide +kernel
theorem dX10_router_63 : decode cX10_router 63 = .ok (.getfield 19, 3) := by decide +kernel
theorem dX10_router_66 : decode cX10_router 66 = .ok (.getfield 206, 3) := by decide +kernel
theorem dX10_router_69 : decode cX10_router 69 = .ok (.iload_n 1, 1) := by decide +kernel
theorem dX10_router_70 : decode cX10_router 70 = .ok (.iaload, 1) := by decide +kernel
theorem dX10_router_71 : decode cX10_router 71 = .ok (.ireturn, 1) := by decide +kernel
theorem dX10_router_72 : decode cX10_router 72 = .ok (.aload_n 0, 1) := by decide +kernel
theorem dX10_router_73 : decode cX10_router 73 = .ok (.getfield 19, 3) := by decide +kernel
theorem dX10_router_76 : decode cX10_router 76 = .ok (.getfield 209, 3) := by decide +kernel
theorem dX10_router_79 : decode cX10_router 79 = .ok (.iload_n 1, 1) := by decide +kernel
theorem dX10_router_80 : decode cX10_router 80 = .ok (.iaload, 1) := by decide +kernel
theorem dX10_router_81 : decode cX10_router 81 = .ok (.ireturn, 1) := by decide +kernel
theorem dX10_router_82 : decode cX10_router 82 = .ok (.aload_n 0, 1) := by decide +kernel
theorem dX10_router_83 : decode cX10_router 83 = .ok (.getfield 19, 3) := by decide +kernel
theorem dX10_router_86 : decode cX10_router 86 = .ok (.getfield 212, 3) := by decide +kernel
theorem dX10_router_89 : decode cX10_router 89 = .ok (.iload_n 1, 1) := by decide +kernel
theorem dX10_router_90 : decode cX10_router 90 = .ok (.iaload, 1) := by decide +kernel
theorem dX10_router_91 : decode cX10_router 91 = .ok (.ireturn, 1) := by decide +kernel
theorem dX10_router_92 : decode cX10_router 92 = .ok (.aload_n 0, 1) := by decide +kernel
theorem dX10_router_93 : decode cX10_router 93 = .ok (.getfield 38, 3) := by decide +kernel
theorem dX10_router_96 : decode cX10_router 96 = .ok (.getfield 215, 3) := by decide +kernel
theorem dX10_router_99 : decode cX10_router 99 = .ok (.iload_n 1, 1) := by decide +kernel
theorem dX10_router_100 : decode cX10_router 100 = .ok (.iaload, 1) := by decide +kernel
theorem dX10_router_101 : decode cX10_router 101 = .ok (.ireturn, 1) := by decide +kernel
theorem dX10_router_102 : decode cX10_router 102 = .ok (.aload_n 0, 1) := by decide +kernel
theorem dX10_router_103 : decode cX10_router 103 = .ok (.getfield 38, 3) := by decide +kernel
theorem dX10_router_106 : decode cX10_router 106 = .ok (.getfield 218, 3) := by decide +kernel
theorem dX10_router_109 : decode cX10_router 109 = .ok (.iload_n 1, 1) := by decide +kernel
theorem dX10_router_110 : decode cX10_router 110 = .ok (.iaload, 1) := by decide +kernel
theorem dX10_router_111 : decode cX10_router 111 = .ok (.ireturn, 1) := by decide +kernel
theorem dX10_router_112 : decode cX10_router 112 = .ok (.aload_n 0, 1) := by decide +kernel
theorem dX10_router_113 : decode cX10_router 113 = .ok (.getfield 19, 3) := by decide +kernel
theorem dX10_router_116 : decode cX10_router 116 = .ok (.iload_n 1, 1) := by decide +kernel
theorem dX10_router_117 : decode cX10_router 117 = .ok (.invokevirtual 221, 3) := by decide +kernel
theorem dX10_router_120 : decode cX10_router 120 = .ok (.ireturn, 1) := by decide +kernel
theorem dX10_router_121 : decode cX10_router 121 = .ok (.aload_n 0, 1) := by decide +kernel
theorem dX10_router_122 : decode cX10_router 122 = .ok (.getfield 19, 3) := by decide +kernel
theorem dX10_router_125 : decode cX10_router 125 = .ok (.iload_n 1, 1) := by decide +kernel
theorem dX10_router_126 : decode cX10_router 126 = .ok (.invokevirtual 224, 3) := by decide +kernel
theorem dX10_router_129 : decode cX10_router 129 = .ok (.ireturn, 1) := by decide +kernel
theorem dX10_router_130 : decode cX10_router 130 = .ok (.new 195, 3) := by decide +kernel
theorem dX10_router_133 : decode cX10_router 133 = .ok (.dup, 1) := by decide +kernel
theorem dX10_router_134 : decode cX10_router 134 = .ok (.ldc 227, 2) := by decide +kernel
theorem dX10_router_136 : decode cX10_router 136 = .ok (.invokespecial 199, 3) := by decide +kernel
theorem dX10_router_139 : decode cX10_router 139 = .ok (.athrow, 1) := by decide +kernel
set_option maxRecDepth 20000 in
theorem ggX10_link_X10_mustBeLink : GoodIn wsX10_link wsX10_mustBeLink := goodIn_ca (goodIn_r _ [8, 9, 10, 1, 11, 12, 13, 14, 15, 16, 20, 21, 22, 23, 24, 25, 26, 27, 28, 29, 30, 31, 32, 33, 34, 35, 36, 37, 38, 39, 40, 41, 42, 43, 44, 45, 46, 47, 48, 49, 50, 51, 52, 53] (by decide +kernel) (by decide +kernel)) (goodIn_sub (fun _ h => List.mem_cons_of_mem _ (List.mem_append_right _ h)) (by decide +kernel))
set_option maxRecDepth 20000 in
theorem gX10_link_X10_mustBeLink : GoodIn wsX10_link (wsV RX10 229 RX10 yX10_mustBeLink wsX10_mustBeLink) := goodIn_app (goodIn_of _ (by decide +kernel)) ggX10_link_X10_mustBeLink
set_option maxRecDepth 20000 in
theorem ggX10_link_X10_mustBeWhat : GoodIn wsX10_link wsX10_mustBeWhat := goodIn_ca (goodIn_r _ [19, 9, 10] (by decide +kernel) (by decide +kernel)) (goodIn_sub (fun _ h => List.mem_cons_of_mem _ (List.mem_append_right _ h)) (by decide +kernel))
set_option maxRecDepth 20000 in
theorem gX10_link_X10_mustBeWhat : GoodIn wsX10_link (va_wsS RX10 232 yX10_mustBeWhat wsX10_mustBeWhat) := goodIn_app (goodIn_of _ (by decide +kernel)) ggX10_link_X10_mustBeWhat
theorem dX10_link_0 : decode cX10_link 0 = .ok (.aload_n 0, 1) := by decide +kernel
theorem dX10_link_1 : decode cX10_link 1 = .ok (.iload_n 1, 1) := by decide +kernel
theorem dX10_link_2 : decode cX10_link 2 = .ok (.invokevirtual 229, 3) := by decide +kernel
theorem dX10_link_5 : decode cX10_link 5 = .ok (.iload_n 2, 1) := by decide +kernel
theorem dX10_link_6 : decode cX10_link 6 = .ok (.iconst 1, 1) := by decide +kernel
theorem dX10_link_7 : decode cX10_link 7 = .ok (.invokestatic 232, 3) := by decide +kernel
theorem dX10_link_10 : decode cX10_link 10 = .ok (.iload_n 2, 1) := by decide +kernel
theorem dX10_link_11 : decode cX10_link 11 = .ok (.ifCond .ne 15, 3) := by decide +kernel
theorem dX10_link_14 : decode cX10_link 14 = .ok (.aload_n 0, 1) := by decide +kernel
theorem dX10_link_15 : decode cX10_link 15 = .ok (.getfield 19, 3) := by decide +kernel
theorem dX10_link_18 : decode cX10_link 18 = .ok (.getfield 236, 3) := by decide +kernel
theorem dX10_link_21 : decode cX10_link 21 = .ok (.iload_n 1, 1) := by decide +kernel
theorem dX10_link_22 : decode cX10_link 22 = .ok (.iaload, 1) := by decide +kernel
theorem dX10_link_23 : decode cX10_link 23 = .ok (.goto 12, 3) := by decide +kernel
theorem dX10_link_26 : decode cX10_link 26 = .ok (.aload_n 0, 1) := by decide +kernel
theorem dX10_link_27 : decode cX10_link 27 = .ok (.getfield 19, 3) := by decide +kernel
theorem dX10_link_30 : decode cX10_link 30 = .ok (.getfield 239, 3) := by decide +kernel
theorem dX10_link_33 : decode cX10_link 33 = .ok (.iload_n 1, 1) := by decide +kernel
theorem dX10_link_34 : decode cX10_link 34 = .ok (.iaload, 1) := by decide +kernel
theorem dX10_link_35 : decode cX10_link 35 = .ok (.ireturn, 1) := by decide +kernel
set_option maxRecDepth 20000 in
theorem ggX10_seen_X10_mustBePort : GoodIn wsX10_seen wsX10_mustBePort := goodIn_ca (goodIn_r _ [5, 6, 7, 8, 9, 4, 10] (by decide +kernel) (by decide +kernel)) (goodIn_sub (fun _ h => List.mem_cons_of_mem _ (List.mem_append_right _ h)) (by decide +kernel))
set_option maxRecDepth 20000 in
theorem gX10_seen_X10_mustBePort : GoodIn wsX10_seen (va_wsS RX10 242 yX10_mustBePort wsX10_mustBePort) := goodIn_app (goodIn_of _ (by decide +kernel)) ggX10_seen_X10_mustBePort
set_option maxRecDepth 20000 in
theorem ggX10_seen_X10_mustBeGoal : GoodIn wsX10_seen wsX10_mustBeGoal := goodIn_ca (goodIn_r _ [14, 6, 7, 15, 16, 17, 18, 19, 20, 21, 35, 36, 37, 38, 39, 40, 41, 42, 43, 44, 45, 46, 47, 48, 49, 50, 51, 52, 53, 54, 55, 56, 57, 58, 59, 60, 61, 62, 63, 64, 65, 66, 67, 68] (by decide +kernel) (by decide +kernel)) (goodIn_sub (fun _ h => List.mem_cons_of_mem _ (List.mem_append_right _ h)) (by decide +kernel))
set_option maxRecDepth 20000 in
theorem gX10_seen_X10_mustBeGoal : GoodIn wsX10_seen (wsV RX10 245 RX10 yX10_mustBeGoal wsX10_mustBeGoal) := goodIn_app (goodIn_of _ (by decide +kernel)) ggX10_seen_X10_mustBeGoal
set_option maxRecDepth 20000 in
theorem ggX10_seen_X10_mustBeHops : GoodIn wsX10_seen wsX10_mustBeHops := goodIn_ca (goodIn_r _ [24, 6, 7, 25, 26, 4, 27] (by decide +kernel) (by decide +kernel)) (goodIn_sub (fun _ h => List.mem_cons_of_mem _ (List.mem_append_right _ h)) (by decide +kernel))
set_option maxRecDepth 20000 in
theorem gX10_seen_X10_mustBeHops : GoodIn wsX10_seen (va_wsS RX10 248 yX10_mustBeHops wsX10_mustBeHops) := goodIn_app (goodIn_of _ (by decide +kernel)) ggX10_seen_X10_mustBeHops
set_option maxRecDepth 20000 in
theorem ggX10_seen_X0_seenBy : GoodIn wsX10_seen wsX0_seenBy := goodIn_r _ [32, 33, 34, 69, 70, 71, 72, 73, 74, 75, 76, 77, 78] (by decide +kernel) (by decide +kernel)
set_option maxRecDepth 20000 in
theorem gX10_seen_X0_seenBy : GoodIn wsX10_seen (wsV RX10 251 RX0 yX0_seenBy wsX0_seenBy) := goodIn_app (goodIn_of _ (by decide +kernel)) ggX10_seen_X0_seenBy
theorem dX10_seen_0 : decode cX10_seen 0 = .ok (.iload_n 1, 1) := by decide +kernel
theorem dX10_seen_1 : decode cX10_seen 1 = .ok (.invokestatic 242, 3) := by decide +kernel
theorem dX10_seen_4 : decode cX10_seen 4 = .ok (.aload_n 0, 1) := by decide +kernel
theorem dX10_seen_5 : decode cX10_seen 5 = .ok (.iload_n 2, 1) := by decide +kernel
theorem dX10_seen_6 : decode cX10_seen 6 = .ok (.invokevirtual 245, 3) := by decide +kernel
theorem dX10_seen_9 : decode cX10_seen 9 = .ok (.iload_n 3, 1) := by decide +kernel
theorem dX10_seen_10 : decode cX10_seen 10 = .ok (.invokestatic 248, 3) := by decide +kernel
theorem dX10_seen_13 : decode cX10_seen 13 = .ok (.aload_n 0, 1) := by decide +kernel
theorem dX10_seen_14 : decode cX10_seen 14 = .ok (.getfield 38, 3) := by decide +kernel
theorem dX10_seen_17 : decode cX10_seen 17 = .ok (.iload_n 1, 1) := by decide +kernel
theorem dX10_seen_18 : decode cX10_seen 18 = .ok (.iload_n 2, 1) := by decide +kernel
theorem dX10_seen_19 : decode cX10_seen 19 = .ok (.iload_n 3, 1) := by decide +kernel
theorem dX10_seen_20 : decode cX10_seen 20 = .ok (.invokevirtual 251, 3) := by decide +kernel
theorem dX10_seen_23 : decode cX10_seen 23 = .ok (.ireturn, 1) := by decide +kernel
set_option maxRecDepth 20000 in
theorem ggX10_hop_X10_mustBeGoal : GoodIn wsX10_hop wsX10_mustBeGoal := goodIn_ca (goodIn_r _ [10, 1, 2, 5, 11, 12, 13, 14, 15, 16, 91, 92, 93, 94, 95, 96, 97, 98, 99, 100, 101, 102, 103, 104, 105, 106, 107, 108, 109, 110, 111, 112, 113, 114, 115, 116, 117, 118, 119, 120, 121, 122, 123, 124] (by decide +kernel) (by decide +kernel)) (goodIn_sub (fun _ h => List.mem_cons_of_mem _ (List.mem_append_right _ h)) (by decide +kernel))
set_option maxRecDepth 20000 in
theorem gX10_hop_X10_mustBeGoal : GoodIn wsX10_hop (wsV RX10 245 RX10 yX10_mustBeGoal wsX10_mustBeGoal) := goodIn_app (goodIn_of _ (by decide +kernel)) ggX10_hop_X10_mustBeGoal
set_option maxRecDepth 20000 in
theorem ggX10_hop_X10_mustBeHops : GoodIn wsX10_hop wsX10_mustBeHops := goodIn_ca (goodIn_r _ [19, 1, 2, 20, 21, 9, 22] (by decide +kernel) (by decide +kernel)) (goodIn_sub (fun _ h => List.mem_cons_of_mem _ (List.mem_append_right _ h)) (by decide +kernel))
set_option maxRecDepth 20000 in
theorem gX10_hop_X10_mustBeHops : GoodIn wsX10_hop (va_wsS RX10 248 yX10_mustBeHops wsX10_mustBeHops) := goodIn_app (goodIn_of _ (by decide +kernel)) ggX10_hop_X10_mustBeHops
set_option maxRecDepth 20000 in
theorem ggX10_hop_X0_seenAt : GoodIn wsX10_hop wsX0_seenAt := goodIn_r _ [27, 28, 29, 125, 126, 127, 128, 129, 130, 131, 132, 133, 134] (by decide +kernel) (by decide +kernel)
set_option maxRecDepth 20000 in
theorem gX10_hop_X0_seenAt : GoodIn wsX10_hop (wsV RX10 255 RX0 yX0_seenAt wsX0_seenAt) := goodIn_app (goodIn_of _ (by decide +kernel)) ggX10_hop_X0_seenAt
set_option maxRecDepth 20000 in
theorem ggX10_hop_X0_sentAt : GoodIn wsX10_hop wsX0_sentAt := goodIn_r _ [33, 34, 125, 126, 127, 128, 129, 130, 131, 132, 133, 134] (by decide +kernel) (by decide +kernel)
set_option maxRecDepth 20000 in
theorem gX10_hop_X0_sentAt : GoodIn wsX10_hop (wsV RX10 258 RX0 yX0_sentAt wsX0_sentAt) := goodIn_app (goodIn_of _ (by decide +kernel)) ggX10_hop_X0_sentAt
set_option maxRecDepth 20000 in
theorem ggX10_hop_X7_edgesAt : GoodIn wsX10_hop wsX7_edgesAt := goodIn_r _ [39, 40, 41, 42, 43, 38, 44, 45, 46, 47, 48, 26, 49, 28, 29, 50, 51, 52, 53, 54, 55, 56, 135, 136, 137, 138, 139, 125, 126, 127, 128, 129, 130, 131, 132, 133, 134] (by decide +kernel) (by decide +kernel)
set_option maxRecDepth 20000 in
theorem gX10_hop_X7_edgesAt : GoodIn wsX10_hop (wsV RX10 261 RX7 yX7_edgesAt wsX7_edgesAt) := goodIn_app (goodIn_of _ (by decide +kernel)) ggX10_hop_X7_edgesAt
set_option maxRecDepth 20000 in
theorem ggX10_hop_X2_placesAt : GoodIn wsX10_hop wsX2_placesAt := goodIn_r _ [60, 61, 62, 63, 64, 14, 65, 66, 67, 68, 69, 70, 71, 72, 73, 74, 75, 76, 77, 78, 79, 80, 81, 82, 83, 84, 85, 86, 110, 111, 112, 113, 114, 115, 116, 117, 118, 119, 120, 121, 122, 123, 124] (by decide +kernel) (by decide +kernel)
set_option maxRecDepth 20000 in
theorem gX10_hop_X2_placesAt : GoodIn wsX10_hop (wsV RX10 264 RX2 yX2_placesAt wsX2_placesAt) := goodIn_app (goodIn_of _ (by decide +kernel)) ggX10_hop_X2_placesAt
set_option maxRecDepth 20000 in
theorem ggX10_hop_X10_hiddenAt : GoodIn wsX10_hop wsX10_hiddenAt := goodIn_r _ [90, 5, 3, 57, 58, 59, 14, 60, 61, 62, 63, 64, 65, 66, 67, 68, 69, 70, 71, 72, 73, 74, 75, 76, 77, 78, 79, 80, 81, 82, 83, 84, 85, 86, 23, 24, 25, 26, 27, 28, 29, 91, 92, 93, 94, 95, 96, 97, 98, 99, 100, 101, 102, 103, 104, 105, 106, 107, 108, 109, 110, 111, 112, 113, 114, 115, 116, 117, 118, 119, 120, 121, 122, 123, 124, 125, 126, 127, 128, 129, 130, 131, 132, 133, 134] (by decide +kernel) (by decide +kernel)
set_option maxRecDepth 20000 in
theorem gX10_hop_X10_hiddenAt : GoodIn wsX10_hop (wsV RX10 267 RX10 yX10_hiddenAt wsX10_hiddenAt) := goodIn_app (goodIn_of _ (by decide +kernel)) ggX10_hop_X10_hiddenAt
theorem dX10_hop_0 : decode cX10_hop 0 = .ok (.aload_n 0, 1) := by decide +kernel
theorem dX10_hop_1 : decode cX10_hop 1 = .ok (.iload_n 1, 1) := by decide +kernel
theorem dX10_hop_2 : decode cX10_hop 2 = .ok (.invokevirtual 245, 3) := by decide +kernel
theorem dX10_hop_5 : decode cX10_hop 5 = .ok (.iload_n 2, 1) := by decide +kernel
theorem dX10_hop_6 : decode cX10_hop 6 = .ok (.invokestatic 248, 3) := by decide +kernel
theorem dX10_hop_9 : decode cX10_hop 9 = .ok (.iload_n 3, 1) := by decide +kernel
theorem dX10_hop_10 : decode cX10_hop 10 = .ok (.tableswitch 81 0 4 #[34, 44, 54, 64, 74], 34) := by decide +kernel
theorem dX10_hop_44 : decode cX10_hop 44 = .ok (.aload_n 0, 1) := by decide +kernel
theorem dX10_hop_45 : decode cX10_hop 45 = .ok (.getfield 38, 3) := by decide +kernel
theorem dX10_hop_48 : decode cX10_hop 48 = .ok (.iload_n 1, 1) := by decide +kernel
theorem dX10_hop_49 : decode cX10_hop 49 = .ok (.iload_n 2, 1) := by decide +kernel
theorem dX10_hop_50 : decode cX10_hop 50 = .ok (.invokevirtual 255, 3) := by decide +kernel
theorem dX10_hop_53 : decode cX10_hop 53 = .ok (.ireturn, 1) := by decide +kernel
theorem dX10_hop_54 : decode cX10_hop 54 = .ok (.aload_n 0, 1) := by decide +kernel
theorem dX10_hop_55 : decode cX10_hop 55 = .ok (.getfield 38, 3) := by decide +kernel
theorem dX10_hop_58 : decode cX10_hop 58 = .ok (.iload_n 1, 1) := by decide +kernel
theorem dX10_hop_59 : decode cX10_hop 59 = .ok (.iload_n 2, 1) := by decide +kernel
theorem dX10_hop_60 : decode cX10_hop 60 = .ok (.invokevirtual 258, 3) := by decide +kernel
theorem dX10_hop_63 : decode cX10_hop 63 = .ok (.ireturn, 1) := by decide +kernel
theorem dX10_hop_64 : decode cX10_hop 64 = .ok (.aload_n 0, 1) := by decide +kernel
theorem dX10_hop_65 : decode cX10_hop 65 = .ok (.getfield 57, 3) := by decide +kernel
theorem dX10_hop_68 : decode cX10_hop 68 = .ok (.iload_n 1, 1) := by decide +kernel
theorem dX10_hop_69 : decode cX10_hop 69 = .ok (.iload_n 2, 1) := by decide +kernel
theorem dX10_hop_70 : decode cX10_hop 70 = .ok (.invokevirtual 261, 3) := by decide +kernel
theorem dX10_hop_73 : decode cX10_hop 73 = .ok (.ireturn, 1) := by decide +kernel
theorem dX10_hop_74 : decode cX10_hop 74 = .ok (.aload_n 0, 1) := by decide +kernel
theorem dX10_hop_75 : decode cX10_hop 75 = .ok (.getfield 19, 3) := by decide +kernel
theorem dX10_hop_78 : decode cX10_hop 78 = .ok (.iload_n 1, 1) := by decide +kernel
theorem dX10_hop_79 : decode cX10_hop 79 = .ok (.iload_n 2, 1) := by decide +kernel
theorem dX10_hop_80 : decode cX10_hop 80 = .ok (.invokevirtual 264, 3) := by decide +kernel
theorem dX10_hop_83 : decode cX10_hop 83 = .ok (.ireturn, 1) := by decide +kernel
theorem dX10_hop_84 : decode cX10_hop 84 = .ok (.aload_n 0, 1) := by decide +kernel
theorem dX10_hop_85 : decode cX10_hop 85 = .ok (.iload_n 1, 1) := by decide +kernel
theorem dX10_hop_86 : decode cX10_hop 86 = .ok (.iload_n 2, 1) := by decide +kernel
theorem dX10_hop_87 : decode cX10_hop 87 = .ok (.invokevirtual 267, 3) := by decide +kernel
theorem dX10_hop_90 : decode cX10_hop 90 = .ok (.ireturn, 1) := by decide +kernel
theorem dX10_hop_91 : decode cX10_hop 91 = .ok (.new 195, 3) := by decide +kernel
theorem dX10_hop_94 : decode cX10_hop 94 = .ok (.dup, 1) := by decide +kernel
theorem dX10_hop_95 : decode cX10_hop 95 = .ok (.ldc_w 270, 3) := by decide +kernel
theorem dX10_hop_98 : decode cX10_hop 98 = .ok (.invokespecial 199, 3) := by decide +kernel
theorem dX10_hop_101 : decode cX10_hop 101 = .ok (.athrow, 1) := by decide +kernel
set_option maxRecDepth 20000 in
theorem ggX10_sure_X10_mustBeGoal : GoodIn wsX10_sure wsX10_mustBeGoal := goodIn_ca (goodIn_r _ [8, 9, 10, 11, 12, 13, 14, 15, 16, 17, 58, 59, 60, 61, 62, 63, 64, 65, 66, 67, 68, 69, 70, 71, 72, 73, 74, 75, 76, 77, 78, 79, 80, 81, 82, 83, 84, 85, 86, 87, 88, 89, 90, 91] (by decide +kernel) (by decide +kernel)) (goodIn_sub (fun _ h => List.mem_cons_of_mem _ (List.mem_append_right _ h)) (by decide +kernel))
set_option maxRecDepth 20000 in
theorem gX10_sure_X10_mustBeGoal : GoodIn wsX10_sure (wsV RX10 245 RX10 yX10_mustBeGoal wsX10_mustBeGoal) := goodIn_app (goodIn_of _ (by decide +kernel)) ggX10_sure_X10_mustBeGoal
set_option maxRecDepth 20000 in
theorem ggX10_sure_X10_mustBeHops : GoodIn wsX10_sure wsX10_mustBeHops := goodIn_ca (goodIn_r _ [20, 9, 10, 21, 22, 7, 23] (by decide +kernel) (by decide +kernel)) (goodIn_sub (fun _ h => List.mem_cons_of_mem _ (List.mem_append_right _ h)) (by decide +kernel))
set_option maxRecDepth 20000 in
theorem gX10_sure_X10_mustBeHops : GoodIn wsX10_sure (va_wsS RX10 248 yX10_mustBeHops wsX10_mustBeHops) := goodIn_app (goodIn_of _ (by decide +kernel)) ggX10_sure_X10_mustBeHops
set_option maxRecDepth 20000 in
theorem ggX10_sure_X0_seenAt : GoodIn wsX10_sure wsX0_seenAt := goodIn_r _ [28, 29, 30, 92, 93, 94, 95, 96, 97, 98, 99, 100, 101] (by decide +kernel) (by decide +kernel)
set_option maxRecDepth 20000 in
theorem gX10_sure_X0_seenAt : GoodIn wsX10_sure (wsV RX10 255 RX0 yX0_seenAt wsX0_seenAt) := goodIn_app (goodIn_of _ (by decide +kernel)) ggX10_sure_X0_seenAt
set_option maxRecDepth 20000 in
theorem ggX10_sure_J6_bitCount_0f7a4 : GoodIn wsX10_sure wsJ6_bitCount_0f7a4 := goodIn_r _ [34, 35, 36, 37] (by decide +kernel) (by decide +kernel)
set_option maxRecDepth 20000 in
theorem gX10_sure_J6_bitCount_0f7a4 : GoodIn wsX10_sure (va_wsS RX10 272 yJ6_bitCount_0f7a4 wsJ6_bitCount_0f7a4) := goodIn_app (goodIn_of _ (by decide +kernel)) ggX10_sure_J6_bitCount_0f7a4
set_option maxRecDepth 20000 in
theorem ggX10_sure_X0_sentAt : GoodIn wsX10_sure wsX0_sentAt := goodIn_r _ [41, 42, 92, 93, 94, 95, 96, 97, 98, 99, 100, 101] (by decide +kernel) (by decide +kernel)
set_option maxRecDepth 20000 in
theorem gX10_sure_X0_sentAt : GoodIn wsX10_sure (wsV RX10 258 RX0 yX0_sentAt wsX0_sentAt) := goodIn_app (goodIn_of _ (by decide +kernel)) ggX10_sure_X0_sentAt
set_option maxRecDepth 20000 in
theorem ggX10_sure_X4_missed : GoodIn wsX10_sure wsX4_missed := goodIn_r _ [47, 48, 49, 50, 51, 52, 46, 53, 54, 55, 56, 57, 102, 103, 104] (by decide +kernel) (by decide +kernel)
set_option maxRecDepth 20000 in
theorem gX10_sure_X4_missed : GoodIn wsX10_sure (wsV RX10 279 RX4 yX4_missed wsX4_missed) := goodIn_app (goodIn_of _ (by decide +kernel)) ggX10_sure_X4_missed
theorem dX10_sure_0 : decode cX10_sure 0 = .ok (.aload_n 0, 1) := by decide +kernel
theorem dX10_sure_1 : decode cX10_sure 1 = .ok (.iload_n 1, 1) := by decide +kernel
theorem dX10_sure_2 : decode cX10_sure 2 = .ok (.invokevirtual 245, 3) := by decide +kernel
theorem dX10_sure_5 : decode cX10_sure 5 = .ok (.iload_n 2, 1) := by decide +kernel
theorem dX10_sure_6 : decode cX10_sure 6 = .ok (.invokestatic 248, 3) := by decide +kernel
theorem dX10_sure_9 : decode cX10_sure 9 = .ok (.aload_n 0, 1) := by decide +kernel
theorem dX10_sure_10 : decode cX10_sure 10 = .ok (.getfield 38, 3) := by decide +kernel
theorem dX10_sure_13 : decode cX10_sure 13 = .ok (.iload_n 1, 1) := by decide +kernel
theorem dX10_sure_14 : decode cX10_sure 14 = .ok (.iload_n 2, 1) := by decide +kernel
theorem dX10_sure_15 : decode cX10_sure 15 = .ok (.invokevirtual 255, 3) := by decide +kernel
theorem dX10_sure_18 : decode cX10_sure 18 = .ok (.invokestatic 272, 3) := by decide +kernel
theorem dX10_sure_21 : decode cX10_sure 21 = .ok (.istore_n 3, 1) := by decide +kernel
theorem dX10_sure_22 : decode cX10_sure 22 = .ok (.iload_n 3, 1) := by decide +kernel
theorem dX10_sure_23 : decode cX10_sure 23 = .ok (.ifCond .ne 9, 3) := by decide +kernel
theorem dX10_sure_26 : decode cX10_sure 26 = .ok (.ldc2_w 277, 3) := by decide +kernel
theorem dX10_sure_29 : decode cX10_sure 29 = .ok (.goto 22, 3) := by decide +kernel
theorem dX10_sure_32 : decode cX10_sure 32 = .ok (.aload_n 0, 1) := by decide +kernel
theorem dX10_sure_33 : decode cX10_sure 33 = .ok (.getfield 48, 3) := by decide +kernel
theorem dX10_sure_36 : decode cX10_sure 36 = .ok (.aload_n 0, 1) := by decide +kernel
theorem dX10_sure_37 : decode cX10_sure 37 = .ok (.getfield 38, 3) := by decide +kernel
theorem dX10_sure_40 : decode cX10_sure 40 = .ok (.iload_n 1, 1) := by decide +kernel
theorem dX10_sure_41 : decode cX10_sure 41 = .ok (.iload_n 2, 1) := by decide +kernel
theorem dX10_sure_42 : decode cX10_sure 42 = .ok (.invokevirtual 258, 3) := by decide +kernel
theorem dX10_sure_45 : decode cX10_sure 45 = .ok (.iload_n 3, 1) := by decide +kernel
theorem dX10_sure_46 : decode cX10_sure 46 = .ok (.iconst 1, 1) := by decide +kernel
theorem dX10_sure_47 : decode cX10_sure 47 = .ok (.iadd, 1) := by decide +kernel
theorem dX10_sure_48 : decode cX10_sure 48 = .ok (.invokevirtual 279, 3) := by decide +kernel
theorem dX10_sure_51 : decode cX10_sure 51 = .ok (.lreturn, 1) := by decide +kernel
set_option maxRecDepth 20000 in
theorem ggX10_edge_X10_mustBeGoal : GoodIn wsX10_edge wsX10_mustBeGoal := goodIn_ca (goodIn_r _ [9, 1, 2, 10, 11, 12, 13, 14, 15, 16, 47, 48, 49, 50, 51, 52, 53, 54, 55, 56, 57, 58, 59, 60, 61, 62, 63, 64, 65, 71, 72, 73, 74, 75, 76, 77, 78, 79, 80, 81, 82, 83, 84, 85] (by decide +kernel) (by decide +kernel)) (goodIn_sub (fun _ h => List.mem_cons_of_mem _ (List.mem_append_right _ h)) (by decide +kernel))
set_option maxRecDepth 20000 in
theorem gX10_edge_X10_mustBeGoal : GoodIn wsX10_edge (wsV RX10 245 RX10 yX10_mustBeGoal wsX10_mustBeGoal) := goodIn_app (goodIn_of _ (by decide +kernel)) ggX10_edge_X10_mustBeGoal
set_option maxRecDepth 20000 in
theorem ggX10_edge_X10_mustBeHops : GoodIn wsX10_edge wsX10_mustBeHops := goodIn_ca (goodIn_r _ [19, 1, 2, 20, 21, 8, 22] (by decide +kernel) (by decide +kernel)) (goodIn_sub (fun _ h => List.mem_cons_of_mem _ (List.mem_append_right _ h)) (by decide +kernel))
set_option maxRecDepth 20000 in
theorem gX10_edge_X10_mustBeHops : GoodIn wsX10_edge (va_wsS RX10 248 yX10_mustBeHops wsX10_mustBeHops) := goodIn_app (goodIn_of _ (by decide +kernel)) ggX10_edge_X10_mustBeHops
set_option maxRecDepth 20000 in
theorem ggX10_edge_X10_mustBeAddress : GoodIn wsX10_edge wsX10_mustBeAddress := goodIn_ca (goodIn_r _ [26, 1, 2, 10, 27, 28, 29, 14, 30, 31, 32, 47, 48, 49, 50, 51, 52, 53, 54, 55, 56, 57, 58, 59, 60, 61, 62, 63, 64, 65, 71, 72, 73, 74, 75, 76, 77, 78, 79, 80, 81, 82, 83, 84, 85] (by decide +kernel) (by decide +kernel)) (goodIn_sub (fun _ h => List.mem_cons_of_mem _ (List.mem_append_right _ h)) (by decide +kernel))
set_option maxRecDepth 20000 in
theorem gX10_edge_X10_mustBeAddress : GoodIn wsX10_edge (wsV RX10 285 RX10 yX10_mustBeAddress wsX10_mustBeAddress) := goodIn_app (goodIn_of _ (by decide +kernel)) ggX10_edge_X10_mustBeAddress
set_option maxRecDepth 20000 in
theorem ggX10_edge_X7_drawEdges : GoodIn wsX10_edge wsX7_drawEdges := goodIn_r _ [37, 38, 39, 40, 41, 42, 43, 44, 45, 46, 66, 67, 68, 69, 70, 86, 87, 88, 89, 90, 91, 92, 93, 94, 95] (by decide +kernel) (by decide +kernel)
set_option maxRecDepth 20000 in
theorem gX10_edge_X7_drawEdges : GoodIn wsX10_edge (wsV RX10 290 RX7 yX7_drawEdges wsX7_drawEdges) := goodIn_app (goodIn_of _ (by decide +kernel)) ggX10_edge_X7_drawEdges
theorem dX10_edge_0 : decode cX10_edge 0 = .ok (.aload_n 0, 1) := by decide +kernel
theorem dX10_edge_1 : decode cX10_edge 1 = .ok (.iload_n 1, 1) := by decide +kernel
theorem dX10_edge_2 : decode cX10_edge 2 = .ok (.invokevirtual 245, 3) := by decide +kernel
theorem dX10_edge_5 : decode cX10_edge 5 = .ok (.iload_n 2, 1) := by decide +kernel
theorem dX10_edge_6 : decode cX10_edge 6 = .ok (.invokestatic 248, 3) := by decide +kernel
theorem dX10_edge_9 : decode cX10_edge 9 = .ok (.aload_n 0, 1) := by decide +kernel
theorem dX10_edge_10 : decode cX10_edge 10 = .ok (.iload_n 3, 1) := by decide +kernel
theorem dX10_edge_11 : decode cX10_edge 11 = .ok (.invokevirtual 285, 3) := by decide +kernel
theorem dX10_edge_14 : decode cX10_edge 14 = .ok (.aload_n 0, 1) := by decide +kernel
theorem dX10_edge_15 : decode cX10_edge 15 = .ok (.iload 4, 2) := by decide +kernel
theorem dX10_edge_17 : decode cX10_edge 17 = .ok (.invokevirtual 285, 3) := by decide +kernel
theorem dX10_edge_20 : decode cX10_edge 20 = .ok (.iload_n 2, 1) := by decide +kernel
theorem dX10_edge_21 : decode cX10_edge 21 = .ok (.bipush 10, 2) := by decide +kernel
theorem dX10_edge_23 : decode cX10_edge 23 = .ok (.if_icmp .ne 14, 3) := by decide +kernel
theorem dX10_edge_26 : decode cX10_edge 26 = .ok (.new 195, 3) := by decide +kernel
theorem dX10_edge_29 : decode cX10_edge 29 = .ok (.dup, 1) := by decide +kernel
theorem dX10_edge_30 : decode cX10_edge 30 = .ok (.ldc_w 288, 3) := by decide +kernel
theorem dX10_edge_33 : decode cX10_edge 33 = .ok (.invokespecial 199, 3) := by decide +kernel
theorem dX10_edge_36 : decode cX10_edge 36 = .ok (.athrow, 1) := by decide +kernel
theorem dX10_edge_37 : decode cX10_edge 37 = .ok (.aload_n 0, 1) := by decide +kernel
theorem dX10_edge_38 : decode cX10_edge 38 = .ok (.getfield 57, 3) := by decide +kernel
theorem dX10_edge_41 : decode cX10_edge 41 = .ok (.iload_n 1, 1) := by decide +kernel
theorem dX10_edge_42 : decode cX10_edge 42 = .ok (.iload_n 2, 1) := by decide +kernel
theorem dX10_edge_43 : decode cX10_edge 43 = .ok (.invokevirtual 290, 3) := by decide +kernel
theorem dX10_edge_46 : decode cX10_edge 46 = .ok (.aload_n 0, 1) := by decide +kernel
theorem dX10_edge_47 : decode cX10_edge 47 = .ok (.getfield 57, 3) := by decide +kernel
theorem dX10_edge_50 : decode cX10_edge 50 = .ok (.getfield 293, 3) := by decide +kernel
theorem dX10_edge_53 : decode cX10_edge 53 = .ok (.iload_n 3, 1) := by decide +kernel
theorem dX10_edge_54 : decode cX10_edge 54 = .ok (.iaload, 1) := by decide +kernel
theorem dX10_edge_55 : decode cX10_edge 55 = .ok (.iload 4, 2) := by decide +kernel
theorem dX10_edge_57 : decode cX10_edge 57 = .ok (.ishr, 1) := by decide +kernel
theorem dX10_edge_58 : decode cX10_edge 58 = .ok (.iconst 1, 1) := by decide +kernel
theorem dX10_edge_59 : decode cX10_edge 59 = .ok (.iand, 1) := by decide +kernel
theorem dX10_edge_60 : decode cX10_edge 60 = .ok (.ireturn, 1) := by decide +kernel
set_option maxRecDepth 20000 in
theorem ggX10_diamond_X10_mustBeGoal : GoodIn wsX10_diamond wsX10_mustBeGoal := goodIn_ca (goodIn_r _ [10, 1, 2, 11, 12, 13, 14, 15, 16, 17, 75, 76, 77, 78, 79, 80, 81, 82, 83, 84, 85, 86, 87, 88, 89, 90, 91, 92, 93, 99, 100, 101, 102, 103, 104, 105, 106, 107, 108, 109, 110, 111, 112, 113] (by decide +kernel) (by decide +kernel)) (goodIn_sub (fun _ h => List.mem_cons_of_mem _ (List.mem_append_right _ h)) (by decide +kernel))
set_option maxRecDepth 20000 in
theorem gX10_diamond_X10_mustBeGoal : GoodIn wsX10_diamond (wsV RX10 245 RX10 yX10_mustBeGoal wsX10_mustBeGoal) := goodIn_app (goodIn_of _ (by decide +kernel)) ggX10_diamond_X10_mustBeGoal
set_option maxRecDepth 20000 in
theorem ggX10_diamond_X10_mustBeWhat : GoodIn wsX10_diamond wsX10_mustBeWhat := goodIn_ca (goodIn_r _ [20, 1, 2] (by decide +kernel) (by decide +kernel)) (goodIn_sub (fun _ h => List.mem_cons_of_mem _ (List.mem_append_right _ h)) (by decide +kernel))
set_option maxRecDepth 20000 in
theorem gX10_diamond_X10_mustBeWhat : GoodIn wsX10_diamond (va_wsS RX10 232 yX10_mustBeWhat wsX10_mustBeWhat) := goodIn_app (goodIn_of _ (by decide +kernel)) ggX10_diamond_X10_mustBeWhat
set_option maxRecDepth 20000 in
theorem ggX10_diamond_X7_findDiamonds : GoodIn wsX10_diamond wsX7_findDiamonds := goodIn_r _ [25, 26, 27, 28, 29, 30, 24, 31, 32, 33, 34, 35, 36, 37, 38, 39, 40, 41, 42, 43, 44, 45, 46, 94, 95, 96, 97, 98, 114, 115, 116, 117, 118, 119, 120, 121, 122, 123] (by decide +kernel) (by decide +kernel)
set_option maxRecDepth 20000 in
theorem gX10_diamond_X7_findDiamonds : GoodIn wsX10_diamond (wsV RX10 296 RX7 yX7_findDiamonds wsX7_findDiamonds) := goodIn_app (goodIn_of _ (by decide +kernel)) ggX10_diamond_X7_findDiamonds
set_option maxRecDepth 20000 in
theorem ggX10_diamond_X7_widthOf : GoodIn wsX10_diamond wsX7_widthOf := goodIn_r _ [50, 51, 52, 53, 54, 28, 29, 30, 24, 31, 32, 33, 34, 35, 36, 37, 38, 39, 40, 41, 42, 43, 44, 45, 46, 94, 95, 96, 97, 98, 114, 115, 116, 117, 118, 119, 120, 121, 122, 123] (by decide +kernel) (by decide +kernel)
set_option maxRecDepth 20000 in
theorem gX10_diamond_X7_widthOf : GoodIn wsX10_diamond (wsV RX10 307 RX7 yX7_widthOf wsX7_widthOf) := goodIn_app (goodIn_of _ (by decide +kernel)) ggX10_diamond_X7_widthOf
set_option maxRecDepth 20000 in
theorem ggX10_diamond_X7_skewOf : GoodIn wsX10_diamond wsX7_skewOf := goodIn_r _ [58, 51, 52, 53, 54, 59, 60, 61, 24, 62, 32, 63, 64, 65, 66, 33, 34, 35, 36, 37, 38, 39, 67, 68, 69, 70, 71, 72, 73, 74, 40, 41, 42, 43, 44, 45, 46, 94, 95, 96, 97, 98, 114, 115, 116, 117, 118, 119, 120, 121, 122, 123] (by decide +kernel) (by decide +kernel)
set_option maxRecDepth 20000 in
theorem gX10_diamond_X7_skewOf : GoodIn wsX10_diamond (wsV RX10 310 RX7 yX7_skewOf wsX7_skewOf) := goodIn_app (goodIn_of _ (by decide +kernel)) ggX10_diamond_X7_skewOf
theorem dX10_diamond_0 : decode cX10_diamond 0 = .ok (.aload_n 0, 1) := by decide +kernel
theorem dX10_diamond_1 : decode cX10_diamond 1 = .ok (.iload_n 1, 1) := by decide +kernel
theorem dX10_diamond_2 : decode cX10_diamond 2 = .ok (.invokevirtual 245, 3) := by decide +kernel
theorem dX10_diamond_5 : decode cX10_diamond 5 = .ok (.iload_n 3, 1) := by decide +kernel
theorem dX10_diamond_6 : decode cX10_diamond 6 = .ok (.iconst 3, 1) := by decide +kernel
theorem dX10_diamond_7 : decode cX10_diamond 7 = .ok (.invokestatic 232, 3) := by decide +kernel
theorem dX10_diamond_10 : decode cX10_diamond 10 = .ok (.aload_n 0, 1) := by decide +kernel
theorem dX10_diamond_11 : decode cX10_diamond 11 = .ok (.getfield 57, 3) := by decide +kernel
theorem dX10_diamond_14 : decode cX10_diamond 14 = .ok (.iload_n 1, 1) := by decide +kernel
theorem dX10_diamond_15 : decode cX10_diamond 15 = .ok (.invokevirtual 296, 3) := by decide +kernel
theorem dX10_diamond_18 : decode cX10_diamond 18 = .ok (.istore 4, 2) := by decide +kernel
theorem dX10_diamond_20 : decode cX10_diamond 20 = .ok (.iload_n 2, 1) := by decide +kernel
theorem dX10_diamond_21 : decode cX10_diamond 21 = .ok (.iconst (-1), 1) := by decide +kernel
theorem dX10_diamond_22 : decode cX10_diamond 22 = .ok (.if_icmp .ne 6, 3) := by decide +kernel
theorem dX10_diamond_25 : decode cX10_diamond 25 = .ok (.iload 4, 2) := by decide +kernel
theorem dX10_diamond_27 : decode cX10_diamond 27 = .ok (.ireturn, 1) := by decide +kernel
theorem dX10_diamond_28 : decode cX10_diamond 28 = .ok (.iload_n 2, 1) := by decide +kernel
theorem dX10_diamond_29 : decode cX10_diamond 29 = .ok (.ifCond .lt 9, 3) := by decide +kernel
theorem dX10_diamond_32 : decode cX10_diamond 32 = .ok (.iload_n 2, 1) := by decide +kernel
theorem dX10_diamond_33 : decode cX10_diamond 33 = .ok (.iload 4, 2) := by decide +kernel
theorem dX10_diamond_35 : decode cX10_diamond 35 = .ok (.if_icmp .lt 14, 3) := by decide +kernel
theorem dX10_diamond_38 : decode cX10_diamond 38 = .ok (.new 195, 3) := by decide +kernel
theorem dX10_diamond_41 : decode cX10_diamond 41 = .ok (.dup, 1) := by decide +kernel
theorem dX10_diamond_42 : decode cX10_diamond 42 = .ok (.ldc_w 299, 3) := by decide +kernel
theorem dX10_diamond_45 : decode cX10_diamond 45 = .ok (.invokespecial 199, 3) := by decide +kernel
theorem dX10_diamond_48 : decode cX10_diamond 48 = .ok (.athrow, 1) := by decide +kernel
theorem dX10_diamond_49 : decode cX10_diamond 49 = .ok (.aload_n 0, 1) := by decide +kernel
theorem dX10_diamond_50 : decode cX10_diamond 50 = .ok (.getfield 57, 3) := by decide +kernel
theorem dX10_diamond_53 : decode cX10_diamond 53 = .ok (.getfield 301, 3) := by decide +kernel
theorem dX10_diamond_56 : decode cX10_diamond 56 = .ok (.iload_n 2, 1) := by decide +kernel
theorem dX10_diamond_57 : decode cX10_diamond 57 = .ok (.iaload, 1) := by decide +kernel
theorem dX10_diamond_58 : decode cX10_diamond 58 = .ok (.istore 5, 2) := by decide +kernel
theorem dX10_diamond_60 : decode cX10_diamond 60 = .ok (.aload_n 0, 1) := by decide +kernel
theorem dX10_diamond_61 : decode cX10_diamond 61 = .ok (.getfield 57, 3) := by decide +kernel
theorem dX10_diamond_64 : decode cX10_diamond 64 = .ok (.getfield 304, 3) := by decide +kernel
theorem dX10_diamond_67 : decode cX10_diamond 67 = .ok (.iload_n 2, 1) := by decide +kernel
theorem dX10_diamond_68 : decode cX10_diamond 68 = .ok (.iaload, 1) := by decide +kernel
theorem dX10_diamond_69 : decode cX10_diamond 69 = .ok (.istore 6, 2) := by decide +kernel
theorem dX10_diamond_71 : decode cX10_diamond 71 = .ok (.iload_n 3, 1) := by decide +kernel
theorem dX10_diamond_72 : decode cX10_diamond 72 = .ok (.tableswitch 47 0 2 #[28, 31, 34], 28) := by decide +kernel
theorem dX10_diamond_100 : decode cX10_diamond 100 = .ok (.iload 5, 2) := by decide +kernel
theorem dX10_diamond_102 : decode cX10_diamond 102 = .ok (.ireturn, 1) := by decide +kernel
theorem dX10_diamond_103 : decode cX10_diamond 103 = .ok (.iload 6, 2) := by decide +kernel
theorem dX10_diamond_105 : decode cX10_diamond 105 = .ok (.ireturn, 1) := by decide +kernel
theorem dX10_diamond_106 : decode cX10_diamond 106 = .ok (.aload_n 0, 1) := by decide +kernel
theorem dX10_diamond_107 : decode cX10_diamond 107 = .ok (.getfield 57, 3) := by decide +kernel
theorem dX10_diamond_110 : decode cX10_diamond 110 = .ok (.iload_n 1, 1) := by decide +kernel
theorem dX10_diamond_111 : decode cX10_diamond 111 = .ok (.iload 5, 2) := by decide +kernel
theorem dX10_diamond_113 : decode cX10_diamond 113 = .ok (.iload 6, 2) := by decide +kernel
theorem dX10_diamond_115 : decode cX10_diamond 115 = .ok (.invokevirtual 307, 3) := by decide +kernel
theorem dX10_diamond_118 : decode cX10_diamond 118 = .ok (.ireturn, 1) := by decide +kernel
theorem dX10_diamond_119 : decode cX10_diamond 119 = .ok (.aload_n 0, 1) := by decide +kernel
theorem dX10_diamond_120 : decode cX10_diamond 120 = .ok (.getfield 57, 3) := by decide +kernel
theorem dX10_diamond_123 : decode cX10_diamond 123 = .ok (.iload_n 1, 1) := by decide +kernel
theorem dX10_diamond_124 : decode cX10_diamond 124 = .ok (.iload 5, 2) := by decide +kernel
theorem dX10_diamond_126 : decode cX10_diamond 126 = .ok (.iload 6, 2) := by decide +kernel
theorem dX10_diamond_128 : decode cX10_diamond 128 = .ok (.invokevirtual 310, 3) := by decide +kernel
theorem dX10_diamond_131 : decode cX10_diamond 131 = .ok (.ireturn, 1) := by decide +kernel
set_option maxRecDepth 20000 in
theorem ggX10_loop_X10_mustBePort : GoodIn wsX10_loop wsX10_mustBePort := goodIn_ca (goodIn_r _ [7, 8, 9, 10, 11, 6, 12] (by decide +kernel) (by decide +kernel)) (goodIn_sub (fun _ h => List.mem_cons_of_mem _ (List.mem_append_right _ h)) (by decide +kernel))
set_option maxRecDepth 20000 in
theorem gX10_loop_X10_mustBePort : GoodIn wsX10_loop (va_wsS RX10 242 yX10_mustBePort wsX10_mustBePort) := goodIn_app (goodIn_of _ (by decide +kernel)) ggX10_loop_X10_mustBePort
set_option maxRecDepth 20000 in
theorem ggX10_loop_X10_mustBeGoal : GoodIn wsX10_loop wsX10_mustBeGoal := goodIn_ca (goodIn_r _ [16, 8, 9, 2, 17, 18, 19, 20, 21, 22, 62, 63, 64, 65, 66, 67, 68, 69, 70, 71, 72, 73, 74, 75, 76, 77, 78, 79, 80, 81, 82, 83, 84, 85, 86, 87, 88, 89, 90, 91, 92, 93, 94, 95] (by decide +kernel) (by decide +kernel)) (goodIn_sub (fun _ h => List.mem_cons_of_mem _ (List.mem_append_right _ h)) (by decide +kernel))
set_option maxRecDepth 20000 in
theorem gX10_loop_X10_mustBeGoal : GoodIn wsX10_loop (wsV RX10 245 RX10 yX10_mustBeGoal wsX10_mustBeGoal) := goodIn_app (goodIn_of _ (by decide +kernel)) ggX10_loop_X10_mustBeGoal
set_option maxRecDepth 20000 in
theorem ggX10_loop_X10_mustBeWhat : GoodIn wsX10_loop wsX10_mustBeWhat := goodIn_ca (goodIn_r _ [25, 8, 9] (by decide +kernel) (by decide +kernel)) (goodIn_sub (fun _ h => List.mem_cons_of_mem _ (List.mem_append_right _ h)) (by decide +kernel))
set_option maxRecDepth 20000 in
theorem gX10_loop_X10_mustBeWhat : GoodIn wsX10_loop (va_wsS RX10 232 yX10_mustBeWhat wsX10_mustBeWhat) := goodIn_app (goodIn_of _ (by decide +kernel)) ggX10_loop_X10_mustBeWhat
set_option maxRecDepth 20000 in
theorem ggX10_loop_X7_loopOf : GoodIn wsX10_loop wsX7_loopOf := goodIn_r _ [30, 31, 32, 33, 34, 35, 36, 37, 38, 39, 40, 41, 42, 43, 20, 44, 45, 46, 96, 97, 98, 99, 100, 81, 82, 83, 84, 85, 86, 87, 88, 89, 90, 91, 92, 93, 94, 95, 101, 102, 103, 104, 105, 106, 107, 108, 109, 110] (by decide +kernel) (by decide +kernel)
set_option maxRecDepth 20000 in
theorem gX10_loop_X7_loopOf : GoodIn wsX10_loop (wsV RX10 313 RX7 yX7_loopOf wsX7_loopOf) := goodIn_app (goodIn_of _ (by decide +kernel)) ggX10_loop_X7_loopOf
set_option maxRecDepth 20000 in
theorem ggX10_loop_X0_seenBy : GoodIn wsX10_loop wsX0_seenBy := goodIn_r _ [38, 39, 40, 101, 102, 103, 104, 105, 106, 107, 108, 109, 110] (by decide +kernel) (by decide +kernel)
set_option maxRecDepth 20000 in
theorem gX10_loop_X0_seenBy : GoodIn wsX10_loop (wsV RX10 251 RX0 yX0_seenBy wsX0_seenBy) := goodIn_app (goodIn_of _ (by decide +kernel)) ggX10_loop_X0_seenBy
set_option maxRecDepth 20000 in
theorem ggX10_loop_X2_routerOf : GoodIn wsX10_loop wsX2_routerOf := goodIn_r _ [44, 45, 46, 81, 82, 83, 84, 85, 86, 87, 88, 89, 90, 91, 92, 93, 94, 95] (by decide +kernel) (by decide +kernel)
set_option maxRecDepth 20000 in
theorem gX10_loop_X2_routerOf : GoodIn wsX10_loop (wsV RX10 316 RX2 yX2_routerOf wsX2_routerOf) := goodIn_app (goodIn_of _ (by decide +kernel)) ggX10_loop_X2_routerOf
set_option maxRecDepth 20000 in
theorem ggX10_loop_X2_whyLoopAt : GoodIn wsX10_loop wsX2_whyLoopAt := goodIn_r _ [52, 45, 46, 53, 54, 55, 56, 57, 58, 59, 20, 60, 61, 81, 82, 83, 84, 85, 86, 87, 88, 89, 90, 91, 92, 93, 94, 95] (by decide +kernel) (by decide +kernel)
set_option maxRecDepth 20000 in
theorem gX10_loop_X2_whyLoopAt : GoodIn wsX10_loop (wsV RX10 319 RX2 yX2_whyLoopAt wsX2_whyLoopAt) := goodIn_app (goodIn_of _ (by decide +kernel)) ggX10_loop_X2_whyLoopAt
theorem dX10_loop_0 : decode cX10_loop 0 = .ok (.iload_n 1, 1) := by decide +kernel
theorem dX10_loop_1 : decode cX10_loop 1 = .ok (.invokestatic 242, 3) := by decide +kernel
theorem dX10_loop_4 : decode cX10_loop 4 = .ok (.aload_n 0, 1) := by decide +kernel
theorem dX10_loop_5 : decode cX10_loop 5 = .ok (.iload_n 2, 1) := by decide +kernel
theorem dX10_loop_6 : decode cX10_loop 6 = .ok (.invokevirtual 245, 3) := by decide +kernel
theorem dX10_loop_9 : decode cX10_loop 9 = .ok (.iload_n 3, 1) := by decide +kernel
theorem dX10_loop_10 : decode cX10_loop 10 = .ok (.iconst 1, 1) := by decide +kernel
theorem dX10_loop_11 : decode cX10_loop 11 = .ok (.invokestatic 232, 3) := by decide +kernel
theorem dX10_loop_14 : decode cX10_loop 14 = .ok (.aload_n 0, 1) := by decide +kernel
theorem dX10_loop_15 : decode cX10_loop 15 = .ok (.getfield 57, 3) := by decide +kernel
theorem dX10_loop_18 : decode cX10_loop 18 = .ok (.iload_n 1, 1) := by decide +kernel
theorem dX10_loop_19 : decode cX10_loop 19 = .ok (.iload_n 2, 1) := by decide +kernel
theorem dX10_loop_20 : decode cX10_loop 20 = .ok (.invokevirtual 313, 3) := by decide +kernel
theorem dX10_loop_23 : decode cX10_loop 23 = .ok (.istore 4, 2) := by decide +kernel
theorem dX10_loop_25 : decode cX10_loop 25 = .ok (.iload_n 3, 1) := by decide +kernel
theorem dX10_loop_26 : decode cX10_loop 26 = .ok (.ifCond .ne 6, 3) := by decide +kernel
theorem dX10_loop_29 : decode cX10_loop 29 = .ok (.iload 4, 2) := by decide +kernel
theorem dX10_loop_31 : decode cX10_loop 31 = .ok (.ireturn, 1) := by decide +kernel
theorem dX10_loop_32 : decode cX10_loop 32 = .ok (.iload 4, 2) := by decide +kernel
theorem dX10_loop_34 : decode cX10_loop 34 = .ok (.iconst (-1), 1) := by decide +kernel
theorem dX10_loop_35 : decode cX10_loop 35 = .ok (.if_icmp .ne 7, 3) := by decide +kernel
theorem dX10_loop_38 : decode cX10_loop 38 = .ok (.iconst 0, 1) := by decide +kernel
theorem dX10_loop_39 : decode cX10_loop 39 = .ok (.goto 28, 3) := by decide +kernel
theorem dX10_loop_42 : decode cX10_loop 42 = .ok (.aload_n 0, 1) := by decide +kernel
theorem dX10_loop_43 : decode cX10_loop 43 = .ok (.getfield 19, 3) := by decide +kernel
theorem dX10_loop_46 : decode cX10_loop 46 = .ok (.aload_n 0, 1) := by decide +kernel
theorem dX10_loop_47 : decode cX10_loop 47 = .ok (.getfield 19, 3) := by decide +kernel
theorem dX10_loop_50 : decode cX10_loop 50 = .ok (.aload_n 0, 1) := by decide +kernel
theorem dX10_loop_51 : decode cX10_loop 51 = .ok (.getfield 38, 3) := by decide +kernel
theorem dX10_loop_54 : decode cX10_loop 54 = .ok (.iload_n 1, 1) := by decide +kernel
theorem dX10_loop_55 : decode cX10_loop 55 = .ok (.iload_n 2, 1) := by decide +kernel
theorem dX10_loop_56 : decode cX10_loop 56 = .ok (.iload 4, 2) := by decide +kernel
theorem dX10_loop_58 : decode cX10_loop 58 = .ok (.invokevirtual 251, 3) := by decide +kernel
theorem dX10_loop_61 : decode cX10_loop 61 = .ok (.invokevirtual 316, 3) := by decide +kernel
theorem dX10_loop_64 : decode cX10_loop 64 = .ok (.invokevirtual 319, 3) := by decide +kernel
theorem dX10_loop_67 : decode cX10_loop 67 = .ok (.ireturn, 1) := by decide +kernel
set_option maxRecDepth 20000 in
theorem ggX10_truth_X10_mustBeGoal : GoodIn wsX10_truth wsX10_mustBeGoal := goodIn_ca (goodIn_r _ [8, 1, 2, 3, 9, 10, 11, 12, 13, 14, 89, 90, 91, 92, 93, 94, 95, 96, 97, 98, 99, 100, 101, 102, 103, 104, 105, 106, 107, 108, 109, 110, 111, 112, 113, 114, 115, 116, 117, 118, 119, 120, 121, 122] (by decide +kernel) (by decide +kernel)) (goodIn_sub (fun _ h => List.mem_cons_of_mem _ (List.mem_append_right _ h)) (by decide +kernel))
set_option maxRecDepth 20000 in
theorem gX10_truth_X10_mustBeGoal : GoodIn wsX10_truth (wsV RX10 245 RX10 yX10_mustBeGoal wsX10_mustBeGoal) := goodIn_app (goodIn_of _ (by decide +kernel)) ggX10_truth_X10_mustBeGoal
set_option maxRecDepth 20000 in
theorem ggX10_truth_X2_waysTo : GoodIn wsX10_truth wsX2_waysTo := goodIn_r _ [18, 19, 20, 21, 22, 23, 24, 25, 12, 26, 27, 28, 29, 30, 31, 32, 108, 109, 110, 111, 112, 113, 114, 115, 116, 117, 118, 119, 120, 121, 122] (by decide +kernel) (by decide +kernel)
set_option maxRecDepth 20000 in
theorem gX10_truth_X2_waysTo : GoodIn wsX10_truth (wsV RX10 322 RX2 yX2_waysTo wsX2_waysTo) := goodIn_app (goodIn_of _ (by decide +kernel)) ggX10_truth_X2_waysTo
set_option maxRecDepth 20000 in
theorem ggX10_truth_X2_longestTo : GoodIn wsX10_truth wsX2_longestTo := goodIn_r _ [36, 19, 20, 21, 22, 37, 38, 39, 40, 23, 24, 25, 12, 26, 27, 28, 29, 30, 31, 32, 108, 109, 110, 111, 112, 113, 114, 115, 116, 117, 118, 119, 120, 121, 122] (by decide +kernel) (by decide +kernel)
set_option maxRecDepth 20000 in
theorem gX10_truth_X2_longestTo : GoodIn wsX10_truth (wsV RX10 325 RX2 yX2_longestTo wsX2_longestTo) := goodIn_app (goodIn_of _ (by decide +kernel)) ggX10_truth_X2_longestTo
set_option maxRecDepth 20000 in
theorem ggX10_truth_X2_shortestTo : GoodIn wsX10_truth wsX2_shortestTo := goodIn_r _ [44, 19, 20, 21, 22, 45, 46, 39, 47, 23, 24, 25, 12, 26, 27, 28, 29, 30, 31, 32, 108, 109, 110, 111, 112, 113, 114, 115, 116, 117, 118, 119, 120, 121, 122] (by decide +kernel) (by decide +kernel)
set_option maxRecDepth 20000 in
theorem gX10_truth_X2_shortestTo : GoodIn wsX10_truth (wsV RX10 328 RX2 yX2_shortestTo wsX2_shortestTo) := goodIn_app (goodIn_of _ (by decide +kernel)) ggX10_truth_X2_shortestTo
set_option maxRecDepth 20000 in
theorem ggX10_truth_X10_hiddenInAll : GoodIn wsX10_truth wsX10_hiddenInAll := goodIn_r _ [51, 52, 53, 54, 7, 55, 3, 56, 57, 58, 59, 12, 60, 20, 61, 62, 63, 64, 65, 66, 67, 68, 69, 70, 71, 72, 73, 74, 22, 23, 24, 25, 26, 27, 28, 29, 30, 31, 32, 75, 76, 77, 78, 79, 80, 81, 82, 83, 84, 85, 86, 87, 88, 89, 90, 91, 92, 93, 94, 95, 96, 97, 98, 99, 100, 101, 102, 103, 104, 105, 106, 107, 108, 109, 110, 111, 112, 113, 114, 115, 116, 117, 118, 119, 120, 121, 122, 123, 124, 125, 126, 127, 128, 129, 130, 131, 132] (by decide +kernel) (by decide +kernel)
set_option maxRecDepth 20000 in
theorem gX10_truth_X10_hiddenInAll : GoodIn wsX10_truth (wsV RX10 331 RX10 yX10_hiddenInAll wsX10_hiddenInAll) := goodIn_app (goodIn_of _ (by decide +kernel)) ggX10_truth_X10_hiddenInAll
theorem dX10_truth_0 : decode cX10_truth 0 = .ok (.aload_n 0, 1) := by decide +kernel
theorem dX10_truth_1 : decode cX10_truth 1 = .ok (.iload_n 1, 1) := by decide +kernel
theorem dX10_truth_2 : decode cX10_truth 2 = .ok (.invokevirtual 245, 3) := by decide +kernel
theorem dX10_truth_5 : decode cX10_truth 5 = .ok (.iload_n 2, 1) := by decide +kernel
theorem dX10_truth_6 : decode cX10_truth 6 = .ok (.tableswitch 63 0 3 #[30, 39, 48, 57], 30) := by decide +kernel
theorem dX10_truth_36 : decode cX10_truth 36 = .ok (.aload_n 0, 1) := by decide +kernel
theorem dX10_truth_37 : decode cX10_truth 37 = .ok (.getfield 19, 3) := by decide +kernel
theorem dX10_truth_40 : decode cX10_truth 40 = .ok (.iload_n 1, 1) := by decide +kernel
theorem dX10_truth_41 : decode cX10_truth 41 = .ok (.invokevirtual 322, 3) := by decide +kernel
theorem dX10_truth_44 : decode cX10_truth 44 = .ok (.ireturn, 1) := by decide +kernel
theorem dX10_truth_45 : decode cX10_truth 45 = .ok (.aload_n 0, 1) := by decide +kernel
theorem dX10_truth_46 : decode cX10_truth 46 = .ok (.getfield 19, 3) := by decide +kernel
theorem dX10_truth_49 : decode cX10_truth 49 = .ok (.iload_n 1, 1) := by decide +kernel
theorem dX10_truth_50 : decode cX10_truth 50 = .ok (.invokevirtual 325, 3) := by decide +kernel
theorem dX10_truth_53 : decode cX10_truth 53 = .ok (.ireturn, 1) := by decide +kernel
theorem dX10_truth_54 : decode cX10_truth 54 = .ok (.aload_n 0, 1) := by decide +kernel
theorem dX10_truth_55 : decode cX10_truth 55 = .ok (.getfield 19, 3) := by decide +kernel
theorem dX10_truth_58 : decode cX10_truth 58 = .ok (.iload_n 1, 1) := by decide +kernel
theorem dX10_truth_59 : decode cX10_truth 59 = .ok (.invokevirtual 328, 3) := by decide +kernel
theorem dX10_truth_62 : decode cX10_truth 62 = .ok (.ireturn, 1) := by decide +kernel
theorem dX10_truth_63 : decode cX10_truth 63 = .ok (.aload_n 0, 1) := by decide +kernel
theorem dX10_truth_64 : decode cX10_truth 64 = .ok (.iload_n 1, 1) := by decide +kernel
theorem dX10_truth_65 : decode cX10_truth 65 = .ok (.invokevirtual 331, 3) := by decide +kernel
theorem dX10_truth_68 : decode cX10_truth 68 = .ok (.ireturn, 1) := by decide +kernel
theorem dX10_truth_69 : decode cX10_truth 69 = .ok (.new 195, 3) := by decide +kernel
theorem dX10_truth_72 : decode cX10_truth 72 = .ok (.dup, 1) := by decide +kernel
theorem dX10_truth_73 : decode cX10_truth 73 = .ok (.ldc_w 334, 3) := by decide +kernel
theorem dX10_truth_76 : decode cX10_truth 76 = .ok (.invokespecial 199, 3) := by decide +kernel
theorem dX10_truth_79 : decode cX10_truth 79 = .ok (.athrow, 1) := by decide +kernel
set_option maxRecDepth 20000 in
theorem ggX10_same_X10_mustBeAddress : GoodIn wsX10_same wsX10_mustBeAddress := goodIn_ca (goodIn_r _ [6, 7, 8, 1, 9, 10, 11, 12, 13, 14, 15, 21, 22, 23, 24, 25, 26, 27, 28, 29, 30, 31, 32, 33, 34, 35, 36, 37, 38, 39, 40, 41, 42, 43, 44, 45, 46, 47, 48, 49, 50, 51, 52, 53, 54] (by decide +kernel) (by decide +kernel)) (goodIn_sub (fun _ h => List.mem_cons_of_mem _ (List.mem_append_right _ h)) (by decide +kernel))
set_option maxRecDepth 20000 in
theorem gX10_same_X10_mustBeAddress : GoodIn wsX10_same (wsV RX10 285 RX10 yX10_mustBeAddress wsX10_mustBeAddress) := goodIn_app (goodIn_of _ (by decide +kernel)) ggX10_same_X10_mustBeAddress
set_option maxRecDepth 20000 in
theorem ggX10_same_X2_routerOf : GoodIn wsX10_same wsX2_routerOf := goodIn_r _ [19, 15, 20, 40, 41, 42, 43, 44, 45, 46, 47, 48, 49, 50, 51, 52, 53, 54] (by decide +kernel) (by decide +kernel)
set_option maxRecDepth 20000 in
theorem gX10_same_X2_routerOf : GoodIn wsX10_same (wsV RX10 316 RX2 yX2_routerOf wsX2_routerOf) := goodIn_app (goodIn_of _ (by decide +kernel)) ggX10_same_X2_routerOf
theorem dX10_same_0 : decode cX10_same 0 = .ok (.aload_n 0, 1) := by decide +kernel
theorem dX10_same_1 : decode cX10_same 1 = .ok (.iload_n 1, 1) := by decide +kernel
theorem dX10_same_2 : decode cX10_same 2 = .ok (.invokevirtual 285, 3) := by decide +kernel
theorem dX10_same_5 : decode cX10_same 5 = .ok (.aload_n 0, 1) := by decide +kernel
theorem dX10_same_6 : decode cX10_same 6 = .ok (.iload_n 2, 1) := by decide +kernel
theorem dX10_same_7 : decode cX10_same 7 = .ok (.invokevirtual 285, 3) := by decide +kernel
theorem dX10_same_10 : decode cX10_same 10 = .ok (.aload_n 0, 1) := by decide +kernel
theorem dX10_same_11 : decode cX10_same 11 = .ok (.getfield 19, 3) := by decide +kernel
theorem dX10_same_14 : decode cX10_same 14 = .ok (.iload_n 1, 1) := by decide +kernel
theorem dX10_same_15 : decode cX10_same 15 = .ok (.invokevirtual 316, 3) := by decide +kernel
theorem dX10_same_18 : decode cX10_same 18 = .ok (.aload_n 0, 1) := by decide +kernel
theorem dX10_same_19 : decode cX10_same 19 = .ok (.getfield 19, 3) := by decide +kernel
theorem dX10_same_22 : decode cX10_same 22 = .ok (.iload_n 2, 1) := by decide +kernel
theorem dX10_same_23 : decode cX10_same 23 = .ok (.invokevirtual 316, 3) := by decide +kernel
theorem dX10_same_26 : decode cX10_same 26 = .ok (.if_icmp .ne 7, 3) := by decide +kernel
theorem dX10_same_29 : decode cX10_same 29 = .ok (.iconst 1, 1) := by decide +kernel
theorem dX10_same_30 : decode cX10_same 30 = .ok (.goto 4, 3) := by decide +kernel
theorem dX10_same_33 : decode cX10_same 33 = .ok (.iconst 0, 1) := by decide +kernel
theorem dX10_same_34 : decode cX10_same 34 = .ok (.ireturn, 1) := by decide +kernel
set_option maxRecDepth 20000 in
theorem ggX10_port_X10_mustBeGoal : GoodIn wsX10_port wsX10_mustBeGoal := goodIn_ca (goodIn_r _ [5, 6, 7, 8, 9, 10, 11, 12, 13, 14, 72, 73, 74, 75, 76, 77, 78, 79, 80, 81, 82, 83, 84, 85, 86, 87, 88, 89, 90, 91, 92, 93, 94, 95, 96, 97, 98, 99, 100, 101, 102, 103, 104, 105] (by decide +kernel) (by decide +kernel)) (goodIn_sub (fun _ h => List.mem_cons_of_mem _ (List.mem_append_right _ h)) (by decide +kernel))
set_option maxRecDepth 20000 in
theorem gX10_port_X10_mustBeGoal : GoodIn wsX10_port (wsV RX10 245 RX10 yX10_mustBeGoal wsX10_mustBeGoal) := goodIn_app (goodIn_of _ (by decide +kernel)) ggX10_port_X10_mustBeGoal
set_option maxRecDepth 20000 in
theorem ggX10_port_X10_mustBeLink : GoodIn wsX10_port wsX10_mustBeLink := goodIn_ca (goodIn_r _ [18, 6, 7, 8, 19, 20, 21, 12, 22, 23, 72, 73, 74, 75, 76, 77, 78, 79, 80, 81, 82, 83, 84, 85, 86, 87, 88, 89, 90, 91, 92, 93, 94, 95, 96, 97, 98, 99, 100, 101, 102, 103, 104, 105] (by decide +kernel) (by decide +kernel)) (goodIn_sub (fun _ h => List.mem_cons_of_mem _ (List.mem_append_right _ h)) (by decide +kernel))
set_option maxRecDepth 20000 in
theorem gX10_port_X10_mustBeLink : GoodIn wsX10_port (wsV RX10 229 RX10 yX10_mustBeLink wsX10_mustBeLink) := goodIn_app (goodIn_of _ (by decide +kernel)) ggX10_port_X10_mustBeLink
set_option maxRecDepth 20000 in
theorem ggX10_port_X10_goesBy : GoodIn wsX10_port wsX10_goesBy := goodIn_r _ [27, 28, 29, 30, 31, 32, 33, 34, 35, 36, 37, 38, 39, 40, 41, 42, 43, 44, 45, 46, 47, 48, 49, 50, 51, 52, 53, 54, 55, 56, 57, 58, 59, 60, 61, 12, 62, 63, 64, 65, 66, 67, 68, 69, 70, 71, 72, 73, 74, 75, 76, 77, 78, 79, 80, 81, 82, 83, 84, 85, 86, 87, 88, 89, 90, 106, 107, 108, 109, 110, 111, 112, 113, 114, 115, 91, 92, 93, 94, 95, 96, 97, 98, 99, 100, 101, 102, 103, 104, 105, 116, 117, 118, 119, 120, 121, 122, 123, 124, 125] (by decide +kernel) (by decide +kernel)
set_option maxRecDepth 20000 in
theorem gX10_port_X10_goesBy : GoodIn wsX10_port (wsV RX10 336 RX10 yX10_goesBy wsX10_goesBy) := goodIn_app (goodIn_of _ (by decide +kernel)) ggX10_port_X10_goesBy
theorem dX10_port_0 : decode cX10_port 0 = .ok (.aload_n 0, 1) := by decide +kernel
theorem dX10_port_1 : decode cX10_port 1 = .ok (.iload_n 1, 1) := by decide +kernel
theorem dX10_port_2 : decode cX10_port 2 = .ok (.invokevirtual 245, 3) := by decide +kernel
theorem dX10_port_5 : decode cX10_port 5 = .ok (.aload_n 0, 1) := by decide +kernel
theorem dX10_port_6 : decode cX10_port 6 = .ok (.iload_n 2, 1) := by decide +kernel
theorem dX10_port_7 : decode cX10_port 7 = .ok (.invokevirtual 229, 3) := by decide +kernel
theorem dX10_port_10 : decode cX10_port 10 = .ok (.iconst 0, 1) := by decide +kernel
theorem dX10_port_11 : decode cX10_port 11 = .ok (.istore_n 3, 1) := by decide +kernel
theorem dX10_port_12 : decode cX10_port 12 = .ok (.iload_n 3, 1) := by decide +kernel
theorem dX10_port_13 : decode cX10_port 13 = .ok (.bipush 32, 2) := by decide +kernel
theorem dX10_port_15 : decode cX10_port 15 = .ok (.if_icmp .ge 21, 3) := by decide +kernel
theorem dX10_port_18 : decode cX10_port 18 = .ok (.aload_n 0, 1) := by decide +kernel
theorem dX10_port_19 : decode cX10_port 19 = .ok (.iload_n 3, 1) := by decide +kernel
theorem dX10_port_20 : decode cX10_port 20 = .ok (.iload_n 1, 1) := by decide +kernel
theorem dX10_port_21 : decode cX10_port 21 = .ok (.iload_n 2, 1) := by decide +kernel
theorem dX10_port_22 : decode cX10_port 22 = .ok (.invokevirtual 336, 3) := by decide +kernel
theorem dX10_port_25 : decode cX10_port 25 = .ok (.ifCond .eq 5, 3) := by decide +kernel
theorem dX10_port_28 : decode cX10_port 28 = .ok (.iload_n 3, 1) := by decide +kernel
theorem dX10_port_29 : decode cX10_port 29 = .ok (.ireturn, 1) := by decide +kernel
theorem dX10_port_30 : decode cX10_port 30 = .ok (.iinc 3 1, 3) := by decide +kernel
theorem dX10_port_33 : decode cX10_port 33 = .ok (.goto (-21), 3) := by decide +kernel
theorem dX10_port_36 : decode cX10_port 36 = .ok (.iconst (-1), 1) := by decide +kernel
theorem dX10_port_37 : decode cX10_port 37 = .ok (.ireturn, 1) := by decide +kernel
set_option maxRecDepth 20000 in
theorem ggX10_use_X10_mustBeGoal : GoodIn wsX10_use wsX10_mustBeGoal := goodIn_ca (goodIn_r _ [5, 6, 7, 8, 9, 10, 11, 12, 13, 14, 72, 73, 74, 75, 76, 77, 78, 79, 80, 81, 82, 83, 84, 85, 86, 87, 88, 89, 90, 91, 92, 93, 94, 95, 96, 97, 98, 99, 100, 101, 102, 103, 104, 105] (by decide +kernel) (by decide +kernel)) (goodIn_sub (fun _ h => List.mem_cons_of_mem _ (List.mem_append_right _ h)) (by decide +kernel))
set_option maxRecDepth 20000 in
theorem gX10_use_X10_mustBeGoal : GoodIn wsX10_use (wsV RX10 245 RX10 yX10_mustBeGoal wsX10_mustBeGoal) := goodIn_app (goodIn_of _ (by decide +kernel)) ggX10_use_X10_mustBeGoal
set_option maxRecDepth 20000 in
theorem ggX10_use_X10_mustBeLink : GoodIn wsX10_use wsX10_mustBeLink := goodIn_ca (goodIn_r _ [18, 6, 7, 8, 19, 20, 21, 12, 22, 23, 72, 73, 74, 75, 76, 77, 78, 79, 80, 81, 82, 83, 84, 85, 86, 87, 88, 89, 90, 91, 92, 93, 94, 95, 96, 97, 98, 99, 100, 101, 102, 103, 104, 105] (by decide +kernel) (by decide +kernel)) (goodIn_sub (fun _ h => List.mem_cons_of_mem _ (List.mem_append_right _ h)) (by decide +kernel))
set_option maxRecDepth 20000 in
theorem gX10_use_X10_mustBeLink : GoodIn wsX10_use (wsV RX10 229 RX10 yX10_mustBeLink wsX10_mustBeLink) := goodIn_app (goodIn_of _ (by decide +kernel)) ggX10_use_X10_mustBeLink
set_option maxRecDepth 20000 in
theorem ggX10_use_X10_goesBy : GoodIn wsX10_use wsX10_goesBy := goodIn_r _ [27, 28, 29, 30, 31, 32, 33, 34, 35, 36, 37, 38, 39, 40, 41, 42, 43, 44, 45, 46, 47, 48, 49, 50, 51, 52, 53, 54, 55, 56, 57, 58, 59, 60, 61, 12, 62, 63, 64, 65, 66, 67, 68, 69, 70, 71, 72, 73, 74, 75, 76, 77, 78, 79, 80, 81, 82, 83, 84, 85, 86, 87, 88, 89, 90, 106, 107, 108, 109, 110, 111, 112, 113, 114, 115, 91, 92, 93, 94, 95, 96, 97, 98, 99, 100, 101, 102, 103, 104, 105, 116, 117, 118, 119, 120, 121, 122, 123, 124, 125] (by decide +kernel) (by decide +kernel)
set_option maxRecDepth 20000 in
theorem gX10_use_X10_goesBy : GoodIn wsX10_use (wsV RX10 336 RX10 yX10_goesBy wsX10_goesBy) := goodIn_app (goodIn_of _ (by decide +kernel)) ggX10_use_X10_goesBy
theorem dX10_use_0 : decode cX10_use 0 = .ok (.aload_n 0, 1) := by decide +kernel
theorem dX10_use_1 : decode cX10_use 1 = .ok (.iload_n 1, 1) := by decide +kernel
theorem dX10_use_2 : decode cX10_use 2 = .ok (.invokevirtual 245, 3) := by decide +kernel
theorem dX10_use_5 : decode cX10_use 5 = .ok (.aload_n 0, 1) := by decide +kernel
theorem dX10_use_6 : decode cX10_use 6 = .ok (.iload_n 2, 1) := by decide +kernel
theorem dX10_use_7 : decode cX10_use 7 = .ok (.invokevirtual 229, 3) := by decide +kernel
theorem dX10_use_10 : decode cX10_use 10 = .ok (.iconst 0, 1) := by decide +kernel
theorem dX10_use_11 : decode cX10_use 11 = .ok (.istore_n 3, 1) := by decide +kernel
theorem dX10_use_12 : decode cX10_use 12 = .ok (.iconst 0, 1) := by decide +kernel
theorem dX10_use_13 : decode cX10_use 13 = .ok (.istore 4, 2) := by decide +kernel
theorem dX10_use_15 : decode cX10_use 15 = .ok (.iload 4, 2) := by decide +kernel
theorem dX10_use_17 : decode cX10_use 17 = .ok (.bipush 32, 2) := by decide +kernel
theorem dX10_use_19 : decode cX10_use 19 = .ok (.if_icmp .ge 23, 3) := by decide +kernel
theorem dX10_use_22 : decode cX10_use 22 = .ok (.aload_n 0, 1) := by decide +kernel
theorem dX10_use_23 : decode cX10_use 23 = .ok (.iload 4, 2) := by decide +kernel
theorem dX10_use_25 : decode cX10_use 25 = .ok (.iload_n 1, 1) := by decide +kernel
theorem dX10_use_26 : decode cX10_use 26 = .ok (.iload_n 2, 1) := by decide +kernel
theorem dX10_use_27 : decode cX10_use 27 = .ok (.invokevirtual 336, 3) := by decide +kernel
theorem dX10_use_30 : decode cX10_use 30 = .ok (.ifCond .eq 6, 3) := by decide +kernel
theorem dX10_use_33 : decode cX10_use 33 = .ok (.iinc 3 1, 3) := by decide +kernel
theorem dX10_use_36 : decode cX10_use 36 = .ok (.iinc 4 1, 3) := by decide +kernel
theorem dX10_use_39 : decode cX10_use 39 = .ok (.goto (-24), 3) := by decide +kernel
theorem dX10_use_42 : decode cX10_use 42 = .ok (.iload_n 3, 1) := by decide +kernel
theorem dX10_use_43 : decode cX10_use 43 = .ok (.ireturn, 1) := by decide +kernel
set_option maxRecDepth 20000 in
theorem ggX10_cover_X10_mustBeGoal : GoodIn wsX10_cover wsX10_mustBeGoal := goodIn_ca (goodIn_r _ [8, 9, 10, 1, 11, 12, 13, 14, 15, 16, 72, 73, 74, 75, 76, 77, 78, 79, 80, 81, 82, 83, 84, 85, 86, 87, 88, 89, 90, 101, 102, 103, 104, 105, 106, 107, 108, 109, 110, 111, 112, 113, 114, 115] (by decide +kernel) (by decide +kernel)) (goodIn_sub (fun _ h => List.mem_cons_of_mem _ (List.mem_append_right _ h)) (by decide +kernel))
set_option maxRecDepth 20000 in
theorem gX10_cover_X10_mustBeGoal : GoodIn wsX10_cover (wsV RX10 245 RX10 yX10_mustBeGoal wsX10_mustBeGoal) := goodIn_app (goodIn_of _ (by decide +kernel)) ggX10_cover_X10_mustBeGoal
set_option maxRecDepth 20000 in
theorem ggX10_cover_X2_linksOnWaysTo : GoodIn wsX10_cover wsX2_linksOnWaysTo := goodIn_r _ [20, 21, 22, 23, 24, 25, 26, 27, 14, 28, 29, 101, 102, 103, 104, 105, 106, 107, 108, 109, 110, 111, 112, 113, 114, 115] (by decide +kernel) (by decide +kernel)
set_option maxRecDepth 20000 in
theorem gX10_cover_X2_linksOnWaysTo : GoodIn wsX10_cover (wsV RX10 340 RX2 yX2_linksOnWaysTo wsX2_linksOnWaysTo) := goodIn_app (goodIn_of _ (by decide +kernel)) ggX10_cover_X2_linksOnWaysTo
set_option maxRecDepth 20000 in
theorem ggX10_cover_X9_takeAll : GoodIn wsX10_cover wsX9_takeAll := goodIn_r _ [34, 35, 36, 37, 33, 38, 39, 40, 41, 42, 43, 44, 45, 46, 47, 48, 49, 50, 51, 52, 53, 54, 55, 56, 57, 58, 59, 60, 61, 14, 62, 63, 64, 65, 66, 67, 68, 69, 70, 71, 91, 92, 93, 94, 95, 96, 97, 98, 99, 100, 101, 102, 103, 104, 105, 106, 107, 108, 109, 110, 111, 112, 113, 114, 115, 116, 117, 118, 119, 120, 121, 122, 123, 124, 125] (by decide +kernel) (by decide +kernel)
set_option maxRecDepth 20000 in
theorem gX10_cover_X9_takeAll : GoodIn wsX10_cover (wsV RX10 343 RX9 yX9_takeAll wsX9_takeAll) := goodIn_app (goodIn_of _ (by decide +kernel)) ggX10_cover_X9_takeAll
theorem dX10_cover_0 : decode cX10_cover 0 = .ok (.aload_n 0, 1) := by decide +kernel
theorem dX10_cover_1 : decode cX10_cover 1 = .ok (.iload_n 1, 1) := by decide +kernel
theorem dX10_cover_2 : decode cX10_cover 2 = .ok (.invokevirtual 245, 3) := by decide +kernel
theorem dX10_cover_5 : decode cX10_cover 5 = .ok (.aload_n 0, 1) := by decide +kernel
theorem dX10_cover_6 : decode cX10_cover 6 = .ok (.getfield 19, 3) := by decide +kernel
theorem dX10_cover_9 : decode cX10_cover 9 = .ok (.iload_n 1, 1) := by decide +kernel
theorem dX10_cover_10 : decode cX10_cover 10 = .ok (.invokevirtual 340, 3) := by decide +kernel
theorem dX10_cover_13 : decode cX10_cover 13 = .ok (.istore_n 2, 1) := by decide +kernel
theorem dX10_cover_14 : decode cX10_cover 14 = .ok (.iconst 0, 1) := by decide +kernel
theorem dX10_cover_15 : decode cX10_cover 15 = .ok (.istore_n 3, 1) := by decide +kernel
theorem dX10_cover_16 : decode cX10_cover 16 = .ok (.iload_n 3, 1) := by decide +kernel
theorem dX10_cover_17 : decode cX10_cover 17 = .ok (.bipush 32, 2) := by decide +kernel
theorem dX10_cover_19 : decode cX10_cover 19 = .ok (.if_icmp .ge 36, 3) := by decide +kernel
theorem dX10_cover_22 : decode cX10_cover 22 = .ok (.iload_n 2, 1) := by decide +kernel
theorem dX10_cover_23 : decode cX10_cover 23 = .ok (.ifCond .ne 5, 3) := by decide +kernel
theorem dX10_cover_26 : decode cX10_cover 26 = .ok (.iload_n 3, 1) := by decide +kernel
theorem dX10_cover_27 : decode cX10_cover 27 = .ok (.ireturn, 1) := by decide +kernel
theorem dX10_cover_28 : decode cX10_cover 28 = .ok (.aload_n 0, 1) := by decide +kernel
theorem dX10_cover_29 : decode cX10_cover 29 = .ok (.getfield 64, 3) := by decide +kernel
theorem dX10_cover_32 : decode cX10_cover 32 = .ok (.iload_n 3, 1) := by decide +kernel
theorem dX10_cover_33 : decode cX10_cover 33 = .ok (.iload_n 1, 1) := by decide +kernel
theorem dX10_cover_34 : decode cX10_cover 34 = .ok (.invokevirtual 343, 3) := by decide +kernel
theorem dX10_cover_37 : decode cX10_cover 37 = .ok (.iload_n 2, 1) := by decide +kernel
theorem dX10_cover_38 : decode cX10_cover 38 = .ok (.aload_n 0, 1) := by decide +kernel
theorem dX10_cover_39 : decode cX10_cover 39 = .ok (.getfield 64, 3) := by decide +kernel
theorem dX10_cover_42 : decode cX10_cover 42 = .ok (.getfield 346, 3) := by decide +kernel
theorem dX10_cover_45 : decode cX10_cover 45 = .ok (.iconst (-1), 1) := by decide +kernel
theorem dX10_cover_46 : decode cX10_cover 46 = .ok (.ixor, 1) := by decide +kernel
theorem dX10_cover_47 : decode cX10_cover 47 = .ok (.iand, 1) := by decide +kernel
theorem dX10_cover_48 : decode cX10_cover 48 = .ok (.istore_n 2, 1) := by decide +kernel
theorem dX10_cover_49 : decode cX10_cover 49 = .ok (.iinc 3 1, 3) := by decide +kernel
theorem dX10_cover_52 : decode cX10_cover 52 = .ok (.goto (-36), 3) := by decide +kernel
theorem dX10_cover_55 : decode cX10_cover 55 = .ok (.iload_n 2, 1) := by decide +kernel
theorem dX10_cover_56 : decode cX10_cover 56 = .ok (.ifCond .ne 8, 3) := by decide +kernel
theorem dX10_cover_59 : decode cX10_cover 59 = .ok (.bipush 32, 2) := by decide +kernel
theorem dX10_cover_61 : decode cX10_cover 61 = .ok (.goto 4, 3) := by decide +kernel
theorem dX10_cover_64 : decode cX10_cover 64 = .ok (.iconst (-1), 1) := by decide +kernel
theorem dX10_cover_65 : decode cX10_cover 65 = .ok (.ireturn, 1) := by decide +kernel
set_option maxRecDepth 20000 in
theorem ggX10_probe_X10_isPort : GoodIn wsX10_probe wsX10_isPort := goodIn_r _ [9] (by decide +kernel) (by decide +kernel)
set_option maxRecDepth 20000 in
theorem gX10_probe_X10_isPort : GoodIn wsX10_probe (va_wsS RX10 347 yX10_isPort wsX10_isPort) := goodIn_app (goodIn_of _ (by decide +kernel)) ggX10_probe_X10_isPort
set_option maxRecDepth 20000 in
theorem ggX10_probe_X2_hasGoal : GoodIn wsX10_probe wsX2_hasGoal := goodIn_r _ [14, 15, 174, 175, 176, 177, 178, 179, 180, 181, 182, 183, 184, 185, 186, 187, 188] (by decide +kernel) (by decide +kernel)
set_option maxRecDepth 20000 in
theorem gX10_probe_X2_hasGoal : GoodIn wsX10_probe (wsV RX10 350 RX2 yX2_hasGoal wsX2_hasGoal) := goodIn_app (goodIn_of _ (by decide +kernel)) ggX10_probe_X2_hasGoal
set_option maxRecDepth 20000 in
theorem ggX10_probe_X10_isHops : GoodIn wsX10_probe wsX10_isHops := goodIn_r _ [18] (by decide +kernel) (by decide +kernel)
set_option maxRecDepth 20000 in
theorem gX10_probe_X10_isHops : GoodIn wsX10_probe (va_wsS RX10 353 yX10_isHops wsX10_isHops) := goodIn_app (goodIn_of _ (by decide +kernel)) ggX10_probe_X10_isHops
set_option maxRecDepth 20000 in
theorem ggX10_probe_X1_keep : GoodIn wsX10_probe wsX1_keep := goodIn_r _ [23, 24, 25, 26, 27, 28, 22, 29, 30, 31, 32, 33, 34, 35, 36, 37, 38, 39, 40, 41, 42, 43, 44, 45, 46, 47, 48, 49, 50, 51, 52, 53, 54, 55, 56, 57, 58, 189, 190, 191, 192, 193, 194, 195, 196, 197, 198, 199, 200, 201] (by decide +kernel) (by decide +kernel)
set_option maxRecDepth 20000 in
theorem gX10_probe_X1_keep : GoodIn wsX10_probe (wsV RX10 356 RX1 yX1_keep wsX1_keep) := goodIn_app (goodIn_of _ (by decide +kernel)) ggX10_probe_X1_keep
set_option maxRecDepth 20000 in
theorem ggX10_probe_X6_sendOne : GoodIn wsX10_probe wsX6_sendOne := goodIn_r _ [63, 64, 65, 66, 67, 68, 69, 70, 71, 72, 73, 33, 74, 46, 47, 48, 75, 76, 77, 78, 79, 80, 81, 82, 42, 83, 84, 85, 86, 87, 88, 89, 90, 91, 92, 93, 94, 95, 96, 97, 98, 99, 100, 101, 102, 103, 104, 105, 106, 107, 108, 109, 110, 13, 111, 112, 113, 114, 115, 116, 117, 118, 119, 120, 121, 122, 123, 62, 124, 125, 126, 127, 128, 129, 130, 131, 132, 133, 134, 135, 136, 137, 15, 138, 139, 140, 141, 142, 143, 144, 145, 146, 147, 148, 40, 149, 150, 151, 152, 153, 154, 202, 203, 204, 205, 206, 207, 208, 209, 210, 211, 212, 213, 214, 215, 216, 192, 193, 194, 195, 196, 197, 198, 199, 200, 201, 174, 175, 176, 177, 178, 179, 180, 181, 182, 183, 184, 185, 186, 187, 188] (by decide +kernel) (by decide +kernel)
set_option maxRecDepth 20000 in
theorem gX10_probe_X6_sendOne : GoodIn wsX10_probe (wsV RX10 360 RX6 yX6_sendOne wsX6_sendOne) := goodIn_app (goodIn_of _ (by decide +kernel)) ggX10_probe_X6_sendOne
theorem dX10_probe_0 : decode cX10_probe 0 = .ok (.iload_n 1, 1) := by decide +kernel
theorem dX10_probe_1 : decode cX10_probe 1 = .ok (.invokestatic 347, 3) := by decide +kernel
theorem dX10_probe_4 : decode cX10_probe 4 = .ok (.ifCond .eq 21, 3) := by decide +kernel
theorem dX10_probe_7 : decode cX10_probe 7 = .ok (.aload_n 0, 1) := by decide +kernel
theorem dX10_probe_8 : decode cX10_probe 8 = .ok (.getfield 19, 3) := by decide +kernel
theorem dX10_probe_11 : decode cX10_probe 11 = .ok (.iload_n 2, 1) := by decide +kernel
theorem dX10_probe_12 : decode cX10_probe 12 = .ok (.invokevirtual 350, 3) := by decide +kernel
theorem dX10_probe_15 : decode cX10_probe 15 = .ok (.ifCond .eq 10, 3) := by decide +kernel
theorem dX10_probe_18 : decode cX10_probe 18 = .ok (.iload_n 3, 1) := by decide +kernel
theorem dX10_probe_19 : decode cX10_probe 19 = .ok (.invokestatic 353, 3) := by decide +kernel
theorem dX10_probe_22 : decode cX10_probe 22 = .ok (.ifCond .ne 16, 3) := by decide +kernel
theorem dX10_probe_25 : decode cX10_probe 25 = .ok (.aload_n 0, 1) := by decide +kernel
theorem dX10_probe_26 : decode cX10_probe 26 = .ok (.getfield 93, 3) := by decide +kernel
theorem dX10_probe_29 : decode cX10_probe 29 = .ok (.iconst 1, 1) := by decide +kernel
theorem dX10_probe_30 : decode cX10_probe 30 = .ok (.dup2, 1) := by decide +kernel
theorem dX10_probe_31 : decode cX10_probe 31 = .ok (.iaload, 1) := by decide +kernel
theorem dX10_probe_32 : decode cX10_probe 32 = .ok (.iconst 1, 1) := by decide +kernel
theorem dX10_probe_33 : decode cX10_probe 33 = .ok (.iadd, 1) := by decide +kernel
theorem dX10_probe_34 : decode cX10_probe 34 = .ok (.iastore, 1) := by decide +kernel
theorem dX10_probe_35 : decode cX10_probe 35 = .ok (.bipush (-2), 2) := by decide +kernel
theorem dX10_probe_37 : decode cX10_probe 37 = .ok (.ireturn, 1) := by decide +kernel
theorem dX10_probe_38 : decode cX10_probe 38 = .ok (.aload_n 0, 1) := by decide +kernel
theorem dX10_probe_39 : decode cX10_probe 39 = .ok (.getfield 89, 3) := by decide +kernel
theorem dX10_probe_42 : decode cX10_probe 42 = .ok (.aload_n 0, 1) := by decide +kernel
theorem dX10_probe_43 : decode cX10_probe 43 = .ok (.getfield 38, 3) := by decide +kernel
theorem dX10_probe_46 : decode cX10_probe 46 = .ok (.invokevirtual 356, 3) := by decide +kernel
theorem dX10_probe_49 : decode cX10_probe 49 = .ok (.aload_n 0, 1) := by decide +kernel
theorem dX10_probe_50 : decode cX10_probe 50 = .ok (.getfield 73, 3) := by decide +kernel
theorem dX10_probe_53 : decode cX10_probe 53 = .ok (.iload_n 1, 1) := by decide +kernel
theorem dX10_probe_54 : decode cX10_probe 54 = .ok (.iload_n 2, 1) := by decide +kernel
theorem dX10_probe_55 : decode cX10_probe 55 = .ok (.iload_n 3, 1) := by decide +kernel
theorem dX10_probe_56 : decode cX10_probe 56 = .ok (.invokevirtual 360, 3) := by decide +kernel
theorem dX10_probe_59 : decode cX10_probe 59 = .ok (.ireturn, 1) := by decide +kernel
set_option maxRecDepth 20000 in
theorem ggX10_ping_X10_wasSeen : GoodIn wsX10_ping wsX10_wasSeen := goodIn_r _ [8, 9, 10, 11, 12, 13, 14, 15, 16, 17, 18, 19, 20, 21, 22, 23, 24, 25, 26, 27, 28, 29, 30, 31, 32, 94, 95, 96, 97, 98, 99, 100, 101, 102, 103, 104, 105, 106, 107, 108, 109, 110, 111, 112, 113, 114, 115, 116, 117, 118, 119, 120, 121, 122, 123, 124, 125, 126, 127, 128, 129, 130, 131, 132, 133, 134, 135, 136, 137, 138, 139, 140, 141, 142] (by decide +kernel) (by decide +kernel)
set_option maxRecDepth 20000 in
theorem gX10_ping_X10_wasSeen : GoodIn wsX10_ping (wsV RX10 363 RX10 yX10_wasSeen wsX10_wasSeen) := goodIn_app (goodIn_of _ (by decide +kernel)) ggX10_ping_X10_wasSeen
set_option maxRecDepth 20000 in
theorem ggX10_ping_X10_refuseAct : GoodIn wsX10_ping wsX10_refuseAct := goodIn_r _ [36, 37, 94, 95, 96, 97, 98, 99, 100, 101, 102, 103, 104, 105, 106, 107, 108, 109, 110, 111, 112] (by decide +kernel) (by decide +kernel)
set_option maxRecDepth 20000 in
theorem gX10_ping_X10_refuseAct : GoodIn wsX10_ping (wsV RX10 366 RX10 yX10_refuseAct wsX10_refuseAct) := goodIn_app (goodIn_of _ (by decide +kernel)) ggX10_ping_X10_refuseAct
set_option maxRecDepth 20000 in
theorem ggX10_ping_X1_keep : GoodIn wsX10_ping wsX1_keep := goodIn_r _ [42, 43, 44, 45, 46, 47, 41, 48, 49, 50, 51, 29, 52, 53, 54, 55, 56, 57, 31, 58, 59, 60, 61, 62, 63, 64, 65, 66, 67, 68, 69, 70, 71, 72, 73, 74, 75, 143, 144, 145, 133, 134, 135, 136, 137, 138, 139, 140, 141, 142] (by decide +kernel) (by decide +kernel)
set_option maxRecDepth 20000 in
theorem gX10_ping_X1_keep : GoodIn wsX10_ping (wsV RX10 356 RX1 yX1_keep wsX1_keep) := goodIn_app (goodIn_of _ (by decide +kernel)) ggX10_ping_X1_keep
set_option maxRecDepth 20000 in
theorem ggX10_ping_X6_pingOne : GoodIn wsX10_ping wsX6_pingOne := goodIn_r _ [80, 81, 82, 83, 84, 14, 85, 17, 86, 87, 88, 89, 79, 90, 91, 92, 93, 146, 147, 148, 149, 150, 113, 114, 115, 116, 117, 118, 119, 120, 121, 122, 123, 124, 125, 126, 127, 133, 134, 135, 136, 137, 138, 139, 140, 141, 142] (by decide +kernel) (by decide +kernel)
set_option maxRecDepth 20000 in
theorem gX10_ping_X6_pingOne : GoodIn wsX10_ping (wsV RX10 369 RX6 yX6_pingOne wsX6_pingOne) := goodIn_app (goodIn_of _ (by decide +kernel)) ggX10_ping_X6_pingOne
theorem dX10_ping_0 : decode cX10_ping 0 = .ok (.aload_n 0, 1) := by decide +kernel
theorem dX10_ping_1 : decode cX10_ping 1 = .ok (.iload_n 1, 1) := by decide +kernel
theorem dX10_ping_2 : decode cX10_ping 2 = .ok (.invokevirtual 363, 3) := by decide +kernel
theorem dX10_ping_5 : decode cX10_ping 5 = .ok (.ifCond .ne 8, 3) := by decide +kernel
theorem dX10_ping_8 : decode cX10_ping 8 = .ok (.aload_n 0, 1) := by decide +kernel
theorem dX10_ping_9 : decode cX10_ping 9 = .ok (.invokevirtual 366, 3) := by decide +kernel
theorem dX10_ping_12 : decode cX10_ping 12 = .ok (.ireturn, 1) := by decide +kernel
theorem dX10_ping_13 : decode cX10_ping 13 = .ok (.aload_n 0, 1) := by decide +kernel
theorem dX10_ping_14 : decode cX10_ping 14 = .ok (.getfield 89, 3) := by decide +kernel
theorem dX10_ping_17 : decode cX10_ping 17 = .ok (.aload_n 0, 1) := by decide +kernel
theorem dX10_ping_18 : decode cX10_ping 18 = .ok (.getfield 38, 3) := by decide +kernel
theorem dX10_ping_21 : decode cX10_ping 21 = .ok (.invokevirtual 356, 3) := by decide +kernel
theorem dX10_ping_24 : decode cX10_ping 24 = .ok (.aload_n 0, 1) := by decide +kernel
theorem dX10_ping_25 : decode cX10_ping 25 = .ok (.getfield 73, 3) := by decide +kernel
theorem dX10_ping_28 : decode cX10_ping 28 = .ok (.iload_n 1, 1) := by decide +kernel
theorem dX10_ping_29 : decode cX10_ping 29 = .ok (.invokevirtual 369, 3) := by decide +kernel
theorem dX10_ping_32 : decode cX10_ping 32 = .ok (.ireturn, 1) := by decide +kernel
set_option maxRecDepth 20000 in
theorem ggX10_sweep_X2_hasGoal : GoodIn wsX10_sweep wsX2_hasGoal := goodIn_r _ [9, 10, 222, 223, 224, 225, 226, 227, 228, 229, 230, 231, 232, 233, 234, 235, 236] (by decide +kernel) (by decide +kernel)
set_option maxRecDepth 20000 in
theorem gX10_sweep_X2_hasGoal : GoodIn wsX10_sweep (wsV RX10 350 RX2 yX2_hasGoal wsX2_hasGoal) := goodIn_app (goodIn_of _ (by decide +kernel)) ggX10_sweep_X2_hasGoal
set_option maxRecDepth 20000 in
theorem ggX10_sweep_X10_isHops : GoodIn wsX10_sweep wsX10_isHops := goodIn_r _ [14] (by decide +kernel) (by decide +kernel)
set_option maxRecDepth 20000 in
theorem gX10_sweep_X10_isHops : GoodIn wsX10_sweep (va_wsS RX10 353 yX10_isHops wsX10_isHops) := goodIn_app (goodIn_of _ (by decide +kernel)) ggX10_sweep_X10_isHops
set_option maxRecDepth 20000 in
theorem ggX10_sweep_X10_refuseAct : GoodIn wsX10_sweep wsX10_refuseAct := goodIn_r _ [18, 19, 203, 204, 205, 206, 207, 208, 209, 210, 211, 212, 213, 214, 215, 216, 217, 218, 219, 220, 221] (by decide +kernel) (by decide +kernel)
set_option maxRecDepth 20000 in
theorem gX10_sweep_X10_refuseAct : GoodIn wsX10_sweep (wsV RX10 366 RX10 yX10_refuseAct wsX10_refuseAct) := goodIn_app (goodIn_of _ (by decide +kernel)) ggX10_sweep_X10_refuseAct
set_option maxRecDepth 20000 in
theorem ggX10_sweep_X1_keep : GoodIn wsX10_sweep wsX1_keep := goodIn_r _ [24, 25, 26, 27, 28, 29, 23, 30, 31, 32, 33, 34, 35, 36, 37, 38, 39, 40, 41, 42, 43, 44, 45, 46, 47, 48, 49, 50, 51, 52, 53, 54, 55, 56, 57, 58, 59, 237, 238, 239, 240, 241, 242, 243, 244, 245, 246, 247, 248, 249] (by decide +kernel) (by decide +kernel)
set_option maxRecDepth 20000 in
theorem gX10_sweep_X1_keep : GoodIn wsX10_sweep (wsV RX10 356 RX1 yX1_keep wsX1_keep) := goodIn_app (goodIn_of _ (by decide +kernel)) ggX10_sweep_X1_keep
set_option maxRecDepth 20000 in
theorem ggX10_sweep_X6_sendSweep : GoodIn wsX10_sweep wsX6_sendSweep := goodIn_r _ [64, 65, 66, 67, 68, 34, 69, 47, 48, 49, 70, 71, 72, 73, 74, 75, 76, 63, 77, 78, 79, 80, 81, 82, 83, 84, 85, 86, 87, 41, 88, 89, 90, 91, 92, 93, 94, 95, 96, 97, 98, 99, 100, 101, 102, 103, 104, 105, 106, 107, 108, 109, 110, 111, 112, 113, 114, 115, 116, 117, 118, 119, 120, 121, 122, 123, 124, 125, 126, 127, 128, 129, 130, 131, 43, 132, 133, 134, 135, 136, 137, 138, 139, 140, 141, 142, 143, 144, 145, 146, 147, 148, 149, 150, 151, 152, 153, 154, 155, 156, 157, 158, 159, 8, 160, 161, 162, 163, 164, 165, 166, 167, 168, 169, 170, 171, 172, 173, 174, 175, 176, 177, 178, 179, 180, 181, 182, 183, 184, 185, 186, 10, 187, 188, 189, 190, 191, 192, 193, 194, 195, 196, 197, 198, 199, 200, 201, 202, 250, 251, 252, 253, 254, 240, 241, 242, 243, 244, 245, 246, 247, 248, 249, 255, 256, 257, 258, 259, 260, 261, 262, 263, 264, 265, 266, 267, 222, 223, 224, 225, 226, 227, 228, 229, 230, 231, 232, 233, 234, 235, 236] (by decide +kernel) (by decide +kernel)
set_option maxRecDepth 20000 in
theorem gX10_sweep_X6_sendSweep : GoodIn wsX10_sweep (wsV RX10 372 RX6 yX6_sendSweep wsX6_sendSweep) := goodIn_app (goodIn_of _ (by decide +kernel)) ggX10_sweep_X6_sendSweep
theorem dX10_sweep_0 : decode cX10_sweep 0 = .ok (.aload_n 0, 1) := by decide +kernel
theorem dX10_sweep_1 : decode cX10_sweep 1 = .ok (.getfield 19, 3) := by decide +kernel
theorem dX10_sweep_4 : decode cX10_sweep 4 = .ok (.iload_n 1, 1) := by decide +kernel
theorem dX10_sweep_5 : decode cX10_sweep 5 = .ok (.invokevirtual 350, 3) := by decide +kernel
theorem dX10_sweep_8 : decode cX10_sweep 8 = .ok (.ifCond .eq 10, 3) := by decide +kernel
theorem dX10_sweep_11 : decode cX10_sweep 11 = .ok (.iload_n 2, 1) := by decide +kernel
theorem dX10_sweep_12 : decode cX10_sweep 12 = .ok (.invokestatic 353, 3) := by decide +kernel
theorem dX10_sweep_15 : decode cX10_sweep 15 = .ok (.ifCond .ne 8, 3) := by decide +kernel
theorem dX10_sweep_18 : decode cX10_sweep 18 = .ok (.aload_n 0, 1) := by decide +kernel
theorem dX10_sweep_19 : decode cX10_sweep 19 = .ok (.invokevirtual 366, 3) := by decide +kernel
theorem dX10_sweep_22 : decode cX10_sweep 22 = .ok (.ireturn, 1) := by decide +kernel
theorem dX10_sweep_23 : decode cX10_sweep 23 = .ok (.aload_n 0, 1) := by decide +kernel
theorem dX10_sweep_24 : decode cX10_sweep 24 = .ok (.getfield 89, 3) := by decide +kernel
theorem dX10_sweep_27 : decode cX10_sweep 27 = .ok (.aload_n 0, 1) := by decide +kernel
theorem dX10_sweep_28 : decode cX10_sweep 28 = .ok (.getfield 38, 3) := by decide +kernel
theorem dX10_sweep_31 : decode cX10_sweep 31 = .ok (.invokevirtual 356, 3) := by decide +kernel
theorem dX10_sweep_34 : decode cX10_sweep 34 = .ok (.aload_n 0, 1) := by decide +kernel
theorem dX10_sweep_35 : decode cX10_sweep 35 = .ok (.getfield 73, 3) := by decide +kernel
theorem dX10_sweep_38 : decode cX10_sweep 38 = .ok (.iload_n 1, 1) := by decide +kernel
theorem dX10_sweep_39 : decode cX10_sweep 39 = .ok (.iload_n 2, 1) := by decide +kernel
theorem dX10_sweep_40 : decode cX10_sweep 40 = .ok (.invokevirtual 372, 3) := by decide +kernel
theorem dX10_sweep_43 : decode cX10_sweep 43 = .ok (.ireturn, 1) := by decide +kernel
set_option maxRecDepth 20000 in
theorem ggX10_trace_X10_isPort : GoodIn wsX10_trace wsX10_isPort := goodIn_r _ [8] (by decide +kernel) (by decide +kernel)
set_option maxRecDepth 20000 in
theorem gX10_trace_X10_isPort : GoodIn wsX10_trace (va_wsS RX10 347 yX10_isPort wsX10_isPort) := goodIn_app (goodIn_of _ (by decide +kernel)) ggX10_trace_X10_isPort
set_option maxRecDepth 20000 in
theorem ggX10_trace_X2_hasGoal : GoodIn wsX10_trace wsX2_hasGoal := goodIn_r _ [13, 14, 186, 187, 188, 189, 190, 191, 192, 193, 194, 195, 196, 197, 198, 199, 200] (by decide +kernel) (by decide +kernel)
set_option maxRecDepth 20000 in
theorem gX10_trace_X2_hasGoal : GoodIn wsX10_trace (wsV RX10 350 RX2 yX2_hasGoal wsX2_hasGoal) := goodIn_app (goodIn_of _ (by decide +kernel)) ggX10_trace_X2_hasGoal
set_option maxRecDepth 20000 in
theorem ggX10_trace_X10_refuseAct : GoodIn wsX10_trace wsX10_refuseAct := goodIn_r _ [18, 19, 167, 168, 169, 170, 171, 172, 173, 174, 175, 176, 177, 178, 179, 180, 181, 182, 183, 184, 185] (by decide +kernel) (by decide +kernel)
set_option maxRecDepth 20000 in
theorem gX10_trace_X10_refuseAct : GoodIn wsX10_trace (wsV RX10 366 RX10 yX10_refuseAct wsX10_refuseAct) := goodIn_app (goodIn_of _ (by decide +kernel)) ggX10_trace_X10_refuseAct
set_option maxRecDepth 20000 in
theorem ggX10_trace_X1_keep : GoodIn wsX10_trace wsX1_keep := goodIn_r _ [24, 25, 26, 27, 28, 29, 23, 30, 31, 32, 33, 34, 35, 36, 37, 38, 39, 40, 41, 42, 43, 44, 45, 46, 47, 48, 49, 50, 51, 52, 53, 54, 55, 56, 57, 58, 59, 201, 202, 203, 204, 205, 206, 207, 208, 209, 210, 211, 212, 213] (by decide +kernel) (by decide +kernel)
set_option maxRecDepth 20000 in
theorem gX10_trace_X1_keep : GoodIn wsX10_trace (wsV RX10 356 RX1 yX1_keep wsX1_keep) := goodIn_app (goodIn_of _ (by decide +kernel)) ggX10_trace_X1_keep
set_option maxRecDepth 20000 in
theorem ggX10_trace_X6_sendTrace : GoodIn wsX10_trace wsX6_sendTrace := goodIn_r _ [64, 65, 66, 67, 68, 69, 70, 34, 71, 47, 48, 49, 72, 73, 74, 75, 76, 77, 78, 63, 79, 80, 81, 82, 83, 84, 85, 86, 87, 88, 89, 43, 90, 91, 92, 93, 94, 95, 96, 97, 98, 99, 100, 101, 102, 103, 104, 105, 106, 107, 108, 109, 110, 111, 112, 113, 114, 115, 116, 117, 12, 118, 119, 120, 121, 122, 123, 124, 125, 126, 127, 128, 129, 130, 131, 132, 133, 134, 135, 136, 137, 138, 139, 140, 141, 142, 143, 14, 144, 145, 146, 147, 148, 149, 150, 151, 152, 153, 154, 41, 155, 156, 157, 158, 159, 160, 161, 162, 163, 164, 165, 166, 214, 215, 216, 217, 218, 186, 187, 188, 189, 190, 191, 192, 193, 194, 195, 196, 197, 198, 199, 200, 204, 205, 206, 207, 208, 209, 210, 211, 212, 213, 219, 220, 221, 222, 223, 224, 225, 226, 227, 228] (by decide +kernel) (by decide +kernel)
set_option maxRecDepth 20000 in
theorem gX10_trace_X6_sendTrace : GoodIn wsX10_trace (wsV RX10 375 RX6 yX6_sendTrace wsX6_sendTrace) := goodIn_app (goodIn_of _ (by decide +kernel)) ggX10_trace_X6_sendTrace
theorem dX10_trace_0 : decode cX10_trace 0 = .ok (.iload_n 1, 1) := by decide +kernel
theorem dX10_trace_1 : decode cX10_trace 1 = .ok (.invokestatic 347, 3) := by decide +kernel
theorem dX10_trace_4 : decode cX10_trace 4 = .ok (.ifCond .eq 14, 3) := by decide +kernel
theorem dX10_trace_7 : decode cX10_trace 7 = .ok (.aload_n 0, 1) := by decide +kernel
theorem dX10_trace_8 : decode cX10_trace 8 = .ok (.getfield 19, 3) := by decide +kernel
theorem dX10_trace_11 : decode cX10_trace 11 = .ok (.iload_n 2, 1) := by decide +kernel
theorem dX10_trace_12 : decode cX10_trace 12 = .ok (.invokevirtual 350, 3) := by decide +kernel
theorem dX10_trace_15 : decode cX10_trace 15 = .ok (.ifCond .ne 8, 3) := by decide +kernel
theorem dX10_trace_18 : decode cX10_trace 18 = .ok (.aload_n 0, 1) := by decide +kernel
theorem dX10_trace_19 : decode cX10_trace 19 = .ok (.invokevirtual 366, 3) := by decide +kernel
theorem dX10_trace_22 : decode cX10_trace 22 = .ok (.ireturn, 1) := by decide +kernel
theorem dX10_trace_23 : decode cX10_trace 23 = .ok (.aload_n 0, 1) := by decide +kernel
theorem dX10_trace_24 : decode cX10_trace 24 = .ok (.getfield 89, 3) := by decide +kernel
theorem dX10_trace_27 : decode cX10_trace 27 = .ok (.aload_n 0, 1) := by decide +kernel
theorem dX10_trace_28 : decode cX10_trace 28 = .ok (.getfield 38, 3) := by decide +kernel
theorem dX10_trace_31 : decode cX10_trace 31 = .ok (.invokevirtual 356, 3) := by decide +kernel
theorem dX10_trace_34 : decode cX10_trace 34 = .ok (.aload_n 0, 1) := by decide +kernel
theorem dX10_trace_35 : decode cX10_trace 35 = .ok (.getfield 73, 3) := by decide +kernel
theorem dX10_trace_38 : decode cX10_trace 38 = .ok (.iload_n 1, 1) := by decide +kernel
theorem dX10_trace_39 : decode cX10_trace 39 = .ok (.iload_n 2, 1) := by decide +kernel
theorem dX10_trace_40 : decode cX10_trace 40 = .ok (.invokevirtual 375, 3) := by decide +kernel
theorem dX10_trace_43 : decode cX10_trace 43 = .ok (.ireturn, 1) := by decide +kernel
set_option maxRecDepth 20000 in
theorem ggX10_twins_X10_wasSeen : GoodIn wsX10_twins wsX10_wasSeen := goodIn_r _ [8, 9, 10, 11, 12, 13, 14, 15, 16, 17, 18, 19, 20, 21, 22, 23, 24, 25, 26, 27, 28, 29, 30, 31, 32, 98, 99, 100, 101, 102, 103, 104, 105, 106, 107, 108, 109, 110, 111, 112, 113, 114, 115, 116, 117, 118, 119, 120, 121, 122, 123, 124, 125, 126, 127, 128, 129, 130, 131, 132, 133, 134, 135, 136, 137, 138, 139, 140, 141, 142, 143, 144, 145, 146] (by decide +kernel) (by decide +kernel)
set_option maxRecDepth 20000 in
theorem gX10_twins_X10_wasSeen : GoodIn wsX10_twins (wsV RX10 363 RX10 yX10_wasSeen wsX10_wasSeen) := goodIn_app (goodIn_of _ (by decide +kernel)) ggX10_twins_X10_wasSeen
set_option maxRecDepth 20000 in
theorem ggX10_twins_X10_refuseAct : GoodIn wsX10_twins wsX10_refuseAct := goodIn_r _ [36, 37, 98, 99, 100, 101, 102, 103, 104, 105, 106, 107, 108, 109, 110, 111, 112, 113, 114, 115, 116] (by decide +kernel) (by decide +kernel)
set_option maxRecDepth 20000 in
theorem gX10_twins_X10_refuseAct : GoodIn wsX10_twins (wsV RX10 366 RX10 yX10_refuseAct wsX10_refuseAct) := goodIn_app (goodIn_of _ (by decide +kernel)) ggX10_twins_X10_refuseAct
set_option maxRecDepth 20000 in
theorem ggX10_twins_X1_keep : GoodIn wsX10_twins wsX1_keep := goodIn_r _ [42, 43, 44, 45, 46, 47, 41, 48, 49, 50, 51, 29, 52, 53, 54, 55, 56, 57, 31, 58, 59, 60, 61, 62, 63, 64, 65, 66, 67, 68, 69, 70, 71, 72, 73, 74, 75, 147, 148, 149, 137, 138, 139, 140, 141, 142, 143, 144, 145, 146] (by decide +kernel) (by decide +kernel)
set_option maxRecDepth 20000 in
theorem gX10_twins_X1_keep : GoodIn wsX10_twins (wsV RX10 356 RX1 yX1_keep wsX1_keep) := goodIn_app (goodIn_of _ (by decide +kernel)) ggX10_twins_X1_keep
set_option maxRecDepth 20000 in
theorem ggX10_twins_X6_pingByTurns : GoodIn wsX10_twins wsX6_pingByTurns := goodIn_r _ [80, 81, 82, 83, 79, 84, 85, 86, 87, 88, 14, 89, 17, 90, 91, 92, 93, 94, 95, 96, 97, 150, 151, 152, 153, 154, 117, 118, 119, 120, 121, 122, 123, 124, 125, 126, 127, 128, 129, 130, 131, 137, 138, 139, 140, 141, 142, 143, 144, 145, 146] (by decide +kernel) (by decide +kernel)
set_option maxRecDepth 20000 in
theorem gX10_twins_X6_pingByTurns : GoodIn wsX10_twins (wsV RX10 378 RX6 yX6_pingByTurns wsX6_pingByTurns) := goodIn_app (goodIn_of _ (by decide +kernel)) ggX10_twins_X6_pingByTurns
theorem dX10_twins_0 : decode cX10_twins 0 = .ok (.iload_n 1, 1) := by decide +kernel
theorem dX10_twins_1 : decode cX10_twins 1 = .ok (.iload_n 2, 1) := by decide +kernel
theorem dX10_twins_2 : decode cX10_twins 2 = .ok (.if_icmp .eq 19, 3) := by decide +kernel
theorem dX10_twins_5 : decode cX10_twins 5 = .ok (.aload_n 0, 1) := by decide +kernel
theorem dX10_twins_6 : decode cX10_twins 6 = .ok (.iload_n 1, 1) := by decide +kernel
theorem dX10_twins_7 : decode cX10_twins 7 = .ok (.invokevirtual 363, 3) := by decide +kernel
theorem dX10_twins_10 : decode cX10_twins 10 = .ok (.ifCond .eq 11, 3) := by decide +kernel
theorem dX10_twins_13 : decode cX10_twins 13 = .ok (.aload_n 0, 1) := by decide +kernel
theorem dX10_twins_14 : decode cX10_twins 14 = .ok (.iload_n 2, 1) := by decide +kernel
theorem dX10_twins_15 : decode cX10_twins 15 = .ok (.invokevirtual 363, 3) := by decide +kernel
theorem dX10_twins_18 : decode cX10_twins 18 = .ok (.ifCond .ne 8, 3) := by decide +kernel
theorem dX10_twins_21 : decode cX10_twins 21 = .ok (.aload_n 0, 1) := by decide +kernel
theorem dX10_twins_22 : decode cX10_twins 22 = .ok (.invokevirtual 366, 3) := by decide +kernel
theorem dX10_twins_25 : decode cX10_twins 25 = .ok (.ireturn, 1) := by decide +kernel
theorem dX10_twins_26 : decode cX10_twins 26 = .ok (.aload_n 0, 1) := by decide +kernel
theorem dX10_twins_27 : decode cX10_twins 27 = .ok (.getfield 89, 3) := by decide +kernel
theorem dX10_twins_30 : decode cX10_twins 30 = .ok (.aload_n 0, 1) := by decide +kernel
theorem dX10_twins_31 : decode cX10_twins 31 = .ok (.getfield 38, 3) := by decide +kernel
theorem dX10_twins_34 : decode cX10_twins 34 = .ok (.invokevirtual 356, 3) := by decide +kernel
theorem dX10_twins_37 : decode cX10_twins 37 = .ok (.aload_n 0, 1) := by decide +kernel
theorem dX10_twins_38 : decode cX10_twins 38 = .ok (.getfield 73, 3) := by decide +kernel
theorem dX10_twins_41 : decode cX10_twins 41 = .ok (.iload_n 1, 1) := by decide +kernel
theorem dX10_twins_42 : decode cX10_twins 42 = .ok (.iload_n 2, 1) := by decide +kernel
theorem dX10_twins_43 : decode cX10_twins 43 = .ok (.invokevirtual 378, 3) := by decide +kernel
theorem dX10_twins_46 : decode cX10_twins 46 = .ok (.ifCond .eq 7, 3) := by decide +kernel
theorem dX10_twins_49 : decode cX10_twins 49 = .ok (.iconst 1, 1) := by decide +kernel
theorem dX10_twins_50 : decode cX10_twins 50 = .ok (.goto 4, 3) := by decide +kernel
theorem dX10_twins_53 : decode cX10_twins 53 = .ok (.iconst 0, 1) := by decide +kernel
theorem dX10_twins_54 : decode cX10_twins 54 = .ok (.ireturn, 1) := by decide +kernel
set_option maxRecDepth 20000 in
theorem ggX10_undo_X1_takeBack : GoodIn wsX10_undo wsX1_takeBack := goodIn_r _ [8, 9, 10, 11, 12, 7, 13, 14, 15, 16, 17, 18, 19, 20, 21, 22, 23, 24, 25, 26, 27, 28, 29, 30, 31, 32, 33, 34, 35, 36, 37, 38, 39, 40, 41, 42, 43, 63, 64, 65, 66, 67, 68, 69, 70, 71, 72, 73, 74, 75] (by decide +kernel) (by decide +kernel)
set_option maxRecDepth 20000 in
theorem gX10_undo_X1_takeBack : GoodIn wsX10_undo (wsV RX10 385 RX1 yX1_takeBack wsX1_takeBack) := goodIn_app (goodIn_of _ (by decide +kernel)) ggX10_undo_X1_takeBack
theorem dX10_undo_0 : decode cX10_undo 0 = .ok (.aload_n 0, 1) := by decide +kernel
theorem dX10_undo_1 : decode cX10_undo 1 = .ok (.getfield 89, 3) := by decide +kernel
theorem dX10_undo_4 : decode cX10_undo 4 = .ok (.getfield 155, 3) := by decide +kernel
theorem dX10_undo_7 : decode cX10_undo 7 = .ok (.ifCond .ne 5, 3) := by decide +kernel
theorem dX10_undo_10 : decode cX10_undo 10 = .ok (.iconst (-1), 1) := by decide +kernel
theorem dX10_undo_11 : decode cX10_undo 11 = .ok (.ireturn, 1) := by decide +kernel
theorem dX10_undo_12 : decode cX10_undo 12 = .ok (.aload_n 0, 1) := by decide +kernel
theorem dX10_undo_13 : decode cX10_undo 13 = .ok (.getfield 89, 3) := by decide +kernel
theorem dX10_undo_16 : decode cX10_undo 16 = .ok (.aload_n 0, 1) := by decide +kernel
theorem dX10_undo_17 : decode cX10_undo 17 = .ok (.getfield 38, 3) := by decide +kernel
theorem dX10_undo_20 : decode cX10_undo 20 = .ok (.invokevirtual 385, 3) := by decide +kernel
theorem dX10_undo_23 : decode cX10_undo 23 = .ok (.aload_n 0, 1) := by decide +kernel
theorem dX10_undo_24 : decode cX10_undo 24 = .ok (.getfield 89, 3) := by decide +kernel
theorem dX10_undo_27 : decode cX10_undo 27 = .ok (.getfield 155, 3) := by decide +kernel
theorem dX10_undo_30 : decode cX10_undo 30 = .ok (.ireturn, 1) := by decide +kernel
set_option maxRecDepth 20000 in
theorem ggX10_note_X10_isPort : GoodIn wsX10_note wsX10_isPort := goodIn_r _ [8] (by decide +kernel) (by decide +kernel)
set_option maxRecDepth 20000 in
theorem gX10_note_X10_isPort : GoodIn wsX10_note (va_wsS RX10 347 yX10_isPort wsX10_isPort) := goodIn_app (goodIn_of _ (by decide +kernel)) ggX10_note_X10_isPort
set_option maxRecDepth 20000 in
theorem ggX10_note_X2_hasGoal : GoodIn wsX10_note wsX2_hasGoal := goodIn_r _ [13, 14, 62, 63, 64, 65, 66, 67, 68, 69, 70, 71, 72, 73, 74, 75, 76] (by decide +kernel) (by decide +kernel)
set_option maxRecDepth 20000 in
theorem gX10_note_X2_hasGoal : GoodIn wsX10_note (wsV RX10 350 RX2 yX2_hasGoal wsX2_hasGoal) := goodIn_app (goodIn_of _ (by decide +kernel)) ggX10_note_X2_hasGoal
set_option maxRecDepth 20000 in
theorem ggX10_note_X10_isHops : GoodIn wsX10_note wsX10_isHops := goodIn_r _ [17] (by decide +kernel) (by decide +kernel)
set_option maxRecDepth 20000 in
theorem gX10_note_X10_isHops : GoodIn wsX10_note (va_wsS RX10 353 yX10_isHops wsX10_isHops) := goodIn_app (goodIn_of _ (by decide +kernel)) ggX10_note_X10_isHops
set_option maxRecDepth 20000 in
theorem ggX10_note_X2_hasAddress : GoodIn wsX10_note wsX2_hasAddress := goodIn_r _ [21, 22, 23, 62, 63, 64, 65, 66, 67, 68, 69, 70, 71, 72, 73, 74, 75, 76] (by decide +kernel) (by decide +kernel)
set_option maxRecDepth 20000 in
theorem gX10_note_X2_hasAddress : GoodIn wsX10_note (wsV RX10 388 RX2 yX2_hasAddress wsX2_hasAddress) := goodIn_app (goodIn_of _ (by decide +kernel)) ggX10_note_X2_hasAddress
set_option maxRecDepth 20000 in
theorem ggX10_note_X3_write : GoodIn wsX10_note wsX3_write := goodIn_r _ [28, 29, 30, 31, 32, 33, 53, 54, 55, 56, 57, 58, 59, 60, 61] (by decide +kernel) (by decide +kernel)
set_option maxRecDepth 20000 in
theorem gX10_note_X3_write : GoodIn wsX10_note (wsV RX10 391 RX3 yX3_write wsX3_write) := goodIn_app (goodIn_of _ (by decide +kernel)) ggX10_note_X3_write
theorem dX10_note_0 : decode cX10_note 0 = .ok (.iload_n 1, 1) := by decide +kernel
theorem dX10_note_1 : decode cX10_note 1 = .ok (.invokestatic 347, 3) := by decide +kernel
theorem dX10_note_4 : decode cX10_note 4 = .ok (.ifCond .eq 37, 3) := by decide +kernel
theorem dX10_note_7 : decode cX10_note 7 = .ok (.aload_n 0, 1) := by decide +kernel
theorem dX10_note_8 : decode cX10_note 8 = .ok (.getfield 19, 3) := by decide +kernel
theorem dX10_note_11 : decode cX10_note 11 = .ok (.iload_n 2, 1) := by decide +kernel
theorem dX10_note_12 : decode cX10_note 12 = .ok (.invokevirtual 350, 3) := by decide +kernel
theorem dX10_note_15 : decode cX10_note 15 = .ok (.ifCond .eq 26, 3) := by decide +kernel
theorem dX10_note_18 : decode cX10_note 18 = .ok (.iload_n 3, 1) := by decide +kernel
theorem dX10_note_19 : decode cX10_note 19 = .ok (.invokestatic 353, 3) := by decide +kernel
theorem dX10_note_22 : decode cX10_note 22 = .ok (.ifCond .eq 19, 3) := by decide +kernel
theorem dX10_note_25 : decode cX10_note 25 = .ok (.aload_n 0, 1) := by decide +kernel
theorem dX10_note_26 : decode cX10_note 26 = .ok (.getfield 19, 3) := by decide +kernel
theorem dX10_note_29 : decode cX10_note 29 = .ok (.iload 4, 2) := by decide +kernel
theorem dX10_note_31 : decode cX10_note 31 = .ok (.invokevirtual 388, 3) := by decide +kernel
theorem dX10_note_34 : decode cX10_note 34 = .ok (.ifCond .eq 7, 3) := by decide +kernel
theorem dX10_note_37 : decode cX10_note 37 = .ok (.iconst 1, 1) := by decide +kernel
theorem dX10_note_38 : decode cX10_note 38 = .ok (.goto 4, 3) := by decide +kernel
theorem dX10_note_41 : decode cX10_note 41 = .ok (.iconst 0, 1) := by decide +kernel
theorem dX10_note_42 : decode cX10_note 42 = .ok (.istore 5, 2) := by decide +kernel
theorem dX10_note_44 : decode cX10_note 44 = .ok (.iload 5, 2) := by decide +kernel
theorem dX10_note_46 : decode cX10_note 46 = .ok (.ifCond .eq 15, 3) := by decide +kernel
theorem dX10_note_49 : decode cX10_note 49 = .ok (.aload_n 0, 1) := by decide +kernel
theorem dX10_note_50 : decode cX10_note 50 = .ok (.getfield 82, 3) := by decide +kernel
theorem dX10_note_53 : decode cX10_note 53 = .ok (.getfield 158, 3) := by decide +kernel
theorem dX10_note_56 : decode cX10_note 56 = .ok (.bipush 8, 2) := by decide +kernel
theorem dX10_note_58 : decode cX10_note 58 = .ok (.if_icmp .lt 15, 3) := by decide +kernel
theorem dX10_note_61 : decode cX10_note 61 = .ok (.aload_n 0, 1) := by decide +kernel
theorem dX10_note_62 : decode cX10_note 62 = .ok (.getfield 93, 3) := by decide +kernel
theorem dX10_note_65 : decode cX10_note 65 = .ok (.iconst 2, 1) := by decide +kernel
theorem dX10_note_66 : decode cX10_note 66 = .ok (.dup2, 1) := by decide +kernel
theorem dX10_note_67 : decode cX10_note 67 = .ok (.iaload, 1) := by decide +kernel
theorem dX10_note_68 : decode cX10_note 68 = .ok (.iconst 1, 1) := by decide +kernel
theorem dX10_note_69 : decode cX10_note 69 = .ok (.iadd, 1) := by decide +kernel
theorem dX10_note_70 : decode cX10_note 70 = .ok (.iastore, 1) := by decide +kernel
theorem dX10_note_71 : decode cX10_note 71 = .ok (.iconst (-1), 1) := by decide +kernel
theorem dX10_note_72 : decode cX10_note 72 = .ok (.ireturn, 1) := by decide +kernel
theorem dX10_note_73 : decode cX10_note 73 = .ok (.aload_n 0, 1) := by decide +kernel
theorem dX10_note_74 : decode cX10_note 74 = .ok (.getfield 82, 3) := by decide +kernel
theorem dX10_note_77 : decode cX10_note 77 = .ok (.iload_n 1, 1) := by decide +kernel
theorem dX10_note_78 : decode cX10_note 78 = .ok (.iload_n 2, 1) := by decide +kernel
theorem dX10_note_79 : decode cX10_note 79 = .ok (.iload_n 3, 1) := by decide +kernel
theorem dX10_note_80 : decode cX10_note 80 = .ok (.iload 4, 2) := by decide +kernel
theorem dX10_note_82 : decode cX10_note 82 = .ok (.invokevirtual 391, 3) := by decide +kernel
theorem dX10_note_85 : decode cX10_note 85 = .ok (.aload_n 0, 1) := by decide +kernel
theorem dX10_note_86 : decode cX10_note 86 = .ok (.getfield 82, 3) := by decide +kernel
theorem dX10_note_89 : decode cX10_note 89 = .ok (.getfield 158, 3) := by decide +kernel
theorem dX10_note_92 : decode cX10_note 92 = .ok (.ireturn, 1) := by decide +kernel
set_option maxRecDepth 20000 in
theorem ggX10_fits_X10_mustBeRouter : GoodIn wsX10_fits wsX10_mustBeRouter := goodIn_ca (goodIn_r _ [6, 7, 8, 9, 10, 11, 12, 13, 14, 15, 116, 117, 118, 119, 120, 121, 122, 123, 124, 125, 126, 127, 128, 129, 130, 131, 132, 133, 134, 135, 136, 137, 138, 139, 140, 141, 142, 143, 144, 145, 146, 147, 148, 149] (by decide +kernel) (by decide +kernel)) (goodIn_sub (fun _ h => List.mem_cons_of_mem _ (List.mem_append_right _ h)) (by decide +kernel))
set_option maxRecDepth 20000 in
theorem gX10_fits_X10_mustBeRouter : GoodIn wsX10_fits (wsV RX10 200 RX10 yX10_mustBeRouter wsX10_mustBeRouter) := goodIn_app (goodIn_of _ (by decide +kernel)) ggX10_fits_X10_mustBeRouter
set_option maxRecDepth 20000 in
theorem ggX10_fits_X10_mustBeWhat : GoodIn wsX10_fits wsX10_mustBeWhat := goodIn_ca (goodIn_r _ [18, 7, 8] (by decide +kernel) (by decide +kernel)) (goodIn_sub (fun _ h => List.mem_cons_of_mem _ (List.mem_append_right _ h)) (by decide +kernel))
set_option maxRecDepth 20000 in
theorem gX10_fits_X10_mustBeWhat : GoodIn wsX10_fits (va_wsS RX10 232 yX10_mustBeWhat wsX10_mustBeWhat) := goodIn_app (goodIn_of _ (by decide +kernel)) ggX10_fits_X10_mustBeWhat
set_option maxRecDepth 20000 in
theorem ggX10_fits_X3_fitting : GoodIn wsX10_fits wsX3_fitting := goodIn_r _ [23, 24, 25, 26, 27, 28, 22, 29, 30, 31, 32, 33, 34, 35, 36, 37, 38, 39, 40, 41, 42, 43, 13, 44, 45, 46, 47, 48, 49, 50, 51, 52, 53, 54, 55, 56, 57, 58, 59, 60, 61, 62, 63, 64, 65, 66, 67, 68, 69, 70, 71, 72, 73, 74, 75, 76, 77, 78, 79, 80, 81, 82, 83, 84, 85, 86, 87, 88, 89, 90, 91, 92, 93, 94, 95, 96, 97, 98, 99, 100, 150, 151, 152, 153, 154, 155, 156, 157, 158, 159, 160, 161, 162, 163, 164, 165, 166, 167, 168, 135, 136, 137, 138, 139, 140, 141, 142, 143, 144, 145, 146, 147, 148, 149, 169, 170, 171, 172, 173, 174, 175, 176, 177, 178] (by decide +kernel) (by decide +kernel)
set_option maxRecDepth 20000 in
theorem gX10_fits_X3_fitting : GoodIn wsX10_fits (wsV RX10 395 RX3 yX3_fitting wsX3_fitting) := goodIn_app (goodIn_of _ (by decide +kernel)) ggX10_fits_X3_fitting
set_option maxRecDepth 20000 in
theorem ggX10_fits_J13_bitCount_95d88 : GoodIn wsX10_fits wsJ13_bitCount_95d88 := goodIn_r _ [104, 105, 106, 107] (by decide +kernel) (by decide +kernel)
set_option maxRecDepth 20000 in
theorem gX10_fits_J13_bitCount_95d88 : GoodIn wsX10_fits (va_wsS RX10 399 yJ13_bitCount_95d88 wsJ13_bitCount_95d88) := goodIn_app (goodIn_of _ (by decide +kernel)) ggX10_fits_J13_bitCount_95d88
set_option maxRecDepth 20000 in
theorem ggX10_fits_J13_numberOfTrailingZeros_95d88 : GoodIn wsX10_fits wsJ13_numberOfTrailingZeros_95d88 := goodIn_r _ [110, 111, 112, 113, 114, 115] (by decide +kernel) (by decide +kernel)
set_option maxRecDepth 20000 in
theorem gX10_fits_J13_numberOfTrailingZeros_95d88 : GoodIn wsX10_fits (va_wsS RX10 404 yJ13_numberOfTrailingZeros_95d88 wsJ13_numberOfTrailingZeros_95d88) := goodIn_app (goodIn_of _ (by decide +kernel)) ggX10_fits_J13_numberOfTrailingZeros_95d88
theorem dX10_fits_0 : decode cX10_fits 0 = .ok (.aload_n 0, 1) := by decide +kernel
theorem dX10_fits_1 : decode cX10_fits 1 = .ok (.iload_n 1, 1) := by decide +kernel
theorem dX10_fits_2 : decode cX10_fits 2 = .ok (.invokevirtual 200, 3) := by decide +kernel
theorem dX10_fits_5 : decode cX10_fits 5 = .ok (.iload_n 2, 1) := by decide +kernel
theorem dX10_fits_6 : decode cX10_fits 6 = .ok (.iconst 1, 1) := by decide +kernel
theorem dX10_fits_7 : decode cX10_fits 7 = .ok (.invokestatic 232, 3) := by decide +kernel
theorem dX10_fits_10 : decode cX10_fits 10 = .ok (.aload_n 0, 1) := by decide +kernel
theorem dX10_fits_11 : decode cX10_fits 11 = .ok (.getfield 82, 3) := by decide +kernel
theorem dX10_fits_14 : decode cX10_fits 14 = .ok (.iload_n 1, 1) := by decide +kernel
theorem dX10_fits_15 : decode cX10_fits 15 = .ok (.invokevirtual 395, 3) := by decide +kernel
theorem dX10_fits_18 : decode cX10_fits 18 = .ok (.lstore_n 3, 1) := by decide +kernel
theorem dX10_fits_19 : decode cX10_fits 19 = .ok (.iload_n 2, 1) := by decide +kernel
theorem dX10_fits_20 : decode cX10_fits 20 = .ok (.ifCond .ne 8, 3) := by decide +kernel
theorem dX10_fits_23 : decode cX10_fits 23 = .ok (.lload_n 3, 1) := by decide +kernel
theorem dX10_fits_24 : decode cX10_fits 24 = .ok (.invokestatic 399, 3) := by decide +kernel
theorem dX10_fits_27 : decode cX10_fits 27 = .ok (.ireturn, 1) := by decide +kernel
theorem dX10_fits_28 : decode cX10_fits 28 = .ok (.lload_n 3, 1) := by decide +kernel
theorem dX10_fits_29 : decode cX10_fits 29 = .ok (.lconst 0, 1) := by decide +kernel
theorem dX10_fits_30 : decode cX10_fits 30 = .ok (.lcmp, 1) := by decide +kernel
theorem dX10_fits_31 : decode cX10_fits 31 = .ok (.ifCond .ne 7, 3) := by decide +kernel
theorem dX10_fits_34 : decode cX10_fits 34 = .ok (.iconst (-1), 1) := by decide +kernel
theorem dX10_fits_35 : decode cX10_fits 35 = .ok (.goto 7, 3) := by decide +kernel
theorem dX10_fits_38 : decode cX10_fits 38 = .ok (.lload_n 3, 1) := by decide +kernel
theorem dX10_fits_39 : decode cX10_fits 39 = .ok (.invokestatic 404, 3) := by decide +kernel
theorem dX10_fits_42 : decode cX10_fits 42 = .ok (.ireturn, 1) := by decide +kernel
set_option maxRecDepth 20000 in
theorem ggX10_look_X10_mustBeRouter : GoodIn wsX10_look wsX10_mustBeRouter := goodIn_ca (goodIn_r _ [8, 9, 10, 11, 12, 13, 14, 15, 16, 17, 134, 135, 136, 137, 138, 139, 140, 141, 142, 143, 144, 145, 146, 147, 148, 149, 150, 151, 152, 162, 163, 164, 165, 166, 167, 168, 169, 170, 171, 172, 173, 174, 175, 176] (by decide +kernel) (by decide +kernel)) (goodIn_sub (fun _ h => List.mem_cons_of_mem _ (List.mem_append_right _ h)) (by decide +kernel))
set_option maxRecDepth 20000 in
theorem gX10_look_X10_mustBeRouter : GoodIn wsX10_look (wsV RX10 200 RX10 yX10_mustBeRouter wsX10_mustBeRouter) := goodIn_app (goodIn_of _ (by decide +kernel)) ggX10_look_X10_mustBeRouter
set_option maxRecDepth 20000 in
theorem ggX10_look_X10_mustBeGoal : GoodIn wsX10_look wsX10_mustBeGoal := goodIn_ca (goodIn_r _ [21, 9, 10, 11, 22, 23, 24, 15, 25, 26, 134, 135, 136, 137, 138, 139, 140, 141, 142, 143, 144, 145, 146, 147, 148, 149, 150, 151, 152, 162, 163, 164, 165, 166, 167, 168, 169, 170, 171, 172, 173, 174, 175, 176] (by decide +kernel) (by decide +kernel)) (goodIn_sub (fun _ h => List.mem_cons_of_mem _ (List.mem_append_right _ h)) (by decide +kernel))
set_option maxRecDepth 20000 in
theorem gX10_look_X10_mustBeGoal : GoodIn wsX10_look (wsV RX10 245 RX10 yX10_mustBeGoal wsX10_mustBeGoal) := goodIn_app (goodIn_of _ (by decide +kernel)) ggX10_look_X10_mustBeGoal
set_option maxRecDepth 20000 in
theorem ggX10_look_X10_mustBeWhat : GoodIn wsX10_look wsX10_mustBeWhat := goodIn_ca (goodIn_r _ [29, 9, 10] (by decide +kernel) (by decide +kernel)) (goodIn_sub (fun _ h => List.mem_cons_of_mem _ (List.mem_append_right _ h)) (by decide +kernel))
set_option maxRecDepth 20000 in
theorem gX10_look_X10_mustBeWhat : GoodIn wsX10_look (va_wsS RX10 232 yX10_mustBeWhat wsX10_mustBeWhat) := goodIn_app (goodIn_of _ (by decide +kernel)) ggX10_look_X10_mustBeWhat
set_option maxRecDepth 20000 in
theorem ggX10_look_X3_lookNext : GoodIn wsX10_look wsX3_lookNext := goodIn_r _ [34, 35, 36, 37, 38, 39, 33, 40, 41, 42, 43, 44, 45, 46, 47, 48, 49, 50, 51, 52, 53, 54, 55, 56, 57, 58, 59, 60, 15, 61, 62, 63, 64, 65, 66, 67, 68, 69, 70, 71, 72, 73, 74, 75, 76, 77, 78, 79, 80, 81, 82, 83, 84, 85, 86, 87, 88, 89, 90, 91, 92, 93, 94, 95, 96, 97, 98, 99, 100, 101, 102, 103, 104, 105, 106, 107, 108, 26, 109, 110, 111, 112, 113, 114, 115, 116, 117, 118, 119, 120, 121, 122, 123, 124, 125, 126, 127, 128, 129, 130, 131, 132, 133, 153, 154, 155, 156, 157, 158, 159, 160, 161, 177, 178, 179, 180, 181, 182, 183, 184, 185, 186, 162, 163, 164, 165, 166, 167, 168, 169, 170, 171, 172, 173, 174, 175, 176, 187, 188, 189, 190, 191, 192, 193, 194, 195, 196] (by decide +kernel) (by decide +kernel)
set_option maxRecDepth 20000 in
theorem gX10_look_X3_lookNext : GoodIn wsX10_look (wsV RX10 407 RX3 yX3_lookNext wsX3_lookNext) := goodIn_app (goodIn_of _ (by decide +kernel)) ggX10_look_X3_lookNext
theorem dX10_look_0 : decode cX10_look 0 = .ok (.aload_n 0, 1) := by decide +kernel
theorem dX10_look_1 : decode cX10_look 1 = .ok (.iload_n 1, 1) := by decide +kernel
theorem dX10_look_2 : decode cX10_look 2 = .ok (.invokevirtual 200, 3) := by decide +kernel
theorem dX10_look_5 : decode cX10_look 5 = .ok (.aload_n 0, 1) := by decide +kernel
theorem dX10_look_6 : decode cX10_look 6 = .ok (.iload_n 2, 1) := by decide +kernel
theorem dX10_look_7 : decode cX10_look 7 = .ok (.invokevirtual 245, 3) := by decide +kernel
theorem dX10_look_10 : decode cX10_look 10 = .ok (.iload_n 3, 1) := by decide +kernel
theorem dX10_look_11 : decode cX10_look 11 = .ok (.iconst 1, 1) := by decide +kernel
theorem dX10_look_12 : decode cX10_look 12 = .ok (.invokestatic 232, 3) := by decide +kernel
theorem dX10_look_15 : decode cX10_look 15 = .ok (.aload_n 0, 1) := by decide +kernel
theorem dX10_look_16 : decode cX10_look 16 = .ok (.getfield 82, 3) := by decide +kernel
theorem dX10_look_19 : decode cX10_look 19 = .ok (.iload_n 1, 1) := by decide +kernel
theorem dX10_look_20 : decode cX10_look 20 = .ok (.iload_n 2, 1) := by decide +kernel
theorem dX10_look_21 : decode cX10_look 21 = .ok (.invokevirtual 407, 3) := by decide +kernel
theorem dX10_look_24 : decode cX10_look 24 = .ok (.iload_n 3, 1) := by decide +kernel
theorem dX10_look_25 : decode cX10_look 25 = .ok (.ifCond .ne 13, 3) := by decide +kernel
theorem dX10_look_28 : decode cX10_look 28 = .ok (.aload_n 0, 1) := by decide +kernel
theorem dX10_look_29 : decode cX10_look 29 = .ok (.getfield 82, 3) := by decide +kernel
theorem dX10_look_32 : decode cX10_look 32 = .ok (.getfield 410, 3) := by decide +kernel
theorem dX10_look_35 : decode cX10_look 35 = .ok (.goto 10, 3) := by decide +kernel
theorem dX10_look_38 : decode cX10_look 38 = .ok (.aload_n 0, 1) := by decide +kernel
theorem dX10_look_39 : decode cX10_look 39 = .ok (.getfield 82, 3) := by decide +kernel
theorem dX10_look_42 : decode cX10_look 42 = .ok (.getfield 413, 3) := by decide +kernel
theorem dX10_look_45 : decode cX10_look 45 = .ok (.ireturn, 1) := by decide +kernel
theorem dX10_forget_0 : decode cX10_forget 0 = .ok (.aload_n 0, 1) := by decide +kernel
theorem dX10_forget_1 : decode cX10_forget 1 = .ok (.getfield 82, 3) := by decide +kernel
theorem dX10_forget_4 : decode cX10_forget 4 = .ok (.iconst 0, 1) := by decide +kernel
theorem dX10_forget_5 : decode cX10_forget 5 = .ok (.putfield 158, 3) := by decide +kernel
theorem dX10_forget_8 : decode cX10_forget 8 = .ok (.return_, 1) := by decide +kernel
set_option maxRecDepth 20000 in
theorem ggX10_restore_X0_copyFrom : GoodIn wsX10_restore wsX0_copyFrom := goodIn_r _ [18, 19, 20, 11, 12, 13, 21, 22, 23, 24, 25, 26, 27, 28, 29, 86, 87, 88, 89, 90, 91, 92, 93, 94, 95] (by decide +kernel) (by decide +kernel)
set_option maxRecDepth 20000 in
theorem gX10_restore_X0_copyFrom : GoodIn wsX10_restore (wsV RX10 418 RX0 yX0_copyFrom wsX0_copyFrom) := goodIn_app (goodIn_of _ (by decide +kernel)) ggX10_restore_X0_copyFrom
set_option maxRecDepth 20000 in
theorem ggX10_restore_X1_copyFrom : GoodIn wsX10_restore wsX1_copyFrom := goodIn_r _ [34, 35, 36, 37, 38, 33, 39, 40, 41, 42, 43, 17, 44, 45, 46, 47, 48, 49, 19, 50, 21, 22, 23, 24, 25, 26, 27, 28, 29, 51, 52, 53, 54, 55, 15, 16, 18, 20, 11, 12, 13, 96, 97, 98, 86, 87, 88, 89, 90, 91, 92, 93, 94, 95] (by decide +kernel) (by decide +kernel)
set_option maxRecDepth 20000 in
theorem gX10_restore_X1_copyFrom : GoodIn wsX10_restore (wsV RX10 432 RX1 yX1_copyFrom wsX1_copyFrom) := goodIn_app (goodIn_of _ (by decide +kernel)) ggX10_restore_X1_copyFrom
set_option maxRecDepth 20000 in
theorem ggX10_restore_X3_copyFrom : GoodIn wsX10_restore wsX3_copyFrom := goodIn_r _ [60, 61, 62, 11, 12, 13, 63, 64, 65, 66, 99, 100, 101, 102, 103, 104, 105, 106, 107] (by decide +kernel) (by decide +kernel)
set_option maxRecDepth 20000 in
theorem gX10_restore_X3_copyFrom : GoodIn wsX10_restore (wsV RX10 435 RX3 yX3_copyFrom wsX3_copyFrom) := goodIn_app (goodIn_of _ (by decide +kernel)) ggX10_restore_X3_copyFrom
theorem dX10_restore_0 : decode cX10_restore 0 = .ok (.aload_n 0, 1) := by decide +kernel
theorem dX10_restore_1 : decode cX10_restore 1 = .ok (.getfield 97, 3) := by decide +kernel
theorem dX10_restore_4 : decode cX10_restore 4 = .ok (.ifCond .ne 5, 3) := by decide +kernel
theorem dX10_restore_7 : decode cX10_restore 7 = .ok (.iconst 0, 1) := by decide +kernel
theorem dX10_restore_8 : decode cX10_restore 8 = .ok (.ireturn, 1) := by decide +kernel
theorem dX10_restore_9 : decode cX10_restore 9 = .ok (.aload_n 0, 1) := by decide +kernel
theorem dX10_restore_10 : decode cX10_restore 10 = .ok (.getfield 38, 3) := by decide +kernel
theorem dX10_restore_13 : decode cX10_restore 13 = .ok (.aload_n 0, 1) := by decide +kernel
theorem dX10_restore_14 : decode cX10_restore 14 = .ok (.getfield 101, 3) := by decide +kernel
theorem dX10_restore_17 : decode cX10_restore 17 = .ok (.invokevirtual 418, 3) := by decide +kernel
theorem dX10_restore_20 : decode cX10_restore 20 = .ok (.aload_n 0, 1) := by decide +kernel
theorem dX10_restore_21 : decode cX10_restore 21 = .ok (.getfield 89, 3) := by decide +kernel
theorem dX10_restore_24 : decode cX10_restore 24 = .ok (.aload_n 0, 1) := by decide +kernel
theorem dX10_restore_25 : decode cX10_restore 25 = .ok (.getfield 104, 3) := by decide +kernel
theorem dX10_restore_28 : decode cX10_restore 28 = .ok (.invokevirtual 432, 3) := by decide +kernel
theorem dX10_restore_31 : decode cX10_restore 31 = .ok (.aload_n 0, 1) := by decide +kernel
theorem dX10_restore_32 : decode cX10_restore 32 = .ok (.getfield 82, 3) := by decide +kernel
theorem dX10_restore_35 : decode cX10_restore 35 = .ok (.aload_n 0, 1) := by decide +kernel
theorem dX10_restore_36 : decode cX10_restore 36 = .ok (.getfield 107, 3) := by decide +kernel
theorem dX10_restore_39 : decode cX10_restore 39 = .ok (.invokevirtual 435, 3) := by decide +kernel
theorem dX10_restore_42 : decode cX10_restore 42 = .ok (.aload_n 0, 1) := by decide +kernel
theorem dX10_restore_43 : decode cX10_restore 43 = .ok (.getfield 110, 3) := by decide +kernel
theorem dX10_restore_46 : decode cX10_restore 46 = .ok (.iconst 0, 1) := by decide +kernel
theorem dX10_restore_47 : decode cX10_restore 47 = .ok (.aload_n 0, 1) := by decide +kernel
theorem dX10_restore_48 : decode cX10_restore 48 = .ok (.getfield 93, 3) := by decide +kernel
theorem dX10_restore_51 : decode cX10_restore 51 = .ok (.iconst 0, 1) := by decide +kernel
theorem dX10_restore_52 : decode cX10_restore 52 = .ok (.iconst 3, 1) := by decide +kernel
theorem dX10_restore_53 : decode cX10_restore 53 = .ok (.invokestatic 438, 3) := by decide +kernel
theorem dX10_restore_56 : decode cX10_restore 56 = .ok (.iconst 1, 1) := by decide +kernel
theorem dX10_restore_57 : decode cX10_restore 57 = .ok (.ireturn, 1) := by decide +kernel
theorem dX10_isPort_0 : decode cX10_isPort 0 = .ok (.iload_n 0, 1) := by decide +kernel
theorem dX10_isPort_1 : decode cX10_isPort 1 = .ok (.ifCond .lt 13, 3) := by decide +kernel
theorem dX10_isPort_4 : decode cX10_isPort 4 = .ok (.iload_n 0, 1) := by decide +kernel
theorem dX10_isPort_5 : decode cX10_isPort 5 = .ok (.bipush 32, 2) := by decide +kernel
theorem dX10_isPort_7 : decode cX10_isPort 7 = .ok (.if_icmp .ge 7, 3) := by decide +kernel
theorem dX10_isPort_10 : decode cX10_isPort 10 = .ok (.iconst 1, 1) := by decide +kernel
theorem dX10_isPort_11 : decode cX10_isPort 11 = .ok (.goto 4, 3) := by decide +kernel
theorem dX10_isPort_14 : decode cX10_isPort 14 = .ok (.iconst 0, 1) := by decide +kernel
theorem dX10_isPort_15 : decode cX10_isPort 15 = .ok (.ireturn, 1) := by decide +kernel
theorem dX10_isHops_0 : decode cX10_isHops 0 = .ok (.iload_n 0, 1) := by decide +kernel
theorem dX10_isHops_1 : decode cX10_isHops 1 = .ok (.iconst 1, 1) := by decide +kernel
theorem dX10_isHops_2 : decode cX10_isHops 2 = .ok (.if_icmp .lt 13, 3) := by decide +kernel
theorem dX10_isHops_5 : decode cX10_isHops 5 = .ok (.iload_n 0, 1) := by decide +kernel
theorem dX10_isHops_6 : decode cX10_isHops 6 = .ok (.bipush 10, 2) := by decide +kernel
theorem dX10_isHops_8 : decode cX10_isHops 8 = .ok (.if_icmp .gt 7, 3) := by decide +kernel
theorem dX10_isHops_11 : decode cX10_isHops 11 = .ok (.iconst 1, 1) := by decide +kernel
theorem dX10_isHops_12 : decode cX10_isHops 12 = .ok (.goto 4, 3) := by decide +kernel
theorem dX10_isHops_15 : decode cX10_isHops 15 = .ok (.iconst 0, 1) := by decide +kernel
theorem dX10_isHops_16 : decode cX10_isHops 16 = .ok (.ireturn, 1) := by decide +kernel
set_option maxRecDepth 20000 in
theorem ggX10_mustBePort_X10_isPort : GoodIn wsX10_mustBePort wsX10_isPort := goodIn_r _ [6] (by decide +kernel) (by decide +kernel)
set_option maxRecDepth 20000 in
theorem gX10_mustBePort_X10_isPort : GoodIn wsX10_mustBePort (va_wsS RX10 347 yX10_isPort wsX10_isPort) := goodIn_app (goodIn_of _ (by decide +kernel)) ggX10_mustBePort_X10_isPort
theorem dX10_mustBePort_0 : decode cX10_mustBePort 0 = .ok (.iload_n 0, 1) := by decide +kernel
theorem dX10_mustBePort_1 : decode cX10_mustBePort 1 = .ok (.invokestatic 347, 3) := by decide +kernel
theorem dX10_mustBePort_4 : decode cX10_mustBePort 4 = .ok (.ifCond .ne 14, 3) := by decide +kernel
theorem dX10_mustBePort_7 : decode cX10_mustBePort 7 = .ok (.new 195, 3) := by decide +kernel
theorem dX10_mustBePort_10 : decode cX10_mustBePort 10 = .ok (.dup, 1) := by decide +kernel
theorem dX10_mustBePort_11 : decode cX10_mustBePort 11 = .ok (.ldc_w 444, 3) := by decide +kernel
theorem dX10_mustBePort_14 : decode cX10_mustBePort 14 = .ok (.invokespecial 199, 3) := by decide +kernel
theorem dX10_mustBePort_17 : decode cX10_mustBePort 17 = .ok (.athrow, 1) := by decide +kernel
theorem dX10_mustBePort_18 : decode cX10_mustBePort 18 = .ok (.return_, 1) := by decide +kernel
set_option maxRecDepth 20000 in
theorem ggX10_mustBeHops_X10_isHops : GoodIn wsX10_mustBeHops wsX10_isHops := goodIn_r _ [6] (by decide +kernel) (by decide +kernel)
set_option maxRecDepth 20000 in
theorem gX10_mustBeHops_X10_isHops : GoodIn wsX10_mustBeHops (va_wsS RX10 353 yX10_isHops wsX10_isHops) := goodIn_app (goodIn_of _ (by decide +kernel)) ggX10_mustBeHops_X10_isHops
theorem dX10_mustBeHops_0 : decode cX10_mustBeHops 0 = .ok (.iload_n 0, 1) := by decide +kernel
theorem dX10_mustBeHops_1 : decode cX10_mustBeHops 1 = .ok (.invokestatic 353, 3) := by decide +kernel
theorem dX10_mustBeHops_4 : decode cX10_mustBeHops 4 = .ok (.ifCond .ne 14, 3) := by decide +kernel
theorem dX10_mustBeHops_7 : decode cX10_mustBeHops 7 = .ok (.new 195, 3) := by decide +kernel
theorem dX10_mustBeHops_10 : decode cX10_mustBeHops 10 = .ok (.dup, 1) := by decide +kernel
theorem dX10_mustBeHops_11 : decode cX10_mustBeHops 11 = .ok (.ldc_w 446, 3) := by decide +kernel
theorem dX10_mustBeHops_14 : decode cX10_mustBeHops 14 = .ok (.invokespecial 199, 3) := by decide +kernel
theorem dX10_mustBeHops_17 : decode cX10_mustBeHops 17 = .ok (.athrow, 1) := by decide +kernel
theorem dX10_mustBeHops_18 : decode cX10_mustBeHops 18 = .ok (.return_, 1) := by decide +kernel
theorem dX10_mustBeWhat_0 : decode cX10_mustBeWhat 0 = .ok (.iload_n 0, 1) := by decide +kernel
theorem dX10_mustBeWhat_1 : decode cX10_mustBeWhat 1 = .ok (.ifCond .lt 8, 3) := by decide +kernel
theorem dX10_mustBeWhat_4 : decode cX10_mustBeWhat 4 = .ok (.iload_n 0, 1) := by decide +kernel
theorem dX10_mustBeWhat_5 : decode cX10_mustBeWhat 5 = .ok (.iload_n 1, 1) := by decide +kernel
theorem dX10_mustBeWhat_6 : decode cX10_mustBeWhat 6 = .ok (.if_icmp .le 14, 3) := by decide +kernel
theorem dX10_mustBeWhat_9 : decode cX10_mustBeWhat 9 = .ok (.new 195, 3) := by decide +kernel
theorem dX10_mustBeWhat_12 : decode cX10_mustBeWhat 12 = .ok (.dup, 1) := by decide +kernel
theorem dX10_mustBeWhat_13 : decode cX10_mustBeWhat 13 = .ok (.ldc_w 448, 3) := by decide +kernel
theorem dX10_mustBeWhat_16 : decode cX10_mustBeWhat 16 = .ok (.invokespecial 199, 3) := by decide +kernel
theorem dX10_mustBeWhat_19 : decode cX10_mustBeWhat 19 = .ok (.athrow, 1) := by decide +kernel
theorem dX10_mustBeWhat_20 : decode cX10_mustBeWhat 20 = .ok (.return_, 1) := by decide +kernel
set_option maxRecDepth 20000 in
theorem ggX10_mustBeRouter_X2_hasRouter : GoodIn wsX10_mustBeRouter wsX2_hasRouter := goodIn_r _ [8, 9, 29, 30, 31, 32, 33, 34, 35, 36, 37, 38, 39, 40, 41, 42, 43] (by decide +kernel) (by decide +kernel)
set_option maxRecDepth 20000 in
theorem gX10_mustBeRouter_X2_hasRouter : GoodIn wsX10_mustBeRouter (wsV RX10 450 RX2 yX2_hasRouter wsX2_hasRouter) := goodIn_app (goodIn_of _ (by decide +kernel)) ggX10_mustBeRouter_X2_hasRouter
theorem dX10_mustBeRouter_0 : decode cX10_mustBeRouter 0 = .ok (.aload_n 0, 1) := by decide +kernel
theorem dX10_mustBeRouter_1 : decode cX10_mustBeRouter 1 = .ok (.getfield 19, 3) := by decide +kernel
theorem dX10_mustBeRouter_4 : decode cX10_mustBeRouter 4 = .ok (.iload_n 1, 1) := by decide +kernel
theorem dX10_mustBeRouter_5 : decode cX10_mustBeRouter 5 = .ok (.invokevirtual 450, 3) := by decide +kernel
theorem dX10_mustBeRouter_8 : decode cX10_mustBeRouter 8 = .ok (.ifCond .ne 14, 3) := by decide +kernel
theorem dX10_mustBeRouter_11 : decode cX10_mustBeRouter 11 = .ok (.new 195, 3) := by decide +kernel
theorem dX10_mustBeRouter_14 : decode cX10_mustBeRouter 14 = .ok (.dup, 1) := by decide +kernel
theorem dX10_mustBeRouter_15 : decode cX10_mustBeRouter 15 = .ok (.ldc_w 453, 3) := by decide +kernel
theorem dX10_mustBeRouter_18 : decode cX10_mustBeRouter 18 = .ok (.invokespecial 199, 3) := by decide +kernel
theorem dX10_mustBeRouter_21 : decode cX10_mustBeRouter 21 = .ok (.athrow, 1) := by decide +kernel
theorem dX10_mustBeRouter_22 : decode cX10_mustBeRouter 22 = .ok (.return_, 1) := by decide +kernel
set_option maxRecDepth 20000 in
theorem ggX10_mustBeLink_X2_hasLink : GoodIn wsX10_mustBeLink wsX2_hasLink := goodIn_r _ [8, 9, 29, 30, 31, 32, 33, 34, 35, 36, 37, 38, 39, 40, 41, 42, 43] (by decide +kernel) (by decide +kernel)
set_option maxRecDepth 20000 in
theorem gX10_mustBeLink_X2_hasLink : GoodIn wsX10_mustBeLink (wsV RX10 455 RX2 yX2_hasLink wsX2_hasLink) := goodIn_app (goodIn_of _ (by decide +kernel)) ggX10_mustBeLink_X2_hasLink
theorem dX10_mustBeLink_0 : decode cX10_mustBeLink 0 = .ok (.aload_n 0, 1) := by decide +kernel
theorem dX10_mustBeLink_1 : decode cX10_mustBeLink 1 = .ok (.getfield 19, 3) := by decide +kernel
theorem dX10_mustBeLink_4 : decode cX10_mustBeLink 4 = .ok (.iload_n 1, 1) := by decide +kernel
theorem dX10_mustBeLink_5 : decode cX10_mustBeLink 5 = .ok (.invokevirtual 455, 3) := by decide +kernel
theorem dX10_mustBeLink_8 : decode cX10_mustBeLink 8 = .ok (.ifCond .ne 14, 3) := by decide +kernel
theorem dX10_mustBeLink_11 : decode cX10_mustBeLink 11 = .ok (.new 195, 3) := by decide +kernel
theorem dX10_mustBeLink_14 : decode cX10_mustBeLink 14 = .ok (.dup, 1) := by decide +kernel
theorem dX10_mustBeLink_15 : decode cX10_mustBeLink 15 = .ok (.ldc_w 458, 3) := by decide +kernel
theorem dX10_mustBeLink_18 : decode cX10_mustBeLink 18 = .ok (.invokespecial 199, 3) := by decide +kernel
theorem dX10_mustBeLink_21 : decode cX10_mustBeLink 21 = .ok (.athrow, 1) := by decide +kernel
theorem dX10_mustBeLink_22 : decode cX10_mustBeLink 22 = .ok (.return_, 1) := by decide +kernel
set_option maxRecDepth 20000 in
theorem ggX10_mustBeGoal_X2_hasGoal : GoodIn wsX10_mustBeGoal wsX2_hasGoal := goodIn_r _ [8, 9, 29, 30, 31, 32, 33, 34, 35, 36, 37, 38, 39, 40, 41, 42, 43] (by decide +kernel) (by decide +kernel)
set_option maxRecDepth 20000 in
theorem gX10_mustBeGoal_X2_hasGoal : GoodIn wsX10_mustBeGoal (wsV RX10 350 RX2 yX2_hasGoal wsX2_hasGoal) := goodIn_app (goodIn_of _ (by decide +kernel)) ggX10_mustBeGoal_X2_hasGoal
theorem dX10_mustBeGoal_0 : decode cX10_mustBeGoal 0 = .ok (.aload_n 0, 1) := by decide +kernel
theorem dX10_mustBeGoal_1 : decode cX10_mustBeGoal 1 = .ok (.getfield 19, 3) := by decide +kernel
theorem dX10_mustBeGoal_4 : decode cX10_mustBeGoal 4 = .ok (.iload_n 1, 1) := by decide +kernel
theorem dX10_mustBeGoal_5 : decode cX10_mustBeGoal 5 = .ok (.invokevirtual 350, 3) := by decide +kernel
theorem dX10_mustBeGoal_8 : decode cX10_mustBeGoal 8 = .ok (.ifCond .ne 14, 3) := by decide +kernel
theorem dX10_mustBeGoal_11 : decode cX10_mustBeGoal 11 = .ok (.new 195, 3) := by decide +kernel
theorem dX10_mustBeGoal_14 : decode cX10_mustBeGoal 14 = .ok (.dup, 1) := by decide +kernel
theorem dX10_mustBeGoal_15 : decode cX10_mustBeGoal 15 = .ok (.ldc_w 460, 3) := by decide +kernel
theorem dX10_mustBeGoal_18 : decode cX10_mustBeGoal 18 = .ok (.invokespecial 199, 3) := by decide +kernel
theorem dX10_mustBeGoal_21 : decode cX10_mustBeGoal 21 = .ok (.athrow, 1) := by decide +kernel
theorem dX10_mustBeGoal_22 : decode cX10_mustBeGoal 22 = .ok (.return_, 1) := by decide +kernel
set_option maxRecDepth 20000 in
theorem ggX10_mustBeAddress_X2_hasAddress : GoodIn wsX10_mustBeAddress wsX2_hasAddress := goodIn_r _ [8, 9, 10, 30, 31, 32, 33, 34, 35, 36, 37, 38, 39, 40, 41, 42, 43, 44] (by decide +kernel) (by decide +kernel)
set_option maxRecDepth 20000 in
theorem gX10_mustBeAddress_X2_hasAddress : GoodIn wsX10_mustBeAddress (wsV RX10 388 RX2 yX2_hasAddress wsX2_hasAddress) := goodIn_app (goodIn_of _ (by decide +kernel)) ggX10_mustBeAddress_X2_hasAddress
theorem dX10_mustBeAddress_0 : decode cX10_mustBeAddress 0 = .ok (.aload_n 0, 1) := by decide +kernel
theorem dX10_mustBeAddress_1 : decode cX10_mustBeAddress 1 = .ok (.getfield 19, 3) := by decide +kernel
theorem dX10_mustBeAddress_4 : decode cX10_mustBeAddress 4 = .ok (.iload_n 1, 1) := by decide +kernel
theorem dX10_mustBeAddress_5 : decode cX10_mustBeAddress 5 = .ok (.invokevirtual 388, 3) := by decide +kernel
theorem dX10_mustBeAddress_8 : decode cX10_mustBeAddress 8 = .ok (.ifCond .ne 14, 3) := by decide +kernel
theorem dX10_mustBeAddress_11 : decode cX10_mustBeAddress 11 = .ok (.new 195, 3) := by decide +kernel
theorem dX10_mustBeAddress_14 : decode cX10_mustBeAddress 14 = .ok (.dup, 1) := by decide +kernel
theorem dX10_mustBeAddress_15 : decode cX10_mustBeAddress 15 = .ok (.ldc_w 462, 3) := by decide +kernel
theorem dX10_mustBeAddress_18 : decode cX10_mustBeAddress 18 = .ok (.invokespecial 199, 3) := by decide +kernel
theorem dX10_mustBeAddress_21 : decode cX10_mustBeAddress 21 = .ok (.athrow, 1) := by decide +kernel
theorem dX10_mustBeAddress_22 : decode cX10_mustBeAddress 22 = .ok (.return_, 1) := by decide +kernel
set_option maxRecDepth 20000 in
theorem ggX10_wasSeen_X2_hasAddress : GoodIn wsX10_wasSeen wsX2_hasAddress := goodIn_r _ [7, 8, 9, 44, 45, 46, 47, 48, 49, 50, 51, 52, 53, 54, 55, 56, 57, 58] (by decide +kernel) (by decide +kernel)
set_option maxRecDepth 20000 in
theorem gX10_wasSeen_X2_hasAddress : GoodIn wsX10_wasSeen (wsV RX10 388 RX2 yX2_hasAddress wsX2_hasAddress) := goodIn_app (goodIn_of _ (by decide +kernel)) ggX10_wasSeen_X2_hasAddress
set_option maxRecDepth 20000 in
theorem ggX10_wasSeen_X7_addressesEverywhere : GoodIn wsX10_wasSeen wsX7_addressesEverywhere := goodIn_r _ [14, 15, 16, 17, 18, 19, 20, 21, 22, 23, 24, 59, 60, 61, 62, 63, 44, 45, 46, 47, 48, 49, 50, 51, 52, 53, 54, 55, 56, 57, 58, 64, 65, 66, 67, 68, 69, 70, 71, 72, 73] (by decide +kernel) (by decide +kernel)
set_option maxRecDepth 20000 in
theorem gX10_wasSeen_X7_addressesEverywhere : GoodIn wsX10_wasSeen (wsV RX10 173 RX7 yX7_addressesEverywhere wsX7_addressesEverywhere) := goodIn_app (goodIn_of _ (by decide +kernel)) ggX10_wasSeen_X7_addressesEverywhere
theorem dX10_wasSeen_0 : decode cX10_wasSeen 0 = .ok (.aload_n 0, 1) := by decide +kernel
theorem dX10_wasSeen_1 : decode cX10_wasSeen 1 = .ok (.getfield 19, 3) := by decide +kernel
theorem dX10_wasSeen_4 : decode cX10_wasSeen 4 = .ok (.iload_n 1, 1) := by decide +kernel
theorem dX10_wasSeen_5 : decode cX10_wasSeen 5 = .ok (.invokevirtual 388, 3) := by decide +kernel
theorem dX10_wasSeen_8 : decode cX10_wasSeen 8 = .ok (.ifCond .eq 22, 3) := by decide +kernel
theorem dX10_wasSeen_11 : decode cX10_wasSeen 11 = .ok (.aload_n 0, 1) := by decide +kernel
theorem dX10_wasSeen_12 : decode cX10_wasSeen 12 = .ok (.getfield 57, 3) := by decide +kernel
theorem dX10_wasSeen_15 : decode cX10_wasSeen 15 = .ok (.invokevirtual 173, 3) := by decide +kernel
theorem dX10_wasSeen_18 : decode cX10_wasSeen 18 = .ok (.iload_n 1, 1) := by decide +kernel
theorem dX10_wasSeen_19 : decode cX10_wasSeen 19 = .ok (.ishr, 1) := by decide +kernel
theorem dX10_wasSeen_20 : decode cX10_wasSeen 20 = .ok (.iconst 1, 1) := by decide +kernel
theorem dX10_wasSeen_21 : decode cX10_wasSeen 21 = .ok (.iand, 1) := by decide +kernel
theorem dX10_wasSeen_22 : decode cX10_wasSeen 22 = .ok (.iconst 1, 1) := by decide +kernel
theorem dX10_wasSeen_23 : decode cX10_wasSeen 23 = .ok (.if_icmp .ne 7, 3) := by decide +kernel
theorem dX10_wasSeen_26 : decode cX10_wasSeen 26 = .ok (.iconst 1, 1) := by decide +kernel
theorem dX10_wasSeen_27 : decode cX10_wasSeen 27 = .ok (.goto 4, 3) := by decide +kernel
theorem dX10_wasSeen_30 : decode cX10_wasSeen 30 = .ok (.iconst 0, 1) := by decide +kernel
theorem dX10_wasSeen_31 : decode cX10_wasSeen 31 = .ok (.ireturn, 1) := by decide +kernel
theorem dX10_refuseAct_0 : decode cX10_refuseAct 0 = .ok (.aload_n 0, 1) := by decide +kernel
theorem dX10_refuseAct_1 : decode cX10_refuseAct 1 = .ok (.getfield 93, 3) := by decide +kernel
theorem dX10_refuseAct_4 : decode cX10_refuseAct 4 = .ok (.iconst 1, 1) := by decide +kernel
theorem dX10_refuseAct_5 : decode cX10_refuseAct 5 = .ok (.dup2, 1) := by decide +kernel
theorem dX10_refuseAct_6 : decode cX10_refuseAct 6 = .ok (.iaload, 1) := by decide +kernel
theorem dX10_refuseAct_7 : decode cX10_refuseAct 7 = .ok (.iconst 1, 1) := by decide +kernel
theorem dX10_refuseAct_8 : decode cX10_refuseAct 8 = .ok (.iadd, 1) := by decide +kernel
theorem dX10_refuseAct_9 : decode cX10_refuseAct 9 = .ok (.iastore, 1) := by decide +kernel
theorem dX10_refuseAct_10 : decode cX10_refuseAct 10 = .ok (.iconst (-1), 1) := by decide +kernel
theorem dX10_refuseAct_11 : decode cX10_refuseAct 11 = .ok (.ireturn, 1) := by decide +kernel
