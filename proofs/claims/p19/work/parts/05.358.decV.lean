set_option maxRecDepth 20000 in
theorem ggX11_net_X11_fail : GoodIn wsX11_net wsX11_fail := by
  have h := goodIn_app (goodIn_r (big := wsX11_net) (.code yX11_fail cX11_fail 2 (some .int) :: ([.fieldLink RX11 142 "PathProberModel" "code" "I"]) : List Cond) [27, 1] rfl (by decide +kernel)) (goodIn_few (big := wsX11_net) (fun _ h9 => List.mem_cons_of_mem _ (List.mem_append_right _ h9)) gb_0)
  exact h
set_option maxRecDepth 20000 in
theorem gX11_net_X11_fail : GoodIn wsX11_net (wsV RX11 240 RX11 yX11_fail wsX11_fail) := goodIn_app (goodIn_r _ [23, 24, 25, 26] rfl (by decide +kernel)) ggX11_net_X11_fail
set_option maxRecDepth 20000 in
theorem ggX11_net_X11_stepOn : GoodIn wsX11_net wsX11_stepOn := by
  have h := goodIn_app (goodIn_r (big := wsX11_net) (.code yX11_stepOn cX11_stepOn 2 none :: ([.fieldLink RX11 151 "PathProberModel" "at" "I", .fieldLink RX11 158 "PathProberModel" "begins" "I", .fieldLink RX11 161 "PathProberModel" "token" "I", .fieldLink RX11 171 "PathProberModel" "number" "I", .constant RX11 174 (100000), .methodLink RX11 175 Lib.Math.min.name, .static Lib.Math.min.name, .initialized "java/lang/Math", .code Lib.Math.min.name Lib.Math.min.code 2 (some .int), .fieldLink RX11 181 "PathProberModel" "stops" "I", .methodLink RX11 154 yX11_byteAt, .instanceMethod yX11_byteAt, .selects RX11 yX11_byteAt yX11_byteAt, .initialized RX11, .code yX11_byteAt cX11_byteAt 2 (some .int), .fieldLink RX11 148 "PathProberModel" "textSize" "I", .fieldLink RX11 66 "PathProberModel" "tape" "[I", .methodLink RX11 164 yX11_isLetter, .static yX11_isLetter, .code yX11_isLetter cX11_isLetter 1 (some .boolean), .methodLink RX11 168 yX11_isDigit, .static yX11_isDigit, .code yX11_isDigit cX11_isDigit 1 (some .boolean)]) : List Cond) [31, 4, 32, 8, 33, 34, 35, 36, 37, 38, 39, 40, 41, 42, 26, 43, 3, 44, 45, 46, 47, 48, 49, 50] rfl (by decide +kernel)) (goodIn_few (big := wsX11_net) (fun _ h9 => List.mem_cons_of_mem _ (List.mem_append_right _ h9)) gb_0)
  exact h
set_option maxRecDepth 20000 in
theorem gX11_net_X11_stepOn : GoodIn wsX11_net (wsV RX11 209 RX11 yX11_stepOn wsX11_stepOn) := goodIn_app (goodIn_r _ [28, 29, 30, 26] rfl (by decide +kernel)) ggX11_net_X11_stepOn
set_option maxRecDepth 20000 in
theorem ggX11_net_X11_readClause : GoodIn wsX11_net wsX11_readClause := by
  have h := goodIn_app (goodIn_r (big := wsX11_net) (.code yX11_readClause cX11_readClause 2 none :: (wsX11_readClause_r1 ++ (wsX11_readClause_r2 ++ (wsX11_readClause_r3 ++ (wsX11_readClause_r4 ++ (wsX11_readClause_r5 ++ wsX11_readClause_r6))))) : List Cond) [54, 55, 7, 5, 8, 56, 57, 58, 26, 59, 60, 61, 62, 63, 39, 32, 44, 64, 65, 66, 67, 68, 69, 70, 71, 72, 73, 74, 75, 76, 77, 78, 79, 80, 81, 82, 83, 84, 85, 86, 87, 88, 89, 90, 91, 92, 93, 94, 95, 96, 97, 98, 99, 100, 101, 102, 103, 104, 105, 106, 107, 108, 109, 110, 111, 112, 113, 114, 115, 116, 9, 117, 118, 119, 120, 121, 11, 12, 13, 14, 15, 28, 29, 30, 31, 4, 33, 34, 35, 36, 37, 38, 40, 41, 42, 43, 3, 45, 46, 47, 48, 49, 50, 122, 123, 124, 125, 126, 127, 128, 129, 130, 131, 132, 133, 16, 17, 134, 135, 136, 137, 138, 139, 140, 141, 142, 143, 144, 145, 146, 147, 148, 149, 18] rfl (by decide +kernel)) (goodIn_few (big := wsX11_net) (fun _ h9 => List.mem_cons_of_mem _ (List.mem_append_right _ h9)) gb_0)
  exact h
set_option maxRecDepth 20000 in
theorem gX11_net_X11_readClause : GoodIn wsX11_net (wsV RX11 243 RX11 yX11_readClause wsX11_readClause) := goodIn_app (goodIn_r _ [51, 52, 53, 26] rfl (by decide +kernel)) ggX11_net_X11_readClause
set_option maxRecDepth 20000 in
theorem ggX11_net_X11_takeHalf : GoodIn wsX11_net wsX11_takeHalf := goodIn_r _ [152] rfl (by decide +kernel)
set_option maxRecDepth 20000 in
theorem gX11_net_X11_takeHalf : GoodIn wsX11_net (va_wsS RX11 246 yX11_takeHalf wsX11_takeHalf) := goodIn_app (goodIn_r _ [150, 151, 26] rfl (by decide +kernel)) ggX11_net_X11_takeHalf
set_option maxRecDepth 20000 in
theorem ggX11_net_X11_tellReach : GoodIn wsX11_net wsX11_tellReach := by
  have h := goodIn_app (goodIn_r (big := wsX11_net) (.code yX11_tellReach cX11_tellReach 4 none :: ([.fieldLink RX11 73 "PathProberModel" "reach" "[I", .fieldLink RX11 53 "PathProberModel" "from" "[I", .fieldLink RX11 56 "PathProberModel" "to" "[I", .methodLink RX11 263 yX11_routers, .instanceMethod yX11_routers, .selects RX11 yX11_routers yX11_routers, .initialized RX11, .code yX11_routers cX11_routers 1 (some .int), .fieldLink RX11 34 "PathProberModel" "told" "[I", .methodLink RX11 266 yX11_links, .instanceMethod yX11_links, .selects RX11 yX11_links yX11_links, .code yX11_links cX11_links 1 (some .int)]) : List Cond) [156, 157, 16, 17, 158, 159, 160, 26, 161, 7, 162, 163, 164, 165] rfl (by decide +kernel)) (goodIn_few (big := wsX11_net) (fun _ h9 => List.mem_cons_of_mem _ (List.mem_append_right _ h9)) gb_0)
  exact h
set_option maxRecDepth 20000 in
theorem gX11_net_X11_tellReach : GoodIn wsX11_net (wsV RX11 260 RX11 yX11_tellReach wsX11_tellReach) := goodIn_app (goodIn_r _ [153, 154, 155, 26] rfl (by decide +kernel)) ggX11_net_X11_tellReach
theorem eX11_net_0q : (decode cX11_net 0 = .ok (.aload_n 0, 1)) ∧ (decode cX11_net 1 = .ok (.iconst 0, 1)) ∧ (decode cX11_net 2 = .ok (.putfield 142, 3)) ∧ (decode cX11_net 5 = .ok (.iload_n 1, 1)) ∧ (decode cX11_net 6 = .ok (.ifCond .lt 11, 3)) ∧ (decode cX11_net 9 = .ok (.iload_n 1, 1)) ∧ (decode cX11_net 10 = .ok (.aload_n 0, 1)) ∧ (decode cX11_net 11 = .ok (.getfield 145, 3)) := by decide +kernel
theorem dX11_net_0 : decode cX11_net 0 = .ok (.aload_n 0, 1) := eX11_net_0q.1
theorem dX11_net_1 : decode cX11_net 1 = .ok (.iconst 0, 1) := eX11_net_0q.2.1
theorem dX11_net_2 : decode cX11_net 2 = .ok (.putfield 142, 3) := eX11_net_0q.2.2.1
theorem dX11_net_5 : decode cX11_net 5 = .ok (.iload_n 1, 1) := eX11_net_0q.2.2.2.1
theorem dX11_net_6 : decode cX11_net 6 = .ok (.ifCond .lt 11, 3) := eX11_net_0q.2.2.2.2.1
theorem dX11_net_9 : decode cX11_net 9 = .ok (.iload_n 1, 1) := eX11_net_0q.2.2.2.2.2.1
theorem dX11_net_10 : decode cX11_net 10 = .ok (.aload_n 0, 1) := eX11_net_0q.2.2.2.2.2.2.1
theorem dX11_net_11 : decode cX11_net 11 = .ok (.getfield 145, 3) := eX11_net_0q.2.2.2.2.2.2.2
theorem eX11_net_14q : (decode cX11_net 14 = .ok (.if_icmp .le 9, 3)) ∧ (decode cX11_net 17 = .ok (.aload_n 0, 1)) ∧ (decode cX11_net 18 = .ok (.iconst 1, 1)) ∧ (decode cX11_net 19 = .ok (.invokevirtual 240, 3)) ∧ (decode cX11_net 22 = .ok (.ireturn, 1)) ∧ (decode cX11_net 23 = .ok (.aload_n 0, 1)) ∧ (decode cX11_net 24 = .ok (.iconst 0, 1)) ∧ (decode cX11_net 25 = .ok (.putfield 145, 3)) := by decide +kernel
theorem dX11_net_14 : decode cX11_net 14 = .ok (.if_icmp .le 9, 3) := eX11_net_14q.1
theorem dX11_net_17 : decode cX11_net 17 = .ok (.aload_n 0, 1) := eX11_net_14q.2.1
theorem dX11_net_18 : decode cX11_net 18 = .ok (.iconst 1, 1) := eX11_net_14q.2.2.1
theorem dX11_net_19 : decode cX11_net 19 = .ok (.invokevirtual 240, 3) := eX11_net_14q.2.2.2.1
theorem dX11_net_22 : decode cX11_net 22 = .ok (.ireturn, 1) := eX11_net_14q.2.2.2.2.1
theorem dX11_net_23 : decode cX11_net 23 = .ok (.aload_n 0, 1) := eX11_net_14q.2.2.2.2.2.1
theorem dX11_net_24 : decode cX11_net 24 = .ok (.iconst 0, 1) := eX11_net_14q.2.2.2.2.2.2.1
theorem dX11_net_25 : decode cX11_net 25 = .ok (.putfield 145, 3) := eX11_net_14q.2.2.2.2.2.2.2
theorem eX11_net_28q : (decode cX11_net 28 = .ok (.aload_n 0, 1)) ∧ (decode cX11_net 29 = .ok (.iload_n 1, 1)) ∧ (decode cX11_net 30 = .ok (.putfield 148, 3)) ∧ (decode cX11_net 33 = .ok (.aload_n 0, 1)) ∧ (decode cX11_net 34 = .ok (.iconst 0, 1)) ∧ (decode cX11_net 35 = .ok (.putfield 151, 3)) ∧ (decode cX11_net 38 = .ok (.aload_n 0, 1)) ∧ (decode cX11_net 39 = .ok (.iconst 0, 1)) := by decide +kernel
theorem dX11_net_28 : decode cX11_net 28 = .ok (.aload_n 0, 1) := eX11_net_28q.1
theorem dX11_net_29 : decode cX11_net 29 = .ok (.iload_n 1, 1) := eX11_net_28q.2.1
theorem dX11_net_30 : decode cX11_net 30 = .ok (.putfield 148, 3) := eX11_net_28q.2.2.1
theorem dX11_net_33 : decode cX11_net 33 = .ok (.aload_n 0, 1) := eX11_net_28q.2.2.2.1
theorem dX11_net_34 : decode cX11_net 34 = .ok (.iconst 0, 1) := eX11_net_28q.2.2.2.2.1
theorem dX11_net_35 : decode cX11_net 35 = .ok (.putfield 151, 3) := eX11_net_28q.2.2.2.2.2.1
theorem dX11_net_38 : decode cX11_net 38 = .ok (.aload_n 0, 1) := eX11_net_28q.2.2.2.2.2.2.1
theorem dX11_net_39 : decode cX11_net 39 = .ok (.iconst 0, 1) := eX11_net_28q.2.2.2.2.2.2.2
theorem eX11_net_40q : (decode cX11_net 40 = .ok (.putfield 184, 3)) ∧ (decode cX11_net 43 = .ok (.aload_n 0, 1)) ∧ (decode cX11_net 44 = .ok (.iconst (-1), 1)) ∧ (decode cX11_net 45 = .ok (.putfield 69, 3)) ∧ (decode cX11_net 48 = .ok (.iconst 4, 1)) ∧ (decode cX11_net 49 = .ok (.istore_n 2, 1)) ∧ (decode cX11_net 50 = .ok (.iload_n 2, 1)) ∧ (decode cX11_net 51 = .ok (.bipush 8, 2)) := by decide +kernel
theorem dX11_net_40 : decode cX11_net 40 = .ok (.putfield 184, 3) := eX11_net_40q.1
theorem dX11_net_43 : decode cX11_net 43 = .ok (.aload_n 0, 1) := eX11_net_40q.2.1
theorem dX11_net_44 : decode cX11_net 44 = .ok (.iconst (-1), 1) := eX11_net_40q.2.2.1
theorem dX11_net_45 : decode cX11_net 45 = .ok (.putfield 69, 3) := eX11_net_40q.2.2.2.1
theorem dX11_net_48 : decode cX11_net 48 = .ok (.iconst 4, 1) := eX11_net_40q.2.2.2.2.1
theorem dX11_net_49 : decode cX11_net 49 = .ok (.istore_n 2, 1) := eX11_net_40q.2.2.2.2.2.1
theorem dX11_net_50 : decode cX11_net 50 = .ok (.iload_n 2, 1) := eX11_net_40q.2.2.2.2.2.2.1
theorem dX11_net_51 : decode cX11_net 51 = .ok (.bipush 8, 2) := eX11_net_40q.2.2.2.2.2.2.2
theorem eX11_net_53q : (decode cX11_net 53 = .ok (.if_icmp .ge 26, 3)) ∧ (decode cX11_net 56 = .ok (.aload_n 0, 1)) ∧ (decode cX11_net 57 = .ok (.getfield 34, 3)) ∧ (decode cX11_net 60 = .ok (.iload_n 2, 1)) ∧ (decode cX11_net 61 = .ok (.iload_n 2, 1)) ∧ (decode cX11_net 62 = .ok (.bipush 7, 2)) ∧ (decode cX11_net 64 = .ok (.if_icmp .ne 7, 3)) ∧ (decode cX11_net 67 = .ok (.iconst (-1), 1)) := by decide +kernel
theorem dX11_net_53 : decode cX11_net 53 = .ok (.if_icmp .ge 26, 3) := eX11_net_53q.1
theorem dX11_net_56 : decode cX11_net 56 = .ok (.aload_n 0, 1) := eX11_net_53q.2.1
theorem dX11_net_57 : decode cX11_net 57 = .ok (.getfield 34, 3) := eX11_net_53q.2.2.1
theorem dX11_net_60 : decode cX11_net 60 = .ok (.iload_n 2, 1) := eX11_net_53q.2.2.2.1
theorem dX11_net_61 : decode cX11_net 61 = .ok (.iload_n 2, 1) := eX11_net_53q.2.2.2.2.1
theorem dX11_net_62 : decode cX11_net 62 = .ok (.bipush 7, 2) := eX11_net_53q.2.2.2.2.2.1
theorem dX11_net_64 : decode cX11_net 64 = .ok (.if_icmp .ne 7, 3) := eX11_net_53q.2.2.2.2.2.2.1
theorem dX11_net_67 : decode cX11_net 67 = .ok (.iconst (-1), 1) := eX11_net_53q.2.2.2.2.2.2.2
theorem eX11_net_68q : (decode cX11_net 68 = .ok (.goto 4, 3)) ∧ (decode cX11_net 71 = .ok (.iconst 0, 1)) ∧ (decode cX11_net 72 = .ok (.iastore, 1)) ∧ (decode cX11_net 73 = .ok (.iinc 2 1, 3)) ∧ (decode cX11_net 76 = .ok (.goto (-26), 3)) ∧ (decode cX11_net 79 = .ok (.aload_n 0, 1)) ∧ (decode cX11_net 80 = .ok (.invokevirtual 209, 3)) ∧ (decode cX11_net 83 = .ok (.aload_n 0, 1)) := by decide +kernel
theorem dX11_net_68 : decode cX11_net 68 = .ok (.goto 4, 3) := eX11_net_68q.1
theorem dX11_net_71 : decode cX11_net 71 = .ok (.iconst 0, 1) := eX11_net_68q.2.1
theorem dX11_net_72 : decode cX11_net 72 = .ok (.iastore, 1) := eX11_net_68q.2.2.1
theorem dX11_net_73 : decode cX11_net 73 = .ok (.iinc 2 1, 3) := eX11_net_68q.2.2.2.1
theorem dX11_net_76 : decode cX11_net 76 = .ok (.goto (-26), 3) := eX11_net_68q.2.2.2.2.1
theorem dX11_net_79 : decode cX11_net 79 = .ok (.aload_n 0, 1) := eX11_net_68q.2.2.2.2.2.1
theorem dX11_net_80 : decode cX11_net 80 = .ok (.invokevirtual 209, 3) := eX11_net_68q.2.2.2.2.2.2.1
theorem dX11_net_83 : decode cX11_net 83 = .ok (.aload_n 0, 1) := eX11_net_68q.2.2.2.2.2.2.2
theorem eX11_net_84q : (decode cX11_net 84 = .ok (.getfield 184, 3)) ∧ (decode cX11_net 87 = .ok (.ifCond .ne 17, 3)) ∧ (decode cX11_net 90 = .ok (.aload_n 0, 1)) ∧ (decode cX11_net 91 = .ok (.getfield 161, 3)) ∧ (decode cX11_net 94 = .ok (.ifCond .eq 10, 3)) ∧ (decode cX11_net 97 = .ok (.aload_n 0, 1)) ∧ (decode cX11_net 98 = .ok (.invokevirtual 243, 3)) ∧ (decode cX11_net 101 = .ok (.goto (-18), 3)) := by decide +kernel
theorem dX11_net_84 : decode cX11_net 84 = .ok (.getfield 184, 3) := eX11_net_84q.1
theorem dX11_net_87 : decode cX11_net 87 = .ok (.ifCond .ne 17, 3) := eX11_net_84q.2.1
theorem dX11_net_90 : decode cX11_net 90 = .ok (.aload_n 0, 1) := eX11_net_84q.2.2.1
theorem dX11_net_91 : decode cX11_net 91 = .ok (.getfield 161, 3) := eX11_net_84q.2.2.2.1
theorem dX11_net_94 : decode cX11_net 94 = .ok (.ifCond .eq 10, 3) := eX11_net_84q.2.2.2.2.1
theorem dX11_net_97 : decode cX11_net 97 = .ok (.aload_n 0, 1) := eX11_net_84q.2.2.2.2.2.1
theorem dX11_net_98 : decode cX11_net 98 = .ok (.invokevirtual 243, 3) := eX11_net_84q.2.2.2.2.2.2.1
theorem dX11_net_101 : decode cX11_net 101 = .ok (.goto (-18), 3) := eX11_net_84q.2.2.2.2.2.2.2
theorem eX11_net_104q : (decode cX11_net 104 = .ok (.aload_n 0, 1)) ∧ (decode cX11_net 105 = .ok (.getfield 184, 3)) ∧ (decode cX11_net 108 = .ok (.ifCond .eq 26, 3)) ∧ (decode cX11_net 111 = .ok (.aload_n 0, 1)) ∧ (decode cX11_net 112 = .ok (.aload_n 0, 1)) ∧ (decode cX11_net 113 = .ok (.getfield 187, 3)) ∧ (decode cX11_net 116 = .ok (.putfield 69, 3)) ∧ (decode cX11_net 119 = .ok (.aload_n 0, 1)) := by decide +kernel
theorem dX11_net_104 : decode cX11_net 104 = .ok (.aload_n 0, 1) := eX11_net_104q.1
theorem dX11_net_105 : decode cX11_net 105 = .ok (.getfield 184, 3) := eX11_net_104q.2.1
theorem dX11_net_108 : decode cX11_net 108 = .ok (.ifCond .eq 26, 3) := eX11_net_104q.2.2.1
theorem dX11_net_111 : decode cX11_net 111 = .ok (.aload_n 0, 1) := eX11_net_104q.2.2.2.1
theorem dX11_net_112 : decode cX11_net 112 = .ok (.aload_n 0, 1) := eX11_net_104q.2.2.2.2.1
theorem dX11_net_113 : decode cX11_net 113 = .ok (.getfield 187, 3) := eX11_net_104q.2.2.2.2.2.1
theorem dX11_net_116 : decode cX11_net 116 = .ok (.putfield 69, 3) := eX11_net_104q.2.2.2.2.2.2.1
theorem dX11_net_119 : decode cX11_net 119 = .ok (.aload_n 0, 1) := eX11_net_104q.2.2.2.2.2.2.2
theorem eX11_net_120q : (decode cX11_net 120 = .ok (.getfield 63, 3)) ∧ (decode cX11_net 123 = .ok (.iconst 0, 1)) ∧ (decode cX11_net 124 = .ok (.dup2, 1)) ∧ (decode cX11_net 125 = .ok (.iaload, 1)) ∧ (decode cX11_net 126 = .ok (.iconst 1, 1)) ∧ (decode cX11_net 127 = .ok (.iadd, 1)) ∧ (decode cX11_net 128 = .ok (.iastore, 1)) ∧ (decode cX11_net 129 = .ok (.aload_n 0, 1)) := by decide +kernel
theorem dX11_net_120 : decode cX11_net 120 = .ok (.getfield 63, 3) := eX11_net_120q.1
theorem dX11_net_123 : decode cX11_net 123 = .ok (.iconst 0, 1) := eX11_net_120q.2.1
theorem dX11_net_124 : decode cX11_net 124 = .ok (.dup2, 1) := eX11_net_120q.2.2.1
theorem dX11_net_125 : decode cX11_net 125 = .ok (.iaload, 1) := eX11_net_120q.2.2.2.1
theorem dX11_net_126 : decode cX11_net 126 = .ok (.iconst 1, 1) := eX11_net_120q.2.2.2.2.1
theorem dX11_net_127 : decode cX11_net 127 = .ok (.iadd, 1) := eX11_net_120q.2.2.2.2.2.1
theorem dX11_net_128 : decode cX11_net 128 = .ok (.iastore, 1) := eX11_net_120q.2.2.2.2.2.2.1
theorem dX11_net_129 : decode cX11_net 129 = .ok (.aload_n 0, 1) := eX11_net_120q.2.2.2.2.2.2.2
theorem eX11_net_130q : (decode cX11_net 130 = .ok (.getfield 184, 3)) ∧ (decode cX11_net 133 = .ok (.ireturn, 1)) ∧ (decode cX11_net 134 = .ok (.aload_n 0, 1)) ∧ (decode cX11_net 135 = .ok (.getfield 34, 3)) ∧ (decode cX11_net 138 = .ok (.invokestatic 246, 3)) ∧ (decode cX11_net 141 = .ok (.aload_n 0, 1)) ∧ (decode cX11_net 142 = .ok (.getfield 38, 3)) ∧ (decode cX11_net 145 = .ok (.invokestatic 246, 3)) := by decide +kernel
theorem dX11_net_130 : decode cX11_net 130 = .ok (.getfield 184, 3) := eX11_net_130q.1
theorem dX11_net_133 : decode cX11_net 133 = .ok (.ireturn, 1) := eX11_net_130q.2.1
theorem dX11_net_134 : decode cX11_net 134 = .ok (.aload_n 0, 1) := eX11_net_130q.2.2.1
theorem dX11_net_135 : decode cX11_net 135 = .ok (.getfield 34, 3) := eX11_net_130q.2.2.2.1
theorem dX11_net_138 : decode cX11_net 138 = .ok (.invokestatic 246, 3) := eX11_net_130q.2.2.2.2.1
theorem dX11_net_141 : decode cX11_net 141 = .ok (.aload_n 0, 1) := eX11_net_130q.2.2.2.2.2.1
theorem dX11_net_142 : decode cX11_net 142 = .ok (.getfield 38, 3) := eX11_net_130q.2.2.2.2.2.2.1
theorem dX11_net_145 : decode cX11_net 145 = .ok (.invokestatic 246, 3) := eX11_net_130q.2.2.2.2.2.2.2
theorem eX11_net_148q : (decode cX11_net 148 = .ok (.aload_n 0, 1)) ∧ (decode cX11_net 149 = .ok (.getfield 41, 3)) ∧ (decode cX11_net 152 = .ok (.invokestatic 246, 3)) ∧ (decode cX11_net 155 = .ok (.aload_n 0, 1)) ∧ (decode cX11_net 156 = .ok (.getfield 44, 3)) ∧ (decode cX11_net 159 = .ok (.invokestatic 246, 3)) ∧ (decode cX11_net 162 = .ok (.aload_n 0, 1)) ∧ (decode cX11_net 163 = .ok (.getfield 47, 3)) := by decide +kernel
theorem dX11_net_148 : decode cX11_net 148 = .ok (.aload_n 0, 1) := eX11_net_148q.1
theorem dX11_net_149 : decode cX11_net 149 = .ok (.getfield 41, 3) := eX11_net_148q.2.1
theorem dX11_net_152 : decode cX11_net 152 = .ok (.invokestatic 246, 3) := eX11_net_148q.2.2.1
theorem dX11_net_155 : decode cX11_net 155 = .ok (.aload_n 0, 1) := eX11_net_148q.2.2.2.1
theorem dX11_net_156 : decode cX11_net 156 = .ok (.getfield 44, 3) := eX11_net_148q.2.2.2.2.1
theorem dX11_net_159 : decode cX11_net 159 = .ok (.invokestatic 246, 3) := eX11_net_148q.2.2.2.2.2.1
theorem dX11_net_162 : decode cX11_net 162 = .ok (.aload_n 0, 1) := eX11_net_148q.2.2.2.2.2.2.1
theorem dX11_net_163 : decode cX11_net 163 = .ok (.getfield 47, 3) := eX11_net_148q.2.2.2.2.2.2.2
theorem eX11_net_166q : (decode cX11_net 166 = .ok (.invokestatic 246, 3)) ∧ (decode cX11_net 169 = .ok (.aload_n 0, 1)) ∧ (decode cX11_net 170 = .ok (.getfield 50, 3)) ∧ (decode cX11_net 173 = .ok (.invokestatic 246, 3)) ∧ (decode cX11_net 176 = .ok (.aload_n 0, 1)) ∧ (decode cX11_net 177 = .ok (.getfield 53, 3)) ∧ (decode cX11_net 180 = .ok (.invokestatic 246, 3)) ∧ (decode cX11_net 183 = .ok (.aload_n 0, 1)) := by decide +kernel
theorem dX11_net_166 : decode cX11_net 166 = .ok (.invokestatic 246, 3) := eX11_net_166q.1
theorem dX11_net_169 : decode cX11_net 169 = .ok (.aload_n 0, 1) := eX11_net_166q.2.1
theorem dX11_net_170 : decode cX11_net 170 = .ok (.getfield 50, 3) := eX11_net_166q.2.2.1
theorem dX11_net_173 : decode cX11_net 173 = .ok (.invokestatic 246, 3) := eX11_net_166q.2.2.2.1
theorem dX11_net_176 : decode cX11_net 176 = .ok (.aload_n 0, 1) := eX11_net_166q.2.2.2.2.1
theorem dX11_net_177 : decode cX11_net 177 = .ok (.getfield 53, 3) := eX11_net_166q.2.2.2.2.2.1
theorem dX11_net_180 : decode cX11_net 180 = .ok (.invokestatic 246, 3) := eX11_net_166q.2.2.2.2.2.2.1
theorem dX11_net_183 : decode cX11_net 183 = .ok (.aload_n 0, 1) := eX11_net_166q.2.2.2.2.2.2.2
theorem eX11_net_184q : (decode cX11_net 184 = .ok (.getfield 56, 3)) ∧ (decode cX11_net 187 = .ok (.invokestatic 246, 3)) ∧ (decode cX11_net 190 = .ok (.aload_n 0, 1)) ∧ (decode cX11_net 191 = .ok (.getfield 58, 3)) ∧ (decode cX11_net 194 = .ok (.invokestatic 246, 3)) ∧ (decode cX11_net 197 = .ok (.iconst 0, 1)) ∧ (decode cX11_net 198 = .ok (.istore_n 2, 1)) ∧ (decode cX11_net 199 = .ok (.iload_n 2, 1)) := by decide +kernel
theorem dX11_net_184 : decode cX11_net 184 = .ok (.getfield 56, 3) := eX11_net_184q.1
theorem dX11_net_187 : decode cX11_net 187 = .ok (.invokestatic 246, 3) := eX11_net_184q.2.1
theorem dX11_net_190 : decode cX11_net 190 = .ok (.aload_n 0, 1) := eX11_net_184q.2.2.1
theorem dX11_net_191 : decode cX11_net 191 = .ok (.getfield 58, 3) := eX11_net_184q.2.2.2.1
theorem dX11_net_194 : decode cX11_net 194 = .ok (.invokestatic 246, 3) := eX11_net_184q.2.2.2.2.1
theorem dX11_net_197 : decode cX11_net 197 = .ok (.iconst 0, 1) := eX11_net_184q.2.2.2.2.2.1
theorem dX11_net_198 : decode cX11_net 198 = .ok (.istore_n 2, 1) := eX11_net_184q.2.2.2.2.2.2.1
theorem dX11_net_199 : decode cX11_net 199 = .ok (.iload_n 2, 1) := eX11_net_184q.2.2.2.2.2.2.2
theorem eX11_net_200q : (decode cX11_net 200 = .ok (.sipush 1019, 3)) ∧ (decode cX11_net 203 = .ok (.if_icmp .ge 16, 3)) ∧ (decode cX11_net 206 = .ok (.aload_n 0, 1)) ∧ (decode cX11_net 207 = .ok (.getfield 60, 3)) ∧ (decode cX11_net 210 = .ok (.iload_n 2, 1)) ∧ (decode cX11_net 211 = .ok (.iconst 0, 1)) ∧ (decode cX11_net 212 = .ok (.iastore, 1)) ∧ (decode cX11_net 213 = .ok (.iinc 2 1, 3)) := by decide +kernel
theorem dX11_net_200 : decode cX11_net 200 = .ok (.sipush 1019, 3) := eX11_net_200q.1
theorem dX11_net_203 : decode cX11_net 203 = .ok (.if_icmp .ge 16, 3) := eX11_net_200q.2.1
theorem dX11_net_206 : decode cX11_net 206 = .ok (.aload_n 0, 1) := eX11_net_200q.2.2.1
theorem dX11_net_207 : decode cX11_net 207 = .ok (.getfield 60, 3) := eX11_net_200q.2.2.2.1
theorem dX11_net_210 : decode cX11_net 210 = .ok (.iload_n 2, 1) := eX11_net_200q.2.2.2.2.1
theorem dX11_net_211 : decode cX11_net 211 = .ok (.iconst 0, 1) := eX11_net_200q.2.2.2.2.2.1
theorem dX11_net_212 : decode cX11_net 212 = .ok (.iastore, 1) := eX11_net_200q.2.2.2.2.2.2.1
theorem dX11_net_213 : decode cX11_net 213 = .ok (.iinc 2 1, 3) := eX11_net_200q.2.2.2.2.2.2.2
theorem eX11_net_216q : (decode cX11_net 216 = .ok (.goto (-17), 3)) ∧ (decode cX11_net 219 = .ok (.aload_n 0, 1)) ∧ (decode cX11_net 220 = .ok (.getfield 60, 3)) ∧ (decode cX11_net 223 = .ok (.bipush 54, 2)) ∧ (decode cX11_net 225 = .ok (.aload_n 0, 1)) ∧ (decode cX11_net 226 = .ok (.getfield 34, 3)) ∧ (decode cX11_net 229 = .ok (.iconst 3, 1)) ∧ (decode cX11_net 230 = .ok (.iaload, 1)) := by decide +kernel
theorem dX11_net_216 : decode cX11_net 216 = .ok (.goto (-17), 3) := eX11_net_216q.1
theorem dX11_net_219 : decode cX11_net 219 = .ok (.aload_n 0, 1) := eX11_net_216q.2.1
theorem dX11_net_220 : decode cX11_net 220 = .ok (.getfield 60, 3) := eX11_net_216q.2.2.1
theorem dX11_net_223 : decode cX11_net 223 = .ok (.bipush 54, 2) := eX11_net_216q.2.2.2.1
theorem dX11_net_225 : decode cX11_net 225 = .ok (.aload_n 0, 1) := eX11_net_216q.2.2.2.2.1
theorem dX11_net_226 : decode cX11_net 226 = .ok (.getfield 34, 3) := eX11_net_216q.2.2.2.2.2.1
theorem dX11_net_229 : decode cX11_net 229 = .ok (.iconst 3, 1) := eX11_net_216q.2.2.2.2.2.2.1
theorem dX11_net_230 : decode cX11_net 230 = .ok (.iaload, 1) := eX11_net_216q.2.2.2.2.2.2.2
theorem eX11_net_231q : (decode cX11_net 231 = .ok (.iconst (-1), 1)) ∧ (decode cX11_net 232 = .ok (.if_icmp .ne 7, 3)) ∧ (decode cX11_net 235 = .ok (.iconst 5, 1)) ∧ (decode cX11_net 236 = .ok (.goto 9, 3)) ∧ (decode cX11_net 239 = .ok (.aload_n 0, 1)) ∧ (decode cX11_net 240 = .ok (.getfield 34, 3)) ∧ (decode cX11_net 243 = .ok (.iconst 3, 1)) ∧ (decode cX11_net 244 = .ok (.iaload, 1)) := by decide +kernel
theorem dX11_net_231 : decode cX11_net 231 = .ok (.iconst (-1), 1) := eX11_net_231q.1
theorem dX11_net_232 : decode cX11_net 232 = .ok (.if_icmp .ne 7, 3) := eX11_net_231q.2.1
theorem dX11_net_235 : decode cX11_net 235 = .ok (.iconst 5, 1) := eX11_net_231q.2.2.1
theorem dX11_net_236 : decode cX11_net 236 = .ok (.goto 9, 3) := eX11_net_231q.2.2.2.1
theorem dX11_net_239 : decode cX11_net 239 = .ok (.aload_n 0, 1) := eX11_net_231q.2.2.2.2.1
theorem dX11_net_240 : decode cX11_net 240 = .ok (.getfield 34, 3) := eX11_net_231q.2.2.2.2.2.1
theorem dX11_net_243 : decode cX11_net 243 = .ok (.iconst 3, 1) := eX11_net_231q.2.2.2.2.2.2.1
theorem dX11_net_244 : decode cX11_net 244 = .ok (.iaload, 1) := eX11_net_231q.2.2.2.2.2.2.2
theorem eX11_net_245q : (decode cX11_net 245 = .ok (.iastore, 1)) ∧ (decode cX11_net 246 = .ok (.aload_n 0, 1)) ∧ (decode cX11_net 247 = .ok (.iconst 0, 1)) ∧ (decode cX11_net 248 = .ok (.putfield 250, 3)) ∧ (decode cX11_net 251 = .ok (.aload_n 0, 1)) ∧ (decode cX11_net 252 = .ok (.iconst 0, 1)) ∧ (decode cX11_net 253 = .ok (.putfield 253, 3)) ∧ (decode cX11_net 256 = .ok (.aload_n 0, 1)) := by decide +kernel
theorem dX11_net_245 : decode cX11_net 245 = .ok (.iastore, 1) := eX11_net_245q.1
theorem dX11_net_246 : decode cX11_net 246 = .ok (.aload_n 0, 1) := eX11_net_245q.2.1
theorem dX11_net_247 : decode cX11_net 247 = .ok (.iconst 0, 1) := eX11_net_245q.2.2.1
theorem dX11_net_248 : decode cX11_net 248 = .ok (.putfield 250, 3) := eX11_net_245q.2.2.2.1
theorem dX11_net_251 : decode cX11_net 251 = .ok (.aload_n 0, 1) := eX11_net_245q.2.2.2.2.1
theorem dX11_net_252 : decode cX11_net 252 = .ok (.iconst 0, 1) := eX11_net_245q.2.2.2.2.2.1
theorem dX11_net_253 : decode cX11_net 253 = .ok (.putfield 253, 3) := eX11_net_245q.2.2.2.2.2.2.1
theorem dX11_net_256 : decode cX11_net 256 = .ok (.aload_n 0, 1) := eX11_net_245q.2.2.2.2.2.2.2
theorem eX11_net_257q : (decode cX11_net 257 = .ok (.iconst 0, 1)) ∧ (decode cX11_net 258 = .ok (.putfield 256, 3)) ∧ (decode cX11_net 261 = .ok (.aload_n 0, 1)) ∧ (decode cX11_net 262 = .ok (.invokevirtual 260, 3)) ∧ (decode cX11_net 265 = .ok (.iconst 0, 1)) ∧ (decode cX11_net 266 = .ok (.ireturn, 1)) := by decide +kernel
theorem dX11_net_257 : decode cX11_net 257 = .ok (.iconst 0, 1) := eX11_net_257q.1
theorem dX11_net_258 : decode cX11_net 258 = .ok (.putfield 256, 3) := eX11_net_257q.2.1
theorem dX11_net_261 : decode cX11_net 261 = .ok (.aload_n 0, 1) := eX11_net_257q.2.2.1
theorem dX11_net_262 : decode cX11_net 262 = .ok (.invokevirtual 260, 3) := eX11_net_257q.2.2.2.1
theorem dX11_net_265 : decode cX11_net 265 = .ok (.iconst 0, 1) := eX11_net_257q.2.2.2.2.1
theorem dX11_net_266 : decode cX11_net 266 = .ok (.ireturn, 1) := eX11_net_257q.2.2.2.2.2
